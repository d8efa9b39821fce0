section
-- ===== PART A: goes FIRST, ahead of the names: the tables' words, and 'selects' of the private methods out of them =====
/-- a private method of a class that the tables say can be made, by its rows of tables_1 -/
def lw_okq (q : MethodName × Nat) : Prop := (q.1.cls ≠ "java/lang/invoke/MethodHandle" ∧ q.1.cls ≠ "java/lang/invoke/VarHandle") ∧ Cond.instantiable q.1.cls q.2 ∈ tables_1 ∧ Cond.privateMethod q.1 ∈ tables_1 ∧ Cond.instanceMethod q.1 ∈ tables_1
theorem lw_p0 : lw_okq (⟨"QuakeBench", "orderLoosePicks", "()V"⟩, 8) := ⟨⟨by decide +kernel, by decide +kernel⟩, List.mem_of_getElem? (i := 32) (by decide +kernel), List.mem_of_getElem? (i := 162) (by decide +kernel), List.mem_of_getElem? (i := 163) (by decide +kernel)⟩
theorem lw_p1 : lw_okq (⟨"java/util/ArrayList", "rangeCheckForAdd", "(I)V"⟩, 3) := ⟨⟨by decide +kernel, by decide +kernel⟩, List.mem_of_getElem? (i := 40) (by decide +kernel), List.mem_of_getElem? (i := 193) (by decide +kernel), List.mem_of_getElem? (i := 194) (by decide +kernel)⟩
theorem lw_p2 : lw_okq (⟨"java/lang/Throwable", "fillInStackTrace", "(I)Ljava/lang/Throwable;"⟩, 6) := ⟨⟨by decide +kernel, by decide +kernel⟩, List.mem_of_getElem? (i := 235) (by decide +kernel), List.mem_of_getElem? (i := 233) (by decide +kernel), List.mem_of_getElem? (i := 234) (by decide +kernel)⟩
theorem lw_p3 : lw_okq (⟨"java/util/ArrayList", "outOfBoundsMsg", "(I)Ljava/lang/String;"⟩, 3) := ⟨⟨by decide +kernel, by decide +kernel⟩, List.mem_of_getElem? (i := 40) (by decide +kernel), List.mem_of_getElem? (i := 238) (by decide +kernel), List.mem_of_getElem? (i := 239) (by decide +kernel)⟩
theorem lw_p4 : lw_okq (⟨"java/util/ArrayList", "grow", "()[Ljava/lang/Object;"⟩, 3) := ⟨⟨by decide +kernel, by decide +kernel⟩, List.mem_of_getElem? (i := 40) (by decide +kernel), List.mem_of_getElem? (i := 527) (by decide +kernel), List.mem_of_getElem? (i := 528) (by decide +kernel)⟩
theorem lw_p5 : lw_okq (⟨"java/util/ArrayList", "grow", "(I)[Ljava/lang/Object;"⟩, 3) := ⟨⟨by decide +kernel, by decide +kernel⟩, List.mem_of_getElem? (i := 40) (by decide +kernel), List.mem_of_getElem? (i := 531) (by decide +kernel), List.mem_of_getElem? (i := 532) (by decide +kernel)⟩
theorem lw_p6 : lw_okq (⟨"QuakeBench", "hostFor", "(LQuakeBench$Pick;)LQuakeBench$Event;"⟩, 8) := ⟨⟨by decide +kernel, by decide +kernel⟩, List.mem_of_getElem? (i := 32) (by decide +kernel), List.mem_of_getElem? (i := 566) (by decide +kernel), List.mem_of_getElem? (i := 567) (by decide +kernel)⟩
theorem lw_p7 : lw_okq (⟨"java/util/ArrayList", "add", "(Ljava/lang/Object;[Ljava/lang/Object;I)V"⟩, 3) := ⟨⟨by decide +kernel, by decide +kernel⟩, List.mem_of_getElem? (i := 40) (by decide +kernel), List.mem_of_getElem? (i := 604) (by decide +kernel), List.mem_of_getElem? (i := 605) (by decide +kernel)⟩
theorem lw_p8 : lw_okq (⟨"QuakeBench", "gatherCompanions", "(LQuakeBench$Pick;I)V"⟩, 8) := ⟨⟨by decide +kernel, by decide +kernel⟩, List.mem_of_getElem? (i := 32) (by decide +kernel), List.mem_of_getElem? (i := 608) (by decide +kernel), List.mem_of_getElem? (i := 609) (by decide +kernel)⟩
theorem lw_p9 : lw_okq (⟨"QuakeBench", "companyHears", "(LQuakeBench$Station;)Z"⟩, 8) := ⟨⟨by decide +kernel, by decide +kernel⟩, List.mem_of_getElem? (i := 32) (by decide +kernel), List.mem_of_getElem? (i := 613) (by decide +kernel), List.mem_of_getElem? (i := 614) (by decide +kernel)⟩
theorem lw_p10 : lw_okq (⟨"QuakeBench", "openEventWithCompanions", "(LQuakeBench$Pick;)LQuakeBench$Event;"⟩, 8) := ⟨⟨by decide +kernel, by decide +kernel⟩, List.mem_of_getElem? (i := 32) (by decide +kernel), List.mem_of_getElem? (i := 618) (by decide +kernel), List.mem_of_getElem? (i := 619) (by decide +kernel)⟩
theorem lw_p11 : lw_okq (⟨"QuakeBench", "openEvent", "()LQuakeBench$Event;"⟩, 8) := ⟨⟨by decide +kernel, by decide +kernel⟩, List.mem_of_getElem? (i := 32) (by decide +kernel), List.mem_of_getElem? (i := 622) (by decide +kernel), List.mem_of_getElem? (i := 623) (by decide +kernel)⟩
theorem lw_p12 : lw_okq (⟨"QuakeBench$Search", "scan", "(LQuakeBench$Event;IIIIII)V"⟩, 8) := ⟨⟨by decide +kernel, by decide +kernel⟩, List.mem_of_getElem? (i := 102) (by decide +kernel), List.mem_of_getElem? (i := 679) (by decide +kernel), List.mem_of_getElem? (i := 680) (by decide +kernel)⟩
theorem lw_p13 : lw_okq (⟨"QuakeBench$Search", "offer", "(LQuakeBench$Event;III)V"⟩, 8) := ⟨⟨by decide +kernel, by decide +kernel⟩, List.mem_of_getElem? (i := 102) (by decide +kernel), List.mem_of_getElem? (i := 683) (by decide +kernel), List.mem_of_getElem? (i := 684) (by decide +kernel)⟩
theorem lw_p14 : lw_okq (⟨"QuakeBench", "countFound", "()I"⟩, 8) := ⟨⟨by decide +kernel, by decide +kernel⟩, List.mem_of_getElem? (i := 32) (by decide +kernel), List.mem_of_getElem? (i := 723) (by decide +kernel), List.mem_of_getElem? (i := 724) (by decide +kernel)⟩
theorem lw_p15 : lw_okq (⟨"QuakeBench", "countLoose", "()I"⟩, 8) := ⟨⟨by decide +kernel, by decide +kernel⟩, List.mem_of_getElem? (i := 32) (by decide +kernel), List.mem_of_getElem? (i := 727) (by decide +kernel), List.mem_of_getElem? (i := 728) (by decide +kernel)⟩
def lw_privs_1 : List (MethodName × Nat) := [(⟨"QuakeBench", "orderLoosePicks", "()V"⟩, 8), (⟨"java/util/ArrayList", "rangeCheckForAdd", "(I)V"⟩, 3), (⟨"java/lang/Throwable", "fillInStackTrace", "(I)Ljava/lang/Throwable;"⟩, 6), (⟨"java/util/ArrayList", "outOfBoundsMsg", "(I)Ljava/lang/String;"⟩, 3), (⟨"java/util/ArrayList", "grow", "()[Ljava/lang/Object;"⟩, 3), (⟨"java/util/ArrayList", "grow", "(I)[Ljava/lang/Object;"⟩, 3), (⟨"QuakeBench", "hostFor", "(LQuakeBench$Pick;)LQuakeBench$Event;"⟩, 8), (⟨"java/util/ArrayList", "add", "(Ljava/lang/Object;[Ljava/lang/Object;I)V"⟩, 3), (⟨"QuakeBench", "gatherCompanions", "(LQuakeBench$Pick;I)V"⟩, 8), (⟨"QuakeBench", "companyHears", "(LQuakeBench$Station;)Z"⟩, 8), (⟨"QuakeBench", "openEventWithCompanions", "(LQuakeBench$Pick;)LQuakeBench$Event;"⟩, 8), (⟨"QuakeBench", "openEvent", "()LQuakeBench$Event;"⟩, 8), (⟨"QuakeBench$Search", "scan", "(LQuakeBench$Event;IIIIII)V"⟩, 8), (⟨"QuakeBench$Search", "offer", "(LQuakeBench$Event;III)V"⟩, 8), (⟨"QuakeBench", "countFound", "()I"⟩, 8), (⟨"QuakeBench", "countLoose", "()I"⟩, 8)]
theorem lw_r1 : ∀ q ∈ lw_privs_1, lw_okq q := List.forall_mem_cons.mpr ⟨lw_p0, List.forall_mem_cons.mpr ⟨lw_p1, List.forall_mem_cons.mpr ⟨lw_p2, List.forall_mem_cons.mpr ⟨lw_p3, List.forall_mem_cons.mpr ⟨lw_p4, List.forall_mem_cons.mpr ⟨lw_p5, List.forall_mem_cons.mpr ⟨lw_p6, List.forall_mem_cons.mpr ⟨lw_p7, List.forall_mem_cons.mpr ⟨lw_p8, List.forall_mem_cons.mpr ⟨lw_p9, List.forall_mem_cons.mpr ⟨lw_p10, List.forall_mem_cons.mpr ⟨lw_p11, List.forall_mem_cons.mpr ⟨lw_p12, List.forall_mem_cons.mpr ⟨lw_p13, List.forall_mem_cons.mpr ⟨lw_p14, List.forall_mem_cons.mpr ⟨lw_p15, fun _ h => absurd h List.not_mem_nil⟩⟩⟩⟩⟩⟩⟩⟩⟩⟩⟩⟩⟩⟩⟩⟩
theorem lw_p16 : lw_okq (⟨"QuakeBench", "digestEvent", "(JLQuakeBench$Event;)J"⟩, 8) := ⟨⟨by decide +kernel, by decide +kernel⟩, List.mem_of_getElem? (i := 32) (by decide +kernel), List.mem_of_getElem? (i := 741) (by decide +kernel), List.mem_of_getElem? (i := 742) (by decide +kernel)⟩
theorem lw_p17 : lw_okq (⟨"QuakeBench", "gapOf", "(LQuakeBench$Event;)I"⟩, 8) := ⟨⟨by decide +kernel, by decide +kernel⟩, List.mem_of_getElem? (i := 32) (by decide +kernel), List.mem_of_getElem? (i := 745) (by decide +kernel), List.mem_of_getElem? (i := 746) (by decide +kernel)⟩
theorem lw_p18 : lw_okq (⟨"QuakeBench", "magnitudeOf", "(LQuakeBench$Event;)I"⟩, 8) := ⟨⟨by decide +kernel, by decide +kernel⟩, List.mem_of_getElem? (i := 32) (by decide +kernel), List.mem_of_getElem? (i := 759) (by decide +kernel), List.mem_of_getElem? (i := 760) (by decide +kernel)⟩
theorem lw_p19 : lw_okq (⟨"QuakeBench", "stationAt", "(I)LQuakeBench$Station;"⟩, 8) := ⟨⟨by decide +kernel, by decide +kernel⟩, List.mem_of_getElem? (i := 32) (by decide +kernel), List.mem_of_getElem? (i := 828) (by decide +kernel), List.mem_of_getElem? (i := 829) (by decide +kernel)⟩
theorem lw_p20 : lw_okq (⟨"QuakeBench", "pickAt", "(I)LQuakeBench$Pick;"⟩, 8) := ⟨⟨by decide +kernel, by decide +kernel⟩, List.mem_of_getElem? (i := 32) (by decide +kernel), List.mem_of_getElem? (i := 927) (by decide +kernel), List.mem_of_getElem? (i := 928) (by decide +kernel)⟩
theorem lw_p21 : lw_okq (⟨"QuakeBench", "eventAt", "(I)LQuakeBench$Event;"⟩, 8) := ⟨⟨by decide +kernel, by decide +kernel⟩, List.mem_of_getElem? (i := 32) (by decide +kernel), List.mem_of_getElem? (i := 956) (by decide +kernel), List.mem_of_getElem? (i := 957) (by decide +kernel)⟩
theorem lw_p22 : lw_okq (⟨"java/util/ArrayList", "fastRemove", "([Ljava/lang/Object;I)V"⟩, 3) := ⟨⟨by decide +kernel, by decide +kernel⟩, List.mem_of_getElem? (i := 40) (by decide +kernel), List.mem_of_getElem? (i := 970) (by decide +kernel), List.mem_of_getElem? (i := 971) (by decide +kernel)⟩
theorem lw_p23 : lw_okq (⟨"QuakeBench", "labelFamilies", "(II)V"⟩, 8) := ⟨⟨by decide +kernel, by decide +kernel⟩, List.mem_of_getElem? (i := 32) (by decide +kernel), List.mem_of_getElem? (i := 1077) (by decide +kernel), List.mem_of_getElem? (i := 1078) (by decide +kernel)⟩
theorem lw_p24 : lw_okq (⟨"QuakeBench", "joinLabels", "(II)V"⟩, 8) := ⟨⟨by decide +kernel, by decide +kernel⟩, List.mem_of_getElem? (i := 32) (by decide +kernel), List.mem_of_getElem? (i := 1090) (by decide +kernel), List.mem_of_getElem? (i := 1091) (by decide +kernel)⟩
theorem lw_p25 : lw_okq (⟨"QuakeBenchModel", "no", "(I)I"⟩, 19) := ⟨⟨by decide +kernel, by decide +kernel⟩, List.mem_of_getElem? (i := 1111) (by decide +kernel), List.mem_of_getElem? (i := 1187) (by decide +kernel), List.mem_of_getElem? (i := 1188) (by decide +kernel)⟩
theorem lw_p26 : lw_okq (⟨"QuakeBenchModel", "isStation", "(I)Z"⟩, 19) := ⟨⟨by decide +kernel, by decide +kernel⟩, List.mem_of_getElem? (i := 1111) (by decide +kernel), List.mem_of_getElem? (i := 1195) (by decide +kernel), List.mem_of_getElem? (i := 1196) (by decide +kernel)⟩
theorem lw_p27 : lw_okq (⟨"QuakeBenchModel", "wayOf", "(IIII)I"⟩, 19) := ⟨⟨by decide +kernel, by decide +kernel⟩, List.mem_of_getElem? (i := 1111) (by decide +kernel), List.mem_of_getElem? (i := 1210) (by decide +kernel), List.mem_of_getElem? (i := 1211) (by decide +kernel)⟩
theorem lw_p28 : lw_okq (⟨"QuakeBenchModel", "needed", "(IIIIZ)I"⟩, 19) := ⟨⟨by decide +kernel, by decide +kernel⟩, List.mem_of_getElem? (i := 1111) (by decide +kernel), List.mem_of_getElem? (i := 1221) (by decide +kernel), List.mem_of_getElem? (i := 1222) (by decide +kernel)⟩
theorem lw_p29 : lw_okq (⟨"QuakeBenchModel", "isPick", "(I)Z"⟩, 19) := ⟨⟨by decide +kernel, by decide +kernel⟩, List.mem_of_getElem? (i := 1111) (by decide +kernel), List.mem_of_getElem? (i := 1234) (by decide +kernel), List.mem_of_getElem? (i := 1235) (by decide +kernel)⟩
theorem lw_p30 : lw_okq (⟨"QuakeBenchModel", "lose", "(I)V"⟩, 19) := ⟨⟨by decide +kernel, by decide +kernel⟩, List.mem_of_getElem? (i := 1111) (by decide +kernel), List.mem_of_getElem? (i := 1238) (by decide +kernel), List.mem_of_getElem? (i := 1239) (by decide +kernel)⟩
theorem lw_p31 : lw_okq (⟨"QuakeBenchModel", "told", "(II)I"⟩, 19) := ⟨⟨by decide +kernel, by decide +kernel⟩, List.mem_of_getElem? (i := 1111) (by decide +kernel), List.mem_of_getElem? (i := 1246) (by decide +kernel), List.mem_of_getElem? (i := 1247) (by decide +kernel)⟩
def lw_privs_2 : List (MethodName × Nat) := [(⟨"QuakeBench", "digestEvent", "(JLQuakeBench$Event;)J"⟩, 8), (⟨"QuakeBench", "gapOf", "(LQuakeBench$Event;)I"⟩, 8), (⟨"QuakeBench", "magnitudeOf", "(LQuakeBench$Event;)I"⟩, 8), (⟨"QuakeBench", "stationAt", "(I)LQuakeBench$Station;"⟩, 8), (⟨"QuakeBench", "pickAt", "(I)LQuakeBench$Pick;"⟩, 8), (⟨"QuakeBench", "eventAt", "(I)LQuakeBench$Event;"⟩, 8), (⟨"java/util/ArrayList", "fastRemove", "([Ljava/lang/Object;I)V"⟩, 3), (⟨"QuakeBench", "labelFamilies", "(II)V"⟩, 8), (⟨"QuakeBench", "joinLabels", "(II)V"⟩, 8), (⟨"QuakeBenchModel", "no", "(I)I"⟩, 19), (⟨"QuakeBenchModel", "isStation", "(I)Z"⟩, 19), (⟨"QuakeBenchModel", "wayOf", "(IIII)I"⟩, 19), (⟨"QuakeBenchModel", "needed", "(IIIIZ)I"⟩, 19), (⟨"QuakeBenchModel", "isPick", "(I)Z"⟩, 19), (⟨"QuakeBenchModel", "lose", "(I)V"⟩, 19), (⟨"QuakeBenchModel", "told", "(II)I"⟩, 19)]
theorem lw_r2 : ∀ q ∈ lw_privs_2, lw_okq q := List.forall_mem_cons.mpr ⟨lw_p16, List.forall_mem_cons.mpr ⟨lw_p17, List.forall_mem_cons.mpr ⟨lw_p18, List.forall_mem_cons.mpr ⟨lw_p19, List.forall_mem_cons.mpr ⟨lw_p20, List.forall_mem_cons.mpr ⟨lw_p21, List.forall_mem_cons.mpr ⟨lw_p22, List.forall_mem_cons.mpr ⟨lw_p23, List.forall_mem_cons.mpr ⟨lw_p24, List.forall_mem_cons.mpr ⟨lw_p25, List.forall_mem_cons.mpr ⟨lw_p26, List.forall_mem_cons.mpr ⟨lw_p27, List.forall_mem_cons.mpr ⟨lw_p28, List.forall_mem_cons.mpr ⟨lw_p29, List.forall_mem_cons.mpr ⟨lw_p30, List.forall_mem_cons.mpr ⟨lw_p31, fun _ h => absurd h List.not_mem_nil⟩⟩⟩⟩⟩⟩⟩⟩⟩⟩⟩⟩⟩⟩⟩⟩
theorem lw_p32 : lw_okq (⟨"QuakeBenchModel", "isEvent", "(I)Z"⟩, 19) := ⟨⟨by decide +kernel, by decide +kernel⟩, List.mem_of_getElem? (i := 1111) (by decide +kernel), List.mem_of_getElem? (i := 1258) (by decide +kernel), List.mem_of_getElem? (i := 1259) (by decide +kernel)⟩
theorem lw_p33 : lw_okq (⟨"QuakeBenchModel", "hasAlike", "(II)Z"⟩, 19) := ⟨⟨by decide +kernel, by decide +kernel⟩, List.mem_of_getElem? (i := 1111) (by decide +kernel), List.mem_of_getElem? (i := 1262) (by decide +kernel), List.mem_of_getElem? (i := 1263) (by decide +kernel)⟩
theorem lw_p34 : lw_okq (⟨"QuakeBenchModel", "isAhead", "(II)Z"⟩, 19) := ⟨⟨by decide +kernel, by decide +kernel⟩, List.mem_of_getElem? (i := 1111) (by decide +kernel), List.mem_of_getElem? (i := 1270) (by decide +kernel), List.mem_of_getElem? (i := 1271) (by decide +kernel)⟩
theorem lw_p35 : lw_okq (⟨"QuakeBenchModel", "nearestFor", "(I)I"⟩, 19) := ⟨⟨by decide +kernel, by decide +kernel⟩, List.mem_of_getElem? (i := 1111) (by decide +kernel), List.mem_of_getElem? (i := 1274) (by decide +kernel), List.mem_of_getElem? (i := 1275) (by decide +kernel)⟩
theorem lw_p36 : lw_okq (⟨"QuakeBenchModel", "startOf", "(IIII)I"⟩, 19) := ⟨⟨by decide +kernel, by decide +kernel⟩, List.mem_of_getElem? (i := 1111) (by decide +kernel), List.mem_of_getElem? (i := 1278) (by decide +kernel), List.mem_of_getElem? (i := 1279) (by decide +kernel)⟩
theorem lw_p37 : lw_okq (⟨"QuakeBenchModel", "gather", "(I)I"⟩, 19) := ⟨⟨by decide +kernel, by decide +kernel⟩, List.mem_of_getElem? (i := 1111) (by decide +kernel), List.mem_of_getElem? (i := 1283) (by decide +kernel), List.mem_of_getElem? (i := 1284) (by decide +kernel)⟩
theorem lw_p38 : lw_okq (⟨"QuakeBenchModel", "look", "(I)J"⟩, 19) := ⟨⟨by decide +kernel, by decide +kernel⟩, List.mem_of_getElem? (i := 1111) (by decide +kernel), List.mem_of_getElem? (i := 1288) (by decide +kernel), List.mem_of_getElem? (i := 1289) (by decide +kernel)⟩
theorem lw_p39 : lw_okq (⟨"QuakeBenchModel", "misfitAt", "(IIII)J"⟩, 19) := ⟨⟨by decide +kernel, by decide +kernel⟩, List.mem_of_getElem? (i := 1111) (by decide +kernel), List.mem_of_getElem? (i := 1293) (by decide +kernel), List.mem_of_getElem? (i := 1294) (by decide +kernel)⟩
theorem lw_p40 : lw_okq (⟨"QuakeBenchModel", "isMiddle", "(III)Z"⟩, 19) := ⟨⟨by decide +kernel, by decide +kernel⟩, List.mem_of_getElem? (i := 1111) (by decide +kernel), List.mem_of_getElem? (i := 1297) (by decide +kernel), List.mem_of_getElem? (i := 1298) (by decide +kernel)⟩
theorem lw_p41 : lw_okq (⟨"QuakeBenchModel", "counted", "(I)I"⟩, 19) := ⟨⟨by decide +kernel, by decide +kernel⟩, List.mem_of_getElem? (i := 1111) (by decide +kernel), List.mem_of_getElem? (i := 1306) (by decide +kernel), List.mem_of_getElem? (i := 1307) (by decide +kernel)⟩
theorem lw_p42 : lw_okq (⟨"QuakeBenchModel", "foundEvents", "()I"⟩, 19) := ⟨⟨by decide +kernel, by decide +kernel⟩, List.mem_of_getElem? (i := 1111) (by decide +kernel), List.mem_of_getElem? (i := 1310) (by decide +kernel), List.mem_of_getElem? (i := 1311) (by decide +kernel)⟩
theorem lw_p43 : lw_okq (⟨"QuakeBenchModel", "picksOf", "(I)I"⟩, 19) := ⟨⟨by decide +kernel, by decide +kernel⟩, List.mem_of_getElem? (i := 1111) (by decide +kernel), List.mem_of_getElem? (i := 1314) (by decide +kernel), List.mem_of_getElem? (i := 1315) (by decide +kernel)⟩
theorem lw_p44 : lw_okq (⟨"QuakeBenchModel", "stationsOf", "(I)I"⟩, 19) := ⟨⟨by decide +kernel, by decide +kernel⟩, List.mem_of_getElem? (i := 1111) (by decide +kernel), List.mem_of_getElem? (i := 1322) (by decide +kernel), List.mem_of_getElem? (i := 1323) (by decide +kernel)⟩
theorem lw_p45 : lw_okq (⟨"QuakeBenchModel", "hasStation", "(II)Z"⟩, 19) := ⟨⟨by decide +kernel, by decide +kernel⟩, List.mem_of_getElem? (i := 1111) (by decide +kernel), List.mem_of_getElem? (i := 1326) (by decide +kernel), List.mem_of_getElem? (i := 1327) (by decide +kernel)⟩
theorem lw_p46 : lw_okq (⟨"QuakeBenchModel", "residualOf", "(I)I"⟩, 19) := ⟨⟨by decide +kernel, by decide +kernel⟩, List.mem_of_getElem? (i := 1111) (by decide +kernel), List.mem_of_getElem? (i := 1342) (by decide +kernel), List.mem_of_getElem? (i := 1343) (by decide +kernel)⟩
theorem lw_p47 : lw_okq (⟨"QuakeBenchModel", "gapOf", "(I)I"⟩, 19) := ⟨⟨by decide +kernel, by decide +kernel⟩, List.mem_of_getElem? (i := 1111) (by decide +kernel), List.mem_of_getElem? (i := 1358) (by decide +kernel), List.mem_of_getElem? (i := 1359) (by decide +kernel)⟩
def lw_privs_3 : List (MethodName × Nat) := [(⟨"QuakeBenchModel", "isEvent", "(I)Z"⟩, 19), (⟨"QuakeBenchModel", "hasAlike", "(II)Z"⟩, 19), (⟨"QuakeBenchModel", "isAhead", "(II)Z"⟩, 19), (⟨"QuakeBenchModel", "nearestFor", "(I)I"⟩, 19), (⟨"QuakeBenchModel", "startOf", "(IIII)I"⟩, 19), (⟨"QuakeBenchModel", "gather", "(I)I"⟩, 19), (⟨"QuakeBenchModel", "look", "(I)J"⟩, 19), (⟨"QuakeBenchModel", "misfitAt", "(IIII)J"⟩, 19), (⟨"QuakeBenchModel", "isMiddle", "(III)Z"⟩, 19), (⟨"QuakeBenchModel", "counted", "(I)I"⟩, 19), (⟨"QuakeBenchModel", "foundEvents", "()I"⟩, 19), (⟨"QuakeBenchModel", "picksOf", "(I)I"⟩, 19), (⟨"QuakeBenchModel", "stationsOf", "(I)I"⟩, 19), (⟨"QuakeBenchModel", "hasStation", "(II)Z"⟩, 19), (⟨"QuakeBenchModel", "residualOf", "(I)I"⟩, 19), (⟨"QuakeBenchModel", "gapOf", "(I)I"⟩, 19)]
theorem lw_r3 : ∀ q ∈ lw_privs_3, lw_okq q := List.forall_mem_cons.mpr ⟨lw_p32, List.forall_mem_cons.mpr ⟨lw_p33, List.forall_mem_cons.mpr ⟨lw_p34, List.forall_mem_cons.mpr ⟨lw_p35, List.forall_mem_cons.mpr ⟨lw_p36, List.forall_mem_cons.mpr ⟨lw_p37, List.forall_mem_cons.mpr ⟨lw_p38, List.forall_mem_cons.mpr ⟨lw_p39, List.forall_mem_cons.mpr ⟨lw_p40, List.forall_mem_cons.mpr ⟨lw_p41, List.forall_mem_cons.mpr ⟨lw_p42, List.forall_mem_cons.mpr ⟨lw_p43, List.forall_mem_cons.mpr ⟨lw_p44, List.forall_mem_cons.mpr ⟨lw_p45, List.forall_mem_cons.mpr ⟨lw_p46, List.forall_mem_cons.mpr ⟨lw_p47, fun _ h => absurd h List.not_mem_nil⟩⟩⟩⟩⟩⟩⟩⟩⟩⟩⟩⟩⟩⟩⟩⟩
theorem lw_p48 : lw_okq (⟨"QuakeBenchModel", "magnitudeOf", "(I)I"⟩, 19) := ⟨⟨by decide +kernel, by decide +kernel⟩, List.mem_of_getElem? (i := 1111) (by decide +kernel), List.mem_of_getElem? (i := 1375) (by decide +kernel), List.mem_of_getElem? (i := 1376) (by decide +kernel)⟩
theorem lw_p49 : lw_okq (⟨"QuakeBenchModel", "sizeBy", "(I)I"⟩, 19) := ⟨⟨by decide +kernel, by decide +kernel⟩, List.mem_of_getElem? (i := 1111) (by decide +kernel), List.mem_of_getElem? (i := 1379) (by decide +kernel), List.mem_of_getElem? (i := 1380) (by decide +kernel)⟩
theorem lw_p50 : lw_okq (⟨"QuakeBenchModel", "heads", "(II)[I"⟩, 19) := ⟨⟨by decide +kernel, by decide +kernel⟩, List.mem_of_getElem? (i := 1111) (by decide +kernel), List.mem_of_getElem? (i := 1390) (by decide +kernel), List.mem_of_getElem? (i := 1391) (by decide +kernel)⟩
theorem lw_p51 : lw_okq (⟨"QuakeBenchModel", "areRelated", "(IIII)Z"⟩, 19) := ⟨⟨by decide +kernel, by decide +kernel⟩, List.mem_of_getElem? (i := 1111) (by decide +kernel), List.mem_of_getElem? (i := 1394) (by decide +kernel), List.mem_of_getElem? (i := 1395) (by decide +kernel)⟩
theorem lw_p52 : lw_okq (⟨"QuakeBenchModel", "off", "(IIII)I"⟩, 19) := ⟨⟨by decide +kernel, by decide +kernel⟩, List.mem_of_getElem? (i := 1111) (by decide +kernel), List.mem_of_getElem? (i := 1398) (by decide +kernel), List.mem_of_getElem? (i := 1399) (by decide +kernel)⟩
def lw_privs_4 : List (MethodName × Nat) := [(⟨"QuakeBenchModel", "magnitudeOf", "(I)I"⟩, 19), (⟨"QuakeBenchModel", "sizeBy", "(I)I"⟩, 19), (⟨"QuakeBenchModel", "heads", "(II)[I"⟩, 19), (⟨"QuakeBenchModel", "areRelated", "(IIII)Z"⟩, 19), (⟨"QuakeBenchModel", "off", "(IIII)I"⟩, 19)]
theorem lw_r4 : ∀ q ∈ lw_privs_4, lw_okq q := List.forall_mem_cons.mpr ⟨lw_p48, List.forall_mem_cons.mpr ⟨lw_p49, List.forall_mem_cons.mpr ⟨lw_p50, List.forall_mem_cons.mpr ⟨lw_p51, List.forall_mem_cons.mpr ⟨lw_p52, fun _ h => absurd h List.not_mem_nil⟩⟩⟩⟩⟩
def lw_privs : List (MethodName × Nat) := lw_privs_1 ++ (lw_privs_2 ++ (lw_privs_3 ++ (lw_privs_4)))
def lw_tbl : List Cond := k2_sels lw_privs ++ tables_1
theorem lw_privs_ok : ∀ q ∈ lw_privs, lw_okq q := by
  show ∀ q ∈ lw_privs_1 ++ (lw_privs_2 ++ (lw_privs_3 ++ (lw_privs_4))), lw_okq q
  exact List.forall_mem_append.mpr ⟨lw_r1, List.forall_mem_append.mpr ⟨lw_r2, List.forall_mem_append.mpr ⟨lw_r3, lw_r4⟩⟩⟩
/-- the streams that the claim lets the run draw from -/
abbrev lw_cs : List Choice := [Jvm.Choice.named "NaN.bits"]
theorem lw_bits : nanBits ∈ lw_cs := by first | decide | exact List.mem_cons_self | simp [lw_cs, nanBits]
end
section
/-! ===== BEGIN words of one list among another's, by their places ===== -/
theorem goodIn_r {big : List Cond} (ws : List Cond) (ps : List Nat) (hp : ws = ps.filterMap (fun i => big[i]?)) (h : ws.all goodWord = true) : GoodIn big ws := by
  intro w hw
  have h1 := List.all_eq_true.mp h w hw
  rw [hp] at hw
  obtain ⟨i, -, hi⟩ := List.mem_filterMap.mp hw
  have hm : w ∈ big := by first | exact List.mem_of_getElem? hi | exact List.getElem?_mem hi
  exact ⟨hm, good_of_word h1⟩
theorem goodIn_app {big a b : List Cond} (ha : GoodIn big a) (hb : GoodIn big b) : GoodIn big (a ++ b) := fun w h => (List.mem_append.mp h).elim (ha w) (hb w)
theorem goodIn_ca {big a b : List Cond} {c : Cond} (ha : GoodIn big (c :: a)) (hb : GoodIn big b) : GoodIn big (c :: (a ++ b)) := fun w h => (List.mem_cons.mp h).elim (fun e => ha w (List.mem_cons.mpr (Or.inl e))) (fun h => (List.mem_append.mp h).elim (fun h => ha w (List.mem_cons.mpr (Or.inr h))) (hb w))
theorem goodIn_sub {big ws : List Cond} (hm : ∀ w ∈ ws, w ∈ big) (h : ws.all goodWord = true) : GoodIn big ws := fun w hw => ⟨hm w hw, good_of_word (List.all_eq_true.mp h w hw)⟩
/-! ===== END ===== -/

/-! ===== BEGIN exceptions that leave a method, and their catching by the caller (launches without stack traces) ===== -/
section VXA
/-! The laws vx_back, vx_callV, vx_callS, vx_callSW, vx_throw0, vx_throwS follow proofs of the library, with one case more: JvmDerived/Free/Laws.lean (Back.of_free), Shelf42/LK1.lean (callV, callS), Shelf/KitTraced.lean (throwNew0V, throwNewS). -/
/-- where a method has thrown q: the class by its name, the cell, what was written, the world -/
def vx_T (XC : String → State → State → Prop) (st : State) (q : Addr) (t : State) (mc ms : Nat) (free : Addr → Prop) : Prop :=
  ∃ (E : String) (ce : Cell) (L : List Loc), XC E st t ∧ t.heap[q]? = some ce ∧ ce.vm = .none ∧ st.vm.findClass E = some ce.cls ∧ st.WarmedH t.vm ∧ st.sameButNew ({ t with vm := st.vm } : State) L mc ms ∧ ∀ z ∈ L, free z.base
def vx_Q (Qc : Array Value → State → Outcome → State → Prop) (XC : String → State → State → Prop) (mc ms : Nat) (free : Addr → Prop) : Array Value → State → Outcome → State → Prop := fun a st o t =>
  (Qc a st o t ∧ ∃ L, FrameEnd st o t L mc ms ∧ ∀ q ∈ L, free q.base) ∨ ∃ q, o = .threw q ∧ vx_T XC st q t mc ms free
/-- a callee that returns or throws -/
def vx_Met (l : Launch) (y : MethodName) (ws : List Cond) (rm : Room) (Pc : Array Value → State → Prop) (Qc : Array Value → State → Outcome → State → Prop) (XC : String → State → State → Prop) (mc ms : Nat) (free : Addr → Prop) : Prop :=
  MetFree l y (headSpec ws rm) Pc (fun _ _ _ _ _ => True) (vx_Q Qc XC mc ms free)
def vx_Post (XC : String → State → State → Prop) (mc ms : Nat) (free : Addr → Prop) : Pt → Array Value → Addr → Pt → Prop := fun A a q B =>
  ∃ (g : JFrame) (mk : MethodId) (t : State) (L : List Loc) (E : String) (ce : Cell), B.U.heap = t.heap ∧ B.U.vm = t.vm ∧ XC E (A.U.calling g mk a) t ∧ t.heap[q]? = some ce ∧ ce.vm = .none ∧ A.U.vm.findClass E = some ce.cls ∧ B.locs = A.locs ++ L ∧ (∀ z ∈ L, free z.base) ∧ B.cells = A.cells + mc ∧ B.slots = A.slots + ms
def vx_Back (l : Launch) (R : Room) (p : Program) (e : Env) (below : List Frame) (s : State) (sargs : Array Value) (y : MethodName) (len W9 : Nat)
    (Pre : Pt → Array Value → Prop) (Post : Pt → Array Value → Option Value → Pt → Prop) (PostX : Pt → Array Value → Addr → Pt → Prop) : Prop :=
  ∀ (m : MethodId) (meth : Method) (c : Code) (A : Pt) (g : JFrame) (ig : Instr) (mk : MethodId) (a : Array Value),
    Stand p l e R s m sargs below meth c A.U A.locs A.cells A.slots → g.method = m → g.locals.size = c.maxLocals → decode c.code g.pc = .ok (ig, len) →
    2 * g.monitorRoom + (g.stack.map fun v => v.category).sum ≤ W9 → A.U.methodNamed? y = some mk → Pre A a →
    (∃ (v : Option Value) (B : Pt), Stand p l e R s m sargs below meth c B.U B.locs B.cells B.slots ∧ Post A a v B ∧
      Steps p.tables e below (doInvoke e (A.U.setTop g) [] mk a).1 (B.U.setTop { g with pc := g.pc + len, stack := v.toList ++ g.stack })) ∨
    (∃ (q : Addr) (B : Pt), Stand p l e R s m sargs below meth c B.U B.locs B.cells B.slots ∧ PostX A a q B ∧
      Steps p.tables e below (doInvoke e (A.U.setTop g) [] mk a).1 ((B.U.setTop g).pushFrame (.throwing q)))
section Payer
variable {l : Launch} {R : Room} {p : Program} {e : Env} {below : List Frame} {s : State} {sargs : Array Value} {y : MethodName} {len W9 : Nat}
theorem vx_back {ws : List Cond} {rm : Room} {Pc : Array Value → State → Prop} {Qc : Array Value → State → Outcome → State → Prop} {XC : String → State → State → Prop} {mc ms : Nat} {free : Addr → Prop} {bytes : ByteArray} {maxL : Nat} {ret : Option FieldType}
    (hM : vx_Met l y ws rm Pc Qc XC mc ms free) (hblind : FrameBlind Pc) (hrc : rm.cells = mc) (hrs : rm.slots = ms)
    (hframes : rm.frames + 1 ≤ R.frames) (hlocals : W9 + (maxL + 11) + rm.locals ≤ R.locals)
    (hws : ∀ w ∈ ws, ∀ a' U, s.WarmedH U.vm → w.before a' U = true) (hcode : Cond.code y bytes maxL ret ∈ ws) (hinit : ∀ a' U, s.WarmedH U.vm → (Cond.initialized y.cls).before a' U = true) :
    vx_Back l R p e below s sargs y len W9 (PreOf R mc ms Pc) (PostOf Qc mc ms free) (vx_Post XC mc ms free) := by
  intro m meth c A g ig mk a X hg hsize hdg hW hn hp
  have h1 : (headSpec ws rm).pre.before a A.U = true := atoms_intro fun w hw => hws w hw _ _ X.warmed
  have h2 : (Cond.code y bytes maxL ret).before a A.U = true := hws _ hcode _ _ X.warmed
  have h3 : (Cond.initialized y.cls).before a A.U = true := hinit _ _ X.warmed
  have h4 : A.cells + (headSpec ws rm).room.cells ≤ R.cells := by rw [show (headSpec ws rm).room.cells = mc from hrc]; exact hp.1
  have h5 : A.slots + (headSpec ws rm).room.slots ≤ R.slots := by rw [show (headSpec ws rm).room.slots = ms from hrs]; exact hp.2.1
  have hPc : Pc a (A.U.calling g mk a) := hblind _ _ _ _ hp.2.2
  obtain ⟨U, Ls, c0, s0⟩ := A
  dsimp only [Pt.U, Pt.locs, Pt.cells, Pt.slots] at h1 h2 h3 h4 h5 X hn hPc ⊢
  obtain ⟨methY, cY, hmY, hcY, -, hlY, -, -, -, -⟩ := Cond.code_spec hn h2
  obtain ⟨kY, hkY, -⟩ := className_of_methodNamed hn
  have hinitY : kY.init = .initialized := Cond.initialized_spec (findClass_of_methodNamed hn) hkY h3
  have h : At U g.method c below := by rw [hg]; exact X.here
  have hlocals9 : W9 + (maxL + 11) + (headSpec ws rm).room.locals ≤ R.locals := hlocals
  have happ : (headSpec ws rm).appliesLoose y e.platform (U.calling g mk a) = true :=
    Spec.appliesLoose_calling (g := g) h hdg hn hkY hinitY
      (X.room_calling (g := g) (R' := (headSpec ws rm).room) hsize hmY hcY hframes (by rw [hlY]; omega) h4 h5) h1
  obtain ⟨mid, hmid⟩ := h.above
  have hfr : (U.setTop g).frames = (.java g :: mid) ++ below := by rw [State.frames_setTop' g h.top, hmid]; rfl
  obtain ⟨o, s₂, hsteps, -, hend, hq⟩ := Steps.callFree hM p X.admits X.cas X.clock (acts := []) hfr happ hPc trivial
  have hq' : vx_Q Qc XC mc ms free a (U.calling g mk a) o s₂ := hq
  rw [State.frames_setTop' g h.top] at hend
  obtain ⟨g₀, hg0⟩ := Option.isSome_iff_exists.mp h.top
  obtain ⟨r, hr⟩ := State.topJava?_eq_some.mp hg0
  have hr' : (({ U with heap := s₂.heap, slotsUsed := s₂.slotsUsed } : State).setVm s₂.vm).frames = .java g₀ :: r := hr
  rcases hq' with ⟨hqc, L, hfe, hL⟩ | ⟨q, rfl, E, ce, L, hx, hce, hcv, hcl, hW₂, hsm, hL⟩
  · obtain ⟨⟨v, rfl⟩, hW₂, e2, q2, q3, q4, q5, q6⟩ := id hfe
    have e3 : s₂ = ({ (U.calling g mk a).setFrames s₂.frames with heap := s₂.heap, slotsUsed := s₂.slotsUsed } : State).setVm s₂.vm := by
      have : s₂ = ({ s₂ with vm := (U.calling g mk a).vm } : State).setVm s₂.vm := rfl
      rw [e2] at this
      exact this
    obtain ⟨c₂, i₂, len₂, hc₂, hd₂, hf₂⟩ := hend
    have hW' : U.WarmedH s₂.vm := hW₂
    have hcc : c₂ = c := by
      have h1 : s₂.code? g.method = U.code? g.method := by
        rw [State.code?_eq, State.code?_eq, hW'.alike.method?]
      exact Option.some.inj (hc₂.symm.trans (h1.trans h.code))
    subst hcc
    have hlen : len₂ = len := by rw [hdg] at hd₂; cases hd₂; rfl
    subst hlen
    have hs₂ : s₂ = (({ U with heap := s₂.heap, slotsUsed := s₂.slotsUsed } : State).setVm s₂.vm).setTop { g with pc := g.pc + len₂, stack := v.toList ++ g.stack } := by
      refine e3.trans ?_
      rw [hf₂, State.calling_eq h.top, State.setFrames_setFrames, State.setTop_of_frames _ hr', hr]
      rfl
    have hsame : U.sameButNew ({ U with heap := s₂.heap, slotsUsed := s₂.slotsUsed } : State) L mc ms := by
      refine ⟨?_, q2, q3, q4, q5, q6⟩
      obtain ⟨t, ht, -⟩ := State.frames_cons hr
      show ({ U with heap := s₂.heap, slotsUsed := s₂.slotsUsed } : State) = { U.setFrames U.frames with heap := s₂.heap, slotsUsed := s₂.slotsUsed }
      rw [State.setFrames_self ht]
    subst hg
    refine Or.inl ⟨v, ⟨(({ U with heap := s₂.heap, slotsUsed := s₂.slotsUsed } : State).setVm s₂.vm), Ls ++ L, c0 + mc, s0 + ms⟩,
      ⟨X.admits, X.cas, X.clock, X.frames, X.room, X.hears, X.method, X.code, (X.here.setHeapUsed s₂.heap s₂.slotsUsed).setVm hW'.alike, X.tail, State.WarmedH.trans X.warmed hW', X.limits, X.bytes, X.same.trans (hsame.setVm s.vm)⟩,
      ⟨g, mk, s₂, L, rfl, rfl, hqc, rfl, hL, rfl, rfl⟩, ?_⟩
    show Steps p.tables e below _ ((({ U with heap := s₂.heap, slotsUsed := s₂.slotsUsed } : State).setVm s₂.vm).setTop { g with pc := g.pc + len₂, stack := v.toList ++ g.stack })
    rw [← hs₂]
    exact hsteps
  · obtain ⟨e2, q2, q3, q4, q5, q6⟩ := id hsm
    have e3 : s₂ = ({ (U.calling g mk a).setFrames s₂.frames with heap := s₂.heap, slotsUsed := s₂.slotsUsed } : State).setVm s₂.vm := by
      have : s₂ = ({ s₂ with vm := (U.calling g mk a).vm } : State).setVm s₂.vm := rfl
      rw [e2] at this
      exact this
    have hf₂ : s₂.frames = .throwing q :: .java g :: U.frames.tail := hend
    have hW' : U.WarmedH s₂.vm := hW₂
    have hs₂ : s₂ = ((({ U with heap := s₂.heap, slotsUsed := s₂.slotsUsed } : State).setVm s₂.vm).setTop g).pushFrame (.throwing q) := by
      refine e3.trans ?_
      rw [hf₂, State.calling_eq h.top, State.setFrames_setFrames, State.pushFrame, State.frames_setTop _ hr', State.setTop_of_frames _ hr', State.setFrames_setFrames, hr]
      rfl
    have hsame : U.sameButNew ({ U with heap := s₂.heap, slotsUsed := s₂.slotsUsed } : State) L mc ms := by
      refine ⟨?_, q2, q3, q4, q5, q6⟩
      obtain ⟨t, ht, -⟩ := State.frames_cons hr
      show ({ U with heap := s₂.heap, slotsUsed := s₂.slotsUsed } : State) = { U.setFrames U.frames with heap := s₂.heap, slotsUsed := s₂.slotsUsed }
      rw [State.setFrames_self ht]
    subst hg
    refine Or.inr ⟨q, ⟨(({ U with heap := s₂.heap, slotsUsed := s₂.slotsUsed } : State).setVm s₂.vm), Ls ++ L, c0 + mc, s0 + ms⟩,
      ⟨X.admits, X.cas, X.clock, X.frames, X.room, X.hears, X.method, X.code, (X.here.setHeapUsed s₂.heap s₂.slotsUsed).setVm hW'.alike, X.tail, State.WarmedH.trans X.warmed hW', X.limits, X.bytes, X.same.trans (hsame.setVm s.vm)⟩,
      ⟨g, mk, s₂, L, E, ce, rfl, rfl, hx, hce, hcv, hcl, rfl, hL, rfl, rfl⟩, ?_⟩
    show Steps p.tables e below _ (((({ U with heap := s₂.heap, slotsUsed := s₂.slotsUsed } : State).setVm s₂.vm).setTop g).pushFrame (.throwing q))
    rw [← hs₂]
    exact hsteps
end Payer
section Calls
variable {p : Program} {l : Launch} {e : Env} {R : Room} {s : State} {m : MethodId} {args : Array Value} {below : List Frame} {meth : Method} {c : Code} {T : State} {locs : List Loc} {cells slots : Nat}
theorem vx_callV (X : Stand p l e R s m args below meth c T locs cells slots) (hexec : p.tables.exec = Jvm.exec) {own C : String} {index : Nat} {y : MethodName} {bytes : ByteArray} {maxL : Nat} {ret : Option FieldType}
    (hown : s.vm.findClass own = some m.cls) (hlink : (Cond.methodLink own index y).before args s = true) (hinst : (Cond.instanceMethod y).before args s = true) (hsel : (Cond.selects C y y).before args s = true)
    (hcode : (Cond.code y bytes maxL ret).before args s = true) (hy : y.cls ≠ "java/lang/invoke/MethodHandle" ∧ y.cls ≠ "java/lang/invoke/VarHandle")
    {W9 : Nat} {Pre : Pt → Array Value → Prop} {Post : Pt → Array Value → Option Value → Pt → Prop} {PostX : Pt → Array Value → Addr → Pt → Prop} (hK : vx_Back l R p e below s args y 3 W9 Pre Post PostX)
    {b : Addr} {cellB : Cell} (hcell : T.heap[b]? = some cellB) (hobj : cellB.vm.isStatics = false) (hcls : s.vm.findClass C = some cellB.cls)
    {g : JFrame} (hg : g.method = m) (hsize : g.locals.size = c.maxLocals) {argsL rest : List Value} (hlen : ∀ sig, parseMethodDescriptor y.desc = some sig → argsL.length = sig.parameters.length)
    (hstack : g.stack = argsL.reverse ++ .ref b :: rest) (hW : 2 * g.monitorRoom + (rest.map fun v => v.category).sum ≤ W9) (hdg : decode c.code g.pc = .ok (.invokevirtual index, 3))
    (hpre : ∀ vm₁, s.WarmedH vm₁ → Pre ⟨T.setVm vm₁, locs, cells, slots⟩ (Value.ref b :: argsL).toArray) :
    (∃ (v : Option Value) (vm₁ : Vm) (B : Pt), s.WarmedH vm₁ ∧ Stand p l e R s m args below meth c B.U B.locs B.cells B.slots ∧ Post ⟨T.setVm vm₁, locs, cells, slots⟩ (Value.ref b :: argsL).toArray v B ∧
      ∀ target, Steps p.tables e below (B.U.setTop { g with pc := g.pc + 3, stack := v.toList ++ rest }) target → Steps p.tables e below (T.setTop g) target) ∨
    (∃ (q : Addr) (vm₁ : Vm) (B : Pt), s.WarmedH vm₁ ∧ Stand p l e R s m args below meth c B.U B.locs B.cells B.slots ∧ PostX ⟨T.setVm vm₁, locs, cells, slots⟩ (Value.ref b :: argsL).toArray q B ∧
      Steps p.tables e below (T.setTop g) ((B.U.setTop { g with stack := rest }).pushFrame (.throwing q))) := by
  obtain ⟨mk, methM, hnamed, hmethM, hstM, habM⟩ := Cond.instanceMethod_spec hinst
  obtain ⟨methM', cM, hmethM', -, -, -, -, -, -, hsigM⟩ := Cond.code_spec hnamed hcode
  cases hmethM.symm.trans hmethM'
  obtain ⟨c2, r2, m2, q1, q2, q3, q4, kP, hkP, hkPi⟩ := Cond.selects_spec hsel
  cases hcls.symm.trans q1
  cases (State.methodFound?_of_named hnamed hy).symm.trans q2
  cases hnamed.symm.trans q3
  have hselP : selectMethod e.platform s.vm cellB.cls mk = .method mk := by rw [Launch.admits_selectMethod X.admits]; exact q4
  obtain ⟨vm₁, X₁, hstep₁⟩ := X.invokevirtual hexec hown hlink hnamed hmethM hstM hkP hkPi hy (a := b) (cell := cellB) hcell
    (fun z h => by rw [h] at hobj; cases hobj) hselP hmethM habM hkP hkPi (g := g) hg (argsL := argsL) (rest := rest) (hlen _ hsigM) hstack hdg
  rcases hK m meth c ⟨T.setVm vm₁, locs, cells, slots⟩ { g with stack := rest } (.invokevirtual index) mk (Value.ref b :: argsL).toArray X₁ hg hsize hdg hW (X₁.named hnamed) (hpre vm₁ X₁.warmed) with ⟨v, B, X', hpost, hsteps⟩ | ⟨q, B, X', hpost, hsteps⟩
  · exact Or.inl ⟨v, vm₁, B, X₁.warmed, X', hpost, fun target h => hstep₁ _ fun acts => by rw [doInvoke_state]; exact hsteps.trans h⟩
  · exact Or.inr ⟨q, vm₁, B, X₁.warmed, X', hpost, hstep₁ _ fun acts => by rw [doInvoke_state]; exact hsteps⟩
theorem vx_callS (X : Stand p l e R s m args below meth c T locs cells slots) (hexec : p.tables.exec = Jvm.exec) {own : String} {index : Nat} {y : MethodName} {bytes : ByteArray} {maxL : Nat} {ret : Option FieldType}
    (hown : s.vm.findClass own = some m.cls) (hlink : (Cond.methodLink own index y).before args s = true) (hstat : (Cond.static y).before args s = true) (hinit : (Cond.initialized y.cls).before args s = true)
    (hcode : (Cond.code y bytes maxL ret).before args s = true) (hy : y.cls ≠ "java/lang/invoke/MethodHandle" ∧ y.cls ≠ "java/lang/invoke/VarHandle")
    {W9 : Nat} {Pre : Pt → Array Value → Prop} {Post : Pt → Array Value → Option Value → Pt → Prop} {PostX : Pt → Array Value → Addr → Pt → Prop} (hK : vx_Back l R p e below s args y 3 W9 Pre Post PostX)
    {g : JFrame} (hg : g.method = m) (hsize : g.locals.size = c.maxLocals) {argsL rest : List Value} (hlen : ∀ sig, parseMethodDescriptor y.desc = some sig → argsL.length = sig.parameters.length)
    (hstack : g.stack = argsL.reverse ++ rest) (hW : 2 * g.monitorRoom + (rest.map fun v => v.category).sum ≤ W9) (hdg : decode c.code g.pc = .ok (.invokestatic index, 3))
    (hpre : ∀ vm₁, s.WarmedH vm₁ → Pre ⟨T.setVm vm₁, locs, cells, slots⟩ argsL.toArray) :
    (∃ (v : Option Value) (vm₁ : Vm) (B : Pt), s.WarmedH vm₁ ∧ Stand p l e R s m args below meth c B.U B.locs B.cells B.slots ∧ Post ⟨T.setVm vm₁, locs, cells, slots⟩ argsL.toArray v B ∧
      ∀ target, Steps p.tables e below (B.U.setTop { g with pc := g.pc + 3, stack := v.toList ++ rest }) target → Steps p.tables e below (T.setTop g) target) ∨
    (∃ (q : Addr) (vm₁ : Vm) (B : Pt), s.WarmedH vm₁ ∧ Stand p l e R s m args below meth c B.U B.locs B.cells B.slots ∧ PostX ⟨T.setVm vm₁, locs, cells, slots⟩ argsL.toArray q B ∧
      Steps p.tables e below (T.setTop g) ((B.U.setTop { g with stack := rest }).pushFrame (.throwing q))) := by
  obtain ⟨mk, hnamed⟩ := Cond.code_named hcode
  obtain ⟨methM, cM, hmethM, -, -, -, -, -, -, hsigM⟩ := Cond.code_spec hnamed hcode
  have hstatic : methM.isStatic = true := Cond.static_spec hnamed hmethM hstat
  obtain ⟨kP, hkP, -⟩ := className_of_methodNamed hnamed
  have hinitP : kP.init = .initialized := Cond.initialized_spec (findClass_of_methodNamed hnamed) hkP hinit
  obtain ⟨vm₁, X₁, hstep₁⟩ := X.invokestatic hexec hown hlink hnamed hmethM hstatic hkP hinitP hy (g := g) hg (argsL := argsL) (rest := rest) (hlen _ hsigM) hstack hdg
  rcases hK m meth c ⟨T.setVm vm₁, locs, cells, slots⟩ { g with stack := rest } (.invokestatic index) mk argsL.toArray X₁ hg hsize hdg hW (X₁.named hnamed) (hpre vm₁ X₁.warmed) with ⟨v, B, X', hpost, hsteps⟩ | ⟨q, B, X', hpost, hsteps⟩
  · exact Or.inl ⟨v, vm₁, B, X₁.warmed, X', hpost, fun target h => hstep₁ _ fun acts => by rw [doInvoke_state]; exact hsteps.trans h⟩
  · exact Or.inr ⟨q, vm₁, B, X₁.warmed, X', hpost, hstep₁ _ fun acts => by rw [doInvoke_state]; exact hsteps⟩
end Calls
theorem vx_cls {s : State} {T : State} {vm₁ : Vm} {E : String} {k : ClassId} (hW : s.WarmedH vm₁) (h : (T.setVm vm₁).vm.findClass E = some k) : s.vm.findClass E = some k := by
  have h1 : vm₁.findClass E = some k := h
  rw [hW.alike.findClass] at h1
  exact h1
/-- the method's frame g, with q thrown over it -/
def vx_W (p : Program) (l : Launch) (e : Env) (R : Room) (s : State) (m : MethodId) (args : Array Value) (below : List Frame) (meth : Method) (c : Code) (H : Heap) (locs : List Loc) (cells slots : Nat) (Q : State → Prop) (g : JFrame) (q : Addr) : Prop :=
  ∀ T : State, T.heap = H → Stand p l e R s m args below meth c T locs cells slots → ∃ t, Steps p.tables e below ((T.setTop g).pushFrame (.throwing q)) t ∧ Q t
def vx_Run (p : Program) (l : Launch) (e : Env) (R : Room) (s : State) (m : MethodId) (args : Array Value) (below : List Frame) (meth : Method) (c : Code) (H : Heap) (locs : List Loc) (cells slots mc ms : Nat) (g : JFrame) (rest : List Value) (Qa : State → Outcome → State → Prop) (XC : String → State → State → Prop) (free : Addr → Prop) : Prop :=
  ∀ T : State, T.heap = H → Stand p l e R s m args below meth c T locs cells slots →
    (∃ (v : Option Value) (st₀ t T' : State) (L : List Loc), st₀.heap = H ∧ Stand p l e R s m args below meth c T' (locs ++ L) (cells + mc) (slots + ms) ∧ (∀ q ∈ L, free q.base) ∧ T'.heap = t.heap ∧ T'.vm = t.vm ∧ Qa st₀ (.returned v) t ∧
      Goes p e below T g T' { g with pc := g.pc + 3, stack := v.toList ++ rest }) ∨
    (∃ (q : Addr) (st₀ t T' : State) (L : List Loc) (E : String) (ce : Cell), st₀.heap = H ∧ Stand p l e R s m args below meth c T' (locs ++ L) (cells + mc) (slots + ms) ∧ (∀ z ∈ L, free z.base) ∧ T'.heap = t.heap ∧ T'.vm = t.vm ∧ XC E st₀ t ∧ t.heap[q]? = some ce ∧ ce.vm = .none ∧ s.vm.findClass E = some ce.cls ∧
      Steps p.tables e below (T.setTop g) ((T'.setTop { g with stack := rest }).pushFrame (.throwing q)))
def vx_X {S : Type} (px : S → Prop) (B : String → S → State → Prop) (A : Nat → Prop) : String → State → State → Prop := fun E st t => ∃ u : S, px u ∧ B E u t ∧ va_F A st t
section Runs
variable {p : Program} {l : Launch} {e : Env} {R : Room} {s : State} {m : MethodId} {args : Array Value} {below : List Frame} {meth : Method} {c : Code} {H : Heap} {locs : List Loc} {cells slots : Nat}
variable {y : MethodName} {bytes cc : ByteArray} {maxL nL mc ms n index : Nat} {ret : Option FieldType} {ws : List Cond} {rm : Room} {Pc : Array Value → State → Prop} {Qc : Array Value → State → Outcome → State → Prop} {XC : String → State → State → Prop} {free : Addr → Prop} {Ts : List Cond} {own C : String} {b : Addr} {As rest : List Value} {g : JFrame}
theorem vx_callBack (cb : CallB R s args own index y bytes maxL ret ws rm mc ms n) (hM : vx_Met l y ws rm Pc Qc XC mc ms free) (hbl : FrameBlind Pc) : vx_Back l R p e below s args y 3 8 (PreOf R mc ms Pc) (PostOf Qc mc ms free) (vx_Post XC mc ms free) := by
  obtain ⟨hrc, hrs, hfr, hlo, hws, hcw, -, hini, -⟩ := cb
  exact vx_back (bytes := bytes) (maxL := maxL) (ret := ret) hM hbl hrc hrs hfr hlo hws hcw (fun a' U hW => word_at hW (Or.inl (by first | rfl | simp [Cond.onTables, Cond.keeps, Cond.steady])) hini)
theorem vx_runV (S : CallFix p m c cc nL s args Ts own) (hM : vx_Met l y ws rm Pc Qc XC mc ms free) (cw : CallW R s args own C index y bytes maxL ret ws rm mc ms n) (hp : PreV s H C b Pc As)
    (hg : g.method = m) (hn : As.length = n) (hsize : g.locals.size = nL) (hstack : g.stack = As.reverse ++ .ref b :: rest) (hW : 2 * g.monitorRoom + (rest.map fun v => v.category).sum ≤ 8) (hdg : decode cc g.pc = .ok (.invokevirtual index, 3)) (hf : cells + mc ≤ R.cells ∧ slots + ms ≤ R.slots) :
    vx_Run p l e R s m args below meth c H locs cells slots mc ms g rest (Qc (Value.ref b :: As).toArray) XC free := by
  have hK : vx_Back l R p e below s args y 3 8 (PreOf R mc ms Pc) (PostOf Qc mc ms free) (vx_Post XC mc ms free) := vx_callBack cw.1 hM hp.1
  obtain ⟨⟨-, -, -, -, -, -, hcode, -, hy, hlen, hl⟩, hin, hse⟩ := cw
  obtain ⟨hx, hb, hml, ho, -⟩ := S
  obtain ⟨-, ⟨cellB, hcB, hoB, hclB⟩, hPc⟩ := hp
  intro T hT X
  rcases vx_callV X hx (C := C) (bytes := bytes) (maxL := maxL) (ret := ret) ho hl hin hse hcode hy hK (by rw [hT]; exact hcB) hoB hclB hg (hsize.trans hml.symm) (argsL := As) (rest := rest) (fun sig h => hn.trans (hlen sig h)) hstack hW (by rw [hb]; exact hdg)
    (fun vm₁ hW₁ => ⟨hf.1, hf.2, hPc (T.setVm vm₁) hT hW₁⟩) with ⟨v, vm₁, ⟨U', l2, c2, s2⟩, hW₁, X', ⟨g', mk, t, L, e1, e2, hq, h1, hL, h2, h3⟩, st⟩ | ⟨q, vm₁, ⟨U', l2, c2, s2⟩, hW₁, X', ⟨g', mk, t, L, E, ce, e1, e2, hq, hce, hcv, hcl, h1, hL, h2, h3⟩, st⟩
  · dsimp only [Pt.U, Pt.locs, Pt.cells, Pt.slots] at X' e1 e2 h1 h2 h3 st
    subst h1; subst h2; subst h3
    exact Or.inl ⟨v, (T.setVm vm₁).calling g' mk (Value.ref b :: As).toArray, t, U', L, hT, X', hL, e1, e2, hq, st⟩
  · dsimp only [Pt.U, Pt.locs, Pt.cells, Pt.slots] at X' e1 e2 h1 h2 h3 st hcl
    subst h1; subst h2; subst h3
    exact Or.inr ⟨q, (T.setVm vm₁).calling g' mk (Value.ref b :: As).toArray, t, U', L, E, ce, hT, X', hL, e1, e2, hq, hce, hcv, vx_cls hW₁ hcl, st⟩
theorem vx_runS (S : CallFix p m c cc nL s args Ts own) (hM : vx_Met l y ws rm Pc Qc XC mc ms free) (cw : CallB R s args own index y bytes maxL ret ws rm mc ms n ∧ (Cond.static y).before args s = true) (hp : PreS s H Pc As)
    (hg : g.method = m) (hn : As.length = n) (hsize : g.locals.size = nL) (hstack : g.stack = As.reverse ++ rest) (hW : 2 * g.monitorRoom + (rest.map fun v => v.category).sum ≤ 8) (hdg : decode cc g.pc = .ok (.invokestatic index, 3)) (hf : cells + mc ≤ R.cells ∧ slots + ms ≤ R.slots) :
    vx_Run p l e R s m args below meth c H locs cells slots mc ms g rest (Qc As.toArray) XC free := by
  have hK : vx_Back l R p e below s args y 3 8 (PreOf R mc ms Pc) (PostOf Qc mc ms free) (vx_Post XC mc ms free) := vx_callBack cw.1 hM hp.1
  obtain ⟨⟨-, -, -, -, -, -, hcode, hini, hy, hlen, hl⟩, hstt⟩ := cw
  obtain ⟨hx, hb, hml, ho, -⟩ := S
  intro T hT X
  rcases vx_callS X hx (bytes := bytes) (maxL := maxL) (ret := ret) ho hl hstt hini hcode hy hK hg (hsize.trans hml.symm) (argsL := As) (rest := rest) (fun sig h => hn.trans (hlen sig h)) hstack hW (by rw [hb]; exact hdg)
    (fun vm₁ hW₁ => ⟨hf.1, hf.2, hp.2 (T.setVm vm₁) hT hW₁⟩) with ⟨v, vm₁, ⟨U', l2, c2, s2⟩, hW₁, X', ⟨g', mk, t, L, e1, e2, hq, h1, hL, h2, h3⟩, st⟩ | ⟨q, vm₁, ⟨U', l2, c2, s2⟩, hW₁, X', ⟨g', mk, t, L, E, ce, e1, e2, hq, hce, hcv, hcl, h1, hL, h2, h3⟩, st⟩
  · dsimp only [Pt.U, Pt.locs, Pt.cells, Pt.slots] at X' e1 e2 h1 h2 h3 st
    subst h1; subst h2; subst h3
    exact Or.inl ⟨v, (T.setVm vm₁).calling g' mk As.toArray, t, U', L, hT, X', hL, e1, e2, hq, st⟩
  · dsimp only [Pt.U, Pt.locs, Pt.cells, Pt.slots] at X' e1 e2 h1 h2 h3 st hcl
    subst h1; subst h2; subst h3
    exact Or.inr ⟨q, (T.setVm vm₁).calling g' mk As.toArray, t, U', L, E, ce, hT, X', hL, e1, e2, hq, hce, hcv, vx_cls hW₁ hcl, st⟩
end Runs
section Rows
variable {p : Program} {l : Launch} {e : Env} {R : Room} {s : State} {m : MethodId} {args : Array Value} {below : List Frame} {meth : Method} {c : Code} {H : Heap} {locs : List Loc} {cells slots : Nat} {Q : State → Prop}
variable {mc ms : Nat} {free : Addr → Prop} {A0 A1 : Nat → Prop} {H0 : Heap} {a : Array Value} {pc : Nat} {ls : Array Slot} {st0 rest : List Value}
theorem vx_keep {st₀ t T' : State} {L : List Loc} (h0 : st₀.heap = H) (e1 : T'.heap = t.heap) (hS : va_S A0 H0 H locs) (hA : ∀ q, q < H.size → A1 q → A0 q) (hf : ∀ q, free q → A0 q) (hL : ∀ q ∈ L, free q.base) (hF : va_F A1 st₀ t) :
    H.size ≤ T'.heap.size ∧ (∀ q : Nat, q < H.size → ¬ A1 q → T'.heap[q]? = H[q]?) ∧ va_S A0 H0 T'.heap (locs ++ L) := by
  obtain ⟨hz, hk⟩ := hF
  rw [h0] at hz hk
  exact ⟨by rw [e1]; exact hz, fun q h1 h2 => by rw [e1]; exact hk q h1 h2,
    ⟨Nat.le_trans hS.1 (by rw [e1]; exact hz), fun q h1 h2 => by rw [e1, hk q (Nat.lt_of_lt_of_le h1 hS.1) (fun z => h2 (hA q (Nat.lt_of_lt_of_le h1 hS.1) z))]; exact hS.2.1 q h1 h2, fun q hq => by
      rcases List.mem_append.mp hq with h | h
      · exact hS.2.2 q h
      · exact hf _ (hL q h)⟩⟩
theorem vx_calli {S SX : Type} {post : Int32 → S → Prop} {px : SX → Prop} {B : S → State → Prop} {BX : String → SX → State → Prop} {AX : Nat → Prop} (hr : vx_Run p l e R s m args below meth c H locs cells slots mc ms (F0 m pc ls st0) rest (va_Qi post B A1 a) (vx_X px BX AX) free) (hS : va_S A0 H0 H locs) (hA : ∀ q, q < H.size → A1 q → A0 q) (hf : ∀ q, free q → A0 q) (hAX : ∀ q, q < H.size → AX q → A0 q)
    (kx : ∀ (E : String) (ce : Cell) (q9 : Addr) (u : SX) (t : State) (H1 : Heap) (locs1 : List Loc), t.heap = H1 → s.vm.Alike t.vm → px u → BX E u t → H.size ≤ H1.size → (∀ q : Nat, q < H.size → ¬ AX q → H1[q]? = H[q]?) → va_S A0 H0 H1 locs1 → H1[q9]? = some ce → ce.vm = .none → s.vm.findClass E = some ce.cls → vx_W p l e R s m args below meth c H1 locs1 (cells + mc) (slots + ms) Q (F0 m pc ls rest) q9)
    (kk : ∀ (r : Int32) (u : S) (t : State) (H1 : Heap) (locs1 : List Loc), t.heap = H1 → s.vm.Alike t.vm → post r u → B u t → H.size ≤ H1.size → (∀ q : Nat, q < H.size → ¬ A1 q → H1[q]? = H[q]?) → va_S A0 H0 H1 locs1 → W p l e R s m args below meth c H1 locs1 (cells + mc) (slots + ms) Q (F0 m (pc + 3) ls (.int r :: rest))) : W p l e R s m args below meth c H locs cells slots Q (F0 m pc ls st0) := by
  intro T hT X
  rcases hr T hT X with ⟨v, st₀, t, T', L, h0, X', hL, e1, e2, ⟨⟨r, u, hv, hp, hb⟩, hF⟩, st⟩ | ⟨q, st₀, t, T', L, E, ce, h0, X', hL, e1, e2, ⟨u, hp, hb, hF⟩, hce, hcv, hcl, st⟩
  · cases hv
    obtain ⟨k1, k2, k3⟩ := vx_keep h0 e1 hS hA hf hL hF
    obtain ⟨t2, a1, b1⟩ := kk r u t T'.heap (locs ++ L) e1.symm (by rw [← e2]; exact X'.warmed.alike) hp hb k1 k2 k3 T' rfl X'
    exact ⟨t2, st t2 a1, b1⟩
  · obtain ⟨k1, k2, k3⟩ := vx_keep h0 e1 hS hAX hf hL hF
    obtain ⟨t2, a1, b1⟩ := kx E ce q u t T'.heap (locs ++ L) e1.symm (by rw [← e2]; exact X'.warmed.alike) hp hb k1 k2 k3 (by rw [e1]; exact hce) hcv hcl T' rfl X'
    exact ⟨t2, st.trans a1, b1⟩
theorem vx_calll {S SX : Type} {post : Int64 → S → Prop} {px : SX → Prop} {B : S → State → Prop} {BX : String → SX → State → Prop} {AX : Nat → Prop} (hr : vx_Run p l e R s m args below meth c H locs cells slots mc ms (F0 m pc ls st0) rest (va_Ql post B A1 a) (vx_X px BX AX) free) (hS : va_S A0 H0 H locs) (hA : ∀ q, q < H.size → A1 q → A0 q) (hf : ∀ q, free q → A0 q) (hAX : ∀ q, q < H.size → AX q → A0 q)
    (kx : ∀ (E : String) (ce : Cell) (q9 : Addr) (u : SX) (t : State) (H1 : Heap) (locs1 : List Loc), t.heap = H1 → s.vm.Alike t.vm → px u → BX E u t → H.size ≤ H1.size → (∀ q : Nat, q < H.size → ¬ AX q → H1[q]? = H[q]?) → va_S A0 H0 H1 locs1 → H1[q9]? = some ce → ce.vm = .none → s.vm.findClass E = some ce.cls → vx_W p l e R s m args below meth c H1 locs1 (cells + mc) (slots + ms) Q (F0 m pc ls rest) q9)
    (kk : ∀ (r : Int64) (u : S) (t : State) (H1 : Heap) (locs1 : List Loc), t.heap = H1 → s.vm.Alike t.vm → post r u → B u t → H.size ≤ H1.size → (∀ q : Nat, q < H.size → ¬ A1 q → H1[q]? = H[q]?) → va_S A0 H0 H1 locs1 → W p l e R s m args below meth c H1 locs1 (cells + mc) (slots + ms) Q (F0 m (pc + 3) ls (.long r :: rest))) : W p l e R s m args below meth c H locs cells slots Q (F0 m pc ls st0) := by
  intro T hT X
  rcases hr T hT X with ⟨v, st₀, t, T', L, h0, X', hL, e1, e2, ⟨⟨r, u, hv, hp, hb⟩, hF⟩, st⟩ | ⟨q, st₀, t, T', L, E, ce, h0, X', hL, e1, e2, ⟨u, hp, hb, hF⟩, hce, hcv, hcl, st⟩
  · cases hv
    obtain ⟨k1, k2, k3⟩ := vx_keep h0 e1 hS hA hf hL hF
    obtain ⟨t2, a1, b1⟩ := kk r u t T'.heap (locs ++ L) e1.symm (by rw [← e2]; exact X'.warmed.alike) hp hb k1 k2 k3 T' rfl X'
    exact ⟨t2, st t2 a1, b1⟩
  · obtain ⟨k1, k2, k3⟩ := vx_keep h0 e1 hS hAX hf hL hF
    obtain ⟨t2, a1, b1⟩ := kx E ce q u t T'.heap (locs ++ L) e1.symm (by rw [← e2]; exact X'.warmed.alike) hp hb k1 k2 k3 (by rw [e1]; exact hce) hcv hcl T' rfl X'
    exact ⟨t2, st.trans a1, b1⟩
theorem vx_callf {S SX : Type} {post : UInt32 → S → Prop} {px : SX → Prop} {B : S → State → Prop} {BX : String → SX → State → Prop} {AX : Nat → Prop} (hr : vx_Run p l e R s m args below meth c H locs cells slots mc ms (F0 m pc ls st0) rest (va_Qf post B A1 a) (vx_X px BX AX) free) (hS : va_S A0 H0 H locs) (hA : ∀ q, q < H.size → A1 q → A0 q) (hf : ∀ q, free q → A0 q) (hAX : ∀ q, q < H.size → AX q → A0 q)
    (kx : ∀ (E : String) (ce : Cell) (q9 : Addr) (u : SX) (t : State) (H1 : Heap) (locs1 : List Loc), t.heap = H1 → s.vm.Alike t.vm → px u → BX E u t → H.size ≤ H1.size → (∀ q : Nat, q < H.size → ¬ AX q → H1[q]? = H[q]?) → va_S A0 H0 H1 locs1 → H1[q9]? = some ce → ce.vm = .none → s.vm.findClass E = some ce.cls → vx_W p l e R s m args below meth c H1 locs1 (cells + mc) (slots + ms) Q (F0 m pc ls rest) q9)
    (kk : ∀ (r : UInt32) (u : S) (t : State) (H1 : Heap) (locs1 : List Loc), t.heap = H1 → s.vm.Alike t.vm → post r u → B u t → H.size ≤ H1.size → (∀ q : Nat, q < H.size → ¬ A1 q → H1[q]? = H[q]?) → va_S A0 H0 H1 locs1 → W p l e R s m args below meth c H1 locs1 (cells + mc) (slots + ms) Q (F0 m (pc + 3) ls (.float r :: rest))) : W p l e R s m args below meth c H locs cells slots Q (F0 m pc ls st0) := by
  intro T hT X
  rcases hr T hT X with ⟨v, st₀, t, T', L, h0, X', hL, e1, e2, ⟨⟨r, u, hv, hp, hb⟩, hF⟩, st⟩ | ⟨q, st₀, t, T', L, E, ce, h0, X', hL, e1, e2, ⟨u, hp, hb, hF⟩, hce, hcv, hcl, st⟩
  · cases hv
    obtain ⟨k1, k2, k3⟩ := vx_keep h0 e1 hS hA hf hL hF
    obtain ⟨t2, a1, b1⟩ := kk r u t T'.heap (locs ++ L) e1.symm (by rw [← e2]; exact X'.warmed.alike) hp hb k1 k2 k3 T' rfl X'
    exact ⟨t2, st t2 a1, b1⟩
  · obtain ⟨k1, k2, k3⟩ := vx_keep h0 e1 hS hAX hf hL hF
    obtain ⟨t2, a1, b1⟩ := kx E ce q u t T'.heap (locs ++ L) e1.symm (by rw [← e2]; exact X'.warmed.alike) hp hb k1 k2 k3 (by rw [e1]; exact hce) hcv hcl T' rfl X'
    exact ⟨t2, st.trans a1, b1⟩
theorem vx_calld {S SX : Type} {post : UInt64 → S → Prop} {px : SX → Prop} {B : S → State → Prop} {BX : String → SX → State → Prop} {AX : Nat → Prop} (hr : vx_Run p l e R s m args below meth c H locs cells slots mc ms (F0 m pc ls st0) rest (va_Qd post B A1 a) (vx_X px BX AX) free) (hS : va_S A0 H0 H locs) (hA : ∀ q, q < H.size → A1 q → A0 q) (hf : ∀ q, free q → A0 q) (hAX : ∀ q, q < H.size → AX q → A0 q)
    (kx : ∀ (E : String) (ce : Cell) (q9 : Addr) (u : SX) (t : State) (H1 : Heap) (locs1 : List Loc), t.heap = H1 → s.vm.Alike t.vm → px u → BX E u t → H.size ≤ H1.size → (∀ q : Nat, q < H.size → ¬ AX q → H1[q]? = H[q]?) → va_S A0 H0 H1 locs1 → H1[q9]? = some ce → ce.vm = .none → s.vm.findClass E = some ce.cls → vx_W p l e R s m args below meth c H1 locs1 (cells + mc) (slots + ms) Q (F0 m pc ls rest) q9)
    (kk : ∀ (r : UInt64) (u : S) (t : State) (H1 : Heap) (locs1 : List Loc), t.heap = H1 → s.vm.Alike t.vm → post r u → B u t → H.size ≤ H1.size → (∀ q : Nat, q < H.size → ¬ A1 q → H1[q]? = H[q]?) → va_S A0 H0 H1 locs1 → W p l e R s m args below meth c H1 locs1 (cells + mc) (slots + ms) Q (F0 m (pc + 3) ls (.double r :: rest))) : W p l e R s m args below meth c H locs cells slots Q (F0 m pc ls st0) := by
  intro T hT X
  rcases hr T hT X with ⟨v, st₀, t, T', L, h0, X', hL, e1, e2, ⟨⟨r, u, hv, hp, hb⟩, hF⟩, st⟩ | ⟨q, st₀, t, T', L, E, ce, h0, X', hL, e1, e2, ⟨u, hp, hb, hF⟩, hce, hcv, hcl, st⟩
  · cases hv
    obtain ⟨k1, k2, k3⟩ := vx_keep h0 e1 hS hA hf hL hF
    obtain ⟨t2, a1, b1⟩ := kk r u t T'.heap (locs ++ L) e1.symm (by rw [← e2]; exact X'.warmed.alike) hp hb k1 k2 k3 T' rfl X'
    exact ⟨t2, st t2 a1, b1⟩
  · obtain ⟨k1, k2, k3⟩ := vx_keep h0 e1 hS hAX hf hL hF
    obtain ⟨t2, a1, b1⟩ := kx E ce q u t T'.heap (locs ++ L) e1.symm (by rw [← e2]; exact X'.warmed.alike) hp hb k1 k2 k3 (by rw [e1]; exact hce) hcv hcl T' rfl X'
    exact ⟨t2, st.trans a1, b1⟩
theorem vx_callv {S SX : Type} {post : S → Prop} {px : SX → Prop} {B : S → State → Prop} {BX : String → SX → State → Prop} {AX : Nat → Prop} (hr : vx_Run p l e R s m args below meth c H locs cells slots mc ms (F0 m pc ls st0) rest (va_Qv post B A1 a) (vx_X px BX AX) free) (hS : va_S A0 H0 H locs) (hA : ∀ q, q < H.size → A1 q → A0 q) (hf : ∀ q, free q → A0 q) (hAX : ∀ q, q < H.size → AX q → A0 q)
    (kx : ∀ (E : String) (ce : Cell) (q9 : Addr) (u : SX) (t : State) (H1 : Heap) (locs1 : List Loc), t.heap = H1 → s.vm.Alike t.vm → px u → BX E u t → H.size ≤ H1.size → (∀ q : Nat, q < H.size → ¬ AX q → H1[q]? = H[q]?) → va_S A0 H0 H1 locs1 → H1[q9]? = some ce → ce.vm = .none → s.vm.findClass E = some ce.cls → vx_W p l e R s m args below meth c H1 locs1 (cells + mc) (slots + ms) Q (F0 m pc ls rest) q9)
    (kk : ∀ (u : S) (t : State) (H1 : Heap) (locs1 : List Loc), t.heap = H1 → s.vm.Alike t.vm → post u → B u t → H.size ≤ H1.size → (∀ q : Nat, q < H.size → ¬ A1 q → H1[q]? = H[q]?) → va_S A0 H0 H1 locs1 → W p l e R s m args below meth c H1 locs1 (cells + mc) (slots + ms) Q (F0 m (pc + 3) ls (rest))) : W p l e R s m args below meth c H locs cells slots Q (F0 m pc ls st0) := by
  intro T hT X
  rcases hr T hT X with ⟨v, st₀, t, T', L, h0, X', hL, e1, e2, ⟨⟨u, hv, hp, hb⟩, hF⟩, st⟩ | ⟨q, st₀, t, T', L, E, ce, h0, X', hL, e1, e2, ⟨u, hp, hb, hF⟩, hce, hcv, hcl, st⟩
  · cases hv
    obtain ⟨k1, k2, k3⟩ := vx_keep h0 e1 hS hA hf hL hF
    obtain ⟨t2, a1, b1⟩ := kk u t T'.heap (locs ++ L) e1.symm (by rw [← e2]; exact X'.warmed.alike) hp hb k1 k2 k3 T' rfl X'
    exact ⟨t2, st t2 a1, b1⟩
  · obtain ⟨k1, k2, k3⟩ := vx_keep h0 e1 hS hAX hf hL hF
    obtain ⟨t2, a1, b1⟩ := kx E ce q u t T'.heap (locs ++ L) e1.symm (by rw [← e2]; exact X'.warmed.alike) hp hb k1 k2 k3 (by rw [e1]; exact hce) hcv hcl T' rfl X'
    exact ⟨t2, st.trans a1, b1⟩
/-- caught by the row x of this method's table; the rows ahead don't take it -/
theorem vx_catch {own name : String} {E : String} {ce : Cell} {q : Addr} (hown : s.vm.findClass own = some m.cls) (pre : List ExceptionTableEntry) (x : ExceptionTableEntry) (suf : List ExceptionTableEntry) (hsplit : c.exceptionTable.toList = pre ++ x :: suf)
    (hpass : ∀ z ∈ pre, covers z pc = false ∨ (z.catchType ≠ 0 ∧ ∃ nm : String, (Cond.classLink own z.catchType nm).before args s = true ∧ va_Nc E nm s)) (hx : covers x pc = true) (h0 : x.catchType ≠ 0)
    (hlink : (Cond.classLink own x.catchType name).before args s = true) (hcast : (Cond.castable E name).before args s = true) (hcell : H[q]? = some ce) (hv : ce.vm = .none) (hcl : s.vm.findClass E = some ce.cls)
    (kk : W p l e R s m args below meth c H locs cells slots Q (F0 m x.handlerPc ls [.ref q])) : vx_W p l e R s m args below meth c H locs cells slots Q (F0 m pc ls rest) q := by
  intro T hT X
  have hpl : e.platform.magicAccessors = ({} : Platform).magicAccessors := by rw [X.admits.platform]
  obtain ⟨c3, c4, hc3, hc4, hasg⟩ := Cond.castable_spec hcast
  cases Option.some.inj (hc3.symm.trans hcl)
  obtain ⟨c5, hc5, hcl5⟩ := Cond.classLink_spec hown hlink e.platform hpl
  cases Option.some.inj (hc4.symm.trans hc5)
  obtain ⟨vm', X', st⟩ := X.thenCaughtThrough q (g := F0 m pc ls rest) rfl (Steps.refl _) (by rw [hT]; exact hcell) (by rw [hv]; rfl) (by obtain ⟨k9, h9, -⟩ := Vm.findClass_spec hcl; exact ⟨k9, h9⟩) pre x suf hsplit
    (fun z hz => by
      rcases hpass z hz with h | ⟨hz0, nm, hl1, hn1⟩
      · exact Or.inl h
      · obtain ⟨c6, hc6, hcl6⟩ := Cond.classLink_spec hown hl1 e.platform hpl
        obtain ⟨a8, b8, h1, h2, h3⟩ := hn1
        cases Option.some.inj (h1.symm.trans hcl)
        cases Option.some.inj (h2.symm.trans hc6)
        exact Or.inr ⟨hz0, _, hcl6, h3⟩) hx (Or.inr ⟨h0, c4, hcl5, hasg⟩)
  obtain ⟨t, a1, b1⟩ := kk (T.setVm vm') hT X'
  exact ⟨t, st.trans a1, b1⟩
end Rows
section Ends
variable {p : Program} {l : Launch} {e : Env} {R : Room} {s : State} {m : MethodId} {args : Array Value} {below : List Frame} {meth : Method} {c : Code} {H : Heap} {locs : List Loc} {cells slots : Nat} {Q : State → Prop}
variable {mc ms : Nat} {free : Addr → Prop} {A0 A1 : Nat → Prop} {H0 : Heap} {a : Array Value} {ls : Array Slot} {st0 rest : List Value}
variable {Qc : Array Value → State → Outcome → State → Prop} {XC : String → State → State → Prop}
/-- what a body that may throw owes at its end -/
def vx_MQ (below : List Frame) (Qc : Array Value → State → Outcome → State → Prop) (XC : String → State → State → Prop) (a : Array Value) (s : State) (mc ms : Nat) (free : Addr → Prop) : State → Prop := fun t =>
  ∃ o, t.status = .running ∧ Ended t below o ∧ vx_Q Qc XC mc ms free a s o t
theorem vx_ret {g : JFrame} {mc ms : Nat} (k : W p l e R s m args below meth c H locs cells slots (MQ below Qc args s mc ms free) g) : W p l e R s m args below meth c H locs cells slots (vx_MQ below Qc XC args s mc ms free) g := by
  intro T hT X
  obtain ⟨t, a1, o, b1, b2, b3, b4⟩ := k T hT X
  exact ⟨t, a1, o, b1, b2, Or.inl ⟨b3, b4⟩⟩
/-- not caught here: it goes on to the caller -/
theorem vx_widen {g : JFrame} {q : Addr} {k n : Nat} (h1 : cells ≤ k) (h2 : slots ≤ n) (kk : vx_W p l e R s m args below meth c H locs k n Q g q) : vx_W p l e R s m args below meth c H locs cells slots Q g q := fun T hT X => kk T hT (stand_widen X h1 h2)
theorem vx_out {pc : Nat} {E : String} {ce : Cell} {q : Addr} {mc ms : Nat} (hout : ∀ x ∈ c.exceptionTable.toList, covers x pc = false) (hlocks : meth.locks = false) (hcell : H[q]? = some ce) (hv : ce.vm = .none) (hcl : s.vm.findClass E = some ce.cls)
    (hx : ∀ t : State, t.heap = H → s.vm.Alike t.vm → XC E s t) (hf : ∀ z ∈ locs, free z.base) (hc : cells ≤ mc) (hs : slots ≤ ms) :
    vx_W p l e R s m args below meth c H locs cells slots (vx_MQ below Qc XC args s mc ms free) (F0 m pc ls rest) q := by
  intro T hT X
  obtain ⟨st1, hrun, hend, hW, hsm⟩ := X.leaveThrown q (g := F0 m pc ls rest) rfl rfl rfl hout hlocks
  have hcell9 : (T.setFrames (.throwing q :: below)).heap[q]? = some ce := by
    show T.heap[q]? = some ce
    rw [hT]; exact hcell
  exact ⟨_, st1, .threw q, hrun, hend, Or.inr ⟨q, rfl, E, ce, locs, hx _ hT hW.alike, hcell9, hv, hcl, hW, hsm.mono hc hs, hf⟩⟩
theorem vx_frame {U : State} {k n : Nat} (h : s.sameButNew ({ U with vm := s.vm } : State) locs k n) : s.heap.size ≤ U.heap.size ∧ ∀ q : Nat, q < s.heap.size → (∀ z ∈ locs, z.base ≠ q) → U.heap[q]? = s.heap[q]? := by
  obtain ⟨-, h2, -, -, -, h6⟩ := h
  refine ⟨h2, fun q hq hz => ?_⟩
  obtain ⟨c9, e1, e2, e3, e4⟩ := h6 q _ (Array.getElem?_eq_getElem hq)
  have hs : c9.slots = (s.heap[q]).slots := Array.ext_getElem? fun i => e4 i fun hm => hz _ hm rfl
  have h9 : c9 = s.heap[q] := by
    rw [hs] at e2
    exact e2
  have e5 : U.heap[q]? = some c9 := e1
  rw [e5, h9, Array.getElem?_eq_getElem hq]
/-- the words of a throw but the four that speak of the heap -/
def vx_no (w : Cond) : Bool := decide (w ≠ .isRef (.static Bundle.tN "UNASSIGNED_STACK" Bundle.steD)) && decide (w ≠ .isRef (.static Bundle.tN "SUPPRESSED_SENTINEL" Bundle.listD)) && decide (w ≠ .laysStatic Bundle.tN "UNASSIGNED_STACK" Bundle.steD) && decide (w ≠ .laysStatic Bundle.tN "SUPPRESSED_SENTINEL" Bundle.listD)
def vx_at0 (own : String) (ic : Nat) (X : String) (names : List String) : List Cond := (Bundle.ownAtoms0 own ic X names).filter vx_no
def vx_atS (own : String) (ic : Nat) (X : String) (names : List String) : List Cond := (Bundle.ownAtoms own ic X names).filter vx_no
/-- a word that the tables alone decide, or a good one -/
def vx_ot (w : Cond) : Bool := w.onTables || goodWord w
theorem vx_ot_at {args a' : Array Value} {s U : State} {w : Cond} (hW : s.WarmedH U.vm) (hvm : s.vm = U.vm) (hg : vx_ot w = true) (h : w.before args s = true) : w.before a' U = true := by
  simp only [vx_ot, Bool.or_eq_true] at hg
  rcases hg with hg | hg
  · exact va_tabs hg hvm h
  · exact word_at hW (good_of_word hg) h
/-- a list's words: the good ones out of the method's own list, the others by premises of their own -/
theorem vx_hat {args : Array Value} {s : State} {L B : List Cond} (h1 : ∀ w ∈ L.filter goodWord, w.before args s = true) (h2 : ∀ w ∈ L.filter (fun w => !goodWord w), w ∈ B) (h3 : ∀ w ∈ B, w.before args s = true) : ∀ w ∈ L, w.before args s = true := by
  intro w hw
  by_cases g : goodWord w = true
  · exact h1 w (List.mem_filter.mpr ⟨hw, g⟩)
  · refine h3 w (h2 w (List.mem_filter.mpr ⟨hw, ?_⟩))
    show (!goodWord w) = true
    cases hgw : goodWord w
    · rfl
    · exact absurd hgw g
theorem vx_c {args : Array Value} {s : State} {w : Cond} {B : List Cond} (h : w.before args s = true) (t : ∀ w ∈ B, w.before args s = true) : ∀ w' ∈ w :: B, w'.before args s = true := fun w' h' => (List.mem_cons.mp h').elim (fun e => by rw [e]; exact h) (t w')
theorem vx_n {args : Array Value} {s : State} : ∀ w ∈ ([] : List Cond), w.before args s = true := fun _ h => nomatch h
theorem vx_own {args : Array Value} {s : State} {L : List Cond} (h1 : ∀ w ∈ L.filter vx_no, w.before args s = true)
    (hU : (Cond.isRef (.static Bundle.tN "UNASSIGNED_STACK" Bundle.steD)).before args s = true) (hN : (Cond.isRef (.static Bundle.tN "SUPPRESSED_SENTINEL" Bundle.listD)).before args s = true)
    (lU : (Cond.laysStatic Bundle.tN "UNASSIGNED_STACK" Bundle.steD).before args s = true) (lN : (Cond.laysStatic Bundle.tN "SUPPRESSED_SENTINEL" Bundle.listD).before args s = true) : ∀ w ∈ L, w.before args s = true := by
  intro w hw
  by_cases e1 : w = .isRef (.static Bundle.tN "UNASSIGNED_STACK" Bundle.steD)
  · rw [e1]; exact hU
  · by_cases e2 : w = .isRef (.static Bundle.tN "SUPPRESSED_SENTINEL" Bundle.listD)
    · rw [e2]; exact hN
    · by_cases e3 : w = .laysStatic Bundle.tN "UNASSIGNED_STACK" Bundle.steD
      · rw [e3]; exact lU
      · by_cases e4 : w = .laysStatic Bundle.tN "SUPPRESSED_SENTINEL" Bundle.listD
        · rw [e4]; exact lN
        · exact h1 w (List.mem_filter.mpr ⟨hw, by unfold vx_no; rw [decide_eq_true e1, decide_eq_true e2, decide_eq_true e3, decide_eq_true e4]; rfl⟩)
/-- where a static field lies, its class's statics cell in H -/
def vx_L (C n d : String) (A : Nat → Prop) (U : State) (H : Heap) : Prop := ∃ (c : ClassId) (k : Class) (i : Nat) (f : Field) (a : Nat) (cell : Cell), U.vm.findClass C = some c ∧ U.fieldFound? C n d = some (c, k, i, f) ∧ f.isStatic = true ∧ k.statics = some a ∧ H[a]? = some cell ∧ cell.vm.isStatics = true ∧ cell.cls = c ∧ f.slot < cell.slots.size ∧ k.staticTypes[f.slot]? = some f.type ∧ ¬ A a
theorem vx_L.moved {C n d : String} {A : Nat → Prop} {u U : State} {H : Heap} (hvm : u.vm.Alike U.vm) (h : vx_L C n d A u H) : vx_L C n d A U H := by
  obtain ⟨c, k, i, f, a, cell, h1, h2, h3, h4, h5, h6, h7, h8, h9, h10⟩ := h
  obtain ⟨k', hi', he⟩ := State.fieldFound?_setVm hvm h2
  exact ⟨c, k', i, f, a, cell, by rw [hvm.findClass]; exact h1, hi', h3, by rw [he]; exact h4, h5, h6, h7, h8, by rw [he]; exact h9, h10⟩
theorem vx_L.kept {C n d : String} {A : Nat → Prop} {U : State} {H H1 : Heap} (h : vx_L C n d A U H) (hq : ∀ a : Nat, a < H.size → ¬ A a → H1[a]? = H[a]?) : vx_L C n d A U H1 := by
  obtain ⟨c, k, i, f, a, cell, h1, h2, h3, h4, h5, h6, h7, h8, h9, h10⟩ := h
  exact ⟨c, k, i, f, a, cell, h1, h2, h3, h4, by rw [hq a (Array.getElem?_eq_some_iff.mp h5).1 h10]; exact h5, h6, h7, h8, h9, h10⟩
theorem vx_L.narrow {C n d : String} {A B : Nat → Prop} {U : State} {H : Heap} (h : vx_L C n d A U H) (hAB : ∀ q, B q → A q) : vx_L C n d B U H := by
  obtain ⟨c, k, i, f, a, cell, h1, h2, h3, h4, h5, h6, h7, h8, h9, h10⟩ := h
  exact ⟨c, k, i, f, a, cell, h1, h2, h3, h4, h5, h6, h7, h8, h9, fun z => h10 (hAB _ z)⟩
theorem vx_L.word {C n d : String} {A : Nat → Prop} {s : State} {args : Array Value} (h : vx_L C n d A s s.heap) : (Cond.laysStatic C n d).before args s = true := by
  obtain ⟨c, k, i, f, a, cell, h1, h2, h3, h4, h5, h6, h7, h8, h9, -⟩ := h
  show (Cond.laysStatic C n d).holds args s none s [] = true
  exact Cond.laysStatic_of h1 h2 h3 h4 h5 h6 h7 h8 h9
/-- .. and what it holds: null or some reference -/
def vx_Zq (C n d : String) (A : Nat → Prop) (U : State) (H : Heap) : Prop := va_Zq C n d A U H ∧ vx_L C n d A U H
theorem vx_Zq.moved {C n d : String} {A : Nat → Prop} {u U : State} {H : Heap} (hvm : u.vm.Alike U.vm) (h : vx_Zq C n d A u H) : vx_Zq C n d A U H := ⟨va_Zq.moved hvm h.1, vx_L.moved hvm h.2⟩
theorem vx_Zq.kept {C n d : String} {A : Nat → Prop} {U : State} {H H1 : Heap} (h : vx_Zq C n d A U H) (hq : ∀ a : Nat, a < H.size → ¬ A a → H1[a]? = H[a]?) : vx_Zq C n d A U H1 := ⟨va_Zq.kept h.1 hq, vx_L.kept h.2 hq⟩
theorem vx_Zq.narrow {C n d : String} {A B : Nat → Prop} {U : State} {H : Heap} (h : vx_Zq C n d A U H) (hAB : ∀ q, B q → A q) : vx_Zq C n d B U H := ⟨va_Zq.narrow h.1 hAB, vx_L.narrow h.2 hAB⟩
theorem vx_Zqof {args : Array Value} {s : State} {C n d : String} {A : Nat → Prop} (hl : (Cond.laysStatic C n d).before args s = true) (hini : (Cond.initialized C).before args s = true) (h : (Cond.isRef (.static C n d)).before args s = true) (hA : ∀ a : Nat, a < s.heap.size → ¬ A a) : vx_Zq C n d A s s.heap := by
  refine ⟨va_Zqof hl hini h hA, ?_⟩
  obtain ⟨c, k, i, f, a, cell, h1, h2, h3, h4, h5, h6, h7, h8, h9⟩ := Cond.laysStatic_spec hl
  exact ⟨c, k, i, f, a, cell, h1, h2, h3, h4, h5, h6, h7, h8, h9, hA a (Array.getElem?_eq_some_iff.mp h5).1⟩
theorem vx_isRef {C n d : String} {v : Value} {A : Nat → Prop} {s : State} {args : Array Value} (h : va_Z C n d v A s s.heap) (hv : v.isRef = true) : (Cond.isRef (.static C n d)).before args s = true := by
  obtain ⟨cf, kf, fi, f, a, cell, h1, h2, h3, h4, h5, h6, h7, -⟩ := h
  have he : (Term.static C n d).eval args s none [] s = some v := by
    simp [Term.eval, State.fieldNamed?, h1, h2, h4, h5, h6, h7]
  simp only [Cond.before, Cond.holds, Cond.value, he]
  cases v <;> simp_all [Value.isRef]
theorem vx_isRefq {C n d : String} {A : Nat → Prop} {s : State} {args : Array Value} (h : va_Zq C n d A s s.heap) : (Cond.isRef (.static C n d)).before args s = true := by
  rcases h with h | ⟨t, h⟩
  · exact vx_isRef h rfl
  · exact vx_isRef h rfl
/-- the same frame, seen from here: as if the method were called anew in this heap -/
theorem vx_rebase {T : State} (X : Stand p l e R s m args below meth c T locs cells slots) {R' : Room} (hf : R'.frames ≤ R.frames) (hl : R'.locals ≤ R.locals) (hc : cells + R'.cells ≤ R.cells) (hs : slots + R'.slots ≤ R.slots) :
    Stand p l e R' ((T.setVm s.vm).setFrames (.invoking m args :: below)) m args below meth c T [] 0 0 := by
  have htop : (T.setVm s.vm).topJava?.isSome := X.here.top
  have hF : ((T.setVm s.vm).setFrames (.invoking m args :: below)).frames = .invoking m args :: below := State.frames_setFrames _ (State.cur_lt_of_top htop)
  obtain ⟨g₀, hg0⟩ := Option.isSome_iff_exists.mp htop
  obtain ⟨r, hr⟩ := State.topJava?_eq_some.mp hg0
  have hl9 : e.platform.stackLimits (T.setVm s.vm).me = e.platform.stackLimits s.me := X.limits
  have hb9 : (T.setVm s.vm).me.stackBytes = s.me.stackBytes := X.bytes
  refine ⟨X.admits, X.cas, X.clock, hF, ?_, X.hears, X.method, X.code, X.here, X.tail, X.warmed, ?_, ?_, ?_⟩
  · have h := X.room
    have hU : ((T.setVm s.vm).setFrames (.invoking m args :: below)).localsInUse = s.localsInUse := by
      rw [State.localsInUse_invoking hF (meth := meth) (c := c) X.method X.code, State.localsInUse_invoking X.frames X.method X.code]
    simp only [State.hasRoom, Bool.and_eq_true, decide_eq_true_eq] at h ⊢
    obtain ⟨⟨⟨⟨h1, h2, h3, h4, h5, h6⟩, h7⟩, h8⟩, h9⟩ := h
    rw [X.frames, List.length_cons] at h2 h3
    have q1 := X.heapSize
    have q2 := X.used
    simp only [hF, hU, List.length_cons, State.stackLimits_setFrames, State.stackBytes_setFrames, hl9, hb9]
    refine ⟨⟨⟨⟨by omega, by omega, by omega, by omega, by omega, h6⟩, ?_⟩, ?_⟩, X.book⟩
    · show T.heap.size + R'.cells ≤ e.platform.maxCells
      omega
    · show T.slotsUsed + R'.slots ≤ e.platform.maxSlots
      omega
  · rw [State.stackLimits_setFrames]; rfl
  · rw [State.stackBytes_setFrames]; rfl
  · refine ⟨?_, Nat.le_refl _, Nat.le_refl _, ?_, ?_, fun a c9 h9 => ⟨c9, h9, rfl, rfl, fun _ _ => rfl⟩⟩
    · obtain ⟨t, ht, -⟩ := State.frames_cons hr
      show T.setVm s.vm = { ((T.setVm s.vm).setFrames (.invoking m args :: below)).setFrames (T.setVm s.vm).frames with heap := T.heap, slotsUsed := T.slotsUsed }
      rw [State.setFrames_setFrames, State.setFrames_self ht]
      rfl
    · show T.slotsUsed = T.slotsUsed + ((T.heap.toList.drop T.heap.size).map (·.slots.size)).sum
      rw [List.drop_eq_nil_of_le (Nat.le_of_eq Array.length_toList)]
      rfl
    · show ((T.heap.toList.drop T.heap.size).map (·.slots.size)).sum ≤ 0
      rw [List.drop_eq_nil_of_le (Nat.le_of_eq Array.length_toList)]
      exact Nat.le_refl _
/-- 'throw new E()': new; dup; invokespecial; athrow -/
theorem vx_throw0 {cc : ByteArray} {pc : Nat} (hexec : p.tables.exec = Jvm.exec) (hb : c.code = cc) (hl : l.stackTraces = false) {own cls : String} {names : List String} {ik ic mc ms : Nat} {A : Nat → Prop}
    (hown : s.vm.findClass own = some m.cls) (hcls : Bundle.fit cls = true) (hnames : ∀ n ∈ names, Bundle.fit n = true)
    (hk : (Cond.classLink own ik cls).before args s = true) (hini : (Cond.initialized cls).before args s = true) (hat : ∀ w ∈ vx_at0 own ic cls names, w.before args s = true)
    (hgood : ∀ w ∈ Cond.classLink own ik cls :: Cond.initialized cls :: vx_at0 own ic cls names, vx_ot w = true)
    (hU : vx_Zq Bundle.tN "UNASSIGNED_STACK" Bundle.steD A s s.heap) (hN : vx_Zq Bundle.tN "SUPPRESSED_SENTINEL" Bundle.listD A s s.heap) (hS : va_S A s.heap H locs) (hsize : ls.size = c.maxLocals)
    (d0 : decode cc pc = .ok (.new ik, 3)) (d3 : decode cc (pc + 3) = .ok (.dup, 1)) (d4 : decode cc (pc + 4) = .ok (.invokespecial ic, 3)) (d7 : decode cc (pc + 7) = .ok (.athrow, 1))
    (hout : ∀ x ∈ c.exceptionTable.toList, covers x (pc + 7) = false)
    (hRframes : names.length + 3 < R.frames) (hRlocals : (rest.map fun v => v.category).sum + (13 * (names.length + 1) + 42) ≤ R.locals) (hRcells : cells + 1 ≤ R.cells) (hRslots : slots + 6 ≤ R.slots) (hlocks : meth.locks = false)
    (hx : ∀ t : State, s.vm.Alike t.vm → H.size ≤ t.heap.size → (∀ q : Nat, q < H.size → t.heap[q]? = H[q]?) → XC cls s t)
    (hf : ∀ z ∈ locs, free z.base) (hc : cells + 1 ≤ mc) (hs : slots + 6 ≤ ms) :
    W p l e R s m args below meth c H locs cells slots (vx_MQ below Qc XC args s mc ms free) (F0 m pc ls rest) := by
  intro T hT X
  have htr : e.platform.stackTraces = false := (show e.platform.stackTraces = l.stackTraces by rw [X.admits.platform]).trans hl
  have Y := vx_rebase X (R' := { frames := R.frames, locals := R.locals, cells := 1, slots := 6 }) (Nat.le_refl _) (Nat.le_refl _) hRcells hRslots
  obtain ⟨s', hA⟩ : ∃ z, z = (T.setVm s.vm).setFrames (.invoking m args :: below) := ⟨_, rfl⟩
  rw [← hA] at Y
  have hvm : s'.vm = s.vm := by rw [hA]; rfl
  have hhp : s'.heap = H := by rw [hA]; exact hT
  have hW0 : s.WarmedH s'.vm := by rw [hvm]; exact State.WarmedH.refl s
  have hat' : ∀ w ∈ vx_at0 own ic cls names, w.before args s' = true := fun w hw => vx_ot_at hW0 hvm.symm (hgood w (List.mem_cons_of_mem _ (List.mem_cons_of_mem _ hw))) (hat w hw)
  have hk' : (Cond.classLink own ik cls).before args s' = true := vx_ot_at hW0 hvm.symm (hgood _ List.mem_cons_self) hk
  have hini' : (Cond.initialized cls).before args s' = true := vx_ot_at hW0 hvm.symm (hgood _ (List.mem_cons_of_mem _ List.mem_cons_self)) hini
  have hU' : vx_Zq Bundle.tN "UNASSIGNED_STACK" Bundle.steD A s' s'.heap := by rw [hhp]; exact vx_Zq.moved hW0.alike (hU.kept hS.2.1)
  have hN' : vx_Zq Bundle.tN "SUPPRESSED_SENTINEL" Bundle.listD A s' s'.heap := by rw [hhp]; exact vx_Zq.moved hW0.alike (hN.kept hS.2.1)
  have h : ∀ w ∈ Bundle.ownAtoms0 own ic cls names, w.before args s' = true := vx_own hat' (vx_isRefq hU'.1) (vx_isRefq hN'.1) hU'.2.word hN'.2.word
  have hown' : s'.vm.findClass own = some m.cls := by rw [hvm]; exact hown
  have hins : (Cond.instantiable cls 6).before args s' = true := h _ (by simp [Bundle.ownAtoms0])
  obtain ⟨vm₁, cX, kX, hfX, hkX, -, -, X₁, st1⟩ := Y.newCold hexec (own := own) (C := cls) (index := ik) (n := 6) hown' hk' hins hini'
    (g := F0 m pc ls rest) rfl (by rw [hb]; exact d0) (Nat.le_refl _) (Nat.le_refl _)
  generalize hT1 : (T.setVm vm₁).pushCell { cls := cX, slots := kX.instanceTypes.map defaultValue, vm := .none } = T1 at X₁ st1
  have hcat : (Value.ref T.heap.size).category = 1 := rfl
  have hcellA : T1.heap[T.heap.size]? = some (freshCell cX kX) := by rw [← hT1]; exact State.heap_pushCell_size _ _
  have d3' : decode c.code (pc + 3) = .ok (.dup, 1) := by rw [hb]; exact d3
  obtain ⟨U, hsteps, hrun, hend, hW, hsame, ce, hce, hO⟩ := X₁.ctorThrow0 hexec htr (own := own) (cls := cls) (names := names) (ic := ic) hown' hcls hnames h (fun x hx => nomatch hx) hfX hkX hcellA (by rw [hhp, hT]; exact Nat.le_refl _)
    (g := { method := m, pc := pc + 4, locals := ls, stack := .ref T.heap.size :: .ref T.heap.size :: rest, locked := none }) rfl hsize rfl rfl (rest := rest) rfl
    (by rw [hb]; exact d4) (by rw [hb]; exact d7) hout hRframes (by simp only [List.map_cons, List.sum_cons, hcat]; omega) hlocks
  obtain ⟨f1, f2⟩ := vx_frame hsame
  rw [hhp] at f1 f2
  have hWs : s.WarmedH U.vm := State.WarmedH.trans hW0 hW
  have hcl : s.vm.findClass cls = some ce.cls := by
    have h9 := hO.cls
    rw [hvm] at h9
    exact h9
  have hall : s.sameButNew ({ U with vm := s.vm } : State) locs mc ms := by
    subst hA
    obtain ⟨e1, e2⟩ := hsame
    rw [State.setFrames_setFrames] at e1
    have h2 : (T.setVm s.vm).sameButNew ({ U with vm := s.vm } : State) [] (0 + 1) (0 + 6) := ⟨e1, e2⟩
    have h3 := X.same.trans h2
    rw [List.append_nil] at h3
    exact h3.mono hc hs
  refine ⟨U, ?_, .threw T.heap.size, hrun, hend, Or.inr ⟨T.heap.size, rfl, cls, ce, locs, hx U hWs.alike f1 (fun q hq => f2 q hq (fun z hz => nomatch hz)), hce, hO.vm, hcl, hWs, hall, hf⟩⟩
  refine st1 _ ?_
  show Steps p.tables e below (T1.setTop { method := m, pc := pc + 3, locals := ls, stack := .ref T.heap.size :: rest, locked := none }) _
  jvm_step X₁.here [X₁.here.top, hexec, d3', Value.category]
  exact hsteps
/-- 'throw new E("text")': new; dup; ldc; invokespecial; athrow -/
theorem vx_throwS {cc : ByteArray} {pc : Nat} (hexec : p.tables.exec = Jvm.exec) (hb : c.code = cc) (hl : l.stackTraces = false) {own cls text : String} {names : List String} {ik is ic mc ms sa : Nat} {A : Nat → Prop}
    (hown : s.vm.findClass own = some m.cls) (hcls : Bundle.fit cls = true) (hnames : ∀ n ∈ names, Bundle.fit n = true)
    (hk : (Cond.classLink own ik cls).before args s = true) (hini : (Cond.initialized cls).before args s = true) (hstr : vk_R own is text sa s) (hat : ∀ w ∈ vx_atS own ic cls names, w.before args s = true)
    (hgood : ∀ w ∈ Cond.classLink own ik cls :: Cond.initialized cls :: vx_atS own ic cls names, vx_ot w = true)
    (hU : vx_Zq Bundle.tN "UNASSIGNED_STACK" Bundle.steD A s s.heap) (hN : vx_Zq Bundle.tN "SUPPRESSED_SENTINEL" Bundle.listD A s s.heap) (hS : va_S A s.heap H locs) (hsize : ls.size = c.maxLocals)
    (d0 : decode cc pc = .ok (.new ik, 3)) (d3 : decode cc (pc + 3) = .ok (.dup, 1)) (d4 : decode cc (pc + 4) = .ok (.ldc is, 2)) (d6 : decode cc (pc + 6) = .ok (.invokespecial ic, 3)) (d9 : decode cc (pc + 9) = .ok (.athrow, 1))
    (hout : ∀ x ∈ c.exceptionTable.toList, covers x (pc + 9) = false)
    (hRframes : names.length + 3 < R.frames) (hRlocals : (rest.map fun v => v.category).sum + (13 * (names.length + 1) + 43) ≤ R.locals) (hRcells : cells + 1 ≤ R.cells) (hRslots : slots + 6 ≤ R.slots) (hlocks : meth.locks = false)
    (hx : ∀ t : State, s.vm.Alike t.vm → H.size ≤ t.heap.size → (∀ q : Nat, q < H.size → t.heap[q]? = H[q]?) → XC cls s t)
    (hf : ∀ z ∈ locs, free z.base) (hc : cells + 1 ≤ mc) (hs : slots + 6 ≤ ms) :
    W p l e R s m args below meth c H locs cells slots (vx_MQ below Qc XC args s mc ms free) (F0 m pc ls rest) := by
  intro T hT X
  have htr : e.platform.stackTraces = false := (show e.platform.stackTraces = l.stackTraces by rw [X.admits.platform]).trans hl
  have Y := vx_rebase X (R' := { frames := R.frames, locals := R.locals, cells := 1, slots := 6 }) (Nat.le_refl _) (Nat.le_refl _) hRcells hRslots
  obtain ⟨s', hA⟩ : ∃ z, z = (T.setVm s.vm).setFrames (.invoking m args :: below) := ⟨_, rfl⟩
  rw [← hA] at Y
  have hvm : s'.vm = s.vm := by rw [hA]; rfl
  have hhp : s'.heap = H := by rw [hA]; exact hT
  have hW0 : s.WarmedH s'.vm := by rw [hvm]; exact State.WarmedH.refl s
  have hat' : ∀ w ∈ vx_atS own ic cls names, w.before args s' = true := fun w hw => vx_ot_at hW0 hvm.symm (hgood w (List.mem_cons_of_mem _ (List.mem_cons_of_mem _ hw))) (hat w hw)
  have hk' : (Cond.classLink own ik cls).before args s' = true := vx_ot_at hW0 hvm.symm (hgood _ List.mem_cons_self) hk
  have hini' : (Cond.initialized cls).before args s' = true := vx_ot_at hW0 hvm.symm (hgood _ (List.mem_cons_of_mem _ List.mem_cons_self)) hini
  have hU' : vx_Zq Bundle.tN "UNASSIGNED_STACK" Bundle.steD A s' s'.heap := by rw [hhp]; exact vx_Zq.moved hW0.alike (hU.kept hS.2.1)
  have hN' : vx_Zq Bundle.tN "SUPPRESSED_SENTINEL" Bundle.listD A s' s'.heap := by rw [hhp]; exact vx_Zq.moved hW0.alike (hN.kept hS.2.1)
  have h : ∀ w ∈ Bundle.ownAtoms own ic cls names, w.before args s' = true := vx_own hat' (vx_isRefq hU'.1) (vx_isRefq hN'.1) hU'.2.word hN'.2.word
  have hown' : s'.vm.findClass own = some m.cls := by rw [hvm]; exact hown
  have hins : (Cond.instantiable cls 6).before args s' = true := h _ (by simp [Bundle.ownAtoms])
  obtain ⟨vm₁, cX, kX, hfX, hkX, -, -, X₁, st1⟩ := Y.newCold hexec (own := own) (C := cls) (index := ik) (n := 6) hown' hk' hins hini'
    (g := F0 m pc ls rest) rfl (by rw [hb]; exact d0) (Nat.le_refl _) (Nat.le_refl _)
  generalize hT1 : (T.setVm vm₁).pushCell { cls := cX, slots := kX.instanceTypes.map defaultValue, vm := .none } = T1 at X₁ st1
  have hcat : (Value.ref T.heap.size).category = 1 := rfl
  have hcellA : T1.heap[T.heap.size]? = some (freshCell cX kX) := by rw [← hT1]; exact State.heap_pushCell_size _ _
  have d3' : decode c.code (pc + 3) = .ok (.dup, 1) := by rw [hb]; exact d3
  have d4' : decode c.code (pc + 4) = .ok (.ldc is, 2) := by rw [hb]; exact d4
  have hstr' : vk_R own is text sa s' := vk_R.warm hW0 hstr
  obtain ⟨U, hsteps, hrun, hend, hW, hsame, ce, hce, hO⟩ := X₁.ctorThrowS hexec htr (own := own) (cls := cls) (names := names) (ic := ic) hown' hcls hnames h (fun x hx => nomatch hx) hfX hkX hcellA (by rw [hhp, hT]; exact Nat.le_refl _) (msg := .ref sa) rfl
    (g := { method := m, pc := pc + 6, locals := ls, stack := .ref sa :: .ref T.heap.size :: .ref T.heap.size :: rest, locked := none }) rfl hsize rfl rfl (rest := rest) rfl
    (by rw [hb]; exact d6) (by rw [hb]; exact d9) hout hRframes (by simp only [List.map_cons, List.sum_cons, hcat]; omega) hlocks
  obtain ⟨f1, f2⟩ := vx_frame hsame
  rw [hhp] at f1 f2
  have hWs : s.WarmedH U.vm := State.WarmedH.trans hW0 hW
  have hcl : s.vm.findClass cls = some ce.cls := by
    have h9 := hO.cls
    rw [hvm] at h9
    exact h9
  have hall : s.sameButNew ({ U with vm := s.vm } : State) locs mc ms := by
    subst hA
    obtain ⟨e1, e2⟩ := hsame
    rw [State.setFrames_setFrames] at e1
    have h2 : (T.setVm s.vm).sameButNew ({ U with vm := s.vm } : State) [] (0 + 1) (0 + 6) := ⟨e1, e2⟩
    have h3 := X.same.trans h2
    rw [List.append_nil] at h3
    exact h3.mono hc hs
  refine ⟨U, ?_, .threw T.heap.size, hrun, hend, Or.inr ⟨T.heap.size, rfl, cls, ce, locs, hx U hWs.alike f1 (fun q hq => f2 q hq (fun z hz => nomatch hz)), hce, hO.vm, hcl, hWs, hall, hf⟩⟩
  refine st1 _ ?_
  show Steps p.tables e below (T1.setTop { method := m, pc := pc + 3, locals := ls, stack := .ref T.heap.size :: rest, locked := none }) _
  jvm_step X₁.here [X₁.here.top, hexec, d3', Value.category]
  exact X₁.ldcString hexec (own := own) (text := text) (index := is) (a := sa) hown' hstr'.1 hstr'.2
    (g := { method := m, pc := pc + 4, locals := ls, stack := .ref T.heap.size :: .ref T.heap.size :: rest, locked := none }) rfl d4' _ hsteps
/-- 'throw new E("text")', the text by a wide index -/
theorem vx_throwSW {cc : ByteArray} {pc : Nat} (hexec : p.tables.exec = Jvm.exec) (hb : c.code = cc) (hl : l.stackTraces = false) {own cls text : String} {names : List String} {ik is ic mc ms sa : Nat} {A : Nat → Prop}
    (hown : s.vm.findClass own = some m.cls) (hcls : Bundle.fit cls = true) (hnames : ∀ n ∈ names, Bundle.fit n = true)
    (hk : (Cond.classLink own ik cls).before args s = true) (hini : (Cond.initialized cls).before args s = true) (hstr : vk_R own is text sa s) (hat : ∀ w ∈ vx_atS own ic cls names, w.before args s = true)
    (hgood : ∀ w ∈ Cond.classLink own ik cls :: Cond.initialized cls :: vx_atS own ic cls names, vx_ot w = true)
    (hU : vx_Zq Bundle.tN "UNASSIGNED_STACK" Bundle.steD A s s.heap) (hN : vx_Zq Bundle.tN "SUPPRESSED_SENTINEL" Bundle.listD A s s.heap) (hS : va_S A s.heap H locs) (hsize : ls.size = c.maxLocals)
    (d0 : decode cc pc = .ok (.new ik, 3)) (d3 : decode cc (pc + 3) = .ok (.dup, 1)) (d4 : decode cc (pc + 4) = .ok (.ldc_w is, 3)) (d7 : decode cc (pc + 7) = .ok (.invokespecial ic, 3)) (d10 : decode cc (pc + 10) = .ok (.athrow, 1))
    (hout : ∀ x ∈ c.exceptionTable.toList, covers x (pc + 10) = false)
    (hRframes : names.length + 3 < R.frames) (hRlocals : (rest.map fun v => v.category).sum + (13 * (names.length + 1) + 43) ≤ R.locals) (hRcells : cells + 1 ≤ R.cells) (hRslots : slots + 6 ≤ R.slots) (hlocks : meth.locks = false)
    (hx : ∀ t : State, s.vm.Alike t.vm → H.size ≤ t.heap.size → (∀ q : Nat, q < H.size → t.heap[q]? = H[q]?) → XC cls s t)
    (hf : ∀ z ∈ locs, free z.base) (hc : cells + 1 ≤ mc) (hs : slots + 6 ≤ ms) :
    W p l e R s m args below meth c H locs cells slots (vx_MQ below Qc XC args s mc ms free) (F0 m pc ls rest) := by
  intro T hT X
  have htr : e.platform.stackTraces = false := (show e.platform.stackTraces = l.stackTraces by rw [X.admits.platform]).trans hl
  have Y := vx_rebase X (R' := { frames := R.frames, locals := R.locals, cells := 1, slots := 6 }) (Nat.le_refl _) (Nat.le_refl _) hRcells hRslots
  obtain ⟨s', hA⟩ : ∃ z, z = (T.setVm s.vm).setFrames (.invoking m args :: below) := ⟨_, rfl⟩
  rw [← hA] at Y
  have hvm : s'.vm = s.vm := by rw [hA]; rfl
  have hhp : s'.heap = H := by rw [hA]; exact hT
  have hW0 : s.WarmedH s'.vm := by rw [hvm]; exact State.WarmedH.refl s
  have hat' : ∀ w ∈ vx_atS own ic cls names, w.before args s' = true := fun w hw => vx_ot_at hW0 hvm.symm (hgood w (List.mem_cons_of_mem _ (List.mem_cons_of_mem _ hw))) (hat w hw)
  have hk' : (Cond.classLink own ik cls).before args s' = true := vx_ot_at hW0 hvm.symm (hgood _ List.mem_cons_self) hk
  have hini' : (Cond.initialized cls).before args s' = true := vx_ot_at hW0 hvm.symm (hgood _ (List.mem_cons_of_mem _ List.mem_cons_self)) hini
  have hU' : vx_Zq Bundle.tN "UNASSIGNED_STACK" Bundle.steD A s' s'.heap := by rw [hhp]; exact vx_Zq.moved hW0.alike (hU.kept hS.2.1)
  have hN' : vx_Zq Bundle.tN "SUPPRESSED_SENTINEL" Bundle.listD A s' s'.heap := by rw [hhp]; exact vx_Zq.moved hW0.alike (hN.kept hS.2.1)
  have h : ∀ w ∈ Bundle.ownAtoms own ic cls names, w.before args s' = true := vx_own hat' (vx_isRefq hU'.1) (vx_isRefq hN'.1) hU'.2.word hN'.2.word
  have hown' : s'.vm.findClass own = some m.cls := by rw [hvm]; exact hown
  have hins : (Cond.instantiable cls 6).before args s' = true := h _ (by simp [Bundle.ownAtoms])
  obtain ⟨vm₁, cX, kX, hfX, hkX, -, -, X₁, st1⟩ := Y.newCold hexec (own := own) (C := cls) (index := ik) (n := 6) hown' hk' hins hini'
    (g := F0 m pc ls rest) rfl (by rw [hb]; exact d0) (Nat.le_refl _) (Nat.le_refl _)
  generalize hT1 : (T.setVm vm₁).pushCell { cls := cX, slots := kX.instanceTypes.map defaultValue, vm := .none } = T1 at X₁ st1
  have hcat : (Value.ref T.heap.size).category = 1 := rfl
  have hcellA : T1.heap[T.heap.size]? = some (freshCell cX kX) := by rw [← hT1]; exact State.heap_pushCell_size _ _
  have d3' : decode c.code (pc + 3) = .ok (.dup, 1) := by rw [hb]; exact d3
  have d4' : decode c.code (pc + 4) = .ok (.ldc_w is, 3) := by rw [hb]; exact d4
  have hstr' : vk_R own is text sa s' := vk_R.warm hW0 hstr
  obtain ⟨U, hsteps, hrun, hend, hW, hsame, ce, hce, hO⟩ := X₁.ctorThrowS hexec htr (own := own) (cls := cls) (names := names) (ic := ic) hown' hcls hnames h (fun x hx => nomatch hx) hfX hkX hcellA (by rw [hhp, hT]; exact Nat.le_refl _) (msg := .ref sa) rfl
    (g := { method := m, pc := pc + 7, locals := ls, stack := .ref sa :: .ref T.heap.size :: .ref T.heap.size :: rest, locked := none }) rfl hsize rfl rfl (rest := rest) rfl
    (by rw [hb]; exact d7) (by rw [hb]; exact d10) hout hRframes (by simp only [List.map_cons, List.sum_cons, hcat]; omega) hlocks
  obtain ⟨f1, f2⟩ := vx_frame hsame
  rw [hhp] at f1 f2
  have hWs : s.WarmedH U.vm := State.WarmedH.trans hW0 hW
  have hcl : s.vm.findClass cls = some ce.cls := by
    have h9 := hO.cls
    rw [hvm] at h9
    exact h9
  have hall : s.sameButNew ({ U with vm := s.vm } : State) locs mc ms := by
    subst hA
    obtain ⟨e1, e2⟩ := hsame
    rw [State.setFrames_setFrames] at e1
    have h2 : (T.setVm s.vm).sameButNew ({ U with vm := s.vm } : State) [] (0 + 1) (0 + 6) := ⟨e1, e2⟩
    have h3 := X.same.trans h2
    rw [List.append_nil] at h3
    exact h3.mono hc hs
  refine ⟨U, ?_, .threw T.heap.size, hrun, hend, Or.inr ⟨T.heap.size, rfl, cls, ce, locs, hx U hWs.alike f1 (fun q hq => f2 q hq (fun z hz => nomatch hz)), hce, hO.vm, hcl, hWs, hall, hf⟩⟩
  refine st1 _ ?_
  show Steps p.tables e below (T1.setTop { method := m, pc := pc + 3, locals := ls, stack := .ref T.heap.size :: rest, locked := none }) _
  jvm_step X₁.here [X₁.here.top, hexec, d3', Value.category]
  exact X₁.ldcStringW hexec (own := own) (text := text) (index := is) (a := sa) hown' hstr'.1 hstr'.2
    (g := { method := m, pc := pc + 4, locals := ls, stack := .ref T.heap.size :: .ref T.heap.size :: rest, locked := none }) rfl d4' _ hsteps
end Ends
section Bodies
variable {l : Launch}
theorem vx_ofW {y : MethodName} {ws ws' : List Cond} {rm : Room} {Pc : Array Value → State → Prop} {Qc : Array Value → State → Outcome → State → Prop} {XC : String → State → State → Prop} {mc ms : Nat} {free : Addr → Prop} {cc : ByteArray} {maxL : Nat} {ret : Option FieldType}
    (hy : plainName y.cls = true) (hw : ws = Cond.code y cc maxL ret :: ws')
    (body : ∀ p e s m args below meth c s₁, BodyLoose p l y (headSpec ws rm) cc maxL ret e s m args below meth c s₁ → c.maxLocals = maxL → (∀ x ∈ c.exceptionTable.toList, False) → Pc args s →
      W p l e (headSpec ws rm).room s m args below meth c s.heap [] 0 0 (vx_MQ below Qc XC args s mc ms free) (entryFrame m args maxL)) : vx_Met l y ws rm Pc Qc XC mc ms free := by
  refine MetFree.of_bodyS (code := cc) (maxLocals := maxL) (ret := ret) hy ?_ ?_
  · intro args s m h hn
    obtain ⟨meth, c, h1, h2, h3, h4, h5, h6, -, -⟩ := Cond.code_spec hn (atoms_spec (ws := ws) h _ (by rw [hw]; exact List.mem_cons_self))
    exact ⟨meth, c, h1, h2, h3, h4, h5, h6⟩
  · intro p e s m args below meth c s₁ B hml hP _
    have hh0 : s₁.heap = s.heap := by rw [B.state]; rfl
    have ht : ∀ x ∈ c.exceptionTable.toList, False := by
      obtain ⟨meth9, c9, h1, h2, -, -, -, -, h7, -⟩ := Cond.code_spec B.named (atoms_spec (ws := ws) B.pre _ (by rw [hw]; exact List.mem_cons_self))
      cases Option.some.inj (h1.symm.trans B.method)
      cases Option.some.inj (h2.symm.trans (Stand.of_body B).code)
      intro x hx
      rw [Array.isEmpty_iff.mp h7] at hx
      cases hx
    obtain ⟨t, a1, o, b1, b2, b3⟩ := body p e s m args below meth c s₁ B hml ht hP s₁ hh0 (Stand.of_body B)
    exact ⟨t, o, a1, b1, b2, b3⟩
/-- the table of a body with handlers -/
theorem vx_table {p : Program} {x y : MethodName} {S : Spec} {cc bytes : ByteArray} {maxL maxL' : Nat} {ret ret' : Option FieldType} {e : Env} {s s₁ : State} {m : MethodId} {args : Array Value} {below : List Frame} {meth : Method} {c : Code} {hh : List (Nat × Nat × Nat × Nat)}
    (B : BodyLoose p l y S cc maxL ret e s m args below meth c s₁) (h : (Cond.codeWith y bytes maxL' ret' hh).before args s = true) : c.exceptionTable.toList = tableOf hh := by
  obtain ⟨m9, meth9, c9, hn9, h1, h2, -, -, h6, -⟩ := Cond.codeWith_spec h
  cases Option.some.inj (hn9.symm.trans B.named)
  cases Option.some.inj (h1.symm.trans B.method)
  cases Option.some.inj (h2.symm.trans (Stand.of_body B).code)
  rw [← h6, table_eq]
end Bodies
end VXA
/-! ===== END ===== -/
/-! ===== BEGIN a static call of a method with an exception table ===== -/
section VXS
variable {p : Program} {l : Launch} {e : Env} {R : Room} {s : State} {m : MethodId} {args : Array Value} {below : List Frame} {meth : Method} {c : Code} {T : State} {H : Heap} {locs : List Loc} {cells slots : Nat}
abbrev vx_CSW (R : Room) (s : State) (args : Array Value) (own : String) (index : Nat) (y : MethodName) (bytes : ByteArray) (maxL : Nat) (ret : Option FieldType) (hh : List (Nat × Nat × Nat × Nat)) (ws : List Cond) (rm : Room) (mc ms n : Nat) : Prop :=
  (rm.cells = mc ∧ rm.slots = ms ∧ rm.frames + 1 ≤ R.frames ∧ 8 + (maxL + 11) + rm.locals ≤ R.locals ∧ (∀ w ∈ ws, ∀ (a' : Array Value) (U : State), s.WarmedH U.vm → w.before a' U = true) ∧ Cond.codeWith y bytes maxL ret hh ∈ ws) ∧
  (Cond.codeWith y bytes maxL ret hh).before args s = true ∧ (Cond.initialized y.cls).before args s = true ∧ (y.cls ≠ "java/lang/invoke/MethodHandle" ∧ y.cls ≠ "java/lang/invoke/VarHandle") ∧
  (∀ sig, parseMethodDescriptor y.desc = some sig → n = sig.parameters.length) ∧ (Cond.methodLink own index y).before args s = true ∧ (Cond.static y).before args s = true
theorem vx_cwSW {own : String} {index maxL mc ms : Nat} {y : MethodName} {bytes : ByteArray} {ret : Option FieldType} {hh : List (Nat × Nat × Nat × Nat)} {Ts ws ws' : List Cond} {rm : Room} (n : Nat) (ht : ∀ w ∈ Ts, w.before args s = true) (hT : GoodIn Ts (va_wsS own index y ws)) (hw : ws = Cond.codeWith y bytes maxL ret hh :: ws') (hrc : rm.cells = mc) (hrs : rm.slots = ms)
    (hd : y.cls ≠ "java/lang/invoke/MethodHandle" ∧ y.cls ≠ "java/lang/invoke/VarHandle" ∧ (parseMethodDescriptor y.desc).map (fun d => d.parameters.length) = some n) (hR : rm.frames + 1 ≤ R.frames ∧ 8 + (maxL + 11) + rm.locals ≤ R.locals) :
    vx_CSW R s args own index y bytes maxL ret hh ws rm mc ms n := by
  have ok : ∀ w ∈ va_wsS own index y ws, w.before args s = true := fun w h => ht w (hT w h).1
  have hG : GoodIn Ts ws := fun w h => hT w (by unfold va_wsS; exact List.mem_append_right _ h)
  have hc : Cond.codeWith y bytes maxL ret hh ∈ ws := by rw [hw]; exact List.mem_cons_self
  refine ⟨⟨hrc, hrs, hR.1, hR.2, pay_in ht hG, hc⟩, ht _ (hG _ hc).1, ok _ (by simp [va_wsS]), ⟨hd.1, hd.2.1⟩, fun sig h => ?_, ok _ (by simp [va_wsS]), ok _ (by simp [va_wsS])⟩
  have h2 := hd.2.2
  rw [h] at h2
  exact (Option.some.inj h2).symm
theorem vx_callSW (X : Stand p l e R s m args below meth c T locs cells slots) (hexec : p.tables.exec = Jvm.exec) {own : String} {index : Nat} {y : MethodName} {bytes : ByteArray} {maxL : Nat} {ret : Option FieldType} {hh : List (Nat × Nat × Nat × Nat)}
    (hown : s.vm.findClass own = some m.cls) (hlink : (Cond.methodLink own index y).before args s = true) (hstat : (Cond.static y).before args s = true) (hinit : (Cond.initialized y.cls).before args s = true)
    (hcode : (Cond.codeWith y bytes maxL ret hh).before args s = true) (hy : y.cls ≠ "java/lang/invoke/MethodHandle" ∧ y.cls ≠ "java/lang/invoke/VarHandle")
    {W9 : Nat} {Pre : Pt → Array Value → Prop} {Post : Pt → Array Value → Option Value → Pt → Prop} (hK : Back l R p e below s args y 3 W9 Pre Post)
    {g : JFrame} (hg : g.method = m) (hsize : g.locals.size = c.maxLocals) {argsL rest : List Value} (hlen : ∀ sig, parseMethodDescriptor y.desc = some sig → argsL.length = sig.parameters.length)
    (hstack : g.stack = argsL.reverse ++ rest) (hW : 2 * g.monitorRoom + (rest.map fun v => v.category).sum ≤ W9) (hdg : decode c.code g.pc = .ok (.invokestatic index, 3))
    (hpre : ∀ vm₁, s.WarmedH vm₁ → Pre ⟨T.setVm vm₁, locs, cells, slots⟩ argsL.toArray) :
    ∃ (v : Option Value) (vm₁ : Vm) (B : Pt), s.WarmedH vm₁ ∧ Stand p l e R s m args below meth c B.U B.locs B.cells B.slots ∧ Post ⟨T.setVm vm₁, locs, cells, slots⟩ argsL.toArray v B ∧
      ∀ target, Steps p.tables e below (B.U.setTop { g with pc := g.pc + 3, stack := v.toList ++ rest }) target → Steps p.tables e below (T.setTop g) target := by
  obtain ⟨mk, methM, cM, hnamed, hmethM, -, -, -, -, -, -, hsigM⟩ := Cond.codeWith_spec hcode
  have hstatic : methM.isStatic = true := Cond.static_spec hnamed hmethM hstat
  obtain ⟨kP, hkP, -⟩ := className_of_methodNamed hnamed
  have hinitP : kP.init = .initialized := Cond.initialized_spec (findClass_of_methodNamed hnamed) hkP hinit
  obtain ⟨vm₁, X₁, hstep₁⟩ := X.invokestatic hexec hown hlink hnamed hmethM hstatic hkP hinitP hy (g := g) hg (argsL := argsL) (rest := rest) (hlen _ hsigM) hstack hdg
  obtain ⟨v, B, X', hpost, hsteps⟩ := hK m meth c ⟨T.setVm vm₁, locs, cells, slots⟩ { g with stack := rest } (.invokestatic index) mk argsL.toArray X₁ hg hsize hdg hW (X₁.named hnamed) (hpre vm₁ X₁.warmed)
  exact ⟨v, vm₁, B, X₁.warmed, X', hpost, fun target h => hstep₁ _ fun acts => by rw [doInvoke_state]; exact hsteps.trans h⟩
theorem vx_runSW {y : MethodName} {bytes cc : ByteArray} {maxL nL mc ms n index : Nat} {ret : Option FieldType} {hh : List (Nat × Nat × Nat × Nat)} {ws : List Cond} {rm : Room} {Pc : Array Value → State → Prop} {Qc : Array Value → State → Outcome → State → Prop} {free : Addr → Prop} {Ts : List Cond} {own : String} {As rest : List Value} {g : JFrame}
    (S : CallFix p m c cc nL s args Ts own) (hM : Met l y ws rm Pc Qc mc ms free) (cw : vx_CSW R s args own index y bytes maxL ret hh ws rm mc ms n) (hp : PreS s H Pc As)
    (hg : g.method = m) (hn : As.length = n) (hsize : g.locals.size = nL) (hstack : g.stack = As.reverse ++ rest) (hW : 2 * g.monitorRoom + (rest.map fun v => v.category).sum ≤ 8) (hdg : decode cc g.pc = .ok (.invokestatic index, 3)) (hf : cells + mc ≤ R.cells ∧ slots + ms ≤ R.slots) :
    va_Run p l e R s m args below meth c H locs cells slots mc ms g rest (Qc As.toArray) (free) := by
  obtain ⟨⟨hrc, hrs, hfr, hlo, hws, hcw⟩, hcode, hini, hy, hlen, hl, hstt⟩ := cw
  have hK : Back l R p e below s args y 3 8 (PreOf R mc ms Pc) (PostOf Qc mc ms free) := va_backW (hh := hh) (bytes := bytes) (maxL := maxL) (ret := ret) hM hp.1 hrc hrs hfr hlo hws hcw (fun a' U hW => word_at hW (Or.inl (by first | rfl | simp [Cond.onTables, Cond.keeps, Cond.steady])) hini)
  obtain ⟨hx, hb, hml, ho, -⟩ := S
  intro T hT X
  obtain ⟨v, vm₁, ⟨U', l2, c2, s2⟩, hW₁, X', ⟨g', mk, t, L, e1, e2, hq, h1, hL, h2, h3⟩, st⟩ := vx_callSW X hx (hh := hh) (bytes := bytes) (maxL := maxL) (ret := ret) ho hl hstt hini hcode hy hK hg (hsize.trans hml.symm) (argsL := As) (rest := rest) (fun sig h => hn.trans (hlen sig h)) hstack hW (by rw [hb]; exact hdg)
    (fun vm₁ hW₁ => ⟨hf.1, hf.2, hp.2 (T.setVm vm₁) hT hW₁⟩)
  dsimp only [Pt.U, Pt.locs, Pt.cells, Pt.slots] at X' e1 e2 h1 h2 h3 st
  subst h1; subst h2; subst h3
  exact ⟨v, (T.setVm vm₁).calling g' mk As.toArray, t, U', L, hT, X', hL, e1, e2, hq, st⟩
/-- not caught here, past rows that name other classes: it goes on to the caller -/
theorem vx_outP {p : Program} {l : Launch} {e : Env} {R : Room} {s : State} {m : MethodId} {args : Array Value} {below : List Frame} {meth : Method} {c : Code} {H : Heap} {locs : List Loc} {cells slots : Nat} {free : Addr → Prop} {ls : Array Slot} {rest : List Value} {Qc : Array Value → State → Outcome → State → Prop} {XC : String → State → State → Prop}
    {pc : Nat} {own E : String} {ce : Cell} {q : Addr} {mc ms : Nat} (hown : s.vm.findClass own = some m.cls) (hlocks : meth.locks = false)
    (hpass : ∀ z ∈ c.exceptionTable.toList, covers z pc = false ∨ (z.catchType ≠ 0 ∧ ∃ nm : String, (Cond.classLink own z.catchType nm).before args s = true ∧ va_Nc E nm s)) (hcell : H[q]? = some ce) (hv : ce.vm = .none) (hcl : s.vm.findClass E = some ce.cls)
    (hx : ∀ t : State, t.heap = H → s.vm.Alike t.vm → XC E s t) (hf : ∀ z ∈ locs, free z.base) (hc : cells ≤ mc) (hs : slots ≤ ms) :
    vx_W p l e R s m args below meth c H locs cells slots (vx_MQ below Qc XC args s mc ms free) (F0 m pc ls rest) q := by
  intro T hT X
  have hpl : e.platform.magicAccessors = ({} : Platform).magicAccessors := by rw [X.admits.platform]
  obtain ⟨vm', hW', X', st⟩ := X.outThrough hlocks q (g := F0 m pc ls rest) rfl rfl rfl (cell := ce) (by rw [hT]; exact hcell) (by rw [hv]; rfl)
    (by obtain ⟨k9, h9, -⟩ := Vm.findClass_spec hcl; exact ⟨k9, h9⟩) (fun z hz => by
      rcases hpass z hz with h | ⟨hz0, nm, hl1, hn1⟩
      · exact Or.inl h
      · obtain ⟨c6, hc6, hcl6⟩ := Cond.classLink_spec hown hl1 e.platform hpl
        obtain ⟨a8, b8, h1, h2, h3⟩ := hn1
        cases Option.some.inj (h1.symm.trans hcl)
        cases Option.some.inj (h2.symm.trans hc6)
        exact Or.inr ⟨hz0, _, hcl6, h3⟩)
  obtain ⟨g₀, hfr⟩ := X'.frames_eq
  have hcell9 : ((T.setVm vm').setFrames (.throwing q :: below)).heap[q]? = some ce := by
    show T.heap[q]? = some ce
    rw [hT]; exact hcell
  have hend : Ended ((T.setVm vm').setFrames (.throwing q :: below)) below (.threw q) := State.frames_setFrames _ (State.cur_lt_of_frames hfr)
  refine ⟨(T.setVm vm').setFrames (.throwing q :: below), ?_, .threw q, X'.here.running, hend, Or.inr ⟨q, rfl, E, ce, locs, hx _ hT (X'.ends _).1.alike, hcell9, hv, hcl, (X'.ends _).1, (X'.ends _).2.mono hc hs, hf⟩⟩
  rw [X.pushThrowing_eq]
  exact st
/-- a thing of a world lies in the heap -/
theorem vx_lt {D : va_G} {cl : List vw_C} {ws : va_W} {H1 : Heap} (h : va_P D cl ws H1) {k : Nat} {q : Nat × va_E} (hk : ws[k]? = some q) : q.1 < H1.size := (h k q hk).lt
end VXS
/-! ===== END ===== -/
/-! ===== BEGIN methods with a table of their own: called by a name, returning or throwing ===== -/
section VXH
/-! vx_backW, vx_callVX, vx_callSX, vx_callVW, vx_runVW, vx_runVX, vx_runSX, vx_ofWH follow the same proofs as their sisters above (Free/Laws.lean, Shelf42/LK1.lean); vx_outP calls Shelf42/NT130.lean (outThrough). -/
section
variable {l : Launch} {R : Room} {p : Program} {e : Env} {below : List Frame} {s : State} {sargs : Array Value} {y : MethodName} {len W9 : Nat}
theorem vx_backW {ws : List Cond} {rm : Room} {Pc : Array Value → State → Prop} {Qc : Array Value → State → Outcome → State → Prop} {XC : String → State → State → Prop} {mc ms : Nat} {free : Addr → Prop} {bytes : ByteArray} {maxL : Nat} {ret : Option FieldType} {hh : List (Nat × Nat × Nat × Nat)}
    (hM : vx_Met l y ws rm Pc Qc XC mc ms free) (hblind : FrameBlind Pc) (hrc : rm.cells = mc) (hrs : rm.slots = ms)
    (hframes : rm.frames + 1 ≤ R.frames) (hlocals : W9 + (maxL + 11) + rm.locals ≤ R.locals)
    (hws : ∀ w ∈ ws, ∀ a' U, s.WarmedH U.vm → w.before a' U = true) (hcode : Cond.codeWith y bytes maxL ret hh ∈ ws) (hinit : ∀ a' U, s.WarmedH U.vm → (Cond.initialized y.cls).before a' U = true) :
    vx_Back l R p e below s sargs y len W9 (PreOf R mc ms Pc) (PostOf Qc mc ms free) (vx_Post XC mc ms free) := by
  intro m meth c A g ig mk a X hg hsize hdg hW hn hp
  have h1 : (headSpec ws rm).pre.before a A.U = true := atoms_intro fun w hw => hws w hw _ _ X.warmed
  have h2 : (Cond.codeWith y bytes maxL ret hh).before a A.U = true := hws _ hcode _ _ X.warmed
  have h3 : (Cond.initialized y.cls).before a A.U = true := hinit _ _ X.warmed
  have h4 : A.cells + (headSpec ws rm).room.cells ≤ R.cells := by rw [show (headSpec ws rm).room.cells = mc from hrc]; exact hp.1
  have h5 : A.slots + (headSpec ws rm).room.slots ≤ R.slots := by rw [show (headSpec ws rm).room.slots = ms from hrs]; exact hp.2.1
  have hPc : Pc a (A.U.calling g mk a) := hblind _ _ _ _ hp.2.2
  obtain ⟨U, Ls, c0, s0⟩ := A
  dsimp only [Pt.U, Pt.locs, Pt.cells, Pt.slots] at h1 h2 h3 h4 h5 X hn hPc ⊢
  obtain ⟨m9, methY, cY, hn9, hmY, hcY, -, hlY, -⟩ := Cond.codeWith_spec h2
  cases Option.some.inj (hn9.symm.trans hn)
  obtain ⟨kY, hkY, -⟩ := className_of_methodNamed hn
  have hinitY : kY.init = .initialized := Cond.initialized_spec (findClass_of_methodNamed hn) hkY h3
  have h : At U g.method c below := by rw [hg]; exact X.here
  have hlocals9 : W9 + (maxL + 11) + (headSpec ws rm).room.locals ≤ R.locals := hlocals
  have happ : (headSpec ws rm).appliesLoose y e.platform (U.calling g mk a) = true :=
    Spec.appliesLoose_calling (g := g) h hdg hn hkY hinitY
      (X.room_calling (g := g) (R' := (headSpec ws rm).room) hsize hmY hcY hframes (by rw [hlY]; omega) h4 h5) h1
  obtain ⟨mid, hmid⟩ := h.above
  have hfr : (U.setTop g).frames = (.java g :: mid) ++ below := by rw [State.frames_setTop' g h.top, hmid]; rfl
  obtain ⟨o, s₂, hsteps, -, hend, hq⟩ := Steps.callFree hM p X.admits X.cas X.clock (acts := []) hfr happ hPc trivial
  have hq' : vx_Q Qc XC mc ms free a (U.calling g mk a) o s₂ := hq
  rw [State.frames_setTop' g h.top] at hend
  obtain ⟨g₀, hg0⟩ := Option.isSome_iff_exists.mp h.top
  obtain ⟨r, hr⟩ := State.topJava?_eq_some.mp hg0
  have hr' : (({ U with heap := s₂.heap, slotsUsed := s₂.slotsUsed } : State).setVm s₂.vm).frames = .java g₀ :: r := hr
  rcases hq' with ⟨hqc, L, hfe, hL⟩ | ⟨q, rfl, E, ce, L, hx, hce, hcv, hcl, hW₂, hsm, hL⟩
  · obtain ⟨⟨v, rfl⟩, hW₂, e2, q2, q3, q4, q5, q6⟩ := id hfe
    have e3 : s₂ = ({ (U.calling g mk a).setFrames s₂.frames with heap := s₂.heap, slotsUsed := s₂.slotsUsed } : State).setVm s₂.vm := by
      have : s₂ = ({ s₂ with vm := (U.calling g mk a).vm } : State).setVm s₂.vm := rfl
      rw [e2] at this
      exact this
    obtain ⟨c₂, i₂, len₂, hc₂, hd₂, hf₂⟩ := hend
    have hW' : U.WarmedH s₂.vm := hW₂
    have hcc : c₂ = c := by
      have h1 : s₂.code? g.method = U.code? g.method := by
        rw [State.code?_eq, State.code?_eq, hW'.alike.method?]
      exact Option.some.inj (hc₂.symm.trans (h1.trans h.code))
    subst hcc
    have hlen : len₂ = len := by rw [hdg] at hd₂; cases hd₂; rfl
    subst hlen
    have hs₂ : s₂ = (({ U with heap := s₂.heap, slotsUsed := s₂.slotsUsed } : State).setVm s₂.vm).setTop { g with pc := g.pc + len₂, stack := v.toList ++ g.stack } := by
      refine e3.trans ?_
      rw [hf₂, State.calling_eq h.top, State.setFrames_setFrames, State.setTop_of_frames _ hr', hr]
      rfl
    have hsame : U.sameButNew ({ U with heap := s₂.heap, slotsUsed := s₂.slotsUsed } : State) L mc ms := by
      refine ⟨?_, q2, q3, q4, q5, q6⟩
      obtain ⟨t, ht, -⟩ := State.frames_cons hr
      show ({ U with heap := s₂.heap, slotsUsed := s₂.slotsUsed } : State) = { U.setFrames U.frames with heap := s₂.heap, slotsUsed := s₂.slotsUsed }
      rw [State.setFrames_self ht]
    subst hg
    refine Or.inl ⟨v, ⟨(({ U with heap := s₂.heap, slotsUsed := s₂.slotsUsed } : State).setVm s₂.vm), Ls ++ L, c0 + mc, s0 + ms⟩,
      ⟨X.admits, X.cas, X.clock, X.frames, X.room, X.hears, X.method, X.code, (X.here.setHeapUsed s₂.heap s₂.slotsUsed).setVm hW'.alike, X.tail, State.WarmedH.trans X.warmed hW', X.limits, X.bytes, X.same.trans (hsame.setVm s.vm)⟩,
      ⟨g, mk, s₂, L, rfl, rfl, hqc, rfl, hL, rfl, rfl⟩, ?_⟩
    show Steps p.tables e below _ ((({ U with heap := s₂.heap, slotsUsed := s₂.slotsUsed } : State).setVm s₂.vm).setTop { g with pc := g.pc + len₂, stack := v.toList ++ g.stack })
    rw [← hs₂]
    exact hsteps
  · obtain ⟨e2, q2, q3, q4, q5, q6⟩ := id hsm
    have e3 : s₂ = ({ (U.calling g mk a).setFrames s₂.frames with heap := s₂.heap, slotsUsed := s₂.slotsUsed } : State).setVm s₂.vm := by
      have : s₂ = ({ s₂ with vm := (U.calling g mk a).vm } : State).setVm s₂.vm := rfl
      rw [e2] at this
      exact this
    have hf₂ : s₂.frames = .throwing q :: .java g :: U.frames.tail := hend
    have hW' : U.WarmedH s₂.vm := hW₂
    have hs₂ : s₂ = ((({ U with heap := s₂.heap, slotsUsed := s₂.slotsUsed } : State).setVm s₂.vm).setTop g).pushFrame (.throwing q) := by
      refine e3.trans ?_
      rw [hf₂, State.calling_eq h.top, State.setFrames_setFrames, State.pushFrame, State.frames_setTop _ hr', State.setTop_of_frames _ hr', State.setFrames_setFrames, hr]
      rfl
    have hsame : U.sameButNew ({ U with heap := s₂.heap, slotsUsed := s₂.slotsUsed } : State) L mc ms := by
      refine ⟨?_, q2, q3, q4, q5, q6⟩
      obtain ⟨t, ht, -⟩ := State.frames_cons hr
      show ({ U with heap := s₂.heap, slotsUsed := s₂.slotsUsed } : State) = { U.setFrames U.frames with heap := s₂.heap, slotsUsed := s₂.slotsUsed }
      rw [State.setFrames_self ht]
    subst hg
    refine Or.inr ⟨q, ⟨(({ U with heap := s₂.heap, slotsUsed := s₂.slotsUsed } : State).setVm s₂.vm), Ls ++ L, c0 + mc, s0 + ms⟩,
      ⟨X.admits, X.cas, X.clock, X.frames, X.room, X.hears, X.method, X.code, (X.here.setHeapUsed s₂.heap s₂.slotsUsed).setVm hW'.alike, X.tail, State.WarmedH.trans X.warmed hW', X.limits, X.bytes, X.same.trans (hsame.setVm s.vm)⟩,
      ⟨g, mk, s₂, L, E, ce, rfl, rfl, hx, hce, hcv, hcl, rfl, hL, rfl, rfl⟩, ?_⟩
    show Steps p.tables e below _ (((({ U with heap := s₂.heap, slotsUsed := s₂.slotsUsed } : State).setVm s₂.vm).setTop g).pushFrame (.throwing q))
    rw [← hs₂]
    exact hsteps
end
variable {p : Program} {l : Launch} {e : Env} {R : Room} {s : State} {m : MethodId} {args : Array Value} {below : List Frame} {meth : Method} {c : Code} {T : State} {H : Heap} {locs : List Loc} {cells slots : Nat}
theorem vx_callVX (X : Stand p l e R s m args below meth c T locs cells slots) (hexec : p.tables.exec = Jvm.exec) {own C : String} {index : Nat} {y : MethodName} {bytes : ByteArray} {maxL : Nat} {ret : Option FieldType} {hh : List (Nat × Nat × Nat × Nat)}
    (hown : s.vm.findClass own = some m.cls) (hlink : (Cond.methodLink own index y).before args s = true) (hinst : (Cond.instanceMethod y).before args s = true) (hsel : (Cond.selects C y y).before args s = true)
    (hcode : (Cond.codeWith y bytes maxL ret hh).before args s = true) (hy : y.cls ≠ "java/lang/invoke/MethodHandle" ∧ y.cls ≠ "java/lang/invoke/VarHandle")
    {W9 : Nat} {Pre : Pt → Array Value → Prop} {Post : Pt → Array Value → Option Value → Pt → Prop} {PostX : Pt → Array Value → Addr → Pt → Prop} (hK : vx_Back l R p e below s args y 3 W9 Pre Post PostX)
    {b : Addr} {cellB : Cell} (hcell : T.heap[b]? = some cellB) (hobj : cellB.vm.isStatics = false) (hcls : s.vm.findClass C = some cellB.cls)
    {g : JFrame} (hg : g.method = m) (hsize : g.locals.size = c.maxLocals) {argsL rest : List Value} (hlen : ∀ sig, parseMethodDescriptor y.desc = some sig → argsL.length = sig.parameters.length)
    (hstack : g.stack = argsL.reverse ++ .ref b :: rest) (hW : 2 * g.monitorRoom + (rest.map fun v => v.category).sum ≤ W9) (hdg : decode c.code g.pc = .ok (.invokevirtual index, 3))
    (hpre : ∀ vm₁, s.WarmedH vm₁ → Pre ⟨T.setVm vm₁, locs, cells, slots⟩ (Value.ref b :: argsL).toArray) :
    (∃ (v : Option Value) (vm₁ : Vm) (B : Pt), s.WarmedH vm₁ ∧ Stand p l e R s m args below meth c B.U B.locs B.cells B.slots ∧ Post ⟨T.setVm vm₁, locs, cells, slots⟩ (Value.ref b :: argsL).toArray v B ∧
      ∀ target, Steps p.tables e below (B.U.setTop { g with pc := g.pc + 3, stack := v.toList ++ rest }) target → Steps p.tables e below (T.setTop g) target) ∨
    (∃ (q : Addr) (vm₁ : Vm) (B : Pt), s.WarmedH vm₁ ∧ Stand p l e R s m args below meth c B.U B.locs B.cells B.slots ∧ PostX ⟨T.setVm vm₁, locs, cells, slots⟩ (Value.ref b :: argsL).toArray q B ∧
      Steps p.tables e below (T.setTop g) ((B.U.setTop { g with stack := rest }).pushFrame (.throwing q))) := by
  obtain ⟨mk, methM, hnamed, hmethM, hstM, habM⟩ := Cond.instanceMethod_spec hinst
  obtain ⟨m8, methM', cM, hn8, hmethM', -, -, -, -, -, -, hsigM⟩ := Cond.codeWith_spec hcode
  cases Option.some.inj (hn8.symm.trans hnamed)
  cases hmethM.symm.trans hmethM'
  obtain ⟨c2, r2, m2, q1, q2, q3, q4, kP, hkP, hkPi⟩ := Cond.selects_spec hsel
  cases hcls.symm.trans q1
  cases (State.methodFound?_of_named hnamed hy).symm.trans q2
  cases hnamed.symm.trans q3
  have hselP : selectMethod e.platform s.vm cellB.cls mk = .method mk := by rw [Launch.admits_selectMethod X.admits]; exact q4
  obtain ⟨vm₁, X₁, hstep₁⟩ := X.invokevirtual hexec hown hlink hnamed hmethM hstM hkP hkPi hy (a := b) (cell := cellB) hcell
    (fun z h => by rw [h] at hobj; cases hobj) hselP hmethM habM hkP hkPi (g := g) hg (argsL := argsL) (rest := rest) (hlen _ hsigM) hstack hdg
  rcases hK m meth c ⟨T.setVm vm₁, locs, cells, slots⟩ { g with stack := rest } (.invokevirtual index) mk (Value.ref b :: argsL).toArray X₁ hg hsize hdg hW (X₁.named hnamed) (hpre vm₁ X₁.warmed) with ⟨v, B, X', hpost, hsteps⟩ | ⟨q, B, X', hpost, hsteps⟩
  · exact Or.inl ⟨v, vm₁, B, X₁.warmed, X', hpost, fun target h => hstep₁ _ fun acts => by rw [doInvoke_state]; exact hsteps.trans h⟩
  · exact Or.inr ⟨q, vm₁, B, X₁.warmed, X', hpost, hstep₁ _ fun acts => by rw [doInvoke_state]; exact hsteps⟩
theorem vx_callSX (X : Stand p l e R s m args below meth c T locs cells slots) (hexec : p.tables.exec = Jvm.exec) {own : String} {index : Nat} {y : MethodName} {bytes : ByteArray} {maxL : Nat} {ret : Option FieldType} {hh : List (Nat × Nat × Nat × Nat)}
    (hown : s.vm.findClass own = some m.cls) (hlink : (Cond.methodLink own index y).before args s = true) (hstat : (Cond.static y).before args s = true) (hinit : (Cond.initialized y.cls).before args s = true)
    (hcode : (Cond.codeWith y bytes maxL ret hh).before args s = true) (hy : y.cls ≠ "java/lang/invoke/MethodHandle" ∧ y.cls ≠ "java/lang/invoke/VarHandle")
    {W9 : Nat} {Pre : Pt → Array Value → Prop} {Post : Pt → Array Value → Option Value → Pt → Prop} {PostX : Pt → Array Value → Addr → Pt → Prop} (hK : vx_Back l R p e below s args y 3 W9 Pre Post PostX)
    {g : JFrame} (hg : g.method = m) (hsize : g.locals.size = c.maxLocals) {argsL rest : List Value} (hlen : ∀ sig, parseMethodDescriptor y.desc = some sig → argsL.length = sig.parameters.length)
    (hstack : g.stack = argsL.reverse ++ rest) (hW : 2 * g.monitorRoom + (rest.map fun v => v.category).sum ≤ W9) (hdg : decode c.code g.pc = .ok (.invokestatic index, 3))
    (hpre : ∀ vm₁, s.WarmedH vm₁ → Pre ⟨T.setVm vm₁, locs, cells, slots⟩ argsL.toArray) :
    (∃ (v : Option Value) (vm₁ : Vm) (B : Pt), s.WarmedH vm₁ ∧ Stand p l e R s m args below meth c B.U B.locs B.cells B.slots ∧ Post ⟨T.setVm vm₁, locs, cells, slots⟩ argsL.toArray v B ∧
      ∀ target, Steps p.tables e below (B.U.setTop { g with pc := g.pc + 3, stack := v.toList ++ rest }) target → Steps p.tables e below (T.setTop g) target) ∨
    (∃ (q : Addr) (vm₁ : Vm) (B : Pt), s.WarmedH vm₁ ∧ Stand p l e R s m args below meth c B.U B.locs B.cells B.slots ∧ PostX ⟨T.setVm vm₁, locs, cells, slots⟩ argsL.toArray q B ∧
      Steps p.tables e below (T.setTop g) ((B.U.setTop { g with stack := rest }).pushFrame (.throwing q))) := by
  obtain ⟨mk, methM, cM, hnamed, hmethM, -, -, -, -, -, -, hsigM⟩ := Cond.codeWith_spec hcode
  have hstatic : methM.isStatic = true := Cond.static_spec hnamed hmethM hstat
  obtain ⟨kP, hkP, -⟩ := className_of_methodNamed hnamed
  have hinitP : kP.init = .initialized := Cond.initialized_spec (findClass_of_methodNamed hnamed) hkP hinit
  obtain ⟨vm₁, X₁, hstep₁⟩ := X.invokestatic hexec hown hlink hnamed hmethM hstatic hkP hinitP hy (g := g) hg (argsL := argsL) (rest := rest) (hlen _ hsigM) hstack hdg
  rcases hK m meth c ⟨T.setVm vm₁, locs, cells, slots⟩ { g with stack := rest } (.invokestatic index) mk argsL.toArray X₁ hg hsize hdg hW (X₁.named hnamed) (hpre vm₁ X₁.warmed) with ⟨v, B, X', hpost, hsteps⟩ | ⟨q, B, X', hpost, hsteps⟩
  · exact Or.inl ⟨v, vm₁, B, X₁.warmed, X', hpost, fun target h => hstep₁ _ fun acts => by rw [doInvoke_state]; exact hsteps.trans h⟩
  · exact Or.inr ⟨q, vm₁, B, X₁.warmed, X', hpost, hstep₁ _ fun acts => by rw [doInvoke_state]; exact hsteps⟩
theorem vx_callVW (X : Stand p l e R s m args below meth c T locs cells slots) (hexec : p.tables.exec = Jvm.exec) {own C : String} {index : Nat} {y : MethodName} {bytes : ByteArray} {maxL : Nat} {ret : Option FieldType} {hh : List (Nat × Nat × Nat × Nat)}
    (hown : s.vm.findClass own = some m.cls) (hlink : (Cond.methodLink own index y).before args s = true) (hinst : (Cond.instanceMethod y).before args s = true) (hsel : (Cond.selects C y y).before args s = true)
    (hcode : (Cond.codeWith y bytes maxL ret hh).before args s = true) (hy : y.cls ≠ "java/lang/invoke/MethodHandle" ∧ y.cls ≠ "java/lang/invoke/VarHandle")
    {W9 : Nat} {Pre : Pt → Array Value → Prop} {Post : Pt → Array Value → Option Value → Pt → Prop} (hK : Back l R p e below s args y 3 W9 Pre Post)
    {b : Addr} {cellB : Cell} (hcell : T.heap[b]? = some cellB) (hobj : cellB.vm.isStatics = false) (hcls : s.vm.findClass C = some cellB.cls)
    {g : JFrame} (hg : g.method = m) (hsize : g.locals.size = c.maxLocals) {argsL rest : List Value} (hlen : ∀ sig, parseMethodDescriptor y.desc = some sig → argsL.length = sig.parameters.length)
    (hstack : g.stack = argsL.reverse ++ .ref b :: rest) (hW : 2 * g.monitorRoom + (rest.map fun v => v.category).sum ≤ W9) (hdg : decode c.code g.pc = .ok (.invokevirtual index, 3))
    (hpre : ∀ vm₁, s.WarmedH vm₁ → Pre ⟨T.setVm vm₁, locs, cells, slots⟩ (Value.ref b :: argsL).toArray) :
    ∃ (v : Option Value) (vm₁ : Vm) (B : Pt), s.WarmedH vm₁ ∧ Stand p l e R s m args below meth c B.U B.locs B.cells B.slots ∧ Post ⟨T.setVm vm₁, locs, cells, slots⟩ (Value.ref b :: argsL).toArray v B ∧
      ∀ target, Steps p.tables e below (B.U.setTop { g with pc := g.pc + 3, stack := v.toList ++ rest }) target → Steps p.tables e below (T.setTop g) target := by
  obtain ⟨mk, methM, hnamed, hmethM, hstM, habM⟩ := Cond.instanceMethod_spec hinst
  obtain ⟨m8, methM', cM, hn8, hmethM', -, -, -, -, -, -, hsigM⟩ := Cond.codeWith_spec hcode
  cases Option.some.inj (hn8.symm.trans hnamed)
  cases hmethM.symm.trans hmethM'
  obtain ⟨c2, r2, m2, q1, q2, q3, q4, kP, hkP, hkPi⟩ := Cond.selects_spec hsel
  cases hcls.symm.trans q1
  cases (State.methodFound?_of_named hnamed hy).symm.trans q2
  cases hnamed.symm.trans q3
  have hselP : selectMethod e.platform s.vm cellB.cls mk = .method mk := by rw [Launch.admits_selectMethod X.admits]; exact q4
  obtain ⟨vm₁, X₁, hstep₁⟩ := X.invokevirtual hexec hown hlink hnamed hmethM hstM hkP hkPi hy (a := b) (cell := cellB) hcell
    (fun z h => by rw [h] at hobj; cases hobj) hselP hmethM habM hkP hkPi (g := g) hg (argsL := argsL) (rest := rest) (hlen _ hsigM) hstack hdg
  obtain ⟨v, B, X', hpost, hsteps⟩ := hK m meth c ⟨T.setVm vm₁, locs, cells, slots⟩ { g with stack := rest } (.invokevirtual index) mk (Value.ref b :: argsL).toArray X₁ hg hsize hdg hW (X₁.named hnamed) (hpre vm₁ X₁.warmed)
  exact ⟨v, vm₁, B, X₁.warmed, X', hpost, fun target h => hstep₁ _ fun acts => by rw [doInvoke_state]; exact hsteps.trans h⟩
abbrev vx_CVW (R : Room) (s : State) (args : Array Value) (own C : String) (index : Nat) (y : MethodName) (bytes : ByteArray) (maxL : Nat) (ret : Option FieldType) (hh : List (Nat × Nat × Nat × Nat)) (ws : List Cond) (rm : Room) (mc ms n : Nat) : Prop :=
  (rm.cells = mc ∧ rm.slots = ms ∧ rm.frames + 1 ≤ R.frames ∧ 8 + (maxL + 11) + rm.locals ≤ R.locals ∧ (∀ w ∈ ws, ∀ (a' : Array Value) (U : State), s.WarmedH U.vm → w.before a' U = true) ∧ Cond.codeWith y bytes maxL ret hh ∈ ws) ∧
  (Cond.codeWith y bytes maxL ret hh).before args s = true ∧ (Cond.initialized y.cls).before args s = true ∧ (y.cls ≠ "java/lang/invoke/MethodHandle" ∧ y.cls ≠ "java/lang/invoke/VarHandle") ∧
  (∀ sig, parseMethodDescriptor y.desc = some sig → n = sig.parameters.length) ∧ (Cond.methodLink own index y).before args s = true ∧ (Cond.instanceMethod y).before args s = true ∧ (Cond.selects C y y).before args s = true
theorem vx_cwVW {own C : String} {index maxL mc ms : Nat} {y : MethodName} {bytes : ByteArray} {ret : Option FieldType} {hh : List (Nat × Nat × Nat × Nat)} {Ts ws ws' : List Cond} {rm : Room} (n : Nat) (ht : ∀ w ∈ Ts, w.before args s = true) (hT : GoodIn Ts (wsV own index C y ws)) (hw : ws = Cond.codeWith y bytes maxL ret hh :: ws') (hrc : rm.cells = mc) (hrs : rm.slots = ms)
    (hd : y.cls = C ∧ y.cls ≠ "java/lang/invoke/MethodHandle" ∧ y.cls ≠ "java/lang/invoke/VarHandle" ∧ (parseMethodDescriptor y.desc).map (fun d => d.parameters.length) = some n) (hR : rm.frames + 1 ≤ R.frames ∧ 8 + (maxL + 11) + rm.locals ≤ R.locals) :
    vx_CVW R s args own C index y bytes maxL ret hh ws rm mc ms n := by
  obtain ⟨hC, hd⟩ := hd
  subst hC
  have ok : ∀ w ∈ wsV own index y.cls y ws, w.before args s = true := fun w h => ht w (hT w h).1
  have hG : GoodIn Ts ws := fun w h => hT w (by unfold wsV; exact List.mem_append_right _ h)
  have hc : Cond.codeWith y bytes maxL ret hh ∈ ws := by rw [hw]; exact List.mem_cons_self
  refine ⟨⟨hrc, hrs, hR.1, hR.2, pay_in ht hG, hc⟩, ht _ (hG _ hc).1, ok _ (by simp [wsV]), ⟨hd.1, hd.2.1⟩, fun sig h => ?_, ok _ (by simp [wsV]), ok _ (by simp [wsV]), ok _ (by simp [wsV])⟩
  have h2 := hd.2.2
  rw [h] at h2
  exact (Option.some.inj h2).symm
theorem vx_runVW {y : MethodName} {bytes cc : ByteArray} {maxL nL mc ms n index : Nat} {ret : Option FieldType} {hh : List (Nat × Nat × Nat × Nat)} {ws : List Cond} {rm : Room} {Pc : Array Value → State → Prop} {Qc : Array Value → State → Outcome → State → Prop} {free : Addr → Prop} {Ts : List Cond} {own C : String} {b : Addr} {As rest : List Value} {g : JFrame}
    (S : CallFix p m c cc nL s args Ts own) (hM : Met l y ws rm Pc Qc mc ms free) (cw : vx_CVW R s args own C index y bytes maxL ret hh ws rm mc ms n) (hp : PreV s H C b Pc As)
    (hg : g.method = m) (hn : As.length = n) (hsize : g.locals.size = nL) (hstack : g.stack = As.reverse ++ .ref b :: rest) (hW : 2 * g.monitorRoom + (rest.map fun v => v.category).sum ≤ 8) (hdg : decode cc g.pc = .ok (.invokevirtual index, 3)) (hf : cells + mc ≤ R.cells ∧ slots + ms ≤ R.slots) :
    va_Run p l e R s m args below meth c H locs cells slots mc ms g rest (Qc (Value.ref b :: As).toArray) free := by
  obtain ⟨⟨hrc, hrs, hfr, hlo, hws, hcw⟩, hcode, hini, hy, hlen, hl, hin, hse⟩ := cw
  have hK : Back l R p e below s args y 3 8 (PreOf R mc ms Pc) (PostOf Qc mc ms free) := va_backW (hh := hh) (bytes := bytes) (maxL := maxL) (ret := ret) hM hp.1 hrc hrs hfr hlo hws hcw (fun a' U hW => word_at hW (Or.inl (by first | rfl | simp [Cond.onTables, Cond.keeps, Cond.steady])) hini)
  obtain ⟨hx, hb, hml, ho, -⟩ := S
  obtain ⟨-, ⟨cellB, hcB, hoB, hclB⟩, hPc⟩ := hp
  intro T hT X
  obtain ⟨v, vm₁, ⟨U', l2, c2, s2⟩, hW₁, X', ⟨g', mk, t, L, e1, e2, hq, h1, hL, h2, h3⟩, st⟩ := vx_callVW X hx (C := C) (hh := hh) (bytes := bytes) (maxL := maxL) (ret := ret) ho hl hin hse hcode hy hK (by rw [hT]; exact hcB) hoB hclB hg (hsize.trans hml.symm) (argsL := As) (rest := rest) (fun sig h => hn.trans (hlen sig h)) hstack hW (by rw [hb]; exact hdg)
    (fun vm₁ hW₁ => ⟨hf.1, hf.2, hPc (T.setVm vm₁) hT hW₁⟩)
  dsimp only [Pt.U, Pt.locs, Pt.cells, Pt.slots] at X' e1 e2 h1 h2 h3 st
  subst h1; subst h2; subst h3
  exact ⟨v, (T.setVm vm₁).calling g' mk (Value.ref b :: As).toArray, t, U', L, hT, X', hL, e1, e2, hq, st⟩
section
variable {y : MethodName} {bytes cc : ByteArray} {maxL nL mc ms n index : Nat} {ret : Option FieldType} {ws : List Cond} {rm : Room} {Pc : Array Value → State → Prop} {Qc : Array Value → State → Outcome → State → Prop} {XC : String → State → State → Prop} {free : Addr → Prop} {Ts : List Cond} {own C : String} {b : Addr} {As rest : List Value} {g : JFrame}
theorem vx_runVX {hh : List (Nat × Nat × Nat × Nat)} (S : CallFix p m c cc nL s args Ts own) (hM : vx_Met l y ws rm Pc Qc XC mc ms free) (cw : vx_CVW R s args own C index y bytes maxL ret hh ws rm mc ms n) (hp : PreV s H C b Pc As)
    (hg : g.method = m) (hn : As.length = n) (hsize : g.locals.size = nL) (hstack : g.stack = As.reverse ++ .ref b :: rest) (hW : 2 * g.monitorRoom + (rest.map fun v => v.category).sum ≤ 8) (hdg : decode cc g.pc = .ok (.invokevirtual index, 3)) (hf : cells + mc ≤ R.cells ∧ slots + ms ≤ R.slots) :
    vx_Run p l e R s m args below meth c H locs cells slots mc ms g rest (Qc (Value.ref b :: As).toArray) XC free := by
  obtain ⟨⟨hrc, hrs, hfr, hlo, hws, hcw⟩, hcode, hini, hy, hlen, hl, hin, hse⟩ := cw
  have hK : vx_Back l R p e below s args y 3 8 (PreOf R mc ms Pc) (PostOf Qc mc ms free) (vx_Post XC mc ms free) := vx_backW (hh := hh) (bytes := bytes) (maxL := maxL) (ret := ret) hM hp.1 hrc hrs hfr hlo hws hcw (fun a' U hW => word_at hW (Or.inl (by first | rfl | simp [Cond.onTables, Cond.keeps, Cond.steady])) hini)
  obtain ⟨hx, hb, hml, ho, -⟩ := S
  obtain ⟨-, ⟨cellB, hcB, hoB, hclB⟩, hPc⟩ := hp
  intro T hT X
  rcases vx_callVX X hx (C := C) (hh := hh) (bytes := bytes) (maxL := maxL) (ret := ret) ho hl hin hse hcode hy hK (by rw [hT]; exact hcB) hoB hclB hg (hsize.trans hml.symm) (argsL := As) (rest := rest) (fun sig h => hn.trans (hlen sig h)) hstack hW (by rw [hb]; exact hdg)
    (fun vm₁ hW₁ => ⟨hf.1, hf.2, hPc (T.setVm vm₁) hT hW₁⟩) with ⟨v, vm₁, ⟨U', l2, c2, s2⟩, hW₁, X', ⟨g', mk, t, L, e1, e2, hq, h1, hL, h2, h3⟩, st⟩ | ⟨q, vm₁, ⟨U', l2, c2, s2⟩, hW₁, X', ⟨g', mk, t, L, E, ce, e1, e2, hq, hce, hcv, hcl, h1, hL, h2, h3⟩, st⟩
  · dsimp only [Pt.U, Pt.locs, Pt.cells, Pt.slots] at X' e1 e2 h1 h2 h3 st
    subst h1; subst h2; subst h3
    exact Or.inl ⟨v, (T.setVm vm₁).calling g' mk (Value.ref b :: As).toArray, t, U', L, hT, X', hL, e1, e2, hq, st⟩
  · dsimp only [Pt.U, Pt.locs, Pt.cells, Pt.slots] at X' e1 e2 h1 h2 h3 st hcl
    subst h1; subst h2; subst h3
    exact Or.inr ⟨q, (T.setVm vm₁).calling g' mk (Value.ref b :: As).toArray, t, U', L, E, ce, hT, X', hL, e1, e2, hq, hce, hcv, vx_cls hW₁ hcl, st⟩
theorem vx_runSX {hh : List (Nat × Nat × Nat × Nat)} (S : CallFix p m c cc nL s args Ts own) (hM : vx_Met l y ws rm Pc Qc XC mc ms free) (cw : vx_CSW R s args own index y bytes maxL ret hh ws rm mc ms n) (hp : PreS s H Pc As)
    (hg : g.method = m) (hn : As.length = n) (hsize : g.locals.size = nL) (hstack : g.stack = As.reverse ++ rest) (hW : 2 * g.monitorRoom + (rest.map fun v => v.category).sum ≤ 8) (hdg : decode cc g.pc = .ok (.invokestatic index, 3)) (hf : cells + mc ≤ R.cells ∧ slots + ms ≤ R.slots) :
    vx_Run p l e R s m args below meth c H locs cells slots mc ms g rest (Qc As.toArray) XC free := by
  obtain ⟨⟨hrc, hrs, hfr, hlo, hws, hcw⟩, hcode, hini, hy, hlen, hl, hstt⟩ := cw
  have hK : vx_Back l R p e below s args y 3 8 (PreOf R mc ms Pc) (PostOf Qc mc ms free) (vx_Post XC mc ms free) := vx_backW (hh := hh) (bytes := bytes) (maxL := maxL) (ret := ret) hM hp.1 hrc hrs hfr hlo hws hcw (fun a' U hW => word_at hW (Or.inl (by first | rfl | simp [Cond.onTables, Cond.keeps, Cond.steady])) hini)
  obtain ⟨hx, hb, hml, ho, -⟩ := S
  intro T hT X
  rcases vx_callSX X hx (hh := hh) (bytes := bytes) (maxL := maxL) (ret := ret) ho hl hstt hini hcode hy hK hg (hsize.trans hml.symm) (argsL := As) (rest := rest) (fun sig h => hn.trans (hlen sig h)) hstack hW (by rw [hb]; exact hdg)
    (fun vm₁ hW₁ => ⟨hf.1, hf.2, hp.2 (T.setVm vm₁) hT hW₁⟩) with ⟨v, vm₁, ⟨U', l2, c2, s2⟩, hW₁, X', ⟨g', mk, t, L, e1, e2, hq, h1, hL, h2, h3⟩, st⟩ | ⟨q, vm₁, ⟨U', l2, c2, s2⟩, hW₁, X', ⟨g', mk, t, L, E, ce, e1, e2, hq, hce, hcv, hcl, h1, hL, h2, h3⟩, st⟩
  · dsimp only [Pt.U, Pt.locs, Pt.cells, Pt.slots] at X' e1 e2 h1 h2 h3 st
    subst h1; subst h2; subst h3
    exact Or.inl ⟨v, (T.setVm vm₁).calling g' mk As.toArray, t, U', L, hT, X', hL, e1, e2, hq, st⟩
  · dsimp only [Pt.U, Pt.locs, Pt.cells, Pt.slots] at X' e1 e2 h1 h2 h3 st hcl
    subst h1; subst h2; subst h3
    exact Or.inr ⟨q, (T.setVm vm₁).calling g' mk As.toArray, t, U', L, E, ce, hT, X', hL, e1, e2, hq, hce, hcv, vx_cls hW₁ hcl, st⟩
end
end VXH
theorem vx_ofWH {l : Launch} {y : MethodName} {ws ws' : List Cond} {rm : Room} {Pc : Array Value → State → Prop} {Qc : Array Value → State → Outcome → State → Prop} {XC : String → State → State → Prop} {mc ms : Nat} {free : Addr → Prop} {cc : ByteArray} {maxL : Nat} {ret : Option FieldType} {hh : List (Nat × Nat × Nat × Nat)}
    (hy : plainName y.cls = true) (hw : ws = Cond.codeWith y cc maxL ret hh :: ws')
    (body : ∀ p e s m args below meth c s₁, BodyLoose p l y (headSpec ws rm) cc maxL ret e s m args below meth c s₁ → c.maxLocals = maxL → Pc args s →
      W p l e (headSpec ws rm).room s m args below meth c s.heap [] 0 0 (vx_MQ below Qc XC args s mc ms free) (entryFrame m args maxL)) : vx_Met l y ws rm Pc Qc XC mc ms free := by
  refine MetFree.of_bodyS (code := cc) (maxLocals := maxL) (ret := ret) hy ?_ ?_
  · intro args s m h hn
    obtain ⟨m9, meth, c, hn9, h1, h2, h3, h4, -, h5, h6, -⟩ := Cond.codeWith_spec (atoms_spec (ws := ws) h _ (by rw [hw]; exact List.mem_cons_self))
    cases hn.symm.trans hn9
    exact ⟨meth, c, h1, h2, h3, h4, h5, h6⟩
  · intro p e s m args below meth c s₁ B hml hP _
    have hh0 : s₁.heap = s.heap := by rw [B.state]; rfl
    obtain ⟨t, a1, o, b1, b2, b3⟩ := body p e s m args below meth c s₁ B hml hP s₁ hh0 (Stand.of_body B)
    exact ⟨t, o, a1, b1, b2, b3⟩
/-! ===== END ===== -/
end
section
/-! names, taken from the claim's printed names; own lists behind them -/
def RX0 : String := "QuakeBench$Event"
def RX1 : String := "QuakeBench$Pick"
def RX2 : String := "QuakeBench$Row"
def RX3 : String := "QuakeBench$Search"
def RX4 : String := "QuakeBench$Station"
def RX5 : String := "QuakeBench$Waves"
def RX6 : String := "QuakeBench"
def RX7 : String := "QuakeBenchModel"
def RJx145de : String := "java/io/Serializable"
def RJ5 : String := "java/lang/AbstractStringBuilder"
def RJx2cfe8 : String := "java/lang/Appendable"
def RJx9f9b0 : String := "java/lang/CharSequence"
def RJx8e188 : String := "java/lang/Cloneable"
def RJxb160c : String := "java/lang/Comparable"
def RJ6 : String := "java/lang/Integer"
def RJxab1ab : String := "java/lang/Iterable"
def RJ9 : String := "java/lang/Math"
def RJxd2413 : String := "java/lang/Number"
def RJ0 : String := "java/lang/String"
def RJ4 : String := "java/lang/StringBuilder"
def RJ1 : String := "java/lang/StringLatin1"
def RJ2 : String := "java/lang/StringUTF16"
def RJ10 : String := "java/lang/System"
def RJxfd54e : String := "java/lang/constant/Constable"
def RJx3cf43 : String := "java/lang/constant/ConstantDesc"
def RJxa1e45 : String := "java/util/AbstractCollection"
def RJxc12de : String := "java/util/AbstractList"
def RJx4a65c : String := "java/util/ArrayList"
def RJ7 : String := "java/util/Arrays"
def RJx5ef63 : String := "java/util/Collection"
def RJxbd725 : String := "java/util/List"
def RJ15 : String := "java/util/Objects"
def RJxf0a74 : String := "java/util/RandomAccess"
def RJxa66e6 : String := "java/util/SequencedCollection"
def RJ8 : String := "jdk/internal/util/ArraysSupport"
def RJ3 : String := "jdk/internal/util/Preconditions"
def RL : String := "QuakeBenchLaw"
def TX6 : u_T := fun k => match k with
  | 0 => ("QuakeBench", "stations", "Ljava/util/ArrayList;", true)
  | 1 => ("QuakeBench", "picks", "Ljava/util/ArrayList;", true)
  | 2 => ("QuakeBench", "events", "Ljava/util/ArrayList;", true)
  | 3 => ("QuakeBench", "waves", "LQuakeBench$Waves;", true)
  | 4 => ("QuakeBench", "row", "LQuakeBench$Row;", true)
  | 5 => ("QuakeBench", "search", "LQuakeBench$Search;", true)
  | 6 => ("QuakeBench", "loose", "Ljava/util/ArrayList;", true)
  | _ => ("QuakeBench", "companions", "Ljava/util/ArrayList;", true)
def tyX6 : Nat → FieldType := fun k => match k with
  | 0 => .object "java/util/ArrayList"
  | 1 => .object "java/util/ArrayList"
  | 2 => .object "java/util/ArrayList"
  | 3 => .object "QuakeBench$Waves"
  | 4 => .object "QuakeBench$Row"
  | 5 => .object "QuakeBench$Search"
  | 6 => .object "java/util/ArrayList"
  | _ => .object "java/util/ArrayList"
theorem nmX6 : ∀ a, a < 8 → ∀ b, b < 8 → a ≠ b → (TX6 a).2.1 ≠ (TX6 b).2.1 := by decide +kernel
theorem tyX6_ok : ∀ k, k < 8 → parseFieldDescriptor (TX6 k).2.2.1 = some (tyX6 k) := by decide +kernel
def TX0 : u_T := fun k => match k with
  | 0 => ("QuakeBench$Event", "number", "I", true)
  | 1 => ("QuakeBench$Event", "members", "Ljava/util/ArrayList;", true)
  | 2 => ("QuakeBench$Event", "found", "Z", false)
  | 3 => ("QuakeBench$Event", "x", "I", false)
  | 4 => ("QuakeBench$Event", "y", "I", false)
  | 5 => ("QuakeBench$Event", "z", "I", false)
  | 6 => ("QuakeBench$Event", "time", "I", false)
  | _ => ("QuakeBench$Event", "label", "I", false)
def tyX0 : Nat → FieldType := fun k => match k with
  | 0 => .int
  | 1 => .object "java/util/ArrayList"
  | 2 => .boolean
  | 3 => .int
  | 4 => .int
  | 5 => .int
  | 6 => .int
  | _ => .int
theorem nmX0 : ∀ a, a < 8 → ∀ b, b < 8 → a ≠ b → (TX0 a).2.1 ≠ (TX0 b).2.1 := by decide +kernel
theorem tyX0_ok : ∀ k, k < 8 → parseFieldDescriptor (TX0 k).2.2.1 = some (tyX0 k) := by decide +kernel
def TX1 : u_T := fun k => match k with
  | 0 => ("QuakeBench$Pick", "number", "I", true)
  | 1 => ("QuakeBench$Pick", "station", "LQuakeBench$Station;", true)
  | 2 => ("QuakeBench$Pick", "isS", "Z", true)
  | 3 => ("QuakeBench$Pick", "time", "I", true)
  | 4 => ("QuakeBench$Pick", "weight", "I", false)
  | 5 => ("QuakeBench$Pick", "amplitude", "I", false)
  | _ => ("QuakeBench$Pick", "event", "LQuakeBench$Event;", false)
def tyX1 : Nat → FieldType := fun k => match k with
  | 0 => .int
  | 1 => .object "QuakeBench$Station"
  | 2 => .boolean
  | 3 => .int
  | 4 => .int
  | 5 => .int
  | _ => .object "QuakeBench$Event"
theorem nmX1 : ∀ a, a < 7 → ∀ b, b < 7 → a ≠ b → (TX1 a).2.1 ≠ (TX1 b).2.1 := by decide +kernel
theorem tyX1_ok : ∀ k, k < 7 → parseFieldDescriptor (TX1 k).2.2.1 = some (tyX1 k) := by decide +kernel
def TX2 : u_T := fun k => match k with
  | 0 => ("QuakeBench$Row", "numbers", "[I", true)
  | 1 => ("QuakeBench$Row", "weights", "[I", true)
  | 2 => ("QuakeBench$Row", "size", "I", false)
  | _ => ("QuakeBench$Row", "total", "I", false)
def tyX2 : Nat → FieldType := fun k => match k with
  | 0 => .array .int
  | 1 => .array .int
  | 2 => .int
  | _ => .int
theorem nmX2 : ∀ a, a < 4 → ∀ b, b < 4 → a ≠ b → (TX2 a).2.1 ≠ (TX2 b).2.1 := by decide +kernel
theorem tyX2_ok : ∀ k, k < 4 → parseFieldDescriptor (TX2 k).2.2.1 = some (tyX2 k) := by decide +kernel
def TX3 : u_T := fun k => match k with
  | 0 => ("QuakeBench$Search", "waves", "LQuakeBench$Waves;", true)
  | 1 => ("QuakeBench$Search", "row", "LQuakeBench$Row;", true)
  | 2 => ("QuakeBench$Search", "hasBest", "Z", false)
  | 3 => ("QuakeBench$Search", "bestX", "I", false)
  | 4 => ("QuakeBench$Search", "bestY", "I", false)
  | 5 => ("QuakeBench$Search", "bestZ", "I", false)
  | 6 => ("QuakeBench$Search", "bestBegin", "I", false)
  | _ => ("QuakeBench$Search", "leastMisfit", "J", false)
def tyX3 : Nat → FieldType := fun k => match k with
  | 0 => .object "QuakeBench$Waves"
  | 1 => .object "QuakeBench$Row"
  | 2 => .boolean
  | 3 => .int
  | 4 => .int
  | 5 => .int
  | 6 => .int
  | _ => .long
theorem nmX3 : ∀ a, a < 8 → ∀ b, b < 8 → a ≠ b → (TX3 a).2.1 ≠ (TX3 b).2.1 := by decide +kernel
theorem tyX3_ok : ∀ k, k < 8 → parseFieldDescriptor (TX3 k).2.2.1 = some (tyX3 k) := by decide +kernel
def TX4 : u_T := fun k => match k with
  | 0 => ("QuakeBench$Station", "number", "I", true)
  | 1 => ("QuakeBench$Station", "x", "I", true)
  | 2 => ("QuakeBench$Station", "y", "I", true)
  | _ => ("QuakeBench$Station", "delay", "I", false)
def tyX4 : Nat → FieldType := fun k => match k with
  | 0 => .int
  | 1 => .int
  | 2 => .int
  | _ => .int
theorem nmX4 : ∀ a, a < 4 → ∀ b, b < 4 → a ≠ b → (TX4 a).2.1 ≠ (TX4 b).2.1 := by decide +kernel
theorem tyX4_ok : ∀ k, k < 4 → parseFieldDescriptor (TX4 k).2.2.1 = some (tyX4 k) := by decide +kernel
def TX5 : u_T := fun k => match k with
  | 0 => ("QuakeBench$Waves", "speedOfP", "I", false)
  | _ => ("QuakeBench$Waves", "speedOfS", "I", false)
def tyX5 : Nat → FieldType := fun k => match k with
  | 0 => .int
  | _ => .int
theorem nmX5 : ∀ a, a < 2 → ∀ b, b < 2 → a ≠ b → (TX5 a).2.1 ≠ (TX5 b).2.1 := by decide +kernel
theorem tyX5_ok : ∀ k, k < 2 → parseFieldDescriptor (TX5 k).2.2.1 = some (tyX5 k) := by decide +kernel
def TJx4a65c : u_T := fun k => match k with
  | 0 => ("java/util/AbstractList", "modCount", "I", false)
  | 1 => ("java/util/ArrayList", "elementData", "[Ljava/lang/Object;", false)
  | _ => ("java/util/ArrayList", "size", "I", false)
def tyJx4a65c : Nat → FieldType := fun k => match k with
  | 0 => .int
  | 1 => .array (.object "java/lang/Object")
  | _ => .int
theorem nmJx4a65c : ∀ a, a < 3 → ∀ b, b < 3 → a ≠ b → (TJx4a65c a).2.1 ≠ (TJx4a65c b).2.1 := by decide +kernel
theorem tyJx4a65c_ok : ∀ k, k < 3 → parseFieldDescriptor (TJx4a65c k).2.2.1 = some (tyJx4a65c k) := by decide +kernel
def TX7 : u_T := fun k => match k with
  | 0 => ("QuakeBenchModel", "thrown", "I", false)
  | 1 => ("QuakeBenchModel", "speedP", "I", false)
  | 2 => ("QuakeBenchModel", "speedS", "I", false)
  | 3 => ("QuakeBenchModel", "stations", "I", false)
  | 4 => ("QuakeBenchModel", "xs", "[I", true)
  | 5 => ("QuakeBenchModel", "ys", "[I", true)
  | 6 => ("QuakeBenchModel", "delays", "[I", true)
  | 7 => ("QuakeBenchModel", "picks", "I", false)
  | 8 => ("QuakeBenchModel", "stationOf", "[I", true)
  | 9 => ("QuakeBenchModel", "areS", "[Z", true)
  | 10 => ("QuakeBenchModel", "times", "[I", true)
  | 11 => ("QuakeBenchModel", "weights", "[I", true)
  | 12 => ("QuakeBenchModel", "eventOf", "[I", true)
  | 13 => ("QuakeBenchModel", "amplitudes", "[I", true)
  | 14 => ("QuakeBenchModel", "events", "I", false)
  | 15 => ("QuakeBenchModel", "areFound", "[Z", true)
  | 16 => ("QuakeBenchModel", "found", "[I", true)
  | 17 => ("QuakeBenchModel", "starts", "[I", true)
  | _ => ("QuakeBenchModel", "begin", "I", false)
def tyX7 : Nat → FieldType := fun k => match k with
  | 0 => .int
  | 1 => .int
  | 2 => .int
  | 3 => .int
  | 4 => .array .int
  | 5 => .array .int
  | 6 => .array .int
  | 7 => .int
  | 8 => .array .int
  | 9 => .array .boolean
  | 10 => .array .int
  | 11 => .array .int
  | 12 => .array .int
  | 13 => .array .int
  | 14 => .int
  | 15 => .array .boolean
  | 16 => .array .int
  | 17 => .array .int
  | _ => .int
theorem nmX7 : ∀ a, a < 19 → ∀ b, b < 19 → a ≠ b → (TX7 a).2.1 ≠ (TX7 b).2.1 := by decide +kernel
theorem tyX7_ok : ∀ k, k < 19 → parseFieldDescriptor (TX7 k).2.2.1 = some (tyX7 k) := by decide +kernel
abbrev cX0_init : ByteArray := prog_2_method_1_code
def yX0_init : MethodName := ⟨RX0, "<init>", "(I)V"⟩
abbrev cX0_take : ByteArray := prog_2_method_2_code
def yX0_take : MethodName := ⟨RX0, "take", "(LQuakeBench$Pick;)V"⟩
abbrev cX0_drop : ByteArray := prog_2_method_3_code
def yX0_drop : MethodName := ⟨RX0, "drop", "(LQuakeBench$Pick;)V"⟩
abbrev cX0_hears : ByteArray := prog_2_method_4_code
def yX0_hears : MethodName := ⟨RX0, "hears", "(LQuakeBench$Station;)Z"⟩
abbrev cX0_hasAnotherLike : ByteArray := prog_2_method_5_code
def yX0_hasAnotherLike : MethodName := ⟨RX0, "hasAnotherLike", "(LQuakeBench$Pick;)Z"⟩
abbrev cX0_countStations : ByteArray := prog_2_method_6_code
def yX0_countStations : MethodName := ⟨RX0, "countStations", "()I"⟩
abbrev cX0_distanceTo : ByteArray := prog_2_method_7_code
def yX0_distanceTo : MethodName := ⟨RX0, "distanceTo", "(III)I"⟩
abbrev cX0_isRelated : ByteArray := prog_2_method_8_code
def yX0_isRelated : MethodName := ⟨RX0, "isRelated", "(LQuakeBench$Event;II)Z"⟩
abbrev cX1_init : ByteArray := prog_3_method_1_code
def yX1_init : MethodName := ⟨RX1, "<init>", "(ILQuakeBench$Station;ZI)V"⟩
abbrev cX2_init : ByteArray := prog_4_method_1_code
def yX2_init : MethodName := ⟨RX2, "<init>", "()V"⟩
abbrev cX2_empty : ByteArray := prog_4_method_2_code
def yX2_empty : MethodName := ⟨RX2, "empty", "()V"⟩
abbrev cX2_put : ByteArray := prog_4_method_3_code
def yX2_put : MethodName := ⟨RX2, "put", "(II)V"⟩
abbrev cX2_middle : ByteArray := prog_4_method_4_code
def yX2_middle : MethodName := ⟨RX2, "middle", "()I"⟩
abbrev cX2_distanceFrom : ByteArray := prog_4_method_5_code
def yX2_distanceFrom : MethodName := ⟨RX2, "distanceFrom", "(I)J"⟩
abbrev cX2_widestGap : ByteArray := prog_4_method_6_code
def yX2_widestGap : MethodName := ⟨RX2, "widestGap", "()I"⟩
abbrev cX3_init : ByteArray := prog_5_method_1_code
def yX3_init : MethodName := ⟨RX3, "<init>", "(LQuakeBench$Waves;LQuakeBench$Row;)V"⟩
abbrev cX3_locate : ByteArray := prog_5_method_2_code
def yX3_locate : MethodName := ⟨RX3, "locate", "(LQuakeBench$Event;)J"⟩
abbrev cX3_scan : ByteArray := prog_5_method_3_code
def yX3_scan : MethodName := ⟨RX3, "scan", "(LQuakeBench$Event;IIIIII)V"⟩
abbrev cX3_offer : ByteArray := prog_5_method_4_code
def yX3_offer : MethodName := ⟨RX3, "offer", "(LQuakeBench$Event;III)V"⟩
abbrev cX3_fillWithStarts : ByteArray := prog_5_method_5_code
def yX3_fillWithStarts : MethodName := ⟨RX3, "fillWithStarts", "(LQuakeBench$Event;III)V"⟩
abbrev cX4_init : ByteArray := prog_6_method_1_code
def yX4_init : MethodName := ⟨RX4, "<init>", "(III)V"⟩
abbrev cX4_wayTo : ByteArray := prog_6_method_2_code
def yX4_wayTo : MethodName := ⟨RX4, "wayTo", "(III)I"⟩
abbrev cX5_init : ByteArray := prog_7_method_1_code
def yX5_init : MethodName := ⟨RX5, "<init>", "()V"⟩
abbrev cX5_travel : ByteArray := prog_7_method_2_code
def yX5_travel : MethodName := ⟨RX5, "travel", "(LQuakeBench$Station;IIIZ)I"⟩
abbrev cX5_lateness : ByteArray := prog_7_method_3_code
def yX5_lateness : MethodName := ⟨RX5, "lateness", "(LQuakeBench$Pick;LQuakeBench$Event;)I"⟩
abbrev cX6_init : ByteArray := prog_1_method_1_code
def yX6_init : MethodName := ⟨RX6, "<init>", "()V"⟩
abbrev cX6_addStation : ByteArray := prog_1_method_2_code
def yX6_addStation : MethodName := ⟨RX6, "addStation", "(II)I"⟩
abbrev cX6_setDelay : ByteArray := prog_1_method_3_code
def yX6_setDelay : MethodName := ⟨RX6, "setDelay", "(II)I"⟩
abbrev cX6_setSpeeds : ByteArray := prog_1_method_4_code
def yX6_setSpeeds : MethodName := ⟨RX6, "setSpeeds", "(II)I"⟩
abbrev cX6_way : ByteArray := prog_1_method_5_code
def yX6_way : MethodName := ⟨RX6, "way", "(IIII)I"⟩
abbrev cX6_needs : ByteArray := prog_1_method_6_code
def yX6_needs : MethodName := ⟨RX6, "needs", "(IIIIZ)I"⟩
abbrev cX6_addPick : ByteArray := prog_1_method_7_code
def yX6_addPick : MethodName := ⟨RX6, "addPick", "(IZI)I"⟩
abbrev cX6_setWeight : ByteArray := prog_1_method_8_code
def yX6_setWeight : MethodName := ⟨RX6, "setWeight", "(II)I"⟩
abbrev cX6_pick : ByteArray := prog_1_method_9_code
def yX6_pick : MethodName := ⟨RX6, "pick", "(II)I"⟩
abbrev cX6_addEvent : ByteArray := prog_1_method_10_code
def yX6_addEvent : MethodName := ⟨RX6, "addEvent", "()I"⟩
abbrev cX6_give : ByteArray := prog_1_method_11_code
def yX6_give : MethodName := ⟨RX6, "give", "(II)I"⟩
abbrev cX6_associate : ByteArray := prog_1_method_12_code
def yX6_associate : MethodName := ⟨RX6, "associate", "()I"⟩
abbrev cX6_count : ByteArray := prog_1_method_13_code
def yX6_count : MethodName := ⟨RX6, "count", "(I)I"⟩
abbrev cX6_seek : ByteArray := prog_1_method_14_code
def yX6_seek : MethodName := ⟨RX6, "seek", "(I)J"⟩
abbrev cX6_event : ByteArray := prog_1_method_15_code
def yX6_event : MethodName := ⟨RX6, "event", "(II)I"⟩
abbrev cX6_misfit : ByteArray := prog_1_method_16_code
def yX6_misfit : MethodName := ⟨RX6, "misfit", "(IIII)J"⟩
abbrev cX6_residual : ByteArray := prog_1_method_17_code
def yX6_residual : MethodName := ⟨RX6, "residual", "(I)I"⟩
abbrev cX6_worst : ByteArray := prog_1_method_18_code
def yX6_worst : MethodName := ⟨RX6, "worst", "(I)I"⟩
abbrev cX6_spread : ByteArray := prog_1_method_19_code
def yX6_spread : MethodName := ⟨RX6, "spread", "(I)D"⟩
abbrev cX6_gap : ByteArray := prog_1_method_20_code
def yX6_gap : MethodName := ⟨RX6, "gap", "(I)I"⟩
abbrev cX6_setAmplitude : ByteArray := prog_1_method_21_code
def yX6_setAmplitude : MethodName := ⟨RX6, "setAmplitude", "(II)I"⟩
abbrev cX6_magnitude : ByteArray := prog_1_method_22_code
def yX6_magnitude : MethodName := ⟨RX6, "magnitude", "(I)I"⟩
abbrev cX6_families : ByteArray := prog_1_method_23_code
def yX6_families : MethodName := ⟨RX6, "families", "(II)I"⟩
abbrev cX6_family : ByteArray := prog_1_method_24_code
def yX6_family : MethodName := ⟨RX6, "family", "(III)I"⟩
abbrev cX6_nearest : ByteArray := prog_1_method_25_code
def yX6_nearest : MethodName := ⟨RX6, "nearest", "(III)I"⟩
abbrev cX6_digest : ByteArray := prog_1_method_26_code
def yX6_digest : MethodName := ⟨RX6, "digest", "()J"⟩
abbrev cX6_isPlace : ByteArray := prog_1_method_27_code
def yX6_isPlace : MethodName := ⟨RX6, "isPlace", "(III)Z"⟩
abbrev cX6_requirePlace : ByteArray := prog_1_method_28_code
def yX6_requirePlace : MethodName := ⟨RX6, "requirePlace", "(III)V"⟩
abbrev cX6_requireFound : ByteArray := prog_1_method_29_code
def yX6_requireFound : MethodName := ⟨RX6, "requireFound", "(LQuakeBench$Event;)V"⟩
abbrev cX6_requireLimits : ByteArray := prog_1_method_30_code
def yX6_requireLimits : MethodName := ⟨RX6, "requireLimits", "(II)V"⟩
abbrev cX6_stationAt : ByteArray := prog_1_method_31_code
def yX6_stationAt : MethodName := ⟨RX6, "stationAt", "(I)LQuakeBench$Station;"⟩
abbrev cX6_pickAt : ByteArray := prog_1_method_32_code
def yX6_pickAt : MethodName := ⟨RX6, "pickAt", "(I)LQuakeBench$Pick;"⟩
abbrev cX6_eventAt : ByteArray := prog_1_method_33_code
def yX6_eventAt : MethodName := ⟨RX6, "eventAt", "(I)LQuakeBench$Event;"⟩
abbrev cX6_numberOf : ByteArray := prog_1_method_34_code
def yX6_numberOf : MethodName := ⟨RX6, "numberOf", "(LQuakeBench$Event;)I"⟩
abbrev cX6_countFound : ByteArray := prog_1_method_35_code
def yX6_countFound : MethodName := ⟨RX6, "countFound", "()I"⟩
abbrev cX6_countLoose : ByteArray := prog_1_method_36_code
def yX6_countLoose : MethodName := ⟨RX6, "countLoose", "()I"⟩
abbrev cX6_openEvent : ByteArray := prog_1_method_37_code
def yX6_openEvent : MethodName := ⟨RX6, "openEvent", "()LQuakeBench$Event;"⟩
abbrev cX6_orderLoosePicks : ByteArray := prog_1_method_38_code
def yX6_orderLoosePicks : MethodName := ⟨RX6, "orderLoosePicks", "()V"⟩
abbrev cX6_hostFor : ByteArray := prog_1_method_39_code
def yX6_hostFor : MethodName := ⟨RX6, "hostFor", "(LQuakeBench$Pick;)LQuakeBench$Event;"⟩
abbrev cX6_gatherCompanions : ByteArray := prog_1_method_40_code
def yX6_gatherCompanions : MethodName := ⟨RX6, "gatherCompanions", "(LQuakeBench$Pick;I)V"⟩
abbrev cX6_companyHears : ByteArray := prog_1_method_41_code
def yX6_companyHears : MethodName := ⟨RX6, "companyHears", "(LQuakeBench$Station;)Z"⟩
abbrev cX6_openEventWithCompanions : ByteArray := prog_1_method_42_code
def yX6_openEventWithCompanions : MethodName := ⟨RX6, "openEventWithCompanions", "(LQuakeBench$Pick;)LQuakeBench$Event;"⟩
abbrev cX6_gapOf : ByteArray := prog_1_method_43_code
def yX6_gapOf : MethodName := ⟨RX6, "gapOf", "(LQuakeBench$Event;)I"⟩
abbrev cX6_bearing : ByteArray := prog_1_method_44_code
def yX6_bearing : MethodName := ⟨RX6, "bearing", "(II)I"⟩
abbrev cX6_magnitudeOf : ByteArray := prog_1_method_45_code
def yX6_magnitudeOf : MethodName := ⟨RX6, "magnitudeOf", "(LQuakeBench$Event;)I"⟩
abbrev cX6_binaryDigits : ByteArray := prog_1_method_46_code
def yX6_binaryDigits : MethodName := ⟨RX6, "binaryDigits", "(I)I"⟩
abbrev cX6_labelFamilies : ByteArray := prog_1_method_47_code
def yX6_labelFamilies : MethodName := ⟨RX6, "labelFamilies", "(II)V"⟩
abbrev cX6_joinLabels : ByteArray := prog_1_method_48_code
def yX6_joinLabels : MethodName := ⟨RX6, "joinLabels", "(II)V"⟩
abbrev cX6_digestStation : ByteArray := prog_1_method_49_code
def yX6_digestStation : MethodName := ⟨RX6, "digestStation", "(JLQuakeBench$Station;)J"⟩
abbrev cX6_digestPick : ByteArray := prog_1_method_50_code
def yX6_digestPick : MethodName := ⟨RX6, "digestPick", "(JLQuakeBench$Pick;)J"⟩
abbrev cX6_digestEvent : ByteArray := prog_1_method_51_code
def yX6_digestEvent : MethodName := ⟨RX6, "digestEvent", "(JLQuakeBench$Event;)J"⟩
abbrev cX7_init : ByteArray := prog_9_method_1_code
def yX7_init : MethodName := ⟨RX7, "<init>", "()V"⟩
abbrev cX7_thrown : ByteArray := prog_9_method_2_code
def yX7_thrown : MethodName := ⟨RX7, "thrown", "()I"⟩
abbrev cX7_no : ByteArray := prog_9_method_3_code
def yX7_no : MethodName := ⟨RX7, "no", "(I)I"⟩
abbrev cX7_isIn : ByteArray := prog_9_method_4_code
def yX7_isIn : MethodName := ⟨RX7, "isIn", "(III)Z"⟩
abbrev cX7_isStation : ByteArray := prog_9_method_5_code
def yX7_isStation : MethodName := ⟨RX7, "isStation", "(I)Z"⟩
abbrev cX7_isPick : ByteArray := prog_9_method_6_code
def yX7_isPick : MethodName := ⟨RX7, "isPick", "(I)Z"⟩
abbrev cX7_isEvent : ByteArray := prog_9_method_7_code
def yX7_isEvent : MethodName := ⟨RX7, "isEvent", "(I)Z"⟩
abbrev cX7_isPlace : ByteArray := prog_9_method_8_code
def yX7_isPlace : MethodName := ⟨RX7, "isPlace", "(III)Z"⟩
abbrev cX7_addStation : ByteArray := prog_9_method_9_code
def yX7_addStation : MethodName := ⟨RX7, "addStation", "(II)I"⟩
abbrev cX7_setDelay : ByteArray := prog_9_method_10_code
def yX7_setDelay : MethodName := ⟨RX7, "setDelay", "(II)I"⟩
abbrev cX7_setSpeeds : ByteArray := prog_9_method_11_code
def yX7_setSpeeds : MethodName := ⟨RX7, "setSpeeds", "(II)I"⟩
abbrev cX7_wayOf : ByteArray := prog_9_method_12_code
def yX7_wayOf : MethodName := ⟨RX7, "wayOf", "(IIII)I"⟩
abbrev cX7_needed : ByteArray := prog_9_method_13_code
def yX7_needed : MethodName := ⟨RX7, "needed", "(IIIIZ)I"⟩
abbrev cX7_way : ByteArray := prog_9_method_14_code
def yX7_way : MethodName := ⟨RX7, "way", "(IIII)I"⟩
abbrev cX7_needs : ByteArray := prog_9_method_15_code
def yX7_needs : MethodName := ⟨RX7, "needs", "(IIIIZ)I"⟩
abbrev cX7_addPick : ByteArray := prog_9_method_16_code
def yX7_addPick : MethodName := ⟨RX7, "addPick", "(IZI)I"⟩
abbrev cX7_lose : ByteArray := prog_9_method_17_code
def yX7_lose : MethodName := ⟨RX7, "lose", "(I)V"⟩
abbrev cX7_setWeight : ByteArray := prog_9_method_18_code
def yX7_setWeight : MethodName := ⟨RX7, "setWeight", "(II)I"⟩
abbrev cX7_told : ByteArray := prog_9_method_19_code
def yX7_told : MethodName := ⟨RX7, "told", "(II)I"⟩
abbrev cX7_pick : ByteArray := prog_9_method_20_code
def yX7_pick : MethodName := ⟨RX7, "pick", "(II)I"⟩
abbrev cX7_addEvent : ByteArray := prog_9_method_21_code
def yX7_addEvent : MethodName := ⟨RX7, "addEvent", "()I"⟩
abbrev cX7_hasAlike : ByteArray := prog_9_method_22_code
def yX7_hasAlike : MethodName := ⟨RX7, "hasAlike", "(II)Z"⟩
abbrev cX7_give : ByteArray := prog_9_method_23_code
def yX7_give : MethodName := ⟨RX7, "give", "(II)I"⟩
abbrev cX7_isAhead : ByteArray := prog_9_method_24_code
def yX7_isAhead : MethodName := ⟨RX7, "isAhead", "(II)Z"⟩
abbrev cX7_startOf : ByteArray := prog_9_method_25_code
def yX7_startOf : MethodName := ⟨RX7, "startOf", "(IIII)I"⟩
abbrev cX7_nearestFor : ByteArray := prog_9_method_26_code
def yX7_nearestFor : MethodName := ⟨RX7, "nearestFor", "(I)I"⟩
abbrev cX7_gather : ByteArray := prog_9_method_27_code
def yX7_gather : MethodName := ⟨RX7, "gather", "(I)I"⟩
abbrev cX7_associate : ByteArray := prog_9_method_28_code
def yX7_associate : MethodName := ⟨RX7, "associate", "()I"⟩
abbrev cX7_foundEvents : ByteArray := prog_9_method_29_code
def yX7_foundEvents : MethodName := ⟨RX7, "foundEvents", "()I"⟩
abbrev cX7_counted : ByteArray := prog_9_method_30_code
def yX7_counted : MethodName := ⟨RX7, "counted", "(I)I"⟩
abbrev cX7_count : ByteArray := prog_9_method_31_code
def yX7_count : MethodName := ⟨RX7, "count", "(I)I"⟩
abbrev cX7_picksOf : ByteArray := prog_9_method_32_code
def yX7_picksOf : MethodName := ⟨RX7, "picksOf", "(I)I"⟩
abbrev cX7_hasStation : ByteArray := prog_9_method_33_code
def yX7_hasStation : MethodName := ⟨RX7, "hasStation", "(II)Z"⟩
abbrev cX7_stationsOf : ByteArray := prog_9_method_34_code
def yX7_stationsOf : MethodName := ⟨RX7, "stationsOf", "(I)I"⟩
abbrev cX7_isMiddle : ByteArray := prog_9_method_35_code
def yX7_isMiddle : MethodName := ⟨RX7, "isMiddle", "(III)Z"⟩
abbrev cX7_misfitAt : ByteArray := prog_9_method_36_code
def yX7_misfitAt : MethodName := ⟨RX7, "misfitAt", "(IIII)J"⟩
abbrev cX7_look : ByteArray := prog_9_method_37_code
def yX7_look : MethodName := ⟨RX7, "look", "(I)J"⟩
abbrev cX7_seek : ByteArray := prog_9_method_38_code
def yX7_seek : MethodName := ⟨RX7, "seek", "(I)J"⟩
abbrev cX7_event : ByteArray := prog_9_method_39_code
def yX7_event : MethodName := ⟨RX7, "event", "(II)I"⟩
abbrev cX7_misfit : ByteArray := prog_9_method_40_code
def yX7_misfit : MethodName := ⟨RX7, "misfit", "(IIII)J"⟩
abbrev cX7_residualOf : ByteArray := prog_9_method_41_code
def yX7_residualOf : MethodName := ⟨RX7, "residualOf", "(I)I"⟩
abbrev cX7_residual : ByteArray := prog_9_method_42_code
def yX7_residual : MethodName := ⟨RX7, "residual", "(I)I"⟩
abbrev cX7_worst : ByteArray := prog_9_method_43_code
def yX7_worst : MethodName := ⟨RX7, "worst", "(I)I"⟩
abbrev cX7_spread : ByteArray := prog_9_method_44_code
def yX7_spread : MethodName := ⟨RX7, "spread", "(I)D"⟩
abbrev cX7_bearing : ByteArray := prog_9_method_45_code
def yX7_bearing : MethodName := ⟨RX7, "bearing", "(II)I"⟩
abbrev cX7_gapOf : ByteArray := prog_9_method_46_code
def yX7_gapOf : MethodName := ⟨RX7, "gapOf", "(I)I"⟩
abbrev cX7_gap : ByteArray := prog_9_method_47_code
def yX7_gap : MethodName := ⟨RX7, "gap", "(I)I"⟩
abbrev cX7_setAmplitude : ByteArray := prog_9_method_48_code
def yX7_setAmplitude : MethodName := ⟨RX7, "setAmplitude", "(II)I"⟩
abbrev cX7_sizeBy : ByteArray := prog_9_method_49_code
def yX7_sizeBy : MethodName := ⟨RX7, "sizeBy", "(I)I"⟩
abbrev cX7_magnitudeOf : ByteArray := prog_9_method_50_code
def yX7_magnitudeOf : MethodName := ⟨RX7, "magnitudeOf", "(I)I"⟩
abbrev cX7_magnitude : ByteArray := prog_9_method_51_code
def yX7_magnitude : MethodName := ⟨RX7, "magnitude", "(I)I"⟩
abbrev cX7_isRange : ByteArray := prog_9_method_52_code
def yX7_isRange : MethodName := ⟨RX7, "isRange", "(II)Z"⟩
abbrev cX7_off : ByteArray := prog_9_method_53_code
def yX7_off : MethodName := ⟨RX7, "off", "(IIII)I"⟩
abbrev cX7_areRelated : ByteArray := prog_9_method_54_code
def yX7_areRelated : MethodName := ⟨RX7, "areRelated", "(IIII)Z"⟩
abbrev cX7_heads : ByteArray := prog_9_method_55_code
def yX7_heads : MethodName := ⟨RX7, "heads", "(II)[I"⟩
abbrev cX7_families : ByteArray := prog_9_method_56_code
def yX7_families : MethodName := ⟨RX7, "families", "(II)I"⟩
abbrev cX7_family : ByteArray := prog_9_method_57_code
def yX7_family : MethodName := ⟨RX7, "family", "(III)I"⟩
abbrev cX7_nearest : ByteArray := prog_9_method_58_code
def yX7_nearest : MethodName := ⟨RX7, "nearest", "(III)I"⟩
abbrev cX7_digest : ByteArray := prog_9_method_59_code
def yX7_digest : MethodName := ⟨RX7, "digest", "()J"⟩
abbrev cJ5_init_d00df : ByteArray := prog_11_method_2_code
def yJ5_init_d00df : MethodName := ⟨RJ5, "<init>", "(I)V"⟩
abbrev cJ5_length_8abf5 : ByteArray := prog_11_method_6_code
def yJ5_length_8abf5 : MethodName := ⟨RJ5, "length", "()I"⟩
abbrev cJ5_ensureCapacityInternal_d00df : ByteArray := prog_11_method_9_code
def yJ5_ensureCapacityInternal_d00df : MethodName := ⟨RJ5, "ensureCapacityInternal", "(I)V"⟩
abbrev cJ5_newCapacity_0f7a4 : ByteArray := prog_11_method_10_code
def yJ5_newCapacity_0f7a4 : MethodName := ⟨RJ5, "newCapacity", "(I)I"⟩
abbrev cJ5_inflate_da8c8 : ByteArray := prog_11_method_11_code
def yJ5_inflate_da8c8 : MethodName := ⟨RJ5, "inflate", "()V"⟩
abbrev cJ5_append_cf1ce : ByteArray := prog_11_method_22_code
def yJ5_append_cf1ce : MethodName := ⟨RJ5, "append", "(Ljava/lang/String;)Ljava/lang/AbstractStringBuilder;"⟩
abbrev cJ5_appendNull_278bc : ByteArray := prog_11_method_26_code
def yJ5_appendNull_278bc : MethodName := ⟨RJ5, "appendNull", "()Ljava/lang/AbstractStringBuilder;"⟩
abbrev cJ5_append_c97b9 : ByteArray := prog_11_method_32_code
def yJ5_append_c97b9 : MethodName := ⟨RJ5, "append", "(I)Ljava/lang/AbstractStringBuilder;"⟩
abbrev cJ5_getValue_6d5f1 : ByteArray := prog_11_method_64_code
def yJ5_getValue_6d5f1 : MethodName := ⟨RJ5, "getValue", "()[B"⟩
abbrev cJ5_isLatin1_aae02 : ByteArray := prog_11_method_68_code
def yJ5_isLatin1_aae02 : MethodName := ⟨RJ5, "isLatin1", "()Z"⟩
abbrev cJ5_inflateIfNeededFor_a7421 : ByteArray := prog_11_method_71_code
def yJ5_inflateIfNeededFor_a7421 : MethodName := ⟨RJ5, "inflateIfNeededFor", "(Ljava/lang/String;)V"⟩
abbrev cJ5_putStringAt_47b60 : ByteArray := prog_11_method_73_code
def yJ5_putStringAt_47b60 : MethodName := ⟨RJ5, "putStringAt", "(ILjava/lang/String;)V"⟩
abbrev cJ6_getChars_ba4f3 : ByteArray := prog_20_method_12_code
def yJ6_getChars_ba4f3 : MethodName := ⟨RJ6, "getChars", "(II[B)I"⟩
abbrev cJ6_stringSize_0f7a4 : ByteArray := prog_20_method_13_code
def yJ6_stringSize_0f7a4 : MethodName := ⟨RJ6, "stringSize", "(I)I"⟩
abbrev cJ6_bitCount_0f7a4 : ByteArray := prog_20_method_49_code
def yJ6_bitCount_0f7a4 : MethodName := ⟨RJ6, "bitCount", "(I)I"⟩
abbrev cJ9_abs_0f7a4 : ByteArray := prog_22_method_59_code
def yJ9_abs_0f7a4 : MethodName := ⟨RJ9, "abs", "(I)I"⟩
abbrev cJ9_max_7cf53 : ByteArray := prog_22_method_65_code
def yJ9_max_7cf53 : MethodName := ⟨RJ9, "max", "(II)I"⟩
abbrev cJ9_min_7cf53 : ByteArray := prog_22_method_69_code
def yJ9_min_7cf53 : MethodName := ⟨RJ9, "min", "(II)I"⟩
abbrev cJ0_init_81219 : ByteArray := prog_25_method_53_code
def yJ0_init_81219 : MethodName := ⟨RJ0, "<init>", "(Ljava/lang/StringBuilder;)V"⟩
abbrev cJ0_length_8abf5 : ByteArray := prog_25_method_54_code
def yJ0_length_8abf5 : MethodName := ⟨RJ0, "length", "()I"⟩
abbrev cJ0_getBytes_840e7 : ByteArray := prog_25_method_147_code
def yJ0_getBytes_840e7 : MethodName := ⟨RJ0, "getBytes", "([BIB)V"⟩
abbrev cJ0_init_db425 : ByteArray := prog_25_method_150_code
def yJ0_init_db425 : MethodName := ⟨RJ0, "<init>", "(Ljava/lang/AbstractStringBuilder;Ljava/lang/Void;)V"⟩
abbrev cJ0_coder_7d493 : ByteArray := prog_25_method_152_code
def yJ0_coder_7d493 : MethodName := ⟨RJ0, "coder", "()B"⟩
abbrev cJ0_checkBoundsOffCount_cabcc : ByteArray := prog_25_method_157_code
def yJ0_checkBoundsOffCount_cabcc : MethodName := ⟨RJ0, "checkBoundsOffCount", "(III)I"⟩
abbrev cJ0_checkBoundsBeginEnd_23922 : ByteArray := prog_25_method_158_code
def yJ0_checkBoundsBeginEnd_23922 : MethodName := ⟨RJ0, "checkBoundsBeginEnd", "(III)V"⟩
abbrev cJ4_init_da8c8 : ByteArray := prog_26_method_1_code
def yJ4_init_da8c8 : MethodName := ⟨RJ4, "<init>", "()V"⟩
abbrev cJ4_append_15ec4 : ByteArray := prog_26_method_7_code
def yJ4_append_15ec4 : MethodName := ⟨RJ4, "append", "(Ljava/lang/String;)Ljava/lang/StringBuilder;"⟩
abbrev cJ4_append_bf812 : ByteArray := prog_26_method_15_code
def yJ4_append_bf812 : MethodName := ⟨RJ4, "append", "(I)Ljava/lang/StringBuilder;"⟩
abbrev cJ4_toString_0e30d : ByteArray := prog_26_method_42_code
def yJ4_toString_0e30d : MethodName := ⟨RJ4, "toString", "()Ljava/lang/String;"⟩
abbrev cJ4_length_8abf5 : ByteArray := prog_26_method_93_code
def yJ4_length_8abf5 : MethodName := ⟨RJ4, "length", "()I"⟩
abbrev cJ1_inflate_0e8fd : ByteArray := prog_27_method_50_code
def yJ1_inflate_0e8fd : MethodName := ⟨RJ1, "inflate", "([BI[BII)V"⟩
abbrev cJ2_newBytesFor_77867 : ByteArray := prog_28_method_2_code
def yJ2_newBytesFor_77867 : MethodName := ⟨RJ2, "newBytesFor", "(I)[B"⟩
abbrev cJ2_newBytesLength_0f7a4 : ByteArray := prog_28_method_3_code
def yJ2_newBytesLength_0f7a4 : MethodName := ⟨RJ2, "newBytesLength", "(I)I"⟩
abbrev cJ2_putChar_b72d1 : ByteArray := prog_28_method_4_code
def yJ2_putChar_b72d1 : MethodName := ⟨RJ2, "putChar", "([BII)V"⟩
abbrev cJ2_getChar_3b067 : ByteArray := prog_28_method_5_code
def yJ2_getChar_3b067 : MethodName := ⟨RJ2, "getChar", "([BI)C"⟩
abbrev cJ2_length_9d52b : ByteArray := prog_28_method_6_code
def yJ2_length_9d52b : MethodName := ⟨RJ2, "length", "([B)I"⟩
abbrev cJ2_coderFromArrayLen_85cad : ByteArray := prog_28_method_15_code
def yJ2_coderFromArrayLen_85cad : MethodName := ⟨RJ2, "coderFromArrayLen", "([BI)B"⟩
abbrev cJ2_compress_39247 : ByteArray := prog_28_method_17_code
def yJ2_compress_39247 : MethodName := ⟨RJ2, "compress", "([BII)[B"⟩
abbrev cJ2_compress_5af95 : ByteArray := prog_28_method_22_code
def yJ2_compress_5af95 : MethodName := ⟨RJ2, "compress", "([BI[BII)I"⟩
abbrev cJ2_getChars_46870 : ByteArray := prog_28_method_77_code
def yJ2_getChars_46870 : MethodName := ⟨RJ2, "getChars", "(III[B)I"⟩
abbrev cJ2_putCharsAt_cd4e5 : ByteArray := prog_28_method_81_code
def yJ2_putCharsAt_cd4e5 : MethodName := ⟨RJ2, "putCharsAt", "([BICCCC)I"⟩
abbrev cJ2_inflate_0e8fd : ByteArray := prog_28_method_86_code
def yJ2_inflate_0e8fd : MethodName := ⟨RJ2, "inflate", "([BI[BII)V"⟩
abbrev cJ2_getChars_ba4f3 : ByteArray := prog_28_method_89_code
def yJ2_getChars_ba4f3 : MethodName := ⟨RJ2, "getChars", "(II[B)I"⟩
abbrev cJ2_checkBoundsBeginEnd_d044e : ByteArray := prog_28_method_93_code
def yJ2_checkBoundsBeginEnd_d044e : MethodName := ⟨RJ2, "checkBoundsBeginEnd", "(II[B)V"⟩
abbrev cJ2_checkBoundsOffCount_d044e : ByteArray := prog_28_method_94_code
def yJ2_checkBoundsOffCount_d044e : MethodName := ⟨RJ2, "checkBoundsOffCount", "(II[B)V"⟩
abbrev cJxa1e45_init_da8c8 : ByteArray := prog_33_method_1_code
def yJxa1e45_init_da8c8 : MethodName := ⟨RJxa1e45, "<init>", "()V"⟩
abbrev cJxc12de_init_da8c8 : ByteArray := prog_34_method_1_code
def yJxc12de_init_da8c8 : MethodName := ⟨RJxc12de, "<init>", "()V"⟩
abbrev cJx4a65c_init_da8c8 : ByteArray := prog_35_method_2_code
def yJx4a65c_init_da8c8 : MethodName := ⟨RJx4a65c, "<init>", "()V"⟩
abbrev cJx4a65c_grow_92f84 : ByteArray := prog_35_method_6_code
def yJx4a65c_grow_92f84 : MethodName := ⟨RJx4a65c, "grow", "(I)[Ljava/lang/Object;"⟩
abbrev cJx4a65c_grow_d5877 : ByteArray := prog_35_method_7_code
def yJx4a65c_grow_d5877 : MethodName := ⟨RJx4a65c, "grow", "()[Ljava/lang/Object;"⟩
abbrev cJx4a65c_size_8abf5 : ByteArray := prog_35_method_8_code
def yJx4a65c_size_8abf5 : MethodName := ⟨RJx4a65c, "size", "()I"⟩
abbrev cJx4a65c_elementData_915e3 : ByteArray := prog_35_method_18_code
def yJx4a65c_elementData_915e3 : MethodName := ⟨RJx4a65c, "elementData", "(I)Ljava/lang/Object;"⟩
abbrev cJx4a65c_get_915e3 : ByteArray := prog_35_method_20_code
def yJx4a65c_get_915e3 : MethodName := ⟨RJx4a65c, "get", "(I)Ljava/lang/Object;"⟩
abbrev cJx4a65c_add_72be8 : ByteArray := prog_35_method_24_code
def yJx4a65c_add_72be8 : MethodName := ⟨RJx4a65c, "add", "(Ljava/lang/Object;[Ljava/lang/Object;I)V"⟩
abbrev cJx4a65c_add_9ea2d : ByteArray := prog_35_method_25_code
def yJx4a65c_add_9ea2d : MethodName := ⟨RJx4a65c, "add", "(Ljava/lang/Object;)Z"⟩
abbrev cJx4a65c_add_7a177 : ByteArray := prog_35_method_26_code
def yJx4a65c_add_7a177 : MethodName := ⟨RJx4a65c, "add", "(ILjava/lang/Object;)V"⟩
abbrev cJx4a65c_remove_915e3 : ByteArray := prog_35_method_29_code
def yJx4a65c_remove_915e3 : MethodName := ⟨RJx4a65c, "remove", "(I)Ljava/lang/Object;"⟩
abbrev cJx4a65c_fastRemove_b59b0 : ByteArray := prog_35_method_39_code
def yJx4a65c_fastRemove_b59b0 : MethodName := ⟨RJx4a65c, "fastRemove", "([Ljava/lang/Object;I)V"⟩
abbrev cJx4a65c_clear_da8c8 : ByteArray := prog_35_method_40_code
def yJx4a65c_clear_da8c8 : MethodName := ⟨RJx4a65c, "clear", "()V"⟩
abbrev cJx4a65c_rangeCheckForAdd_d00df : ByteArray := prog_35_method_45_code
def yJx4a65c_rangeCheckForAdd_d00df : MethodName := ⟨RJx4a65c, "rangeCheckForAdd", "(I)V"⟩
abbrev cJx4a65c_outOfBoundsMsg_b52d3 : ByteArray := prog_35_method_46_code
def yJx4a65c_outOfBoundsMsg_b52d3 : MethodName := ⟨RJx4a65c, "outOfBoundsMsg", "(I)Ljava/lang/String;"⟩
abbrev cJ7_copyOf_1904c : ByteArray := prog_36_method_119_code
def yJ7_copyOf_1904c : MethodName := ⟨RJ7, "copyOf", "([Ljava/lang/Object;I)[Ljava/lang/Object;"⟩
abbrev cJ7_copyOf_6403c : ByteArray := prog_36_method_120_code
def yJ7_copyOf_6403c : MethodName := ⟨RJ7, "copyOf", "([Ljava/lang/Object;ILjava/lang/Class;)[Ljava/lang/Object;"⟩
abbrev cJ7_copyOf_9075b : ByteArray := prog_36_method_121_code
def yJ7_copyOf_9075b : MethodName := ⟨RJ7, "copyOf", "([BI)[B"⟩
abbrev cJ7_checkLength_df160 : ByteArray := prog_36_method_131_code
def yJ7_checkLength_df160 : MethodName := ⟨RJ7, "checkLength", "(II)V"⟩
abbrev cJ7_copyOfRange_39247 : ByteArray := prog_36_method_132_code
def yJ7_copyOfRange_39247 : MethodName := ⟨RJ7, "copyOfRange", "([BII)[B"⟩
abbrev cJ7_copyOfRangeByte_39247 : ByteArray := prog_36_method_133_code
def yJ7_copyOfRangeByte_39247 : MethodName := ⟨RJ7, "copyOfRangeByte", "([BII)[B"⟩
abbrev cJ15_checkIndex_7cf53 : ByteArray := prog_39_method_17_code
def yJ15_checkIndex_7cf53 : MethodName := ⟨RJ15, "checkIndex", "(II)I"⟩
abbrev cJ8_newLength_cabcc : ByteArray := prog_42_method_27_code
def yJ8_newLength_cabcc : MethodName := ⟨RJ8, "newLength", "(III)I"⟩
abbrev cJ8_hugeLength_7cf53 : ByteArray := prog_42_method_28_code
def yJ8_hugeLength_7cf53 : MethodName := ⟨RJ8, "hugeLength", "(II)I"⟩
abbrev cJ3_checkIndex_8e157 : ByteArray := prog_43_method_11_code
def yJ3_checkIndex_8e157 : MethodName := ⟨RJ3, "checkIndex", "(IILjava/util/function/BiFunction;)I"⟩
abbrev cJ3_checkFromToIndex_8c36e : ByteArray := prog_43_method_12_code
def yJ3_checkFromToIndex_8c36e : MethodName := ⟨RJ3, "checkFromToIndex", "(IIILjava/util/function/BiFunction;)I"⟩
abbrev cJ3_checkFromIndexSize_8c36e : ByteArray := prog_43_method_13_code
def yJ3_checkFromIndexSize_8c36e : MethodName := ⟨RJ3, "checkFromIndexSize", "(IIILjava/util/function/BiFunction;)I"⟩
abbrev cL_addStation : ByteArray := method_3_code
def yL_addStation : MethodName := ⟨RL, "addStation", "(LQuakeBench;II[J)I"⟩
abbrev cL_setDelay : ByteArray := method_4_code
def yL_setDelay : MethodName := ⟨RL, "setDelay", "(LQuakeBench;II[J)I"⟩
abbrev cL_setSpeeds : ByteArray := method_5_code
def yL_setSpeeds : MethodName := ⟨RL, "setSpeeds", "(LQuakeBench;II[J)I"⟩
abbrev cL_way : ByteArray := method_6_code
def yL_way : MethodName := ⟨RL, "way", "(LQuakeBench;IIII[J)I"⟩
abbrev cL_needs : ByteArray := method_7_code
def yL_needs : MethodName := ⟨RL, "needs", "(LQuakeBench;IIIIZ[J)I"⟩
abbrev cL_addPick : ByteArray := method_8_code
def yL_addPick : MethodName := ⟨RL, "addPick", "(LQuakeBench;IZI[J)I"⟩
abbrev cL_setWeight : ByteArray := method_9_code
def yL_setWeight : MethodName := ⟨RL, "setWeight", "(LQuakeBench;II[J)I"⟩
abbrev cL_pick : ByteArray := method_10_code
def yL_pick : MethodName := ⟨RL, "pick", "(LQuakeBench;II[J)I"⟩
abbrev cL_addEvent : ByteArray := method_11_code
def yL_addEvent : MethodName := ⟨RL, "addEvent", "(LQuakeBench;[J)I"⟩
abbrev cL_give : ByteArray := method_12_code
def yL_give : MethodName := ⟨RL, "give", "(LQuakeBench;II[J)I"⟩
abbrev cL_count : ByteArray := method_13_code
def yL_count : MethodName := ⟨RL, "count", "(LQuakeBench;I[J)I"⟩
abbrev cL_seek : ByteArray := method_14_code
def yL_seek : MethodName := ⟨RL, "seek", "(LQuakeBench;I[J)I"⟩
abbrev cL_event : ByteArray := method_15_code
def yL_event : MethodName := ⟨RL, "event", "(LQuakeBench;II[J)I"⟩
abbrev cL_misfit : ByteArray := method_16_code
def yL_misfit : MethodName := ⟨RL, "misfit", "(LQuakeBench;IIII[J)I"⟩
abbrev cL_residual : ByteArray := method_17_code
def yL_residual : MethodName := ⟨RL, "residual", "(LQuakeBench;I[J)I"⟩
abbrev cL_worst : ByteArray := method_18_code
def yL_worst : MethodName := ⟨RL, "worst", "(LQuakeBench;I[J)I"⟩
abbrev cL_spread : ByteArray := method_19_code
def yL_spread : MethodName := ⟨RL, "spread", "(LQuakeBench;I[D)I"⟩
abbrev cL_gap : ByteArray := method_20_code
def yL_gap : MethodName := ⟨RL, "gap", "(LQuakeBench;I[J)I"⟩
abbrev cL_setAmplitude : ByteArray := method_21_code
def yL_setAmplitude : MethodName := ⟨RL, "setAmplitude", "(LQuakeBench;II[J)I"⟩
abbrev cL_magnitude : ByteArray := method_22_code
def yL_magnitude : MethodName := ⟨RL, "magnitude", "(LQuakeBench;I[J)I"⟩
abbrev cL_families : ByteArray := method_23_code
def yL_families : MethodName := ⟨RL, "families", "(LQuakeBench;II[J)I"⟩
abbrev cL_family : ByteArray := method_24_code
def yL_family : MethodName := ⟨RL, "family", "(LQuakeBench;III[J)I"⟩
abbrev cL_nearest : ByteArray := method_25_code
def yL_nearest : MethodName := ⟨RL, "nearest", "(LQuakeBench;III[J)I"⟩
abbrev cL_law : ByteArray := code
def yL_law : MethodName := ⟨RL, "law", "([I)Z"⟩
abbrev lw_all : List Cond := lw_tbl.filter goodWord
theorem zin {ws : List Cond} (ps : List Nat) (h : (decide (ps.map (fun i => lw_tbl[i]?) = ws.map some) && ws.all goodWord) = true) : ∀ w ∈ ws, w ∈ lw_all := by
  rw [Bool.and_eq_true, decide_eq_true_eq] at h
  intro w hw
  refine List.mem_filter.mpr ⟨?_, List.all_eq_true.mp h.2 w hw⟩
  have h1 : some w ∈ ws.map some := List.mem_map.mpr ⟨w, hw, rfl⟩
  rw [← h.1] at h1
  obtain ⟨i, -, hi⟩ := List.mem_map.mp h1
  exact List.mem_of_getElem? hi
theorem zin1 {w : Cond} (i : Nat) (h : (decide (lw_tbl[i]? = some w) && goodWord w) = true) : w ∈ lw_all := by
  rw [Bool.and_eq_true, decide_eq_true_eq] at h
  exact List.mem_filter.mpr ⟨List.mem_of_getElem? h.1, h.2⟩
abbrev zCl : List vw_C := [(RX6, TX6, 8), (RX0, TX0, 8), (RX1, TX1, 7), (RX2, TX2, 4), (RX3, TX3, 8), (RX4, TX4, 4), (RX5, TX5, 2), (RJx4a65c, TJx4a65c, 3), (RX7, TX7, 19)]
theorem zin_c0 : ∀ w ∈ u_ws RX6 TX6 8, w ∈ lw_all := zin [193, 195, 197, 199, 201, 203, 205, 207] (by decide +kernel)
theorem zin_c1 : ∀ w ∈ u_ws RX0 TX0 8, w ∈ lw_all := zin [710, 712, 714, 716, 718, 720, 722, 724] (by decide +kernel)
theorem zin_c2 : ∀ w ∈ u_ws RX1 TX1 7, w ∈ lw_all := zin [957, 959, 961, 963, 965, 967, 969] (by decide +kernel)
theorem zin_c3 : ∀ w ∈ u_ws RX2 TX2 4, w ∈ lw_all := zin [144, 146, 148, 150] (by decide +kernel)
theorem zin_c4 : ∀ w ∈ u_ws RX3 TX3 8, w ∈ lw_all := zin [168, 170, 172, 174, 176, 178, 180, 182] (by decide +kernel)
theorem zin_c5 : ∀ w ∈ u_ws RX4 TX4 4, w ∈ lw_all := zin [863, 865, 867, 869] (by decide +kernel)
theorem zin_c6 : ∀ w ∈ u_ws RX5 TX5 2, w ∈ lw_all := zin [128, 130] (by decide +kernel)
theorem zin_c7 : ∀ w ∈ u_ws RJx4a65c TJx4a65c 3, w ∈ lw_all := zin [115, 111, 113] (by decide +kernel)
theorem zin_c8 : ∀ w ∈ u_ws RX7 TX7 19, w ∈ lw_all := zin [1188, 1190, 1192, 1194, 1196, 1198, 1200, 1202, 1204, 1206, 1208, 1210, 1212, 1214, 1216, 1218, 1220, 1222, 1224] (by decide +kernel)
theorem zCl_in {ci N : Nat} {Cn : String} {T : u_T} (h : zCl[ci]? = some (Cn, T, N)) : ∀ w ∈ u_ws Cn T N, w ∈ lw_all := by
  match ci, h with
  | 0, h => cases h; exact zin_c0
  | 1, h => cases h; exact zin_c1
  | 2, h => cases h; exact zin_c2
  | 3, h => cases h; exact zin_c3
  | 4, h => cases h; exact zin_c4
  | 5, h => cases h; exact zin_c5
  | 6, h => cases h; exact zin_c6
  | 7, h => cases h; exact zin_c7
  | 8, h => cases h; exact zin_c8
  | k + 9, h => simp [zCl] at h
theorem zCl_ty {ci N : Nat} {Cn : String} {T : u_T} (h : zCl[ci]? = some (Cn, T, N)) : ∃ ty : Nat → FieldType, ∀ k, k < N → parseFieldDescriptor (T k).2.2.1 = some (ty k) := by
  match ci, h with
  | 0, h => cases h; exact ⟨tyX6, tyX6_ok⟩
  | 1, h => cases h; exact ⟨tyX0, tyX0_ok⟩
  | 2, h => cases h; exact ⟨tyX1, tyX1_ok⟩
  | 3, h => cases h; exact ⟨tyX2, tyX2_ok⟩
  | 4, h => cases h; exact ⟨tyX3, tyX3_ok⟩
  | 5, h => cases h; exact ⟨tyX4, tyX4_ok⟩
  | 6, h => cases h; exact ⟨tyX5, tyX5_ok⟩
  | 7, h => cases h; exact ⟨tyJx4a65c, tyJx4a65c_ok⟩
  | 8, h => cases h; exact ⟨tyX7, tyX7_ok⟩
  | k + 9, h => simp [zCl] at h
theorem zCl_nm {ci N : Nat} {Cn : String} {T : u_T} (h : zCl[ci]? = some (Cn, T, N)) : ∀ a, a < N → ∀ b, b < N → a ≠ b → (T a).2.1 ≠ (T b).2.1 := by
  match ci, h with
  | 0, h => cases h; exact nmX6
  | 1, h => cases h; exact nmX0
  | 2, h => cases h; exact nmX1
  | 3, h => cases h; exact nmX2
  | 4, h => cases h; exact nmX3
  | 5, h => cases h; exact nmX4
  | 6, h => cases h; exact nmX5
  | 7, h => cases h; exact nmJx4a65c
  | 8, h => cases h; exact nmX7
  | k + 9, h => simp [zCl] at h
abbrev zT (cy : Nat → ClassId) : List (ClassId × FieldType) := [(cy 0, .int), (cy 1, .object "java/lang/Object"), (cy 2, .boolean), (cy 3, .long), (cy 4, .double)]
def lw_nest : List Cond := [Cond.methodLinkNest "QuakeBench" 24 yX5_init "QuakeBench", Cond.methodLinkNest "QuakeBench" 31 yX2_init "QuakeBench", Cond.fieldLinkNest "QuakeBench" 266 "QuakeBench$Row" "total" "I" "QuakeBench", Cond.methodLinkNest "QuakeBench$Search" 69 yX6_isPlace "QuakeBench", Cond.castable "QuakeBench" "java/lang/Object", Cond.castable "QuakeBench$Event" "java/lang/Object", Cond.castable "QuakeBench$Pick" "java/lang/Object", Cond.castable "QuakeBench$Row" "java/lang/Object", Cond.castable "QuakeBench$Search" "java/lang/Object", Cond.castable "QuakeBench$Station" "java/lang/Object", Cond.castable "QuakeBench$Waves" "java/lang/Object", Cond.castable "java/util/ArrayList" "java/lang/Object", Cond.castable "QuakeBenchModel" "java/lang/Object", Cond.castable "java/lang/IndexOutOfBoundsException" "java/lang/IndexOutOfBoundsException", Cond.castable "java/lang/IllegalArgumentException" "java/lang/IllegalArgumentException", Cond.castable "java/lang/IllegalStateException" "java/lang/IllegalStateException", Cond.declares ⟨"java/lang/RuntimeException", "<init>", "(Ljava/lang/String;)V"⟩, Cond.declares ⟨"java/lang/Exception", "<init>", "(Ljava/lang/String;)V"⟩, Cond.declares ⟨"java/lang/Throwable", "<init>", "(Ljava/lang/String;)V"⟩]
def zis_nest : Cond → Bool
  | .fieldLinkNest .. => true
  | .methodLinkNest .. => true
  | .castable .. => true
  | .declares .. => true
  | _ => false
theorem lw_nest_ok : ∀ w ∈ lw_nest, zis_nest w = true := by decide +kernel
theorem zob_0 : Cond.castable RX6 "java/lang/Object" ∈ lw_nest := by decide +kernel
theorem zob_1 : Cond.castable RX0 "java/lang/Object" ∈ lw_nest := by decide +kernel
theorem zob_2 : Cond.castable RX1 "java/lang/Object" ∈ lw_nest := by decide +kernel
theorem zob_3 : Cond.castable RX2 "java/lang/Object" ∈ lw_nest := by decide +kernel
theorem zob_4 : Cond.castable RX3 "java/lang/Object" ∈ lw_nest := by decide +kernel
theorem zob_5 : Cond.castable RX4 "java/lang/Object" ∈ lw_nest := by decide +kernel
theorem zob_6 : Cond.castable RX5 "java/lang/Object" ∈ lw_nest := by decide +kernel
theorem zob_7 : Cond.castable RJx4a65c "java/lang/Object" ∈ lw_nest := by decide +kernel
theorem zob_8 : Cond.castable RX7 "java/lang/Object" ∈ lw_nest := by decide +kernel
theorem zCl_obj {ci N : Nat} {Cn : String} {T : u_T} (h : zCl[ci]? = some (Cn, T, N)) : Cond.castable Cn "java/lang/Object" ∈ lw_nest := by
  match ci, h with
  | 0, h => cases h; exact zob_0
  | 1, h => cases h; exact zob_1
  | 2, h => cases h; exact zob_2
  | 3, h => cases h; exact zob_3
  | 4, h => cases h; exact zob_4
  | 5, h => cases h; exact zob_5
  | 6, h => cases h; exact zob_6
  | 7, h => cases h; exact zob_7
  | 8, h => cases h; exact zob_8
  | k + 9, h => simp [zCl] at h
def lw_strs : List (String × Nat × String) := [("QuakeBench", 57, "x or y is outside"), ("QuakeBench", 68, "no more stations"), ("QuakeBench", 318, "no such station"), ("QuakeBench", 84, "delay is outside"), ("QuakeBench", 104, "v is outside"), ("QuakeBench", 106, "r is outside"), ("QuakeBench", 310, "no place"), ("QuakeBench", 126, "time is outside"), ("QuakeBench", 128, "no more picks"), ("QuakeBench", 320, "no such pick"), ("QuakeBench", 139, "weight is outside"), ("QuakeBench", 167, "what is not 0 to 4"), ("QuakeBench", 170, "no more events"), ("QuakeBench", 322, "no such event"), ("QuakeBench", 185, "the event has such a pick"), ("QuakeBench", 221, "picks of too few stations"), ("QuakeBench", 223, "what is not 0 to 5"), ("QuakeBench", 312, "the event is not found"), ("QuakeBench", 253, "the pick has no event"), ("QuakeBench", 273, "amplitude is outside"), ("QuakeBench", 314, "near is outside"), ("QuakeBench", 316, "soon is outside")]
end
section
/-! OWN ROWS: the walk over a world that is a function from addresses to cells -/
abbrev zG : Type := Nat → Option va_E
abbrev zws (y : MethodName) (cb : ByteArray) (n : Nat) (ret : Option FieldType) : List Cond := Cond.code y cb n ret :: lw_all
def zU (G : zG) (a : Nat) (e : va_E) : zG := fun q => if q = a then some e else G q
def zR (G : zG) (ws : va_W) : Prop := ∀ q e, G q = some e ↔ (q, e) ∈ ws
def zA (G : zG) (sz : Nat) : Nat → Prop := fun q => (∃ e, G q = some e) ∨ sz ≤ q
theorem zU_same (G : zG) (a : Nat) (e : va_E) : zU G a e a = some e := if_pos rfl
theorem zU_ne {G : zG} {a b : Nat} {e : va_E} (h : b ≠ a) : zU G a e b = G b := if_neg h
theorem zU_get {G : zG} {a b : Nat} {e x y : va_E} (hb : G b = some x) (ha : G a = some y) (h : x ≠ y) : zU G a e b = some x := by
  rw [zU_ne (fun z => h (by rw [z, ha] at hb; exact (Option.some.inj hb).symm))]; exact hb
theorem zU_new {G : zG} {a b : Nat} {e x : va_E} (hb : G b = some x) (ha : G a = none) : zU G a e b = some x := by
  rw [zU_ne (fun z => by rw [z, ha] at hb; cases hb)]; exact hb
theorem zU_zU (G : zG) (a : Nat) (e x : va_E) : zU (zU G a e) a x = zU G a x := by
  funext q
  unfold zU
  by_cases h : q = a
  · rw [if_pos h, if_pos h]
  · rw [if_neg h, if_neg h, if_neg h]
theorem zU_id {G : zG} {a : Nat} {e : va_E} (h : G a = some e) : zU G a e = G := by
  funext q
  unfold zU
  by_cases hq : q = a
  · rw [if_pos hq, hq, h]
  · rw [if_neg hq]
theorem zU_sw (G : zG) {a b : Nat} (e x : va_E) (h : a ≠ b) : zU (zU G a e) b x = zU (zU G b x) a e := by
  funext q
  unfold zU
  by_cases h1 : q = b
  · rw [if_pos h1, if_neg (fun z => h (z.symm.trans h1)), if_pos h1]
  · rw [if_neg h1]
    by_cases h2 : q = a
    · rw [if_pos h2, if_pos h2]
    · rw [if_neg h2, if_neg h2, if_neg h1]
/-- locals by their places -/
def zg : List (Option Value) → Nat → Option Value
  | [], _ => none
  | x :: _, 0 => x
  | _ :: r, i + 1 => zg r i
def zc : Option Value → Option Value
  | some u => if u.category = 2 then none else some u
  | none => none
def zst (i : Nat) (v : Value) (w : Bool) : Nat → List (Option Value) → List (Option Value)
  | _, [] => []
  | j, x :: r => (if j = i then some v else if j + 1 = i then zc x else if (w && decide (j = i + 1)) = true then none else x) :: zst i v w (j + 1) r
abbrev zs1 (i : Nat) (v : Value) (lv : List (Option Value)) : List (Option Value) := zst i v false 0 lv
abbrev zs2 (i : Nat) (v : Value) (lv : List (Option Value)) : List (Option Value) := zst i v true 0 lv
def zp : Nat → List (Option Value) → List (Nat × Value)
  | _, [] => []
  | j, some v :: r => (j, v) :: zp (j + 1) r
  | j, none :: r => zp (j + 1) r
theorem zp_mem : ∀ (lv : List (Option Value)) (j i : Nat) (v : Value), (i, v) ∈ zp j lv ↔ j ≤ i ∧ zg lv (i - j) = some v
  | [], j, i, v => by simp [zp, zg]
  | x :: r, j, i, v => by
    have ih := zp_mem r (j + 1) i v
    have key : (j + 1 ≤ i ∧ zg r (i - (j + 1)) = some v) ↔ (j ≤ i ∧ i ≠ j ∧ zg (x :: r) (i - j) = some v) := by
      constructor
      · rintro ⟨h1, h2⟩
        refine ⟨by omega, by omega, ?_⟩
        rw [show i - j = (i - (j + 1)) + 1 by omega]
        exact h2
      · rintro ⟨h1, h2, h3⟩
        refine ⟨by omega, ?_⟩
        rw [show i - j = (i - (j + 1)) + 1 by omega] at h3
        exact h3
    cases x with
    | none =>
      rw [zp, ih, key]
      constructor
      · rintro ⟨h1, -, h3⟩; exact ⟨h1, h3⟩
      · rintro ⟨h1, h3⟩
        refine ⟨h1, fun e => ?_, h3⟩
        subst e
        rw [Nat.sub_self] at h3
        cases h3
    | some u =>
      rw [zp, List.mem_cons, ih, key]
      constructor
      · rintro (h | ⟨h1, -, h3⟩)
        · cases h
          exact ⟨Nat.le_refl _, by rw [Nat.sub_self]; rfl⟩
        · exact ⟨h1, h3⟩
      · rintro ⟨h1, h3⟩
        by_cases e : i = j
        · subst e
          rw [Nat.sub_self] at h3
          have : u = v := Option.some.inj h3
          subst this
          exact Or.inl rfl
        · exact Or.inr ⟨h1, e, h3⟩
def zL (ls : Array Slot) (nL : Nat) (lv : List (Option Value)) : Prop := lv_has ls nL (zp 0 lv)
theorem zL.at {ls : Array Slot} {nL : Nat} {lv : List (Option Value)} {i : Nat} {v : Value} (h : zL ls nL lv) (hv : zg lv i = some v) : ls[i]? = some (.val v) :=
  h.2.2 (i, v) ((zp_mem lv 0 i v).mpr ⟨Nat.zero_le _, hv⟩)
theorem zst_get (i : Nat) (v : Value) (w : Bool) : ∀ (lv : List (Option Value)) (j q : Nat) (u : Value), zg (zst i v w j lv) q = some u → (j + q = i ∧ u = v) ∨ (j + q ≠ i ∧ zg lv q = some u ∧ ¬ (j + q + 1 = i ∧ u.category = 2) ∧ ¬ (w = true ∧ j + q = i + 1))
  | [], j, q, u, h => by simp [zst, zg] at h
  | x :: r, j, 0, u, h => by
    rw [zst, zg] at h
    by_cases h1 : j = i
    · rw [if_pos h1] at h
      exact Or.inl ⟨h1, (Option.some.inj h).symm⟩
    · rw [if_neg h1] at h
      by_cases h2 : j + 1 = i
      · rw [if_pos h2] at h
        cases x with
        | none => cases h
        | some y =>
          change (if y.category = 2 then none else some y) = some u at h
          by_cases h3 : y.category = 2
          · simp [h3] at h
          · rw [if_neg h3] at h
            have e := Option.some.inj h
            subst e
            exact Or.inr ⟨h1, rfl, fun z => h3 z.2, fun z => by omega⟩
      · rw [if_neg h2] at h
        by_cases h3 : (w && decide (j = i + 1)) = true
        · rw [if_pos h3] at h; cases h
        · rw [if_neg h3] at h
          refine Or.inr ⟨h1, h, fun z => h2 z.1, fun z => h3 ?_⟩
          rw [z.1, Bool.true_and, decide_eq_true_eq]
          exact z.2
  | x :: r, j, q + 1, u, h => by
    rw [zst, zg] at h
    have ih := zst_get i v w r (j + 1) q u h
    rw [show j + 1 + q = j + (q + 1) by omega] at ih
    exact ih
theorem zL.of {ls : Array Slot} {nL : Nat} {l : List (Nat × Value)} {lv : List (Option Value)} (h : lv_has ls nL l) (hm : ∀ q ∈ zp 0 lv, q ∈ l) : zL ls nL lv :=
  ⟨h.1, h.2.1, fun q hq => h.2.2 q (hm q hq)⟩
theorem zL.st1 {ls : Array Slot} {nL : Nat} {lv : List (Option Value)} {i : Nat} {v : Value} (h : lv_has ls nL ((i, v) :: (zp 0 lv).filter (fun q => !(q.1 == i) && !(q.1 + 1 == i && q.2.category == 2)))) : zL ls nL (zs1 i v lv) := by
  refine zL.of h (fun q hq => ?_)
  obtain ⟨k, u⟩ := q
  rw [zp_mem] at hq
  rcases zst_get i v false lv 0 k u (by simpa using hq.2) with ⟨e, e2⟩ | ⟨e, e2, e3, -⟩
  · rw [Nat.zero_add] at e
    subst e; subst e2
    exact List.mem_cons_self
  · rw [Nat.zero_add] at e e3
    refine List.mem_cons_of_mem _ (List.mem_filter.mpr ⟨(zp_mem lv 0 k u).mpr ⟨Nat.zero_le _, e2⟩, ?_⟩)
    by_cases h1 : k + 1 = i
    · simp [e]
      exact Or.inr (fun z => e3 ⟨h1, z⟩)
    · simp [e, h1]
theorem zL.st2 {ls : Array Slot} {nL : Nat} {lv : List (Option Value)} {i : Nat} {v : Value} (h : lv_has ls nL ((i, v) :: (zp 0 lv).filter (fun q => !(q.1 == i) && (!(q.1 == i + 1) && !(q.1 + 1 == i && q.2.category == 2))))) : zL ls nL (zs2 i v lv) := by
  refine zL.of h (fun q hq => ?_)
  obtain ⟨k, u⟩ := q
  rw [zp_mem] at hq
  rcases zst_get i v true lv 0 k u (by simpa using hq.2) with ⟨e, e2⟩ | ⟨e, e2, e3, e4⟩
  · rw [Nat.zero_add] at e
    subst e; subst e2
    exact List.mem_cons_self
  · rw [Nat.zero_add] at e e3 e4
    have e5 : k ≠ i + 1 := fun z => e4 ⟨rfl, z⟩
    refine List.mem_cons_of_mem _ (List.mem_filter.mpr ⟨(zp_mem lv 0 k u).mpr ⟨Nat.zero_le _, e2⟩, ?_⟩)
    by_cases h1 : k + 1 = i
    · simp [e, e5]
      exact Or.inr (fun z => e3 ⟨h1, z⟩)
    · simp [e, e5, h1]
/-- the world as a list, and what a change of the list is to the function -/
theorem zR.mem {G : zG} {ws : va_W} {a : Nat} {e : va_E} (h : zR G ws) (hG : G a = some e) : ∃ k : Nat, ws[k]? = some (a, e) := List.getElem?_of_mem ((h a e).mp hG)
theorem zR.set {G : zG} {ws : va_W} {A : Nat → Prop} {a k : Nat} {e0 e : va_E} (h : zR G ws) (hD : va_D A ws) (hk : ws[k]? = some (a, e0)) : zR (zU G a e) (ws.set k (a, e)) := by
  have hl := (List.getElem?_eq_some_iff.mp hk).1
  intro q x
  constructor
  · intro hx
    unfold zU at hx
    by_cases hq : q = a
    · rw [if_pos hq] at hx
      cases hx
      subst hq
      exact List.mem_of_getElem? (List.getElem?_set_self hl)
    · rw [if_neg hq] at hx
      obtain ⟨i, hi⟩ := h.mem hx
      have hik : k ≠ i := fun z => by subst z; rw [hk] at hi; cases hi; exact hq rfl
      exact List.mem_of_getElem? ((List.getElem?_set_ne hik).trans hi)
  · intro hx
    obtain ⟨i, hi⟩ := List.getElem?_of_mem hx
    by_cases hik : k = i
    · subst hik
      rw [List.getElem?_set_self hl] at hi
      cases hi
      exact zU_same G a e
    · rw [List.getElem?_set_ne hik] at hi
      have hq : q ≠ a := fun z => hik (hD.1 k i (a, e0) (q, x) hk hi z.symm)
      rw [zU_ne hq]
      exact (h q x).mpr (List.mem_of_getElem? hi)
theorem zR.push {G : zG} {ws : va_W} {a : Nat} {e : va_E} (h : zR G ws) (hn : G a = none) : zR (zU G a e) (ws ++ [(a, e)]) := by
  intro q x
  rw [List.mem_append, List.mem_singleton]
  unfold zU
  by_cases hq : q = a
  · rw [if_pos hq]
    subst hq
    constructor
    · intro hx; cases hx; exact Or.inr rfl
    · rintro (hx | hx)
      · rw [(h q x).mpr hx] at hn; cases hn
      · cases hx; rfl
  · rw [if_neg hq]
    constructor
    · intro hx; exact Or.inl ((h q x).mp hx)
    · rintro (hx | hx)
      · exact (h q x).mpr hx
      · cases hx; exact absurd rfl hq
theorem zR.lt {G : zG} {ws : va_W} {D : va_G} {cl : List vw_C} {H : Heap} {a : Nat} {e : va_E} (h : zR G ws) (hP : va_P D cl ws H) (hG : G a = some e) : a < H.size := by
  obtain ⟨k, hk⟩ := h.mem hG
  exact (hP k _ hk).lt
/-- a new cell's address is none of the world's -/
theorem zR.fresh {G : zG} {ws : va_W} {A : Nat → Prop} {a : Nat} {e : va_E} (h : zR G ws) (hD : va_D A (ws ++ [(a, e)])) : G a = none := by
  cases hg : G a with
  | none => rfl
  | some x =>
    obtain ⟨k, hk⟩ := h.mem hg
    have hl := (List.getElem?_eq_some_iff.mp hk).1
    have h1 : (ws ++ [(a, e)])[k]? = some (a, x) := (List.getElem?_append_left hl).trans hk
    have h2 : (ws ++ [(a, e)])[ws.length]? = some (a, e) := by rw [List.getElem?_append_right (Nat.le_refl _), Nat.sub_self]; rfl
    have := hD.1 k ws.length _ _ h1 h2 rfl
    omega
end
section
/-! OWN ROWS, second part: contracts over such a world, and a row an instruction -/
abbrev zY : Type := va_G × (Nat → ClassId) × (Nat → Nat)
/-- cells outside the world that its code reads: ArrayList's empty array, the search's steps; and what a throw needs -/
def zE (tt : Nat → Nat) (A : Nat → Prop) (U : State) : Prop :=
  va_Z "java/util/ArrayList" "DEFAULTCAPACITY_EMPTY_ELEMENTDATA" "[Ljava/lang/Object;" (.ref (tt 0)) A U U.heap ∧ va_T (.object "java/lang/Object") (tt 0) 0 (fun _ => .null) A U U.heap ∧
  va_Z "QuakeBench$Search" "FINER_STEPS" "[I" (.ref (tt 1)) A U U.heap ∧ va_T .int (tt 1) 4 (fun j => .int (if j = 0 then 10 else if j = 1 then 5 else if j = 2 then 2 else 1)) A U U.heap ∧
  vx_Zq Bundle.tN "UNASSIGNED_STACK" Bundle.steD A U U.heap ∧ vx_Zq Bundle.tN "SUPPRESSED_SENTINEL" Bundle.listD A U U.heap
theorem zE.call {tt : Nat → Nat} {A B : Nat → Prop} {s U : State} {H : Heap} {locs : List Loc} (h : zE tt A s) (hvm : s.vm.Alike U.vm) (hS : va_S A s.heap H locs) (hH : U.heap = H) (hB : ∀ q, B q → A q) : zE tt B U := by
  subst hH
  obtain ⟨h1, h2, h3, h4, h5, h6⟩ := h
  exact ⟨((h1.kept hS.2.1).moved hvm).narrow hB, ((h2.kept hS.2.1).moved hvm).narrow hB, ((h3.kept hS.2.1).moved hvm).narrow hB, ((h4.kept hS.2.1).moved hvm).narrow hB, ((h5.kept hS.2.1).moved hvm).narrow hB, ((h6.kept hS.2.1).moved hvm).narrow hB⟩
/-- what is kept of the tables beside the words: links across the nest, the texts, Object's arrays -/
def zN (tt : Nat → Nat) (U : State) : Prop := (∀ w ∈ lw_nest, va_Nw w U) ∧ (∀ q ∈ lw_strs, ∃ a, vk_R q.1 q.2.1 q.2.2 a U) ∧ va_AO "java/lang/Object" U ∧ va_Mi "[Ljava/lang/Object;" (tt 2) U ∧ va_Dc U
theorem zN.warm {tt : Nat → Nat} {s U : State} (hW : s.WarmedH U.vm) (h : zN tt s) : zN tt U := by
  refine ⟨fun w hw => ?_, fun q hq => ?_, h.2.2.1.moved hW.alike, h.2.2.2.1.moved hW.alike, h.2.2.2.2.moved hW.alike⟩
  · have h1 := h.1 w hw
    have h2 := lw_nest_ok w hw
    cases w <;> first | exact va_Nw.warmF hW h1 | exact va_Nw.warmM hW h1 | exact va_Nw.warmC hW h1 | exact va_Nw.warmD hW h1 | (cases h2; done)
  · obtain ⟨a, ha⟩ := h.2.1 q hq
    exact ⟨a, ha.warm hW⟩
theorem zN.same {tt : Nat → Nat} {s U : State} (hv : U.vm = s.vm) (h : zN tt s) : zN tt U := by
  refine ⟨fun w hw => ?_, fun q hq => ?_, h.2.2.1.moved (by rw [hv]; exact Vm.Alike.refl s.vm), h.2.2.2.1.moved (by rw [hv]; exact Vm.Alike.refl s.vm), h.2.2.2.2.moved (by rw [hv]; exact Vm.Alike.refl s.vm)⟩
  · have h1 := h.1 w hw
    have h2 := lw_nest_ok w hw
    cases w <;> first | exact va_Nw.same rfl hv.symm h1 | (cases h2; done)
  · obtain ⟨a, ha⟩ := h.2.1 q hq
    exact ⟨a, ha.same hv⟩
def zB (Γ : zY) (G : zG) (sz : Nat) : State → Prop := fun U =>
  U.heap.size = sz ∧ (∃ ws, zR G ws ∧ va_P Γ.1 zCl ws U.heap ∧ va_D (fun _ => True) ws) ∧ va_K Γ.1 zCl (zT Γ.2.1) U ∧ zE Γ.2.2 (zA G sz) U ∧ zN Γ.2.2 U
theorem zB.blind {av : List Value} {Γ : zY} {G : zG} {sz : Nat} : FrameBlind (va_Pc av (zB Γ G sz)) := by
  intro a U g mk h
  obtain ⟨h1, h2, h3, h4, h5, h6⟩ := h
  exact ⟨h1, h2, h3, va_K.moved (u := U) (U := U.calling g mk a) (Vm.Alike.refl U.vm) h4, h5.call (U := U.calling g mk a) (Vm.Alike.refl U.vm) (va_S.rf (A := zA G sz) (H0 := U.heap)) rfl (fun _ h => h), zN.same (s := U) (U := U.calling g mk a) rfl h6⟩
def zQ (post : Option Value → zG → Prop) (Γ : zY) (G : zG) (sz : Nat) : Array Value → State → Outcome → State → Prop := fun _ st oc t =>
  (∃ (v : Option Value) (G' : zG) (ws' : va_W), oc = .returned v ∧ post v G' ∧ zR G' ws' ∧ va_P Γ.1 zCl ws' t.heap ∧ va_D (zA G sz) ws') ∧ va_F (zA G sz) st t
/-- a method's contract: on these arguments and this world it returns, and 'post' holds of the answer and the world then -/
def ZM (l : Launch) (y : MethodName) (cb : ByteArray) (n : Nat) (ret : Option FieldType) (rm : Room) (Γ : zY) (av : List Value) (G : zG) (post : Option Value → zG → Prop) : Prop :=
  ∀ sz : Nat, Met l y (zws y cb n ret) rm (va_Pc av (zB Γ G sz)) (zQ post Γ G sz) rm.cells rm.slots (zA G sz)
theorem ZM.mono {l : Launch} {y : MethodName} {cb : ByteArray} {n : Nat} {ret : Option FieldType} {rm : Room} {Γ : zY} {av : List Value} {G : zG} {post post' : Option Value → zG → Prop} (h : ZM l y cb n ret rm Γ av G post) (hp : ∀ v G', post v G' → post' v G') : ZM l y cb n ret rm Γ av G post' := by
  intro sz
  refine MetFree.mono (h sz) (fun _ _ q => q) (fun _ _ _ _ _ q => q) ?_
  intro a st o t _ hq
  obtain ⟨⟨⟨v, G', ws', h1, h2, h3⟩, h4⟩, h5⟩ := hq
  exact ⟨⟨⟨v, G', ws', h1, hp v G' h2, h3⟩, h4⟩, h5⟩
/-- what holds all along a walk -/
def zC (p : Program) (s : State) (m : MethodId) (args : Array Value) (meth : Method) (c : Code) (cc : ByteArray) (own : String) (nL : Nat) (Γ : zY) (A : Nat → Prop) : Prop :=
  p.tables.exec = Jvm.exec ∧ c.code = cc ∧ c.maxLocals = nL ∧ s.vm.findClass own = some m.cls ∧ (∀ w ∈ lw_all, w.before args s = true) ∧ va_K Γ.1 zCl (zT Γ.2.1) s ∧ meth.locks = false ∧ (∀ q, s.heap.size ≤ q → A q) ∧ zE Γ.2.2 A s ∧ zN Γ.2.2 s
/-- the walk: at pc, with these locals and this stack, in this world -/
def Z (p : Program) (l : Launch) (e : Env) (R : Room) (s : State) (m : MethodId) (args : Array Value) (below : List Frame) (meth : Method) (c : Code) (Q : State → Prop) (nL : Nat) (Γ : zY) (A : Nat → Prop) (G : zG) (k n pc : Nat) (lv : List (Option Value)) (st : List Value) : Prop :=
  ∀ (H : Heap) (locs : List Loc) (ls : Array Slot) (ws : va_W), zR G ws → va_P Γ.1 zCl ws H → va_D A ws → va_S A s.heap H locs → zL ls nL lv → W p l e R s m args below meth c H locs k n Q (F0 m pc ls st)
section ZZ
variable {p : Program} {l : Launch} {e : Env} {R : Room} {s : State} {m : MethodId} {args : Array Value} {below : List Frame} {meth : Method} {c : Code} {Q : State → Prop} {nL : Nat} {Γ : zY} {A : Nat → Prop} {G : zG} {k n pc : Nat} {lv : List (Option Value)} {st : List Value} {cc : ByteArray} {own : String}
theorem z_widen {k' n' : Nat} (h1 : k ≤ k') (h2 : n ≤ n') (kk : Z p l e R s m args below meth c Q nL Γ A G k' n' pc lv st) : Z p l e R s m args below meth c Q nL Γ A G k n pc lv st :=
  fun H locs ls ws hR hP hD hS hL => W.widen h1 h2 (kk H locs ls ws hR hP hD hS hL)
theorem z_iconst (C : zC p s m args meth c cc own nL Γ A) {i : Int} {v : Int32} (hd : decode cc pc = .ok (.iconst i, 1)) (hv : Int32.ofInt i = v) (kk : Z p l e R s m args below meth c Q nL Γ A G k n (pc + 1) lv (.int v :: st)) : Z p l e R s m args below meth c Q nL Γ A G k n pc lv st :=
  fun H locs ls ws hR hP hD hS hL => lv_iconst C.1 C.2.1 hd hv (kk H locs ls ws hR hP hD hS hL)
theorem z_bipush (C : zC p s m args meth c cc own nL Γ A) {i : Int} {v : Int32} (hd : decode cc pc = .ok (.bipush i, 2)) (hv : (Int8.ofInt i).toInt32 = v) (kk : Z p l e R s m args below meth c Q nL Γ A G k n (pc + 2) lv (.int v :: st)) : Z p l e R s m args below meth c Q nL Γ A G k n pc lv st :=
  fun H locs ls ws hR hP hD hS hL => lv_bipush C.1 C.2.1 hd hv (kk H locs ls ws hR hP hD hS hL)
theorem z_sipush (C : zC p s m args meth c cc own nL Γ A) {i : Int} {v : Int32} (hd : decode cc pc = .ok (.sipush i, 3)) (hv : (Int16.ofInt i).toInt32 = v) (kk : Z p l e R s m args below meth c Q nL Γ A G k n (pc + 3) lv (.int v :: st)) : Z p l e R s m args below meth c Q nL Γ A G k n pc lv st :=
  fun H locs ls ws hR hP hD hS hL => lv_sipush C.1 C.2.1 hd hv (kk H locs ls ws hR hP hD hS hL)
theorem z_lconst (C : zC p s m args meth c cc own nL Γ A) {i : Fin 2} {v : Int64} (hd : decode cc pc = .ok (.lconst i, 1)) (hv : Int64.ofNat (i : Nat) = v) (kk : Z p l e R s m args below meth c Q nL Γ A G k n (pc + 1) lv (.long v :: st)) : Z p l e R s m args below meth c Q nL Γ A G k n pc lv st :=
  fun H locs ls ws hR hP hD hS hL => lv_lconst C.1 C.2.1 hd hv (kk H locs ls ws hR hP hD hS hL)
theorem z_ldc (C : zC p s m args meth c cc own nL Γ A) {ix : Nat} {v : Int32} (hw : Cond.constant own ix v ∈ lw_all) (hd : decode cc pc = .ok (.ldc ix, 2)) (kk : Z p l e R s m args below meth c Q nL Γ A G k n (pc + 2) lv (.int v :: st)) : Z p l e R s m args below meth c Q nL Γ A G k n pc lv st :=
  fun H locs ls ws hR hP hD hS hL => lv_ldc C.1 C.2.1 C.2.2.2.1 (C.2.2.2.2.1 _ hw) hd (kk H locs ls ws hR hP hD hS hL)
theorem z_ldc2 (C : zC p s m args meth c cc own nL Γ A) {ix : Nat} {v : Int64} (hw : Cond.constantLong own ix v ∈ lw_all) (hd : decode cc pc = .ok (.ldc2_w ix, 3)) (kk : Z p l e R s m args below meth c Q nL Γ A G k n (pc + 3) lv (.long v :: st)) : Z p l e R s m args below meth c Q nL Γ A G k n pc lv st :=
  fun H locs ls ws hR hP hD hS hL => lv_ldc2 C.1 C.2.1 C.2.2.2.1 (C.2.2.2.2.1 _ hw) hd (kk H locs ls ws hR hP hD hS hL)
theorem z_iload_n (C : zC p s m args meth c cc own nL Γ A) {i : Fin 4} {x : Int32} (hd : decode cc pc = .ok (.iload_n i, 1)) (hl : zg lv (i : Nat) = some (.int x)) (kk : Z p l e R s m args below meth c Q nL Γ A G k n (pc + 1) lv (.int x :: st)) : Z p l e R s m args below meth c Q nL Γ A G k n pc lv st :=
  fun H locs ls ws hR hP hD hS hL => lv_iload_n C.1 C.2.1 hd rfl (hL.at hl) (kk H locs ls ws hR hP hD hS hL)
theorem z_iload (C : zC p s m args meth c cc own nL Γ A) {i : Nat} {x : Int32} (hd : decode cc pc = .ok (.iload i, 2)) (hl : zg lv i = some (.int x)) (kk : Z p l e R s m args below meth c Q nL Γ A G k n (pc + 2) lv (.int x :: st)) : Z p l e R s m args below meth c Q nL Γ A G k n pc lv st :=
  fun H locs ls ws hR hP hD hS hL => lv_iload C.1 C.2.1 hd (hL.at hl) (kk H locs ls ws hR hP hD hS hL)
theorem z_lload_n (C : zC p s m args meth c cc own nL Γ A) {i : Fin 4} {x : Int64} (hd : decode cc pc = .ok (.lload_n i, 1)) (hl : zg lv (i : Nat) = some (.long x)) (kk : Z p l e R s m args below meth c Q nL Γ A G k n (pc + 1) lv (.long x :: st)) : Z p l e R s m args below meth c Q nL Γ A G k n pc lv st :=
  fun H locs ls ws hR hP hD hS hL => lv_lload_n C.1 C.2.1 hd rfl (hL.at hl) (kk H locs ls ws hR hP hD hS hL)
theorem z_lload (C : zC p s m args meth c cc own nL Γ A) {i : Nat} {x : Int64} (hd : decode cc pc = .ok (.lload i, 2)) (hl : zg lv i = some (.long x)) (kk : Z p l e R s m args below meth c Q nL Γ A G k n (pc + 2) lv (.long x :: st)) : Z p l e R s m args below meth c Q nL Γ A G k n pc lv st :=
  fun H locs ls ws hR hP hD hS hL => lv_lload C.1 C.2.1 hd (hL.at hl) (kk H locs ls ws hR hP hD hS hL)
theorem z_dload (C : zC p s m args meth c cc own nL Γ A) {i : Nat} {x : UInt64} (hd : decode cc pc = .ok (.dload i, 2)) (hl : zg lv i = some (.double x)) (kk : Z p l e R s m args below meth c Q nL Γ A G k n (pc + 2) lv (.double x :: st)) : Z p l e R s m args below meth c Q nL Γ A G k n pc lv st :=
  fun H locs ls ws hR hP hD hS hL => lv_dload C.1 C.2.1 hd (hL.at hl) (kk H locs ls ws hR hP hD hS hL)
theorem z_aload_n (C : zC p s m args meth c cc own nL Γ A) {i : Fin 4} {x : Option Nat} (hd : decode cc pc = .ok (.aload_n i, 1)) (hl : zg lv (i : Nat) = some (va_rf x)) (kk : Z p l e R s m args below meth c Q nL Γ A G k n (pc + 1) lv (va_rf x :: st)) : Z p l e R s m args below meth c Q nL Γ A G k n pc lv st := by
  intro H locs ls ws hR hP hD hS hL
  cases x with
  | none => exact lv_aload_nN C.1 C.2.1 hd rfl (hL.at hl) (kk H locs ls ws hR hP hD hS hL)
  | some a => exact lv_aload_n C.1 C.2.1 hd rfl (hL.at hl) (kk H locs ls ws hR hP hD hS hL)
theorem z_aload (C : zC p s m args meth c cc own nL Γ A) {i : Nat} {x : Option Nat} (hd : decode cc pc = .ok (.aload i, 2)) (hl : zg lv i = some (va_rf x)) (kk : Z p l e R s m args below meth c Q nL Γ A G k n (pc + 2) lv (va_rf x :: st)) : Z p l e R s m args below meth c Q nL Γ A G k n pc lv st := by
  intro H locs ls ws hR hP hD hS hL
  cases x with
  | none => exact lv_aloadN C.1 C.2.1 hd (hL.at hl) (kk H locs ls ws hR hP hD hS hL)
  | some a => exact lv_aload C.1 C.2.1 hd (hL.at hl) (kk H locs ls ws hR hP hD hS hL)
/-- a reference from a local: not null -/
theorem z_rload_n (C : zC p s m args meth c cc own nL Γ A) {i : Fin 4} {x : Nat} (hd : decode cc pc = .ok (.aload_n i, 1)) (hl : zg lv (i : Nat) = some (.ref x)) (kk : Z p l e R s m args below meth c Q nL Γ A G k n (pc + 1) lv (.ref x :: st)) : Z p l e R s m args below meth c Q nL Γ A G k n pc lv st :=
  fun H locs ls ws hR hP hD hS hL => lv_aload_n C.1 C.2.1 hd rfl (hL.at hl) (kk H locs ls ws hR hP hD hS hL)
theorem z_rload (C : zC p s m args meth c cc own nL Γ A) {i : Nat} {x : Nat} (hd : decode cc pc = .ok (.aload i, 2)) (hl : zg lv i = some (.ref x)) (kk : Z p l e R s m args below meth c Q nL Γ A G k n (pc + 2) lv (.ref x :: st)) : Z p l e R s m args below meth c Q nL Γ A G k n pc lv st :=
  fun H locs ls ws hR hP hD hS hL => lv_aload C.1 C.2.1 hd (hL.at hl) (kk H locs ls ws hR hP hD hS hL)
theorem z_nload_n (C : zC p s m args meth c cc own nL Γ A) {i : Fin 4} (hd : decode cc pc = .ok (.aload_n i, 1)) (hl : zg lv (i : Nat) = some .null) (kk : Z p l e R s m args below meth c Q nL Γ A G k n (pc + 1) lv (.null :: st)) : Z p l e R s m args below meth c Q nL Γ A G k n pc lv st :=
  fun H locs ls ws hR hP hD hS hL => lv_aload_nN C.1 C.2.1 hd rfl (hL.at hl) (kk H locs ls ws hR hP hD hS hL)
theorem z_istore_n (C : zC p s m args meth c cc own nL Γ A) {i : Fin 4} {x : Int32} (hd : decode cc pc = .ok (.istore_n i, 1)) (hi : (i : Nat) < nL) (kk : Z p l e R s m args below meth c Q nL Γ A G k n (pc + 1) (zs1 (i : Nat) (.int x) lv) st) : Z p l e R s m args below meth c Q nL Γ A G k n pc lv (.int x :: st) :=
  fun H locs ls ws hR hP hD hS hL => lv_istore_n C.1 C.2.1 hd rfl hL hi rfl (fun ls' h' => kk H locs ls' ws hR hP hD hS (zL.st1 h'))
theorem z_istore (C : zC p s m args meth c cc own nL Γ A) {i : Nat} {x : Int32} (hd : decode cc pc = .ok (.istore i, 2)) (hi : i < nL) (kk : Z p l e R s m args below meth c Q nL Γ A G k n (pc + 2) (zs1 i (.int x) lv) st) : Z p l e R s m args below meth c Q nL Γ A G k n pc lv (.int x :: st) :=
  fun H locs ls ws hR hP hD hS hL => lv_istore C.1 C.2.1 hd hL hi rfl (fun ls' h' => kk H locs ls' ws hR hP hD hS (zL.st1 h'))
theorem z_lstore_n (C : zC p s m args meth c cc own nL Γ A) {i : Fin 4} {x : Int64} (hd : decode cc pc = .ok (.lstore_n i, 1)) (hi : (i : Nat) + 1 < nL) (kk : Z p l e R s m args below meth c Q nL Γ A G k n (pc + 1) (zs2 (i : Nat) (.long x) lv) st) : Z p l e R s m args below meth c Q nL Γ A G k n pc lv (.long x :: st) :=
  fun H locs ls ws hR hP hD hS hL => lv_lstore_n C.1 C.2.1 hd rfl hL hi rfl (fun ls' h' => kk H locs ls' ws hR hP hD hS (zL.st2 h'))
theorem z_lstore (C : zC p s m args meth c cc own nL Γ A) {i : Nat} {x : Int64} (hd : decode cc pc = .ok (.lstore i, 2)) (hi : i + 1 < nL) (kk : Z p l e R s m args below meth c Q nL Γ A G k n (pc + 2) (zs2 i (.long x) lv) st) : Z p l e R s m args below meth c Q nL Γ A G k n pc lv (.long x :: st) :=
  fun H locs ls ws hR hP hD hS hL => lv_lstore C.1 C.2.1 hd hL hi rfl (fun ls' h' => kk H locs ls' ws hR hP hD hS (zL.st2 h'))
theorem z_dstore (C : zC p s m args meth c cc own nL Γ A) {i : Nat} {x : UInt64} (hd : decode cc pc = .ok (.dstore i, 2)) (hi : i + 1 < nL) (kk : Z p l e R s m args below meth c Q nL Γ A G k n (pc + 2) (zs2 i (.double x) lv) st) : Z p l e R s m args below meth c Q nL Γ A G k n pc lv (.double x :: st) :=
  fun H locs ls ws hR hP hD hS hL => lv_dstore C.1 C.2.1 hd hL hi rfl (fun ls' h' => kk H locs ls' ws hR hP hD hS (zL.st2 h'))
theorem z_astore_n (C : zC p s m args meth c cc own nL Γ A) {i : Fin 4} {x : Option Nat} (hd : decode cc pc = .ok (.astore_n i, 1)) (hi : (i : Nat) < nL) (kk : Z p l e R s m args below meth c Q nL Γ A G k n (pc + 1) (zs1 (i : Nat) (va_rf x) lv) st) : Z p l e R s m args below meth c Q nL Γ A G k n pc lv (va_rf x :: st) := by
  intro H locs ls ws hR hP hD hS hL
  cases x with
  | none => exact lv_astore_nN C.1 C.2.1 hd rfl hL hi rfl (fun ls' h' => kk H locs ls' ws hR hP hD hS (zL.st1 h'))
  | some a => exact lv_astore_n C.1 C.2.1 hd rfl hL hi rfl (fun ls' h' => kk H locs ls' ws hR hP hD hS (zL.st1 h'))
theorem z_astore (C : zC p s m args meth c cc own nL Γ A) {i : Nat} {x : Option Nat} (hd : decode cc pc = .ok (.astore i, 2)) (hi : i < nL) (kk : Z p l e R s m args below meth c Q nL Γ A G k n (pc + 2) (zs1 i (va_rf x) lv) st) : Z p l e R s m args below meth c Q nL Γ A G k n pc lv (va_rf x :: st) := by
  intro H locs ls ws hR hP hD hS hL
  cases x with
  | none => exact lv_astoreN C.1 C.2.1 hd hL hi rfl (fun ls' h' => kk H locs ls' ws hR hP hD hS (zL.st1 h'))
  | some a => exact lv_astore C.1 C.2.1 hd hL hi rfl (fun ls' h' => kk H locs ls' ws hR hP hD hS (zL.st1 h'))
theorem z_rstore_n (C : zC p s m args meth c cc own nL Γ A) {i : Fin 4} {x : Nat} (hd : decode cc pc = .ok (.astore_n i, 1)) (hi : (i : Nat) < nL) (kk : Z p l e R s m args below meth c Q nL Γ A G k n (pc + 1) (zs1 (i : Nat) (.ref x) lv) st) : Z p l e R s m args below meth c Q nL Γ A G k n pc lv (.ref x :: st) :=
  fun H locs ls ws hR hP hD hS hL => lv_astore_n C.1 C.2.1 hd rfl hL hi rfl (fun ls' h' => kk H locs ls' ws hR hP hD hS (zL.st1 h'))
theorem z_rstore (C : zC p s m args meth c cc own nL Γ A) {i : Nat} {x : Nat} (hd : decode cc pc = .ok (.astore i, 2)) (hi : i < nL) (kk : Z p l e R s m args below meth c Q nL Γ A G k n (pc + 2) (zs1 i (.ref x) lv) st) : Z p l e R s m args below meth c Q nL Γ A G k n pc lv (.ref x :: st) :=
  fun H locs ls ws hR hP hD hS hL => lv_astore C.1 C.2.1 hd hL hi rfl (fun ls' h' => kk H locs ls' ws hR hP hD hS (zL.st1 h'))
theorem z_nstore_n (C : zC p s m args meth c cc own nL Γ A) {i : Fin 4} (hd : decode cc pc = .ok (.astore_n i, 1)) (hi : (i : Nat) < nL) (kk : Z p l e R s m args below meth c Q nL Γ A G k n (pc + 1) (zs1 (i : Nat) .null lv) st) : Z p l e R s m args below meth c Q nL Γ A G k n pc lv (.null :: st) :=
  fun H locs ls ws hR hP hD hS hL => lv_astore_nN C.1 C.2.1 hd rfl hL hi rfl (fun ls' h' => kk H locs ls' ws hR hP hD hS (zL.st1 h'))
theorem z_iinc (C : zC p s m args meth c cc own nL Γ A) {i : Nat} {j : Int} {x w : Int32} (hd : decode cc pc = .ok (.iinc i j, 3)) (hl : zg lv i = some (.int x)) (hw : Int32.ofInt j = w) (hi : i < nL) (kk : Z p l e R s m args below meth c Q nL Γ A G k n (pc + 3) (zs1 i (.int (x + w)) lv) st) : Z p l e R s m args below meth c Q nL Γ A G k n pc lv st := by
  intro H locs ls ws hR hP hD hS hL
  obtain ⟨q, hq⟩ := List.getElem?_of_mem ((zp_mem lv 0 i (.int x)).mpr ⟨Nat.zero_le _, hl⟩)
  exact lv_iinc C.1 C.2.1 hd hL hq (by rw [hw]) hi rfl (fun ls' h' => kk H locs ls' ws hR hP hD hS (zL.st1 h'))
theorem z_iadd (C : zC p s m args meth c cc own nL Γ A) {x y : Int32} (hd : decode cc pc = .ok (.iadd, 1)) (kk : Z p l e R s m args below meth c Q nL Γ A G k n (pc + 1) lv (.int (x + y) :: st)) : Z p l e R s m args below meth c Q nL Γ A G k n pc lv (.int y :: .int x :: st) :=
  fun H locs ls ws hR hP hD hS hL => lv_iadd C.1 C.2.1 hd (kk H locs ls ws hR hP hD hS hL)
theorem z_isub (C : zC p s m args meth c cc own nL Γ A) {x y : Int32} (hd : decode cc pc = .ok (.isub, 1)) (kk : Z p l e R s m args below meth c Q nL Γ A G k n (pc + 1) lv (.int (x - y) :: st)) : Z p l e R s m args below meth c Q nL Γ A G k n pc lv (.int y :: .int x :: st) :=
  fun H locs ls ws hR hP hD hS hL => lv_isub C.1 C.2.1 hd (kk H locs ls ws hR hP hD hS hL)
theorem z_imul (C : zC p s m args meth c cc own nL Γ A) {x y : Int32} (hd : decode cc pc = .ok (.imul, 1)) (kk : Z p l e R s m args below meth c Q nL Γ A G k n (pc + 1) lv (.int (x * y) :: st)) : Z p l e R s m args below meth c Q nL Γ A G k n pc lv (.int y :: .int x :: st) :=
  fun H locs ls ws hR hP hD hS hL => lv_imul C.1 C.2.1 hd (kk H locs ls ws hR hP hD hS hL)
theorem z_idiv (C : zC p s m args meth c cc own nL Γ A) {x y : Int32} (hne : ¬ y = 0) (hd : decode cc pc = .ok (.idiv, 1)) (kk : Z p l e R s m args below meth c Q nL Γ A G k n (pc + 1) lv (.int (x / y) :: st)) : Z p l e R s m args below meth c Q nL Γ A G k n pc lv (.int y :: .int x :: st) :=
  fun H locs ls ws hR hP hD hS hL => lv_idiv C.1 C.2.1 hd hne (kk H locs ls ws hR hP hD hS hL)
theorem z_irem (C : zC p s m args meth c cc own nL Γ A) {x y : Int32} (hne : ¬ y = 0) (hd : decode cc pc = .ok (.irem, 1)) (kk : Z p l e R s m args below meth c Q nL Γ A G k n (pc + 1) lv (.int (x - x / y * y) :: st)) : Z p l e R s m args below meth c Q nL Γ A G k n pc lv (.int y :: .int x :: st) :=
  fun H locs ls ws hR hP hD hS hL => lv_irem C.1 C.2.1 hd hne (kk H locs ls ws hR hP hD hS hL)
theorem z_iand (C : zC p s m args meth c cc own nL Γ A) {x y : Int32} (hd : decode cc pc = .ok (.iand, 1)) (kk : Z p l e R s m args below meth c Q nL Γ A G k n (pc + 1) lv (.int (x &&& y) :: st)) : Z p l e R s m args below meth c Q nL Γ A G k n pc lv (.int y :: .int x :: st) :=
  fun H locs ls ws hR hP hD hS hL => lv_iand C.1 C.2.1 hd (kk H locs ls ws hR hP hD hS hL)
theorem z_ior (C : zC p s m args meth c cc own nL Γ A) {x y : Int32} (hd : decode cc pc = .ok (.ior, 1)) (kk : Z p l e R s m args below meth c Q nL Γ A G k n (pc + 1) lv (.int (x ||| y) :: st)) : Z p l e R s m args below meth c Q nL Γ A G k n pc lv (.int y :: .int x :: st) :=
  fun H locs ls ws hR hP hD hS hL => lv_ior C.1 C.2.1 hd (kk H locs ls ws hR hP hD hS hL)
theorem z_ixor (C : zC p s m args meth c cc own nL Γ A) {x y : Int32} (hd : decode cc pc = .ok (.ixor, 1)) (kk : Z p l e R s m args below meth c Q nL Γ A G k n (pc + 1) lv (.int (x ^^^ y) :: st)) : Z p l e R s m args below meth c Q nL Γ A G k n pc lv (.int y :: .int x :: st) :=
  fun H locs ls ws hR hP hD hS hL => lv_ixor C.1 C.2.1 hd (kk H locs ls ws hR hP hD hS hL)
theorem z_ladd (C : zC p s m args meth c cc own nL Γ A) {x y : Int64} (hd : decode cc pc = .ok (.ladd, 1)) (kk : Z p l e R s m args below meth c Q nL Γ A G k n (pc + 1) lv (.long (x + y) :: st)) : Z p l e R s m args below meth c Q nL Γ A G k n pc lv (.long y :: .long x :: st) :=
  fun H locs ls ws hR hP hD hS hL => lv_ladd C.1 C.2.1 hd (kk H locs ls ws hR hP hD hS hL)
theorem z_lmul (C : zC p s m args meth c cc own nL Γ A) {x y : Int64} (hd : decode cc pc = .ok (.lmul, 1)) (kk : Z p l e R s m args below meth c Q nL Γ A G k n (pc + 1) lv (.long (x * y) :: st)) : Z p l e R s m args below meth c Q nL Γ A G k n pc lv (.long y :: .long x :: st) :=
  fun H locs ls ws hR hP hD hS hL => lv_lmul C.1 C.2.1 hd (kk H locs ls ws hR hP hD hS hL)
theorem z_ldiv (C : zC p s m args meth c cc own nL Γ A) {x y : Int64} (hne : ¬ y = 0) (hd : decode cc pc = .ok (.ldiv, 1)) (kk : Z p l e R s m args below meth c Q nL Γ A G k n (pc + 1) lv (.long (x / y) :: st)) : Z p l e R s m args below meth c Q nL Γ A G k n pc lv (.long y :: .long x :: st) :=
  fun H locs ls ws hR hP hD hS hL => lv_ldiv C.1 C.2.1 hd hne (kk H locs ls ws hR hP hD hS hL)
theorem z_ishl (C : zC p s m args meth c cc own nL Γ A) {x y v : Int32} (hv : x <<< (y &&& 31) = v) (hd : decode cc pc = .ok (.ishl, 1)) (kk : Z p l e R s m args below meth c Q nL Γ A G k n (pc + 1) lv (.int v :: st)) : Z p l e R s m args below meth c Q nL Γ A G k n pc lv (.int y :: .int x :: st) := by
  subst hv
  exact fun H locs ls ws hR hP hD hS hL => lv_ishl C.1 C.2.1 hd (kk H locs ls ws hR hP hD hS hL)
theorem z_ishr (C : zC p s m args meth c cc own nL Γ A) {x y v : Int32} (hv : x >>> (y &&& 31) = v) (hd : decode cc pc = .ok (.ishr, 1)) (kk : Z p l e R s m args below meth c Q nL Γ A G k n (pc + 1) lv (.int v :: st)) : Z p l e R s m args below meth c Q nL Γ A G k n pc lv (.int y :: .int x :: st) := by
  subst hv
  exact fun H locs ls ws hR hP hD hS hL => lv_ishr C.1 C.2.1 hd (kk H locs ls ws hR hP hD hS hL)
theorem z_iushr (C : zC p s m args meth c cc own nL Γ A) {x y v : Int32} (hv : (x.toUInt32 >>> (y.toUInt32 &&& Int32.toUInt32 31)).toInt32 = v) (hd : decode cc pc = .ok (.iushr, 1)) (kk : Z p l e R s m args below meth c Q nL Γ A G k n (pc + 1) lv (.int v :: st)) : Z p l e R s m args below meth c Q nL Γ A G k n pc lv (.int y :: .int x :: st) :=
  fun H locs ls ws hR hP hD hS hL => lv_iushr C.1 C.2.1 hd hv (kk H locs ls ws hR hP hD hS hL)
theorem z_i2l (C : zC p s m args meth c cc own nL Γ A) {x : Int32} (hd : decode cc pc = .ok (.i2l, 1)) (kk : Z p l e R s m args below meth c Q nL Γ A G k n (pc + 1) lv (.long x.toInt64 :: st)) : Z p l e R s m args below meth c Q nL Γ A G k n pc lv (.int x :: st) :=
  fun H locs ls ws hR hP hD hS hL => lv_i2l C.1 C.2.1 hd rfl (kk H locs ls ws hR hP hD hS hL)
theorem z_l2i (C : zC p s m args meth c cc own nL Γ A) {x : Int64} (hd : decode cc pc = .ok (.l2i, 1)) (kk : Z p l e R s m args below meth c Q nL Γ A G k n (pc + 1) lv (.int x.toInt32 :: st)) : Z p l e R s m args below meth c Q nL Γ A G k n pc lv (.long x :: st) :=
  fun H locs ls ws hR hP hD hS hL => lv_l2i C.1 C.2.1 hd rfl (kk H locs ls ws hR hP hD hS hL)
theorem z_i2d (C : zC p s m args meth c cc own nL Γ A) {x : Int32} (hd : decode cc pc = .ok (.i2d, 1)) (kk : Z p l e R s m args below meth c Q nL Γ A G k n (pc + 1) lv (.double (FP.i2d x) :: st)) : Z p l e R s m args below meth c Q nL Γ A G k n pc lv (.int x :: st) :=
  fun H locs ls ws hR hP hD hS hL => lv_i2d C.1 C.2.1 hd (kk H locs ls ws hR hP hD hS hL)
theorem z_l2d (C : zC p s m args meth c cc own nL Γ A) {x : Int64} (hd : decode cc pc = .ok (.l2d, 1)) (kk : Z p l e R s m args below meth c Q nL Γ A G k n (pc + 1) lv (.double (FP.l2d x) :: st)) : Z p l e R s m args below meth c Q nL Γ A G k n pc lv (.long x :: st) :=
  fun H locs ls ws hR hP hD hS hL => lv_l2d C.1 C.2.1 hd (kk H locs ls ws hR hP hD hS hL)
theorem z_ddiv (C : zC p s m args meth c cc own nL Γ A) {x y : UInt64} (hne : vf_n64 (FP.ddiv x y)) (hd : decode cc pc = .ok (.ddiv, 1)) (kk : Z p l e R s m args below meth c Q nL Γ A G k n (pc + 1) lv (.double (FP.ddiv x y) :: st)) : Z p l e R s m args below meth c Q nL Γ A G k n pc lv (.double y :: .double x :: st) :=
  fun H locs ls ws hR hP hD hS hL => lv_ddiv C.1 C.2.1 hd hne (kk H locs ls ws hR hP hD hS hL)
theorem z_dcmp (C : zC p s m args meth c cc own nL Γ A) {x y : UInt64} {op : CmpOp} (hd : decode cc pc = .ok (.dcmp op, 1)) (kk : Z p l e R s m args below meth c Q nL Γ A G k n (pc + 1) lv (.int (Op.cmpValue (FP.dcmp x y) op) :: st)) : Z p l e R s m args below meth c Q nL Γ A G k n pc lv (.double y :: .double x :: st) :=
  fun H locs ls ws hR hP hD hS hL => lv_dcmp C.1 C.2.1 hd (kk H locs ls ws hR hP hD hS hL)
theorem z_dup (C : zC p s m args meth c cc own nL Γ A) {x : Value} (hc : x.category = 1) (hd : decode cc pc = .ok (.dup, 1)) (kk : Z p l e R s m args below meth c Q nL Γ A G k n (pc + 1) lv (x :: x :: st)) : Z p l e R s m args below meth c Q nL Γ A G k n pc lv (x :: st) :=
  fun H locs ls ws hR hP hD hS hL => lv_dup C.1 C.2.1 hd hc (kk H locs ls ws hR hP hD hS hL)
theorem z_pop (C : zC p s m args meth c cc own nL Γ A) {x : Value} (hc : x.category = 1) (hd : decode cc pc = .ok (.pop, 1)) (kk : Z p l e R s m args below meth c Q nL Γ A G k n (pc + 1) lv st) : Z p l e R s m args below meth c Q nL Γ A G k n pc lv (x :: st) :=
  fun H locs ls ws hR hP hD hS hL => lv_pop C.1 C.2.1 hd hc (kk H locs ls ws hR hP hD hS hL)
theorem z_pop2 (C : zC p s m args meth c cc own nL Γ A) {x : Value} (hc : x.category = 2) (hd : decode cc pc = .ok (.pop2, 1)) (kk : Z p l e R s m args below meth c Q nL Γ A G k n (pc + 1) lv st) : Z p l e R s m args below meth c Q nL Γ A G k n pc lv (x :: st) :=
  fun H locs ls ws hR hP hD hS hL => lv_pop2_2 C.1 C.2.1 hd hc (kk H locs ls ws hR hP hD hS hL)
theorem z_dup_x1 (C : zC p s m args meth c cc own nL Γ A) {x y : Value} (hc : x.category = 1) (hc2 : y.category = 1) (hd : decode cc pc = .ok (.dup_x1, 1)) (kk : Z p l e R s m args below meth c Q nL Γ A G k n (pc + 1) lv (x :: y :: x :: st)) : Z p l e R s m args below meth c Q nL Γ A G k n pc lv (x :: y :: st) :=
  fun H locs ls ws hR hP hD hS hL => lv_dup_x1 C.1 C.2.1 hd hc hc2 (kk H locs ls ws hR hP hD hS hL)
theorem z_dup2 (C : zC p s m args meth c cc own nL Γ A) {x y : Value} (hc : x.category = 1) (hc2 : y.category = 1) (hd : decode cc pc = .ok (.dup2, 1)) (kk : Z p l e R s m args below meth c Q nL Γ A G k n (pc + 1) lv (x :: y :: x :: y :: st)) : Z p l e R s m args below meth c Q nL Γ A G k n pc lv (x :: y :: st) :=
  fun H locs ls ws hR hP hD hS hL => lv_dup2_11 C.1 C.2.1 hd hc hc2 (kk H locs ls ws hR hP hD hS hL)
theorem z_null (C : zC p s m args meth c cc own nL Γ A) (hd : decode cc pc = .ok (.aconst_null, 1)) (kk : Z p l e R s m args below meth c Q nL Γ A G k n (pc + 1) lv (.null :: st)) : Z p l e R s m args below meth c Q nL Γ A G k n pc lv st :=
  fun H locs ls ws hR hP hD hS hL => lv_null C.1 C.2.1 hd (kk H locs ls ws hR hP hD hS hL)
theorem z_goto (C : zC p s m args meth c cc own nL Γ A) {off : Int} {tgt : Nat} (hd : decode cc pc = .ok (.goto off, 3)) (ht : (pc : Int) + off = (tgt : Int)) (kk : Z p l e R s m args below meth c Q nL Γ A G k n tgt lv st) : Z p l e R s m args below meth c Q nL Γ A G k n pc lv st :=
  fun H locs ls ws hR hP hD hS hL => lv_goto C.1 C.2.1 hd ht (kk H locs ls ws hR hP hD hS hL)
/-- a reference is null or not -/
theorem z_ifnull (C : zC p s m args meth c cc own nL Γ A) {x : Option Nat} {off : Int} {tgt : Nat} (hd : decode cc pc = .ok (.ifnull off, 3)) (ht : (pc : Int) + off = (tgt : Int)) (k1 : x = none → Z p l e R s m args below meth c Q nL Γ A G k n tgt lv st) (k2 : ∀ a, x = some a → Z p l e R s m args below meth c Q nL Γ A G k n (pc + 3) lv st) : Z p l e R s m args below meth c Q nL Γ A G k n pc lv (va_rf x :: st) := by
  intro H locs ls ws hR hP hD hS hL
  cases x with
  | none => exact lv_ifnullN C.1 C.2.1 hd ht (k1 rfl H locs ls ws hR hP hD hS hL)
  | some a => exact lv_ifnull C.1 C.2.1 hd (k2 a rfl H locs ls ws hR hP hD hS hL)
theorem z_ifnonnull (C : zC p s m args meth c cc own nL Γ A) {x : Option Nat} {off : Int} {tgt : Nat} (hd : decode cc pc = .ok (.ifnonnull off, 3)) (ht : (pc : Int) + off = (tgt : Int)) (k1 : ∀ a, x = some a → Z p l e R s m args below meth c Q nL Γ A G k n tgt lv st) (k2 : x = none → Z p l e R s m args below meth c Q nL Γ A G k n (pc + 3) lv st) : Z p l e R s m args below meth c Q nL Γ A G k n pc lv (va_rf x :: st) := by
  intro H locs ls ws hR hP hD hS hL
  cases x with
  | none => exact lv_ifnonnullN C.1 C.2.1 hd (k2 rfl H locs ls ws hR hP hD hS hL)
  | some a => exact lv_ifnonnull C.1 C.2.1 hd ht (k1 a rfl H locs ls ws hR hP hD hS hL)
theorem z_acmp_eq (C : zC p s m args meth c cc own nL Γ A) {x y : Nat} {off : Int} {tgt : Nat} (hd : decode cc pc = .ok (.if_acmp .eq off, 3)) (ht : (pc : Int) + off = (tgt : Int)) (k1 : x = y → Z p l e R s m args below meth c Q nL Γ A G k n tgt lv st) (k2 : ¬ x = y → Z p l e R s m args below meth c Q nL Γ A G k n (pc + 3) lv st) : Z p l e R s m args below meth c Q nL Γ A G k n pc lv (.ref y :: .ref x :: st) :=
  fun H locs ls ws hR hP hD hS hL => lv_acmp_eq (rx := some x) (ry := some y) C.1 C.2.1 hd ht (fun h => k1 (Option.some.inj h) H locs ls ws hR hP hD hS hL) (fun h => k2 (fun z => h (congrArg some z)) H locs ls ws hR hP hD hS hL)
theorem z_acmp_ne (C : zC p s m args meth c cc own nL Γ A) {x y : Nat} {off : Int} {tgt : Nat} (hd : decode cc pc = .ok (.if_acmp .ne off, 3)) (ht : (pc : Int) + off = (tgt : Int)) (k1 : ¬ x = y → Z p l e R s m args below meth c Q nL Γ A G k n tgt lv st) (k2 : x = y → Z p l e R s m args below meth c Q nL Γ A G k n (pc + 3) lv st) : Z p l e R s m args below meth c Q nL Γ A G k n pc lv (.ref y :: .ref x :: st) :=
  fun H locs ls ws hR hP hD hS hL => lv_acmp_ne (rx := some x) (ry := some y) C.1 C.2.1 hd ht (fun h => k1 (fun z => h (congrArg some z)) H locs ls ws hR hP hD hS hL) (fun h => k2 (Option.some.inj h) H locs ls ws hR hP hD hS hL)
theorem z_if_eq (C : zC p s m args meth c cc own nL Γ A) {x : Int32} {off : Int} {tgt : Nat} (hd : decode cc pc = .ok (.ifCond .eq off, 3)) (ht : (pc : Int) + off = (tgt : Int)) (k1 : x = 0 → Z p l e R s m args below meth c Q nL Γ A G k n tgt lv st) (k2 : ¬ x = 0 → Z p l e R s m args below meth c Q nL Γ A G k n (pc + 3) lv st) : Z p l e R s m args below meth c Q nL Γ A G k n pc lv (.int x :: st) :=
  fun H locs ls ws hR hP hD hS hL => lv_if_eq C.1 C.2.1 hd ht (fun h => k1 h H locs ls ws hR hP hD hS hL) (fun h => k2 h H locs ls ws hR hP hD hS hL)
theorem z_icmp_eq (C : zC p s m args meth c cc own nL Γ A) {x y : Int32} {off : Int} {tgt : Nat} (hd : decode cc pc = .ok (.if_icmp .eq off, 3)) (ht : (pc : Int) + off = (tgt : Int)) (k1 : x = y → Z p l e R s m args below meth c Q nL Γ A G k n tgt lv st) (k2 : ¬ x = y → Z p l e R s m args below meth c Q nL Γ A G k n (pc + 3) lv st) : Z p l e R s m args below meth c Q nL Γ A G k n pc lv (.int y :: .int x :: st) :=
  fun H locs ls ws hR hP hD hS hL => lv_icmp_eq C.1 C.2.1 hd ht (fun h => k1 h H locs ls ws hR hP hD hS hL) (fun h => k2 h H locs ls ws hR hP hD hS hL)
theorem z_if_ne (C : zC p s m args meth c cc own nL Γ A) {x : Int32} {off : Int} {tgt : Nat} (hd : decode cc pc = .ok (.ifCond .ne off, 3)) (ht : (pc : Int) + off = (tgt : Int)) (k1 : ¬ x = 0 → Z p l e R s m args below meth c Q nL Γ A G k n tgt lv st) (k2 : x = 0 → Z p l e R s m args below meth c Q nL Γ A G k n (pc + 3) lv st) : Z p l e R s m args below meth c Q nL Γ A G k n pc lv (.int x :: st) :=
  fun H locs ls ws hR hP hD hS hL => lv_if_ne C.1 C.2.1 hd ht (fun h => k1 h H locs ls ws hR hP hD hS hL) (fun h => k2 h H locs ls ws hR hP hD hS hL)
theorem z_icmp_ne (C : zC p s m args meth c cc own nL Γ A) {x y : Int32} {off : Int} {tgt : Nat} (hd : decode cc pc = .ok (.if_icmp .ne off, 3)) (ht : (pc : Int) + off = (tgt : Int)) (k1 : ¬ x = y → Z p l e R s m args below meth c Q nL Γ A G k n tgt lv st) (k2 : x = y → Z p l e R s m args below meth c Q nL Γ A G k n (pc + 3) lv st) : Z p l e R s m args below meth c Q nL Γ A G k n pc lv (.int y :: .int x :: st) :=
  fun H locs ls ws hR hP hD hS hL => lv_icmp_ne C.1 C.2.1 hd ht (fun h => k1 h H locs ls ws hR hP hD hS hL) (fun h => k2 h H locs ls ws hR hP hD hS hL)
theorem z_if_lt (C : zC p s m args meth c cc own nL Γ A) {x : Int32} {off : Int} {tgt : Nat} (hd : decode cc pc = .ok (.ifCond .lt off, 3)) (ht : (pc : Int) + off = (tgt : Int)) (k1 : x < 0 → Z p l e R s m args below meth c Q nL Γ A G k n tgt lv st) (k2 : ¬ x < 0 → Z p l e R s m args below meth c Q nL Γ A G k n (pc + 3) lv st) : Z p l e R s m args below meth c Q nL Γ A G k n pc lv (.int x :: st) :=
  fun H locs ls ws hR hP hD hS hL => lv_if_lt C.1 C.2.1 hd ht (fun h => k1 h H locs ls ws hR hP hD hS hL) (fun h => k2 h H locs ls ws hR hP hD hS hL)
theorem z_icmp_lt (C : zC p s m args meth c cc own nL Γ A) {x y : Int32} {off : Int} {tgt : Nat} (hd : decode cc pc = .ok (.if_icmp .lt off, 3)) (ht : (pc : Int) + off = (tgt : Int)) (k1 : x < y → Z p l e R s m args below meth c Q nL Γ A G k n tgt lv st) (k2 : ¬ x < y → Z p l e R s m args below meth c Q nL Γ A G k n (pc + 3) lv st) : Z p l e R s m args below meth c Q nL Γ A G k n pc lv (.int y :: .int x :: st) :=
  fun H locs ls ws hR hP hD hS hL => lv_icmp_lt C.1 C.2.1 hd ht (fun h => k1 h H locs ls ws hR hP hD hS hL) (fun h => k2 h H locs ls ws hR hP hD hS hL)
theorem z_if_ge (C : zC p s m args meth c cc own nL Γ A) {x : Int32} {off : Int} {tgt : Nat} (hd : decode cc pc = .ok (.ifCond .ge off, 3)) (ht : (pc : Int) + off = (tgt : Int)) (k1 : 0 ≤ x → Z p l e R s m args below meth c Q nL Γ A G k n tgt lv st) (k2 : ¬ 0 ≤ x → Z p l e R s m args below meth c Q nL Γ A G k n (pc + 3) lv st) : Z p l e R s m args below meth c Q nL Γ A G k n pc lv (.int x :: st) :=
  fun H locs ls ws hR hP hD hS hL => lv_if_ge C.1 C.2.1 hd ht (fun h => k1 h H locs ls ws hR hP hD hS hL) (fun h => k2 h H locs ls ws hR hP hD hS hL)
theorem z_icmp_ge (C : zC p s m args meth c cc own nL Γ A) {x y : Int32} {off : Int} {tgt : Nat} (hd : decode cc pc = .ok (.if_icmp .ge off, 3)) (ht : (pc : Int) + off = (tgt : Int)) (k1 : y ≤ x → Z p l e R s m args below meth c Q nL Γ A G k n tgt lv st) (k2 : ¬ y ≤ x → Z p l e R s m args below meth c Q nL Γ A G k n (pc + 3) lv st) : Z p l e R s m args below meth c Q nL Γ A G k n pc lv (.int y :: .int x :: st) :=
  fun H locs ls ws hR hP hD hS hL => lv_icmp_ge C.1 C.2.1 hd ht (fun h => k1 h H locs ls ws hR hP hD hS hL) (fun h => k2 h H locs ls ws hR hP hD hS hL)
theorem z_if_gt (C : zC p s m args meth c cc own nL Γ A) {x : Int32} {off : Int} {tgt : Nat} (hd : decode cc pc = .ok (.ifCond .gt off, 3)) (ht : (pc : Int) + off = (tgt : Int)) (k1 : 0 < x → Z p l e R s m args below meth c Q nL Γ A G k n tgt lv st) (k2 : ¬ 0 < x → Z p l e R s m args below meth c Q nL Γ A G k n (pc + 3) lv st) : Z p l e R s m args below meth c Q nL Γ A G k n pc lv (.int x :: st) :=
  fun H locs ls ws hR hP hD hS hL => lv_if_gt C.1 C.2.1 hd ht (fun h => k1 h H locs ls ws hR hP hD hS hL) (fun h => k2 h H locs ls ws hR hP hD hS hL)
theorem z_icmp_gt (C : zC p s m args meth c cc own nL Γ A) {x y : Int32} {off : Int} {tgt : Nat} (hd : decode cc pc = .ok (.if_icmp .gt off, 3)) (ht : (pc : Int) + off = (tgt : Int)) (k1 : y < x → Z p l e R s m args below meth c Q nL Γ A G k n tgt lv st) (k2 : ¬ y < x → Z p l e R s m args below meth c Q nL Γ A G k n (pc + 3) lv st) : Z p l e R s m args below meth c Q nL Γ A G k n pc lv (.int y :: .int x :: st) :=
  fun H locs ls ws hR hP hD hS hL => lv_icmp_gt C.1 C.2.1 hd ht (fun h => k1 h H locs ls ws hR hP hD hS hL) (fun h => k2 h H locs ls ws hR hP hD hS hL)
theorem z_if_le (C : zC p s m args meth c cc own nL Γ A) {x : Int32} {off : Int} {tgt : Nat} (hd : decode cc pc = .ok (.ifCond .le off, 3)) (ht : (pc : Int) + off = (tgt : Int)) (k1 : x ≤ 0 → Z p l e R s m args below meth c Q nL Γ A G k n tgt lv st) (k2 : ¬ x ≤ 0 → Z p l e R s m args below meth c Q nL Γ A G k n (pc + 3) lv st) : Z p l e R s m args below meth c Q nL Γ A G k n pc lv (.int x :: st) :=
  fun H locs ls ws hR hP hD hS hL => lv_if_le C.1 C.2.1 hd ht (fun h => k1 h H locs ls ws hR hP hD hS hL) (fun h => k2 h H locs ls ws hR hP hD hS hL)
theorem z_icmp_le (C : zC p s m args meth c cc own nL Γ A) {x y : Int32} {off : Int} {tgt : Nat} (hd : decode cc pc = .ok (.if_icmp .le off, 3)) (ht : (pc : Int) + off = (tgt : Int)) (k1 : x ≤ y → Z p l e R s m args below meth c Q nL Γ A G k n tgt lv st) (k2 : ¬ x ≤ y → Z p l e R s m args below meth c Q nL Γ A G k n (pc + 3) lv st) : Z p l e R s m args below meth c Q nL Γ A G k n pc lv (.int y :: .int x :: st) :=
  fun H locs ls ws hR hP hD hS hL => lv_icmp_le C.1 C.2.1 hd ht (fun h => k1 h H locs ls ws hR hP hD hS hL) (fun h => k2 h H locs ls ws hR hP hD hS hL)
theorem z_lcmp (C : zC p s m args meth c cc own nL Γ A) {x y : Int64} (hd : decode cc pc = .ok (.lcmp, 1)) (kk : Z p l e R s m args below meth c Q nL Γ A G k n (pc + 1) lv (.int (lg_cmp x y) :: st)) : Z p l e R s m args below meth c Q nL Γ A G k n pc lv (.long y :: .long x :: st) :=
  fun H locs ls ws hR hP hD hS hL => W.lcmp C.1 C.2.1 hd (kk H locs ls ws hR hP hD hS hL)
end ZZ
end
section
/-! OWN ROWS, third part: entry, ends, objects, arrays, calls -/
abbrev zI (Γ : zY) (n : Nat) (f : Nat → Int32) : va_E := .inl (Γ.2.1 0, n, .inl f)
abbrev zO (Γ : zY) (n : Nat) (f : Nat → Option Nat) : va_E := .inl (Γ.2.1 1, n, .inr (.inr (.inr (.inr f))))
theorem z_good : GoodIn lw_all lw_all := fun w hw => ⟨hw, good_of_word (List.mem_filter.mp hw).2⟩
theorem z_goods {ws : List Cond} (h : ∀ w ∈ ws, w ∈ lw_all) : GoodIn lw_all ws := fun w hw => ⟨h w hw, good_of_word (List.mem_filter.mp (h w hw)).2⟩
def zF (post : Option Value → zG → Prop) (Γ : zY) (G0 : zG) (Q : State → Prop) (A : Nat → Prop) (below : List Frame) (args : Array Value) (s : State) (mc ms : Nat) : Prop :=
  Q = MQ below (zQ post Γ G0 s.heap.size) args s mc ms (zA G0 s.heap.size) ∧ A = zA G0 s.heap.size
/-- a method's proof begins -/
theorem z_start {l : Launch} {y : MethodName} {cb : ByteArray} {n : Nat} {ret : Option FieldType} {rm : Room} {Γ : zY} {av : List Value} {G : zG} {post : Option Value → zG → Prop} (hy : plainName y.cls = true) (lv0 : List (Option Value)) (hlv : zp 0 lv0 = lv_args 0 av) (hlen : (lg_sl av).length ≤ n)
    (kk : ∀ (p : Program) (e : Env) (s : State) (m : MethodId) (args : Array Value) (below : List Frame) (meth : Method) (c : Code) (Q : State → Prop) (A : Nat → Prop), zC p s m args meth c cb y.cls n Γ A → zF post Γ G Q A below args s rm.cells rm.slots → meth.sig.returnType = ret → meth.name = y.name →
      Z p l e rm s m args below meth c Q n Γ A G 0 0 0 lv0 []) : ZM l y cb n ret rm Γ av G post := by
  intro sz
  refine Met.ofW (cc := cb) (maxL := n) (ret := ret) hy rfl ?_
  intro p e s m args below meth c s₁ B hml hv
  obtain ⟨rfl, rfl, ⟨ws, hR, hP, hD⟩, hK, hE, hN⟩ := hv
  have hts := atoms_spec (ws := zws y cb n ret) B.pre
  have hl := lv_entry av (n := n) hlen
  rw [lg_entry_eq]
  generalize (lg_sl av ++ List.replicate (n - (lg_sl av).length) Slot.unset).toArray = ls at hl ⊢
  exact kk p e s m av.toArray below meth c _ (zA G s.heap.size) ⟨B.exec, B.bytes, hml, findClass_of_methodNamed B.named, fun w h => hts w (List.mem_cons_of_mem _ h), hK, B.notSynchronized, fun q h => Or.inr h, hE, hN⟩ ⟨rfl, rfl⟩ B.returns (name_of_methodNamed B.named B.method).1
    s.heap [] ls ws hR hP (hD.weaken (fun k q hk _ => Or.inl ⟨q.2, (hR q.1 q.2).mpr (List.mem_of_getElem? hk)⟩)) va_S.rf (by unfold zL; rw [hlv]; exact hl)
section ZE
variable {p : Program} {l : Launch} {e : Env} {R : Room} {s : State} {m : MethodId} {args : Array Value} {below : List Frame} {meth : Method} {c : Code} {Q : State → Prop} {A : Nat → Prop} {nL : Nat} {Γ : zY} {G G0 : zG} {k n pc mc ms : Nat} {lv : List (Option Value)} {cc : ByteArray} {own : String} {post : Option Value → zG → Prop}
theorem z_iret (C : zC p s m args meth c cc own nL Γ A) (F : zF post Γ G0 Q A below args s mc ms) (hr : meth.sig.returnType = some .int) {v : Int32} (hk : k ≤ mc) (hn : n ≤ ms) (hp : post (some (.int v)) G) (hd : decode cc pc = .ok (.ireturn, 1)) :
    Z p l e R s m args below meth c Q nL Γ A G k n pc lv [.int v] := by
  obtain ⟨rfl, rfl⟩ := F
  exact fun _ _ _ ws hR hP hD hS _ => W.widen hk hn (W.iret C.1 C.2.1 hr (fun t ht _ => ⟨⟨_, G, ws, rfl, hp, hR, by rw [ht]; exact hP, hD⟩, hS.F ht⟩) hS.2.2 hd C.2.2.2.2.2.2.1)
theorem z_bret (C : zC p s m args meth c cc own nL Γ A) (F : zF post Γ G0 Q A below args s mc ms) (hr : meth.sig.returnType = some .boolean) {v : Int32} (hb : narrow .boolean (.int v) = .int v) (hk : k ≤ mc) (hn : n ≤ ms) (hp : post (some (.int v)) G) (hd : decode cc pc = .ok (.ireturn, 1)) :
    Z p l e R s m args below meth c Q nL Γ A G k n pc lv [.int v] := by
  obtain ⟨rfl, rfl⟩ := F
  exact fun _ _ _ ws hR hP hD hS _ => W.widen hk hn (W.zret C.1 C.2.1 hr hb (fun t ht _ => ⟨⟨_, G, ws, rfl, hp, hR, by rw [ht]; exact hP, hD⟩, hS.F ht⟩) hS.2.2 hd C.2.2.2.2.2.2.1)
theorem z_lret (C : zC p s m args meth c cc own nL Γ A) (F : zF post Γ G0 Q A below args s mc ms) (hr : meth.sig.returnType = some .long) {v : Int64} (hk : k ≤ mc) (hn : n ≤ ms) (hp : post (some (.long v)) G) (hd : decode cc pc = .ok (.lreturn, 1)) :
    Z p l e R s m args below meth c Q nL Γ A G k n pc lv [.long v] := by
  obtain ⟨rfl, rfl⟩ := F
  exact fun _ _ _ ws hR hP hD hS _ => W.widen hk hn (W.lret C.1 C.2.1 hr (fun t ht _ => ⟨⟨_, G, ws, rfl, hp, hR, by rw [ht]; exact hP, hD⟩, hS.F ht⟩) hS.2.2 hd C.2.2.2.2.2.2.1)
theorem z_dret (C : zC p s m args meth c cc own nL Γ A) (F : zF post Γ G0 Q A below args s mc ms) (hr : meth.sig.returnType = some .double) {v : UInt64} (hk : k ≤ mc) (hn : n ≤ ms) (hp : post (some (.double v)) G) (hd : decode cc pc = .ok (.dreturn, 1)) :
    Z p l e R s m args below meth c Q nL Γ A G k n pc lv [.double v] := by
  obtain ⟨rfl, rfl⟩ := F
  exact fun _ _ _ ws hR hP hD hS _ => W.widen hk hn (W.dret C.1 C.2.1 hr (fun t ht _ => ⟨⟨_, G, ws, rfl, hp, hR, by rw [ht]; exact hP, hD⟩, hS.F ht⟩) hS.2.2 hd C.2.2.2.2.2.2.1)
theorem z_vret (C : zC p s m args meth c cc own nL Γ A) (F : zF post Γ G0 Q A below args s mc ms) (hr : meth.sig.returnType = none) (hk : k ≤ mc) (hn : n ≤ ms) (hp : post (none) G) (hd : decode cc pc = .ok (.return_, 1)) :
    Z p l e R s m args below meth c Q nL Γ A G k n pc lv [] := by
  obtain ⟨rfl, rfl⟩ := F
  exact fun _ _ _ ws hR hP hD hS _ => W.widen hk hn (W.vret C.1 C.2.1 hr (fun t ht _ => ⟨⟨_, G, ws, rfl, hp, hR, by rw [ht]; exact hP, hD⟩, hS.F ht⟩) hS.2.2 hd C.2.2.2.2.2.2.1)
theorem z_aret (C : zC p s m args meth c cc own nL Γ A) (F : zF post Γ G0 Q A below args s mc ms) {rt : FieldType} (hr : meth.sig.returnType = some rt) (hrt : (∃ n, rt = .object n) ∨ ∃ t, rt = .array t) {x : Option Nat} (hk : k ≤ mc) (hn : n ≤ ms) (hp : post (some (va_rf x)) G) (hd : decode cc pc = .ok (.areturn, 1)) :
    Z p l e R s m args below meth c Q nL Γ A G k n pc lv [va_rf x] := by
  obtain ⟨rfl, rfl⟩ := F
  exact fun _ _ _ ws hR hP hD hS _ => W.widen hk hn (W.aret C.1 C.2.1 hr hrt (by cases x with | none => exact Or.inl rfl | some a => exact Or.inr ⟨a, rfl⟩) (fun t ht _ => ⟨⟨_, G, ws, rfl, hp, hR, by rw [ht]; exact hP, hD⟩, hS.F ht⟩) hS.2.2 hd C.2.2.2.2.2.2.1)
theorem z_rret (C : zC p s m args meth c cc own nL Γ A) (F : zF post Γ G0 Q A below args s mc ms) {rt : FieldType} (hr : meth.sig.returnType = some rt) (hrt : (∃ n, rt = .object n) ∨ ∃ t, rt = .array t) {x : Nat} (hk : k ≤ mc) (hn : n ≤ ms) (hp : post (some (.ref x)) G) (hd : decode cc pc = .ok (.areturn, 1)) :
    Z p l e R s m args below meth c Q nL Γ A G k n pc lv [.ref x] := by
  obtain ⟨rfl, rfl⟩ := F
  exact fun _ _ _ ws hR hP hD hS _ => W.widen hk hn (W.aret C.1 C.2.1 hr hrt (Or.inr ⟨x, rfl⟩) (fun t ht _ => ⟨⟨_, G, ws, rfl, hp, hR, by rw [ht]; exact hP, hD⟩, hS.F ht⟩) hS.2.2 hd C.2.2.2.2.2.2.1)
end ZE
theorem zpos {n : Nat} (h : 0 < n) (hn : n < 2 ^ 31) : (0 : Int32) < nI n := nI_lt (a := 0) h hn
/-- Math.abs -/
def z_abs1 (x : Int32) : Int32 := if 0 ≤ x then x else 0 - x
section ZO
variable {p : Program} {l : Launch} {e : Env} {R : Room} {s : State} {m : MethodId} {args : Array Value} {below : List Frame} {meth : Method} {c : Code} {Q : State → Prop} {nL : Nat} {Γ : zY} {A : Nat → Prop} {G : zG} {k n pc : Nat} {lv : List (Option Value)} {st : List Value} {cc : ByteArray} {own : String}
theorem z_same {args : Array Value} {s : State} {ref owner name desc : String} (hts : ∀ w ∈ lw_all, w.before args s = true) (h : ref = owner ∨ Cond.sameField ref owner name desc ∈ lw_all) : ∀ x, s.fieldFound? owner name desc = some x → s.fieldFound? ref name desc = some x := by
  rcases h with h | h
  · intro x hx; rw [h]; exact hx
  · exact u_same (hts _ h)
theorem z_getf (C : zC p s m args meth c cc own nL Γ A) {ref Cn : String} {T : u_T} {ci ix N a : Nat} {fs : List Value} (hG : G a = some (.inr (ci, fs))) (hc : zCl[ci]? = some (Cn, T, N)) (q : Nat) (hq : q < N) (hw : Cond.fieldLink own ix ref (T q).2.1 (T q).2.2.1 ∈ lw_all) (hs : ref = (T q).1 ∨ Cond.sameField ref (T q).1 (T q).2.1 (T q).2.2.1 ∈ lw_all) {v : Value} (hv : fs[q]? = some v) (hd : decode cc pc = .ok (.getfield ix, 3))
    (kk : Z p l e R s m args below meth c Q nL Γ A G k n (pc + 3) lv (v :: st)) : Z p l e R s m args below meth c Q nL Γ A G k n pc lv (.ref a :: st) := by
  intro H locs ls ws hR hP hD hS hL
  obtain ⟨k0, hk0⟩ := hR.mem hG
  exact va_get C.1 C.2.1 C.2.2.2.2.1 (zCl_in hc) C.2.2.2.1 C.2.2.2.2.2.1 hP k0 hk0 hc q hq (C.2.2.2.2.1 _ hw) (z_same C.2.2.2.2.1 hs) hv hd (kk H locs ls ws hR hP hD hS hL)
theorem z_getfN (C : zC p s m args meth c cc own nL Γ A) {ref Cn host : String} {T : u_T} {ci ix N a : Nat} {fs : List Value} (hG : G a = some (.inr (ci, fs))) (hc : zCl[ci]? = some (Cn, T, N)) (q : Nat) (hq : q < N) (hw : Cond.fieldLinkNest own ix ref (T q).2.1 (T q).2.2.1 host ∈ lw_nest) (hs : ref = (T q).1) {v : Value} (hv : fs[q]? = some v) (hd : decode cc pc = .ok (.getfield ix, 3))
    (kk : Z p l e R s m args below meth c Q nL Γ A G k n (pc + 3) lv (v :: st)) : Z p l e R s m args below meth c Q nL Γ A G k n pc lv (.ref a :: st) := by
  intro H locs ls ws hR hP hD hS hL
  obtain ⟨k0, hk0⟩ := hR.mem hG
  exact va_getN C.1 C.2.1 C.2.2.2.2.1 (zCl_in hc) C.2.2.2.1 C.2.2.2.2.2.1 hP k0 hk0 hc q hq (va_Nw.use rfl (C.2.2.2.2.2.2.2.2.2.1 _ hw)) (z_same C.2.2.2.2.1 (Or.inl hs)) hv hd (kk H locs ls ws hR hP hD hS hL)
theorem z_putf (C : zC p s m args meth c cc own nL Γ A) {ref Cn : String} {T : u_T} {ci ix N a : Nat} {fs : List Value} (hG : G a = some (.inr (ci, fs))) (hc : zCl[ci]? = some (Cn, T, N)) (q : Nat) (hq : q < N) (hw : Cond.fieldLink own ix ref (T q).2.1 (T q).2.2.1 ∈ lw_all) (hs : ref = (T q).1 ∨ Cond.sameField ref (T q).1 (T q).2.1 (T q).2.2.1 ∈ lw_all) (hfin : (T q).2.2.2 = false) {ty : FieldType} {v : Value} (ht : parseFieldDescriptor (T q).2.2.1 = some ty) (hn : narrow ty v = v) (hf : fits ty v = true) (hl : q < fs.length) (hd : decode cc pc = .ok (.putfield ix, 3))
    (kk : Z p l e R s m args below meth c Q nL Γ A (zU G a (.inr (ci, fs.set q v))) k n (pc + 3) lv st) : Z p l e R s m args below meth c Q nL Γ A G k n pc lv (v :: .ref a :: st) := by
  intro H locs ls ws hR hP hD hS hL
  obtain ⟨k0, hk0⟩ := hR.mem hG
  obtain ⟨ty0, hty⟩ := zCl_ty hc
  exact va_put C.1 C.2.1 C.2.2.2.2.1 (zCl_in hc) ty0 hty (zCl_nm hc) C.2.2.2.1 C.2.2.2.2.2.1 hP hD hS k0 hk0 hc q hq (C.2.2.2.2.1 _ hw) (z_same C.2.2.2.2.1 hs) hfin ht hn hf hl hd (fun H1 locs1 hP1 hD1 hS1 => kk H1 locs1 ls _ (hR.set hD hk0) hP1 hD1 hS1 hL)
theorem z_putF (C : zC p s m args meth c cc own nL Γ A) {ref Cn : String} {T : u_T} {ci ix N a : Nat} {fs : List Value} (hG : G a = some (.inr (ci, fs))) (hc : zCl[ci]? = some (Cn, T, N)) (q : Nat) (hq : q < N) (hw : Cond.fieldLink own ix ref (T q).2.1 (T q).2.2.1 ∈ lw_all) (hs : ref = (T q).1 ∨ Cond.sameField ref (T q).1 (T q).2.1 (T q).2.2.1 ∈ lw_all) (hfin : (T q).2.2.2 = true) (hi : meth.name = "<init>") (hdc : (T q).1 = own) {ty : FieldType} {v : Value} (ht : parseFieldDescriptor (T q).2.2.1 = some ty) (hn : narrow ty v = v) (hf : fits ty v = true) (hl : q < fs.length) (hd : decode cc pc = .ok (.putfield ix, 3))
    (kk : Z p l e R s m args below meth c Q nL Γ A (zU G a (.inr (ci, fs.set q v))) k n (pc + 3) lv st) : Z p l e R s m args below meth c Q nL Γ A G k n pc lv (v :: .ref a :: st) := by
  intro H locs ls ws hR hP hD hS hL
  obtain ⟨k0, hk0⟩ := hR.mem hG
  obtain ⟨ty0, hty⟩ := zCl_ty hc
  exact va_putF C.1 C.2.1 C.2.2.2.2.1 (zCl_in hc) ty0 hty (zCl_nm hc) C.2.2.2.1 C.2.2.2.2.2.1 hP hD hS k0 hk0 hc q hq (C.2.2.2.2.1 _ hw) (z_same C.2.2.2.2.1 hs) hfin hi hdc ht hn hf hl hd (fun H1 locs1 hP1 hD1 hS1 => kk H1 locs1 ls _ (hR.set hD hk0) hP1 hD1 hS1 hL)
theorem z_iald (C : zC p s m args meth c cc own nL Γ A) {a N : Nat} {f : Nat → Int32} (hG : G a = some (zI Γ N f)) {i : Int32} (hi : vp_in i N) (hd : decode cc pc = .ok (.iaload, 1))
    (kk : Z p l e R s m args below meth c Q nL Γ A G k n (pc + 1) lv (.int (f i.toNatClampNeg) :: st)) : Z p l e R s m args below meth c Q nL Γ A G k n pc lv (.int i :: .ref a :: st) := by
  intro H locs ls ws hR hP hD hS hL
  obtain ⟨k0, hk0⟩ := hR.mem hG
  exact va_iald C.1 C.2.1 C.2.2.2.2.2.1 hP k0 0 hk0 rfl hi hd (kk H locs ls ws hR hP hD hS hL)
theorem z_iast (C : zC p s m args meth c cc own nL Γ A) {a N : Nat} {f : Nat → Int32} (hG : G a = some (zI Γ N f)) {i x : Int32} (hi : vp_in i N) (hd : decode cc pc = .ok (.iastore, 1))
    (kk : Z p l e R s m args below meth c Q nL Γ A (zU G a (zI Γ N (upd f i.toNatClampNeg x))) k n (pc + 1) lv st) : Z p l e R s m args below meth c Q nL Γ A G k n pc lv (.int x :: .int i :: .ref a :: st) := by
  intro H locs ls ws hR hP hD hS hL
  obtain ⟨k0, hk0⟩ := hR.mem hG
  exact va_iast C.1 C.2.1 C.2.2.2.2.2.1 hP hD hS k0 0 hk0 rfl hi hd (fun H1 locs1 hP1 hD1 hS1 => kk H1 locs1 ls _ (hR.set hD hk0) hP1 hD1 hS1 hL)
theorem z_aald (C : zC p s m args meth c cc own nL Γ A) {a N : Nat} {f : Nat → Option Nat} (hG : G a = some (zO Γ N f)) {i : Int32} (hi : vp_in i N) {r : Option Nat} (hr : f i.toNatClampNeg = r) (hd : decode cc pc = .ok (.aaload, 1))
    (kk : Z p l e R s m args below meth c Q nL Γ A G k n (pc + 1) lv (va_rf r :: st)) : Z p l e R s m args below meth c Q nL Γ A G k n pc lv (.int i :: .ref a :: st) := by
  intro H locs ls ws hR hP hD hS hL
  obtain ⟨k0, hk0⟩ := hR.mem hG
  subst hr
  exact va_aldq C.1 C.2.1 C.2.2.2.2.2.1 hP k0 1 hk0 rfl hi hd (kk H locs ls ws hR hP hD hS hL)
theorem z_aast (C : zC p s m args meth c cc own nL Γ A) {a N b ci : Nat} {f : Nat → Option Nat} {fs : List Value} {q : vw_C} (hG : G a = some (zO Γ N f)) (hb : G b = some (.inr (ci, fs))) (hc : zCl[ci]? = some q) {i : Int32} (hi : vp_in i N) (hd : decode cc pc = .ok (.aastore, 1))
    (kk : Z p l e R s m args below meth c Q nL Γ A (zU G a (zO Γ N (va_up f i.toNatClampNeg (some b)))) k n (pc + 1) lv st) : Z p l e R s m args below meth c Q nL Γ A G k n pc lv (.ref b :: .int i :: .ref a :: st) := by
  intro H locs ls ws hR hP hD hS hL
  obtain ⟨k0, hk0⟩ := hR.mem hG
  obtain ⟨k1, hk1⟩ := hR.mem hb
  exact va_astqO C.1 C.2.1 C.2.2.2.2.2.1 hP hD hS k0 1 k1 ci hk0 rfl (C.2.2.2.2.2.2.2.2.2.1 _ (zCl_obj hc)) hk1 hc hi hd (fun H1 locs1 hP1 hD1 hS1 => kk H1 locs1 ls _ (hR.set hD hk0) hP1 hD1 hS1 hL)
theorem z_aastN (C : zC p s m args meth c cc own nL Γ A) {a N : Nat} {f : Nat → Option Nat} (hG : G a = some (zO Γ N f)) {i : Int32} (hi : vp_in i N) (hd : decode cc pc = .ok (.aastore, 1))
    (kk : Z p l e R s m args below meth c Q nL Γ A (zU G a (zO Γ N (va_up f i.toNatClampNeg none))) k n (pc + 1) lv st) : Z p l e R s m args below meth c Q nL Γ A G k n pc lv (.null :: .int i :: .ref a :: st) := by
  intro H locs ls ws hR hP hD hS hL
  obtain ⟨k0, hk0⟩ := hR.mem hG
  exact va_astqN C.1 C.2.1 C.2.2.2.2.2.1 hP hD hS k0 1 hk0 rfl hi hd (fun H1 locs1 hP1 hD1 hS1 => kk H1 locs1 ls _ (hR.set hD hk0) hP1 hD1 hS1 hL)
theorem z_ilen (C : zC p s m args meth c cc own nL Γ A) {a N : Nat} {f : Nat → Int32} (hG : G a = some (zI Γ N f)) (hd : decode cc pc = .ok (.arraylength, 1))
    (kk : Z p l e R s m args below meth c Q nL Γ A G k n (pc + 1) lv (.int (nI N) :: st)) : Z p l e R s m args below meth c Q nL Γ A G k n pc lv (.ref a :: st) := by
  intro H locs ls ws hR hP hD hS hL
  obtain ⟨k0, hk0⟩ := hR.mem hG
  exact va_alen C.1 C.2.1 C.2.2.2.2.2.1 hP k0 0 hk0 rfl rfl hd (kk H locs ls ws hR hP hD hS hL)
theorem z_olen (C : zC p s m args meth c cc own nL Γ A) {a N : Nat} {f : Nat → Option Nat} (hG : G a = some (zO Γ N f)) (hd : decode cc pc = .ok (.arraylength, 1))
    (kk : Z p l e R s m args below meth c Q nL Γ A G k n (pc + 1) lv (.int (nI N) :: st)) : Z p l e R s m args below meth c Q nL Γ A G k n pc lv (.ref a :: st) := by
  intro H locs ls ws hR hP hD hS hL
  obtain ⟨k0, hk0⟩ := hR.mem hG
  exact va_alen C.1 C.2.1 C.2.2.2.2.2.1 hP k0 1 hk0 rfl rfl hd (kk H locs ls ws hR hP hD hS hL)
/-- ArrayList's own empty array: its length, its reference -/
theorem z_elen (C : zC p s m args meth c cc own nL Γ A) (hd : decode cc pc = .ok (.arraylength, 1))
    (kk : Z p l e R s m args below meth c Q nL Γ A G k n (pc + 1) lv (.int 0 :: st)) : Z p l e R s m args below meth c Q nL Γ A G k n pc lv (.ref (Γ.2.2 0) :: st) :=
  fun H locs ls ws hR hP hD hS hL => va_tlen C.1 C.2.1 C.2.2.2.2.2.2.2.2.1.2.1 hS rfl hd (kk H locs ls ws hR hP hD hS hL)
theorem z_gete (C : zC p s m args meth c cc own nL Γ A) {ix : Nat} (hw : Cond.fieldLink own ix "java/util/ArrayList" "DEFAULTCAPACITY_EMPTY_ELEMENTDATA" "[Ljava/lang/Object;" ∈ lw_all) (hd : decode cc pc = .ok (.getstatic ix, 3))
    (kk : Z p l e R s m args below meth c Q nL Γ A G k n (pc + 3) lv (.ref (Γ.2.2 0) :: st)) : Z p l e R s m args below meth c Q nL Γ A G k n pc lv st :=
  fun H locs ls ws hR hP hD hS hL => va_gets C.1 C.2.1 C.2.2.2.2.2.2.2.2.1.1 hS C.2.2.2.1 (C.2.2.2.2.1 _ hw) (fun _ h => h) hd (kk H locs ls ws hR hP hD hS hL)
theorem z_getsteps (C : zC p s m args meth c cc own nL Γ A) {ix : Nat} (hw : Cond.fieldLink own ix "QuakeBench$Search" "FINER_STEPS" "[I" ∈ lw_all) (hd : decode cc pc = .ok (.getstatic ix, 3))
    (kk : Z p l e R s m args below meth c Q nL Γ A G k n (pc + 3) lv (.ref (Γ.2.2 1) :: st)) : Z p l e R s m args below meth c Q nL Γ A G k n pc lv st :=
  fun H locs ls ws hR hP hD hS hL => va_gets C.1 C.2.1 C.2.2.2.2.2.2.2.2.1.2.2.1 hS C.2.2.2.1 (C.2.2.2.2.1 _ hw) (fun _ h => h) hd (kk H locs ls ws hR hP hD hS hL)
theorem z_stepslen (C : zC p s m args meth c cc own nL Γ A) (hd : decode cc pc = .ok (.arraylength, 1))
    (kk : Z p l e R s m args below meth c Q nL Γ A G k n (pc + 1) lv (.int 4 :: st)) : Z p l e R s m args below meth c Q nL Γ A G k n pc lv (.ref (Γ.2.2 1) :: st) :=
  fun H locs ls ws hR hP hD hS hL => va_tlen C.1 C.2.1 C.2.2.2.2.2.2.2.2.1.2.2.2.1 hS rfl hd (kk H locs ls ws hR hP hD hS hL)
theorem z_stepsld (C : zC p s m args meth c cc own nL Γ A) {i v : Int32} (hi : vp_in i 4) (hv : (if i.toNatClampNeg = 0 then 10 else if i.toNatClampNeg = 1 then 5 else if i.toNatClampNeg = 2 then 2 else 1) = v) (hd : decode cc pc = .ok (.iaload, 1))
    (kk : Z p l e R s m args below meth c Q nL Γ A G k n (pc + 1) lv (.int v :: st)) : Z p l e R s m args below meth c Q nL Γ A G k n pc lv (.int i :: .ref (Γ.2.2 1) :: st) :=
  fun H locs ls ws hR hP hD hS hL => va_ti C.1 C.2.1 C.2.2.2.2.2.2.2.2.1.2.2.2.1 hS hi (congrArg Value.int hv) hd (kk H locs ls ws hR hP hD hS hL)
theorem z_new (C : zC p s m args meth c cc own nL Γ A) {Cn : String} {T : u_T} {ci ix N : Nat} {fs : List Value} (hw : ∀ w ∈ ([Cond.classLink own ix Cn, Cond.instantiable Cn N, Cond.initialized Cn] : List Cond), w ∈ lw_all) (hc : zCl[ci]? = some (Cn, T, N)) (ty : Nat → FieldType) (hty : ∀ q, q < N → parseFieldDescriptor (T q).2.2.1 = some (ty q)) (hfs : ∀ j, j < N → defaultValue (ty j) = vp_V fs j) (hk : k + 1 ≤ R.cells) (hn : n + N ≤ R.slots) (hd : decode cc pc = .ok (.new ix, 3))
    (kk : ∀ a, G a = none → Z p l e R s m args below meth c Q nL Γ A (zU G a (.inr (ci, fs))) (k + 1) (n + N) (pc + 3) lv (.ref a :: st)) : Z p l e R s m args below meth c Q nL Γ A G k n pc lv st :=
  fun H locs ls ws hR hP hD hS hL => va_new C.1 C.2.1 C.2.2.2.2.1 (zCl_in hc) ty hty C.2.2.2.1 (C.2.2.2.2.1 _ (hw _ (by simp))) (C.2.2.2.2.1 _ (hw _ (by simp))) (C.2.2.2.2.1 _ (hw _ (by simp))) C.2.2.2.2.2.1 hP hD hS C.2.2.2.2.2.2.2.1 hc hfs hk hn hd
    (fun a H1 hP1 hD1 hS1 => kk a (hR.fresh hD1) H1 locs ls _ (hR.push (hR.fresh hD1)) hP1 hD1 hS1 hL)
theorem z_newi (C : zC p s m args meth c cc own nL Γ A) {x : Int32} {N : Nat} (hw : Cond.arrayClass .int ∈ lw_all) (hx : ¬ x < 0) (hN : x.toNatClampNeg = N) (hb : N * 4 ≤ 536870912) (hk : k + 1 ≤ R.cells) (hn : n + N ≤ R.slots) (hd : decode cc pc = .ok (.newarray .int, 2))
    (kk : ∀ a, G a = none → Z p l e R s m args below meth c Q nL Γ A (zU G a (zI Γ N (fun _ => 0))) (k + 1) (n + N) (pc + 2) lv (.ref a :: st)) : Z p l e R s m args below meth c Q nL Γ A G k n pc lv (.int x :: st) := by
  intro H locs ls ws hR hP hD hS hL
  refine va_newa (atype := .int) (ty := .int) (a0 := (N, .inl (fun _ => 0))) C.1 C.2.1 (C.2.2.2.2.1 _ hw) rfl C.2.2.2.2.2.1 hP hD hS C.2.2.2.2.2.2.2.1 (fun _ => rfl) hx hN hb hk hn hd (fun a cA H1 hK1 hP1 hD1 hS1 => ?_)
  have e1 := (C.2.2.2.2.2.1.2 0 _ (rfl : (zT Γ.2.1)[0]? = some (Γ.2.1 0, .int))).2
  have e2 := (hK1.2 (zT Γ.2.1).length (cA, .int) (by rw [List.getElem?_append_right (Nat.le_refl _), Nat.sub_self]; rfl)).2
  have e3 : cA = Γ.2.1 0 := Option.some.inj ((show s.vm.findClass ("[" ++ FieldType.int.toString) = some cA from e2).symm.trans (show s.vm.findClass ("[" ++ FieldType.int.toString) = some (Γ.2.1 0) from e1))
  subst e3
  exact kk a (hR.fresh hD1) H1 locs ls _ (hR.push (hR.fresh hD1)) hP1 hD1 hS1 hL
theorem z_newo (C : zC p s m args meth c cc own nL Γ A) {x : Int32} {N ix : Nat} (hw : Cond.classLink own ix "java/lang/Object" ∈ lw_all) (hx : ¬ x < 0) (hN : x.toNatClampNeg = N) (hb : N * 4 ≤ 536870912) (hk : k + 1 ≤ R.cells) (hn : n + N ≤ R.slots) (hd : decode cc pc = .ok (.anewarray ix, 3))
    (kk : ∀ a, G a = none → Z p l e R s m args below meth c Q nL Γ A (zU G a (zO Γ N (fun _ => none))) (k + 1) (n + N) (pc + 3) lv (.ref a :: st)) : Z p l e R s m args below meth c Q nL Γ A G k n pc lv (.int x :: st) := by
  intro H locs ls ws hR hP hD hS hL
  refine va_newq C.1 C.2.1 C.2.2.2.1 (C.2.2.2.2.1 _ hw) C.2.2.2.2.2.2.2.2.2.2.2.1 C.2.2.2.2.2.1 hP hD hS C.2.2.2.2.2.2.2.1 hx hN hb hk hn hd (fun a cA H1 hK1 hP1 hD1 hS1 => ?_)
  obtain ⟨_, _, -, -, -, e1⟩ := (C.2.2.2.2.2.1.2 1 _ (rfl : (zT Γ.2.1)[1]? = some (Γ.2.1 1, .object "java/lang/Object"))).2
  obtain ⟨_, _, -, -, -, e2⟩ := (hK1.2 (zT Γ.2.1).length (cA, .object "java/lang/Object") (by rw [List.getElem?_append_right (Nat.le_refl _), Nat.sub_self]; rfl)).2
  have e3 : cA = Γ.2.1 1 := Option.some.inj (e2.symm.trans e1)
  subst e3
  exact kk a (hR.fresh hD1) H1 locs ls _ (hR.push (hR.fresh hD1)) hP1 hD1 hS1 hL
/-- behind a call -/
theorem z_back {H : Heap} {locs : List Loc} {ls : Array Slot} {st0 : List Value} {mc ms : Nat} {a : Array Value} {post : Option Value → zG → Prop} (hr : va_Run p l e R s m args below meth c H locs k n mc ms (F0 m pc ls st0) st ((zQ post Γ G H.size) a) (zA G H.size)) (hS : va_S A s.heap H locs) (hA : ∀ q, zA G H.size q → A q)
    (kk : ∀ (v : Option Value) (G' : zG) (H1 : Heap) (locs1 : List Loc) (ws' : va_W), post v G' → zR G' ws' → va_P Γ.1 zCl ws' H1 → va_D A ws' → va_S A s.heap H1 locs1 → W p l e R s m args below meth c H1 locs1 (k + mc) (n + ms) Q (F0 m (pc + 3) ls (v.toList ++ st))) : W p l e R s m args below meth c H locs k n Q (F0 m pc ls st0) := by
  intro T hT X
  obtain ⟨v, st₀, t, T', L, h0, X', hL, e1, e2, ⟨⟨v', G', ws', hv, hp, hR', hP', hD'⟩, hz, hk⟩, sp⟩ := hr T hT X
  cases hv
  rw [h0] at hz hk
  obtain ⟨t2, a1, b1⟩ := kk v G' T'.heap (locs ++ L) ws' hp hR' (by rw [e1]; exact hP') (hD'.weaken (fun _ q _ h => hA q.1 h))
    ⟨Nat.le_trans hS.1 (by rw [e1]; exact hz), fun q h1 h2 => by rw [e1, hk q (Nat.lt_of_lt_of_le h1 hS.1) (fun z => h2 (hA q z))]; exact hS.2.1 q h1 h2, fun q hq => by
      rcases List.mem_append.mp hq with h | h
      · exact hS.2.2 q h
      · exact hA _ (hL q h)⟩ T' rfl X'
  exact ⟨t2, sp t2 a1, b1⟩
theorem z_zA (C : zC p s m args meth c cc own nL Γ A) {H : Heap} {locs : List Loc} {ws : va_W} (hR : zR G ws) (hD : va_D A ws) (hS : va_S A s.heap H locs) : ∀ q, zA G H.size q → A q := by
  rintro q (⟨x, hx⟩ | h)
  · obtain ⟨k0, hk0⟩ := hR.mem hx
    exact hD.2 k0 _ hk0
  · exact C.2.2.2.2.2.2.2.1 q (Nat.le_trans hS.1 h)
theorem z_pre (C : zC p s m args meth c cc own nL Γ A) {H : Heap} {locs : List Loc} {ws : va_W} (hR : zR G ws) (hP : va_P Γ.1 zCl ws H) (hD : va_D A ws) (hS : va_S A s.heap H locs) {av : List Value} : ∀ U : State, U.heap = H → s.WarmedH U.vm → va_Pc av (zB Γ G H.size) av.toArray U :=
  fun U hU hW => ⟨rfl, by rw [hU], ⟨ws, hR, by rw [hU]; exact hP, hD.weaken (fun _ _ _ _ => trivial)⟩, va_K.moved hW.alike C.2.2.2.2.2.1, C.2.2.2.2.2.2.2.2.1.call hW.alike hS hU (z_zA C hR hD hS), zN.warm hW C.2.2.2.2.2.2.2.2.2⟩
theorem z_callV (C : zC p s m args meth c cc own nL Γ A) {y : MethodName} {cb : ByteArray} {mL ix b ci : Nat} {ret : Option FieldType} {rm : Room} {As : List Value} {post : Option Value → zG → Prop} {fs : List Value} {q : vw_C} {stk : List Value} (hM : ZM l y cb mL ret rm Γ (.ref b :: As) G post)
    (hw : ∀ w ∈ ([Cond.methodLink own ix y, Cond.instanceMethod y, Cond.selects q.1 y y, Cond.initialized q.1, Cond.code y cb mL ret] : List Cond), w ∈ lw_all) (hG : G b = some (.inr (ci, fs))) (hc : zCl[ci]? = some q) (hst : stk = As.reverse ++ .ref b :: st)
    {nA : Nat} (hA : As.length = nA) (hyq : y.cls = q.1) (hy : y.cls ≠ "java/lang/invoke/MethodHandle" ∧ y.cls ≠ "java/lang/invoke/VarHandle" ∧ (parseMethodDescriptor y.desc).map (fun d => d.parameters.length) = some nA) (hrm : rm.frames + 1 ≤ R.frames ∧ 8 + (mL + 11) + rm.locals ≤ R.locals) (hsum : (st.map fun v => v.category).sum ≤ 8) (hroom : k + rm.cells ≤ R.cells ∧ n + rm.slots ≤ R.slots) (hd : decode cc pc = .ok (.invokevirtual ix, 3))
    (kk : ∀ v G', post v G' → Z p l e R s m args below meth c Q nL Γ A G' (k + rm.cells) (n + rm.slots) (pc + 3) lv (v.toList ++ st)) : Z p l e R s m args below meth c Q nL Γ A G k n pc lv stk := by
  intro H locs ls ws hR hP hD hS hL
  obtain ⟨k0, hk0⟩ := hR.mem hG
  have g : GoodIn lw_all (wsV own ix q.1 y (zws y cb mL ret)) := by
    intro w h
    unfold wsV at h
    rcases List.mem_append.mp h with h | h
    · exact z_goods hw w (by simp only [List.mem_cons, List.not_mem_nil, or_false] at h ⊢; rcases h with h | h | h | h <;> simp [h])
    · rcases List.mem_cons.mp h with h | h
      · exact z_goods hw w (by simp [h])
      · exact z_good w h
  exact z_back (va_runV (As := As) (rest := st) ⟨C.1, C.2.1, C.2.2.1, C.2.2.2.1, C.2.2.2.2.1⟩ (hM H.size) (cwV nA C.2.2.2.2.1 g rfl rfl rfl ⟨hyq, hy⟩ hrm) ⟨zB.blind, va_recv C.2.2.2.2.2.1 hP hc hk0, z_pre C hR hP hD hS⟩ rfl hA hL.1 hst (lv_room hsum) hd hroom) hS (z_zA C hR hD hS)
    (fun v G' H1 locs1 ws' hp hR' hP' hD' hS' => kk v G' hp H1 locs1 ls ws' hR' hP' hD' hS' hL)
theorem z_callS (C : zC p s m args meth c cc own nL Γ A) {y : MethodName} {cb : ByteArray} {mL ix : Nat} {ret : Option FieldType} {rm : Room} {As : List Value} {post : Option Value → zG → Prop} {stk : List Value} (hM : ZM l y cb mL ret rm Γ As G post)
    (hw : ∀ w ∈ ([Cond.methodLink own ix y, Cond.static y, Cond.initialized y.cls, Cond.code y cb mL ret] : List Cond), w ∈ lw_all) (hst : stk = As.reverse ++ st)
    {nA : Nat} (hA : As.length = nA) (hy : y.cls ≠ "java/lang/invoke/MethodHandle" ∧ y.cls ≠ "java/lang/invoke/VarHandle" ∧ (parseMethodDescriptor y.desc).map (fun d => d.parameters.length) = some nA) (hrm : rm.frames + 1 ≤ R.frames ∧ 8 + (mL + 11) + rm.locals ≤ R.locals) (hsum : (st.map fun v => v.category).sum ≤ 8) (hroom : k + rm.cells ≤ R.cells ∧ n + rm.slots ≤ R.slots) (hd : decode cc pc = .ok (.invokestatic ix, 3))
    (kk : ∀ v G', post v G' → Z p l e R s m args below meth c Q nL Γ A G' (k + rm.cells) (n + rm.slots) (pc + 3) lv (v.toList ++ st)) : Z p l e R s m args below meth c Q nL Γ A G k n pc lv stk := by
  intro H locs ls ws hR hP hD hS hL
  have g : GoodIn lw_all (va_wsS own ix y (zws y cb mL ret)) := by
    intro w h
    unfold va_wsS at h
    rcases List.mem_append.mp h with h | h
    · exact z_goods hw w (by simp only [List.mem_cons, List.not_mem_nil, or_false] at h ⊢; rcases h with h | h | h <;> simp [h])
    · rcases List.mem_cons.mp h with h | h
      · exact z_goods hw w (by simp [h])
      · exact z_good w h
  exact z_back (va_runS (As := As) (rest := st) ⟨C.1, C.2.1, C.2.2.1, C.2.2.2.1, C.2.2.2.2.1⟩ (hM H.size) (va_cwS nA C.2.2.2.2.1 g rfl rfl rfl hy hrm) ⟨zB.blind, z_pre C hR hP hD hS⟩ rfl hA hL.1 hst (lv_room hsum) hd hroom) hS (z_zA C hR hD hS)
    (fun v G' H1 locs1 ws' hp hR' hP' hD' hS' => kk v G' hp H1 locs1 ls ws' hR' hP' hD' hS' hL)
theorem z_callI (C : zC p s m args meth c cc own nL Γ A) {y : MethodName} {cb : ByteArray} {mL ix b : Nat} {rm : Room} {As : List Value} {post : Option Value → zG → Prop} {stk : List Value} (hM : ZM l y cb mL none rm Γ (.ref b :: As) G post)
    (hw : ∀ w ∈ ([Cond.methodLink own ix y, Cond.instanceMethod y, Cond.initialized y.cls, Cond.code y cb mL none] : List Cond), w ∈ lw_all) (hst : stk = As.reverse ++ .ref b :: st) (hyi : y.name = "<init>")
    {nA : Nat} (hA : As.length = nA) (hy : y.cls ≠ "java/lang/invoke/MethodHandle" ∧ y.cls ≠ "java/lang/invoke/VarHandle" ∧ (parseMethodDescriptor y.desc).map (fun d => d.parameters.length) = some nA) (hrm : rm.frames + 1 ≤ R.frames ∧ 8 + (mL + 11) + rm.locals ≤ R.locals) (hsum : (st.map fun v => v.category).sum ≤ 8) (hroom : k + rm.cells ≤ R.cells ∧ n + rm.slots ≤ R.slots) (hd : decode cc pc = .ok (.invokespecial ix, 3))
    (kk : ∀ v G', post v G' → Z p l e R s m args below meth c Q nL Γ A G' (k + rm.cells) (n + rm.slots) (pc + 3) lv (v.toList ++ st)) : Z p l e R s m args below meth c Q nL Γ A G k n pc lv stk := by
  intro H locs ls ws hR hP hD hS hL
  have g : GoodIn lw_all (zws y cb mL none) := by
    intro w h
    rcases List.mem_cons.mp h with h | h
    · exact z_goods hw w (by simp [h])
    · exact z_good w h
  exact z_back (va_runI (As := As) (rest := st) ⟨C.1, C.2.1, C.2.2.1, C.2.2.2.1, C.2.2.2.2.1⟩ (hM H.size) (cwI nA C.2.2.2.2.1 g rfl rfl rfl (C.2.2.2.2.1 _ (hw _ (by simp))) (C.2.2.2.2.1 _ (hw _ (by simp))) (C.2.2.2.2.1 _ (hw _ (by simp))) hyi hy hrm) ⟨zB.blind, z_pre C hR hP hD hS⟩ rfl hA hL.1 hst (lv_room hsum) hd hroom) hS (z_zA C hR hD hS)
    (fun v G' H1 locs1 ws' hp hR' hP' hD' hS' => kk v G' hp H1 locs1 ls ws' hR' hP' hD' hS' hL)
theorem z_callIN (C : zC p s m args meth c cc own nL Γ A) {y : MethodName} {host : String} {cb : ByteArray} {mL ix b : Nat} {rm : Room} {As : List Value} {post : Option Value → zG → Prop} {stk : List Value} (hM : ZM l y cb mL none rm Γ (.ref b :: As) G post) (hwn : Cond.methodLinkNest own ix y host ∈ lw_nest)
    (hw : ∀ w ∈ ([Cond.instanceMethod y, Cond.initialized y.cls, Cond.code y cb mL none] : List Cond), w ∈ lw_all) (hst : stk = As.reverse ++ .ref b :: st) (hyi : y.name = "<init>")
    {nA : Nat} (hA : As.length = nA) (hy : y.cls ≠ "java/lang/invoke/MethodHandle" ∧ y.cls ≠ "java/lang/invoke/VarHandle" ∧ (parseMethodDescriptor y.desc).map (fun d => d.parameters.length) = some nA) (hrm : rm.frames + 1 ≤ R.frames ∧ 8 + (mL + 11) + rm.locals ≤ R.locals) (hsum : (st.map fun v => v.category).sum ≤ 8) (hroom : k + rm.cells ≤ R.cells ∧ n + rm.slots ≤ R.slots) (hd : decode cc pc = .ok (.invokespecial ix, 3))
    (kk : ∀ v G', post v G' → Z p l e R s m args below meth c Q nL Γ A G' (k + rm.cells) (n + rm.slots) (pc + 3) lv (v.toList ++ st)) : Z p l e R s m args below meth c Q nL Γ A G k n pc lv stk := by
  intro H locs ls ws hR hP hD hS hL
  have g : GoodIn lw_all (zws y cb mL none) := by
    intro w h
    rcases List.mem_cons.mp h with h | h
    · exact z_goods hw w (by simp [h])
    · exact z_good w h
  exact z_back (va_runIN (As := As) (rest := st) ⟨C.1, C.2.1, C.2.2.1, C.2.2.2.1, C.2.2.2.2.1⟩ (hM H.size) ⟨va_cnB nA C.2.2.2.2.1 g rfl rfl rfl (C.2.2.2.2.2.2.2.2.2.1 _ hwn) (C.2.2.2.2.1 _ (hw _ (by simp))) hy hrm, hyi, C.2.2.2.2.1 _ (hw _ (by simp))⟩ ⟨zB.blind, z_pre C hR hP hD hS⟩ rfl hA hL.1 hst (lv_room hsum) hd hroom) hS (z_zA C hR hD hS)
    (fun v G' H1 locs1 ws' hp hR' hP' hD' hS' => kk v G' hp H1 locs1 ls ws' hR' hP' hD' hS' hL)
/-- Object's constructor -/
theorem z_obj (C : zC p s m args meth c cc own nL Γ A) {ix a : Nat} (hw : ∀ w ∈ ([Cond.methodLink own ix objectInit, Cond.instanceMethod objectInit, Cond.code objectInit ⟨#[0xb1]⟩ 1 none] : List Cond), w ∈ lw_all) (hf : 1 ≤ R.frames) (hlo : (st.map fun v => v.category).sum + 12 ≤ R.locals) (hk : k ≤ R.cells) (hn : n ≤ R.slots) (hd : decode cc pc = .ok (.invokespecial ix, 3))
    (kk : Z p l e R s m args below meth c Q nL Γ A G k n (pc + 3) lv st) : Z p l e R s m args below meth c Q nL Γ A G k n pc lv (.ref a :: st) := by
  intro H locs ls ws hR hP hD hS hL
  exact W.objInit C.1 C.2.1 C.2.2.2.1 (C.2.2.2.2.1 _ (hw _ (by simp))) (C.2.2.2.2.1 _ (hw _ (by simp))) (C.2.2.2.2.1 _ (hw _ (by simp))) rfl (hL.1.trans C.2.2.1.symm) rfl hd hf (by show 2 * 0 + _ + 12 ≤ _; omega) (kk H locs ls ws hR hP hD hS hL)
theorem z_abs (C : zC p s m args meth c cc own nL Γ A) {ix : Nat} {x : Int32} (hw : ∀ w ∈ ([Cond.methodLink own ix Lib.Math.abs.name, Cond.static Lib.Math.abs.name, Cond.initialized "java/lang/Math", Cond.code Lib.Math.abs.name Lib.Math.abs.code 1 (some .int)] : List Cond), w ∈ lw_all) (hf : 1 ≤ R.frames) (hlo : (st.map fun v => v.category).sum + 13 ≤ R.locals) (hk : k ≤ R.cells) (hn : n ≤ R.slots) (hd : decode cc pc = .ok (.invokestatic ix, 3))
    (kk : Z p l e R s m args below meth c Q nL Γ A G k n (pc + 3) lv (.int (z_abs1 x) :: st)) : Z p l e R s m args below meth c Q nL Γ A G k n pc lv (.int x :: st) := by
  intro H locs ls ws hR hP hD hS hL
  exact va_mabs C.1 C.2.1 (C.2.2.1.trans hL.1.symm) C.2.2.2.1 (C.2.2.2.2.1 _ (hw _ (by simp))) (C.2.2.2.2.1 _ (hw _ (by simp))) (C.2.2.2.2.1 _ (hw _ (by simp))) (C.2.2.2.2.1 _ (hw _ (by simp))) hf hlo hk hn hd (kk H locs ls ws hR hP hD hS hL)
theorem z_max (C : zC p s m args meth c cc own nL Γ A) {ix : Nat} {x y : Int32} (hw : ∀ w ∈ ([Cond.methodLink own ix Lib.Math.max.name, Cond.static Lib.Math.max.name, Cond.initialized "java/lang/Math", Cond.code Lib.Math.max.name Lib.Math.max.code 2 (some .int)] : List Cond), w ∈ lw_all) (hf : 1 ≤ R.frames) (hlo : (st.map fun v => v.category).sum + 13 ≤ R.locals) (hk : k ≤ R.cells) (hn : n ≤ R.slots) (hd : decode cc pc = .ok (.invokestatic ix, 3))
    (kk : Z p l e R s m args below meth c Q nL Γ A G k n (pc + 3) lv (.int (if x < y then y else x) :: st)) : Z p l e R s m args below meth c Q nL Γ A G k n pc lv (.int y :: .int x :: st) := by
  intro H locs ls ws hR hP hD hS hL
  exact va_mmax C.1 C.2.1 (C.2.2.1.trans hL.1.symm) C.2.2.2.1 (C.2.2.2.2.1 _ (hw _ (by simp))) (C.2.2.2.2.1 _ (hw _ (by simp))) (C.2.2.2.2.1 _ (hw _ (by simp))) (C.2.2.2.2.1 _ (hw _ (by simp))) hf hlo hk hn hd (kk H locs ls ws hR hP hD hS hL)
theorem z_cast (C : zC p s m args meth c cc own nL Γ A) {ix a ci : Nat} {fs : List Value} {q : vw_C} (hw : Cond.classLink own ix q.1 ∈ lw_all) (hG : G a = some (.inr (ci, fs))) (hc : zCl[ci]? = some q) (hd : decode cc pc = .ok (.checkcast ix, 3))
    (kk : Z p l e R s m args below meth c Q nL Γ A G k n (pc + 3) lv (.ref a :: st)) : Z p l e R s m args below meth c Q nL Γ A G k n pc lv (.ref a :: st) := by
  intro H locs ls ws hR hP hD hS hL
  obtain ⟨k0, hk0⟩ := hR.mem hG
  exact va_castS C.1 C.2.1 C.2.2.2.1 (C.2.2.2.2.1 _ hw) (C.2.2.2.2.2.1.1 ci q hc).2 (va_recv C.2.2.2.2.2.1 hP hc hk0) hd (kk H locs ls ws hR hP hD hS hL)
theorem z_ldcw (C : zC p s m args meth c cc own nL Γ A) {ix : Nat} {v : Int32} (hw : Cond.constant own ix v ∈ lw_all) (hd : decode cc pc = .ok (.ldc_w ix, 3)) (kk : Z p l e R s m args below meth c Q nL Γ A G k n (pc + 3) lv (.int v :: st)) : Z p l e R s m args below meth c Q nL Γ A G k n pc lv st :=
  fun H locs ls ws hR hP hD hS hL => lv_ldcw C.1 C.2.1 C.2.2.2.1 (C.2.2.2.2.1 _ hw) hd (kk H locs ls ws hR hP hD hS hL)
theorem z_min (C : zC p s m args meth c cc own nL Γ A) {ix : Nat} {x y : Int32} (hw : ∀ w ∈ ([Cond.methodLink own ix Lib.Math.min.name, Cond.static Lib.Math.min.name, Cond.initialized "java/lang/Math", Cond.code Lib.Math.min.name Lib.Math.min.code 2 (some .int)] : List Cond), w ∈ lw_all) (hf : 1 ≤ R.frames) (hlo : (st.map fun v => v.category).sum + 13 ≤ R.locals) (hk : k ≤ R.cells) (hn : n ≤ R.slots) (hd : decode cc pc = .ok (.invokestatic ix, 3))
    (kk : Z p l e R s m args below meth c Q nL Γ A G k n (pc + 3) lv (.int (if y < x then y else x) :: st)) : Z p l e R s m args below meth c Q nL Γ A G k n pc lv (.int y :: .int x :: st) := by
  intro H locs ls ws hR hP hD hS hL
  exact va_mmin C.1 C.2.1 (C.2.2.1.trans hL.1.symm) C.2.2.2.1 (C.2.2.2.2.1 _ (hw _ (by simp))) (C.2.2.2.2.1 _ (hw _ (by simp))) (C.2.2.2.2.1 _ (hw _ (by simp))) (C.2.2.2.2.1 _ (hw _ (by simp))) hf hlo hk hn hd (kk H locs ls ws hR hP hD hS hL)
/-- getClass of an array of objects, and the class constant, are one object -/
theorem z_getC (C : zC p s m args meth c cc own nL Γ A) {ix a N mi : Nat} {f : Nat → Option Nat} (hG : G a = some (zO Γ N f)) (hM : va_Mi "[Ljava/lang/Object;" mi s)
    (hw : ∀ w ∈ ([Cond.methodLink own ix ⟨"java/lang/Object", "getClass", "()Ljava/lang/Class;"⟩, Cond.selects "[Ljava/lang/Object;" ⟨"java/lang/Object", "getClass", "()Ljava/lang/Class;"⟩ ⟨"java/lang/Object", "getClass", "()Ljava/lang/Class;"⟩, Cond.instanceMethod ⟨"java/lang/Object", "getClass", "()Ljava/lang/Class;"⟩, Cond.native ⟨"java/lang/Object", "getClass", "()Ljava/lang/Class;"⟩] : List Cond), w ∈ lw_all) (hf : 1 ≤ R.frames) (hlo : (st.map fun v => v.category).sum + 14 ≤ R.locals) (hd : decode cc pc = .ok (.invokevirtual ix, 3))
    (kk : Z p l e R s m args below meth c Q nL Γ A G k n (pc + 3) lv (.ref mi :: st)) : Z p l e R s m args below meth c Q nL Γ A G k n pc lv (.ref a :: st) := by
  intro H locs ls ws hR hP hD hS hL
  obtain ⟨k0, hk0⟩ := hR.mem hG
  exact va_getC C.1 C.2.1 (C.2.2.1.trans hL.1.symm) C.2.2.2.1 (C.2.2.2.2.1 _ (hw _ (by simp))) C.2.2.2.2.2.2.2.2.2.2.2.2.2.use (C.2.2.2.2.1 _ (hw _ (by simp))) (C.2.2.2.2.1 _ (hw _ (by simp))) (C.2.2.2.2.1 _ (hw _ (by simp))) hM
    ⟨_, hP k0 _ hk0, rfl, va_nmO (C.2.2.2.2.2.1.2 1 _ (rfl : (zT Γ.2.1)[1]? = some (Γ.2.1 1, .object "java/lang/Object"))).2 (by decide)⟩ hf hlo hd (kk H locs ls ws hR hP hD hS hL)
theorem z_ldcM (C : zC p s m args meth c cc own nL Γ A) {ix mi : Nat} (hM : va_Mi "[Ljava/lang/Object;" mi s) (hw : Cond.classLink own ix "[Ljava/lang/Object;" ∈ lw_all) (hd : decode cc pc = .ok (.ldc ix, 2)) (kk : Z p l e R s m args below meth c Q nL Γ A G k n (pc + 2) lv (.ref mi :: st)) : Z p l e R s m args below meth c Q nL Γ A G k n pc lv st :=
  fun H locs ls ws hR hP hD hS hL => va_ldcM C.1 C.2.1 C.2.2.2.1 (C.2.2.2.2.1 _ hw) hM hd (kk H locs ls ws hR hP hD hS hL)
theorem z_mi (C : zC p s m args meth c cc own nL Γ A) : va_Mi "[Ljava/lang/Object;" (Γ.2.2 2) s := C.2.2.2.2.2.2.2.2.2.2.2.2.1
theorem z_copy (C : zC p s m args meth c cc own nL Γ A) {ix a0 a n0 n1 : Nat} {f g : Nat → Option Nat} (h0 : G a0 = some (zO Γ n0 f)) (h1 : G a = some (zO Γ n1 g))
    (hw : ∀ w ∈ ([Cond.methodLink own ix arraycopyName, Cond.native arraycopyName, Cond.static arraycopyName, Cond.initialized "java/lang/System"] : List Cond), w ∈ lw_all) {sp dp x : Int32} (sp' dp' x' : Nat) (es : sp = nI sp') (ed : dp = nI dp') (ex : x = nI x') (hb : sp' < 2 ^ 31 ∧ dp' < 2 ^ 31 ∧ x' < 2 ^ 31) (h4 : sp' + x' ≤ n0) (h5 : dp' + x' ≤ n1)
    (hel : ∀ i : Nat, i < x' → ∀ y : Nat, f (sp' + i) = some y → ∃ (ci : Nat) (fs : List Value) (q : vw_C), G y = some (.inr (ci, fs)) ∧ zCl[ci]? = some q) (hf : 1 ≤ R.frames) (hlo : (st.map fun v => v.category).sum + (nativeFrameWords "java/lang/System" "arraycopy" 5 + 11) ≤ R.locals) (hd : decode cc pc = .ok (.invokestatic ix, 3))
    (kk : Z p l e R s m args below meth c Q nL Γ A (zU G a (zO Γ n1 (va_cpy f g sp' dp' x'))) k n (pc + 3) lv st) : Z p l e R s m args below meth c Q nL Γ A G k n pc lv (.int x :: .int dp :: .ref a :: .int sp :: .ref a0 :: st) := by
  intro H locs ls ws hR hP hD hS hL
  obtain ⟨k0, hk0⟩ := hR.mem h0
  obtain ⟨k1, hk1⟩ := hR.mem h1
  subst es ed ex
  obtain ⟨b1, b2, b3⟩ := hb
  refine va_copyM C.1 C.2.1 (C.2.2.1.trans hL.1.symm) C.2.2.2.1 (C.2.2.2.2.1 _ (hw _ (by simp))) (C.2.2.2.2.1 _ (hw _ (by simp))) (C.2.2.2.2.1 _ (hw _ (by simp))) (C.2.2.2.2.1 _ (hw _ (by simp))) C.2.2.2.2.2.1 hP hD hS k0 k1 1 1 hk0 hk1 rfl rfl (nI_pos b1) (nI_pos b2) (nI_pos b3) (by rw [nI_clamp b1, nI_clamp b3]; exact h4) (by rw [nI_clamp b2, nI_clamp b3]; exact h5) (fun i hi y hy => ?_) hf hlo hd (fun H1 locs1 hP1 hD1 hS1 => ?_)
  · rw [nI_clamp b3] at hi
    rw [nI_clamp b1] at hy
    obtain ⟨ci, fs, q, h6, h7⟩ := hel i hi y hy
    obtain ⟨k2, hk2⟩ := hR.mem h6
    exact va_rAny C.2.2.2.2.2.1 hP hk2 h7 (vb_asgC (C.2.2.2.2.2.2.2.2.2.1 _ (zCl_obj h7)))
  · rw [nI_clamp b1, nI_clamp b2, nI_clamp b3] at hP1 hD1
    exact kk H1 locs1 ls _ (hR.set hD hk1) hP1 hD1 hS1 hL
theorem z_callSN (C : zC p s m args meth c cc own nL Γ A) {y : MethodName} {host : String} {cb : ByteArray} {mL ix : Nat} {ret : Option FieldType} {rm : Room} {As : List Value} {post : Option Value → zG → Prop} {stk : List Value} (hM : ZM l y cb mL ret rm Γ As G post) (hwn : Cond.methodLinkNest own ix y host ∈ lw_nest)
    (hw : ∀ w ∈ ([Cond.static y, Cond.initialized y.cls, Cond.code y cb mL ret] : List Cond), w ∈ lw_all) (hst : stk = As.reverse ++ st)
    {nA : Nat} (hA : As.length = nA) (hy : y.cls ≠ "java/lang/invoke/MethodHandle" ∧ y.cls ≠ "java/lang/invoke/VarHandle" ∧ (parseMethodDescriptor y.desc).map (fun d => d.parameters.length) = some nA) (hrm : rm.frames + 1 ≤ R.frames ∧ 8 + (mL + 11) + rm.locals ≤ R.locals) (hsum : (st.map fun v => v.category).sum ≤ 8) (hroom : k + rm.cells ≤ R.cells ∧ n + rm.slots ≤ R.slots) (hd : decode cc pc = .ok (.invokestatic ix, 3))
    (kk : ∀ v G', post v G' → Z p l e R s m args below meth c Q nL Γ A G' (k + rm.cells) (n + rm.slots) (pc + 3) lv (v.toList ++ st)) : Z p l e R s m args below meth c Q nL Γ A G k n pc lv stk := by
  intro H locs ls ws hR hP hD hS hL
  have g : GoodIn lw_all (zws y cb mL ret) := by
    intro w h
    rcases List.mem_cons.mp h with h | h
    · exact z_goods hw w (by simp [h])
    · exact z_good w h
  exact z_back (va_runSN (As := As) (rest := st) ⟨C.1, C.2.1, C.2.2.1, C.2.2.2.1, C.2.2.2.2.1⟩ (hM H.size) ⟨va_cnB nA C.2.2.2.2.1 g rfl rfl rfl (C.2.2.2.2.2.2.2.2.2.1 _ hwn) (C.2.2.2.2.1 _ (hw _ (by simp))) hy hrm, C.2.2.2.2.1 _ (hw _ (by simp)), trivial⟩ ⟨zB.blind, z_pre C hR hP hD hS⟩ rfl hA hL.1 hst (lv_room hsum) hd hroom) hS (z_zA C hR hD hS)
    (fun v G' H1 locs1 ws' hp hR' hP' hD' hS' => kk v G' hp H1 locs1 ls ws' hR' hP' hD' hS' hL)
/-- the empty array is none of the world's cells -/
theorem z_et (C : zC p s m args meth c cc own nL Γ A) (kk : G (Γ.2.2 0) = none → Z p l e R s m args below meth c Q nL Γ A G k n pc lv st) : Z p l e R s m args below meth c Q nL Γ A G k n pc lv st := by
  intro H locs ls ws hR hP hD hS hL
  refine kk ?_ H locs ls ws hR hP hD hS hL
  cases hg : G (Γ.2.2 0) with
  | none => rfl
  | some x =>
    obtain ⟨k0, hk0⟩ := hR.mem hg
    exact absurd (hD.2 k0 _ hk0) C.2.2.2.2.2.2.2.2.1.2.1.out
theorem z_gen (kk : ∀ G1 : zG, (∀ q, G1 q = G q) → Z p l e R s m args below meth c Q nL Γ A G1 k n pc lv st) : Z p l e R s m args below meth c Q nL Γ A G k n pc lv st := kk G (fun _ => rfl)
end ZO
end
section
/-! OWN ROWS, fourth part: methods that return or throw, and the catching of what they throw -/
def zXC (px : String → zG → Prop) (Γ : zY) (G : zG) (sz : Nat) : String → State → State → Prop := fun E st t =>
  (∃ (G' : zG) (ws' : va_W), px E G' ∧ zR G' ws' ∧ va_P Γ.1 zCl ws' t.heap ∧ va_D (zA G sz) ws') ∧ va_F (zA G sz) st t
/-- a contract with throws -/
def ZX (l : Launch) (y : MethodName) (cb : ByteArray) (n : Nat) (ret : Option FieldType) (rm : Room) (Γ : zY) (av : List Value) (G : zG) (post : Option Value → zG → Prop) (px : String → zG → Prop) : Prop :=
  ∀ sz : Nat, vx_Met l y (zws y cb n ret) rm (va_Pc av (zB Γ G sz)) (zQ post Γ G sz) (zXC px Γ G sz) rm.cells rm.slots (zA G sz)
def zFX (post : Option Value → zG → Prop) (px : String → zG → Prop) (Γ : zY) (G0 : zG) (Q : State → Prop) (A : Nat → Prop) (below : List Frame) (args : Array Value) (s : State) (mc ms : Nat) : Prop :=
  Q = vx_MQ below (zQ post Γ G0 s.heap.size) (zXC px Γ G0 s.heap.size) args s mc ms (zA G0 s.heap.size) ∧ A = zA G0 s.heap.size
theorem z_startX {l : Launch} {y : MethodName} {cb : ByteArray} {n : Nat} {ret : Option FieldType} {rm : Room} {Γ : zY} {av : List Value} {G : zG} {post : Option Value → zG → Prop} {px : String → zG → Prop} (hy : plainName y.cls = true) (lv0 : List (Option Value)) (hlv : zp 0 lv0 = lv_args 0 av) (hlen : (lg_sl av).length ≤ n)
    (kk : ∀ (p : Program) (e : Env) (s : State) (m : MethodId) (args : Array Value) (below : List Frame) (meth : Method) (c : Code) (Q : State → Prop) (A : Nat → Prop), zC p s m args meth c cb y.cls n Γ A → zFX post px Γ G Q A below args s rm.cells rm.slots → (∀ x ∈ c.exceptionTable.toList, False) → meth.sig.returnType = ret → meth.name = y.name →
      Z p l e rm s m args below meth c Q n Γ A G 0 0 0 lv0 []) : ZX l y cb n ret rm Γ av G post px := by
  intro sz
  refine vx_ofW (cc := cb) (maxL := n) (ret := ret) hy rfl ?_
  intro p e s m args below meth c s₁ B hml ht hv
  obtain ⟨rfl, rfl, ⟨ws, hR, hP, hD⟩, hK, hE, hN⟩ := hv
  have hts := atoms_spec (ws := zws y cb n ret) B.pre
  have hl := lv_entry av (n := n) hlen
  rw [lg_entry_eq]
  generalize (lg_sl av ++ List.replicate (n - (lg_sl av).length) Slot.unset).toArray = ls at hl ⊢
  exact kk p e s m av.toArray below meth c _ (zA G s.heap.size) ⟨B.exec, B.bytes, hml, findClass_of_methodNamed B.named, fun w h => hts w (List.mem_cons_of_mem _ h), hK, B.notSynchronized, fun q h => Or.inr h, hE, hN⟩ ⟨rfl, rfl⟩ ht B.returns (name_of_methodNamed B.named B.method).1
    s.heap [] ls ws hR hP (hD.weaken (fun k q hk _ => Or.inl ⟨q.2, (hR q.1 q.2).mpr (List.mem_of_getElem? hk)⟩)) va_S.rf (by unfold zL; rw [hlv]; exact hl)
section ZXX
variable {p : Program} {l : Launch} {e : Env} {R : Room} {s : State} {m : MethodId} {args : Array Value} {below : List Frame} {meth : Method} {c : Code} {Q : State → Prop} {A : Nat → Prop} {nL : Nat} {Γ : zY} {G G0 : zG} {k n pc mc ms : Nat} {lv : List (Option Value)} {st : List Value} {cc : ByteArray} {own : String} {post : Option Value → zG → Prop} {px : String → zG → Prop}
/-- from here on it returns -/
theorem z_x (F : zFX post px Γ G0 Q A below args s mc ms) (kk : ∀ Q', zF post Γ G0 Q' A below args s mc ms → Z p l e R s m args below meth c Q' nL Γ A G k n pc lv st) : Z p l e R s m args below meth c Q nL Γ A G k n pc lv st := by
  obtain ⟨rfl, rfl⟩ := F
  exact fun H locs ls ws hR hP hD hS hL => vx_ret (kk _ ⟨rfl, rfl⟩ H locs ls ws hR hP hD hS hL)
/-- the words of a throw -/
def zThrow (own cls text : String) (names : List String) (ik is ic : Nat) : Prop :=
  Bundle.fit cls = true ∧ (∀ n ∈ names, Bundle.fit n = true) ∧ (∀ w ∈ Cond.classLink own ik cls :: Cond.initialized cls :: vx_atS own ic cls names, vx_ot w = true) ∧ (own, is, text) ∈ lw_strs ∧
  (∀ w ∈ (Cond.classLink own ik cls :: Cond.initialized cls :: vx_atS own ic cls names).filter goodWord, w ∈ lw_all) ∧ (∀ w ∈ (Cond.classLink own ik cls :: Cond.initialized cls :: vx_atS own ic cls names).filter (fun w => !goodWord w), w ∈ lw_nest)
theorem z_throw (C : zC p s m args meth c cc own nL Γ A) (F : zFX post px Γ G0 Q A below args s mc ms) (hT : ∀ x ∈ c.exceptionTable.toList, False) (hl : l.stackTraces = false) {cls text : String} {names : List String} {ik is ic : Nat} (hw : zThrow own cls text names ik is ic)
    (d0 : decode cc pc = .ok (.new ik, 3)) (d3 : decode cc (pc + 3) = .ok (.dup, 1)) (d4 : decode cc (pc + 4) = .ok (.ldc is, 2)) (d6 : decode cc (pc + 6) = .ok (.invokespecial ic, 3)) (d9 : decode cc (pc + 9) = .ok (.athrow, 1))
    (hfr : names.length + 3 < R.frames) (hlo : (st.map fun v => v.category).sum + (13 * (names.length + 1) + 43) ≤ R.locals) (hk : k + 1 ≤ R.cells) (hn : n + 6 ≤ R.slots) (hc : k + 1 ≤ mc) (hs : n + 6 ≤ ms) (hp : px cls G) :
    Z p l e R s m args below meth c Q nL Γ A G k n pc lv st := by
  obtain ⟨rfl, rfl⟩ := F
  obtain ⟨w1, w2, w3, w4, w5, w6⟩ := hw
  intro H locs ls ws hR hP hD hS hL
  obtain ⟨sa, hsa⟩ := C.2.2.2.2.2.2.2.2.2.2.1 _ w4
  have hall : ∀ w ∈ Cond.classLink own ik cls :: Cond.initialized cls :: vx_atS own ic cls names, w.before args s = true := by
    intro w hw
    by_cases g : goodWord w = true
    · exact C.2.2.2.2.1 _ (w5 w (List.mem_filter.mpr ⟨hw, g⟩))
    · have h1 := w6 w (List.mem_filter.mpr ⟨hw, by simpa using g⟩)
      have h2 := lw_nest_ok w h1
      have h3 := C.2.2.2.2.2.2.2.2.2.1 w h1
      cases w <;> first | exact va_Nw.use rfl h3 | (cases h2; done)
  refine vx_throwS C.1 C.2.1 hl C.2.2.2.1 w1 w2 (hall _ List.mem_cons_self) (hall _ (List.mem_cons_of_mem _ List.mem_cons_self)) hsa (fun w h => hall w (List.mem_cons_of_mem _ (List.mem_cons_of_mem _ h))) w3
    C.2.2.2.2.2.2.2.2.1.2.2.2.2.1 C.2.2.2.2.2.2.2.2.1.2.2.2.2.2 hS (hL.1.trans C.2.2.1.symm) d0 d3 d4 d6 d9 (fun x hx => (hT x hx).elim) hfr hlo hk hn C.2.2.2.2.2.2.1 ?_ hS.2.2 hc hs
  intro t hA hz hkp
  refine ⟨⟨G, ws, hp, hR, hP.kept (fun k0 q0 hk0 => hkp q0.1 (hP k0 q0 hk0).lt), hD⟩, Nat.le_trans hS.1 hz, fun q h1 h2 => ?_⟩
  rw [hkp q (Nat.lt_of_lt_of_le h1 hS.1)]
  exact hS.2.1 q h1 h2
/-- an exception of the class E stands over this frame, at pc -/
def ZT (p : Program) (l : Launch) (e : Env) (R : Room) (s : State) (m : MethodId) (args : Array Value) (below : List Frame) (meth : Method) (c : Code) (Q : State → Prop) (nL : Nat) (Γ : zY) (A : Nat → Prop) (G : zG) (k n pc : Nat) (lv : List (Option Value)) (st : List Value) (E : String) : Prop :=
  ∀ (H : Heap) (locs : List Loc) (ls : Array Slot) (ws : va_W) (q : Addr) (ce : Cell), zR G ws → va_P Γ.1 zCl ws H → va_D A ws → va_S A s.heap H locs → zL ls nL lv → H[q]? = some ce → ce.vm = .none → s.vm.findClass E = some ce.cls → vx_W p l e R s m args below meth c H locs k n Q (F0 m pc ls st) q
theorem z_out (C : zC p s m args meth c cc own nL Γ A) (F : zFX post px Γ G0 Q A below args s mc ms) (hT : ∀ x ∈ c.exceptionTable.toList, False) {E : String} (hk : k ≤ mc) (hn : n ≤ ms) (hp : px E G) : ZT p l e R s m args below meth c Q nL Γ A G k n pc lv st E := by
  obtain ⟨rfl, rfl⟩ := F
  intro H locs ls ws q ce hR hP hD hS hL hq hv hcl
  exact vx_out (fun x hx => (hT x hx).elim) C.2.2.2.2.2.2.1 hq hv hcl (fun t ht _ => ⟨⟨G, ws, hp, hR, by rw [ht]; exact hP, hD⟩, hS.F ht⟩) hS.2.2 hk hn
/-- behind a call that returns or throws -/
theorem z_backX {H : Heap} {locs : List Loc} {ls : Array Slot} {st0 : List Value} {mc ms : Nat} {a : Array Value} {post : Option Value → zG → Prop} {px : String → zG → Prop} (hr : vx_Run p l e R s m args below meth c H locs k n mc ms (F0 m pc ls st0) st ((zQ post Γ G H.size) a) (zXC px Γ G H.size) (zA G H.size)) (hS : va_S A s.heap H locs) (hA : ∀ q, zA G H.size q → A q)
    (kx : ∀ (E : String) (G' : zG) (H1 : Heap) (locs1 : List Loc) (ws' : va_W) (q : Addr) (ce : Cell), px E G' → zR G' ws' → va_P Γ.1 zCl ws' H1 → va_D A ws' → va_S A s.heap H1 locs1 → H1[q]? = some ce → ce.vm = .none → s.vm.findClass E = some ce.cls → vx_W p l e R s m args below meth c H1 locs1 (k + mc) (n + ms) Q (F0 m pc ls st) q)
    (kk : ∀ (v : Option Value) (G' : zG) (H1 : Heap) (locs1 : List Loc) (ws' : va_W), post v G' → zR G' ws' → va_P Γ.1 zCl ws' H1 → va_D A ws' → va_S A s.heap H1 locs1 → W p l e R s m args below meth c H1 locs1 (k + mc) (n + ms) Q (F0 m (pc + 3) ls (v.toList ++ st))) : W p l e R s m args below meth c H locs k n Q (F0 m pc ls st0) := by
  intro T hT X
  rcases hr T hT X with ⟨v, st₀, t, T', L, h0, X', hL, e1, e2, ⟨⟨v', G', ws', hv, hp, hR', hP', hD'⟩, hz, hk⟩, sp⟩ | ⟨q, st₀, t, T', L, E, ce, h0, X', hL, e1, e2, ⟨⟨G', ws', hp, hR', hP', hD'⟩, hz, hk⟩, hce, hcv, hcl, sp⟩
  · cases hv
    rw [h0] at hz hk
    obtain ⟨t2, a1, b1⟩ := kk v G' T'.heap (locs ++ L) ws' hp hR' (by rw [e1]; exact hP') (hD'.weaken (fun _ q _ h => hA q.1 h))
      ⟨Nat.le_trans hS.1 (by rw [e1]; exact hz), fun q h1 h2 => by rw [e1, hk q (Nat.lt_of_lt_of_le h1 hS.1) (fun z => h2 (hA q z))]; exact hS.2.1 q h1 h2, fun q hq => by
        rcases List.mem_append.mp hq with h | h
        · exact hS.2.2 q h
        · exact hA _ (hL q h)⟩ T' rfl X'
    exact ⟨t2, sp t2 a1, b1⟩
  · rw [h0] at hz hk
    obtain ⟨t2, a1, b1⟩ := kx E G' T'.heap (locs ++ L) ws' q ce hp hR' (by rw [e1]; exact hP') (hD'.weaken (fun _ q _ h => hA q.1 h))
      ⟨Nat.le_trans hS.1 (by rw [e1]; exact hz), fun q h1 h2 => by rw [e1, hk q (Nat.lt_of_lt_of_le h1 hS.1) (fun z => h2 (hA q z))]; exact hS.2.1 q h1 h2, fun q hq => by
        rcases List.mem_append.mp hq with h | h
        · exact hS.2.2 q h
        · exact hA _ (hL q h)⟩ (by rw [e1]; exact hce) hcv hcl T' rfl X'
    exact ⟨t2, sp.trans a1, b1⟩
theorem z_callVX (C : zC p s m args meth c cc own nL Γ A) {y : MethodName} {cb : ByteArray} {mL ix b ci : Nat} {ret : Option FieldType} {rm : Room} {As : List Value} {post : Option Value → zG → Prop} {px : String → zG → Prop} {fs : List Value} {q : vw_C} {stk : List Value} (hM : ZX l y cb mL ret rm Γ (.ref b :: As) G post px)
    (hw : ∀ w ∈ ([Cond.methodLink own ix y, Cond.instanceMethod y, Cond.selects q.1 y y, Cond.initialized q.1, Cond.code y cb mL ret] : List Cond), w ∈ lw_all) (hG : G b = some (.inr (ci, fs))) (hc : zCl[ci]? = some q) (hst : stk = As.reverse ++ .ref b :: st)
    {nA : Nat} (hA : As.length = nA) (hyq : y.cls = q.1) (hy : y.cls ≠ "java/lang/invoke/MethodHandle" ∧ y.cls ≠ "java/lang/invoke/VarHandle" ∧ (parseMethodDescriptor y.desc).map (fun d => d.parameters.length) = some nA) (hrm : rm.frames + 1 ≤ R.frames ∧ 8 + (mL + 11) + rm.locals ≤ R.locals) (hsum : (st.map fun v => v.category).sum ≤ 8) (hroom : k + rm.cells ≤ R.cells ∧ n + rm.slots ≤ R.slots) (hd : decode cc pc = .ok (.invokevirtual ix, 3))
    (kx : ∀ E G', px E G' → ZT p l e R s m args below meth c Q nL Γ A G' (k + rm.cells) (n + rm.slots) pc lv st E)
    (kk : ∀ v G', post v G' → Z p l e R s m args below meth c Q nL Γ A G' (k + rm.cells) (n + rm.slots) (pc + 3) lv (v.toList ++ st)) : Z p l e R s m args below meth c Q nL Γ A G k n pc lv stk := by
  intro H locs ls ws hR hP hD hS hL
  obtain ⟨k0, hk0⟩ := hR.mem hG
  have g : GoodIn lw_all (wsV own ix q.1 y (zws y cb mL ret)) := by
    intro w h
    unfold wsV at h
    rcases List.mem_append.mp h with h | h
    · exact z_goods hw w (by simp only [List.mem_cons, List.not_mem_nil, or_false] at h ⊢; rcases h with h | h | h | h <;> simp [h])
    · rcases List.mem_cons.mp h with h | h
      · exact z_goods hw w (by simp [h])
      · exact z_good w h
  exact z_backX (vx_runV (As := As) (rest := st) ⟨C.1, C.2.1, C.2.2.1, C.2.2.2.1, C.2.2.2.2.1⟩ (hM H.size) (cwV nA C.2.2.2.2.1 g rfl rfl rfl ⟨hyq, hy⟩ hrm) ⟨zB.blind, va_recv C.2.2.2.2.2.1 hP hc hk0, z_pre C hR hP hD hS⟩ rfl hA hL.1 hst (lv_room hsum) hd hroom) hS (z_zA C hR hD hS)
    (fun E G' H1 locs1 ws' q' ce hp hR' hP' hD' hS' hq hv hcl => kx E G' hp H1 locs1 ls ws' q' ce hR' hP' hD' hS' hL hq hv hcl)
    (fun v G' H1 locs1 ws' hp hR' hP' hD' hS' => kk v G' hp H1 locs1 ls ws' hR' hP' hD' hS' hL)
theorem z_callSX (C : zC p s m args meth c cc own nL Γ A) {y : MethodName} {cb : ByteArray} {mL ix : Nat} {ret : Option FieldType} {rm : Room} {As : List Value} {post : Option Value → zG → Prop} {px : String → zG → Prop} {stk : List Value} (hM : ZX l y cb mL ret rm Γ As G post px)
    (hw : ∀ w ∈ ([Cond.methodLink own ix y, Cond.static y, Cond.initialized y.cls, Cond.code y cb mL ret] : List Cond), w ∈ lw_all) (hst : stk = As.reverse ++ st)
    {nA : Nat} (hA : As.length = nA) (hy : y.cls ≠ "java/lang/invoke/MethodHandle" ∧ y.cls ≠ "java/lang/invoke/VarHandle" ∧ (parseMethodDescriptor y.desc).map (fun d => d.parameters.length) = some nA) (hrm : rm.frames + 1 ≤ R.frames ∧ 8 + (mL + 11) + rm.locals ≤ R.locals) (hsum : (st.map fun v => v.category).sum ≤ 8) (hroom : k + rm.cells ≤ R.cells ∧ n + rm.slots ≤ R.slots) (hd : decode cc pc = .ok (.invokestatic ix, 3))
    (kx : ∀ E G', px E G' → ZT p l e R s m args below meth c Q nL Γ A G' (k + rm.cells) (n + rm.slots) pc lv st E)
    (kk : ∀ v G', post v G' → Z p l e R s m args below meth c Q nL Γ A G' (k + rm.cells) (n + rm.slots) (pc + 3) lv (v.toList ++ st)) : Z p l e R s m args below meth c Q nL Γ A G k n pc lv stk := by
  intro H locs ls ws hR hP hD hS hL
  have g : GoodIn lw_all (va_wsS own ix y (zws y cb mL ret)) := by
    intro w h
    unfold va_wsS at h
    rcases List.mem_append.mp h with h | h
    · exact z_goods hw w (by simp only [List.mem_cons, List.not_mem_nil, or_false] at h ⊢; rcases h with h | h | h <;> simp [h])
    · rcases List.mem_cons.mp h with h | h
      · exact z_goods hw w (by simp [h])
      · exact z_good w h
  exact z_backX (vx_runS (As := As) (rest := st) ⟨C.1, C.2.1, C.2.2.1, C.2.2.2.1, C.2.2.2.2.1⟩ (hM H.size) (va_cwS nA C.2.2.2.2.1 g rfl rfl rfl hy hrm) ⟨zB.blind, z_pre C hR hP hD hS⟩ rfl hA hL.1 hst (lv_room hsum) hd hroom) hS (z_zA C hR hD hS)
    (fun E G' H1 locs1 ws' q' ce hp hR' hP' hD' hS' hq hv hcl => kx E G' hp H1 locs1 ls ws' q' ce hR' hP' hD' hS' hL hq hv hcl)
    (fun v G' H1 locs1 ws' hp hR' hP' hD' hS' => kk v G' hp H1 locs1 ls ws' hR' hP' hD' hS' hL)
end ZXX
section ZXH
variable {p : Program} {l : Launch} {e : Env} {R : Room} {s : State} {m : MethodId} {args : Array Value} {below : List Frame} {meth : Method} {c : Code} {Q : State → Prop} {A : Nat → Prop} {nL : Nat} {Γ : zY} {G G0 : zG} {k n pc mc ms : Nat} {lv : List (Option Value)} {st : List Value} {cc : ByteArray} {own : String} {post : Option Value → zG → Prop} {px : String → zG → Prop}
theorem z_throwW (C : zC p s m args meth c cc own nL Γ A) (F : zFX post px Γ G0 Q A below args s mc ms) (hT : ∀ x ∈ c.exceptionTable.toList, False) (hl : l.stackTraces = false) {cls text : String} {names : List String} {ik is ic : Nat} (hw : zThrow own cls text names ik is ic)
    (d0 : decode cc pc = .ok (.new ik, 3)) (d3 : decode cc (pc + 3) = .ok (.dup, 1)) (d4 : decode cc (pc + 4) = .ok (.ldc_w is, 3)) (d7 : decode cc (pc + 7) = .ok (.invokespecial ic, 3)) (d10 : decode cc (pc + 10) = .ok (.athrow, 1))
    (hfr : names.length + 3 < R.frames) (hlo : (st.map fun v => v.category).sum + (13 * (names.length + 1) + 43) ≤ R.locals) (hk : k + 1 ≤ R.cells) (hn : n + 6 ≤ R.slots) (hc : k + 1 ≤ mc) (hs : n + 6 ≤ ms) (hp : px cls G) :
    Z p l e R s m args below meth c Q nL Γ A G k n pc lv st := by
  obtain ⟨rfl, rfl⟩ := F
  obtain ⟨w1, w2, w3, w4, w5, w6⟩ := hw
  intro H locs ls ws hR hP hD hS hL
  obtain ⟨sa, hsa⟩ := C.2.2.2.2.2.2.2.2.2.2.1 _ w4
  have hall : ∀ w ∈ Cond.classLink own ik cls :: Cond.initialized cls :: vx_atS own ic cls names, w.before args s = true := by
    intro w hw
    by_cases g : goodWord w = true
    · exact C.2.2.2.2.1 _ (w5 w (List.mem_filter.mpr ⟨hw, g⟩))
    · have h1 := w6 w (List.mem_filter.mpr ⟨hw, by simpa using g⟩)
      have h2 := lw_nest_ok w h1
      have h3 := C.2.2.2.2.2.2.2.2.2.1 w h1
      cases w <;> first | exact va_Nw.use rfl h3 | (cases h2; done)
  refine vx_throwSW C.1 C.2.1 hl C.2.2.2.1 w1 w2 (hall _ List.mem_cons_self) (hall _ (List.mem_cons_of_mem _ List.mem_cons_self)) hsa (fun w h => hall w (List.mem_cons_of_mem _ (List.mem_cons_of_mem _ h))) w3
    C.2.2.2.2.2.2.2.2.1.2.2.2.2.1 C.2.2.2.2.2.2.2.2.1.2.2.2.2.2 hS (hL.1.trans C.2.2.1.symm) d0 d3 d4 d7 d10 (fun x hx => (hT x hx).elim) hfr hlo hk hn C.2.2.2.2.2.2.1 ?_ hS.2.2 hc hs
  intro t hA hz hkp
  refine ⟨⟨G, ws, hp, hR, hP.kept (fun k0 q0 hk0 => hkp q0.1 (hP k0 q0 hk0).lt), hD⟩, Nat.le_trans hS.1 hz, fun q h1 h2 => ?_⟩
  rw [hkp q (Nat.lt_of_lt_of_le h1 hS.1)]
  exact hS.2.1 q h1 h2
/-- a method with a table of its own, that returns -/
def ZH (l : Launch) (y : MethodName) (cb : ByteArray) (n : Nat) (ret : Option FieldType) (hh : List (Nat × Nat × Nat × Nat)) (rm : Room) (Γ : zY) (av : List Value) (G : zG) (post : Option Value → zG → Prop) : Prop :=
  ∀ sz : Nat, vx_Met l y (Cond.codeWith y cb n ret hh :: lw_all) rm (va_Pc av (zB Γ G sz)) (zQ post Γ G sz) (zXC (fun _ _ => False) Γ G sz) rm.cells rm.slots (zA G sz)
theorem z_startH {l : Launch} {y : MethodName} {cb : ByteArray} {n : Nat} {ret : Option FieldType} {hh : List (Nat × Nat × Nat × Nat)} {rm : Room} {Γ : zY} {av : List Value} {G : zG} {post : Option Value → zG → Prop} (hy : plainName y.cls = true) (lv0 : List (Option Value)) (hlv : zp 0 lv0 = lv_args 0 av) (hlen : (lg_sl av).length ≤ n)
    (kk : ∀ (p : Program) (e : Env) (s : State) (m : MethodId) (args : Array Value) (below : List Frame) (meth : Method) (c : Code) (Q : State → Prop) (A : Nat → Prop), zC p s m args meth c cb y.cls n Γ A → zFX post (fun _ _ => False) Γ G Q A below args s rm.cells rm.slots → c.exceptionTable.toList = tableOf hh → meth.sig.returnType = ret → meth.name = y.name →
      Z p l e rm s m args below meth c Q n Γ A G 0 0 0 lv0 []) : ZH l y cb n ret hh rm Γ av G post := by
  intro sz
  refine vx_ofWH (cc := cb) (maxL := n) (ret := ret) (hh := hh) hy rfl ?_
  intro p e s m args below meth c s₁ B hml hv
  obtain ⟨rfl, rfl, ⟨ws, hR, hP, hD⟩, hK, hE, hN⟩ := hv
  have hts := atoms_spec (ws := Cond.codeWith y cb n ret hh :: lw_all) B.pre
  have ht := vx_table (x := y) B (hts _ List.mem_cons_self)
  have hl := lv_entry av (n := n) hlen
  rw [lg_entry_eq]
  generalize (lg_sl av ++ List.replicate (n - (lg_sl av).length) Slot.unset).toArray = ls at hl ⊢
  exact kk p e s m av.toArray below meth c _ (zA G s.heap.size) ⟨B.exec, B.bytes, hml, findClass_of_methodNamed B.named, fun w h => hts w (List.mem_cons_of_mem _ h), hK, B.notSynchronized, fun q h => Or.inr h, hE, hN⟩ ⟨rfl, rfl⟩ ht B.returns (name_of_methodNamed B.named B.method).1
    s.heap [] ls ws hR hP (hD.weaken (fun k q hk _ => Or.inl ⟨q.2, (hR q.1 q.2).mpr (List.mem_of_getElem? hk)⟩)) va_S.rf (by unfold zL; rw [hlv]; exact hl)
/-- caught by the first row of the table -/
theorem z_catch (C : zC p s m args meth c cc own nL Γ A) {E name : String} {x : Nat × Nat × Nat × Nat} {suf : List (Nat × Nat × Nat × Nat)} (hT : c.exceptionTable.toList = tableOf (x :: suf)) (hx : covers ⟨x.1, x.2.1, x.2.2.1, x.2.2.2⟩ pc = true) (h0 : x.2.2.2 ≠ 0) (hw : Cond.classLink own x.2.2.2 name ∈ lw_all) (hcast : Cond.castable E name ∈ lw_nest) {tgt : Nat} (ht : x.2.2.1 = tgt)
    (kk : ∀ q : Nat, Z p l e R s m args below meth c Q nL Γ A G k n tgt lv [.ref q]) : ZT p l e R s m args below meth c Q nL Γ A G k n pc lv st E := by
  subst ht
  intro H locs ls ws q ce hR hP hD hS hL hq hv hcl
  exact vx_catch (C.2.2.2.1) [] ⟨x.1, x.2.1, x.2.2.1, x.2.2.2⟩ (tableOf suf) hT (fun z hz => nomatch hz) hx h0 (C.2.2.2.2.1 _ hw) (va_Nw.use rfl (C.2.2.2.2.2.2.2.2.2.1 _ hcast)) hq hv hcl (kk q H locs ls ws hR hP hD hS hL)
theorem z_callSH (C : zC p s m args meth c cc own nL Γ A) {y : MethodName} {cb : ByteArray} {mL ix : Nat} {ret : Option FieldType} {hh : List (Nat × Nat × Nat × Nat)} {rm : Room} {As : List Value} {post : Option Value → zG → Prop} {stk : List Value} (hM : ZH l y cb mL ret hh rm Γ As G post)
    (hw : ∀ w ∈ ([Cond.methodLink own ix y, Cond.static y, Cond.initialized y.cls, Cond.codeWith y cb mL ret hh] : List Cond), w ∈ lw_all) (hst : stk = As.reverse ++ st)
    {nA : Nat} (hA : As.length = nA) (hy : y.cls ≠ "java/lang/invoke/MethodHandle" ∧ y.cls ≠ "java/lang/invoke/VarHandle" ∧ (parseMethodDescriptor y.desc).map (fun d => d.parameters.length) = some nA) (hrm : rm.frames + 1 ≤ R.frames ∧ 8 + (mL + 11) + rm.locals ≤ R.locals) (hsum : (st.map fun v => v.category).sum ≤ 8) (hroom : k + rm.cells ≤ R.cells ∧ n + rm.slots ≤ R.slots) (hd : decode cc pc = .ok (.invokestatic ix, 3))
    (kk : ∀ v G', post v G' → Z p l e R s m args below meth c Q nL Γ A G' (k + rm.cells) (n + rm.slots) (pc + 3) lv (v.toList ++ st)) : Z p l e R s m args below meth c Q nL Γ A G k n pc lv stk := by
  intro H locs ls ws hR hP hD hS hL
  have g : GoodIn lw_all (va_wsS own ix y (Cond.codeWith y cb mL ret hh :: lw_all)) := by
    intro w h
    unfold va_wsS at h
    rcases List.mem_append.mp h with h | h
    · exact z_goods hw w (by simp only [List.mem_cons, List.not_mem_nil, or_false] at h ⊢; rcases h with h | h | h <;> simp [h])
    · rcases List.mem_cons.mp h with h | h
      · exact z_goods hw w (by simp [h])
      · exact z_good w h
  exact z_backX (vx_runSX (hh := hh) (As := As) (rest := st) ⟨C.1, C.2.1, C.2.2.1, C.2.2.2.1, C.2.2.2.2.1⟩ (hM H.size) (vx_cwSW nA C.2.2.2.2.1 g rfl rfl rfl hy hrm) ⟨zB.blind, z_pre C hR hP hD hS⟩ rfl hA hL.1 hst (lv_room hsum) hd hroom) hS (z_zA C hR hD hS)
    (fun E G' H1 locs1 ws' q' ce hp => hp.elim)
    (fun v G' H1 locs1 ws' hp hR' hP' hD' hS' => kk v G' hp H1 locs1 ls ws' hR' hP' hD' hS' hL)
end ZXH
/-! OWN ROWS, fifth part: arrays of booleans, longs and doubles (the law's and the reference's) -/
abbrev zZ (Γ : zY) (n : Nat) (f : Nat → Int32) : va_E := .inl (Γ.2.1 2, n, .inl f)
abbrev zJ (Γ : zY) (n : Nat) (f : Nat → Int64) : va_E := .inl (Γ.2.1 3, n, .inr (.inl f))
abbrev zDb (Γ : zY) (n : Nat) (f : Nat → UInt64) : va_E := .inl (Γ.2.1 4, n, .inr (.inr (.inr (.inl f))))
section ZQ
variable {p : Program} {l : Launch} {e : Env} {R : Room} {s : State} {m : MethodId} {args : Array Value} {below : List Frame} {meth : Method} {c : Code} {Q : State → Prop} {nL : Nat} {Γ : zY} {A : Nat → Prop} {G : zG} {k n pc : Nat} {lv : List (Option Value)} {st : List Value} {cc : ByteArray} {own : String}
theorem z_zald (C : zC p s m args meth c cc own nL Γ A) {a N : Nat} {f : Nat → Int32} (hG : G a = some (zZ Γ N f)) {i : Int32} (hi : vp_in i N) (hd : decode cc pc = .ok (.baload, 1))
    (kk : Z p l e R s m args below meth c Q nL Γ A G k n (pc + 1) lv (.int (f i.toNatClampNeg) :: st)) : Z p l e R s m args below meth c Q nL Γ A G k n pc lv (.int i :: .ref a :: st) := by
  intro H locs ls ws hR hP hD hS hL
  obtain ⟨k0, hk0⟩ := hR.mem hG
  exact va_zald C.1 C.2.1 C.2.2.2.2.2.1 hP k0 2 hk0 rfl hi hd (kk H locs ls ws hR hP hD hS hL)
theorem z_zast (C : zC p s m args meth c cc own nL Γ A) {a N : Nat} {f : Nat → Int32} (hG : G a = some (zZ Γ N f)) {i x : Int32} (hi : vp_in i N) (hd : decode cc pc = .ok (.bastore, 1))
    (kk : Z p l e R s m args below meth c Q nL Γ A (zU G a (zZ Γ N (upd f i.toNatClampNeg (vp_nar .boolean x)))) k n (pc + 1) lv st) : Z p l e R s m args below meth c Q nL Γ A G k n pc lv (.int x :: .int i :: .ref a :: st) := by
  intro H locs ls ws hR hP hD hS hL
  obtain ⟨k0, hk0⟩ := hR.mem hG
  exact va_zast C.1 C.2.1 C.2.2.2.2.2.1 hP hD hS k0 2 hk0 rfl hi hd (fun H1 locs1 hP1 hD1 hS1 => kk H1 locs1 ls _ (hR.set hD hk0) hP1 hD1 hS1 hL)
theorem z_lald (C : zC p s m args meth c cc own nL Γ A) {a N : Nat} {f : Nat → Int64} (hG : G a = some (zJ Γ N f)) {i : Int32} (hi : vp_in i N) (hd : decode cc pc = .ok (.laload, 1))
    (kk : Z p l e R s m args below meth c Q nL Γ A G k n (pc + 1) lv (.long (f i.toNatClampNeg) :: st)) : Z p l e R s m args below meth c Q nL Γ A G k n pc lv (.int i :: .ref a :: st) := by
  intro H locs ls ws hR hP hD hS hL
  obtain ⟨k0, hk0⟩ := hR.mem hG
  exact va_lald C.1 C.2.1 C.2.2.2.2.2.1 hP k0 3 hk0 rfl hi hd (kk H locs ls ws hR hP hD hS hL)
theorem z_last (C : zC p s m args meth c cc own nL Γ A) {a N : Nat} {f : Nat → Int64} (hG : G a = some (zJ Γ N f)) {i : Int32} {x : Int64} (hi : vp_in i N) (hd : decode cc pc = .ok (.lastore, 1))
    (kk : Z p l e R s m args below meth c Q nL Γ A (zU G a (zJ Γ N (vp_updL f i.toNatClampNeg x))) k n (pc + 1) lv st) : Z p l e R s m args below meth c Q nL Γ A G k n pc lv (.long x :: .int i :: .ref a :: st) := by
  intro H locs ls ws hR hP hD hS hL
  obtain ⟨k0, hk0⟩ := hR.mem hG
  exact va_last C.1 C.2.1 C.2.2.2.2.2.1 hP hD hS k0 3 hk0 rfl hi hd (fun H1 locs1 hP1 hD1 hS1 => kk H1 locs1 ls _ (hR.set hD hk0) hP1 hD1 hS1 hL)
theorem z_dald (C : zC p s m args meth c cc own nL Γ A) {a N : Nat} {f : Nat → UInt64} (hG : G a = some (zDb Γ N f)) {i : Int32} (hi : vp_in i N) (hd : decode cc pc = .ok (.daload, 1))
    (kk : Z p l e R s m args below meth c Q nL Γ A G k n (pc + 1) lv (.double (f i.toNatClampNeg) :: st)) : Z p l e R s m args below meth c Q nL Γ A G k n pc lv (.int i :: .ref a :: st) := by
  intro H locs ls ws hR hP hD hS hL
  obtain ⟨k0, hk0⟩ := hR.mem hG
  exact va_dald C.1 C.2.1 C.2.2.2.2.2.1 hP k0 4 hk0 rfl hi hd (kk H locs ls ws hR hP hD hS hL)
theorem z_dast (C : zC p s m args meth c cc own nL Γ A) {a N : Nat} {f : Nat → UInt64} (hG : G a = some (zDb Γ N f)) {i : Int32} {x : UInt64} (hi : vp_in i N) (hd : decode cc pc = .ok (.dastore, 1))
    (kk : Z p l e R s m args below meth c Q nL Γ A (zU G a (zDb Γ N (vf_upd f i.toNatClampNeg x))) k n (pc + 1) lv st) : Z p l e R s m args below meth c Q nL Γ A G k n pc lv (.double x :: .int i :: .ref a :: st) := by
  intro H locs ls ws hR hP hD hS hL
  obtain ⟨k0, hk0⟩ := hR.mem hG
  exact va_dast C.1 C.2.1 C.2.2.2.2.2.1 hP hD hS k0 4 hk0 rfl hi hd (fun H1 locs1 hP1 hD1 hS1 => kk H1 locs1 ls _ (hR.set hD hk0) hP1 hD1 hS1 hL)
theorem z_newz (C : zC p s m args meth c cc own nL Γ A) {x : Int32} {N : Nat} (hw : Cond.arrayClass .boolean ∈ lw_all) (hx : ¬ x < 0) (hN : x.toNatClampNeg = N) (hb : N * 1 ≤ 536870912) (hk : k + 1 ≤ R.cells) (hn : n + N ≤ R.slots) (hd : decode cc pc = .ok (.newarray .boolean, 2))
    (kk : ∀ a, G a = none → Z p l e R s m args below meth c Q nL Γ A (zU G a (zZ Γ N (fun _ => 0))) (k + 1) (n + N) (pc + 2) lv (.ref a :: st)) : Z p l e R s m args below meth c Q nL Γ A G k n pc lv (.int x :: st) := by
  intro H locs ls ws hR hP hD hS hL
  refine va_newa (atype := .boolean) (ty := .boolean) (a0 := (N, .inl (fun _ => 0))) C.1 C.2.1 (C.2.2.2.2.1 _ hw) rfl C.2.2.2.2.2.1 hP hD hS C.2.2.2.2.2.2.2.1 (fun _ => rfl) hx hN hb hk hn hd (fun a cA H1 hK1 hP1 hD1 hS1 => ?_)
  have e1 := (C.2.2.2.2.2.1.2 2 _ (rfl : (zT Γ.2.1)[2]? = some (Γ.2.1 2, .boolean))).2
  have e2 := (hK1.2 (zT Γ.2.1).length (cA, .boolean) (by rw [List.getElem?_append_right (Nat.le_refl _), Nat.sub_self]; rfl)).2
  have e3 : cA = Γ.2.1 2 := Option.some.inj ((show s.vm.findClass ("[" ++ FieldType.boolean.toString) = some cA from e2).symm.trans (show s.vm.findClass ("[" ++ FieldType.boolean.toString) = some (Γ.2.1 2) from e1))
  subst e3
  exact kk a (hR.fresh hD1) H1 locs ls _ (hR.push (hR.fresh hD1)) hP1 hD1 hS1 hL
theorem z_newj (C : zC p s m args meth c cc own nL Γ A) {x : Int32} {N : Nat} (hw : Cond.arrayClass .long ∈ lw_all) (hx : ¬ x < 0) (hN : x.toNatClampNeg = N) (hb : N * 8 ≤ 536870912) (hk : k + 1 ≤ R.cells) (hn : n + N ≤ R.slots) (hd : decode cc pc = .ok (.newarray .long, 2))
    (kk : ∀ a, G a = none → Z p l e R s m args below meth c Q nL Γ A (zU G a (zJ Γ N (fun _ => 0))) (k + 1) (n + N) (pc + 2) lv (.ref a :: st)) : Z p l e R s m args below meth c Q nL Γ A G k n pc lv (.int x :: st) := by
  intro H locs ls ws hR hP hD hS hL
  refine va_newa (atype := .long) (ty := .long) (a0 := (N, .inr (.inl (fun _ => 0)))) C.1 C.2.1 (C.2.2.2.2.1 _ hw) rfl C.2.2.2.2.2.1 hP hD hS C.2.2.2.2.2.2.2.1 (fun _ => rfl) hx hN hb hk hn hd (fun a cA H1 hK1 hP1 hD1 hS1 => ?_)
  have e1 := (C.2.2.2.2.2.1.2 3 _ (rfl : (zT Γ.2.1)[3]? = some (Γ.2.1 3, .long))).2
  have e2 := (hK1.2 (zT Γ.2.1).length (cA, .long) (by rw [List.getElem?_append_right (Nat.le_refl _), Nat.sub_self]; rfl)).2
  have e3 : cA = Γ.2.1 3 := Option.some.inj ((show s.vm.findClass ("[" ++ FieldType.long.toString) = some cA from e2).symm.trans (show s.vm.findClass ("[" ++ FieldType.long.toString) = some (Γ.2.1 3) from e1))
  subst e3
  exact kk a (hR.fresh hD1) H1 locs ls _ (hR.push (hR.fresh hD1)) hP1 hD1 hS1 hL
theorem z_newd (C : zC p s m args meth c cc own nL Γ A) {x : Int32} {N : Nat} (hw : Cond.arrayClass .double ∈ lw_all) (hx : ¬ x < 0) (hN : x.toNatClampNeg = N) (hb : N * 8 ≤ 536870912) (hk : k + 1 ≤ R.cells) (hn : n + N ≤ R.slots) (hd : decode cc pc = .ok (.newarray .double, 2))
    (kk : ∀ a, G a = none → Z p l e R s m args below meth c Q nL Γ A (zU G a (zDb Γ N (fun _ => 0))) (k + 1) (n + N) (pc + 2) lv (.ref a :: st)) : Z p l e R s m args below meth c Q nL Γ A G k n pc lv (.int x :: st) := by
  intro H locs ls ws hR hP hD hS hL
  refine va_newa (atype := .double) (ty := .double) (a0 := (N, .inr (.inr (.inr (.inl (fun _ => 0)))))) C.1 C.2.1 (C.2.2.2.2.1 _ hw) rfl C.2.2.2.2.2.1 hP hD hS C.2.2.2.2.2.2.2.1 (fun _ => rfl) hx hN hb hk hn hd (fun a cA H1 hK1 hP1 hD1 hS1 => ?_)
  have e1 := (C.2.2.2.2.2.1.2 4 _ (rfl : (zT Γ.2.1)[4]? = some (Γ.2.1 4, .double))).2
  have e2 := (hK1.2 (zT Γ.2.1).length (cA, .double) (by rw [List.getElem?_append_right (Nat.le_refl _), Nat.sub_self]; rfl)).2
  have e3 : cA = Γ.2.1 4 := Option.some.inj ((show s.vm.findClass ("[" ++ FieldType.double.toString) = some cA from e2).symm.trans (show s.vm.findClass ("[" ++ FieldType.double.toString) = some (Γ.2.1 4) from e1))
  subst e3
  exact kk a (hR.fresh hD1) H1 locs ls _ (hR.push (hR.fresh hD1)) hP1 hD1 hS1 hL
theorem z_tabIn (C : zC p s m args meth c cc own nL Γ A) {x : Int32} {df lo hi of : Int} {len tgt : Nat} {os : Array Int} (hd : decode cc pc = .ok (.tableswitch df lo hi os, len)) (h1 : lo ≤ x.toInt) (h2 : x.toInt ≤ hi) (ho : os[(x.toInt - lo).toNat]? = some of) (ht : (pc : Int) + of = tgt)
    (kk : Z p l e R s m args below meth c Q nL Γ A G k n tgt lv st) : Z p l e R s m args below meth c Q nL Γ A G k n pc lv (.int x :: st) :=
  fun H locs ls ws hR hP hD hS hL => lv_tableIn C.1 C.2.1 hd (Int.not_lt.mpr h1) (Int.not_lt.mpr h2) ho ht (kk H locs ls ws hR hP hD hS hL)
theorem z_tabOut (C : zC p s m args meth c cc own nL Γ A) {x : Int32} {df lo hi : Int} {len tgt : Nat} {os : Array Int} (hd : decode cc pc = .ok (.tableswitch df lo hi os, len)) (h : x.toInt < lo ∨ hi < x.toInt) (ht : (pc : Int) + df = tgt)
    (kk : Z p l e R s m args below meth c Q nL Γ A G k n tgt lv st) : Z p l e R s m args below meth c Q nL Γ A G k n pc lv (.int x :: st) :=
  fun H locs ls ws hR hP hD hS hL => lv_tableOut C.1 C.2.1 hd h ht (kk H locs ls ws hR hP hD hS hL)
theorem z_dconst0 (C : zC p s m args meth c cc own nL Γ A) (hd : decode cc pc = .ok (.dconst 0, 1)) (kk : Z p l e R s m args below meth c Q nL Γ A G k n (pc + 1) lv (.double FP.dconst0 :: st)) : Z p l e R s m args below meth c Q nL Γ A G k n pc lv st :=
  fun H locs ls ws hR hP hD hS hL => lv_dconst0 C.1 C.2.1 hd (kk H locs ls ws hR hP hD hS hL)
end ZQ
end
section
theorem dX4_wayTo_0 : decode cX4_wayTo 0 = .ok (.ldc2_w 19, 3) := by decide +kernel
theorem dX4_wayTo_3 : decode cX4_wayTo 3 = .ok (.iload_n 1, 1) := by decide +kernel
theorem dX4_wayTo_4 : decode cX4_wayTo 4 = .ok (.aload_n 0, 1) := by decide +kernel
theorem dX4_wayTo_5 : decode cX4_wayTo 5 = .ok (.getfield 13, 3) := by decide +kernel
theorem dX4_wayTo_8 : decode cX4_wayTo 8 = .ok (.isub, 1) := by decide +kernel
theorem dX4_wayTo_9 : decode cX4_wayTo 9 = .ok (.invokestatic 21, 3) := by decide +kernel
theorem dX4_wayTo_12 : decode cX4_wayTo 12 = .ok (.i2l, 1) := by decide +kernel
theorem dX4_wayTo_13 : decode cX4_wayTo 13 = .ok (.lmul, 1) := by decide +kernel
theorem dX4_wayTo_14 : decode cX4_wayTo 14 = .ok (.lstore 4, 2) := by decide +kernel
theorem dX4_wayTo_16 : decode cX4_wayTo 16 = .ok (.ldc2_w 19, 3) := by decide +kernel
theorem dX4_wayTo_19 : decode cX4_wayTo 19 = .ok (.iload_n 2, 1) := by decide +kernel
theorem dX4_wayTo_20 : decode cX4_wayTo 20 = .ok (.aload_n 0, 1) := by decide +kernel
theorem dX4_wayTo_21 : decode cX4_wayTo 21 = .ok (.getfield 16, 3) := by decide +kernel
theorem dX4_wayTo_24 : decode cX4_wayTo 24 = .ok (.isub, 1) := by decide +kernel
theorem dX4_wayTo_25 : decode cX4_wayTo 25 = .ok (.invokestatic 21, 3) := by decide +kernel
theorem dX4_wayTo_28 : decode cX4_wayTo 28 = .ok (.i2l, 1) := by decide +kernel
theorem dX4_wayTo_29 : decode cX4_wayTo 29 = .ok (.lmul, 1) := by decide +kernel
theorem dX4_wayTo_30 : decode cX4_wayTo 30 = .ok (.lstore 6, 2) := by decide +kernel
theorem dX4_wayTo_32 : decode cX4_wayTo 32 = .ok (.ldc2_w 19, 3) := by decide +kernel
theorem dX4_wayTo_35 : decode cX4_wayTo 35 = .ok (.iload_n 3, 1) := by decide +kernel
theorem dX4_wayTo_36 : decode cX4_wayTo 36 = .ok (.invokestatic 21, 3) := by decide +kernel
theorem dX4_wayTo_39 : decode cX4_wayTo 39 = .ok (.i2l, 1) := by decide +kernel
theorem dX4_wayTo_40 : decode cX4_wayTo 40 = .ok (.lmul, 1) := by decide +kernel
theorem dX4_wayTo_41 : decode cX4_wayTo 41 = .ok (.lstore 8, 2) := by decide +kernel
theorem dX4_wayTo_43 : decode cX4_wayTo 43 = .ok (.lload 4, 2) := by decide +kernel
theorem dX4_wayTo_45 : decode cX4_wayTo 45 = .ok (.lload 4, 2) := by decide +kernel
theorem dX4_wayTo_47 : decode cX4_wayTo 47 = .ok (.lmul, 1) := by decide +kernel
theorem dX4_wayTo_48 : decode cX4_wayTo 48 = .ok (.lload 6, 2) := by decide +kernel
theorem dX4_wayTo_50 : decode cX4_wayTo 50 = .ok (.lload 6, 2) := by decide +kernel
theorem dX4_wayTo_52 : decode cX4_wayTo 52 = .ok (.lmul, 1) := by decide +kernel
theorem dX4_wayTo_53 : decode cX4_wayTo 53 = .ok (.ladd, 1) := by decide +kernel
theorem dX4_wayTo_54 : decode cX4_wayTo 54 = .ok (.lload 8, 2) := by decide +kernel
theorem dX4_wayTo_56 : decode cX4_wayTo 56 = .ok (.lload 8, 2) := by decide +kernel
theorem dX4_wayTo_58 : decode cX4_wayTo 58 = .ok (.lmul, 1) := by decide +kernel
theorem dX4_wayTo_59 : decode cX4_wayTo 59 = .ok (.ladd, 1) := by decide +kernel
theorem dX4_wayTo_60 : decode cX4_wayTo 60 = .ok (.lstore 10, 2) := by decide +kernel
theorem dX4_wayTo_62 : decode cX4_wayTo 62 = .ok (.lload 4, 2) := by decide +kernel
theorem dX4_wayTo_64 : decode cX4_wayTo 64 = .ok (.lload 6, 2) := by decide +kernel
theorem dX4_wayTo_66 : decode cX4_wayTo 66 = .ok (.ladd, 1) := by decide +kernel
theorem dX4_wayTo_67 : decode cX4_wayTo 67 = .ok (.lload 8, 2) := by decide +kernel
theorem dX4_wayTo_69 : decode cX4_wayTo 69 = .ok (.ladd, 1) := by decide +kernel
theorem dX4_wayTo_70 : decode cX4_wayTo 70 = .ok (.lstore 12, 2) := by decide +kernel
theorem dX4_wayTo_72 : decode cX4_wayTo 72 = .ok (.iconst 0, 1) := by decide +kernel
theorem dX4_wayTo_73 : decode cX4_wayTo 73 = .ok (.istore 14, 2) := by decide +kernel
theorem dX4_wayTo_75 : decode cX4_wayTo 75 = .ok (.iload 14, 2) := by decide +kernel
theorem dX4_wayTo_77 : decode cX4_wayTo 77 = .ok (.bipush 64, 2) := by decide +kernel
theorem dX4_wayTo_79 : decode cX4_wayTo 79 = .ok (.if_icmp .ge 45, 3) := by decide +kernel
theorem dX4_wayTo_82 : decode cX4_wayTo 82 = .ok (.lload 12, 2) := by decide +kernel
theorem dX4_wayTo_84 : decode cX4_wayTo 84 = .ok (.lconst 0, 1) := by decide +kernel
theorem dX4_wayTo_85 : decode cX4_wayTo 85 = .ok (.lcmp, 1) := by decide +kernel
theorem dX4_wayTo_86 : decode cX4_wayTo 86 = .ok (.ifCond .le 38, 3) := by decide +kernel
theorem dX4_wayTo_89 : decode cX4_wayTo 89 = .ok (.lload 12, 2) := by decide +kernel
theorem dX4_wayTo_91 : decode cX4_wayTo 91 = .ok (.lload 10, 2) := by decide +kernel
theorem dX4_wayTo_93 : decode cX4_wayTo 93 = .ok (.lload 12, 2) := by decide +kernel
theorem dX4_wayTo_95 : decode cX4_wayTo 95 = .ok (.ldiv, 1) := by decide +kernel
theorem dX4_wayTo_96 : decode cX4_wayTo 96 = .ok (.ladd, 1) := by decide +kernel
theorem dX4_wayTo_97 : decode cX4_wayTo 97 = .ok (.ldc2_w 27, 3) := by decide +kernel
theorem dX4_wayTo_100 : decode cX4_wayTo 100 = .ok (.ldiv, 1) := by decide +kernel
theorem dX4_wayTo_101 : decode cX4_wayTo 101 = .ok (.lstore 15, 2) := by decide +kernel
theorem dX4_wayTo_103 : decode cX4_wayTo 103 = .ok (.lload 15, 2) := by decide +kernel
theorem dX4_wayTo_105 : decode cX4_wayTo 105 = .ok (.lload 12, 2) := by decide +kernel
theorem dX4_wayTo_107 : decode cX4_wayTo 107 = .ok (.lcmp, 1) := by decide +kernel
theorem dX4_wayTo_108 : decode cX4_wayTo 108 = .ok (.ifCond .lt 6, 3) := by decide +kernel
theorem dX4_wayTo_111 : decode cX4_wayTo 111 = .ok (.goto 13, 3) := by decide +kernel
theorem dX4_wayTo_114 : decode cX4_wayTo 114 = .ok (.lload 15, 2) := by decide +kernel
theorem dX4_wayTo_116 : decode cX4_wayTo 116 = .ok (.lstore 12, 2) := by decide +kernel
theorem dX4_wayTo_118 : decode cX4_wayTo 118 = .ok (.iinc 14 1, 3) := by decide +kernel
theorem dX4_wayTo_121 : decode cX4_wayTo 121 = .ok (.goto (-46), 3) := by decide +kernel
theorem dX4_wayTo_124 : decode cX4_wayTo 124 = .ok (.lload 12, 2) := by decide +kernel
theorem dX4_wayTo_126 : decode cX4_wayTo 126 = .ok (.l2i, 1) := by decide +kernel
theorem dX4_wayTo_127 : decode cX4_wayTo 127 = .ok (.ireturn, 1) := by decide +kernel
theorem kw_642 : Cond.constantLong "QuakeBench$Station" 19 1000 ∈ lw_all := zin1 642 (by decide +kernel)
theorem kw_857 : Cond.fieldLink "QuakeBench$Station" 13 "QuakeBench$Station" "x" "I" ∈ lw_all := zin1 857 (by decide +kernel)
theorem km_X4_wayTo_9 : ∀ w ∈ ([Cond.methodLink "QuakeBench$Station" 21 yJ9_abs_0f7a4, Cond.static yJ9_abs_0f7a4, Cond.initialized "java/lang/Math", Cond.code yJ9_abs_0f7a4 prog_22_method_59_code 1 (Option.some Jvm.ClassFile.FieldType.int)] : List Cond), w ∈ lw_all := zin [643, 644, 69, 645] (by decide +kernel)
theorem kw_859 : Cond.fieldLink "QuakeBench$Station" 16 "QuakeBench$Station" "y" "I" ∈ lw_all := zin1 859 (by decide +kernel)
theorem km_X4_wayTo_25 : ∀ w ∈ ([Cond.methodLink "QuakeBench$Station" 21 yJ9_abs_0f7a4, Cond.static yJ9_abs_0f7a4, Cond.initialized "java/lang/Math", Cond.code yJ9_abs_0f7a4 prog_22_method_59_code 1 (Option.some Jvm.ClassFile.FieldType.int)] : List Cond), w ∈ lw_all := zin [643, 644, 69, 645] (by decide +kernel)
theorem km_X4_wayTo_36 : ∀ w ∈ ([Cond.methodLink "QuakeBench$Station" 21 yJ9_abs_0f7a4, Cond.static yJ9_abs_0f7a4, Cond.initialized "java/lang/Math", Cond.code yJ9_abs_0f7a4 prog_22_method_59_code 1 (Option.some Jvm.ClassFile.FieldType.int)] : List Cond), w ∈ lw_all := zin [643, 644, 69, 645] (by decide +kernel)
theorem kw_646 : Cond.constantLong "QuakeBench$Station" 27 2 ∈ lw_all := zin1 646 (by decide +kernel)
theorem dX5_travel_0 : decode cX5_travel 0 = .ok (.iload 5, 2) := by decide +kernel
theorem dX5_travel_2 : decode cX5_travel 2 = .ok (.ifCond .eq 10, 3) := by decide +kernel
theorem dX5_travel_5 : decode cX5_travel 5 = .ok (.aload_n 0, 1) := by decide +kernel
theorem dX5_travel_6 : decode cX5_travel 6 = .ok (.getfield 15, 3) := by decide +kernel
theorem dX5_travel_9 : decode cX5_travel 9 = .ok (.goto 7, 3) := by decide +kernel
theorem dX5_travel_12 : decode cX5_travel 12 = .ok (.aload_n 0, 1) := by decide +kernel
theorem dX5_travel_13 : decode cX5_travel 13 = .ok (.getfield 9, 3) := by decide +kernel
theorem dX5_travel_16 : decode cX5_travel 16 = .ok (.istore 6, 2) := by decide +kernel
theorem dX5_travel_18 : decode cX5_travel 18 = .ok (.iload 6, 2) := by decide +kernel
theorem dX5_travel_20 : decode cX5_travel 20 = .ok (.ifCond .le 26, 3) := by decide +kernel
theorem dX5_travel_23 : decode cX5_travel 23 = .ok (.aload_n 1, 1) := by decide +kernel
theorem dX5_travel_24 : decode cX5_travel 24 = .ok (.iload_n 2, 1) := by decide +kernel
theorem dX5_travel_25 : decode cX5_travel 25 = .ok (.iload_n 3, 1) := by decide +kernel
theorem dX5_travel_26 : decode cX5_travel 26 = .ok (.iload 4, 2) := by decide +kernel
theorem dX5_travel_28 : decode cX5_travel 28 = .ok (.invokevirtual 18, 3) := by decide +kernel
theorem dX5_travel_31 : decode cX5_travel 31 = .ok (.sipush 1000, 3) := by decide +kernel
theorem dX5_travel_34 : decode cX5_travel 34 = .ok (.imul, 1) := by decide +kernel
theorem dX5_travel_35 : decode cX5_travel 35 = .ok (.iload 6, 2) := by decide +kernel
theorem dX5_travel_37 : decode cX5_travel 37 = .ok (.idiv, 1) := by decide +kernel
theorem dX5_travel_38 : decode cX5_travel 38 = .ok (.aload_n 1, 1) := by decide +kernel
theorem dX5_travel_39 : decode cX5_travel 39 = .ok (.getfield 24, 3) := by decide +kernel
theorem dX5_travel_42 : decode cX5_travel 42 = .ok (.iadd, 1) := by decide +kernel
theorem dX5_travel_43 : decode cX5_travel 43 = .ok (.goto 7, 3) := by decide +kernel
theorem dX5_travel_46 : decode cX5_travel 46 = .ok (.aload_n 1, 1) := by decide +kernel
theorem dX5_travel_47 : decode cX5_travel 47 = .ok (.getfield 24, 3) := by decide +kernel
theorem dX5_travel_50 : decode cX5_travel 50 = .ok (.ireturn, 1) := by decide +kernel
theorem kw_861 : Cond.fieldLink "QuakeBench$Waves" 24 "QuakeBench$Station" "delay" "I" ∈ lw_all := zin1 861 (by decide +kernel)
theorem ky_X4_wayTo : yX4_wayTo.cls ≠ "java/lang/invoke/MethodHandle" ∧ yX4_wayTo.cls ≠ "java/lang/invoke/VarHandle" ∧ (parseMethodDescriptor yX4_wayTo.desc).map (fun d => d.parameters.length) = some 3 := by decide +kernel
theorem kc_X5_travel_28 : ∀ w ∈ ([Cond.methodLink "QuakeBench$Waves" 18 yX4_wayTo, Cond.instanceMethod yX4_wayTo, Cond.selects "QuakeBench$Station" yX4_wayTo yX4_wayTo, Cond.initialized "QuakeBench$Station", Cond.code yX4_wayTo prog_6_method_2_code 17 (Option.some Jvm.ClassFile.FieldType.int)] : List Cond), w ∈ lw_all := zin [638, 639, 640, 67, 641] (by decide +kernel)
theorem kw_124 : Cond.fieldLink "QuakeBench$Waves" 9 "QuakeBench$Waves" "speedOfP" "I" ∈ lw_all := zin1 124 (by decide +kernel)
theorem kw_126 : Cond.fieldLink "QuakeBench$Waves" 15 "QuakeBench$Waves" "speedOfS" "I" ∈ lw_all := zin1 126 (by decide +kernel)
theorem dX5_lateness_0 : decode cX5_lateness 0 = .ok (.aload_n 1, 1) := by decide +kernel
theorem dX5_lateness_1 : decode cX5_lateness 1 = .ok (.getfield 27, 3) := by decide +kernel
theorem dX5_lateness_4 : decode cX5_lateness 4 = .ok (.aload_n 0, 1) := by decide +kernel
theorem dX5_lateness_5 : decode cX5_lateness 5 = .ok (.aload_n 1, 1) := by decide +kernel
theorem dX5_lateness_6 : decode cX5_lateness 6 = .ok (.getfield 32, 3) := by decide +kernel
theorem dX5_lateness_9 : decode cX5_lateness 9 = .ok (.aload_n 2, 1) := by decide +kernel
theorem dX5_lateness_10 : decode cX5_lateness 10 = .ok (.getfield 36, 3) := by decide +kernel
theorem dX5_lateness_13 : decode cX5_lateness 13 = .ok (.aload_n 2, 1) := by decide +kernel
theorem dX5_lateness_14 : decode cX5_lateness 14 = .ok (.getfield 41, 3) := by decide +kernel
theorem dX5_lateness_17 : decode cX5_lateness 17 = .ok (.aload_n 2, 1) := by decide +kernel
theorem dX5_lateness_18 : decode cX5_lateness 18 = .ok (.getfield 44, 3) := by decide +kernel
theorem dX5_lateness_21 : decode cX5_lateness 21 = .ok (.aload_n 1, 1) := by decide +kernel
theorem dX5_lateness_22 : decode cX5_lateness 22 = .ok (.getfield 47, 3) := by decide +kernel
theorem dX5_lateness_25 : decode cX5_lateness 25 = .ok (.invokevirtual 51, 3) := by decide +kernel
theorem dX5_lateness_28 : decode cX5_lateness 28 = .ok (.isub, 1) := by decide +kernel
theorem dX5_lateness_29 : decode cX5_lateness 29 = .ok (.aload_n 2, 1) := by decide +kernel
theorem dX5_lateness_30 : decode cX5_lateness 30 = .ok (.getfield 55, 3) := by decide +kernel
theorem dX5_lateness_33 : decode cX5_lateness 33 = .ok (.isub, 1) := by decide +kernel
theorem dX5_lateness_34 : decode cX5_lateness 34 = .ok (.ireturn, 1) := by decide +kernel
theorem kw_948 : Cond.fieldLink "QuakeBench$Waves" 27 "QuakeBench$Pick" "time" "I" ∈ lw_all := zin1 948 (by decide +kernel)
theorem kw_938 : Cond.fieldLink "QuakeBench$Waves" 32 "QuakeBench$Pick" "station" "LQuakeBench$Station;" ∈ lw_all := zin1 938 (by decide +kernel)
theorem kw_694 : Cond.fieldLink "QuakeBench$Waves" 36 "QuakeBench$Event" "x" "I" ∈ lw_all := zin1 694 (by decide +kernel)
theorem kw_698 : Cond.fieldLink "QuakeBench$Waves" 41 "QuakeBench$Event" "y" "I" ∈ lw_all := zin1 698 (by decide +kernel)
theorem kw_702 : Cond.fieldLink "QuakeBench$Waves" 44 "QuakeBench$Event" "z" "I" ∈ lw_all := zin1 702 (by decide +kernel)
theorem kw_943 : Cond.fieldLink "QuakeBench$Waves" 47 "QuakeBench$Pick" "isS" "Z" ∈ lw_all := zin1 943 (by decide +kernel)
theorem ky_X5_travel : yX5_travel.cls ≠ "java/lang/invoke/MethodHandle" ∧ yX5_travel.cls ≠ "java/lang/invoke/VarHandle" ∧ (parseMethodDescriptor yX5_travel.desc).map (fun d => d.parameters.length) = some 5 := by decide +kernel
theorem kc_X5_lateness_25 : ∀ w ∈ ([Cond.methodLink "QuakeBench$Waves" 51 yX5_travel, Cond.instanceMethod yX5_travel, Cond.selects "QuakeBench$Waves" yX5_travel yX5_travel, Cond.initialized "QuakeBench$Waves", Cond.code yX5_travel prog_7_method_2_code 7 (Option.some Jvm.ClassFile.FieldType.int)] : List Cond), w ∈ lw_all := zin [634, 635, 636, 58, 637] (by decide +kernel)
theorem kw_706 : Cond.fieldLink "QuakeBench$Waves" 55 "QuakeBench$Event" "time" "I" ∈ lw_all := zin1 706 (by decide +kernel)
/-! leaves: what an object holds; Station, Waves, bearings, digits, places, relations -/
abbrev oQB (s p e w r q lo co : Nat) : va_E := .inr (0, [.ref s, .ref p, .ref e, .ref w, .ref r, .ref q, .ref lo, .ref co])
abbrev oEv (n : Int32) (ml : Nat) (fo x y z t lb : Int32) : va_E := .inr (1, [.int n, .ref ml, .int fo, .int x, .int y, .int z, .int t, .int lb])
abbrev oPk (n : Int32) (st : Nat) (iS t w am : Int32) (ev : Option Nat) : va_E := .inr (2, [.int n, .ref st, .int iS, .int t, .int w, .int am, va_rf ev])
abbrev oRow (na wa : Nat) (sz tot : Int32) : va_E := .inr (3, [.ref na, .ref wa, .int sz, .int tot])
abbrev oSea (wv ro : Nat) (hb bx by' bz bb : Int32) (lm : Int64) : va_E := .inr (4, [.ref wv, .ref ro, .int hb, .int bx, .int by', .int bz, .int bb, .long lm])
abbrev oSta (n x y d : Int32) : va_E := .inr (5, [.int n, .int x, .int y, .int d])
abbrev oWav (p s : Int32) : va_E := .inr (6, [.int p, .int s])
abbrev oAL (mc : Int32) (arr : Nat) (sz : Int32) : va_E := .inr (7, [.int mc, .ref arr, .int sz])
/-- a method that reads alone -/
abbrev zRd (G : zG) (r : Value) : Option Value → zG → Prop := fun v G' => some r = v ∧ G = G'
theorem i_nlt {a b : Int32} (h : a ≤ b) : ¬ b < a := fun q => by
  rw [Int32.le_iff_toInt_le] at h
  rw [Int32.lt_iff_toInt_lt] at q
  omega
theorem i_lt {a b : Int32} (h : ¬ a ≤ b) : b < a := by
  rw [Int32.le_iff_toInt_le] at h
  rw [Int32.lt_iff_toInt_lt]
  omega
theorem i_le {a b : Int32} (h : ¬ b < a) : a ≤ b := by
  rw [Int32.lt_iff_toInt_lt] at h
  rw [Int32.le_iff_toInt_le]
  omega
def s_newton : Nat → Int64 → Int64 → Int64
  | 0, _, r => r
  | n + 1, sq, r => if 0 < r then (if (r + sq / r) / 2 < r then s_newton n sq ((r + sq / r) / 2) else r) else r
def s_side (x sx : Int32) : Int64 := 1000 * (z_abs1 (x - sx)).toInt64
def s_way3 (a b c : Int64) : Int32 := (s_newton 64 (a * a + b * b + c * c) (a + b + c)).toInt32
def s_way (sx sy x y z : Int32) : Int32 := s_way3 (s_side x sx) (s_side y sy) (1000 * (z_abs1 z).toInt64)
def s_trav (sp ss sx sy d x y z iS : Int32) : Int32 :=
  let v := if iS = 0 then sp else ss
  if v ≤ 0 then d else s_way sx sy x y z * 1000 / v + d
abbrev rm_c_wayTo : Room := { frames := 1, cells := 0, slots := 0, locals := 40 }
set_option maxHeartbeats 4000000 in
set_option maxRecDepth 100000 in
theorem c_wayTo (l : Launch) (Γ : zY) (G : zG) (b : Nat) (n sx sy d x y z : Int32) (hs : G b = some (oSta n sx sy d)) : ZM l yX4_wayTo cX4_wayTo 17 (some FieldType.int) rm_c_wayTo Γ [.ref b, .int x, .int y, .int z] G (zRd G (.int (s_way sx sy x y z))) := by
  refine z_start (by decide +kernel) [some (.ref b), some (.int x), some (.int y), some (.int z), none, none, none, none, none, none, none, none, none, none, none, none, none] rfl (Nat.le_of_ble_eq_true rfl) ?_
  intro p e s m args below meth c Q A C F hr hnm
  refine z_ldc2 C kw_642 dX4_wayTo_0 ?_
  refine z_iload_n C dX4_wayTo_3 rfl ?_
  first | refine z_rload_n C dX4_wayTo_4 rfl ?_ | refine z_nload_n C dX4_wayTo_4 rfl ?_ | refine z_aload_n C dX4_wayTo_4 rfl ?_
  refine z_getf (T := TX4) (N := 4) C (by first | assumption | exact zU_same _ _ _) rfl 1 (by decide) kw_857 (Or.inl rfl) rfl dX4_wayTo_5 ?_
  refine z_isub C dX4_wayTo_8 ?_
  refine z_abs C km_X4_wayTo_9 (Nat.le_of_ble_eq_true rfl) (Nat.le_of_ble_eq_true rfl) (Nat.le_of_ble_eq_true rfl) (Nat.le_of_ble_eq_true rfl) dX4_wayTo_9 ?_
  refine z_i2l C dX4_wayTo_12 ?_
  refine z_lmul C dX4_wayTo_13 ?_
  refine z_lstore C dX4_wayTo_14 (by decide) ?_
  refine z_ldc2 C kw_642 dX4_wayTo_16 ?_
  refine z_iload_n C dX4_wayTo_19 rfl ?_
  first | refine z_rload_n C dX4_wayTo_20 rfl ?_ | refine z_nload_n C dX4_wayTo_20 rfl ?_ | refine z_aload_n C dX4_wayTo_20 rfl ?_
  refine z_getf (T := TX4) (N := 4) C (by first | assumption | exact zU_same _ _ _) rfl 2 (by decide) kw_859 (Or.inl rfl) rfl dX4_wayTo_21 ?_
  refine z_isub C dX4_wayTo_24 ?_
  refine z_abs C km_X4_wayTo_25 (Nat.le_of_ble_eq_true rfl) (Nat.le_of_ble_eq_true rfl) (Nat.le_of_ble_eq_true rfl) (Nat.le_of_ble_eq_true rfl) dX4_wayTo_25 ?_
  refine z_i2l C dX4_wayTo_28 ?_
  refine z_lmul C dX4_wayTo_29 ?_
  refine z_lstore C dX4_wayTo_30 (by decide) ?_
  refine z_ldc2 C kw_642 dX4_wayTo_32 ?_
  refine z_iload_n C dX4_wayTo_35 rfl ?_
  refine z_abs C km_X4_wayTo_36 (Nat.le_of_ble_eq_true rfl) (Nat.le_of_ble_eq_true rfl) (Nat.le_of_ble_eq_true rfl) (Nat.le_of_ble_eq_true rfl) dX4_wayTo_36 ?_
  refine z_i2l C dX4_wayTo_39 ?_
  refine z_lmul C dX4_wayTo_40 ?_
  refine z_lstore C dX4_wayTo_41 (by decide) ?_
  refine z_lload C dX4_wayTo_43 rfl ?_
  refine z_lload C dX4_wayTo_45 rfl ?_
  refine z_lmul C dX4_wayTo_47 ?_
  refine z_lload C dX4_wayTo_48 rfl ?_
  refine z_lload C dX4_wayTo_50 rfl ?_
  refine z_lmul C dX4_wayTo_52 ?_
  refine z_ladd C dX4_wayTo_53 ?_
  refine z_lload C dX4_wayTo_54 rfl ?_
  refine z_lload C dX4_wayTo_56 rfl ?_
  refine z_lmul C dX4_wayTo_58 ?_
  refine z_ladd C dX4_wayTo_59 ?_
  refine z_lstore C dX4_wayTo_60 (by decide) ?_
  refine z_lload C dX4_wayTo_62 rfl ?_
  refine z_lload C dX4_wayTo_64 rfl ?_
  refine z_ladd C dX4_wayTo_66 ?_
  refine z_lload C dX4_wayTo_67 rfl ?_
  refine z_ladd C dX4_wayTo_69 ?_
  refine z_lstore C dX4_wayTo_70 (by decide) ?_
  refine z_iconst (v := 0) C dX4_wayTo_72 rfl ?_
  refine z_istore C dX4_wayTo_73 (by decide) ?_
  obtain ⟨a4, e4⟩ : ∃ v, v = s_side x sx := ⟨_, rfl⟩
  obtain ⟨a6, e6⟩ : ∃ v, v = s_side y sy := ⟨_, rfl⟩
  obtain ⟨a8, e8⟩ : ∃ v, v = 1000 * (z_abs1 z).toInt64 := ⟨_, rfl⟩
  obtain ⟨sq, eq⟩ : ∃ v, v = a4 * a4 + a6 * a6 + a8 * a8 := ⟨_, rfl⟩
  have loop : ∀ (f j : Nat) (r : Int64) (w : Option Value), j + f = 64 → s_way sx sy x y z = (s_newton f sq r).toInt32 → Z p l e rm_c_wayTo s m args below meth c Q 17 Γ A G 0 0 75 [some (.ref b), some (.int x), some (.int y), some (.int z), some (.long a4), none, some (.long a6), none, some (.long a8), none, some (.long sq), none, some (.long r), none, some (.int (nI j)), w, none] [] := by
    intro f
    induction f with
    | zero =>
      intro j r w hj hr2
      have ej : j = 64 := by omega
      subst ej
      refine z_iload C dX4_wayTo_75 rfl ?_
      refine z_bipush (v := 64) C dX4_wayTo_77 rfl ?_
      refine z_icmp_ge (tgt := 124) C dX4_wayTo_79 (by decide) (fun h79 => ?_) (fun h79 => ?_)
      · refine z_lload C dX4_wayTo_124 rfl ?_
        refine z_l2i C dX4_wayTo_126 ?_
        exact z_iret C F hr (Nat.le_of_ble_eq_true rfl) (Nat.le_of_ble_eq_true rfl) ⟨by rw [hr2]; rfl, rfl⟩ dX4_wayTo_127
      · exact absurd (by decide) h79
    | succ f ih =>
      intro j r w hj hr2
      refine z_iload C dX4_wayTo_75 rfl ?_
      refine z_bipush (v := 64) C dX4_wayTo_77 rfl ?_
      refine z_icmp_ge (tgt := 124) C dX4_wayTo_79 (by decide) (fun h79 => ?_) (fun h79 => ?_)
      · exact absurd h79 (nI_ge (b := 64) (by omega) (by decide))
      · refine z_lload C dX4_wayTo_82 rfl ?_
        refine z_lconst (v := 0) C dX4_wayTo_84 rfl ?_
        refine z_lcmp C dX4_wayTo_85 ?_
        refine z_if_le (tgt := 124) C dX4_wayTo_86 (by decide) (fun h86 => ?_) (fun h86 => ?_)
        · have h0 : ¬ 0 < r := fun q => by
            have := (lg_cmp_le r 0).mp h86
            rw [Int64.lt_iff_toInt_lt] at q
            rw [Int64.le_iff_toInt_le] at this
            omega
          refine z_lload C dX4_wayTo_124 rfl ?_
          refine z_l2i C dX4_wayTo_126 ?_
          exact z_iret C F hr (Nat.le_of_ble_eq_true rfl) (Nat.le_of_ble_eq_true rfl) ⟨by rw [hr2, s_newton, if_neg h0], rfl⟩ dX4_wayTo_127
        · have h0 : 0 < r := by
            rcases Int64.lt_or_le 0 r with q | q
            · exact q
            · exact absurd ((lg_cmp_le r 0).mpr q) h86
          refine z_lload C dX4_wayTo_89 rfl ?_
          refine z_lload C dX4_wayTo_91 rfl ?_
          refine z_lload C dX4_wayTo_93 rfl ?_
          refine z_ldiv C (fun q => by rw [q] at h0; exact absurd h0 (by decide)) dX4_wayTo_95 ?_
          refine z_ladd C dX4_wayTo_96 ?_
          refine z_ldc2 C kw_646 dX4_wayTo_97 ?_
          refine z_ldiv C (by decide) dX4_wayTo_100 ?_
          refine z_lstore C dX4_wayTo_101 (by decide) ?_
          refine z_lload C dX4_wayTo_103 rfl ?_
          refine z_lload C dX4_wayTo_105 rfl ?_
          refine z_lcmp C dX4_wayTo_107 ?_
          refine z_if_lt (tgt := 114) C dX4_wayTo_108 (by decide) (fun h108 => ?_) (fun h108 => ?_)
          · have h1 := (lg_cmp_lt _ _).mp h108
            refine z_lload C dX4_wayTo_114 rfl ?_
            refine z_lstore C dX4_wayTo_116 (by decide) ?_
            refine z_iinc (w := 1) C dX4_wayTo_118 rfl rfl (by decide) ?_
            refine z_goto (tgt := 75) C dX4_wayTo_121 (by decide) ?_
            rw [← nI_succ]
            refine ih (j + 1) _ _ (by omega) ?_
            rw [hr2, s_newton, if_pos h0, if_pos h1]
          · have h1 : ¬ (r + sq / r) / 2 < r := fun q => h108 ((lg_cmp_lt _ _).mpr q)
            refine z_goto (tgt := 124) C dX4_wayTo_111 (by decide) ?_
            refine z_lload C dX4_wayTo_124 rfl ?_
            refine z_l2i C dX4_wayTo_126 ?_
            exact z_iret C F hr (Nat.le_of_ble_eq_true rfl) (Nat.le_of_ble_eq_true rfl) ⟨by rw [hr2, s_newton, if_pos h0, if_neg h1], rfl⟩ dX4_wayTo_127
  have fin := loop 64 0 (a4 + a6 + a8) none rfl (by rw [eq, e4, e6, e8]; rfl)
  rw [eq, e4, e6, e8] at fin
  exact fin
abbrev rm_c_travel : Room := { frames := 2, cells := 0, slots := 0, locals := 76 }
set_option maxHeartbeats 4000000 in
set_option maxRecDepth 100000 in
theorem c_travel (l : Launch) (Γ : zY) (G : zG) (w b : Nat) (sp ss n sx sy d x y z iS : Int32) (hw : G w = some (oWav sp ss)) (hs : G b = some (oSta n sx sy d)) : ZM l yX5_travel cX5_travel 7 (some FieldType.int) rm_c_travel Γ [.ref w, .ref b, .int x, .int y, .int z, .int iS] G (zRd G (.int (s_trav sp ss sx sy d x y z iS))) := by
  refine z_start (by decide +kernel) [some (.ref w), some (.ref b), some (.int x), some (.int y), some (.int z), some (.int iS), none] rfl (Nat.le_of_ble_eq_true rfl) ?_
  intro p e s m args below meth c Q A C F hr hnm
  have tail : ∀ v : Int32, (if iS = 0 then sp else ss) = v → Z p l e rm_c_travel s m args below meth c Q 7 Γ A G 0 0 16 [some (.ref w), some (.ref b), some (.int x), some (.int y), some (.int z), some (.int iS), none] [.int v] := by
    intro v hv
    refine z_istore C dX5_travel_16 (by decide) ?_
    refine z_iload C dX5_travel_18 rfl ?_
    refine z_if_le (tgt := 46) C dX5_travel_20 (by decide) (fun h20 => ?_) (fun h20 => ?_)
    · first | refine z_rload_n C dX5_travel_46 rfl ?_ | refine z_nload_n C dX5_travel_46 rfl ?_ | refine z_aload_n C dX5_travel_46 rfl ?_
      refine z_getf (T := TX4) (N := 4) C (by first | assumption | exact zU_same _ _ _) rfl 3 (by decide) kw_861 (Or.inl rfl) rfl dX5_travel_47 ?_
      exact z_iret C F hr (Nat.le_of_ble_eq_true rfl) (Nat.le_of_ble_eq_true rfl) ⟨by simp only [s_trav, hv, if_pos h20], rfl⟩ dX5_travel_50
    · first | refine z_rload_n C dX5_travel_23 rfl ?_ | refine z_nload_n C dX5_travel_23 rfl ?_ | refine z_aload_n C dX5_travel_23 rfl ?_
      refine z_iload_n C dX5_travel_24 rfl ?_
      refine z_iload_n C dX5_travel_25 rfl ?_
      refine z_iload C dX5_travel_26 rfl ?_
      refine z_callV (q := (RX4, TX4, 4)) C (c_wayTo l Γ G b n sx sy d x y z hs) kc_X5_travel_28 (by first | assumption | exact zU_same _ _ _) rfl rfl rfl rfl ky_X4_wayTo ⟨(Nat.le_of_ble_eq_true rfl), (Nat.le_of_ble_eq_true rfl)⟩ (Nat.le_of_ble_eq_true rfl) ⟨(Nat.le_of_ble_eq_true rfl), (Nat.le_of_ble_eq_true rfl)⟩ dX5_travel_28 (fun v28 G28 hp28 => ?_)
      obtain ⟨rfl, rfl⟩ := hp28
      refine z_sipush (v := 1000) C dX5_travel_31 rfl ?_
      refine z_imul C dX5_travel_34 ?_
      refine z_iload C dX5_travel_35 rfl ?_
      refine z_idiv C (fun q => by rw [q] at h20; exact h20 (by decide)) dX5_travel_37 ?_
      first | refine z_rload_n C dX5_travel_38 rfl ?_ | refine z_nload_n C dX5_travel_38 rfl ?_ | refine z_aload_n C dX5_travel_38 rfl ?_
      refine z_getf (T := TX4) (N := 4) C (by first | assumption | exact zU_same _ _ _) rfl 3 (by decide) kw_861 (Or.inl rfl) rfl dX5_travel_39 ?_
      refine z_iadd C dX5_travel_42 ?_
      refine z_goto (tgt := 50) C dX5_travel_43 (by decide) ?_
      exact z_iret C F hr (Nat.le_of_ble_eq_true rfl) (Nat.le_of_ble_eq_true rfl) ⟨by simp only [s_trav, hv, if_neg h20], rfl⟩ dX5_travel_50
  refine z_iload C dX5_travel_0 rfl ?_
  refine z_if_eq (tgt := 12) C dX5_travel_2 (by decide) (fun h2 => ?_) (fun h2 => ?_)
  · first | refine z_rload_n C dX5_travel_12 rfl ?_ | refine z_nload_n C dX5_travel_12 rfl ?_ | refine z_aload_n C dX5_travel_12 rfl ?_
    refine z_getf (T := TX5) (N := 2) C (by first | assumption | exact zU_same _ _ _) rfl 0 (by decide) kw_124 (Or.inl rfl) rfl dX5_travel_13 ?_
    exact tail sp (by rw [if_pos h2])
  · first | refine z_rload_n C dX5_travel_5 rfl ?_ | refine z_nload_n C dX5_travel_5 rfl ?_ | refine z_aload_n C dX5_travel_5 rfl ?_
    refine z_getf (T := TX5) (N := 2) C (by first | assumption | exact zU_same _ _ _) rfl 1 (by decide) kw_126 (Or.inl rfl) rfl dX5_travel_6 ?_
    refine z_goto (tgt := 16) C dX5_travel_9 (by decide) ?_
    exact tail ss (by rw [if_neg h2])
abbrev rm_c_late : Room := { frames := 3, cells := 0, slots := 0, locals := 102 }
set_option maxHeartbeats 4000000 in
set_option maxRecDepth 100000 in
theorem c_late (l : Launch) (Γ : zY) (G : zG) (w b st ml : Nat) (ev : Option Nat) (sp ss n sx sy d n2 iS t wt am n3 fo x y z et lb : Int32) {q : Nat} (hw : G w = some (oWav sp ss)) (hb : G b = some (oPk n2 st iS t wt am ev)) (hs : G st = some (oSta n sx sy d)) (he : G q = some (oEv n3 ml fo x y z et lb)) : ZM l yX5_lateness cX5_lateness 3 (some FieldType.int) rm_c_late Γ [.ref w, .ref b, .ref q] G (zRd G (.int (t - s_trav sp ss sx sy d x y z iS - et))) := by
  refine z_start (by decide +kernel) [some (.ref w), some (.ref b), some (.ref q)] rfl (Nat.le_of_ble_eq_true rfl) ?_
  intro p e s m args below meth c Q A C F hr hnm
  first | refine z_rload_n C dX5_lateness_0 rfl ?_ | refine z_nload_n C dX5_lateness_0 rfl ?_ | refine z_aload_n C dX5_lateness_0 rfl ?_
  refine z_getf (T := TX1) (N := 7) C (by first | assumption | exact zU_same _ _ _) rfl 3 (by decide) kw_948 (Or.inl rfl) rfl dX5_lateness_1 ?_
  first | refine z_rload_n C dX5_lateness_4 rfl ?_ | refine z_nload_n C dX5_lateness_4 rfl ?_ | refine z_aload_n C dX5_lateness_4 rfl ?_
  first | refine z_rload_n C dX5_lateness_5 rfl ?_ | refine z_nload_n C dX5_lateness_5 rfl ?_ | refine z_aload_n C dX5_lateness_5 rfl ?_
  refine z_getf (T := TX1) (N := 7) C (by first | assumption | exact zU_same _ _ _) rfl 1 (by decide) kw_938 (Or.inl rfl) rfl dX5_lateness_6 ?_
  first | refine z_rload_n C dX5_lateness_9 rfl ?_ | refine z_nload_n C dX5_lateness_9 rfl ?_ | refine z_aload_n C dX5_lateness_9 rfl ?_
  refine z_getf (T := TX0) (N := 8) C (by first | assumption | exact zU_same _ _ _) rfl 3 (by decide) kw_694 (Or.inl rfl) rfl dX5_lateness_10 ?_
  first | refine z_rload_n C dX5_lateness_13 rfl ?_ | refine z_nload_n C dX5_lateness_13 rfl ?_ | refine z_aload_n C dX5_lateness_13 rfl ?_
  refine z_getf (T := TX0) (N := 8) C (by first | assumption | exact zU_same _ _ _) rfl 4 (by decide) kw_698 (Or.inl rfl) rfl dX5_lateness_14 ?_
  first | refine z_rload_n C dX5_lateness_17 rfl ?_ | refine z_nload_n C dX5_lateness_17 rfl ?_ | refine z_aload_n C dX5_lateness_17 rfl ?_
  refine z_getf (T := TX0) (N := 8) C (by first | assumption | exact zU_same _ _ _) rfl 5 (by decide) kw_702 (Or.inl rfl) rfl dX5_lateness_18 ?_
  first | refine z_rload_n C dX5_lateness_21 rfl ?_ | refine z_nload_n C dX5_lateness_21 rfl ?_ | refine z_aload_n C dX5_lateness_21 rfl ?_
  refine z_getf (T := TX1) (N := 7) C (by first | assumption | exact zU_same _ _ _) rfl 2 (by decide) kw_943 (Or.inl rfl) rfl dX5_lateness_22 ?_
  refine z_callV (q := (RX5, TX5, 2)) C (c_travel l Γ G w st sp ss n sx sy d x y z iS hw hs) kc_X5_lateness_25 (by first | assumption | exact zU_same _ _ _) rfl rfl rfl rfl ky_X5_travel ⟨(Nat.le_of_ble_eq_true rfl), (Nat.le_of_ble_eq_true rfl)⟩ (Nat.le_of_ble_eq_true rfl) ⟨(Nat.le_of_ble_eq_true rfl), (Nat.le_of_ble_eq_true rfl)⟩ dX5_lateness_25 (fun v25 G25 hp25 => ?_)
  obtain ⟨rfl, rfl⟩ := hp25
  refine z_isub C dX5_lateness_28 ?_
  first | refine z_rload_n C dX5_lateness_29 rfl ?_ | refine z_nload_n C dX5_lateness_29 rfl ?_ | refine z_aload_n C dX5_lateness_29 rfl ?_
  refine z_getf (T := TX0) (N := 8) C (by first | assumption | exact zU_same _ _ _) rfl 6 (by decide) kw_706 (Or.inl rfl) rfl dX5_lateness_30 ?_
  refine z_isub C dX5_lateness_33 ?_
  exact z_iret C F hr (Nat.le_of_ble_eq_true rfl) (Nat.le_of_ble_eq_true rfl) ⟨rfl, rfl⟩ dX5_lateness_34
end
section
theorem dJxa1e45_init_da8c8_0 : decode cJxa1e45_init_da8c8 0 = .ok (.aload_n 0, 1) := by decide +kernel
theorem dJxa1e45_init_da8c8_1 : decode cJxa1e45_init_da8c8 1 = .ok (.invokespecial 1, 3) := by decide +kernel
theorem dJxa1e45_init_da8c8_4 : decode cJxa1e45_init_da8c8 4 = .ok (.return_, 1) := by decide +kernel
theorem ko_Jxa1e45_init_da8c8_1 : ∀ w ∈ ([Cond.methodLink "java/util/AbstractCollection" 1 ⟨"java/lang/Object", "<init>", "()V"⟩, Cond.instanceMethod ⟨"java/lang/Object", "<init>", "()V"⟩, Cond.code ⟨"java/lang/Object", "<init>", "()V"⟩ object_method_1_code 1 (Option.none : Option Jvm.ClassFile.FieldType)] : List Cond), w ∈ lw_all := zin [103, 90, 91] (by decide +kernel)
theorem dJxc12de_init_da8c8_0 : decode cJxc12de_init_da8c8 0 = .ok (.aload_n 0, 1) := by decide +kernel
theorem dJxc12de_init_da8c8_1 : decode cJxc12de_init_da8c8 1 = .ok (.invokespecial 1, 3) := by decide +kernel
theorem dJxc12de_init_da8c8_4 : decode cJxc12de_init_da8c8 4 = .ok (.aload_n 0, 1) := by decide +kernel
theorem dJxc12de_init_da8c8_5 : decode cJxc12de_init_da8c8 5 = .ok (.iconst 0, 1) := by decide +kernel
theorem dJxc12de_init_da8c8_6 : decode cJxc12de_init_da8c8 6 = .ok (.putfield 7, 3) := by decide +kernel
theorem dJxc12de_init_da8c8_9 : decode cJxc12de_init_da8c8 9 = .ok (.return_, 1) := by decide +kernel
theorem ky_Jxa1e45_init_da8c8 : yJxa1e45_init_da8c8.cls ≠ "java/lang/invoke/MethodHandle" ∧ yJxa1e45_init_da8c8.cls ≠ "java/lang/invoke/VarHandle" ∧ (parseMethodDescriptor yJxa1e45_init_da8c8.desc).map (fun d => d.parameters.length) = some 0 := by decide +kernel
theorem kc_Jxc12de_init_da8c8_1 : ∀ w ∈ ([Cond.methodLink "java/util/AbstractList" 1 yJxa1e45_init_da8c8, Cond.instanceMethod yJxa1e45_init_da8c8, Cond.initialized "java/util/AbstractCollection", Cond.code yJxa1e45_init_da8c8 prog_33_method_1_code 1 (Option.none : Option Jvm.ClassFile.FieldType)] : List Cond), w ∈ lw_all := zin [100, 101, 55, 102] (by decide +kernel)
theorem kw_108 : Cond.fieldLink "java/util/AbstractList" 7 "java/util/AbstractList" "modCount" "I" ∈ lw_all := zin1 108 (by decide +kernel)
theorem dJx4a65c_init_da8c8_0 : decode cJx4a65c_init_da8c8 0 = .ok (.aload_n 0, 1) := by decide +kernel
theorem dJx4a65c_init_da8c8_1 : decode cJx4a65c_init_da8c8 1 = .ok (.invokespecial 1, 3) := by decide +kernel
theorem dJx4a65c_init_da8c8_4 : decode cJx4a65c_init_da8c8 4 = .ok (.aload_n 0, 1) := by decide +kernel
theorem dJx4a65c_init_da8c8_5 : decode cJx4a65c_init_da8c8 5 = .ok (.getstatic 39, 3) := by decide +kernel
theorem dJx4a65c_init_da8c8_8 : decode cJx4a65c_init_da8c8 8 = .ok (.putfield 9, 3) := by decide +kernel
theorem dJx4a65c_init_da8c8_11 : decode cJx4a65c_init_da8c8 11 = .ok (.return_, 1) := by decide +kernel
theorem ky_Jxc12de_init_da8c8 : yJxc12de_init_da8c8.cls ≠ "java/lang/invoke/MethodHandle" ∧ yJxc12de_init_da8c8.cls ≠ "java/lang/invoke/VarHandle" ∧ (parseMethodDescriptor yJxc12de_init_da8c8.desc).map (fun d => d.parameters.length) = some 0 := by decide +kernel
theorem kc_Jx4a65c_init_da8c8_1 : ∀ w ∈ ([Cond.methodLink "java/util/ArrayList" 1 yJxc12de_init_da8c8, Cond.instanceMethod yJxc12de_init_da8c8, Cond.initialized "java/util/AbstractList", Cond.code yJxc12de_init_da8c8 prog_34_method_1_code 1 (Option.none : Option Jvm.ClassFile.FieldType)] : List Cond), w ∈ lw_all := zin [97, 98, 56, 99] (by decide +kernel)
theorem kw_104 : Cond.fieldLink "java/util/ArrayList" 39 "java/util/ArrayList" "DEFAULTCAPACITY_EMPTY_ELEMENTDATA" "[Ljava/lang/Object;" ∈ lw_all := zin1 104 (by decide +kernel)
theorem kw_106 : Cond.fieldLink "java/util/ArrayList" 9 "java/util/ArrayList" "elementData" "[Ljava/lang/Object;" ∈ lw_all := zin1 106 (by decide +kernel)
theorem dJx4a65c_size_8abf5_0 : decode cJx4a65c_size_8abf5 0 = .ok (.aload_n 0, 1) := by decide +kernel
theorem dJx4a65c_size_8abf5_1 : decode cJx4a65c_size_8abf5 1 = .ok (.getfield 48, 3) := by decide +kernel
theorem dJx4a65c_size_8abf5_4 : decode cJx4a65c_size_8abf5 4 = .ok (.ireturn, 1) := by decide +kernel
theorem kw_107 : Cond.fieldLink "java/util/ArrayList" 48 "java/util/ArrayList" "size" "I" ∈ lw_all := zin1 107 (by decide +kernel)
theorem dJ3_checkIndex_8e157_0 : decode cJ3_checkIndex_8e157 0 = .ok (.iload_n 0, 1) := by decide +kernel
theorem dJ3_checkIndex_8e157_1 : decode cJ3_checkIndex_8e157 1 = .ok (.ifCond .lt 8, 3) := by decide +kernel
theorem dJ3_checkIndex_8e157_4 : decode cJ3_checkIndex_8e157 4 = .ok (.iload_n 0, 1) := by decide +kernel
theorem dJ3_checkIndex_8e157_5 : decode cJ3_checkIndex_8e157 5 = .ok (.iload_n 1, 1) := by decide +kernel
theorem dJ3_checkIndex_8e157_6 : decode cJ3_checkIndex_8e157 6 = .ok (.if_icmp .lt 10, 3) := by decide +kernel
theorem dJ3_checkIndex_8e157_9 : decode cJ3_checkIndex_8e157 9 = .ok (.aload_n 2, 1) := by decide +kernel
theorem dJ3_checkIndex_8e157_10 : decode cJ3_checkIndex_8e157 10 = .ok (.iload_n 0, 1) := by decide +kernel
theorem dJ3_checkIndex_8e157_11 : decode cJ3_checkIndex_8e157 11 = .ok (.iload_n 1, 1) := by decide +kernel
theorem dJ3_checkIndex_8e157_12 : decode cJ3_checkIndex_8e157 12 = .ok (.invokestatic 95, 3) := by decide +kernel
theorem dJ3_checkIndex_8e157_15 : decode cJ3_checkIndex_8e157 15 = .ok (.athrow, 1) := by decide +kernel
theorem dJ3_checkIndex_8e157_16 : decode cJ3_checkIndex_8e157 16 = .ok (.iload_n 0, 1) := by decide +kernel
theorem dJ3_checkIndex_8e157_17 : decode cJ3_checkIndex_8e157 17 = .ok (.ireturn, 1) := by decide +kernel
theorem dJ15_checkIndex_7cf53_0 : decode cJ15_checkIndex_7cf53 0 = .ok (.iload_n 0, 1) := by decide +kernel
theorem dJ15_checkIndex_7cf53_1 : decode cJ15_checkIndex_7cf53 1 = .ok (.iload_n 1, 1) := by decide +kernel
theorem dJ15_checkIndex_7cf53_2 : decode cJ15_checkIndex_7cf53 2 = .ok (.aconst_null, 1) := by decide +kernel
theorem dJ15_checkIndex_7cf53_3 : decode cJ15_checkIndex_7cf53 3 = .ok (.invokestatic 105, 3) := by decide +kernel
theorem dJ15_checkIndex_7cf53_6 : decode cJ15_checkIndex_7cf53 6 = .ok (.ireturn, 1) := by decide +kernel
theorem ky_J3_checkIndex_8e157 : yJ3_checkIndex_8e157.cls ≠ "java/lang/invoke/MethodHandle" ∧ yJ3_checkIndex_8e157.cls ≠ "java/lang/invoke/VarHandle" ∧ (parseMethodDescriptor yJ3_checkIndex_8e157.desc).map (fun d => d.parameters.length) = some 3 := by decide +kernel
theorem kc_J15_checkIndex_7cf53_3 : ∀ w ∈ ([Cond.methodLink "java/util/Objects" 105 yJ3_checkIndex_8e157, Cond.static yJ3_checkIndex_8e157, Cond.initialized "jdk/internal/util/Preconditions", Cond.code yJ3_checkIndex_8e157 prog_43_method_11_code 3 (Option.some Jvm.ClassFile.FieldType.int)] : List Cond), w ∈ lw_all := zin [233, 234, 74, 235] (by decide +kernel)
theorem dJx4a65c_elementData_915e3_0 : decode cJx4a65c_elementData_915e3 0 = .ok (.aload_n 0, 1) := by decide +kernel
theorem dJx4a65c_elementData_915e3_1 : decode cJx4a65c_elementData_915e3 1 = .ok (.getfield 9, 3) := by decide +kernel
theorem dJx4a65c_elementData_915e3_4 : decode cJx4a65c_elementData_915e3 4 = .ok (.iload_n 1, 1) := by decide +kernel
theorem dJx4a65c_elementData_915e3_5 : decode cJx4a65c_elementData_915e3 5 = .ok (.aaload, 1) := by decide +kernel
theorem dJx4a65c_elementData_915e3_6 : decode cJx4a65c_elementData_915e3 6 = .ok (.areturn, 1) := by decide +kernel
theorem dJx4a65c_get_915e3_0 : decode cJx4a65c_get_915e3 0 = .ok (.iload_n 1, 1) := by decide +kernel
theorem dJx4a65c_get_915e3_1 : decode cJx4a65c_get_915e3 1 = .ok (.aload_n 0, 1) := by decide +kernel
theorem dJx4a65c_get_915e3_2 : decode cJx4a65c_get_915e3 2 = .ok (.getfield 48, 3) := by decide +kernel
theorem dJx4a65c_get_915e3_5 : decode cJx4a65c_get_915e3 5 = .ok (.invokestatic 118, 3) := by decide +kernel
theorem dJx4a65c_get_915e3_8 : decode cJx4a65c_get_915e3 8 = .ok (.pop, 1) := by decide +kernel
theorem dJx4a65c_get_915e3_9 : decode cJx4a65c_get_915e3 9 = .ok (.aload_n 0, 1) := by decide +kernel
theorem dJx4a65c_get_915e3_10 : decode cJx4a65c_get_915e3 10 = .ok (.iload_n 1, 1) := by decide +kernel
theorem dJx4a65c_get_915e3_11 : decode cJx4a65c_get_915e3 11 = .ok (.invokevirtual 123, 3) := by decide +kernel
theorem dJx4a65c_get_915e3_14 : decode cJx4a65c_get_915e3 14 = .ok (.areturn, 1) := by decide +kernel
theorem ky_J15_checkIndex_7cf53 : yJ15_checkIndex_7cf53.cls ≠ "java/lang/invoke/MethodHandle" ∧ yJ15_checkIndex_7cf53.cls ≠ "java/lang/invoke/VarHandle" ∧ (parseMethodDescriptor yJ15_checkIndex_7cf53.desc).map (fun d => d.parameters.length) = some 2 := by decide +kernel
theorem kc_Jx4a65c_get_915e3_5 : ∀ w ∈ ([Cond.methodLink "java/util/ArrayList" 118 yJ15_checkIndex_7cf53, Cond.static yJ15_checkIndex_7cf53, Cond.initialized "java/util/Objects", Cond.code yJ15_checkIndex_7cf53 prog_39_method_17_code 2 (Option.some Jvm.ClassFile.FieldType.int)] : List Cond), w ∈ lw_all := zin [230, 231, 73, 232] (by decide +kernel)
theorem ky_Jx4a65c_elementData_915e3 : yJx4a65c_elementData_915e3.cls ≠ "java/lang/invoke/MethodHandle" ∧ yJx4a65c_elementData_915e3.cls ≠ "java/lang/invoke/VarHandle" ∧ (parseMethodDescriptor yJx4a65c_elementData_915e3.desc).map (fun d => d.parameters.length) = some 1 := by decide +kernel
theorem kc_Jx4a65c_get_915e3_11 : ∀ w ∈ ([Cond.methodLink "java/util/ArrayList" 123 yJx4a65c_elementData_915e3, Cond.instanceMethod yJx4a65c_elementData_915e3, Cond.selects "java/util/ArrayList" yJx4a65c_elementData_915e3 yJx4a65c_elementData_915e3, Cond.initialized "java/util/ArrayList", Cond.code yJx4a65c_elementData_915e3 prog_35_method_18_code 2 (Option.some (Jvm.ClassFile.FieldType.object "java/lang/Object"))] : List Cond), w ∈ lw_all := zin [236, 237, 238, 57, 239] (by decide +kernel)
theorem dJ8_newLength_cabcc_0 : decode cJ8_newLength_cabcc 0 = .ok (.iload_n 0, 1) := by decide +kernel
theorem dJ8_newLength_cabcc_1 : decode cJ8_newLength_cabcc 1 = .ok (.iload_n 1, 1) := by decide +kernel
theorem dJ8_newLength_cabcc_2 : decode cJ8_newLength_cabcc 2 = .ok (.iload_n 2, 1) := by decide +kernel
theorem dJ8_newLength_cabcc_3 : decode cJ8_newLength_cabcc 3 = .ok (.invokestatic 194, 3) := by decide +kernel
theorem dJ8_newLength_cabcc_6 : decode cJ8_newLength_cabcc 6 = .ok (.iadd, 1) := by decide +kernel
theorem dJ8_newLength_cabcc_7 : decode cJ8_newLength_cabcc 7 = .ok (.istore_n 3, 1) := by decide +kernel
theorem dJ8_newLength_cabcc_8 : decode cJ8_newLength_cabcc 8 = .ok (.iconst 0, 1) := by decide +kernel
theorem dJ8_newLength_cabcc_9 : decode cJ8_newLength_cabcc 9 = .ok (.iload_n 3, 1) := by decide +kernel
theorem dJ8_newLength_cabcc_10 : decode cJ8_newLength_cabcc 10 = .ok (.if_icmp .ge 11, 3) := by decide +kernel
theorem dJ8_newLength_cabcc_13 : decode cJ8_newLength_cabcc 13 = .ok (.iload_n 3, 1) := by decide +kernel
theorem dJ8_newLength_cabcc_14 : decode cJ8_newLength_cabcc 14 = .ok (.ldc 200, 2) := by decide +kernel
theorem dJ8_newLength_cabcc_16 : decode cJ8_newLength_cabcc 16 = .ok (.if_icmp .gt 5, 3) := by decide +kernel
theorem dJ8_newLength_cabcc_19 : decode cJ8_newLength_cabcc 19 = .ok (.iload_n 3, 1) := by decide +kernel
theorem dJ8_newLength_cabcc_20 : decode cJ8_newLength_cabcc 20 = .ok (.ireturn, 1) := by decide +kernel
theorem dJ8_newLength_cabcc_21 : decode cJ8_newLength_cabcc 21 = .ok (.iload_n 0, 1) := by decide +kernel
theorem dJ8_newLength_cabcc_22 : decode cJ8_newLength_cabcc 22 = .ok (.iload_n 1, 1) := by decide +kernel
theorem dJ8_newLength_cabcc_23 : decode cJ8_newLength_cabcc 23 = .ok (.invokestatic 201, 3) := by decide +kernel
theorem dJ8_newLength_cabcc_26 : decode cJ8_newLength_cabcc 26 = .ok (.ireturn, 1) := by decide +kernel
theorem km_J8_newLength_cabcc_3 : ∀ w ∈ ([Cond.methodLink "jdk/internal/util/ArraysSupport" 194 yJ9_max_7cf53, Cond.static yJ9_max_7cf53, Cond.initialized "java/lang/Math", Cond.code yJ9_max_7cf53 prog_22_method_65_code 2 (Option.some Jvm.ClassFile.FieldType.int)] : List Cond), w ∈ lw_all := zin [349, 350, 69, 351] (by decide +kernel)
theorem kw_352 : Cond.constant "jdk/internal/util/ArraysSupport" 200 2147483639 ∈ lw_all := zin1 352 (by decide +kernel)
/-! ArrayList, as far as the class uses it -/
def zOb (G : zG) (y : Nat) : Prop := ∃ (ci : Nat) (fs : List Value) (q : vw_C), G y = some (.inr (ci, fs)) ∧ zCl[ci]? = some q
/-- a list at a, its array at arr (its own empty one, or one of its own), its elements xs -/
def zLs (Γ : zY) (G : zG) (a arr : Nat) (xs : List Nat) : Prop :=
  ∃ (mc : Int32) (cap : Nat), G a = some (oAL mc arr (nI xs.length)) ∧ xs.length ≤ cap ∧ cap ≤ 33 ∧ ((arr = Γ.2.2 0 ∧ cap = 0) ∨ (1 ≤ cap ∧ ∃ f, G arr = some (zO Γ cap f) ∧ ∀ i, i < xs.length → f i = xs[i]?))
abbrev rm_c_ACol_init : Room := { frames := 1, cells := 0, slots := 0, locals := 20 }
set_option maxHeartbeats 4000000 in
set_option maxRecDepth 100000 in
theorem c_ACol_init (l : Launch) (Γ : zY) (G : zG) (b : Nat) : ZM l yJxa1e45_init_da8c8 cJxa1e45_init_da8c8 1 (none) rm_c_ACol_init Γ [.ref b] G (fun v G' => none = v ∧ G = G') := by
  refine z_start (by decide +kernel) [some (.ref b)] rfl (Nat.le_of_ble_eq_true rfl) ?_
  intro p e s m args below meth c Q A C F hr hnm
  first | refine z_rload_n C dJxa1e45_init_da8c8_0 rfl ?_ | refine z_nload_n C dJxa1e45_init_da8c8_0 rfl ?_ | refine z_aload_n C dJxa1e45_init_da8c8_0 rfl ?_
  refine z_obj C ko_Jxa1e45_init_da8c8_1 (Nat.le_of_ble_eq_true rfl) (Nat.le_of_ble_eq_true rfl) (Nat.le_of_ble_eq_true rfl) (Nat.le_of_ble_eq_true rfl) dJxa1e45_init_da8c8_1 ?_
  exact z_vret C F hr (Nat.le_of_ble_eq_true rfl) (Nat.le_of_ble_eq_true rfl) ⟨rfl, rfl⟩ dJxa1e45_init_da8c8_4
abbrev rm_c_ALst_init : Room := { frames := 2, cells := 0, slots := 0, locals := 40 }
set_option maxHeartbeats 4000000 in
set_option maxRecDepth 100000 in
theorem c_ALst_init (l : Launch) (Γ : zY) (G : zG) (b : Nat) (m : Int32) (x : Value) (z : Int32) (hb : G b = some (.inr (7, [.int m, x, .int z]))) : ZM l yJxc12de_init_da8c8 cJxc12de_init_da8c8 1 (none) rm_c_ALst_init Γ [.ref b] G (fun v G' => none = v ∧ zU G b (.inr (7, [.int 0, x, .int z])) = G') := by
  refine z_start (by decide +kernel) [some (.ref b)] rfl (Nat.le_of_ble_eq_true rfl) ?_
  intro p e s m args below meth c Q A C F hr hnm
  first | refine z_rload_n C dJxc12de_init_da8c8_0 rfl ?_ | refine z_nload_n C dJxc12de_init_da8c8_0 rfl ?_ | refine z_aload_n C dJxc12de_init_da8c8_0 rfl ?_
  refine z_callI C (c_ACol_init l Γ G b) kc_Jxc12de_init_da8c8_1 rfl rfl rfl ky_Jxa1e45_init_da8c8 ⟨(Nat.le_of_ble_eq_true rfl), (Nat.le_of_ble_eq_true rfl)⟩ (Nat.le_of_ble_eq_true rfl) ⟨(Nat.le_of_ble_eq_true rfl), (Nat.le_of_ble_eq_true rfl)⟩ dJxc12de_init_da8c8_1 (fun v1 G1 hp1 => ?_)
  obtain ⟨rfl, rfl⟩ := hp1
  first | refine z_rload_n C dJxc12de_init_da8c8_4 rfl ?_ | refine z_nload_n C dJxc12de_init_da8c8_4 rfl ?_ | refine z_aload_n C dJxc12de_init_da8c8_4 rfl ?_
  refine z_iconst (v := 0) C dJxc12de_init_da8c8_5 rfl ?_
  refine z_putf (T := TJx4a65c) (N := 3) C (by first | assumption | exact zU_same _ _ _) rfl 0 (by decide) kw_108 (Or.inl rfl) rfl (tyJx4a65c_ok 0 (by decide)) rfl rfl (Nat.le_of_ble_eq_true rfl) dJxc12de_init_da8c8_6 ?_
  exact z_vret C F hr (Nat.le_of_ble_eq_true rfl) (Nat.le_of_ble_eq_true rfl) ⟨rfl, rfl⟩ dJxc12de_init_da8c8_9
abbrev rm_c_AL_init : Room := { frames := 3, cells := 0, slots := 0, locals := 60 }
set_option maxHeartbeats 4000000 in
set_option maxRecDepth 100000 in
theorem c_AL_init (l : Launch) (Γ : zY) (G : zG) (b : Nat) (hb : G b = some (.inr (7, [.int 0, .null, .int 0]))) : ZM l yJx4a65c_init_da8c8 cJx4a65c_init_da8c8 1 (none) rm_c_AL_init Γ [.ref b] G (fun v G' => none = v ∧ zU G b (oAL 0 (Γ.2.2 0) 0) = G') := by
  refine z_start (by decide +kernel) [some (.ref b)] rfl (Nat.le_of_ble_eq_true rfl) ?_
  intro p e s m args below meth c Q A C F hr hnm
  first | refine z_rload_n C dJx4a65c_init_da8c8_0 rfl ?_ | refine z_nload_n C dJx4a65c_init_da8c8_0 rfl ?_ | refine z_aload_n C dJx4a65c_init_da8c8_0 rfl ?_
  refine z_callI C (c_ALst_init l Γ G b 0 .null 0 hb) kc_Jx4a65c_init_da8c8_1 rfl rfl rfl ky_Jxc12de_init_da8c8 ⟨(Nat.le_of_ble_eq_true rfl), (Nat.le_of_ble_eq_true rfl)⟩ (Nat.le_of_ble_eq_true rfl) ⟨(Nat.le_of_ble_eq_true rfl), (Nat.le_of_ble_eq_true rfl)⟩ dJx4a65c_init_da8c8_1 (fun v1 G1 hp1 => ?_)
  obtain ⟨rfl, rfl⟩ := hp1
  first | refine z_rload_n C dJx4a65c_init_da8c8_4 rfl ?_ | refine z_nload_n C dJx4a65c_init_da8c8_4 rfl ?_ | refine z_aload_n C dJx4a65c_init_da8c8_4 rfl ?_
  refine z_gete C kw_104 dJx4a65c_init_da8c8_5 ?_
  refine z_putf (T := TJx4a65c) (N := 3) C (by first | assumption | exact zU_same _ _ _) rfl 1 (by decide) kw_106 (Or.inl rfl) rfl (tyJx4a65c_ok 1 (by decide)) rfl rfl (Nat.le_of_ble_eq_true rfl) dJx4a65c_init_da8c8_8 ?_
  exact z_vret C F hr (Nat.le_of_ble_eq_true rfl) (Nat.le_of_ble_eq_true rfl) ⟨rfl, (zU_zU _ _ _ _).symm⟩ dJx4a65c_init_da8c8_11
abbrev rm_c_size : Room := { frames := 0, cells := 0, slots := 0, locals := 0 }
set_option maxHeartbeats 4000000 in
set_option maxRecDepth 100000 in
theorem c_size (l : Launch) (Γ : zY) (G : zG) {b arr : Nat} {xs : List Nat} (hL : zLs Γ G b arr xs) : ZM l yJx4a65c_size_8abf5 cJx4a65c_size_8abf5 1 (some FieldType.int) rm_c_size Γ [.ref b] G (zRd G (.int (nI xs.length))) := by
  obtain ⟨mc, cap, hb, -⟩ := hL
  refine z_start (by decide +kernel) [some (.ref b)] rfl (Nat.le_of_ble_eq_true rfl) ?_
  intro p e s m args below meth c Q A C F hr hnm
  first | refine z_rload_n C dJx4a65c_size_8abf5_0 rfl ?_ | refine z_nload_n C dJx4a65c_size_8abf5_0 rfl ?_ | refine z_aload_n C dJx4a65c_size_8abf5_0 rfl ?_
  refine z_getf (T := TJx4a65c) (N := 3) C (by first | assumption | exact zU_same _ _ _) rfl 2 (by decide) kw_107 (Or.inl rfl) rfl dJx4a65c_size_8abf5_1 ?_
  exact z_iret C F hr (Nat.le_of_ble_eq_true rfl) (Nat.le_of_ble_eq_true rfl) ⟨rfl, rfl⟩ dJx4a65c_size_8abf5_4
abbrev rm_c_preCheck : Room := { frames := 0, cells := 0, slots := 0, locals := 0 }
set_option maxHeartbeats 4000000 in
set_option maxRecDepth 100000 in
theorem c_preCheck (l : Launch) (Γ : zY) (G : zG) {i n : Nat} (h : i < n) (hn : n < 2 ^ 31) : ZM l yJ3_checkIndex_8e157 cJ3_checkIndex_8e157 3 (some FieldType.int) rm_c_preCheck Γ [.int (nI i), .int (nI n), .null] G (zRd G (.int (nI i))) := by
  refine z_start (by decide +kernel) [some (.int (nI i)), some (.int (nI n)), some .null] rfl (Nat.le_of_ble_eq_true rfl) ?_
  intro p e s m args below meth c Q A C F hr hnm
  refine z_iload_n C dJ3_checkIndex_8e157_0 rfl ?_
  refine z_if_lt (tgt := 9) C dJ3_checkIndex_8e157_1 (by decide) (fun h1 => ?_) (fun h1 => ?_)
  · exact absurd h1 (nI_pos (by omega))
  · refine z_iload_n C dJ3_checkIndex_8e157_4 rfl ?_
    refine z_iload_n C dJ3_checkIndex_8e157_5 rfl ?_
    refine z_icmp_lt (tgt := 16) C dJ3_checkIndex_8e157_6 (by decide) (fun h6 => ?_) (fun h6 => ?_)
    · refine z_iload_n C dJ3_checkIndex_8e157_16 rfl ?_
      exact z_iret C F hr (Nat.le_of_ble_eq_true rfl) (Nat.le_of_ble_eq_true rfl) ⟨rfl, rfl⟩ dJ3_checkIndex_8e157_17
    · exact absurd (nI_lt h hn) h6
abbrev rm_c_objCheck : Room := { frames := 1, cells := 0, slots := 0, locals := 22 }
set_option maxHeartbeats 4000000 in
set_option maxRecDepth 100000 in
theorem c_objCheck (l : Launch) (Γ : zY) (G : zG) {i n : Nat} (h : i < n) (hn : n < 2 ^ 31) : ZM l yJ15_checkIndex_7cf53 cJ15_checkIndex_7cf53 2 (some FieldType.int) rm_c_objCheck Γ [.int (nI i), .int (nI n)] G (zRd G (.int (nI i))) := by
  refine z_start (by decide +kernel) [some (.int (nI i)), some (.int (nI n))] rfl (Nat.le_of_ble_eq_true rfl) ?_
  intro p e s m args below meth c Q A C F hr hnm
  refine z_iload_n C dJ15_checkIndex_7cf53_0 rfl ?_
  refine z_iload_n C dJ15_checkIndex_7cf53_1 rfl ?_
  refine z_null C dJ15_checkIndex_7cf53_2 ?_
  refine z_callS C (c_preCheck l Γ G h hn) kc_J15_checkIndex_7cf53_3 rfl rfl ky_J3_checkIndex_8e157 ⟨(Nat.le_of_ble_eq_true rfl), (Nat.le_of_ble_eq_true rfl)⟩ (Nat.le_of_ble_eq_true rfl) ⟨(Nat.le_of_ble_eq_true rfl), (Nat.le_of_ble_eq_true rfl)⟩ dJ15_checkIndex_7cf53_3 (fun v3 G3 hp3 => ?_)
  obtain ⟨rfl, rfl⟩ := hp3
  exact z_iret C F hr (Nat.le_of_ble_eq_true rfl) (Nat.le_of_ble_eq_true rfl) ⟨rfl, rfl⟩ dJ15_checkIndex_7cf53_6
abbrev rm_c_elData : Room := { frames := 0, cells := 0, slots := 0, locals := 0 }
set_option maxHeartbeats 4000000 in
set_option maxRecDepth 100000 in
theorem c_elData (l : Launch) (Γ : zY) (G : zG) {b arr cap i y : Nat} {mc sz : Int32} {f : Nat → Option Nat} (hb : G b = some (oAL mc arr sz)) (ha : G arr = some (zO Γ cap f)) (hi : i < cap) (hc : cap ≤ 33) (hy : f i = some y) : ZM l yJx4a65c_elementData_915e3 cJx4a65c_elementData_915e3 2 (some (FieldType.object "java/lang/Object")) rm_c_elData Γ [.ref b, .int (nI i)] G (zRd G (.ref y)) := by
  refine z_start (by decide +kernel) [some (.ref b), some (.int (nI i))] rfl (Nat.le_of_ble_eq_true rfl) ?_
  intro p e s m args below meth c Q A C F hr hnm
  first | refine z_rload_n C dJx4a65c_elementData_915e3_0 rfl ?_ | refine z_nload_n C dJx4a65c_elementData_915e3_0 rfl ?_ | refine z_aload_n C dJx4a65c_elementData_915e3_0 rfl ?_
  refine z_getf (T := TJx4a65c) (N := 3) C (by first | assumption | exact zU_same _ _ _) rfl 1 (by decide) kw_106 (Or.inl rfl) rfl dJx4a65c_elementData_915e3_1 ?_
  refine z_iload_n C dJx4a65c_elementData_915e3_4 rfl ?_
  refine z_aald C (by first | assumption | exact zU_same _ _ _) (vp_in_nI hi (by omega)) ((congrArg f (nI_clamp (by omega))).trans hy) dJx4a65c_elementData_915e3_5 ?_
  exact z_rret C F hr (Or.inl ⟨_, rfl⟩) (Nat.le_of_ble_eq_true rfl) (Nat.le_of_ble_eq_true rfl) ⟨rfl, rfl⟩ dJx4a65c_elementData_915e3_6
abbrev rm_c_get : Room := { frames := 2, cells := 0, slots := 0, locals := 43 }
set_option maxHeartbeats 4000000 in
set_option maxRecDepth 100000 in
theorem c_get (l : Launch) (Γ : zY) (G : zG) {b arr i y : Nat} {xs : List Nat} (hL : zLs Γ G b arr xs) (hy : xs[i]? = some y) : ZM l yJx4a65c_get_915e3 cJx4a65c_get_915e3 2 (some (FieldType.object "java/lang/Object")) rm_c_get Γ [.ref b, .int (nI i)] G (zRd G (.ref y)) := by
  obtain ⟨mc, cap, hb, h1, h2, h3⟩ := hL
  have hi : i < xs.length := (List.getElem?_eq_some_iff.mp hy).1
  rcases h3 with ⟨-, h3⟩ | ⟨-, f, ha, hf⟩
  · omega
  refine z_start (by decide +kernel) [some (.ref b), some (.int (nI i))] rfl (Nat.le_of_ble_eq_true rfl) ?_
  intro p e s m args below meth c Q A C F hr hnm
  refine z_iload_n C dJx4a65c_get_915e3_0 rfl ?_
  first | refine z_rload_n C dJx4a65c_get_915e3_1 rfl ?_ | refine z_nload_n C dJx4a65c_get_915e3_1 rfl ?_ | refine z_aload_n C dJx4a65c_get_915e3_1 rfl ?_
  refine z_getf (T := TJx4a65c) (N := 3) C (by first | assumption | exact zU_same _ _ _) rfl 2 (by decide) kw_107 (Or.inl rfl) rfl dJx4a65c_get_915e3_2 ?_
  refine z_callS C (c_objCheck l Γ G (i := i) (n := xs.length) hi (by omega)) kc_Jx4a65c_get_915e3_5 rfl rfl ky_J15_checkIndex_7cf53 ⟨(Nat.le_of_ble_eq_true rfl), (Nat.le_of_ble_eq_true rfl)⟩ (Nat.le_of_ble_eq_true rfl) ⟨(Nat.le_of_ble_eq_true rfl), (Nat.le_of_ble_eq_true rfl)⟩ dJx4a65c_get_915e3_5 (fun v5 G5 hp5 => ?_)
  obtain ⟨rfl, rfl⟩ := hp5
  refine z_pop C rfl dJx4a65c_get_915e3_8 ?_
  first | refine z_rload_n C dJx4a65c_get_915e3_9 rfl ?_ | refine z_nload_n C dJx4a65c_get_915e3_9 rfl ?_ | refine z_aload_n C dJx4a65c_get_915e3_9 rfl ?_
  refine z_iload_n C dJx4a65c_get_915e3_10 rfl ?_
  refine z_callV (q := (RJx4a65c, TJx4a65c, 3)) C (c_elData l Γ G hb ha (show i < cap by omega) h2 ((hf i hi).trans hy)) kc_Jx4a65c_get_915e3_11 (by first | assumption | exact zU_same _ _ _) rfl rfl rfl rfl ky_Jx4a65c_elementData_915e3 ⟨(Nat.le_of_ble_eq_true rfl), (Nat.le_of_ble_eq_true rfl)⟩ (Nat.le_of_ble_eq_true rfl) ⟨(Nat.le_of_ble_eq_true rfl), (Nat.le_of_ble_eq_true rfl)⟩ dJx4a65c_get_915e3_11 (fun v11 G11 hp11 => ?_)
  obtain ⟨rfl, rfl⟩ := hp11
  exact z_rret C F hr (Or.inl ⟨_, rfl⟩) (Nat.le_of_ble_eq_true rfl) (Nat.le_of_ble_eq_true rfl) ⟨rfl, rfl⟩ dJx4a65c_get_915e3_14
abbrev rm_c_newLen : Room := { frames := 1, cells := 0, slots := 0, locals := 40 }
set_option maxHeartbeats 4000000 in
set_option maxRecDepth 100000 in
theorem c_newLen (l : Launch) (Γ : zY) (G : zG) {a d h : Nat} (ha : a ≤ 1000) (hd : d ≤ 1000) (hh : h ≤ 1000) (h0 : 1 ≤ d) : ZM l yJ8_newLength_cabcc cJ8_newLength_cabcc 4 (some FieldType.int) rm_c_newLen Γ [.int (nI a), .int (nI d), .int (nI h)] G (zRd G (.int (nI (a + max d h)))) := by
  refine z_start (by decide +kernel) [some (.int (nI a)), some (.int (nI d)), some (.int (nI h)), none] rfl (Nat.le_of_ble_eq_true rfl) ?_
  intro p e s m args below meth c Q A C F hr hnm
  have em : (if nI d < nI h then nI h else nI d) = nI (max d h) := by
    by_cases q : d < h
    · rw [if_pos (nI_lt q (by omega)), Nat.max_eq_right (by omega)]
    · rw [if_neg (nI_nlt (by omega) (by omega)), Nat.max_eq_left (by omega)]
  refine z_iload_n C dJ8_newLength_cabcc_0 rfl ?_
  refine z_iload_n C dJ8_newLength_cabcc_1 rfl ?_
  refine z_iload_n C dJ8_newLength_cabcc_2 rfl ?_
  refine z_max C km_J8_newLength_cabcc_3 (Nat.le_of_ble_eq_true rfl) (Nat.le_of_ble_eq_true rfl) (Nat.le_of_ble_eq_true rfl) (Nat.le_of_ble_eq_true rfl) dJ8_newLength_cabcc_3 ?_
  rw [em]
  refine z_iadd C dJ8_newLength_cabcc_6 ?_
  rw [nI_add]
  refine z_istore_n C dJ8_newLength_cabcc_7 (by decide) ?_
  refine z_iconst (v := 0) C dJ8_newLength_cabcc_8 rfl ?_
  refine z_iload_n C dJ8_newLength_cabcc_9 rfl ?_
  refine z_icmp_ge (tgt := 21) C dJ8_newLength_cabcc_10 (by decide) (fun h10 => ?_) (fun h10 => ?_)
  · exact absurd h10 (nI_nle (by omega) (by omega))
  · refine z_iload_n C dJ8_newLength_cabcc_13 rfl ?_
    refine z_ldc C kw_352 dJ8_newLength_cabcc_14 ?_
    refine z_icmp_gt (tgt := 21) C dJ8_newLength_cabcc_16 (by decide) (fun h16 => ?_) (fun h16 => ?_)
    · exact absurd h16 (show ¬ (2147483639 : Int32) < nI (a + max d h) from nI_nlt (a := 2147483639) (b := a + max d h) (by omega) (by decide))
    · refine z_iload_n C dJ8_newLength_cabcc_19 rfl ?_
      exact z_iret C F hr (Nat.le_of_ble_eq_true rfl) (Nat.le_of_ble_eq_true rfl) ⟨rfl, rfl⟩ dJ8_newLength_cabcc_20
end
section
theorem dJ7_copyOf_6403c_0 : decode cJ7_copyOf_6403c 0 = .ok (.aload_n 2, 1) := by decide +kernel
theorem dJ7_copyOf_6403c_1 : decode cJ7_copyOf_6403c 1 = .ok (.ldc 110, 2) := by decide +kernel
theorem dJ7_copyOf_6403c_3 : decode cJ7_copyOf_6403c 3 = .ok (.if_acmp .ne 10, 3) := by decide +kernel
theorem dJ7_copyOf_6403c_6 : decode cJ7_copyOf_6403c 6 = .ok (.iload_n 1, 1) := by decide +kernel
theorem dJ7_copyOf_6403c_7 : decode cJ7_copyOf_6403c 7 = .ok (.anewarray 2, 3) := by decide +kernel
theorem dJ7_copyOf_6403c_10 : decode cJ7_copyOf_6403c 10 = .ok (.goto 14, 3) := by decide +kernel
theorem dJ7_copyOf_6403c_13 : decode cJ7_copyOf_6403c 13 = .ok (.aload_n 2, 1) := by decide +kernel
theorem dJ7_copyOf_6403c_14 : decode cJ7_copyOf_6403c 14 = .ok (.invokevirtual 90, 3) := by decide +kernel
theorem dJ7_copyOf_6403c_17 : decode cJ7_copyOf_6403c 17 = .ok (.iload_n 1, 1) := by decide +kernel
theorem dJ7_copyOf_6403c_18 : decode cJ7_copyOf_6403c 18 = .ok (.invokestatic 95, 3) := by decide +kernel
theorem dJ7_copyOf_6403c_21 : decode cJ7_copyOf_6403c 21 = .ok (.checkcast 110, 3) := by decide +kernel
theorem dJ7_copyOf_6403c_24 : decode cJ7_copyOf_6403c 24 = .ok (.astore_n 3, 1) := by decide +kernel
theorem dJ7_copyOf_6403c_25 : decode cJ7_copyOf_6403c 25 = .ok (.aload_n 0, 1) := by decide +kernel
theorem dJ7_copyOf_6403c_26 : decode cJ7_copyOf_6403c 26 = .ok (.iconst 0, 1) := by decide +kernel
theorem dJ7_copyOf_6403c_27 : decode cJ7_copyOf_6403c 27 = .ok (.aload_n 3, 1) := by decide +kernel
theorem dJ7_copyOf_6403c_28 : decode cJ7_copyOf_6403c 28 = .ok (.iconst 0, 1) := by decide +kernel
theorem dJ7_copyOf_6403c_29 : decode cJ7_copyOf_6403c 29 = .ok (.aload_n 0, 1) := by decide +kernel
theorem dJ7_copyOf_6403c_30 : decode cJ7_copyOf_6403c 30 = .ok (.arraylength, 1) := by decide +kernel
theorem dJ7_copyOf_6403c_31 : decode cJ7_copyOf_6403c 31 = .ok (.iload_n 1, 1) := by decide +kernel
theorem dJ7_copyOf_6403c_32 : decode cJ7_copyOf_6403c 32 = .ok (.invokestatic 304, 3) := by decide +kernel
theorem dJ7_copyOf_6403c_35 : decode cJ7_copyOf_6403c 35 = .ok (.invokestatic 150, 3) := by decide +kernel
theorem dJ7_copyOf_6403c_38 : decode cJ7_copyOf_6403c 38 = .ok (.aload_n 3, 1) := by decide +kernel
theorem dJ7_copyOf_6403c_39 : decode cJ7_copyOf_6403c 39 = .ok (.areturn, 1) := by decide +kernel
theorem kw_612 : Cond.classLink "java/util/Arrays" 110 "[Ljava/lang/Object;" ∈ lw_all := zin1 612 (by decide +kernel)
theorem kw_614 : Cond.classLink "java/util/Arrays" 2 "java/lang/Object" ∈ lw_all := zin1 614 (by decide +kernel)
theorem km_J7_copyOf_6403c_32 : ∀ w ∈ ([Cond.methodLink "java/util/Arrays" 304 yJ9_min_7cf53, Cond.static yJ9_min_7cf53, Cond.initialized "java/lang/Math", Cond.code yJ9_min_7cf53 prog_22_method_69_code 2 (Option.some Jvm.ClassFile.FieldType.int)] : List Cond), w ∈ lw_all := zin [367, 368, 69, 369] (by decide +kernel)
theorem kx_J7_copyOf_6403c_35 : ∀ w ∈ ([Cond.methodLink "java/util/Arrays" 150 ⟨"java/lang/System", "arraycopy", "(Ljava/lang/Object;ILjava/lang/Object;II)V"⟩, Cond.native ⟨"java/lang/System", "arraycopy", "(Ljava/lang/Object;ILjava/lang/Object;II)V"⟩, Cond.static ⟨"java/lang/System", "arraycopy", "(Ljava/lang/Object;ILjava/lang/Object;II)V"⟩, Cond.initialized "java/lang/System"] : List Cond), w ∈ lw_all := zin [370, 372, 371, 71] (by decide +kernel)
theorem dJ7_copyOf_1904c_0 : decode cJ7_copyOf_1904c 0 = .ok (.aload_n 0, 1) := by decide +kernel
theorem dJ7_copyOf_1904c_1 : decode cJ7_copyOf_1904c 1 = .ok (.iload_n 1, 1) := by decide +kernel
theorem dJ7_copyOf_1904c_2 : decode cJ7_copyOf_1904c 2 = .ok (.aload_n 0, 1) := by decide +kernel
theorem dJ7_copyOf_1904c_3 : decode cJ7_copyOf_1904c 3 = .ok (.invokevirtual 86, 3) := by decide +kernel
theorem dJ7_copyOf_1904c_6 : decode cJ7_copyOf_1904c 6 = .ok (.invokestatic 300, 3) := by decide +kernel
theorem dJ7_copyOf_1904c_9 : decode cJ7_copyOf_1904c 9 = .ok (.areturn, 1) := by decide +kernel
theorem kx_J7_copyOf_1904c_3 : ∀ w ∈ ([Cond.methodLink "java/util/Arrays" 86 ⟨"java/lang/Object", "getClass", "()Ljava/lang/Class;"⟩, Cond.selects "[Ljava/lang/Object;" ⟨"java/lang/Object", "getClass", "()Ljava/lang/Class;"⟩ ⟨"java/lang/Object", "getClass", "()Ljava/lang/Class;"⟩, Cond.instanceMethod ⟨"java/lang/Object", "getClass", "()Ljava/lang/Class;"⟩, Cond.native ⟨"java/lang/Object", "getClass", "()Ljava/lang/Class;"⟩] : List Cond), w ∈ lw_all := zin [591, 1496, 592, 608] (by decide +kernel)
theorem ky_J7_copyOf_6403c : yJ7_copyOf_6403c.cls ≠ "java/lang/invoke/MethodHandle" ∧ yJ7_copyOf_6403c.cls ≠ "java/lang/invoke/VarHandle" ∧ (parseMethodDescriptor yJ7_copyOf_6403c.desc).map (fun d => d.parameters.length) = some 3 := by decide +kernel
theorem kc_J7_copyOf_1904c_6 : ∀ w ∈ ([Cond.methodLink "java/util/Arrays" 300 yJ7_copyOf_6403c, Cond.static yJ7_copyOf_6403c, Cond.initialized "java/util/Arrays", Cond.code yJ7_copyOf_6403c prog_36_method_120_code 4 (Option.some (Jvm.ClassFile.FieldType.array (Jvm.ClassFile.FieldType.object "java/lang/Object")))] : List Cond), w ∈ lw_all := zin [609, 610, 70, 611] (by decide +kernel)
theorem dJx4a65c_grow_92f84_0 : decode cJx4a65c_grow_92f84 0 = .ok (.aload_n 0, 1) := by decide +kernel
theorem dJx4a65c_grow_92f84_1 : decode cJx4a65c_grow_92f84 1 = .ok (.getfield 9, 3) := by decide +kernel
theorem dJx4a65c_grow_92f84_4 : decode cJx4a65c_grow_92f84 4 = .ok (.arraylength, 1) := by decide +kernel
theorem dJx4a65c_grow_92f84_5 : decode cJx4a65c_grow_92f84 5 = .ok (.istore_n 2, 1) := by decide +kernel
theorem dJx4a65c_grow_92f84_6 : decode cJx4a65c_grow_92f84 6 = .ok (.iload_n 2, 1) := by decide +kernel
theorem dJx4a65c_grow_92f84_7 : decode cJx4a65c_grow_92f84 7 = .ok (.ifCond .gt 13, 3) := by decide +kernel
theorem dJx4a65c_grow_92f84_10 : decode cJx4a65c_grow_92f84 10 = .ok (.aload_n 0, 1) := by decide +kernel
theorem dJx4a65c_grow_92f84_11 : decode cJx4a65c_grow_92f84 11 = .ok (.getfield 9, 3) := by decide +kernel
theorem dJx4a65c_grow_92f84_14 : decode cJx4a65c_grow_92f84 14 = .ok (.getstatic 39, 3) := by decide +kernel
theorem dJx4a65c_grow_92f84_17 : decode cJx4a65c_grow_92f84 17 = .ok (.if_acmp .eq 28, 3) := by decide +kernel
theorem dJx4a65c_grow_92f84_20 : decode cJx4a65c_grow_92f84 20 = .ok (.iload_n 2, 1) := by decide +kernel
theorem dJx4a65c_grow_92f84_21 : decode cJx4a65c_grow_92f84 21 = .ok (.iload_n 1, 1) := by decide +kernel
theorem dJx4a65c_grow_92f84_22 : decode cJx4a65c_grow_92f84 22 = .ok (.iload_n 2, 1) := by decide +kernel
theorem dJx4a65c_grow_92f84_23 : decode cJx4a65c_grow_92f84 23 = .ok (.isub, 1) := by decide +kernel
theorem dJx4a65c_grow_92f84_24 : decode cJx4a65c_grow_92f84 24 = .ok (.iload_n 2, 1) := by decide +kernel
theorem dJx4a65c_grow_92f84_25 : decode cJx4a65c_grow_92f84 25 = .ok (.iconst 1, 1) := by decide +kernel
theorem dJx4a65c_grow_92f84_26 : decode cJx4a65c_grow_92f84 26 = .ok (.ishr, 1) := by decide +kernel
theorem dJx4a65c_grow_92f84_27 : decode cJx4a65c_grow_92f84 27 = .ok (.invokestatic 73, 3) := by decide +kernel
theorem dJx4a65c_grow_92f84_30 : decode cJx4a65c_grow_92f84 30 = .ok (.istore_n 3, 1) := by decide +kernel
theorem dJx4a65c_grow_92f84_31 : decode cJx4a65c_grow_92f84 31 = .ok (.aload_n 0, 1) := by decide +kernel
theorem dJx4a65c_grow_92f84_32 : decode cJx4a65c_grow_92f84 32 = .ok (.aload_n 0, 1) := by decide +kernel
theorem dJx4a65c_grow_92f84_33 : decode cJx4a65c_grow_92f84 33 = .ok (.getfield 9, 3) := by decide +kernel
theorem dJx4a65c_grow_92f84_36 : decode cJx4a65c_grow_92f84 36 = .ok (.iload_n 3, 1) := by decide +kernel
theorem dJx4a65c_grow_92f84_37 : decode cJx4a65c_grow_92f84 37 = .ok (.invokestatic 66, 3) := by decide +kernel
theorem dJx4a65c_grow_92f84_40 : decode cJx4a65c_grow_92f84 40 = .ok (.dup_x1, 1) := by decide +kernel
theorem dJx4a65c_grow_92f84_41 : decode cJx4a65c_grow_92f84 41 = .ok (.putfield 9, 3) := by decide +kernel
theorem dJx4a65c_grow_92f84_44 : decode cJx4a65c_grow_92f84 44 = .ok (.areturn, 1) := by decide +kernel
theorem dJx4a65c_grow_92f84_45 : decode cJx4a65c_grow_92f84 45 = .ok (.aload_n 0, 1) := by decide +kernel
theorem dJx4a65c_grow_92f84_46 : decode cJx4a65c_grow_92f84 46 = .ok (.bipush 10, 2) := by decide +kernel
theorem dJx4a65c_grow_92f84_48 : decode cJx4a65c_grow_92f84 48 = .ok (.iload_n 1, 1) := by decide +kernel
theorem dJx4a65c_grow_92f84_49 : decode cJx4a65c_grow_92f84 49 = .ok (.invokestatic 79, 3) := by decide +kernel
theorem dJx4a65c_grow_92f84_52 : decode cJx4a65c_grow_92f84 52 = .ok (.anewarray 7, 3) := by decide +kernel
theorem dJx4a65c_grow_92f84_55 : decode cJx4a65c_grow_92f84 55 = .ok (.dup_x1, 1) := by decide +kernel
theorem dJx4a65c_grow_92f84_56 : decode cJx4a65c_grow_92f84 56 = .ok (.putfield 9, 3) := by decide +kernel
theorem dJx4a65c_grow_92f84_59 : decode cJx4a65c_grow_92f84 59 = .ok (.areturn, 1) := by decide +kernel
theorem ky_J8_newLength_cabcc : yJ8_newLength_cabcc.cls ≠ "java/lang/invoke/MethodHandle" ∧ yJ8_newLength_cabcc.cls ≠ "java/lang/invoke/VarHandle" ∧ (parseMethodDescriptor yJ8_newLength_cabcc.desc).map (fun d => d.parameters.length) = some 3 := by decide +kernel
theorem kc_Jx4a65c_grow_92f84_27 : ∀ w ∈ ([Cond.methodLink "java/util/ArrayList" 73 yJ8_newLength_cabcc, Cond.static yJ8_newLength_cabcc, Cond.initialized "jdk/internal/util/ArraysSupport", Cond.code yJ8_newLength_cabcc prog_42_method_27_code 4 (Option.some Jvm.ClassFile.FieldType.int)] : List Cond), w ∈ lw_all := zin [587, 347, 68, 348] (by decide +kernel)
theorem ky_J7_copyOf_1904c : yJ7_copyOf_1904c.cls ≠ "java/lang/invoke/MethodHandle" ∧ yJ7_copyOf_1904c.cls ≠ "java/lang/invoke/VarHandle" ∧ (parseMethodDescriptor yJ7_copyOf_1904c.desc).map (fun d => d.parameters.length) = some 2 := by decide +kernel
theorem kc_Jx4a65c_grow_92f84_37 : ∀ w ∈ ([Cond.methodLink "java/util/ArrayList" 66 yJ7_copyOf_1904c, Cond.static yJ7_copyOf_1904c, Cond.initialized "java/util/Arrays", Cond.code yJ7_copyOf_1904c prog_36_method_119_code 2 (Option.some (Jvm.ClassFile.FieldType.array (Jvm.ClassFile.FieldType.object "java/lang/Object")))] : List Cond), w ∈ lw_all := zin [588, 589, 70, 590] (by decide +kernel)
theorem km_Jx4a65c_grow_92f84_49 : ∀ w ∈ ([Cond.methodLink "java/util/ArrayList" 79 yJ9_max_7cf53, Cond.static yJ9_max_7cf53, Cond.initialized "java/lang/Math", Cond.code yJ9_max_7cf53 prog_22_method_65_code 2 (Option.some Jvm.ClassFile.FieldType.int)] : List Cond), w ∈ lw_all := zin [615, 350, 69, 351] (by decide +kernel)
theorem kw_616 : Cond.classLink "java/util/ArrayList" 7 "java/lang/Object" ∈ lw_all := zin1 616 (by decide +kernel)
theorem dJx4a65c_grow_d5877_0 : decode cJx4a65c_grow_d5877 0 = .ok (.aload_n 0, 1) := by decide +kernel
theorem dJx4a65c_grow_d5877_1 : decode cJx4a65c_grow_d5877 1 = .ok (.aload_n 0, 1) := by decide +kernel
theorem dJx4a65c_grow_d5877_2 : decode cJx4a65c_grow_d5877 2 = .ok (.getfield 48, 3) := by decide +kernel
theorem dJx4a65c_grow_d5877_5 : decode cJx4a65c_grow_d5877 5 = .ok (.iconst 1, 1) := by decide +kernel
theorem dJx4a65c_grow_d5877_6 : decode cJx4a65c_grow_d5877 6 = .ok (.iadd, 1) := by decide +kernel
theorem dJx4a65c_grow_d5877_7 : decode cJx4a65c_grow_d5877 7 = .ok (.invokevirtual 69, 3) := by decide +kernel
theorem dJx4a65c_grow_d5877_10 : decode cJx4a65c_grow_d5877 10 = .ok (.areturn, 1) := by decide +kernel
theorem ky_Jx4a65c_grow_92f84 : yJx4a65c_grow_92f84.cls ≠ "java/lang/invoke/MethodHandle" ∧ yJx4a65c_grow_92f84.cls ≠ "java/lang/invoke/VarHandle" ∧ (parseMethodDescriptor yJx4a65c_grow_92f84.desc).map (fun d => d.parameters.length) = some 1 := by decide +kernel
theorem kc_Jx4a65c_grow_d5877_7 : ∀ w ∈ ([Cond.methodLink "java/util/ArrayList" 69 yJx4a65c_grow_92f84, Cond.instanceMethod yJx4a65c_grow_92f84, Cond.selects "java/util/ArrayList" yJx4a65c_grow_92f84 yJx4a65c_grow_92f84, Cond.initialized "java/util/ArrayList", Cond.code yJx4a65c_grow_92f84 prog_35_method_6_code 4 (Option.some (Jvm.ClassFile.FieldType.array (Jvm.ClassFile.FieldType.object "java/lang/Object")))] : List Cond), w ∈ lw_all := zin [583, 585, 5, 57, 586] (by decide +kernel)
theorem dJx4a65c_add_72be8_0 : decode cJx4a65c_add_72be8 0 = .ok (.iload_n 3, 1) := by decide +kernel
theorem dJx4a65c_add_72be8_1 : decode cJx4a65c_add_72be8 1 = .ok (.aload_n 2, 1) := by decide +kernel
theorem dJx4a65c_add_72be8_2 : decode cJx4a65c_add_72be8 2 = .ok (.arraylength, 1) := by decide +kernel
theorem dJx4a65c_add_72be8_3 : decode cJx4a65c_add_72be8 3 = .ok (.if_icmp .ne 8, 3) := by decide +kernel
theorem dJx4a65c_add_72be8_6 : decode cJx4a65c_add_72be8 6 = .ok (.aload_n 0, 1) := by decide +kernel
theorem dJx4a65c_add_72be8_7 : decode cJx4a65c_add_72be8 7 = .ok (.invokevirtual 129, 3) := by decide +kernel
theorem dJx4a65c_add_72be8_10 : decode cJx4a65c_add_72be8 10 = .ok (.astore_n 2, 1) := by decide +kernel
theorem dJx4a65c_add_72be8_11 : decode cJx4a65c_add_72be8 11 = .ok (.aload_n 2, 1) := by decide +kernel
theorem dJx4a65c_add_72be8_12 : decode cJx4a65c_add_72be8 12 = .ok (.iload_n 3, 1) := by decide +kernel
theorem dJx4a65c_add_72be8_13 : decode cJx4a65c_add_72be8 13 = .ok (.aload_n 1, 1) := by decide +kernel
theorem dJx4a65c_add_72be8_14 : decode cJx4a65c_add_72be8 14 = .ok (.aastore, 1) := by decide +kernel
theorem dJx4a65c_add_72be8_15 : decode cJx4a65c_add_72be8 15 = .ok (.aload_n 0, 1) := by decide +kernel
theorem dJx4a65c_add_72be8_16 : decode cJx4a65c_add_72be8 16 = .ok (.iload_n 3, 1) := by decide +kernel
theorem dJx4a65c_add_72be8_17 : decode cJx4a65c_add_72be8 17 = .ok (.iconst 1, 1) := by decide +kernel
theorem dJx4a65c_add_72be8_18 : decode cJx4a65c_add_72be8 18 = .ok (.iadd, 1) := by decide +kernel
theorem dJx4a65c_add_72be8_19 : decode cJx4a65c_add_72be8 19 = .ok (.putfield 48, 3) := by decide +kernel
theorem dJx4a65c_add_72be8_22 : decode cJx4a65c_add_72be8 22 = .ok (.return_, 1) := by decide +kernel
theorem ky_Jx4a65c_grow_d5877 : yJx4a65c_grow_d5877.cls ≠ "java/lang/invoke/MethodHandle" ∧ yJx4a65c_grow_d5877.cls ≠ "java/lang/invoke/VarHandle" ∧ (parseMethodDescriptor yJx4a65c_grow_d5877.desc).map (fun d => d.parameters.length) = some 0 := by decide +kernel
theorem kc_Jx4a65c_add_72be8_7 : ∀ w ∈ ([Cond.methodLink "java/util/ArrayList" 129 yJx4a65c_grow_d5877, Cond.instanceMethod yJx4a65c_grow_d5877, Cond.selects "java/util/ArrayList" yJx4a65c_grow_d5877 yJx4a65c_grow_d5877, Cond.initialized "java/util/ArrayList", Cond.code yJx4a65c_grow_d5877 prog_35_method_7_code 1 (Option.some (Jvm.ClassFile.FieldType.array (Jvm.ClassFile.FieldType.object "java/lang/Object")))] : List Cond), w ∈ lw_all := zin [579, 581, 4, 57, 582] (by decide +kernel)
theorem dJx4a65c_add_9ea2d_0 : decode cJx4a65c_add_9ea2d 0 = .ok (.aload_n 0, 1) := by decide +kernel
theorem dJx4a65c_add_9ea2d_1 : decode cJx4a65c_add_9ea2d 1 = .ok (.dup, 1) := by decide +kernel
theorem dJx4a65c_add_9ea2d_2 : decode cJx4a65c_add_9ea2d 2 = .ok (.getfield 63, 3) := by decide +kernel
theorem dJx4a65c_add_9ea2d_5 : decode cJx4a65c_add_9ea2d 5 = .ok (.iconst 1, 1) := by decide +kernel
theorem dJx4a65c_add_9ea2d_6 : decode cJx4a65c_add_9ea2d 6 = .ok (.iadd, 1) := by decide +kernel
theorem dJx4a65c_add_9ea2d_7 : decode cJx4a65c_add_9ea2d 7 = .ok (.putfield 63, 3) := by decide +kernel
theorem dJx4a65c_add_9ea2d_10 : decode cJx4a65c_add_9ea2d 10 = .ok (.aload_n 0, 1) := by decide +kernel
theorem dJx4a65c_add_9ea2d_11 : decode cJx4a65c_add_9ea2d 11 = .ok (.aload_n 1, 1) := by decide +kernel
theorem dJx4a65c_add_9ea2d_12 : decode cJx4a65c_add_9ea2d 12 = .ok (.aload_n 0, 1) := by decide +kernel
theorem dJx4a65c_add_9ea2d_13 : decode cJx4a65c_add_9ea2d 13 = .ok (.getfield 9, 3) := by decide +kernel
theorem dJx4a65c_add_9ea2d_16 : decode cJx4a65c_add_9ea2d 16 = .ok (.aload_n 0, 1) := by decide +kernel
theorem dJx4a65c_add_9ea2d_17 : decode cJx4a65c_add_9ea2d 17 = .ok (.getfield 48, 3) := by decide +kernel
theorem dJx4a65c_add_9ea2d_20 : decode cJx4a65c_add_9ea2d 20 = .ok (.invokevirtual 131, 3) := by decide +kernel
theorem dJx4a65c_add_9ea2d_23 : decode cJx4a65c_add_9ea2d 23 = .ok (.iconst 1, 1) := by decide +kernel
theorem dJx4a65c_add_9ea2d_24 : decode cJx4a65c_add_9ea2d 24 = .ok (.ireturn, 1) := by decide +kernel
theorem kw_109 : Cond.fieldLink "java/util/ArrayList" 63 "java/util/ArrayList" "modCount" "I" ∈ lw_all := zin1 109 (by decide +kernel)
theorem kw_110 : Cond.sameField "java/util/ArrayList" "java/util/AbstractList" "modCount" "I" ∈ lw_all := zin1 110 (by decide +kernel)
theorem ky_Jx4a65c_add_72be8 : yJx4a65c_add_72be8.cls ≠ "java/lang/invoke/MethodHandle" ∧ yJx4a65c_add_72be8.cls ≠ "java/lang/invoke/VarHandle" ∧ (parseMethodDescriptor yJx4a65c_add_72be8.desc).map (fun d => d.parameters.length) = some 3 := by decide +kernel
theorem kc_Jx4a65c_add_9ea2d_20 : ∀ w ∈ ([Cond.methodLink "java/util/ArrayList" 131 yJx4a65c_add_72be8, Cond.instanceMethod yJx4a65c_add_72be8, Cond.selects "java/util/ArrayList" yJx4a65c_add_72be8 yJx4a65c_add_72be8, Cond.initialized "java/util/ArrayList", Cond.code yJx4a65c_add_72be8 prog_35_method_24_code 4 (Option.none : Option Jvm.ClassFile.FieldType)] : List Cond), w ∈ lw_all := zin [656, 658, 7, 57, 659] (by decide +kernel)
/-! ArrayList: growth, add, clear, add at a place -/
abbrev rm_c_copyOf3 : Room := { frames := 1, cells := 1, slots := 33, locals := 40 }
set_option maxHeartbeats 4000000 in
set_option maxRecDepth 100000 in
theorem c_copyOf3 (l : Launch) (Γ : zY) (G : zG) {a n k : Nat} {f : Nat → Option Nat} (ha : G a = some (zO Γ n f)) (hk : k ≤ 33) (hn : n ≤ k) (hel : ∀ i, i < n → ∀ y, f i = some y → zOb G y) : ZM l yJ7_copyOf_6403c cJ7_copyOf_6403c 4 (some (FieldType.array (FieldType.object "java/lang/Object"))) rm_c_copyOf3 Γ [.ref a, .int (nI k), .ref (Γ.2.2 2)] G (fun v G' => ∃ q, some (.ref q) = v ∧ G q = none ∧ zU G q (zO Γ k (va_cpy f (fun _ => none) 0 0 n)) = G') := by
  refine z_start (by decide +kernel) [some (.ref a), some (.int (nI k)), some (.ref (Γ.2.2 2)), none] rfl (Nat.le_of_ble_eq_true rfl) ?_
  intro p e s m args below meth c Q A C F hr hnm
  have hmi := z_mi C
  first | refine z_rload_n C dJ7_copyOf_6403c_0 rfl ?_ | refine z_nload_n C dJ7_copyOf_6403c_0 rfl ?_ | refine z_aload_n C dJ7_copyOf_6403c_0 rfl ?_
  refine z_ldcM C hmi kw_612 dJ7_copyOf_6403c_1 ?_
  refine z_acmp_ne (tgt := 13) C dJ7_copyOf_6403c_3 (by decide) (fun h3 => ?_) (fun h3 => ?_)
  · exact absurd rfl h3
  · refine z_iload_n C dJ7_copyOf_6403c_6 rfl ?_
    refine z_newo (N := k) C kw_614 (nI_pos (by omega)) (nI_clamp (by omega)) (by omega) (Nat.le_of_ble_eq_true rfl) (by show 0 + k ≤ 33; omega) dJ7_copyOf_6403c_7 (fun a7 n7 => ?_)
    refine z_goto (tgt := 24) C dJ7_copyOf_6403c_10 (by decide) ?_
    refine z_widen (k' := 1) (n' := 33) (Nat.le_refl _) (by show 0 + k ≤ 33; omega) ?_
    have em : (if nI k < nI n then nI k else nI n) = nI n := if_neg (nI_nlt hn (by omega))
    first | refine z_rstore_n C dJ7_copyOf_6403c_24 (by decide) ?_ | refine z_nstore_n C dJ7_copyOf_6403c_24 (by decide) ?_ | refine z_astore_n C dJ7_copyOf_6403c_24 (by decide) ?_
    first | refine z_rload_n C dJ7_copyOf_6403c_25 rfl ?_ | refine z_nload_n C dJ7_copyOf_6403c_25 rfl ?_ | refine z_aload_n C dJ7_copyOf_6403c_25 rfl ?_
    refine z_iconst (v := 0) C dJ7_copyOf_6403c_26 rfl ?_
    first | refine z_rload_n C dJ7_copyOf_6403c_27 rfl ?_ | refine z_nload_n C dJ7_copyOf_6403c_27 rfl ?_ | refine z_aload_n C dJ7_copyOf_6403c_27 rfl ?_
    refine z_iconst (v := 0) C dJ7_copyOf_6403c_28 rfl ?_
    first | refine z_rload_n C dJ7_copyOf_6403c_29 rfl ?_ | refine z_nload_n C dJ7_copyOf_6403c_29 rfl ?_ | refine z_aload_n C dJ7_copyOf_6403c_29 rfl ?_
    refine z_olen C (zU_new ha n7) dJ7_copyOf_6403c_30 ?_
    refine z_iload_n C dJ7_copyOf_6403c_31 rfl ?_
    refine z_min C km_J7_copyOf_6403c_32 (Nat.le_of_ble_eq_true rfl) (Nat.le_of_ble_eq_true rfl) (Nat.le_of_ble_eq_true rfl) (Nat.le_of_ble_eq_true rfl) dJ7_copyOf_6403c_32 ?_
    rw [em]
    refine z_copy C (zU_new ha n7) (zU_same _ _ _) kx_J7_copyOf_6403c_35 0 0 n rfl rfl rfl ⟨by decide, by decide, by omega⟩ (by omega) (by omega) (fun i hi y hy => by rw [Nat.zero_add] at hy; obtain ⟨ci, fs, q', h1, h2⟩ := hel i hi y hy; exact ⟨ci, fs, q', zU_new h1 n7, h2⟩) (Nat.le_of_ble_eq_true rfl) (Nat.le_of_ble_eq_true rfl) dJ7_copyOf_6403c_35 ?_
    first | refine z_rload_n C dJ7_copyOf_6403c_38 rfl ?_ | refine z_nload_n C dJ7_copyOf_6403c_38 rfl ?_ | refine z_aload_n C dJ7_copyOf_6403c_38 rfl ?_
    exact z_rret C F hr (Or.inr ⟨_, rfl⟩) (Nat.le_of_ble_eq_true rfl) (Nat.le_of_ble_eq_true rfl) ⟨a7, rfl, n7, (zU_zU _ _ _ _).symm⟩ dJ7_copyOf_6403c_39
abbrev rm_c_copyOf2 : Room := { frames := 2, cells := 1, slots := 33, locals := 63 }
set_option maxHeartbeats 4000000 in
set_option maxRecDepth 100000 in
theorem c_copyOf2 (l : Launch) (Γ : zY) (G : zG) {a n k : Nat} {f : Nat → Option Nat} (ha : G a = some (zO Γ n f)) (hk : k ≤ 33) (hn : n ≤ k) (hel : ∀ i, i < n → ∀ y, f i = some y → zOb G y) : ZM l yJ7_copyOf_1904c cJ7_copyOf_1904c 2 (some (FieldType.array (FieldType.object "java/lang/Object"))) rm_c_copyOf2 Γ [.ref a, .int (nI k)] G (fun v G' => ∃ q, some (.ref q) = v ∧ G q = none ∧ zU G q (zO Γ k (va_cpy f (fun _ => none) 0 0 n)) = G') := by
  refine z_start (by decide +kernel) [some (.ref a), some (.int (nI k))] rfl (Nat.le_of_ble_eq_true rfl) ?_
  intro p e s m args below meth c Q A C F hr hnm
  have hmi := z_mi C
  first | refine z_rload_n C dJ7_copyOf_1904c_0 rfl ?_ | refine z_nload_n C dJ7_copyOf_1904c_0 rfl ?_ | refine z_aload_n C dJ7_copyOf_1904c_0 rfl ?_
  refine z_iload_n C dJ7_copyOf_1904c_1 rfl ?_
  first | refine z_rload_n C dJ7_copyOf_1904c_2 rfl ?_ | refine z_nload_n C dJ7_copyOf_1904c_2 rfl ?_ | refine z_aload_n C dJ7_copyOf_1904c_2 rfl ?_
  refine z_getC C (by first | assumption | exact zU_same _ _ _) hmi kx_J7_copyOf_1904c_3 (Nat.le_of_ble_eq_true rfl) (Nat.le_of_ble_eq_true rfl) dJ7_copyOf_1904c_3 ?_
  refine z_callS C (c_copyOf3 l Γ G ha hk hn hel) kc_J7_copyOf_1904c_6 rfl rfl ky_J7_copyOf_6403c ⟨(Nat.le_of_ble_eq_true rfl), (Nat.le_of_ble_eq_true rfl)⟩ (Nat.le_of_ble_eq_true rfl) ⟨(Nat.le_of_ble_eq_true rfl), (Nat.le_of_ble_eq_true rfl)⟩ dJ7_copyOf_1904c_6 (fun v6 G6 hp6 => ?_)
  obtain ⟨q, rfl, hq, rfl⟩ := hp6
  exact z_rret C F hr (Or.inr ⟨_, rfl⟩) (Nat.le_of_ble_eq_true rfl) (Nat.le_of_ble_eq_true rfl) ⟨q, rfl, hq, rfl⟩ dJ7_copyOf_1904c_9
/-- growth of a full list of its own array -/
abbrev rm_c_growF : Room := { frames := 3, cells := 1, slots := 33, locals := 84 }
set_option maxHeartbeats 4000000 in
set_option maxRecDepth 100000 in
theorem c_growF (l : Launch) (Γ : zY) (G : zG) {a arr n : Nat} {mc : Int32} {f : Nat → Option Nat} (ha : G a = some (oAL mc arr (nI n))) (hz : G arr = some (zO Γ n f)) (h1 : 1 ≤ n) (hn : n < 22) (hel : ∀ i, i < n → ∀ y, f i = some y → zOb G y) : ZM l yJx4a65c_grow_92f84 cJx4a65c_grow_92f84 4 (some (FieldType.array (FieldType.object "java/lang/Object"))) rm_c_growF Γ [.ref a, .int (nI (n + 1))] G (fun v G' => ∃ q k, some (.ref q) = v ∧ G q = none ∧ n + 1 ≤ k ∧ k ≤ 33 ∧ zU (zU G q (zO Γ k (va_cpy f (fun _ => none) 0 0 n))) a (oAL mc q (nI n)) = G') := by
  refine z_start (by decide +kernel) [some (.ref a), some (.int (nI (n + 1))), none, none] rfl (Nat.le_of_ble_eq_true rfl) ?_
  intro p e s m args below meth c Q A C F hr hnm
  first | refine z_rload_n C dJx4a65c_grow_92f84_0 rfl ?_ | refine z_nload_n C dJx4a65c_grow_92f84_0 rfl ?_ | refine z_aload_n C dJx4a65c_grow_92f84_0 rfl ?_
  refine z_getf (T := TJx4a65c) (N := 3) C (by first | assumption | exact zU_same _ _ _) rfl 1 (by decide) kw_106 (Or.inl rfl) rfl dJx4a65c_grow_92f84_1 ?_
  refine z_olen C (by first | assumption | exact zU_same _ _ _) dJx4a65c_grow_92f84_4 ?_
  refine z_istore_n C dJx4a65c_grow_92f84_5 (by decide) ?_
  refine z_iload_n C dJx4a65c_grow_92f84_6 rfl ?_
  refine z_if_gt (tgt := 20) C dJx4a65c_grow_92f84_7 (by decide) (fun h7 => ?_) (fun h7 => ?_)
  · have es : nI n >>> ((1 : Int32) &&& 31) = nI (n / 2) := pk_shrN (n := n) (by omega) ((1 : Int32) &&& 31) 1 (by decide)
    have ed : nI (n + 1) - nI n = nI 1 := by
      rw [pk_sub (by omega)]
      congr 1
      omega
    refine z_iload_n C dJx4a65c_grow_92f84_20 rfl ?_
    refine z_iload_n C dJx4a65c_grow_92f84_21 rfl ?_
    refine z_iload_n C dJx4a65c_grow_92f84_22 rfl ?_
    refine z_isub C dJx4a65c_grow_92f84_23 ?_
    refine z_iload_n C dJx4a65c_grow_92f84_24 rfl ?_
    refine z_iconst (v := 1) C dJx4a65c_grow_92f84_25 rfl ?_
    refine z_ishr C es dJx4a65c_grow_92f84_26 ?_
    rw [ed]
    refine z_callS C (c_newLen l Γ G (a := n) (d := 1) (h := n / 2) (by omega) (by decide) (by omega) (by decide)) kc_Jx4a65c_grow_92f84_27 rfl rfl ky_J8_newLength_cabcc ⟨(Nat.le_of_ble_eq_true rfl), (Nat.le_of_ble_eq_true rfl)⟩ (Nat.le_of_ble_eq_true rfl) ⟨(Nat.le_of_ble_eq_true rfl), (Nat.le_of_ble_eq_true rfl)⟩ dJx4a65c_grow_92f84_27 (fun v27 G27 hp27 => ?_)
    obtain ⟨rfl, rfl⟩ := hp27
    refine z_istore_n C dJx4a65c_grow_92f84_30 (by decide) ?_
    first | refine z_rload_n C dJx4a65c_grow_92f84_31 rfl ?_ | refine z_nload_n C dJx4a65c_grow_92f84_31 rfl ?_ | refine z_aload_n C dJx4a65c_grow_92f84_31 rfl ?_
    first | refine z_rload_n C dJx4a65c_grow_92f84_32 rfl ?_ | refine z_nload_n C dJx4a65c_grow_92f84_32 rfl ?_ | refine z_aload_n C dJx4a65c_grow_92f84_32 rfl ?_
    refine z_getf (T := TJx4a65c) (N := 3) C (by first | assumption | exact zU_same _ _ _) rfl 1 (by decide) kw_106 (Or.inl rfl) rfl dJx4a65c_grow_92f84_33 ?_
    refine z_iload_n C dJx4a65c_grow_92f84_36 rfl ?_
    refine z_callS C (c_copyOf2 l Γ G hz (k := n + max 1 (n / 2)) (by omega) (by omega) hel) kc_Jx4a65c_grow_92f84_37 rfl rfl ky_J7_copyOf_1904c ⟨(Nat.le_of_ble_eq_true rfl), (Nat.le_of_ble_eq_true rfl)⟩ (Nat.le_of_ble_eq_true rfl) ⟨(Nat.le_of_ble_eq_true rfl), (Nat.le_of_ble_eq_true rfl)⟩ dJx4a65c_grow_92f84_37 (fun v37 G37 hp37 => ?_)
    obtain ⟨q, rfl, hq, rfl⟩ := hp37
    refine z_dup_x1 C rfl rfl dJx4a65c_grow_92f84_40 ?_
    refine z_putf (T := TJx4a65c) (N := 3) C (zU_new ha hq) rfl 1 (by decide) kw_106 (Or.inl rfl) rfl (tyJx4a65c_ok 1 (by decide)) rfl rfl (Nat.le_of_ble_eq_true rfl) dJx4a65c_grow_92f84_41 ?_
    exact z_rret C F hr (Or.inr ⟨_, rfl⟩) (Nat.le_of_ble_eq_true rfl) (Nat.le_of_ble_eq_true rfl) ⟨q, _, rfl, hq, (by omega), (by omega), rfl⟩ dJx4a65c_grow_92f84_44
  · exact absurd (zpos (n := n) (by omega) (by omega)) h7
/-- growth of a list that was empty from the first -/
abbrev rm_c_growE : Room := { frames := 1, cells := 1, slots := 33, locals := 40 }
set_option maxHeartbeats 4000000 in
set_option maxRecDepth 100000 in
theorem c_growE (l : Launch) (Γ : zY) (G : zG) {a : Nat} {mc : Int32} (ha : G a = some (oAL mc (Γ.2.2 0) (nI 0))) : ZM l yJx4a65c_grow_92f84 cJx4a65c_grow_92f84 4 (some (FieldType.array (FieldType.object "java/lang/Object"))) rm_c_growE Γ [.ref a, .int (nI 1)] G (fun v G' => ∃ q, some (.ref q) = v ∧ G q = none ∧ zU (zU G q (zO Γ 10 (fun _ => none))) a (oAL mc q (nI 0)) = G') := by
  refine z_start (by decide +kernel) [some (.ref a), some (.int (nI 1)), none, none] rfl (Nat.le_of_ble_eq_true rfl) ?_
  intro p e s m args below meth c Q A C F hr hnm
  first | refine z_rload_n C dJx4a65c_grow_92f84_0 rfl ?_ | refine z_nload_n C dJx4a65c_grow_92f84_0 rfl ?_ | refine z_aload_n C dJx4a65c_grow_92f84_0 rfl ?_
  refine z_getf (T := TJx4a65c) (N := 3) C (by first | assumption | exact zU_same _ _ _) rfl 1 (by decide) kw_106 (Or.inl rfl) rfl dJx4a65c_grow_92f84_1 ?_
  refine z_elen C dJx4a65c_grow_92f84_4 ?_
  refine z_istore_n C dJx4a65c_grow_92f84_5 (by decide) ?_
  refine z_iload_n C dJx4a65c_grow_92f84_6 rfl ?_
  refine z_if_gt (tgt := 20) C dJx4a65c_grow_92f84_7 (by decide) (fun h7 => ?_) (fun h7 => ?_)
  · exact absurd h7 (by decide)
  · first | refine z_rload_n C dJx4a65c_grow_92f84_10 rfl ?_ | refine z_nload_n C dJx4a65c_grow_92f84_10 rfl ?_ | refine z_aload_n C dJx4a65c_grow_92f84_10 rfl ?_
    refine z_getf (T := TJx4a65c) (N := 3) C (by first | assumption | exact zU_same _ _ _) rfl 1 (by decide) kw_106 (Or.inl rfl) rfl dJx4a65c_grow_92f84_11 ?_
    refine z_gete C kw_104 dJx4a65c_grow_92f84_14 ?_
    refine z_acmp_eq (tgt := 45) C dJx4a65c_grow_92f84_17 (by decide) (fun h17 => ?_) (fun h17 => ?_)
    · first | refine z_rload_n C dJx4a65c_grow_92f84_45 rfl ?_ | refine z_nload_n C dJx4a65c_grow_92f84_45 rfl ?_ | refine z_aload_n C dJx4a65c_grow_92f84_45 rfl ?_
      refine z_bipush (v := 10) C dJx4a65c_grow_92f84_46 rfl ?_
      refine z_iload_n C dJx4a65c_grow_92f84_48 rfl ?_
      refine z_max C km_Jx4a65c_grow_92f84_49 (Nat.le_of_ble_eq_true rfl) (Nat.le_of_ble_eq_true rfl) (Nat.le_of_ble_eq_true rfl) (Nat.le_of_ble_eq_true rfl) dJx4a65c_grow_92f84_49 ?_
      refine z_newo (N := 10) C kw_616 (by decide) (by decide) (Nat.le_of_ble_eq_true rfl) (Nat.le_of_ble_eq_true rfl) (Nat.le_of_ble_eq_true rfl) dJx4a65c_grow_92f84_52 (fun a52 n52 => ?_)
      refine z_widen (k' := 1) (n' := 33) (Nat.le_refl _) (Nat.le_of_ble_eq_true rfl) ?_
      refine z_dup_x1 C rfl rfl dJx4a65c_grow_92f84_55 ?_
      refine z_putf (T := TJx4a65c) (N := 3) C (zU_new ha n52) rfl 1 (by decide) kw_106 (Or.inl rfl) rfl (tyJx4a65c_ok 1 (by decide)) rfl rfl (Nat.le_of_ble_eq_true rfl) dJx4a65c_grow_92f84_56 ?_
      exact z_rret C F hr (Or.inr ⟨_, rfl⟩) (Nat.le_of_ble_eq_true rfl) (Nat.le_of_ble_eq_true rfl) ⟨a52, rfl, n52, rfl⟩ dJx4a65c_grow_92f84_59
    · exact absurd rfl h17
/-- grow() of a list, full or empty from the first: what it leaves -/
abbrev rm_c_grow0 : Room := { frames := 4, cells := 1, slots := 33, locals := 107 }
set_option maxHeartbeats 4000000 in
set_option maxRecDepth 100000 in
theorem c_grow0 (l : Launch) (Γ : zY) (G : zG) {a arr : Nat} {mc : Int32} {xs : List Nat} (ha : G a = some (oAL mc arr (nI xs.length))) (hn : xs.length < 22) (h : (arr = Γ.2.2 0 ∧ xs = []) ∨ (1 ≤ xs.length ∧ ∃ f, G arr = some (zO Γ xs.length f) ∧ ∀ i, i < xs.length → f i = xs[i]?)) (hx : ∀ y ∈ xs, zOb G y) :
    ZM l yJx4a65c_grow_d5877 cJx4a65c_grow_d5877 1 (some (FieldType.array (FieldType.object "java/lang/Object"))) rm_c_grow0 Γ [.ref a] G (fun v G' => ∃ q k f, some (.ref q) = v ∧ G q = none ∧ xs.length + 1 ≤ k ∧ k ≤ 33 ∧ (∀ i, i < xs.length → f i = xs[i]?) ∧ zU (zU G q (zO Γ k f)) a (oAL mc q (nI xs.length)) = G') := by
  refine z_start (by decide +kernel) [some (.ref a)] rfl (Nat.le_of_ble_eq_true rfl) ?_
  intro p e s m args below meth c Q A C F hr hnm
  first | refine z_rload_n C dJx4a65c_grow_d5877_0 rfl ?_ | refine z_nload_n C dJx4a65c_grow_d5877_0 rfl ?_ | refine z_aload_n C dJx4a65c_grow_d5877_0 rfl ?_
  first | refine z_rload_n C dJx4a65c_grow_d5877_1 rfl ?_ | refine z_nload_n C dJx4a65c_grow_d5877_1 rfl ?_ | refine z_aload_n C dJx4a65c_grow_d5877_1 rfl ?_
  refine z_getf (T := TJx4a65c) (N := 3) C (by first | assumption | exact zU_same _ _ _) rfl 2 (by decide) kw_107 (Or.inl rfl) rfl dJx4a65c_grow_d5877_2 ?_
  refine z_iconst (v := 1) C dJx4a65c_grow_d5877_5 rfl ?_
  refine z_iadd C dJx4a65c_grow_d5877_6 ?_
  rcases h with ⟨h1, h2⟩ | ⟨h1, f, hf, he⟩
  · subst h1 h2
    refine z_callV (q := (RJx4a65c, TJx4a65c, 3)) C (c_growE l Γ G ha) kc_Jx4a65c_grow_d5877_7 (by first | assumption | exact zU_same _ _ _) rfl rfl rfl rfl ky_Jx4a65c_grow_92f84 ⟨(Nat.le_of_ble_eq_true rfl), (Nat.le_of_ble_eq_true rfl)⟩ (Nat.le_of_ble_eq_true rfl) ⟨(Nat.le_of_ble_eq_true rfl), (Nat.le_of_ble_eq_true rfl)⟩ dJx4a65c_grow_d5877_7 (fun v7 G7 hp7 => ?_)
    obtain ⟨q, rfl, hq, rfl⟩ := hp7
    exact z_rret C F hr (Or.inr ⟨_, rfl⟩) (Nat.le_of_ble_eq_true rfl) (Nat.le_of_ble_eq_true rfl) ⟨q, 10, _, rfl, hq, by decide, by decide, fun i hi => absurd hi (Nat.not_lt_zero i), rfl⟩ dJx4a65c_grow_d5877_10
  · rw [← nI_succ]
    refine z_callV (q := (RJx4a65c, TJx4a65c, 3)) C (c_growF l Γ G ha hf h1 hn (fun i hi y hy => hx y (List.mem_of_getElem? ((he i hi).symm.trans hy)))) kc_Jx4a65c_grow_d5877_7 (by first | assumption | exact zU_same _ _ _) rfl rfl rfl rfl ky_Jx4a65c_grow_92f84 ⟨(Nat.le_of_ble_eq_true rfl), (Nat.le_of_ble_eq_true rfl)⟩ (Nat.le_of_ble_eq_true rfl) ⟨(Nat.le_of_ble_eq_true rfl), (Nat.le_of_ble_eq_true rfl)⟩ dJx4a65c_grow_d5877_7 (fun v7 G7 hp7 => ?_)
    obtain ⟨q, k, rfl, hq, hk1, hk2, rfl⟩ := hp7
    exact z_rret C F hr (Or.inr ⟨_, rfl⟩) (Nat.le_of_ble_eq_true rfl) (Nat.le_of_ble_eq_true rfl) ⟨q, k, _, rfl, hq, hk1, hk2, fun i hi => (by rw [← he i hi]; exact pk_cpy_in (Nat.zero_le _) (by omega) |>.trans (by rw [Nat.zero_add, Nat.sub_zero])), rfl⟩ dJx4a65c_grow_d5877_10
/-- what add leaves: the array may be another -/
def zAdd (Γ : zY) (G : zG) (a arr : Nat) (xs : List Nat) (x : Nat) (G' : zG) : Prop := ∃ arr', (arr' = arr ∨ G arr' = none) ∧ zLs Γ G' a arr' (xs ++ [x]) ∧ ∀ q, q ≠ a → q ≠ arr' → G' q = G q
theorem zO_ne_AL {Γ : zY} {n : Nat} {f : Nat → Option Nat} {o : Nat × List Value} : zO Γ n f ≠ .inr o := fun h => by cases h
theorem zG_ne {G : zG} {a b : Nat} {x y : va_E} (ha : G a = some x) (hb : G b = some y) (h : x ≠ y) : a ≠ b := fun z => h (by subst z; exact Option.some.inj (ha.symm.trans hb))
theorem zG_nn {G : zG} {a b : Nat} {x : va_E} (ha : G a = some x) (hb : G b = none) : a ≠ b := fun z => by subst z; rw [ha] at hb; cases hb
abbrev rm_c_add3 : Room := { frames := 5, cells := 1, slots := 33, locals := 127 }
set_option maxHeartbeats 4000000 in
set_option maxRecDepth 100000 in
theorem c_add3 (l : Launch) (Γ : zY) (G : zG) {a arr x : Nat} {xs : List Nat} (hL : zLs Γ G a arr xs) (hn : xs.length < 22) (hx : ∀ y ∈ xs, zOb G y) (hxo : zOb G x) (hxa : x ≠ a) :
    ZM l yJx4a65c_add_72be8 cJx4a65c_add_72be8 4 (none) rm_c_add3 Γ [.ref a, .ref x, .ref arr, .int (nI xs.length)] G (fun v G' => none = v ∧ zAdd Γ G a arr xs x G') := by
  obtain ⟨mc, cap, ha, h1, h2, h3⟩ := hL
  obtain ⟨ci, fs, q0, hxo, hc⟩ := hxo
  refine z_start (by decide +kernel) [some (.ref a), some (.ref x), some (.ref arr), some (.int (nI xs.length))] rfl (Nat.le_of_ble_eq_true rfl) ?_
  intro p e s m args below meth c Q A C F hr hnm
  have tail : ∀ (G1 : zG) (r cp : Nat) (f : Nat → Option Nat) (k n : Nat), k ≤ 1 → n ≤ 33 → (r = arr ∨ G r = none) → r ≠ a → G1 r = some (zO Γ cp f) → xs.length < cp → cp ≤ 33 → (∀ i, i < xs.length → f i = xs[i]?) → G1 a = some (oAL mc r (nI xs.length)) → G1 x = some (.inr (ci, fs)) → (∀ q, q ≠ a → q ≠ r → G1 q = G q) → Z p l e rm_c_add3 s m args below meth c Q 4 Γ A G1 k n 11 [some (.ref a), some (.ref x), some (.ref r), some (.int (nI xs.length))] [] := by
    intro G1 r cp f k n hk hn2 hr1 hra hr3 hc1 hc2 hf ha1 hx1 hfr
    first | refine z_rload_n C dJx4a65c_add_72be8_11 rfl ?_ | refine z_nload_n C dJx4a65c_add_72be8_11 rfl ?_ | refine z_aload_n C dJx4a65c_add_72be8_11 rfl ?_
    refine z_iload_n C dJx4a65c_add_72be8_12 rfl ?_
    first | refine z_rload_n C dJx4a65c_add_72be8_13 rfl ?_ | refine z_nload_n C dJx4a65c_add_72be8_13 rfl ?_ | refine z_aload_n C dJx4a65c_add_72be8_13 rfl ?_
    refine z_aast C (by first | assumption | exact zU_same _ _ _) hx1 hc (vp_in_nI hc1 (by omega)) dJx4a65c_add_72be8_14 ?_
    rw [nI_clamp (by omega)]
    first | refine z_rload_n C dJx4a65c_add_72be8_15 rfl ?_ | refine z_nload_n C dJx4a65c_add_72be8_15 rfl ?_ | refine z_aload_n C dJx4a65c_add_72be8_15 rfl ?_
    refine z_iload_n C dJx4a65c_add_72be8_16 rfl ?_
    refine z_iconst (v := 1) C dJx4a65c_add_72be8_17 rfl ?_
    refine z_iadd C dJx4a65c_add_72be8_18 ?_
    rw [← nI_succ]
    refine z_putf (T := TJx4a65c) (N := 3) C (zU_get ha1 hr3 (fun h => zO_ne_AL h.symm)) rfl 2 (by decide) kw_107 (Or.inl rfl) rfl (tyJx4a65c_ok 2 (by decide)) rfl rfl (Nat.le_of_ble_eq_true rfl) dJx4a65c_add_72be8_19 ?_
    refine z_vret C F hr hk hn2 ?_ dJx4a65c_add_72be8_22
    refine ⟨rfl, r, hr1, ⟨mc, cp, by rw [List.length_append]; exact zU_same _ _ _, by rw [List.length_append]; exact hc1, hc2, Or.inr ⟨by omega, _, by rw [zU_ne hra]; exact zU_same _ _ _, fun i hi => ?_⟩⟩, fun q h1 h2 => by rw [zU_ne h1, zU_ne h2]; exact hfr q h1 h2⟩
    rw [List.length_append, List.length_singleton] at hi
    by_cases e : i = xs.length
    · subst e
      rw [List.getElem?_append_right (Nat.le_refl _), Nat.sub_self]
      exact if_pos rfl
    · rw [List.getElem?_append_left (by omega)]
      exact (if_neg e).trans (hf i (by omega))
  have grow : ((arr = Γ.2.2 0 ∧ xs = []) ∨ (1 ≤ xs.length ∧ ∃ f, G arr = some (zO Γ xs.length f) ∧ ∀ i, i < xs.length → f i = xs[i]?)) → Z p l e rm_c_add3 s m args below meth c Q 4 Γ A G 0 0 6 [some (.ref a), some (.ref x), some (.ref arr), some (.int (nI xs.length))] [] := by
    intro hg
    first | refine z_rload_n C dJx4a65c_add_72be8_6 rfl ?_ | refine z_nload_n C dJx4a65c_add_72be8_6 rfl ?_ | refine z_aload_n C dJx4a65c_add_72be8_6 rfl ?_
    refine z_callV (q := (RJx4a65c, TJx4a65c, 3)) C (c_grow0 l Γ G ha hn hg hx) kc_Jx4a65c_add_72be8_7 (by first | assumption | exact zU_same _ _ _) rfl rfl rfl rfl ky_Jx4a65c_grow_d5877 ⟨(Nat.le_of_ble_eq_true rfl), (Nat.le_of_ble_eq_true rfl)⟩ (Nat.le_of_ble_eq_true rfl) ⟨(Nat.le_of_ble_eq_true rfl), (Nat.le_of_ble_eq_true rfl)⟩ dJx4a65c_add_72be8_7 (fun v7 G7 hp7 => ?_)
    obtain ⟨r, cp, f, rfl, hq, hk1, hk2, hf, rfl⟩ := hp7
    first | refine z_rstore_n C dJx4a65c_add_72be8_10 (by decide) ?_ | refine z_nstore_n C dJx4a65c_add_72be8_10 (by decide) ?_ | refine z_astore_n C dJx4a65c_add_72be8_10 (by decide) ?_
    have hra : r ≠ a := (zG_nn ha hq).symm
    refine tail _ r cp f _ _ (Nat.le_of_ble_eq_true rfl) (Nat.le_of_ble_eq_true rfl) (Or.inr hq) hra ?_ hk1 hk2 hf (zU_same _ _ _) ?_ (fun q h1 h2 => by rw [zU_ne h1, zU_ne h2])
    · rw [zU_ne hra]; exact zU_same _ _ _
    · rw [zU_ne hxa]; exact zU_new hxo hq
  rcases h3 with ⟨e1, e2⟩ | ⟨hc1, f, hf, hff⟩
  · have e3 : xs = [] := List.eq_nil_of_length_eq_zero (by omega)
    subst e1
    refine z_iload_n C dJx4a65c_add_72be8_0 rfl ?_
    first | refine z_rload_n C dJx4a65c_add_72be8_1 rfl ?_ | refine z_nload_n C dJx4a65c_add_72be8_1 rfl ?_ | refine z_aload_n C dJx4a65c_add_72be8_1 rfl ?_
    refine z_elen C dJx4a65c_add_72be8_2 ?_
    refine z_icmp_ne (tgt := 11) C dJx4a65c_add_72be8_3 (by decide) (fun h3 => ?_) (fun h3 => ?_)
    · exact absurd (by rw [e3]; rfl) h3
    · exact grow (Or.inl ⟨rfl, e3⟩)
  · refine z_iload_n C dJx4a65c_add_72be8_0 rfl ?_
    first | refine z_rload_n C dJx4a65c_add_72be8_1 rfl ?_ | refine z_nload_n C dJx4a65c_add_72be8_1 rfl ?_ | refine z_aload_n C dJx4a65c_add_72be8_1 rfl ?_
    refine z_olen C (by first | assumption | exact zU_same _ _ _) dJx4a65c_add_72be8_2 ?_
    refine z_icmp_ne (tgt := 11) C dJx4a65c_add_72be8_3 (by decide) (fun h3 => ?_) (fun h3 => ?_)
    · have hlt : xs.length < cap := by
        rcases Nat.lt_or_ge xs.length cap with q | q
        · exact q
        · exact absurd (by rw [show xs.length = cap by omega]) h3
      exact tail G arr cap f 0 0 (Nat.zero_le _) (Nat.zero_le _) (Or.inl rfl) (zG_ne hf ha zO_ne_AL) hf hlt h2 hff ha hxo (fun _ _ _ => rfl)
    · have e3 : xs.length = cap := (nI_eq (by omega) (by omega)).mp h3
      subst e3
      exact grow (Or.inr ⟨hc1, f, hf, hff⟩)
abbrev rm_c_add : Room := { frames := 6, cells := 1, slots := 33, locals := 150 }
set_option maxHeartbeats 4000000 in
set_option maxRecDepth 100000 in
theorem c_add (l : Launch) (Γ : zY) (G : zG) {a arr x : Nat} {xs : List Nat} (hL : zLs Γ G a arr xs) (hn : xs.length < 22) (hx : ∀ y ∈ xs, zOb G y) (hxo : zOb G x) (hxa : x ≠ a) (hya : a ∉ xs) :
    ZM l yJx4a65c_add_9ea2d cJx4a65c_add_9ea2d 2 (some FieldType.boolean) rm_c_add Γ [.ref a, .ref x] G (fun v G' => some (.int 1) = v ∧ zAdd Γ G a arr xs x G') := by
  obtain ⟨mc, cap, ha, h1, h2, h3⟩ := hL
  refine z_start (by decide +kernel) [some (.ref a), some (.ref x)] rfl (Nat.le_of_ble_eq_true rfl) ?_
  intro p e s m args below meth c Q A C F hr hnm
  first | refine z_rload_n C dJx4a65c_add_9ea2d_0 rfl ?_ | refine z_nload_n C dJx4a65c_add_9ea2d_0 rfl ?_ | refine z_aload_n C dJx4a65c_add_9ea2d_0 rfl ?_
  refine z_dup C rfl dJx4a65c_add_9ea2d_1 ?_
  refine z_getf (T := TJx4a65c) (N := 3) C (by first | assumption | exact zU_same _ _ _) rfl 0 (by decide) kw_109 (Or.inr kw_110) rfl dJx4a65c_add_9ea2d_2 ?_
  refine z_iconst (v := 1) C dJx4a65c_add_9ea2d_5 rfl ?_
  refine z_iadd C dJx4a65c_add_9ea2d_6 ?_
  refine z_putf (T := TJx4a65c) (N := 3) C (by first | assumption | exact zU_same _ _ _) rfl 0 (by decide) kw_109 (Or.inr kw_110) rfl (tyJx4a65c_ok 0 (by decide)) rfl rfl (Nat.le_of_ble_eq_true rfl) dJx4a65c_add_9ea2d_7 ?_
  first | refine z_rload_n C dJx4a65c_add_9ea2d_10 rfl ?_ | refine z_nload_n C dJx4a65c_add_9ea2d_10 rfl ?_ | refine z_aload_n C dJx4a65c_add_9ea2d_10 rfl ?_
  first | refine z_rload_n C dJx4a65c_add_9ea2d_11 rfl ?_ | refine z_nload_n C dJx4a65c_add_9ea2d_11 rfl ?_ | refine z_aload_n C dJx4a65c_add_9ea2d_11 rfl ?_
  first | refine z_rload_n C dJx4a65c_add_9ea2d_12 rfl ?_ | refine z_nload_n C dJx4a65c_add_9ea2d_12 rfl ?_ | refine z_aload_n C dJx4a65c_add_9ea2d_12 rfl ?_
  refine z_getf (T := TJx4a65c) (N := 3) C (by first | assumption | exact zU_same _ _ _) rfl 1 (by decide) kw_106 (Or.inl rfl) rfl dJx4a65c_add_9ea2d_13 ?_
  first | refine z_rload_n C dJx4a65c_add_9ea2d_16 rfl ?_ | refine z_nload_n C dJx4a65c_add_9ea2d_16 rfl ?_ | refine z_aload_n C dJx4a65c_add_9ea2d_16 rfl ?_
  refine z_getf (T := TJx4a65c) (N := 3) C (by first | assumption | exact zU_same _ _ _) rfl 2 (by decide) kw_107 (Or.inl rfl) rfl dJx4a65c_add_9ea2d_17 ?_
  have ob : ∀ y, y ≠ a → zOb G y → zOb (zU G a (oAL (mc + 1) arr (nI xs.length))) y := fun y hy ⟨ci, fs, q, h4, h5⟩ => ⟨ci, fs, q, (zU_ne hy).trans h4, h5⟩
  have hL1 : zLs Γ (zU G a (oAL (mc + 1) arr (nI xs.length))) a arr xs := by
    refine ⟨_, cap, zU_same _ _ _, h1, h2, ?_⟩
    rcases h3 with h3 | ⟨h4, f, h5, h6⟩
    · exact Or.inl h3
    · exact Or.inr ⟨h4, f, by rw [zU_ne (zG_ne h5 ha zO_ne_AL)]; exact h5, h6⟩
  refine z_callV (q := (RJx4a65c, TJx4a65c, 3)) C (c_add3 l Γ _ hL1 hn (fun y hy => ob y (fun z => hya (z ▸ hy)) (hx y hy)) (ob x hxa hxo) hxa) kc_Jx4a65c_add_9ea2d_20 (by first | assumption | exact zU_same _ _ _) rfl rfl rfl rfl ky_Jx4a65c_add_72be8 ⟨(Nat.le_of_ble_eq_true rfl), (Nat.le_of_ble_eq_true rfl)⟩ (Nat.le_of_ble_eq_true rfl) ⟨(Nat.le_of_ble_eq_true rfl), (Nat.le_of_ble_eq_true rfl)⟩ dJx4a65c_add_9ea2d_20 (fun v20 G20 hp20 => ?_)
  obtain ⟨rfl, arr', h4, h5, h6⟩ := hp20
  have h7 : arr' = arr ∨ G arr' = none := by
    rcases h4 with h4 | h4
    · exact Or.inl h4
    · refine Or.inr ?_
      by_cases q : arr' = a
      · rw [q, zU_same] at h4; cases h4
      · rw [zU_ne q] at h4; exact h4
  refine z_iconst (v := 1) C dJx4a65c_add_9ea2d_23 rfl ?_
  exact z_bret C F hr rfl (Nat.le_of_ble_eq_true rfl) (Nat.le_of_ble_eq_true rfl) ⟨rfl, arr', h7, h5, fun q q1 q2 => (h6 q q1 q2).trans (zU_ne q1)⟩ dJx4a65c_add_9ea2d_24
end
section
theorem dJx4a65c_clear_da8c8_0 : decode cJx4a65c_clear_da8c8 0 = .ok (.aload_n 0, 1) := by decide +kernel
theorem dJx4a65c_clear_da8c8_1 : decode cJx4a65c_clear_da8c8 1 = .ok (.dup, 1) := by decide +kernel
theorem dJx4a65c_clear_da8c8_2 : decode cJx4a65c_clear_da8c8 2 = .ok (.getfield 63, 3) := by decide +kernel
theorem dJx4a65c_clear_da8c8_5 : decode cJx4a65c_clear_da8c8 5 = .ok (.iconst 1, 1) := by decide +kernel
theorem dJx4a65c_clear_da8c8_6 : decode cJx4a65c_clear_da8c8 6 = .ok (.iadd, 1) := by decide +kernel
theorem dJx4a65c_clear_da8c8_7 : decode cJx4a65c_clear_da8c8 7 = .ok (.putfield 63, 3) := by decide +kernel
theorem dJx4a65c_clear_da8c8_10 : decode cJx4a65c_clear_da8c8 10 = .ok (.aload_n 0, 1) := by decide +kernel
theorem dJx4a65c_clear_da8c8_11 : decode cJx4a65c_clear_da8c8 11 = .ok (.getfield 9, 3) := by decide +kernel
theorem dJx4a65c_clear_da8c8_14 : decode cJx4a65c_clear_da8c8 14 = .ok (.astore_n 1, 1) := by decide +kernel
theorem dJx4a65c_clear_da8c8_15 : decode cJx4a65c_clear_da8c8 15 = .ok (.aload_n 0, 1) := by decide +kernel
theorem dJx4a65c_clear_da8c8_16 : decode cJx4a65c_clear_da8c8 16 = .ok (.getfield 48, 3) := by decide +kernel
theorem dJx4a65c_clear_da8c8_19 : decode cJx4a65c_clear_da8c8 19 = .ok (.istore_n 2, 1) := by decide +kernel
theorem dJx4a65c_clear_da8c8_20 : decode cJx4a65c_clear_da8c8 20 = .ok (.aload_n 0, 1) := by decide +kernel
theorem dJx4a65c_clear_da8c8_21 : decode cJx4a65c_clear_da8c8 21 = .ok (.iconst 0, 1) := by decide +kernel
theorem dJx4a65c_clear_da8c8_22 : decode cJx4a65c_clear_da8c8 22 = .ok (.dup_x1, 1) := by decide +kernel
theorem dJx4a65c_clear_da8c8_23 : decode cJx4a65c_clear_da8c8 23 = .ok (.putfield 48, 3) := by decide +kernel
theorem dJx4a65c_clear_da8c8_26 : decode cJx4a65c_clear_da8c8 26 = .ok (.istore_n 3, 1) := by decide +kernel
theorem dJx4a65c_clear_da8c8_27 : decode cJx4a65c_clear_da8c8 27 = .ok (.iload_n 3, 1) := by decide +kernel
theorem dJx4a65c_clear_da8c8_28 : decode cJx4a65c_clear_da8c8 28 = .ok (.iload_n 2, 1) := by decide +kernel
theorem dJx4a65c_clear_da8c8_29 : decode cJx4a65c_clear_da8c8 29 = .ok (.if_icmp .ge 13, 3) := by decide +kernel
theorem dJx4a65c_clear_da8c8_32 : decode cJx4a65c_clear_da8c8 32 = .ok (.aload_n 1, 1) := by decide +kernel
theorem dJx4a65c_clear_da8c8_33 : decode cJx4a65c_clear_da8c8 33 = .ok (.iload_n 3, 1) := by decide +kernel
theorem dJx4a65c_clear_da8c8_34 : decode cJx4a65c_clear_da8c8 34 = .ok (.aconst_null, 1) := by decide +kernel
theorem dJx4a65c_clear_da8c8_35 : decode cJx4a65c_clear_da8c8 35 = .ok (.aastore, 1) := by decide +kernel
theorem dJx4a65c_clear_da8c8_36 : decode cJx4a65c_clear_da8c8 36 = .ok (.iinc 3 1, 3) := by decide +kernel
theorem dJx4a65c_clear_da8c8_39 : decode cJx4a65c_clear_da8c8 39 = .ok (.goto (-12), 3) := by decide +kernel
theorem dJx4a65c_clear_da8c8_42 : decode cJx4a65c_clear_da8c8 42 = .ok (.return_, 1) := by decide +kernel
theorem dJx4a65c_rangeCheckForAdd_d00df_0 : decode cJx4a65c_rangeCheckForAdd_d00df 0 = .ok (.iload_n 1, 1) := by decide +kernel
theorem dJx4a65c_rangeCheckForAdd_d00df_1 : decode cJx4a65c_rangeCheckForAdd_d00df 1 = .ok (.aload_n 0, 1) := by decide +kernel
theorem dJx4a65c_rangeCheckForAdd_d00df_2 : decode cJx4a65c_rangeCheckForAdd_d00df 2 = .ok (.getfield 48, 3) := by decide +kernel
theorem dJx4a65c_rangeCheckForAdd_d00df_5 : decode cJx4a65c_rangeCheckForAdd_d00df 5 = .ok (.if_icmp .gt 7, 3) := by decide +kernel
theorem dJx4a65c_rangeCheckForAdd_d00df_8 : decode cJx4a65c_rangeCheckForAdd_d00df 8 = .ok (.iload_n 1, 1) := by decide +kernel
theorem dJx4a65c_rangeCheckForAdd_d00df_9 : decode cJx4a65c_rangeCheckForAdd_d00df 9 = .ok (.ifCond .ge 16, 3) := by decide +kernel
theorem dJx4a65c_rangeCheckForAdd_d00df_12 : decode cJx4a65c_rangeCheckForAdd_d00df 12 = .ok (.new 187, 3) := by decide +kernel
theorem dJx4a65c_rangeCheckForAdd_d00df_15 : decode cJx4a65c_rangeCheckForAdd_d00df 15 = .ok (.dup, 1) := by decide +kernel
theorem dJx4a65c_rangeCheckForAdd_d00df_16 : decode cJx4a65c_rangeCheckForAdd_d00df 16 = .ok (.aload_n 0, 1) := by decide +kernel
theorem dJx4a65c_rangeCheckForAdd_d00df_17 : decode cJx4a65c_rangeCheckForAdd_d00df 17 = .ok (.iload_n 1, 1) := by decide +kernel
theorem dJx4a65c_rangeCheckForAdd_d00df_18 : decode cJx4a65c_rangeCheckForAdd_d00df 18 = .ok (.invokevirtual 198, 3) := by decide +kernel
theorem dJx4a65c_rangeCheckForAdd_d00df_21 : decode cJx4a65c_rangeCheckForAdd_d00df 21 = .ok (.invokespecial 193, 3) := by decide +kernel
theorem dJx4a65c_rangeCheckForAdd_d00df_24 : decode cJx4a65c_rangeCheckForAdd_d00df 24 = .ok (.athrow, 1) := by decide +kernel
theorem dJx4a65c_rangeCheckForAdd_d00df_25 : decode cJx4a65c_rangeCheckForAdd_d00df 25 = .ok (.return_, 1) := by decide +kernel
theorem dJx4a65c_add_7a177_0 : decode cJx4a65c_add_7a177 0 = .ok (.aload_n 0, 1) := by decide +kernel
theorem dJx4a65c_add_7a177_1 : decode cJx4a65c_add_7a177 1 = .ok (.iload_n 1, 1) := by decide +kernel
theorem dJx4a65c_add_7a177_2 : decode cJx4a65c_add_7a177 2 = .ok (.invokevirtual 135, 3) := by decide +kernel
theorem dJx4a65c_add_7a177_5 : decode cJx4a65c_add_7a177 5 = .ok (.aload_n 0, 1) := by decide +kernel
theorem dJx4a65c_add_7a177_6 : decode cJx4a65c_add_7a177 6 = .ok (.dup, 1) := by decide +kernel
theorem dJx4a65c_add_7a177_7 : decode cJx4a65c_add_7a177 7 = .ok (.getfield 63, 3) := by decide +kernel
theorem dJx4a65c_add_7a177_10 : decode cJx4a65c_add_7a177 10 = .ok (.iconst 1, 1) := by decide +kernel
theorem dJx4a65c_add_7a177_11 : decode cJx4a65c_add_7a177 11 = .ok (.iadd, 1) := by decide +kernel
theorem dJx4a65c_add_7a177_12 : decode cJx4a65c_add_7a177 12 = .ok (.putfield 63, 3) := by decide +kernel
theorem dJx4a65c_add_7a177_15 : decode cJx4a65c_add_7a177 15 = .ok (.aload_n 0, 1) := by decide +kernel
theorem dJx4a65c_add_7a177_16 : decode cJx4a65c_add_7a177 16 = .ok (.getfield 48, 3) := by decide +kernel
theorem dJx4a65c_add_7a177_19 : decode cJx4a65c_add_7a177 19 = .ok (.dup, 1) := by decide +kernel
theorem dJx4a65c_add_7a177_20 : decode cJx4a65c_add_7a177 20 = .ok (.istore_n 3, 1) := by decide +kernel
theorem dJx4a65c_add_7a177_21 : decode cJx4a65c_add_7a177 21 = .ok (.aload_n 0, 1) := by decide +kernel
theorem dJx4a65c_add_7a177_22 : decode cJx4a65c_add_7a177 22 = .ok (.getfield 9, 3) := by decide +kernel
theorem dJx4a65c_add_7a177_25 : decode cJx4a65c_add_7a177 25 = .ok (.dup, 1) := by decide +kernel
theorem dJx4a65c_add_7a177_26 : decode cJx4a65c_add_7a177 26 = .ok (.astore 4, 2) := by decide +kernel
theorem dJx4a65c_add_7a177_28 : decode cJx4a65c_add_7a177 28 = .ok (.arraylength, 1) := by decide +kernel
theorem dJx4a65c_add_7a177_29 : decode cJx4a65c_add_7a177 29 = .ok (.if_icmp .ne 9, 3) := by decide +kernel
theorem dJx4a65c_add_7a177_32 : decode cJx4a65c_add_7a177 32 = .ok (.aload_n 0, 1) := by decide +kernel
theorem dJx4a65c_add_7a177_33 : decode cJx4a65c_add_7a177 33 = .ok (.invokevirtual 129, 3) := by decide +kernel
theorem dJx4a65c_add_7a177_36 : decode cJx4a65c_add_7a177 36 = .ok (.astore 4, 2) := by decide +kernel
theorem dJx4a65c_add_7a177_38 : decode cJx4a65c_add_7a177 38 = .ok (.aload 4, 2) := by decide +kernel
theorem dJx4a65c_add_7a177_40 : decode cJx4a65c_add_7a177 40 = .ok (.iload_n 1, 1) := by decide +kernel
theorem dJx4a65c_add_7a177_41 : decode cJx4a65c_add_7a177 41 = .ok (.aload 4, 2) := by decide +kernel
theorem dJx4a65c_add_7a177_43 : decode cJx4a65c_add_7a177 43 = .ok (.iload_n 1, 1) := by decide +kernel
theorem dJx4a65c_add_7a177_44 : decode cJx4a65c_add_7a177 44 = .ok (.iconst 1, 1) := by decide +kernel
theorem dJx4a65c_add_7a177_45 : decode cJx4a65c_add_7a177 45 = .ok (.iadd, 1) := by decide +kernel
theorem dJx4a65c_add_7a177_46 : decode cJx4a65c_add_7a177 46 = .ok (.iload_n 3, 1) := by decide +kernel
theorem dJx4a65c_add_7a177_47 : decode cJx4a65c_add_7a177 47 = .ok (.iload_n 1, 1) := by decide +kernel
theorem dJx4a65c_add_7a177_48 : decode cJx4a65c_add_7a177 48 = .ok (.isub, 1) := by decide +kernel
theorem dJx4a65c_add_7a177_49 : decode cJx4a65c_add_7a177 49 = .ok (.invokestatic 112, 3) := by decide +kernel
theorem dJx4a65c_add_7a177_52 : decode cJx4a65c_add_7a177 52 = .ok (.aload 4, 2) := by decide +kernel
theorem dJx4a65c_add_7a177_54 : decode cJx4a65c_add_7a177 54 = .ok (.iload_n 1, 1) := by decide +kernel
theorem dJx4a65c_add_7a177_55 : decode cJx4a65c_add_7a177 55 = .ok (.aload_n 2, 1) := by decide +kernel
theorem dJx4a65c_add_7a177_56 : decode cJx4a65c_add_7a177 56 = .ok (.aastore, 1) := by decide +kernel
theorem dJx4a65c_add_7a177_57 : decode cJx4a65c_add_7a177 57 = .ok (.aload_n 0, 1) := by decide +kernel
theorem dJx4a65c_add_7a177_58 : decode cJx4a65c_add_7a177 58 = .ok (.iload_n 3, 1) := by decide +kernel
theorem dJx4a65c_add_7a177_59 : decode cJx4a65c_add_7a177 59 = .ok (.iconst 1, 1) := by decide +kernel
theorem dJx4a65c_add_7a177_60 : decode cJx4a65c_add_7a177 60 = .ok (.iadd, 1) := by decide +kernel
theorem dJx4a65c_add_7a177_61 : decode cJx4a65c_add_7a177 61 = .ok (.putfield 48, 3) := by decide +kernel
theorem dJx4a65c_add_7a177_64 : decode cJx4a65c_add_7a177 64 = .ok (.return_, 1) := by decide +kernel
theorem kx_Jx4a65c_add_7a177_49 : ∀ w ∈ ([Cond.methodLink "java/util/ArrayList" 112 ⟨"java/lang/System", "arraycopy", "(Ljava/lang/Object;ILjava/lang/Object;II)V"⟩, Cond.native ⟨"java/lang/System", "arraycopy", "(Ljava/lang/Object;ILjava/lang/Object;II)V"⟩, Cond.static ⟨"java/lang/System", "arraycopy", "(Ljava/lang/Object;ILjava/lang/Object;II)V"⟩, Cond.initialized "java/lang/System"] : List Cond), w ∈ lw_all := zin [617, 372, 371, 71] (by decide +kernel)
theorem ky_Jx4a65c_rangeCheckForAdd_d00df : yJx4a65c_rangeCheckForAdd_d00df.cls ≠ "java/lang/invoke/MethodHandle" ∧ yJx4a65c_rangeCheckForAdd_d00df.cls ≠ "java/lang/invoke/VarHandle" ∧ (parseMethodDescriptor yJx4a65c_rangeCheckForAdd_d00df.desc).map (fun d => d.parameters.length) = some 1 := by decide +kernel
theorem kc_Jx4a65c_add_7a177_2 : ∀ w ∈ ([Cond.methodLink "java/util/ArrayList" 135 yJx4a65c_rangeCheckForAdd_d00df, Cond.instanceMethod yJx4a65c_rangeCheckForAdd_d00df, Cond.selects "java/util/ArrayList" yJx4a65c_rangeCheckForAdd_d00df yJx4a65c_rangeCheckForAdd_d00df, Cond.initialized "java/util/ArrayList", Cond.code yJx4a65c_rangeCheckForAdd_d00df prog_35_method_45_code 2 (Option.none : Option Jvm.ClassFile.FieldType)] : List Cond), w ∈ lw_all := zin [245, 247, 1, 57, 248] (by decide +kernel)
theorem kc_Jx4a65c_add_7a177_33 : ∀ w ∈ ([Cond.methodLink "java/util/ArrayList" 129 yJx4a65c_grow_d5877, Cond.instanceMethod yJx4a65c_grow_d5877, Cond.selects "java/util/ArrayList" yJx4a65c_grow_d5877 yJx4a65c_grow_d5877, Cond.initialized "java/util/ArrayList", Cond.code yJx4a65c_grow_d5877 prog_35_method_7_code 1 (Option.some (Jvm.ClassFile.FieldType.array (Jvm.ClassFile.FieldType.object "java/lang/Object")))] : List Cond), w ∈ lw_all := zin [579, 581, 4, 57, 582] (by decide +kernel)
/-! ArrayList: clear, add at a place -/
abbrev rm_c_clear : Room := { frames := 0, cells := 0, slots := 0, locals := 0 }
set_option maxHeartbeats 4000000 in
set_option maxRecDepth 100000 in
theorem c_clear (l : Launch) (Γ : zY) (G : zG) {a arr : Nat} {xs : List Nat} (hL : zLs Γ G a arr xs) : ZM l yJx4a65c_clear_da8c8 cJx4a65c_clear_da8c8 4 (none) rm_c_clear Γ [.ref a] G (fun v G' => none = v ∧ zLs Γ G' a arr [] ∧ ∀ q, q ≠ a → q ≠ arr → G' q = G q) := by
  obtain ⟨mc, cap, ha, h1, h2, h3⟩ := hL
  refine z_start (by decide +kernel) [some (.ref a), none, none, none] rfl (Nat.le_of_ble_eq_true rfl) ?_
  intro p e s m args below meth c Q A C F hr hnm
  first | refine z_rload_n C dJx4a65c_clear_da8c8_0 rfl ?_ | refine z_nload_n C dJx4a65c_clear_da8c8_0 rfl ?_ | refine z_aload_n C dJx4a65c_clear_da8c8_0 rfl ?_
  refine z_dup C rfl dJx4a65c_clear_da8c8_1 ?_
  refine z_getf (T := TJx4a65c) (N := 3) C (by first | assumption | exact zU_same _ _ _) rfl 0 (by decide) kw_109 (Or.inr kw_110) rfl dJx4a65c_clear_da8c8_2 ?_
  refine z_iconst (v := 1) C dJx4a65c_clear_da8c8_5 rfl ?_
  refine z_iadd C dJx4a65c_clear_da8c8_6 ?_
  refine z_putf (T := TJx4a65c) (N := 3) C (by first | assumption | exact zU_same _ _ _) rfl 0 (by decide) kw_109 (Or.inr kw_110) rfl (tyJx4a65c_ok 0 (by decide)) rfl rfl (Nat.le_of_ble_eq_true rfl) dJx4a65c_clear_da8c8_7 ?_
  first | refine z_rload_n C dJx4a65c_clear_da8c8_10 rfl ?_ | refine z_nload_n C dJx4a65c_clear_da8c8_10 rfl ?_ | refine z_aload_n C dJx4a65c_clear_da8c8_10 rfl ?_
  refine z_getf (T := TJx4a65c) (N := 3) C (by first | assumption | exact zU_same _ _ _) rfl 1 (by decide) kw_106 (Or.inl rfl) rfl dJx4a65c_clear_da8c8_11 ?_
  first | refine z_rstore_n C dJx4a65c_clear_da8c8_14 (by decide) ?_ | refine z_nstore_n C dJx4a65c_clear_da8c8_14 (by decide) ?_ | refine z_astore_n C dJx4a65c_clear_da8c8_14 (by decide) ?_
  first | refine z_rload_n C dJx4a65c_clear_da8c8_15 rfl ?_ | refine z_nload_n C dJx4a65c_clear_da8c8_15 rfl ?_ | refine z_aload_n C dJx4a65c_clear_da8c8_15 rfl ?_
  refine z_getf (T := TJx4a65c) (N := 3) C (by first | assumption | exact zU_same _ _ _) rfl 2 (by decide) kw_107 (Or.inl rfl) rfl dJx4a65c_clear_da8c8_16 ?_
  refine z_istore_n C dJx4a65c_clear_da8c8_19 (by decide) ?_
  first | refine z_rload_n C dJx4a65c_clear_da8c8_20 rfl ?_ | refine z_nload_n C dJx4a65c_clear_da8c8_20 rfl ?_ | refine z_aload_n C dJx4a65c_clear_da8c8_20 rfl ?_
  refine z_iconst (v := 0) C dJx4a65c_clear_da8c8_21 rfl ?_
  refine z_dup_x1 C rfl rfl dJx4a65c_clear_da8c8_22 ?_
  refine z_putf (T := TJx4a65c) (N := 3) C (by first | assumption | exact zU_same _ _ _) rfl 2 (by decide) kw_107 (Or.inl rfl) rfl (tyJx4a65c_ok 2 (by decide)) rfl rfl (Nat.le_of_ble_eq_true rfl) dJx4a65c_clear_da8c8_23 ?_
  refine z_istore_n C dJx4a65c_clear_da8c8_26 (by decide) ?_
  rw [zU_zU]
  have loop : ∀ (d i : Nat) (G1 : zG), i + d = xs.length → zLs Γ G1 a arr [] → (1 ≤ cap → ∃ f, G1 arr = some (zO Γ cap f)) → (∀ q, q ≠ a → q ≠ arr → G1 q = G q) → (xs.length = 0 ∨ 1 ≤ cap) → Z p l e rm_c_clear s m args below meth c Q 4 Γ A G1 0 0 27 [some (.ref a), some (.ref arr), some (.int (nI xs.length)), some (.int (nI i))] [] := by
    intro d
    induction d with
    | zero =>
      intro i G1 hd hl1 hf hfr hc
      refine z_iload_n C dJx4a65c_clear_da8c8_27 rfl ?_
      refine z_iload_n C dJx4a65c_clear_da8c8_28 rfl ?_
      refine z_icmp_ge (tgt := 42) C dJx4a65c_clear_da8c8_29 (by decide) (fun h29 => ?_) (fun h29 => ?_)
      · exact z_vret C F hr (Nat.le_of_ble_eq_true rfl) (Nat.le_of_ble_eq_true rfl) ⟨rfl, hl1, hfr⟩ dJx4a65c_clear_da8c8_42
      · exact absurd (nI_le (a := xs.length) (b := i) (by omega) (by omega)) h29
    | succ d ih =>
      intro i G1 hd hl1 hf hfr hc
      refine z_iload_n C dJx4a65c_clear_da8c8_27 rfl ?_
      refine z_iload_n C dJx4a65c_clear_da8c8_28 rfl ?_
      refine z_icmp_ge (tgt := 42) C dJx4a65c_clear_da8c8_29 (by decide) (fun h29 => ?_) (fun h29 => ?_)
      · exact absurd h29 (nI_ge (by omega) (by omega))
      · obtain ⟨f, hf⟩ := hf (by omega)
        first | refine z_rload_n C dJx4a65c_clear_da8c8_32 rfl ?_ | refine z_nload_n C dJx4a65c_clear_da8c8_32 rfl ?_ | refine z_aload_n C dJx4a65c_clear_da8c8_32 rfl ?_
        refine z_iload_n C dJx4a65c_clear_da8c8_33 rfl ?_
        refine z_null C dJx4a65c_clear_da8c8_34 ?_
        refine z_aastN C (by first | assumption | exact zU_same _ _ _) (vp_in_nI (n := i) (N := cap) (by omega) (by omega)) dJx4a65c_clear_da8c8_35 ?_
        rw [nI_clamp (by omega)]
        refine z_iinc (w := 1) C dJx4a65c_clear_da8c8_36 rfl rfl (by decide) ?_
        rw [← nI_succ]
        obtain ⟨m2, c2, g1, g2, g3, g4⟩ := hl1
        have hne : arr ≠ a := zG_ne hf g1 zO_ne_AL
        refine z_goto (tgt := 27) C dJx4a65c_clear_da8c8_39 (by decide) ?_
        refine ih (i + 1) _ (by omega) ⟨m2, c2, by rw [zU_ne hne.symm]; exact g1, g2, g3, ?_⟩ (fun _ => ⟨_, zU_same _ _ _⟩) (fun q q1 q2 => by rw [zU_ne q2]; exact hfr q q1 q2) hc
        rcases g4 with g4 | ⟨g4, f2, g5, g6⟩
        · exact Or.inl g4
        · rw [hf] at g5
          have ec : cap = c2 := by cases g5; rfl
          subst ec
          exact Or.inr ⟨g4, _, zU_same _ _ _, fun i hi => absurd hi (Nat.not_lt_zero i)⟩
  refine loop xs.length 0 _ (Nat.zero_add _) ?_ ?_ (fun q q1 _ => zU_ne q1) ?_
  · refine ⟨mc + 1, cap, zU_same _ _ _, Nat.zero_le _, h2, ?_⟩
    rcases h3 with h3 | ⟨h4, f, h5, h6⟩
    · exact Or.inl h3
    · exact Or.inr ⟨h4, f, by rw [zU_ne (zG_ne h5 ha zO_ne_AL)]; exact h5, fun i hi => absurd hi (Nat.not_lt_zero i)⟩
  · intro hc
    rcases h3 with ⟨h3, h4⟩ | ⟨h4, f, h5, h6⟩
    · omega
    · exact ⟨f, by rw [zU_ne (zG_ne h5 ha zO_ne_AL)]; exact h5⟩
  · rcases h3 with ⟨h3, h4⟩ | ⟨h4, f, h5, h6⟩
    · exact Or.inl (by omega)
    · exact Or.inr h4
abbrev rm_c_rangeAdd : Room := { frames := 0, cells := 0, slots := 0, locals := 0 }
set_option maxHeartbeats 4000000 in
set_option maxRecDepth 100000 in
theorem c_rangeAdd (l : Launch) (Γ : zY) (G : zG) {a arr i n : Nat} {mc : Int32} (ha : G a = some (oAL mc arr (nI n))) (hi : i ≤ n) (hn : n < 2 ^ 31) : ZM l yJx4a65c_rangeCheckForAdd_d00df cJx4a65c_rangeCheckForAdd_d00df 2 (none) rm_c_rangeAdd Γ [.ref a, .int (nI i)] G (fun v G' => none = v ∧ G = G') := by
  refine z_start (by decide +kernel) [some (.ref a), some (.int (nI i))] rfl (Nat.le_of_ble_eq_true rfl) ?_
  intro p e s m args below meth c Q A C F hr hnm
  refine z_iload_n C dJx4a65c_rangeCheckForAdd_d00df_0 rfl ?_
  first | refine z_rload_n C dJx4a65c_rangeCheckForAdd_d00df_1 rfl ?_ | refine z_nload_n C dJx4a65c_rangeCheckForAdd_d00df_1 rfl ?_ | refine z_aload_n C dJx4a65c_rangeCheckForAdd_d00df_1 rfl ?_
  refine z_getf (T := TJx4a65c) (N := 3) C (by first | assumption | exact zU_same _ _ _) rfl 2 (by decide) kw_107 (Or.inl rfl) rfl dJx4a65c_rangeCheckForAdd_d00df_2 ?_
  refine z_icmp_gt (tgt := 12) C dJx4a65c_rangeCheckForAdd_d00df_5 (by decide) (fun h5 => ?_) (fun h5 => ?_)
  · exact absurd h5 (nI_nlt hi hn)
  · refine z_iload_n C dJx4a65c_rangeCheckForAdd_d00df_8 rfl ?_
    refine z_if_ge (tgt := 25) C dJx4a65c_rangeCheckForAdd_d00df_9 (by decide) (fun h9 => ?_) (fun h9 => ?_)
    · exact z_vret C F hr (Nat.le_of_ble_eq_true rfl) (Nat.le_of_ble_eq_true rfl) ⟨rfl, rfl⟩ dJx4a65c_rangeCheckForAdd_d00df_25
    · exact absurd (nI_pos' (by omega)) h9
theorem s_insAt (f : Nat → Option Nat) (xs : List Nat) {i n x : Nat} (hi : i ≤ n) (hn : xs.length = n) (hf : ∀ j, j < n → f j = xs[j]?) : ∀ j, j < n + 1 → va_up (va_cpy f f i (i + 1) (n - i)) i (some x) j = (xs.take i ++ x :: xs.drop i)[j]? := by
  intro j hj
  have hl : (xs.take i).length = i := by rw [List.length_take]; omega
  rcases Nat.lt_trichotomy j i with h | h | h
  · rw [List.getElem?_append_left (by omega), List.getElem?_take_of_lt h]
    exact (if_neg (by omega)).trans ((pk_cpy_out (Or.inl (by omega))).trans (hf j (by omega)))
  · subst h
    rw [List.getElem?_append_right (by omega), hl, Nat.sub_self]
    exact if_pos rfl
  · rw [List.getElem?_append_right (by omega), hl, show j - i = (j - i - 1) + 1 by omega, List.getElem?_cons_succ, List.getElem?_drop]
    refine (if_neg (by omega)).trans ((pk_cpy_in (by omega) (by omega)).trans ((hf _ (by omega)).trans ?_))
    rw [show i + (j - (i + 1)) = i + (j - i - 1) by omega]
def zIns (Γ : zY) (G : zG) (a arr : Nat) (xs : List Nat) (i x : Nat) (G' : zG) : Prop := ∃ arr', (arr' = arr ∨ G arr' = none) ∧ zLs Γ G' a arr' (xs.take i ++ x :: xs.drop i) ∧ ∀ q, q ≠ a → q ≠ arr' → G' q = G q
abbrev rm_c_addAt : Room := { frames := 5, cells := 1, slots := 33, locals := 127 }
set_option maxHeartbeats 4000000 in
set_option maxRecDepth 100000 in
theorem c_addAt (l : Launch) (Γ : zY) (G : zG) {a arr x i : Nat} {xs : List Nat} (hL : zLs Γ G a arr xs) (hi : i ≤ xs.length) (hn : xs.length < 22) (hx : ∀ y ∈ xs, zOb G y) (hxo : zOb G x) (hxa : x ≠ a) (hya : a ∉ xs) :
    ZM l yJx4a65c_add_7a177 cJx4a65c_add_7a177 5 (none) rm_c_addAt Γ [.ref a, .int (nI i), .ref x] G (fun v G' => none = v ∧ zIns Γ G a arr xs i x G') := by
  obtain ⟨mc, cap, ha, h1, h2, h3⟩ := hL
  obtain ⟨ci, fs, q0, hxo, hc⟩ := hxo
  refine z_start (by decide +kernel) [some (.ref a), some (.int (nI i)), some (.ref x), none, none] rfl (Nat.le_of_ble_eq_true rfl) ?_
  intro p e s m args below meth c Q A C F hr hnm
  have hlen : (xs.take i ++ x :: xs.drop i).length = xs.length + 1 := by rw [List.length_append, List.length_take, List.length_cons, List.length_drop]; omega
  have tail : ∀ (G1 : zG) (r cp : Nat) (f : Nat → Option Nat) (k n : Nat), k ≤ 1 → n ≤ 33 → (r = arr ∨ G r = none) → r ≠ a → G1 r = some (zO Γ cp f) → xs.length < cp → cp ≤ 33 → (∀ i, i < xs.length → f i = xs[i]?) → (∃ m2, G1 a = some (oAL m2 r (nI xs.length))) → G1 x = some (.inr (ci, fs)) → (∀ y ∈ xs, zOb G1 y) → (∀ q, q ≠ a → q ≠ r → G1 q = G q) → Z p l e rm_c_addAt s m args below meth c Q 5 Γ A G1 k n 38 [some (.ref a), some (.int (nI i)), some (.ref x), some (.int (nI xs.length)), some (.ref r)] [] := by
    intro G1 r cp f k n hk hn2 hr1 hra hr3 hc1 hc2 hf ⟨m2, ha1⟩ hx1 hob hfr
    first | refine z_rload C dJx4a65c_add_7a177_38 rfl ?_ | refine z_aload C dJx4a65c_add_7a177_38 rfl ?_
    refine z_iload_n C dJx4a65c_add_7a177_40 rfl ?_
    first | refine z_rload C dJx4a65c_add_7a177_41 rfl ?_ | refine z_aload C dJx4a65c_add_7a177_41 rfl ?_
    refine z_iload_n C dJx4a65c_add_7a177_43 rfl ?_
    refine z_iconst (v := 1) C dJx4a65c_add_7a177_44 rfl ?_
    refine z_iadd C dJx4a65c_add_7a177_45 ?_
    refine z_iload_n C dJx4a65c_add_7a177_46 rfl ?_
    refine z_iload_n C dJx4a65c_add_7a177_47 rfl ?_
    refine z_isub C dJx4a65c_add_7a177_48 ?_
    have hxr : x ≠ r := zG_ne hx1 hr3 (fun h => zO_ne_AL h.symm)
    refine z_copy C hr3 hr3 kx_Jx4a65c_add_7a177_49 i (i + 1) (xs.length - i) rfl (nI_succ i).symm (pk_sub hi) ⟨by omega, by omega, by omega⟩ (by omega) (by omega) (fun j hj y hy => hob y (List.mem_of_getElem? ((hf (i + j) (by omega)).symm.trans hy))) (Nat.le_of_ble_eq_true rfl) (Nat.le_of_ble_eq_true rfl) dJx4a65c_add_7a177_49 ?_
    first | refine z_rload C dJx4a65c_add_7a177_52 rfl ?_ | refine z_aload C dJx4a65c_add_7a177_52 rfl ?_
    refine z_iload_n C dJx4a65c_add_7a177_54 rfl ?_
    first | refine z_rload_n C dJx4a65c_add_7a177_55 rfl ?_ | refine z_nload_n C dJx4a65c_add_7a177_55 rfl ?_ | refine z_aload_n C dJx4a65c_add_7a177_55 rfl ?_
    refine z_aast C (zU_same _ _ _) ((zU_ne hxr).trans hx1) hc (vp_in_nI (n := i) (N := cp) (by omega) (by omega)) dJx4a65c_add_7a177_56 ?_
    rw [zU_zU, nI_clamp (by omega)]
    first | refine z_rload_n C dJx4a65c_add_7a177_57 rfl ?_ | refine z_nload_n C dJx4a65c_add_7a177_57 rfl ?_ | refine z_aload_n C dJx4a65c_add_7a177_57 rfl ?_
    refine z_iload_n C dJx4a65c_add_7a177_58 rfl ?_
    refine z_iconst (v := 1) C dJx4a65c_add_7a177_59 rfl ?_
    refine z_iadd C dJx4a65c_add_7a177_60 ?_
    rw [← nI_succ]
    refine z_putf (T := TJx4a65c) (N := 3) C ((zU_ne hra.symm).trans ha1) rfl 2 (by decide) kw_107 (Or.inl rfl) rfl (tyJx4a65c_ok 2 (by decide)) rfl rfl (Nat.le_of_ble_eq_true rfl) dJx4a65c_add_7a177_61 ?_
    refine z_vret C F hr hk hn2 ?_ dJx4a65c_add_7a177_64
    refine ⟨rfl, r, hr1, ⟨m2, cp, by rw [hlen]; exact zU_same _ _ _, by rw [hlen]; exact hc1, hc2, Or.inr ⟨by omega, _, by rw [zU_ne hra]; exact zU_same _ _ _, fun j hj => ?_⟩⟩, fun q h1 h2 => by rw [zU_ne h1, zU_ne h2]; exact hfr q h1 h2⟩
    rw [hlen] at hj
    exact s_insAt f xs hi rfl hf j hj
  first | refine z_rload_n C dJx4a65c_add_7a177_0 rfl ?_ | refine z_nload_n C dJx4a65c_add_7a177_0 rfl ?_ | refine z_aload_n C dJx4a65c_add_7a177_0 rfl ?_
  refine z_iload_n C dJx4a65c_add_7a177_1 rfl ?_
  refine z_callV (q := (RJx4a65c, TJx4a65c, 3)) C (c_rangeAdd l Γ G ha hi (by omega)) kc_Jx4a65c_add_7a177_2 (by first | assumption | exact zU_same _ _ _) rfl rfl rfl rfl ky_Jx4a65c_rangeCheckForAdd_d00df ⟨(Nat.le_of_ble_eq_true rfl), (Nat.le_of_ble_eq_true rfl)⟩ (Nat.le_of_ble_eq_true rfl) ⟨(Nat.le_of_ble_eq_true rfl), (Nat.le_of_ble_eq_true rfl)⟩ dJx4a65c_add_7a177_2 (fun v2 G2 hp2 => ?_)
  obtain ⟨rfl, rfl⟩ := hp2
  have ob : ∀ y, y ≠ a → zOb G y → zOb (zU G a (oAL (mc + 1) arr (nI xs.length))) y := fun y hy ⟨ci, fs, q, h4, h5⟩ => ⟨ci, fs, q, (zU_ne hy).trans h4, h5⟩
  have hx2 : ∀ y ∈ xs, zOb (zU G a (oAL (mc + 1) arr (nI xs.length))) y := fun y hy => ob y (fun z => hya (z ▸ hy)) (hx y hy)
  have grow : ((arr = Γ.2.2 0 ∧ xs = []) ∨ (1 ≤ xs.length ∧ ∃ f, G arr = some (zO Γ xs.length f) ∧ ∀ i, i < xs.length → f i = xs[i]?)) → Z p l e rm_c_addAt s m args below meth c Q 5 Γ A (zU G a (oAL (mc + 1) arr (nI xs.length))) 0 0 32 [some (.ref a), some (.int (nI i)), some (.ref x), some (.int (nI xs.length)), some (.ref arr)] [] := by
    intro hg
    have hg2 : (arr = Γ.2.2 0 ∧ xs = []) ∨ (1 ≤ xs.length ∧ ∃ f, zU G a (oAL (mc + 1) arr (nI xs.length)) arr = some (zO Γ xs.length f) ∧ ∀ i, i < xs.length → f i = xs[i]?) := by
      rcases hg with hg | ⟨g1, f, g2, g3⟩
      · exact Or.inl hg
      · exact Or.inr ⟨g1, f, by rw [zU_ne (zG_ne g2 ha zO_ne_AL)]; exact g2, g3⟩
    first | refine z_rload_n C dJx4a65c_add_7a177_32 rfl ?_ | refine z_nload_n C dJx4a65c_add_7a177_32 rfl ?_ | refine z_aload_n C dJx4a65c_add_7a177_32 rfl ?_
    refine z_callV (q := (RJx4a65c, TJx4a65c, 3)) C (c_grow0 l Γ _ (zU_same _ _ _) hn hg2 hx2) kc_Jx4a65c_add_7a177_33 (zU_same _ _ _) rfl rfl rfl rfl ky_Jx4a65c_grow_d5877 ⟨(Nat.le_of_ble_eq_true rfl), (Nat.le_of_ble_eq_true rfl)⟩ (Nat.le_of_ble_eq_true rfl) ⟨(Nat.le_of_ble_eq_true rfl), (Nat.le_of_ble_eq_true rfl)⟩ dJx4a65c_add_7a177_33 (fun v33 G33 hp33 => ?_)
    obtain ⟨r, cp, f, rfl, hq, hk1, hk2, hf, rfl⟩ := hp33
    have hqa : r ≠ a := fun z => by rw [z, zU_same] at hq; cases hq
    have hqG : G r = none := by rw [zU_ne hqa] at hq; exact hq
    have hrx : x ≠ r := zG_nn hxo hqG
    first | refine z_rstore C dJx4a65c_add_7a177_36 (by decide) ?_ | refine z_astore C dJx4a65c_add_7a177_36 (by decide) ?_
    refine tail _ r cp f _ _ (Nat.le_of_ble_eq_true rfl) (Nat.le_of_ble_eq_true rfl) (Or.inr hqG) hqa ?_ hk1 hk2 hf ⟨_, zU_same _ _ _⟩ ?_ ?_ (fun q h1 h2 => by rw [zU_ne h1, zU_ne h2, zU_ne h1])
    · rw [zU_ne hqa]; exact zU_same _ _ _
    · rw [zU_ne hxa, zU_ne hrx, zU_ne hxa]; exact hxo
    · intro y hy
      obtain ⟨c1, f1, q1, g1, g2⟩ := hx y hy
      have hy2 : y ≠ a := fun z => hya (z ▸ hy)
      exact ⟨c1, f1, q1, by rw [zU_ne hy2, zU_ne (zG_nn g1 hqG), zU_ne hy2]; exact g1, g2⟩
  first | refine z_rload_n C dJx4a65c_add_7a177_5 rfl ?_ | refine z_nload_n C dJx4a65c_add_7a177_5 rfl ?_ | refine z_aload_n C dJx4a65c_add_7a177_5 rfl ?_
  refine z_dup C rfl dJx4a65c_add_7a177_6 ?_
  refine z_getf (T := TJx4a65c) (N := 3) C (by first | assumption | exact zU_same _ _ _) rfl 0 (by decide) kw_109 (Or.inr kw_110) rfl dJx4a65c_add_7a177_7 ?_
  refine z_iconst (v := 1) C dJx4a65c_add_7a177_10 rfl ?_
  refine z_iadd C dJx4a65c_add_7a177_11 ?_
  refine z_putf (T := TJx4a65c) (N := 3) C (by first | assumption | exact zU_same _ _ _) rfl 0 (by decide) kw_109 (Or.inr kw_110) rfl (tyJx4a65c_ok 0 (by decide)) rfl rfl (Nat.le_of_ble_eq_true rfl) dJx4a65c_add_7a177_12 ?_
  first | refine z_rload_n C dJx4a65c_add_7a177_15 rfl ?_ | refine z_nload_n C dJx4a65c_add_7a177_15 rfl ?_ | refine z_aload_n C dJx4a65c_add_7a177_15 rfl ?_
  refine z_getf (T := TJx4a65c) (N := 3) C (by first | assumption | exact zU_same _ _ _) rfl 2 (by decide) kw_107 (Or.inl rfl) rfl dJx4a65c_add_7a177_16 ?_
  refine z_dup C rfl dJx4a65c_add_7a177_19 ?_
  refine z_istore_n C dJx4a65c_add_7a177_20 (by decide) ?_
  first | refine z_rload_n C dJx4a65c_add_7a177_21 rfl ?_ | refine z_nload_n C dJx4a65c_add_7a177_21 rfl ?_ | refine z_aload_n C dJx4a65c_add_7a177_21 rfl ?_
  refine z_getf (T := TJx4a65c) (N := 3) C (by first | assumption | exact zU_same _ _ _) rfl 1 (by decide) kw_106 (Or.inl rfl) rfl dJx4a65c_add_7a177_22 ?_
  refine z_dup C rfl dJx4a65c_add_7a177_25 ?_
  first | refine z_rstore C dJx4a65c_add_7a177_26 (by decide) ?_ | refine z_astore C dJx4a65c_add_7a177_26 (by decide) ?_
  rcases h3 with ⟨e1, e2⟩ | ⟨hc1, f, hf, hff⟩
  · have e3 : xs = [] := List.eq_nil_of_length_eq_zero (by omega)
    subst e1
    refine z_elen C dJx4a65c_add_7a177_28 ?_
    refine z_icmp_ne (tgt := 38) C dJx4a65c_add_7a177_29 (by decide) (fun h29 => ?_) (fun h29 => ?_)
    · exact absurd (by rw [e3]; rfl) h29
    · exact grow (Or.inl ⟨rfl, e3⟩)
  · have hra : arr ≠ a := zG_ne hf ha zO_ne_AL
    refine z_olen C ((zU_ne hra).trans hf) dJx4a65c_add_7a177_28 ?_
    refine z_icmp_ne (tgt := 38) C dJx4a65c_add_7a177_29 (by decide) (fun h29 => ?_) (fun h29 => ?_)
    · have hlt : xs.length < cap := by
        rcases Nat.lt_or_ge xs.length cap with q | q
        · exact q
        · exact absurd (by rw [show xs.length = cap by omega]) h29
      exact tail _ arr cap f 0 0 (Nat.zero_le _) (Nat.zero_le _) (Or.inl rfl) hra ((zU_ne hra).trans hf) hlt h2 hff ⟨_, zU_same _ _ _⟩ ((zU_ne hxa).trans hxo) hx2 (fun q h1 _ => zU_ne h1)
    · have e3 : xs.length = cap := (nI_eq (by omega) (by omega)).mp h29
      subst e3
      exact grow (Or.inr ⟨hc1, f, hf, hff⟩)
end
section
theorem dX2_empty_0 : decode cX2_empty 0 = .ok (.aload_n 0, 1) := by decide +kernel
theorem dX2_empty_1 : decode cX2_empty 1 = .ok (.iconst 0, 1) := by decide +kernel
theorem dX2_empty_2 : decode cX2_empty 2 = .ok (.putfield 18, 3) := by decide +kernel
theorem dX2_empty_5 : decode cX2_empty 5 = .ok (.aload_n 0, 1) := by decide +kernel
theorem dX2_empty_6 : decode cX2_empty 6 = .ok (.iconst 0, 1) := by decide +kernel
theorem dX2_empty_7 : decode cX2_empty 7 = .ok (.putfield 22, 3) := by decide +kernel
theorem dX2_empty_10 : decode cX2_empty 10 = .ok (.return_, 1) := by decide +kernel
theorem kw_141 : Cond.fieldLink "QuakeBench$Row" 18 "QuakeBench$Row" "size" "I" ∈ lw_all := zin1 141 (by decide +kernel)
theorem kw_142 : Cond.fieldLink "QuakeBench$Row" 22 "QuakeBench$Row" "total" "I" ∈ lw_all := zin1 142 (by decide +kernel)
theorem dX2_put_0 : decode cX2_put 0 = .ok (.aload_n 0, 1) := by decide +kernel
theorem dX2_put_1 : decode cX2_put 1 = .ok (.getfield 18, 3) := by decide +kernel
theorem dX2_put_4 : decode cX2_put 4 = .ok (.aload_n 0, 1) := by decide +kernel
theorem dX2_put_5 : decode cX2_put 5 = .ok (.getfield 9, 3) := by decide +kernel
theorem dX2_put_8 : decode cX2_put 8 = .ok (.arraylength, 1) := by decide +kernel
theorem dX2_put_9 : decode cX2_put 9 = .ok (.if_icmp .lt 4, 3) := by decide +kernel
theorem dX2_put_12 : decode cX2_put 12 = .ok (.return_, 1) := by decide +kernel
theorem dX2_put_13 : decode cX2_put 13 = .ok (.aload_n 0, 1) := by decide +kernel
theorem dX2_put_14 : decode cX2_put 14 = .ok (.getfield 18, 3) := by decide +kernel
theorem dX2_put_17 : decode cX2_put 17 = .ok (.istore_n 3, 1) := by decide +kernel
theorem dX2_put_18 : decode cX2_put 18 = .ok (.iload_n 3, 1) := by decide +kernel
theorem dX2_put_19 : decode cX2_put 19 = .ok (.ifCond .le 49, 3) := by decide +kernel
theorem dX2_put_22 : decode cX2_put 22 = .ok (.aload_n 0, 1) := by decide +kernel
theorem dX2_put_23 : decode cX2_put 23 = .ok (.getfield 9, 3) := by decide +kernel
theorem dX2_put_26 : decode cX2_put 26 = .ok (.iload_n 3, 1) := by decide +kernel
theorem dX2_put_27 : decode cX2_put 27 = .ok (.iconst 1, 1) := by decide +kernel
theorem dX2_put_28 : decode cX2_put 28 = .ok (.isub, 1) := by decide +kernel
theorem dX2_put_29 : decode cX2_put 29 = .ok (.iaload, 1) := by decide +kernel
theorem dX2_put_30 : decode cX2_put 30 = .ok (.iload_n 1, 1) := by decide +kernel
theorem dX2_put_31 : decode cX2_put 31 = .ok (.if_icmp .le 37, 3) := by decide +kernel
theorem dX2_put_34 : decode cX2_put 34 = .ok (.aload_n 0, 1) := by decide +kernel
theorem dX2_put_35 : decode cX2_put 35 = .ok (.getfield 9, 3) := by decide +kernel
theorem dX2_put_38 : decode cX2_put 38 = .ok (.iload_n 3, 1) := by decide +kernel
theorem dX2_put_39 : decode cX2_put 39 = .ok (.aload_n 0, 1) := by decide +kernel
theorem dX2_put_40 : decode cX2_put 40 = .ok (.getfield 9, 3) := by decide +kernel
theorem dX2_put_43 : decode cX2_put 43 = .ok (.iload_n 3, 1) := by decide +kernel
theorem dX2_put_44 : decode cX2_put 44 = .ok (.iconst 1, 1) := by decide +kernel
theorem dX2_put_45 : decode cX2_put 45 = .ok (.isub, 1) := by decide +kernel
theorem dX2_put_46 : decode cX2_put 46 = .ok (.iaload, 1) := by decide +kernel
theorem dX2_put_47 : decode cX2_put 47 = .ok (.iastore, 1) := by decide +kernel
theorem dX2_put_48 : decode cX2_put 48 = .ok (.aload_n 0, 1) := by decide +kernel
theorem dX2_put_49 : decode cX2_put 49 = .ok (.getfield 15, 3) := by decide +kernel
theorem dX2_put_52 : decode cX2_put 52 = .ok (.iload_n 3, 1) := by decide +kernel
theorem dX2_put_53 : decode cX2_put 53 = .ok (.aload_n 0, 1) := by decide +kernel
theorem dX2_put_54 : decode cX2_put 54 = .ok (.getfield 15, 3) := by decide +kernel
theorem dX2_put_57 : decode cX2_put 57 = .ok (.iload_n 3, 1) := by decide +kernel
theorem dX2_put_58 : decode cX2_put 58 = .ok (.iconst 1, 1) := by decide +kernel
theorem dX2_put_59 : decode cX2_put 59 = .ok (.isub, 1) := by decide +kernel
theorem dX2_put_60 : decode cX2_put 60 = .ok (.iaload, 1) := by decide +kernel
theorem dX2_put_61 : decode cX2_put 61 = .ok (.iastore, 1) := by decide +kernel
theorem dX2_put_62 : decode cX2_put 62 = .ok (.iinc 3 (-1), 3) := by decide +kernel
theorem dX2_put_65 : decode cX2_put 65 = .ok (.goto (-47), 3) := by decide +kernel
theorem dX2_put_68 : decode cX2_put 68 = .ok (.aload_n 0, 1) := by decide +kernel
theorem dX2_put_69 : decode cX2_put 69 = .ok (.getfield 9, 3) := by decide +kernel
theorem dX2_put_72 : decode cX2_put 72 = .ok (.iload_n 3, 1) := by decide +kernel
theorem dX2_put_73 : decode cX2_put 73 = .ok (.iload_n 1, 1) := by decide +kernel
theorem dX2_put_74 : decode cX2_put 74 = .ok (.iastore, 1) := by decide +kernel
theorem dX2_put_75 : decode cX2_put 75 = .ok (.aload_n 0, 1) := by decide +kernel
theorem dX2_put_76 : decode cX2_put 76 = .ok (.getfield 15, 3) := by decide +kernel
theorem dX2_put_79 : decode cX2_put 79 = .ok (.iload_n 3, 1) := by decide +kernel
theorem dX2_put_80 : decode cX2_put 80 = .ok (.iload_n 2, 1) := by decide +kernel
theorem dX2_put_81 : decode cX2_put 81 = .ok (.iastore, 1) := by decide +kernel
theorem dX2_put_82 : decode cX2_put 82 = .ok (.aload_n 0, 1) := by decide +kernel
theorem dX2_put_83 : decode cX2_put 83 = .ok (.dup, 1) := by decide +kernel
theorem dX2_put_84 : decode cX2_put 84 = .ok (.getfield 18, 3) := by decide +kernel
theorem dX2_put_87 : decode cX2_put 87 = .ok (.iconst 1, 1) := by decide +kernel
theorem dX2_put_88 : decode cX2_put 88 = .ok (.iadd, 1) := by decide +kernel
theorem dX2_put_89 : decode cX2_put 89 = .ok (.putfield 18, 3) := by decide +kernel
theorem dX2_put_92 : decode cX2_put 92 = .ok (.aload_n 0, 1) := by decide +kernel
theorem dX2_put_93 : decode cX2_put 93 = .ok (.dup, 1) := by decide +kernel
theorem dX2_put_94 : decode cX2_put 94 = .ok (.getfield 22, 3) := by decide +kernel
theorem dX2_put_97 : decode cX2_put 97 = .ok (.iload_n 2, 1) := by decide +kernel
theorem dX2_put_98 : decode cX2_put 98 = .ok (.iadd, 1) := by decide +kernel
theorem dX2_put_99 : decode cX2_put 99 = .ok (.putfield 22, 3) := by decide +kernel
theorem dX2_put_102 : decode cX2_put 102 = .ok (.return_, 1) := by decide +kernel
theorem kw_139 : Cond.fieldLink "QuakeBench$Row" 9 "QuakeBench$Row" "numbers" "[I" ∈ lw_all := zin1 139 (by decide +kernel)
theorem kw_140 : Cond.fieldLink "QuakeBench$Row" 15 "QuakeBench$Row" "weights" "[I" ∈ lw_all := zin1 140 (by decide +kernel)
theorem dX2_middle_0 : decode cX2_middle 0 = .ok (.aload_n 0, 1) := by decide +kernel
theorem dX2_middle_1 : decode cX2_middle 1 = .ok (.getfield 22, 3) := by decide +kernel
theorem dX2_middle_4 : decode cX2_middle 4 = .ok (.iconst 1, 1) := by decide +kernel
theorem dX2_middle_5 : decode cX2_middle 5 = .ok (.isub, 1) := by decide +kernel
theorem dX2_middle_6 : decode cX2_middle 6 = .ok (.iconst 2, 1) := by decide +kernel
theorem dX2_middle_7 : decode cX2_middle 7 = .ok (.idiv, 1) := by decide +kernel
theorem dX2_middle_8 : decode cX2_middle 8 = .ok (.istore_n 1, 1) := by decide +kernel
theorem dX2_middle_9 : decode cX2_middle 9 = .ok (.iconst 0, 1) := by decide +kernel
theorem dX2_middle_10 : decode cX2_middle 10 = .ok (.istore_n 2, 1) := by decide +kernel
theorem dX2_middle_11 : decode cX2_middle 11 = .ok (.iload_n 2, 1) := by decide +kernel
theorem dX2_middle_12 : decode cX2_middle 12 = .ok (.aload_n 0, 1) := by decide +kernel
theorem dX2_middle_13 : decode cX2_middle 13 = .ok (.getfield 18, 3) := by decide +kernel
theorem dX2_middle_16 : decode cX2_middle 16 = .ok (.if_icmp .ge 29, 3) := by decide +kernel
theorem dX2_middle_19 : decode cX2_middle 19 = .ok (.iload_n 1, 1) := by decide +kernel
theorem dX2_middle_20 : decode cX2_middle 20 = .ok (.aload_n 0, 1) := by decide +kernel
theorem dX2_middle_21 : decode cX2_middle 21 = .ok (.getfield 15, 3) := by decide +kernel
theorem dX2_middle_24 : decode cX2_middle 24 = .ok (.iload_n 2, 1) := by decide +kernel
theorem dX2_middle_25 : decode cX2_middle 25 = .ok (.iaload, 1) := by decide +kernel
theorem dX2_middle_26 : decode cX2_middle 26 = .ok (.isub, 1) := by decide +kernel
theorem dX2_middle_27 : decode cX2_middle 27 = .ok (.istore_n 1, 1) := by decide +kernel
theorem dX2_middle_28 : decode cX2_middle 28 = .ok (.iload_n 1, 1) := by decide +kernel
theorem dX2_middle_29 : decode cX2_middle 29 = .ok (.ifCond .ge 10, 3) := by decide +kernel
theorem dX2_middle_32 : decode cX2_middle 32 = .ok (.aload_n 0, 1) := by decide +kernel
theorem dX2_middle_33 : decode cX2_middle 33 = .ok (.getfield 9, 3) := by decide +kernel
theorem dX2_middle_36 : decode cX2_middle 36 = .ok (.iload_n 2, 1) := by decide +kernel
theorem dX2_middle_37 : decode cX2_middle 37 = .ok (.iaload, 1) := by decide +kernel
theorem dX2_middle_38 : decode cX2_middle 38 = .ok (.ireturn, 1) := by decide +kernel
theorem dX2_middle_39 : decode cX2_middle 39 = .ok (.iinc 2 1, 3) := by decide +kernel
theorem dX2_middle_42 : decode cX2_middle 42 = .ok (.goto (-31), 3) := by decide +kernel
theorem dX2_middle_45 : decode cX2_middle 45 = .ok (.iconst 0, 1) := by decide +kernel
theorem dX2_middle_46 : decode cX2_middle 46 = .ok (.ireturn, 1) := by decide +kernel
theorem dX2_distanceFrom_0 : decode cX2_distanceFrom 0 = .ok (.lconst 0, 1) := by decide +kernel
theorem dX2_distanceFrom_1 : decode cX2_distanceFrom 1 = .ok (.lstore_n 2, 1) := by decide +kernel
theorem dX2_distanceFrom_2 : decode cX2_distanceFrom 2 = .ok (.iconst 0, 1) := by decide +kernel
theorem dX2_distanceFrom_3 : decode cX2_distanceFrom 3 = .ok (.istore 4, 2) := by decide +kernel
theorem dX2_distanceFrom_5 : decode cX2_distanceFrom 5 = .ok (.iload 4, 2) := by decide +kernel
theorem dX2_distanceFrom_7 : decode cX2_distanceFrom 7 = .ok (.aload_n 0, 1) := by decide +kernel
theorem dX2_distanceFrom_8 : decode cX2_distanceFrom 8 = .ok (.getfield 18, 3) := by decide +kernel
theorem dX2_distanceFrom_11 : decode cX2_distanceFrom 11 = .ok (.if_icmp .ge 34, 3) := by decide +kernel
theorem dX2_distanceFrom_14 : decode cX2_distanceFrom 14 = .ok (.lload_n 2, 1) := by decide +kernel
theorem dX2_distanceFrom_15 : decode cX2_distanceFrom 15 = .ok (.aload_n 0, 1) := by decide +kernel
theorem dX2_distanceFrom_16 : decode cX2_distanceFrom 16 = .ok (.getfield 15, 3) := by decide +kernel
theorem dX2_distanceFrom_19 : decode cX2_distanceFrom 19 = .ok (.iload 4, 2) := by decide +kernel
theorem dX2_distanceFrom_21 : decode cX2_distanceFrom 21 = .ok (.iaload, 1) := by decide +kernel
theorem dX2_distanceFrom_22 : decode cX2_distanceFrom 22 = .ok (.i2l, 1) := by decide +kernel
theorem dX2_distanceFrom_23 : decode cX2_distanceFrom 23 = .ok (.aload_n 0, 1) := by decide +kernel
theorem dX2_distanceFrom_24 : decode cX2_distanceFrom 24 = .ok (.getfield 9, 3) := by decide +kernel
theorem dX2_distanceFrom_27 : decode cX2_distanceFrom 27 = .ok (.iload 4, 2) := by decide +kernel
theorem dX2_distanceFrom_29 : decode cX2_distanceFrom 29 = .ok (.iaload, 1) := by decide +kernel
theorem dX2_distanceFrom_30 : decode cX2_distanceFrom 30 = .ok (.iload_n 1, 1) := by decide +kernel
theorem dX2_distanceFrom_31 : decode cX2_distanceFrom 31 = .ok (.isub, 1) := by decide +kernel
theorem dX2_distanceFrom_32 : decode cX2_distanceFrom 32 = .ok (.invokestatic 25, 3) := by decide +kernel
theorem dX2_distanceFrom_35 : decode cX2_distanceFrom 35 = .ok (.i2l, 1) := by decide +kernel
theorem dX2_distanceFrom_36 : decode cX2_distanceFrom 36 = .ok (.lmul, 1) := by decide +kernel
theorem dX2_distanceFrom_37 : decode cX2_distanceFrom 37 = .ok (.ladd, 1) := by decide +kernel
theorem dX2_distanceFrom_38 : decode cX2_distanceFrom 38 = .ok (.lstore_n 2, 1) := by decide +kernel
theorem dX2_distanceFrom_39 : decode cX2_distanceFrom 39 = .ok (.iinc 4 1, 3) := by decide +kernel
theorem dX2_distanceFrom_42 : decode cX2_distanceFrom 42 = .ok (.goto (-37), 3) := by decide +kernel
theorem dX2_distanceFrom_45 : decode cX2_distanceFrom 45 = .ok (.lload_n 2, 1) := by decide +kernel
theorem dX2_distanceFrom_46 : decode cX2_distanceFrom 46 = .ok (.lreturn, 1) := by decide +kernel
theorem km_X2_distanceFrom_32 : ∀ w ∈ ([Cond.methodLink "QuakeBench$Row" 25 yJ9_abs_0f7a4, Cond.static yJ9_abs_0f7a4, Cond.initialized "java/lang/Math", Cond.code yJ9_abs_0f7a4 prog_22_method_59_code 1 (Option.some Jvm.ClassFile.FieldType.int)] : List Cond), w ∈ lw_all := zin [766, 644, 69, 645] (by decide +kernel)
theorem dX2_widestGap_0 : decode cX2_widestGap 0 = .ok (.aload_n 0, 1) := by decide +kernel
theorem dX2_widestGap_1 : decode cX2_widestGap 1 = .ok (.getfield 18, 3) := by decide +kernel
theorem dX2_widestGap_4 : decode cX2_widestGap 4 = .ok (.iconst 2, 1) := by decide +kernel
theorem dX2_widestGap_5 : decode cX2_widestGap 5 = .ok (.if_icmp .ge 7, 3) := by decide +kernel
theorem dX2_widestGap_8 : decode cX2_widestGap 8 = .ok (.sipush 4000, 3) := by decide +kernel
theorem dX2_widestGap_11 : decode cX2_widestGap 11 = .ok (.ireturn, 1) := by decide +kernel
theorem dX2_widestGap_12 : decode cX2_widestGap 12 = .ok (.sipush 4000, 3) := by decide +kernel
theorem dX2_widestGap_15 : decode cX2_widestGap 15 = .ok (.aload_n 0, 1) := by decide +kernel
theorem dX2_widestGap_16 : decode cX2_widestGap 16 = .ok (.getfield 9, 3) := by decide +kernel
theorem dX2_widestGap_19 : decode cX2_widestGap 19 = .ok (.aload_n 0, 1) := by decide +kernel
theorem dX2_widestGap_20 : decode cX2_widestGap 20 = .ok (.getfield 18, 3) := by decide +kernel
theorem dX2_widestGap_23 : decode cX2_widestGap 23 = .ok (.iconst 1, 1) := by decide +kernel
theorem dX2_widestGap_24 : decode cX2_widestGap 24 = .ok (.isub, 1) := by decide +kernel
theorem dX2_widestGap_25 : decode cX2_widestGap 25 = .ok (.iaload, 1) := by decide +kernel
theorem dX2_widestGap_26 : decode cX2_widestGap 26 = .ok (.aload_n 0, 1) := by decide +kernel
theorem dX2_widestGap_27 : decode cX2_widestGap 27 = .ok (.getfield 9, 3) := by decide +kernel
theorem dX2_widestGap_30 : decode cX2_widestGap 30 = .ok (.iconst 0, 1) := by decide +kernel
theorem dX2_widestGap_31 : decode cX2_widestGap 31 = .ok (.iaload, 1) := by decide +kernel
theorem dX2_widestGap_32 : decode cX2_widestGap 32 = .ok (.isub, 1) := by decide +kernel
theorem dX2_widestGap_33 : decode cX2_widestGap 33 = .ok (.isub, 1) := by decide +kernel
theorem dX2_widestGap_34 : decode cX2_widestGap 34 = .ok (.istore_n 1, 1) := by decide +kernel
theorem dX2_widestGap_35 : decode cX2_widestGap 35 = .ok (.iconst 1, 1) := by decide +kernel
theorem dX2_widestGap_36 : decode cX2_widestGap 36 = .ok (.istore_n 2, 1) := by decide +kernel
theorem dX2_widestGap_37 : decode cX2_widestGap 37 = .ok (.iload_n 2, 1) := by decide +kernel
theorem dX2_widestGap_38 : decode cX2_widestGap 38 = .ok (.aload_n 0, 1) := by decide +kernel
theorem dX2_widestGap_39 : decode cX2_widestGap 39 = .ok (.getfield 18, 3) := by decide +kernel
theorem dX2_widestGap_42 : decode cX2_widestGap 42 = .ok (.if_icmp .ge 29, 3) := by decide +kernel
theorem dX2_widestGap_45 : decode cX2_widestGap 45 = .ok (.iload_n 1, 1) := by decide +kernel
theorem dX2_widestGap_46 : decode cX2_widestGap 46 = .ok (.aload_n 0, 1) := by decide +kernel
theorem dX2_widestGap_47 : decode cX2_widestGap 47 = .ok (.getfield 9, 3) := by decide +kernel
theorem dX2_widestGap_50 : decode cX2_widestGap 50 = .ok (.iload_n 2, 1) := by decide +kernel
theorem dX2_widestGap_51 : decode cX2_widestGap 51 = .ok (.iaload, 1) := by decide +kernel
theorem dX2_widestGap_52 : decode cX2_widestGap 52 = .ok (.aload_n 0, 1) := by decide +kernel
theorem dX2_widestGap_53 : decode cX2_widestGap 53 = .ok (.getfield 9, 3) := by decide +kernel
theorem dX2_widestGap_56 : decode cX2_widestGap 56 = .ok (.iload_n 2, 1) := by decide +kernel
theorem dX2_widestGap_57 : decode cX2_widestGap 57 = .ok (.iconst 1, 1) := by decide +kernel
theorem dX2_widestGap_58 : decode cX2_widestGap 58 = .ok (.isub, 1) := by decide +kernel
theorem dX2_widestGap_59 : decode cX2_widestGap 59 = .ok (.iaload, 1) := by decide +kernel
theorem dX2_widestGap_60 : decode cX2_widestGap 60 = .ok (.isub, 1) := by decide +kernel
theorem dX2_widestGap_61 : decode cX2_widestGap 61 = .ok (.invokestatic 31, 3) := by decide +kernel
theorem dX2_widestGap_64 : decode cX2_widestGap 64 = .ok (.istore_n 1, 1) := by decide +kernel
theorem dX2_widestGap_65 : decode cX2_widestGap 65 = .ok (.iinc 2 1, 3) := by decide +kernel
theorem dX2_widestGap_68 : decode cX2_widestGap 68 = .ok (.goto (-31), 3) := by decide +kernel
theorem dX2_widestGap_71 : decode cX2_widestGap 71 = .ok (.iload_n 1, 1) := by decide +kernel
theorem dX2_widestGap_72 : decode cX2_widestGap 72 = .ok (.ireturn, 1) := by decide +kernel
theorem km_X2_widestGap_61 : ∀ w ∈ ([Cond.methodLink "QuakeBench$Row" 31 yJ9_max_7cf53, Cond.static yJ9_max_7cf53, Cond.initialized "java/lang/Math", Cond.code yJ9_max_7cf53 prog_22_method_65_code 2 (Option.some Jvm.ClassFile.FieldType.int)] : List Cond), w ∈ lw_all := zin [810, 350, 69, 351] (by decide +kernel)
/-! Row: numbers with weights, in ascending order -/
/-- the world with the row's cells as told -/
def zRG (Γ : zY) (G : zG) (r na wa : Nat) (f g : Nat → Int32) (sz tot : Int32) : zG := zU (zU (zU G na (zI Γ 80 f)) wa (zI Γ 80 g)) r (oRow na wa sz tot)
/-- the row at r holds rs -/
def zRo (Γ : zY) (G : zG) (r na wa : Nat) (rs : List (Int32 × Int32)) (tot : Int32) : Prop :=
  na ≠ wa ∧ rs.length ≤ 80 ∧ G r = some (oRow na wa (nI rs.length) tot) ∧ ∃ f g, G na = some (zI Γ 80 f) ∧ G wa = some (zI Γ 80 g) ∧ ∀ i, i < rs.length → rs[i]? = some (f i, g i)
theorem zI_ne {Γ : zY} {n : Nat} {f : Nat → Int32} {o : Nat × List Value} : zI Γ n f ≠ .inr o := fun h => by cases h
section RG
variable {Γ : zY} {G : zG} {r na wa : Nat} {f g f2 : Nat → Int32} {sz tot sz2 tot2 : Int32}
theorem zRG_r : zRG Γ G r na wa f g sz tot r = some (oRow na wa sz tot) := zU_same _ _ _
theorem zRG_w (h : wa ≠ r) : zRG Γ G r na wa f g sz tot wa = some (zI Γ 80 g) := (zU_ne h).trans (zU_same _ _ _)
theorem zRG_n (h : na ≠ r) (h2 : na ≠ wa) : zRG Γ G r na wa f g sz tot na = some (zI Γ 80 f) := (zU_ne h).trans ((zU_ne h2).trans (zU_same _ _ _))
theorem zRG_o {q : Nat} (h : q ≠ r) (h2 : q ≠ na) (h3 : q ≠ wa) : zRG Γ G r na wa f g sz tot q = G q := (zU_ne h).trans ((zU_ne h3).trans (zU_ne h2))
theorem zRG_un (h : na ≠ r) (h2 : na ≠ wa) : zU (zRG Γ G r na wa f g sz tot) na (zI Γ 80 f2) = zRG Γ G r na wa f2 g sz tot := by
  unfold zRG
  rw [zU_sw _ _ _ h.symm, zU_sw _ _ _ h2.symm, zU_zU]
theorem zRG_uw (h : wa ≠ r) : zU (zRG Γ G r na wa f g sz tot) wa (zI Γ 80 f2) = zRG Γ G r na wa f f2 sz tot := by
  unfold zRG
  rw [zU_sw _ _ _ h.symm, zU_zU]
theorem zRG_ur : zU (zRG Γ G r na wa f g sz tot) r (oRow na wa sz2 tot2) = zRG Γ G r na wa f g sz2 tot2 := zU_zU _ _ _ _
theorem zRG_id (h : na ≠ r) (h2 : na ≠ wa) (h3 : wa ≠ r) (e1 : G r = some (oRow na wa sz tot)) (e2 : G na = some (zI Γ 80 f)) (e3 : G wa = some (zI Γ 80 g)) : zRG Γ G r na wa f g sz tot = G := by
  unfold zRG
  rw [zU_id e2, zU_id e3, zU_id e1]
end RG
def s_sh (f : Nat → Int32) (j n : Nat) : Nat → Int32 := fun i => if j < i ∧ i ≤ n then f (i - 1) else f i
theorem s_sh_n (f : Nat → Int32) (n : Nat) : s_sh f n n = f := by
  funext i
  unfold s_sh
  rw [if_neg (by omega)]
theorem s_sh_up (f : Nat → Int32) {j n : Nat} (h : j < n) : upd (s_sh f (j + 1) n) (j + 1) (f j) = s_sh f j n := by
  funext i
  by_cases e : i = j + 1
  · subst e
    rw [pk_us]
    unfold s_sh
    rw [if_pos (by omega)]
    rfl
  · rw [pk_un e]
    unfold s_sh
    by_cases h1 : j + 1 < i ∧ i ≤ n
    · rw [if_pos h1, if_pos (by omega)]
    · rw [if_neg h1, if_neg (by omega)]
/-- where a number goes: past the greater ones, from the end -/
def s_pos (x : Int32) (f : Nat → Int32) : Nat → Nat
  | 0 => 0
  | n + 1 => if x < f n then s_pos x f n else n + 1
theorem s_pos_le (x : Int32) (f : Nat → Int32) : ∀ n, s_pos x f n ≤ n
  | 0 => Nat.le_refl _
  | n + 1 => by
    rw [s_pos]
    split
    · exact Nat.le_succ_of_le (s_pos_le x f n)
    · exact Nat.le_refl _
def s_num (rs : List (Int32 × Int32)) (i : Nat) : Int32 := (rs.getD i (0, 0)).1
def s_put (x w : Int32) (rs : List (Int32 × Int32)) : List (Int32 × Int32) := rs.take (s_pos x (s_num rs) rs.length) ++ (x, w) :: rs.drop (s_pos x (s_num rs) rs.length)
theorem s_put_len (x w : Int32) (rs : List (Int32 × Int32)) : (s_put x w rs).length = rs.length + 1 := by
  have := s_pos_le x (s_num rs) rs.length
  unfold s_put
  rw [List.length_append, List.length_take, List.length_cons, List.length_drop]
  omega
theorem s_pos_cong (x : Int32) {f g : Nat → Int32} : ∀ n, (∀ i, i < n → f i = g i) → s_pos x f n = s_pos x g n
  | 0, _ => rfl
  | n + 1, h => by rw [s_pos, s_pos, h n (Nat.lt_succ_self n), s_pos_cong x n (fun i hi => h i (Nat.lt_succ_of_lt hi))]
theorem s_put_at (f g : Nat → Int32) (x w : Int32) {p n : Nat} (hp : p ≤ n) {rs : List (Int32 × Int32)} (hl : rs.length = n) (hr : ∀ i, i < n → rs[i]? = some (f i, g i)) : ∀ i, i < n + 1 → (rs.take p ++ (x, w) :: rs.drop p)[i]? = some (upd (s_sh f p n) p x i, upd (s_sh g p n) p w i) := by
  intro i hi
  have ht : (rs.take p).length = p := by rw [List.length_take]; omega
  rcases Nat.lt_trichotomy i p with h | h | h
  · rw [List.getElem?_append_left (by omega), List.getElem?_take_of_lt h, hr i (by omega), pk_un (by omega), pk_un (by omega)]
    unfold s_sh
    rw [if_neg (by omega), if_neg (by omega)]
  · subst h
    rw [List.getElem?_append_right (by omega), ht, Nat.sub_self, pk_us, pk_us]
    rfl
  · rw [List.getElem?_append_right (by omega), ht, show i - p = (i - 1 - p) + 1 by omega, List.getElem?_cons_succ, List.getElem?_drop, show p + (i - 1 - p) = i - 1 by omega, hr (i - 1) (by omega), pk_un (by omega), pk_un (by omega)]
    unfold s_sh
    rw [if_pos (by omega), if_pos (by omega)]
abbrev rm_c_empty : Room := { frames := 0, cells := 0, slots := 0, locals := 0 }
set_option maxHeartbeats 4000000 in
set_option maxRecDepth 100000 in
theorem c_empty (l : Launch) (Γ : zY) (G : zG) {r na wa : Nat} {rs : List (Int32 × Int32)} {tot : Int32} (hR : zRo Γ G r na wa rs tot) : ZM l yX2_empty cX2_empty 1 (none) rm_c_empty Γ [.ref r] G (fun v G' => none = v ∧ zRo Γ G' r na wa [] 0 ∧ ∀ q, q ≠ r → q ≠ na → q ≠ wa → G' q = G q) := by
  obtain ⟨hnw, -, h1, f, g, h2, h3, -⟩ := hR
  refine z_start (by decide +kernel) [some (.ref r)] rfl (Nat.le_of_ble_eq_true rfl) ?_
  intro p e s m args below meth c Q A C F hr hnm
  first | refine z_rload_n C dX2_empty_0 rfl ?_ | refine z_nload_n C dX2_empty_0 rfl ?_ | refine z_aload_n C dX2_empty_0 rfl ?_
  refine z_iconst (v := 0) C dX2_empty_1 rfl ?_
  refine z_putf (T := TX2) (N := 4) C (by first | assumption | exact zU_same _ _ _) rfl 2 (by decide) kw_141 (Or.inl rfl) rfl (tyX2_ok 2 (by decide)) rfl rfl (Nat.le_of_ble_eq_true rfl) dX2_empty_2 ?_
  first | refine z_rload_n C dX2_empty_5 rfl ?_ | refine z_nload_n C dX2_empty_5 rfl ?_ | refine z_aload_n C dX2_empty_5 rfl ?_
  refine z_iconst (v := 0) C dX2_empty_6 rfl ?_
  refine z_putf (T := TX2) (N := 4) C (by first | assumption | exact zU_same _ _ _) rfl 3 (by decide) kw_142 (Or.inl rfl) rfl (tyX2_ok 3 (by decide)) rfl rfl (Nat.le_of_ble_eq_true rfl) dX2_empty_7 ?_
  exact z_vret C F hr (Nat.le_of_ble_eq_true rfl) (Nat.le_of_ble_eq_true rfl) ⟨rfl, ⟨hnw, Nat.zero_le _, zU_same _ _ _, f, g, by rw [zU_ne (zG_ne h2 h1 zI_ne), zU_ne (zG_ne h2 h1 zI_ne)]; exact h2, by rw [zU_ne (zG_ne h3 h1 zI_ne), zU_ne (zG_ne h3 h1 zI_ne)]; exact h3, fun i hi => absurd hi (Nat.not_lt_zero i)⟩, fun q q1 _ _ => by rw [zU_ne q1, zU_ne q1]⟩ dX2_empty_10
abbrev rm_c_put : Room := { frames := 0, cells := 0, slots := 0, locals := 0 }
set_option maxHeartbeats 4000000 in
set_option maxRecDepth 100000 in
theorem c_put (l : Launch) (Γ : zY) (G : zG) {r na wa : Nat} {rs : List (Int32 × Int32)} {tot x w : Int32} (hR : zRo Γ G r na wa rs tot) (hlt : rs.length < 80) : ZM l yX2_put cX2_put 4 (none) rm_c_put Γ [.ref r, .int x, .int w] G (fun v G' => none = v ∧ zRo Γ G' r na wa (s_put x w rs) (tot + w) ∧ ∀ q, q ≠ r → q ≠ na → q ≠ wa → G' q = G q) := by
  obtain ⟨hnw, -, h1, f, g, h2, h3, h4⟩ := hR
  obtain ⟨n, hn⟩ : ∃ n, n = rs.length := ⟨_, rfl⟩
  rw [← hn] at hlt h1 h4
  have hnr : na ≠ r := zG_ne h2 h1 zI_ne
  have hwr : wa ≠ r := zG_ne h3 h1 zI_ne
  refine z_start (by decide +kernel) [some (.ref r), some (.int x), some (.int w), none] rfl (Nat.le_of_ble_eq_true rfl) ?_
  intro p e s m args below meth c Q A C F hr hnm
  have fin : ∀ po, po = s_pos x f n → Z p l e rm_c_put s m args below meth c Q 4 Γ A (zRG Γ G r na wa (s_sh f po n) (s_sh g po n) (nI n) tot) 0 0 68 [some (.ref r), some (.int x), some (.int w), some (.int (nI po))] [] := by
    intro po hp
    have hpl : po ≤ n := by rw [hp]; exact s_pos_le _ _ _
    have hv : vp_in (nI po) 80 := vp_in_nI (by omega) (by omega)
    first | refine z_rload_n C dX2_put_68 rfl ?_ | refine z_nload_n C dX2_put_68 rfl ?_ | refine z_aload_n C dX2_put_68 rfl ?_
    refine z_getf (T := TX2) (N := 4) C (by first | exact zRG_r | exact zRG_n hnr hnw | exact zRG_w hwr) rfl 0 (by decide) kw_139 (Or.inl rfl) rfl dX2_put_69 ?_
    refine z_iload_n C dX2_put_72 rfl ?_
    refine z_iload_n C dX2_put_73 rfl ?_
    refine z_iast C (by first | exact zRG_r | exact zRG_n hnr hnw | exact zRG_w hwr) (by assumption) dX2_put_74 ?_
    rw [nI_clamp (by omega), zRG_un hnr hnw]
    first | refine z_rload_n C dX2_put_75 rfl ?_ | refine z_nload_n C dX2_put_75 rfl ?_ | refine z_aload_n C dX2_put_75 rfl ?_
    refine z_getf (T := TX2) (N := 4) C (by first | exact zRG_r | exact zRG_n hnr hnw | exact zRG_w hwr) rfl 1 (by decide) kw_140 (Or.inl rfl) rfl dX2_put_76 ?_
    refine z_iload_n C dX2_put_79 rfl ?_
    refine z_iload_n C dX2_put_80 rfl ?_
    refine z_iast C (by first | exact zRG_r | exact zRG_n hnr hnw | exact zRG_w hwr) (by assumption) dX2_put_81 ?_
    rw [nI_clamp (by omega), zRG_uw hwr]
    first | refine z_rload_n C dX2_put_82 rfl ?_ | refine z_nload_n C dX2_put_82 rfl ?_ | refine z_aload_n C dX2_put_82 rfl ?_
    refine z_dup C rfl dX2_put_83 ?_
    refine z_getf (T := TX2) (N := 4) C (by first | exact zRG_r | exact zRG_n hnr hnw | exact zRG_w hwr) rfl 2 (by decide) kw_141 (Or.inl rfl) rfl dX2_put_84 ?_
    refine z_iconst (v := 1) C dX2_put_87 rfl ?_
    refine z_iadd C dX2_put_88 ?_
    rw [← nI_succ]
    refine z_putf (T := TX2) (N := 4) C (by first | exact zRG_r | exact zRG_n hnr hnw | exact zRG_w hwr) rfl 2 (by decide) kw_141 (Or.inl rfl) rfl (tyX2_ok 2 (by decide)) rfl rfl (Nat.le_of_ble_eq_true rfl) dX2_put_89 ?_
    show Z p l e rm_c_put s m args below meth c Q 4 Γ A (zU (zRG Γ G r na wa (upd (s_sh f po n) po x) (upd (s_sh g po n) po w) (nI n) tot) r (oRow na wa (nI (n + 1)) tot)) 0 0 92 _ _
    rw [zRG_ur]
    first | refine z_rload_n C dX2_put_92 rfl ?_ | refine z_nload_n C dX2_put_92 rfl ?_ | refine z_aload_n C dX2_put_92 rfl ?_
    refine z_dup C rfl dX2_put_93 ?_
    refine z_getf (T := TX2) (N := 4) C (by first | exact zRG_r | exact zRG_n hnr hnw | exact zRG_w hwr) rfl 3 (by decide) kw_142 (Or.inl rfl) rfl dX2_put_94 ?_
    refine z_iload_n C dX2_put_97 rfl ?_
    refine z_iadd C dX2_put_98 ?_
    refine z_putf (T := TX2) (N := 4) C (by first | exact zRG_r | exact zRG_n hnr hnw | exact zRG_w hwr) rfl 3 (by decide) kw_142 (Or.inl rfl) rfl (tyX2_ok 3 (by decide)) rfl rfl (Nat.le_of_ble_eq_true rfl) dX2_put_99 ?_
    show Z p l e rm_c_put s m args below meth c Q 4 Γ A (zU (zRG Γ G r na wa (upd (s_sh f po n) po x) (upd (s_sh g po n) po w) (nI (n + 1)) tot) r (oRow na wa (nI (n + 1)) (tot + w))) 0 0 102 _ _
    rw [zRG_ur]
    have ep : s_pos x (s_num rs) rs.length = po := by
      rw [hp, ← hn]
      refine s_pos_cong x n (fun i hi => ?_)
      unfold s_num
      rw [List.getD_eq_getElem?_getD, h4 i hi]
      rfl
    have el : (s_put x w rs).length = n + 1 := by rw [s_put_len, hn]
    exact z_vret C F hr (Nat.le_of_ble_eq_true rfl) (Nat.le_of_ble_eq_true rfl) ⟨rfl, ⟨hnw, by omega, by rw [el]; exact zRG_r, _, _, zRG_n hnr hnw, zRG_w hwr, fun i hi => by rw [el] at hi; unfold s_put; rw [ep]; exact s_put_at f g x w hpl hn.symm h4 i hi⟩, fun q q1 q2 q3 => zRG_o q1 q2 q3⟩ dX2_put_102
  have loop : ∀ j, j ≤ n → s_pos x f n = s_pos x f j → Z p l e rm_c_put s m args below meth c Q 4 Γ A (zRG Γ G r na wa (s_sh f j n) (s_sh g j n) (nI n) tot) 0 0 18 [some (.ref r), some (.int x), some (.int w), some (.int (nI j))] [] := by
    intro j
    induction j with
    | zero =>
      intro hj hp
      refine z_iload_n C dX2_put_18 rfl ?_
      refine z_if_le (tgt := 68) C dX2_put_19 (by decide) (fun h19 => ?_) (fun h19 => ?_)
      · exact fin 0 hp.symm
      · exact absurd (by decide) h19
    | succ j ih =>
      intro hj hp
      refine z_iload_n C dX2_put_18 rfl ?_
      refine z_if_le (tgt := 68) C dX2_put_19 (by decide) (fun h19 => ?_) (fun h19 => ?_)
      · exact absurd h19 (nI_nle (by omega) (by omega))
      · have hv : vp_in (nI j) 80 := vp_in_nI (by omega) (by omega)
        have hv1 : vp_in (nI (j + 1)) 80 := vp_in_nI (by omega) (by omega)
        first | refine z_rload_n C dX2_put_22 rfl ?_ | refine z_nload_n C dX2_put_22 rfl ?_ | refine z_aload_n C dX2_put_22 rfl ?_
        refine z_getf (T := TX2) (N := 4) C (by first | exact zRG_r | exact zRG_n hnr hnw | exact zRG_w hwr) rfl 0 (by decide) kw_139 (Or.inl rfl) rfl dX2_put_23 ?_
        refine z_iload_n C dX2_put_26 rfl ?_
        refine z_iconst (v := 1) C dX2_put_27 rfl ?_
        refine z_isub C dX2_put_28 ?_
        rw [nI_pred]
        refine z_iald C (by first | exact zRG_r | exact zRG_n hnr hnw | exact zRG_w hwr) (by assumption) dX2_put_29 ?_
        rw [nI_clamp (by omega), show s_sh f (j + 1) n j = f j from if_neg (by omega)]
        refine z_iload_n C dX2_put_30 rfl ?_
        refine z_icmp_le (tgt := 68) C dX2_put_31 (by decide) (fun h31 => ?_) (fun h31 => ?_)
        · refine fin (j + 1) ?_
          rw [hp, s_pos, if_neg (fun q => ?_)]
          rw [Int32.lt_iff_toInt_lt] at q
          rw [Int32.le_iff_toInt_le] at h31
          omega
        · first | refine z_rload_n C dX2_put_34 rfl ?_ | refine z_nload_n C dX2_put_34 rfl ?_ | refine z_aload_n C dX2_put_34 rfl ?_
          refine z_getf (T := TX2) (N := 4) C (by first | exact zRG_r | exact zRG_n hnr hnw | exact zRG_w hwr) rfl 0 (by decide) kw_139 (Or.inl rfl) rfl dX2_put_35 ?_
          refine z_iload_n C dX2_put_38 rfl ?_
          first | refine z_rload_n C dX2_put_39 rfl ?_ | refine z_nload_n C dX2_put_39 rfl ?_ | refine z_aload_n C dX2_put_39 rfl ?_
          refine z_getf (T := TX2) (N := 4) C (by first | exact zRG_r | exact zRG_n hnr hnw | exact zRG_w hwr) rfl 0 (by decide) kw_139 (Or.inl rfl) rfl dX2_put_40 ?_
          refine z_iload_n C dX2_put_43 rfl ?_
          refine z_iconst (v := 1) C dX2_put_44 rfl ?_
          refine z_isub C dX2_put_45 ?_
          rw [nI_pred]
          refine z_iald C (by first | exact zRG_r | exact zRG_n hnr hnw | exact zRG_w hwr) (by assumption) dX2_put_46 ?_
          refine z_iast C (by first | exact zRG_r | exact zRG_n hnr hnw | exact zRG_w hwr) (by assumption) dX2_put_47 ?_
          rw [nI_clamp (n := j) (by omega), nI_clamp (n := j + 1) (by omega), show s_sh f (j + 1) n j = f j from if_neg (by omega), zRG_un hnr hnw, s_sh_up f (by omega)]
          first | refine z_rload_n C dX2_put_48 rfl ?_ | refine z_nload_n C dX2_put_48 rfl ?_ | refine z_aload_n C dX2_put_48 rfl ?_
          refine z_getf (T := TX2) (N := 4) C (by first | exact zRG_r | exact zRG_n hnr hnw | exact zRG_w hwr) rfl 1 (by decide) kw_140 (Or.inl rfl) rfl dX2_put_49 ?_
          refine z_iload_n C dX2_put_52 rfl ?_
          first | refine z_rload_n C dX2_put_53 rfl ?_ | refine z_nload_n C dX2_put_53 rfl ?_ | refine z_aload_n C dX2_put_53 rfl ?_
          refine z_getf (T := TX2) (N := 4) C (by first | exact zRG_r | exact zRG_n hnr hnw | exact zRG_w hwr) rfl 1 (by decide) kw_140 (Or.inl rfl) rfl dX2_put_54 ?_
          refine z_iload_n C dX2_put_57 rfl ?_
          refine z_iconst (v := 1) C dX2_put_58 rfl ?_
          refine z_isub C dX2_put_59 ?_
          rw [nI_pred]
          refine z_iald C (by first | exact zRG_r | exact zRG_n hnr hnw | exact zRG_w hwr) (by assumption) dX2_put_60 ?_
          refine z_iast C (by first | exact zRG_r | exact zRG_n hnr hnw | exact zRG_w hwr) (by assumption) dX2_put_61 ?_
          rw [nI_clamp (n := j) (by omega), nI_clamp (n := j + 1) (by omega), show s_sh g (j + 1) n j = g j from if_neg (by omega), zRG_uw hwr, s_sh_up g (by omega)]
          refine z_iinc (w := (-1)) C dX2_put_62 rfl rfl (by decide) ?_
          refine z_goto (tgt := 18) C dX2_put_65 (by decide) ?_
          rw [pk_m1]
          refine ih (by omega) ?_
          rw [hp, s_pos, if_pos]
          rw [Int32.le_iff_toInt_le] at h31
          rw [Int32.lt_iff_toInt_lt]
          omega
  first | refine z_rload_n C dX2_put_0 rfl ?_ | refine z_nload_n C dX2_put_0 rfl ?_ | refine z_aload_n C dX2_put_0 rfl ?_
  refine z_getf (T := TX2) (N := 4) C (by first | assumption | exact zU_same _ _ _) rfl 2 (by decide) kw_141 (Or.inl rfl) rfl dX2_put_1 ?_
  first | refine z_rload_n C dX2_put_4 rfl ?_ | refine z_nload_n C dX2_put_4 rfl ?_ | refine z_aload_n C dX2_put_4 rfl ?_
  refine z_getf (T := TX2) (N := 4) C (by first | assumption | exact zU_same _ _ _) rfl 0 (by decide) kw_139 (Or.inl rfl) rfl dX2_put_5 ?_
  refine z_ilen C (by first | assumption | exact zU_same _ _ _) dX2_put_8 ?_
  refine z_icmp_lt (tgt := 13) C dX2_put_9 (by decide) (fun h9 => ?_) (fun h9 => ?_)
  · first | refine z_rload_n C dX2_put_13 rfl ?_ | refine z_nload_n C dX2_put_13 rfl ?_ | refine z_aload_n C dX2_put_13 rfl ?_
    refine z_getf (T := TX2) (N := 4) C (by first | assumption | exact zU_same _ _ _) rfl 2 (by decide) kw_141 (Or.inl rfl) rfl dX2_put_14 ?_
    refine z_istore_n C dX2_put_17 (by decide) ?_
    have fin2 := loop n (Nat.le_refl _) rfl
    rw [s_sh_n, s_sh_n, zRG_id hnr hnw hwr h1 h2 h3] at fin2
    exact fin2
  · exact absurd (nI_lt hlt (by omega)) h9
/-- the middle number by the weights, and the sum of the weighted distances -/
def s_mid : List (Int32 × Int32) → Int32 → Int32
  | [], _ => 0
  | e :: r, a => if a - e.2 < 0 then e.1 else s_mid r (a - e.2)
def s_dist (rs : List (Int32 × Int32)) (x : Int32) : Int64 := (rs.map fun e => e.2.toInt64 * (z_abs1 (e.1 - x)).toInt64).foldl (· + ·) 0
def s_gapAll : List (Int32 × Int32) → Int32 → Int32
  | e :: d :: r, a => s_gapAll (d :: r) (if a < d.1 - e.1 then d.1 - e.1 else a)
  | _, a => a
def s_wid (rs : List (Int32 × Int32)) : Int32 := if rs.length < 2 then 4000 else s_gapAll rs (4000 - ((rs.getLast?.getD (0, 0)).1 - (rs.headD (0, 0)).1))
theorem z_drop {rs : List (Int32 × Int32)} {f g : Nat → Int32} {i : Nat} (h : ∀ i, i < rs.length → rs[i]? = some (f i, g i)) (hi : i < rs.length) : rs.drop i = (f i, g i) :: rs.drop (i + 1) := by
  rw [List.drop_eq_getElem_cons hi]
  have := h i hi
  rw [List.getElem?_eq_getElem hi] at this
  rw [Option.some.inj this]
abbrev rm_c_mid : Room := { frames := 0, cells := 0, slots := 0, locals := 0 }
set_option maxHeartbeats 4000000 in
set_option maxRecDepth 100000 in
theorem c_mid (l : Launch) (Γ : zY) (G : zG) {r na wa : Nat} {rs : List (Int32 × Int32)} {tot : Int32} (hR : zRo Γ G r na wa rs tot) : ZM l yX2_middle cX2_middle 3 (some FieldType.int) rm_c_mid Γ [.ref r] G (zRd G (.int (s_mid rs ((tot - 1) / 2)))) := by
  obtain ⟨hnw, hle, h1, f, g, h2, h3, h4⟩ := hR
  refine z_start (by decide +kernel) [some (.ref r), none, none] rfl (Nat.le_of_ble_eq_true rfl) ?_
  intro p e s m args below meth c Q A C F hr hnm
  have loop : ∀ (d i : Nat) (a : Int32), i + d = rs.length → s_mid rs ((tot - 1) / 2) = s_mid (rs.drop i) a → Z p l e rm_c_mid s m args below meth c Q 3 Γ A G 0 0 11 [some (.ref r), some (.int a), some (.int (nI i))] [] := by
    intro d
    induction d with
    | zero =>
      intro i a hi hm
      refine z_iload_n C dX2_middle_11 rfl ?_
      first | refine z_rload_n C dX2_middle_12 rfl ?_ | refine z_nload_n C dX2_middle_12 rfl ?_ | refine z_aload_n C dX2_middle_12 rfl ?_
      refine z_getf (T := TX2) (N := 4) C (by first | assumption | exact zU_same _ _ _) rfl 2 (by decide) kw_141 (Or.inl rfl) rfl dX2_middle_13 ?_
      refine z_icmp_ge (tgt := 45) C dX2_middle_16 (by decide) (fun h16 => ?_) (fun h16 => ?_)
      · refine z_iconst (v := 0) C dX2_middle_45 rfl ?_
        exact z_iret C F hr (Nat.le_of_ble_eq_true rfl) (Nat.le_of_ble_eq_true rfl) ⟨by rw [hm, List.drop_eq_nil_of_le (by omega)]; rfl, rfl⟩ dX2_middle_46
      · exact absurd (nI_le (by omega) (by omega)) h16
    | succ d ih =>
      intro i a hi hm
      rw [z_drop h4 (by omega), s_mid] at hm
      refine z_iload_n C dX2_middle_11 rfl ?_
      first | refine z_rload_n C dX2_middle_12 rfl ?_ | refine z_nload_n C dX2_middle_12 rfl ?_ | refine z_aload_n C dX2_middle_12 rfl ?_
      refine z_getf (T := TX2) (N := 4) C (by first | assumption | exact zU_same _ _ _) rfl 2 (by decide) kw_141 (Or.inl rfl) rfl dX2_middle_13 ?_
      refine z_icmp_ge (tgt := 45) C dX2_middle_16 (by decide) (fun h16 => ?_) (fun h16 => ?_)
      · exact absurd h16 (nI_ge (by omega) (by omega))
      · have hv : vp_in (nI i) 80 := vp_in_nI (by omega) (by omega)
        refine z_iload_n C dX2_middle_19 rfl ?_
        first | refine z_rload_n C dX2_middle_20 rfl ?_ | refine z_nload_n C dX2_middle_20 rfl ?_ | refine z_aload_n C dX2_middle_20 rfl ?_
        refine z_getf (T := TX2) (N := 4) C (by first | assumption | exact zU_same _ _ _) rfl 1 (by decide) kw_140 (Or.inl rfl) rfl dX2_middle_21 ?_
        refine z_iload_n C dX2_middle_24 rfl ?_
        refine z_iald C (by first | assumption | exact zU_same _ _ _) (by assumption) dX2_middle_25 ?_
        rw [nI_clamp (by omega)]
        refine z_isub C dX2_middle_26 ?_
        refine z_istore_n C dX2_middle_27 (by decide) ?_
        refine z_iload_n C dX2_middle_28 rfl ?_
        refine z_if_ge (tgt := 39) C dX2_middle_29 (by decide) (fun h29 => ?_) (fun h29 => ?_)
        · refine z_iinc (w := 1) C dX2_middle_39 rfl rfl (by decide) ?_
          refine z_goto (tgt := 11) C dX2_middle_42 (by decide) ?_
          rw [← nI_succ]
          refine ih (i + 1) _ (by omega) ?_
          exact hm.trans (if_neg (i_nlt h29))
        · first | refine z_rload_n C dX2_middle_32 rfl ?_ | refine z_nload_n C dX2_middle_32 rfl ?_ | refine z_aload_n C dX2_middle_32 rfl ?_
          refine z_getf (T := TX2) (N := 4) C (by first | assumption | exact zU_same _ _ _) rfl 0 (by decide) kw_139 (Or.inl rfl) rfl dX2_middle_33 ?_
          refine z_iload_n C dX2_middle_36 rfl ?_
          refine z_iald C (by first | assumption | exact zU_same _ _ _) (by assumption) dX2_middle_37 ?_
          rw [nI_clamp (by omega)]
          exact z_iret C F hr (Nat.le_of_ble_eq_true rfl) (Nat.le_of_ble_eq_true rfl) ⟨congrArg (fun z => some (Value.int z)) (hm.trans (if_pos (i_lt h29))), rfl⟩ dX2_middle_38
  first | refine z_rload_n C dX2_middle_0 rfl ?_ | refine z_nload_n C dX2_middle_0 rfl ?_ | refine z_aload_n C dX2_middle_0 rfl ?_
  refine z_getf (T := TX2) (N := 4) C (by first | assumption | exact zU_same _ _ _) rfl 3 (by decide) kw_142 (Or.inl rfl) rfl dX2_middle_1 ?_
  refine z_iconst (v := 1) C dX2_middle_4 rfl ?_
  refine z_isub C dX2_middle_5 ?_
  refine z_iconst (v := 2) C dX2_middle_6 rfl ?_
  refine z_idiv C (by decide) dX2_middle_7 ?_
  refine z_istore_n C dX2_middle_8 (by decide) ?_
  refine z_iconst (v := 0) C dX2_middle_9 rfl ?_
  refine z_istore_n C dX2_middle_10 (by decide) ?_
  exact loop rs.length 0 _ (Nat.zero_add _) rfl
theorem s_fold (rs : List (Int32 × Int32)) (x : Int32) : ∀ a : Int64, (rs.map fun e => e.2.toInt64 * (z_abs1 (e.1 - x)).toInt64).foldl (· + ·) a = a + s_dist rs x := by
  unfold s_dist
  induction rs with
  | nil => intro a; simp
  | cons e r ih =>
    intro a
    rw [List.map_cons, List.foldl_cons, List.foldl_cons, ih, ih (0 + _), Int64.zero_add, Int64.add_assoc]
abbrev rm_c_dist : Room := { frames := 1, cells := 0, slots := 0, locals := 40 }
set_option maxHeartbeats 4000000 in
set_option maxRecDepth 100000 in
theorem c_dist (l : Launch) (Γ : zY) (G : zG) {r na wa : Nat} {rs : List (Int32 × Int32)} {tot : Int32} (x : Int32) (hR : zRo Γ G r na wa rs tot) : ZM l yX2_distanceFrom cX2_distanceFrom 5 (some FieldType.long) rm_c_dist Γ [.ref r, .int x] G (zRd G (.long (s_dist rs x))) := by
  obtain ⟨hnw, hle, h1, f, g, h2, h3, h4⟩ := hR
  refine z_start (by decide +kernel) [some (.ref r), some (.int x), none, none, none] rfl (Nat.le_of_ble_eq_true rfl) ?_
  intro p e s m args below meth c Q A C F hr hnm
  have loop : ∀ (d i : Nat) (a : Int64), i + d = rs.length → s_dist rs x = a + s_dist (rs.drop i) x → Z p l e rm_c_dist s m args below meth c Q 5 Γ A G 0 0 5 [some (.ref r), some (.int x), some (.long a), none, some (.int (nI i))] [] := by
    intro d
    induction d with
    | zero =>
      intro i a hi hm
      refine z_iload C dX2_distanceFrom_5 rfl ?_
      first | refine z_rload_n C dX2_distanceFrom_7 rfl ?_ | refine z_nload_n C dX2_distanceFrom_7 rfl ?_ | refine z_aload_n C dX2_distanceFrom_7 rfl ?_
      refine z_getf (T := TX2) (N := 4) C (by first | assumption | exact zU_same _ _ _) rfl 2 (by decide) kw_141 (Or.inl rfl) rfl dX2_distanceFrom_8 ?_
      refine z_icmp_ge (tgt := 45) C dX2_distanceFrom_11 (by decide) (fun h11 => ?_) (fun h11 => ?_)
      · refine z_lload_n C dX2_distanceFrom_45 rfl ?_
        exact z_lret C F hr (Nat.le_of_ble_eq_true rfl) (Nat.le_of_ble_eq_true rfl) ⟨by rw [hm, List.drop_eq_nil_of_le (by omega)]; exact congrArg (fun z => some (Value.long z)) (Int64.add_zero a), rfl⟩ dX2_distanceFrom_46
      · exact absurd (nI_le (by omega) (by omega)) h11
    | succ d ih =>
      intro i a hi hm
      have hs : s_dist (rs.drop i) x = (g i).toInt64 * (z_abs1 (f i - x)).toInt64 + s_dist (rs.drop (i + 1)) x := by
        rw [z_drop h4 (by omega)]
        conv => lhs; unfold s_dist
        rw [List.map_cons, List.foldl_cons, s_fold, Int64.zero_add]
      refine z_iload C dX2_distanceFrom_5 rfl ?_
      first | refine z_rload_n C dX2_distanceFrom_7 rfl ?_ | refine z_nload_n C dX2_distanceFrom_7 rfl ?_ | refine z_aload_n C dX2_distanceFrom_7 rfl ?_
      refine z_getf (T := TX2) (N := 4) C (by first | assumption | exact zU_same _ _ _) rfl 2 (by decide) kw_141 (Or.inl rfl) rfl dX2_distanceFrom_8 ?_
      refine z_icmp_ge (tgt := 45) C dX2_distanceFrom_11 (by decide) (fun h11 => ?_) (fun h11 => ?_)
      · exact absurd h11 (nI_ge (by omega) (by omega))
      · have hv : vp_in (nI i) 80 := vp_in_nI (by omega) (by omega)
        refine z_lload_n C dX2_distanceFrom_14 rfl ?_
        first | refine z_rload_n C dX2_distanceFrom_15 rfl ?_ | refine z_nload_n C dX2_distanceFrom_15 rfl ?_ | refine z_aload_n C dX2_distanceFrom_15 rfl ?_
        refine z_getf (T := TX2) (N := 4) C (by first | assumption | exact zU_same _ _ _) rfl 1 (by decide) kw_140 (Or.inl rfl) rfl dX2_distanceFrom_16 ?_
        refine z_iload C dX2_distanceFrom_19 rfl ?_
        refine z_iald C (by first | assumption | exact zU_same _ _ _) (by assumption) dX2_distanceFrom_21 ?_
        rw [nI_clamp (by omega)]
        refine z_i2l C dX2_distanceFrom_22 ?_
        first | refine z_rload_n C dX2_distanceFrom_23 rfl ?_ | refine z_nload_n C dX2_distanceFrom_23 rfl ?_ | refine z_aload_n C dX2_distanceFrom_23 rfl ?_
        refine z_getf (T := TX2) (N := 4) C (by first | assumption | exact zU_same _ _ _) rfl 0 (by decide) kw_139 (Or.inl rfl) rfl dX2_distanceFrom_24 ?_
        refine z_iload C dX2_distanceFrom_27 rfl ?_
        refine z_iald C (by first | assumption | exact zU_same _ _ _) (by assumption) dX2_distanceFrom_29 ?_
        rw [nI_clamp (by omega)]
        refine z_iload_n C dX2_distanceFrom_30 rfl ?_
        refine z_isub C dX2_distanceFrom_31 ?_
        refine z_abs C km_X2_distanceFrom_32 (Nat.le_of_ble_eq_true rfl) (Nat.le_of_ble_eq_true rfl) (Nat.le_of_ble_eq_true rfl) (Nat.le_of_ble_eq_true rfl) dX2_distanceFrom_32 ?_
        refine z_i2l C dX2_distanceFrom_35 ?_
        refine z_lmul C dX2_distanceFrom_36 ?_
        refine z_ladd C dX2_distanceFrom_37 ?_
        refine z_lstore_n C dX2_distanceFrom_38 (by decide) ?_
        refine z_iinc (w := 1) C dX2_distanceFrom_39 rfl rfl (by decide) ?_
        refine z_goto (tgt := 5) C dX2_distanceFrom_42 (by decide) ?_
        rw [← nI_succ]
        refine ih (i + 1) _ (by omega) ?_
        rw [hm, hs, Int64.add_assoc]
  refine z_lconst (v := 0) C dX2_distanceFrom_0 rfl ?_
  refine z_lstore_n C dX2_distanceFrom_1 (by decide) ?_
  refine z_iconst (v := 0) C dX2_distanceFrom_2 rfl ?_
  refine z_istore C dX2_distanceFrom_3 (by decide) ?_
  exact loop rs.length 0 0 (Nat.zero_add _) (Int64.zero_add _).symm
theorem s_fi {rs : List (Int32 × Int32)} {f g : Nat → Int32} (h : ∀ i, i < rs.length → rs[i]? = some (f i, g i)) (h2 : 2 ≤ rs.length) : s_wid rs = s_gapAll rs (4000 - (f (rs.length - 1) - f 0)) := by
  unfold s_wid
  rw [if_neg (by omega), List.getLast?_eq_getElem?, h _ (by omega), List.headD_eq_head?_getD, List.head?_eq_getElem?, h 0 (by omega)]
  rfl
abbrev rm_c_wid : Room := { frames := 1, cells := 0, slots := 0, locals := 40 }
set_option maxHeartbeats 4000000 in
set_option maxRecDepth 100000 in
theorem c_wid (l : Launch) (Γ : zY) (G : zG) {r na wa : Nat} {rs : List (Int32 × Int32)} {tot : Int32} (hR : zRo Γ G r na wa rs tot) : ZM l yX2_widestGap cX2_widestGap 3 (some FieldType.int) rm_c_wid Γ [.ref r] G (zRd G (.int (s_wid rs))) := by
  obtain ⟨hnw, hle, h1, f, g, h2, h3, h4⟩ := hR
  refine z_start (by decide +kernel) [some (.ref r), none, none] rfl (Nat.le_of_ble_eq_true rfl) ?_
  intro p e s m args below meth c Q A C F hr hnm
  have loop : ∀ (d i : Nat) (a : Int32), i + d = rs.length → 1 ≤ i → s_wid rs = s_gapAll (rs.drop (i - 1)) a → Z p l e rm_c_wid s m args below meth c Q 3 Γ A G 0 0 37 [some (.ref r), some (.int a), some (.int (nI i))] [] := by
    intro d
    induction d with
    | zero =>
      intro i a hi h1i hm
      refine z_iload_n C dX2_widestGap_37 rfl ?_
      first | refine z_rload_n C dX2_widestGap_38 rfl ?_ | refine z_nload_n C dX2_widestGap_38 rfl ?_ | refine z_aload_n C dX2_widestGap_38 rfl ?_
      refine z_getf (T := TX2) (N := 4) C (by first | assumption | exact zU_same _ _ _) rfl 2 (by decide) kw_141 (Or.inl rfl) rfl dX2_widestGap_39 ?_
      refine z_icmp_ge (tgt := 71) C dX2_widestGap_42 (by decide) (fun h42 => ?_) (fun h42 => ?_)
      · refine z_iload_n C dX2_widestGap_71 rfl ?_
        exact z_iret C F hr (Nat.le_of_ble_eq_true rfl) (Nat.le_of_ble_eq_true rfl) ⟨by rw [hm, List.drop_eq_getElem_cons (by omega), List.drop_eq_nil_of_le (by omega)]; rfl, rfl⟩ dX2_widestGap_72
      · exact absurd (nI_le (by omega) (by omega)) h42
    | succ d ih =>
      intro i a hi h1i hm
      obtain ⟨j, rfl⟩ : ∃ j, i = j + 1 := ⟨i - 1, by omega⟩
      rw [Nat.add_sub_cancel, z_drop h4 (by omega), z_drop (i := j + 1) h4 (by omega), s_gapAll, ← z_drop h4 (by omega)] at hm
      refine z_iload_n C dX2_widestGap_37 rfl ?_
      first | refine z_rload_n C dX2_widestGap_38 rfl ?_ | refine z_nload_n C dX2_widestGap_38 rfl ?_ | refine z_aload_n C dX2_widestGap_38 rfl ?_
      refine z_getf (T := TX2) (N := 4) C (by first | assumption | exact zU_same _ _ _) rfl 2 (by decide) kw_141 (Or.inl rfl) rfl dX2_widestGap_39 ?_
      refine z_icmp_ge (tgt := 71) C dX2_widestGap_42 (by decide) (fun h42 => ?_) (fun h42 => ?_)
      · exact absurd h42 (nI_ge (by omega) (by omega))
      · have hv : vp_in (nI (j + 1)) 80 := vp_in_nI (by omega) (by omega)
        have hv1 : vp_in (nI j) 80 := vp_in_nI (by omega) (by omega)
        refine z_iload_n C dX2_widestGap_45 rfl ?_
        first | refine z_rload_n C dX2_widestGap_46 rfl ?_ | refine z_nload_n C dX2_widestGap_46 rfl ?_ | refine z_aload_n C dX2_widestGap_46 rfl ?_
        refine z_getf (T := TX2) (N := 4) C (by first | assumption | exact zU_same _ _ _) rfl 0 (by decide) kw_139 (Or.inl rfl) rfl dX2_widestGap_47 ?_
        refine z_iload_n C dX2_widestGap_50 rfl ?_
        refine z_iald C (by first | assumption | exact zU_same _ _ _) (by assumption) dX2_widestGap_51 ?_
        rw [nI_clamp (by omega)]
        first | refine z_rload_n C dX2_widestGap_52 rfl ?_ | refine z_nload_n C dX2_widestGap_52 rfl ?_ | refine z_aload_n C dX2_widestGap_52 rfl ?_
        refine z_getf (T := TX2) (N := 4) C (by first | assumption | exact zU_same _ _ _) rfl 0 (by decide) kw_139 (Or.inl rfl) rfl dX2_widestGap_53 ?_
        refine z_iload_n C dX2_widestGap_56 rfl ?_
        refine z_iconst (v := 1) C dX2_widestGap_57 rfl ?_
        refine z_isub C dX2_widestGap_58 ?_
        rw [nI_pred]
        refine z_iald C (by first | assumption | exact zU_same _ _ _) (by assumption) dX2_widestGap_59 ?_
        rw [nI_clamp (by omega)]
        refine z_isub C dX2_widestGap_60 ?_
        refine z_max C km_X2_widestGap_61 (Nat.le_of_ble_eq_true rfl) (Nat.le_of_ble_eq_true rfl) (Nat.le_of_ble_eq_true rfl) (Nat.le_of_ble_eq_true rfl) dX2_widestGap_61 ?_
        refine z_istore_n C dX2_widestGap_64 (by decide) ?_
        refine z_iinc (w := 1) C dX2_widestGap_65 rfl rfl (by decide) ?_
        refine z_goto (tgt := 37) C dX2_widestGap_68 (by decide) ?_
        rw [← nI_succ]
        exact ih (j + 1 + 1) _ (by omega) (by omega) hm
  first | refine z_rload_n C dX2_widestGap_0 rfl ?_ | refine z_nload_n C dX2_widestGap_0 rfl ?_ | refine z_aload_n C dX2_widestGap_0 rfl ?_
  refine z_getf (T := TX2) (N := 4) C (by first | assumption | exact zU_same _ _ _) rfl 2 (by decide) kw_141 (Or.inl rfl) rfl dX2_widestGap_1 ?_
  refine z_iconst (v := 2) C dX2_widestGap_4 rfl ?_
  refine z_icmp_ge (tgt := 12) C dX2_widestGap_5 (by decide) (fun h5 => ?_) (fun h5 => ?_)
  · have h2l : 2 ≤ rs.length := by
      rcases Nat.lt_or_ge rs.length 2 with q | q
      · exact absurd h5 (nI_ge (b := 2) q (by decide))
      · exact q
    obtain ⟨j, hj⟩ : ∃ j, rs.length = j + 1 := ⟨rs.length - 1, by omega⟩
    have hv : vp_in (nI j) 80 := vp_in_nI (by omega) (by omega)
    have hv1 : vp_in 0 80 := by unfold vp_in; decide
    refine z_sipush (v := 4000) C dX2_widestGap_12 rfl ?_
    first | refine z_rload_n C dX2_widestGap_15 rfl ?_ | refine z_nload_n C dX2_widestGap_15 rfl ?_ | refine z_aload_n C dX2_widestGap_15 rfl ?_
    refine z_getf (T := TX2) (N := 4) C (by first | assumption | exact zU_same _ _ _) rfl 0 (by decide) kw_139 (Or.inl rfl) rfl dX2_widestGap_16 ?_
    first | refine z_rload_n C dX2_widestGap_19 rfl ?_ | refine z_nload_n C dX2_widestGap_19 rfl ?_ | refine z_aload_n C dX2_widestGap_19 rfl ?_
    refine z_getf (T := TX2) (N := 4) C (by first | assumption | exact zU_same _ _ _) rfl 2 (by decide) kw_141 (Or.inl rfl) rfl dX2_widestGap_20 ?_
    refine z_iconst (v := 1) C dX2_widestGap_23 rfl ?_
    refine z_isub C dX2_widestGap_24 ?_
    rw [hj, nI_pred]
    refine z_iald C (by first | assumption | exact zU_same _ _ _) (by assumption) dX2_widestGap_25 ?_
    rw [nI_clamp (by omega)]
    first | refine z_rload_n C dX2_widestGap_26 rfl ?_ | refine z_nload_n C dX2_widestGap_26 rfl ?_ | refine z_aload_n C dX2_widestGap_26 rfl ?_
    refine z_getf (T := TX2) (N := 4) C (by first | assumption | exact zU_same _ _ _) rfl 0 (by decide) kw_139 (Or.inl rfl) rfl dX2_widestGap_27 ?_
    refine z_iconst (v := 0) C dX2_widestGap_30 rfl ?_
    refine z_iald C (by first | assumption | exact zU_same _ _ _) (by assumption) dX2_widestGap_31 ?_
    refine z_isub C dX2_widestGap_32 ?_
    refine z_isub C dX2_widestGap_33 ?_
    refine z_istore_n C dX2_widestGap_34 (by decide) ?_
    refine z_iconst (v := 1) C dX2_widestGap_35 rfl ?_
    refine z_istore_n C dX2_widestGap_36 (by decide) ?_
    refine loop (rs.length - 1) 1 _ (by omega) (Nat.le_refl _) ?_
    rw [s_fi h4 h2l, hj]
    rfl
  · have h2l : rs.length < 2 := by
      rcases Nat.lt_or_ge rs.length 2 with q | q
      · exact q
      · exact absurd (nI_le (a := 2) q (by omega)) h5
    refine z_sipush (v := 4000) C dX2_widestGap_8 rfl ?_
    exact z_iret C F hr (Nat.le_of_ble_eq_true rfl) (Nat.le_of_ble_eq_true rfl) ⟨by unfold s_wid; rw [if_pos h2l], rfl⟩ dX2_widestGap_11
end
section
theorem dX6_isPlace_0 : decode cX6_isPlace 0 = .ok (.iload_n 0, 1) := by decide +kernel
theorem dX6_isPlace_1 : decode cX6_isPlace 1 = .ok (.ifCond .lt 35, 3) := by decide +kernel
theorem dX6_isPlace_4 : decode cX6_isPlace 4 = .ok (.iload_n 0, 1) := by decide +kernel
theorem dX6_isPlace_5 : decode cX6_isPlace 5 = .ok (.sipush 200, 3) := by decide +kernel
theorem dX6_isPlace_8 : decode cX6_isPlace 8 = .ok (.if_icmp .gt 28, 3) := by decide +kernel
theorem dX6_isPlace_11 : decode cX6_isPlace 11 = .ok (.iload_n 1, 1) := by decide +kernel
theorem dX6_isPlace_12 : decode cX6_isPlace 12 = .ok (.ifCond .lt 24, 3) := by decide +kernel
theorem dX6_isPlace_15 : decode cX6_isPlace 15 = .ok (.iload_n 1, 1) := by decide +kernel
theorem dX6_isPlace_16 : decode cX6_isPlace 16 = .ok (.sipush 200, 3) := by decide +kernel
theorem dX6_isPlace_19 : decode cX6_isPlace 19 = .ok (.if_icmp .gt 17, 3) := by decide +kernel
theorem dX6_isPlace_22 : decode cX6_isPlace 22 = .ok (.iload_n 2, 1) := by decide +kernel
theorem dX6_isPlace_23 : decode cX6_isPlace 23 = .ok (.ifCond .lt 13, 3) := by decide +kernel
theorem dX6_isPlace_26 : decode cX6_isPlace 26 = .ok (.iload_n 2, 1) := by decide +kernel
theorem dX6_isPlace_27 : decode cX6_isPlace 27 = .ok (.bipush 60, 2) := by decide +kernel
theorem dX6_isPlace_29 : decode cX6_isPlace 29 = .ok (.if_icmp .gt 7, 3) := by decide +kernel
theorem dX6_isPlace_32 : decode cX6_isPlace 32 = .ok (.iconst 1, 1) := by decide +kernel
theorem dX6_isPlace_33 : decode cX6_isPlace 33 = .ok (.goto 4, 3) := by decide +kernel
theorem dX6_isPlace_36 : decode cX6_isPlace 36 = .ok (.iconst 0, 1) := by decide +kernel
theorem dX6_isPlace_37 : decode cX6_isPlace 37 = .ok (.ireturn, 1) := by decide +kernel
theorem dX3_fillWithStarts_0 : decode cX3_fillWithStarts 0 = .ok (.aload_n 0, 1) := by decide +kernel
theorem dX3_fillWithStarts_1 : decode cX3_fillWithStarts 1 = .ok (.getfield 15, 3) := by decide +kernel
theorem dX3_fillWithStarts_4 : decode cX3_fillWithStarts 4 = .ok (.invokevirtual 86, 3) := by decide +kernel
theorem dX3_fillWithStarts_7 : decode cX3_fillWithStarts 7 = .ok (.iconst 0, 1) := by decide +kernel
theorem dX3_fillWithStarts_8 : decode cX3_fillWithStarts 8 = .ok (.istore 5, 2) := by decide +kernel
theorem dX3_fillWithStarts_10 : decode cX3_fillWithStarts 10 = .ok (.iload 5, 2) := by decide +kernel
theorem dX3_fillWithStarts_12 : decode cX3_fillWithStarts 12 = .ok (.aload_n 1, 1) := by decide +kernel
theorem dX3_fillWithStarts_13 : decode cX3_fillWithStarts 13 = .ok (.getfield 89, 3) := by decide +kernel
theorem dX3_fillWithStarts_16 : decode cX3_fillWithStarts 16 = .ok (.invokevirtual 93, 3) := by decide +kernel
theorem dX3_fillWithStarts_19 : decode cX3_fillWithStarts 19 = .ok (.if_icmp .ge 62, 3) := by decide +kernel
theorem dX3_fillWithStarts_22 : decode cX3_fillWithStarts 22 = .ok (.aload_n 1, 1) := by decide +kernel
theorem dX3_fillWithStarts_23 : decode cX3_fillWithStarts 23 = .ok (.getfield 89, 3) := by decide +kernel
theorem dX3_fillWithStarts_26 : decode cX3_fillWithStarts 26 = .ok (.iload 5, 2) := by decide +kernel
theorem dX3_fillWithStarts_28 : decode cX3_fillWithStarts 28 = .ok (.invokevirtual 98, 3) := by decide +kernel
theorem dX3_fillWithStarts_31 : decode cX3_fillWithStarts 31 = .ok (.checkcast 102, 3) := by decide +kernel
theorem dX3_fillWithStarts_34 : decode cX3_fillWithStarts 34 = .ok (.astore 6, 2) := by decide +kernel
theorem dX3_fillWithStarts_36 : decode cX3_fillWithStarts 36 = .ok (.aload_n 0, 1) := by decide +kernel
theorem dX3_fillWithStarts_37 : decode cX3_fillWithStarts 37 = .ok (.getfield 15, 3) := by decide +kernel
theorem dX3_fillWithStarts_40 : decode cX3_fillWithStarts 40 = .ok (.aload 6, 2) := by decide +kernel
theorem dX3_fillWithStarts_42 : decode cX3_fillWithStarts 42 = .ok (.getfield 104, 3) := by decide +kernel
theorem dX3_fillWithStarts_45 : decode cX3_fillWithStarts 45 = .ok (.aload_n 0, 1) := by decide +kernel
theorem dX3_fillWithStarts_46 : decode cX3_fillWithStarts 46 = .ok (.getfield 9, 3) := by decide +kernel
theorem dX3_fillWithStarts_49 : decode cX3_fillWithStarts 49 = .ok (.aload 6, 2) := by decide +kernel
theorem dX3_fillWithStarts_51 : decode cX3_fillWithStarts 51 = .ok (.getfield 105, 3) := by decide +kernel
theorem dX3_fillWithStarts_54 : decode cX3_fillWithStarts 54 = .ok (.iload_n 2, 1) := by decide +kernel
theorem dX3_fillWithStarts_55 : decode cX3_fillWithStarts 55 = .ok (.iload_n 3, 1) := by decide +kernel
theorem dX3_fillWithStarts_56 : decode cX3_fillWithStarts 56 = .ok (.iload 4, 2) := by decide +kernel
theorem dX3_fillWithStarts_58 : decode cX3_fillWithStarts 58 = .ok (.aload 6, 2) := by decide +kernel
theorem dX3_fillWithStarts_60 : decode cX3_fillWithStarts 60 = .ok (.getfield 109, 3) := by decide +kernel
theorem dX3_fillWithStarts_63 : decode cX3_fillWithStarts 63 = .ok (.invokevirtual 112, 3) := by decide +kernel
theorem dX3_fillWithStarts_66 : decode cX3_fillWithStarts 66 = .ok (.isub, 1) := by decide +kernel
theorem dX3_fillWithStarts_67 : decode cX3_fillWithStarts 67 = .ok (.aload 6, 2) := by decide +kernel
theorem dX3_fillWithStarts_69 : decode cX3_fillWithStarts 69 = .ok (.getfield 118, 3) := by decide +kernel
theorem dX3_fillWithStarts_72 : decode cX3_fillWithStarts 72 = .ok (.invokevirtual 121, 3) := by decide +kernel
theorem dX3_fillWithStarts_75 : decode cX3_fillWithStarts 75 = .ok (.iinc 5 1, 3) := by decide +kernel
theorem dX3_fillWithStarts_78 : decode cX3_fillWithStarts 78 = .ok (.goto (-68), 3) := by decide +kernel
theorem dX3_fillWithStarts_81 : decode cX3_fillWithStarts 81 = .ok (.return_, 1) := by decide +kernel
theorem kw_688 : Cond.fieldLink "QuakeBench$Search" 89 "QuakeBench$Event" "members" "Ljava/util/ArrayList;" ∈ lw_all := zin1 688 (by decide +kernel)
theorem ky_Jx4a65c_size_8abf5 : yJx4a65c_size_8abf5.cls ≠ "java/lang/invoke/MethodHandle" ∧ yJx4a65c_size_8abf5.cls ≠ "java/lang/invoke/VarHandle" ∧ (parseMethodDescriptor yJx4a65c_size_8abf5.desc).map (fun d => d.parameters.length) = some 0 := by decide +kernel
theorem kc_X3_fillWithStarts_16 : ∀ w ∈ ([Cond.methodLink "QuakeBench$Search" 93 yJx4a65c_size_8abf5, Cond.instanceMethod yJx4a65c_size_8abf5, Cond.selects "java/util/ArrayList" yJx4a65c_size_8abf5 yJx4a65c_size_8abf5, Cond.initialized "java/util/ArrayList", Cond.code yJx4a65c_size_8abf5 prog_35_method_8_code 1 (Option.some Jvm.ClassFile.FieldType.int)] : List Cond), w ∈ lw_all := zin [750, 223, 224, 57, 225] (by decide +kernel)
theorem ky_Jx4a65c_get_915e3 : yJx4a65c_get_915e3.cls ≠ "java/lang/invoke/MethodHandle" ∧ yJx4a65c_get_915e3.cls ≠ "java/lang/invoke/VarHandle" ∧ (parseMethodDescriptor yJx4a65c_get_915e3.desc).map (fun d => d.parameters.length) = some 1 := by decide +kernel
theorem kc_X3_fillWithStarts_28 : ∀ w ∈ ([Cond.methodLink "QuakeBench$Search" 98 yJx4a65c_get_915e3, Cond.instanceMethod yJx4a65c_get_915e3, Cond.selects "java/util/ArrayList" yJx4a65c_get_915e3 yJx4a65c_get_915e3, Cond.initialized "java/util/ArrayList", Cond.code yJx4a65c_get_915e3 prog_35_method_20_code 2 (Option.some (Jvm.ClassFile.FieldType.object "java/lang/Object"))] : List Cond), w ∈ lw_all := zin [751, 227, 228, 57, 229] (by decide +kernel)
theorem kw_752 : Cond.classLink "QuakeBench$Search" 102 "QuakeBench$Pick" ∈ lw_all := zin1 752 (by decide +kernel)
theorem kw_161 : Cond.fieldLink "QuakeBench$Search" 15 "QuakeBench$Search" "row" "LQuakeBench$Row;" ∈ lw_all := zin1 161 (by decide +kernel)
theorem kw_949 : Cond.fieldLink "QuakeBench$Search" 104 "QuakeBench$Pick" "time" "I" ∈ lw_all := zin1 949 (by decide +kernel)
theorem kw_160 : Cond.fieldLink "QuakeBench$Search" 9 "QuakeBench$Search" "waves" "LQuakeBench$Waves;" ∈ lw_all := zin1 160 (by decide +kernel)
theorem kw_940 : Cond.fieldLink "QuakeBench$Search" 105 "QuakeBench$Pick" "station" "LQuakeBench$Station;" ∈ lw_all := zin1 940 (by decide +kernel)
theorem kw_945 : Cond.fieldLink "QuakeBench$Search" 109 "QuakeBench$Pick" "isS" "Z" ∈ lw_all := zin1 945 (by decide +kernel)
theorem kc_X3_fillWithStarts_63 : ∀ w ∈ ([Cond.methodLink "QuakeBench$Search" 112 yX5_travel, Cond.instanceMethod yX5_travel, Cond.selects "QuakeBench$Waves" yX5_travel yX5_travel, Cond.initialized "QuakeBench$Waves", Cond.code yX5_travel prog_7_method_2_code 7 (Option.some Jvm.ClassFile.FieldType.int)] : List Cond), w ∈ lw_all := zin [753, 635, 636, 58, 637] (by decide +kernel)
theorem kw_952 : Cond.fieldLink "QuakeBench$Search" 118 "QuakeBench$Pick" "weight" "I" ∈ lw_all := zin1 952 (by decide +kernel)
theorem ky_X2_put : yX2_put.cls ≠ "java/lang/invoke/MethodHandle" ∧ yX2_put.cls ≠ "java/lang/invoke/VarHandle" ∧ (parseMethodDescriptor yX2_put.desc).map (fun d => d.parameters.length) = some 2 := by decide +kernel
theorem kc_X3_fillWithStarts_72 : ∀ w ∈ ([Cond.methodLink "QuakeBench$Search" 121 yX2_put, Cond.instanceMethod yX2_put, Cond.selects "QuakeBench$Row" yX2_put yX2_put, Cond.initialized "QuakeBench$Row", Cond.code yX2_put prog_4_method_3_code 4 (Option.none : Option Jvm.ClassFile.FieldType)] : List Cond), w ∈ lw_all := zin [754, 755, 756, 59, 757] (by decide +kernel)
theorem ky_X2_empty : yX2_empty.cls ≠ "java/lang/invoke/MethodHandle" ∧ yX2_empty.cls ≠ "java/lang/invoke/VarHandle" ∧ (parseMethodDescriptor yX2_empty.desc).map (fun d => d.parameters.length) = some 0 := by decide +kernel
theorem kc_X3_fillWithStarts_4 : ∀ w ∈ ([Cond.methodLink "QuakeBench$Search" 86 yX2_empty, Cond.instanceMethod yX2_empty, Cond.selects "QuakeBench$Row" yX2_empty yX2_empty, Cond.initialized "QuakeBench$Row", Cond.code yX2_empty prog_4_method_2_code 1 (Option.none : Option Jvm.ClassFile.FieldType)] : List Cond), w ∈ lw_all := zin [746, 747, 748, 59, 749] (by decide +kernel)
theorem dX3_offer_0 : decode cX3_offer 0 = .ok (.iload_n 2, 1) := by decide +kernel
theorem dX3_offer_1 : decode cX3_offer 1 = .ok (.iload_n 3, 1) := by decide +kernel
theorem dX3_offer_2 : decode cX3_offer 2 = .ok (.iload 4, 2) := by decide +kernel
theorem dX3_offer_4 : decode cX3_offer 4 = .ok (.invokestatic 69, 3) := by decide +kernel
theorem dX3_offer_7 : decode cX3_offer 7 = .ok (.ifCond .ne 4, 3) := by decide +kernel
theorem dX3_offer_10 : decode cX3_offer 10 = .ok (.return_, 1) := by decide +kernel
theorem dX3_offer_11 : decode cX3_offer 11 = .ok (.aload_n 0, 1) := by decide +kernel
theorem dX3_offer_12 : decode cX3_offer 12 = .ok (.aload_n 1, 1) := by decide +kernel
theorem dX3_offer_13 : decode cX3_offer 13 = .ok (.iload_n 2, 1) := by decide +kernel
theorem dX3_offer_14 : decode cX3_offer 14 = .ok (.iload_n 3, 1) := by decide +kernel
theorem dX3_offer_15 : decode cX3_offer 15 = .ok (.iload 4, 2) := by decide +kernel
theorem dX3_offer_17 : decode cX3_offer 17 = .ok (.invokevirtual 73, 3) := by decide +kernel
theorem dX3_offer_20 : decode cX3_offer 20 = .ok (.aload_n 0, 1) := by decide +kernel
theorem dX3_offer_21 : decode cX3_offer 21 = .ok (.getfield 15, 3) := by decide +kernel
theorem dX3_offer_24 : decode cX3_offer 24 = .ok (.invokevirtual 76, 3) := by decide +kernel
theorem dX3_offer_27 : decode cX3_offer 27 = .ok (.istore 5, 2) := by decide +kernel
theorem dX3_offer_29 : decode cX3_offer 29 = .ok (.aload_n 0, 1) := by decide +kernel
theorem dX3_offer_30 : decode cX3_offer 30 = .ok (.getfield 15, 3) := by decide +kernel
theorem dX3_offer_33 : decode cX3_offer 33 = .ok (.iload 5, 2) := by decide +kernel
theorem dX3_offer_35 : decode cX3_offer 35 = .ok (.invokevirtual 82, 3) := by decide +kernel
theorem dX3_offer_38 : decode cX3_offer 38 = .ok (.lstore 6, 2) := by decide +kernel
theorem dX3_offer_40 : decode cX3_offer 40 = .ok (.aload_n 0, 1) := by decide +kernel
theorem dX3_offer_41 : decode cX3_offer 41 = .ok (.getfield 62, 3) := by decide +kernel
theorem dX3_offer_44 : decode cX3_offer 44 = .ok (.ifCond .eq 13, 3) := by decide +kernel
theorem dX3_offer_47 : decode cX3_offer 47 = .ok (.lload 6, 2) := by decide +kernel
theorem dX3_offer_49 : decode cX3_offer 49 = .ok (.aload_n 0, 1) := by decide +kernel
theorem dX3_offer_50 : decode cX3_offer 50 = .ok (.getfield 58, 3) := by decide +kernel
theorem dX3_offer_53 : decode cX3_offer 53 = .ok (.lcmp, 1) := by decide +kernel
theorem dX3_offer_54 : decode cX3_offer 54 = .ok (.ifCond .ge 36, 3) := by decide +kernel
theorem dX3_offer_57 : decode cX3_offer 57 = .ok (.aload_n 0, 1) := by decide +kernel
theorem dX3_offer_58 : decode cX3_offer 58 = .ok (.iconst 1, 1) := by decide +kernel
theorem dX3_offer_59 : decode cX3_offer 59 = .ok (.putfield 62, 3) := by decide +kernel
theorem dX3_offer_62 : decode cX3_offer 62 = .ok (.aload_n 0, 1) := by decide +kernel
theorem dX3_offer_63 : decode cX3_offer 63 = .ok (.iload_n 2, 1) := by decide +kernel
theorem dX3_offer_64 : decode cX3_offer 64 = .ok (.putfield 27, 3) := by decide +kernel
theorem dX3_offer_67 : decode cX3_offer 67 = .ok (.aload_n 0, 1) := by decide +kernel
theorem dX3_offer_68 : decode cX3_offer 68 = .ok (.iload_n 3, 1) := by decide +kernel
theorem dX3_offer_69 : decode cX3_offer 69 = .ok (.putfield 31, 3) := by decide +kernel
theorem dX3_offer_72 : decode cX3_offer 72 = .ok (.aload_n 0, 1) := by decide +kernel
theorem dX3_offer_73 : decode cX3_offer 73 = .ok (.iload 4, 2) := by decide +kernel
theorem dX3_offer_75 : decode cX3_offer 75 = .ok (.putfield 34, 3) := by decide +kernel
theorem dX3_offer_78 : decode cX3_offer 78 = .ok (.aload_n 0, 1) := by decide +kernel
theorem dX3_offer_79 : decode cX3_offer 79 = .ok (.iload 5, 2) := by decide +kernel
theorem dX3_offer_81 : decode cX3_offer 81 = .ok (.putfield 48, 3) := by decide +kernel
theorem dX3_offer_84 : decode cX3_offer 84 = .ok (.aload_n 0, 1) := by decide +kernel
theorem dX3_offer_85 : decode cX3_offer 85 = .ok (.lload 6, 2) := by decide +kernel
theorem dX3_offer_87 : decode cX3_offer 87 = .ok (.putfield 58, 3) := by decide +kernel
theorem dX3_offer_90 : decode cX3_offer 90 = .ok (.return_, 1) := by decide +kernel
theorem ky_X6_isPlace : yX6_isPlace.cls ≠ "java/lang/invoke/MethodHandle" ∧ yX6_isPlace.cls ≠ "java/lang/invoke/VarHandle" ∧ (parseMethodDescriptor yX6_isPlace.desc).map (fun d => d.parameters.length) = some 3 := by decide +kernel
theorem kn_739 : Cond.methodLinkNest "QuakeBench$Search" 69 yX6_isPlace "QuakeBench" ∈ lw_nest := by decide +kernel
theorem kc_X3_offer_4 : ∀ w ∈ ([Cond.static yX6_isPlace, Cond.initialized "QuakeBench", Cond.code yX6_isPlace prog_1_method_27_code 3 (Option.some Jvm.ClassFile.FieldType.boolean)] : List Cond), w ∈ lw_all := zin [740, 54, 741] (by decide +kernel)
theorem ky_X3_fillWithStarts : yX3_fillWithStarts.cls ≠ "java/lang/invoke/MethodHandle" ∧ yX3_fillWithStarts.cls ≠ "java/lang/invoke/VarHandle" ∧ (parseMethodDescriptor yX3_fillWithStarts.desc).map (fun d => d.parameters.length) = some 4 := by decide +kernel
theorem kc_X3_offer_17 : ∀ w ∈ ([Cond.methodLink "QuakeBench$Search" 73 yX3_fillWithStarts, Cond.instanceMethod yX3_fillWithStarts, Cond.selects "QuakeBench$Search" yX3_fillWithStarts yX3_fillWithStarts, Cond.initialized "QuakeBench$Search", Cond.code yX3_fillWithStarts prog_5_method_5_code 7 (Option.none : Option Jvm.ClassFile.FieldType)] : List Cond), w ∈ lw_all := zin [742, 743, 744, 60, 745] (by decide +kernel)
theorem ky_X2_middle : yX2_middle.cls ≠ "java/lang/invoke/MethodHandle" ∧ yX2_middle.cls ≠ "java/lang/invoke/VarHandle" ∧ (parseMethodDescriptor yX2_middle.desc).map (fun d => d.parameters.length) = some 0 := by decide +kernel
theorem kc_X3_offer_24 : ∀ w ∈ ([Cond.methodLink "QuakeBench$Search" 76 yX2_middle, Cond.instanceMethod yX2_middle, Cond.selects "QuakeBench$Row" yX2_middle yX2_middle, Cond.initialized "QuakeBench$Row", Cond.code yX2_middle prog_4_method_4_code 3 (Option.some Jvm.ClassFile.FieldType.int)] : List Cond), w ∈ lw_all := zin [758, 759, 760, 59, 761] (by decide +kernel)
theorem ky_X2_distanceFrom : yX2_distanceFrom.cls ≠ "java/lang/invoke/MethodHandle" ∧ yX2_distanceFrom.cls ≠ "java/lang/invoke/VarHandle" ∧ (parseMethodDescriptor yX2_distanceFrom.desc).map (fun d => d.parameters.length) = some 1 := by decide +kernel
theorem kc_X3_offer_35 : ∀ w ∈ ([Cond.methodLink "QuakeBench$Search" 82 yX2_distanceFrom, Cond.instanceMethod yX2_distanceFrom, Cond.selects "QuakeBench$Row" yX2_distanceFrom yX2_distanceFrom, Cond.initialized "QuakeBench$Row", Cond.code yX2_distanceFrom prog_4_method_5_code 5 (Option.some Jvm.ClassFile.FieldType.long)] : List Cond), w ∈ lw_all := zin [762, 763, 764, 59, 765] (by decide +kernel)
theorem kw_162 : Cond.fieldLink "QuakeBench$Search" 62 "QuakeBench$Search" "hasBest" "Z" ∈ lw_all := zin1 162 (by decide +kernel)
theorem kw_163 : Cond.fieldLink "QuakeBench$Search" 27 "QuakeBench$Search" "bestX" "I" ∈ lw_all := zin1 163 (by decide +kernel)
theorem kw_164 : Cond.fieldLink "QuakeBench$Search" 31 "QuakeBench$Search" "bestY" "I" ∈ lw_all := zin1 164 (by decide +kernel)
theorem kw_165 : Cond.fieldLink "QuakeBench$Search" 34 "QuakeBench$Search" "bestZ" "I" ∈ lw_all := zin1 165 (by decide +kernel)
theorem kw_166 : Cond.fieldLink "QuakeBench$Search" 48 "QuakeBench$Search" "bestBegin" "I" ∈ lw_all := zin1 166 (by decide +kernel)
theorem kw_167 : Cond.fieldLink "QuakeBench$Search" 58 "QuakeBench$Search" "leastMisfit" "J" ∈ lw_all := zin1 167 (by decide +kernel)
/-! Search: places, the row of an event's starts, an offer, a scan, the whole search -/
def s_place (x y z : Int32) : Prop := (¬ x < 0 ∧ ¬ 200 < x) ∧ (¬ y < 0 ∧ ¬ 200 < y) ∧ (¬ z < 0 ∧ ¬ 60 < z)
def s_pl (x y z : Int32) : Int32 := if x < 0 then 0 else if 200 < x then 0 else if y < 0 then 0 else if 200 < y then 0 else if z < 0 then 0 else if 60 < z then 0 else 1
theorem s_pl_iff {x y z : Int32} : (s_pl x y z = 0 ↔ ¬ s_place x y z) ∧ (¬ s_pl x y z = 0 ↔ s_place x y z) := by
  unfold s_pl s_place
  by_cases h1 : x < 0 <;> by_cases h2 : 200 < x <;> by_cases h3 : y < 0 <;> by_cases h4 : 200 < y <;> by_cases h5 : z < 0 <;> by_cases h6 : 60 < z <;> simp [h1, h2, h3, h4, h5, h6]
abbrev rm_c_isPlace : Room := { frames := 0, cells := 0, slots := 0, locals := 0 }
set_option maxHeartbeats 4000000 in
set_option maxRecDepth 100000 in
theorem c_isPlace (l : Launch) (Γ : zY) (G : zG) (x y z : Int32) : ZM l yX6_isPlace cX6_isPlace 3 (some FieldType.boolean) rm_c_isPlace Γ [.int x, .int y, .int z] G (zRd G (.int (s_pl x y z))) := by
  refine z_start (by decide +kernel) [some (.int x), some (.int y), some (.int z)] rfl (Nat.le_of_ble_eq_true rfl) ?_
  intro p e s m args below meth c Q A C F hr hnm
  have no : s_pl x y z = 0 → Z p l e rm_c_isPlace s m args below meth c Q 3 Γ A G 0 0 36 [some (.int x), some (.int y), some (.int z)] [] := by
    intro h
    refine z_iconst (v := 0) C dX6_isPlace_36 rfl ?_
    exact z_bret C F hr rfl (Nat.le_of_ble_eq_true rfl) (Nat.le_of_ble_eq_true rfl) ⟨by rw [h], rfl⟩ dX6_isPlace_37
  refine z_iload_n C dX6_isPlace_0 rfl ?_
  refine z_if_lt (tgt := 36) C dX6_isPlace_1 (by decide) (fun h1 => ?_) (fun h1 => ?_)
  · exact no (by unfold s_pl; rw [if_pos h1])
  · refine z_iload_n C dX6_isPlace_4 rfl ?_
    refine z_sipush (v := 200) C dX6_isPlace_5 rfl ?_
    refine z_icmp_gt (tgt := 36) C dX6_isPlace_8 (by decide) (fun h8 => ?_) (fun h8 => ?_)
    · exact no (by unfold s_pl; rw [if_pos h8]; split <;> rfl)
    · refine z_iload_n C dX6_isPlace_11 rfl ?_
      refine z_if_lt (tgt := 36) C dX6_isPlace_12 (by decide) (fun h12 => ?_) (fun h12 => ?_)
      · exact no (by unfold s_pl; rw [if_pos h12]; simp)
      · refine z_iload_n C dX6_isPlace_15 rfl ?_
        refine z_sipush (v := 200) C dX6_isPlace_16 rfl ?_
        refine z_icmp_gt (tgt := 36) C dX6_isPlace_19 (by decide) (fun h19 => ?_) (fun h19 => ?_)
        · exact no (by unfold s_pl; rw [if_pos h19]; simp)
        · refine z_iload_n C dX6_isPlace_22 rfl ?_
          refine z_if_lt (tgt := 36) C dX6_isPlace_23 (by decide) (fun h23 => ?_) (fun h23 => ?_)
          · exact no (by unfold s_pl; rw [if_pos h23]; simp)
          · refine z_iload_n C dX6_isPlace_26 rfl ?_
            refine z_bipush (v := 60) C dX6_isPlace_27 rfl ?_
            refine z_icmp_gt (tgt := 36) C dX6_isPlace_29 (by decide) (fun h29 => ?_) (fun h29 => ?_)
            · exact no (by unfold s_pl; rw [if_pos h29]; simp)
            · refine z_iconst (v := 1) C dX6_isPlace_32 rfl ?_
              refine z_goto (tgt := 37) C dX6_isPlace_33 (by decide) ?_
              exact z_bret C F hr rfl (Nat.le_of_ble_eq_true rfl) (Nat.le_of_ble_eq_true rfl) ⟨by unfold s_pl; rw [if_neg h1, if_neg h8, if_neg h12, if_neg h19, if_neg h23, if_neg h29], rfl⟩ dX6_isPlace_37
/-- of a pick, by its address: time, weight, wave, its station's x, y, delay -/
abbrev zPD : Type := Nat → Int32 × Int32 × Int32 × Int32 × Int32 × Int32
def s_start (sp ss : Int32) (d : Int32 × Int32 × Int32 × Int32 × Int32 × Int32) (x y z : Int32) : Int32 := d.1 - s_trav sp ss d.2.2.2.1 d.2.2.2.2.1 d.2.2.2.2.2 x y z d.2.2.1
def s_row (sp ss : Int32) (pd : zPD) (ms : List Nat) (x y z : Int32) : List (Int32 × Int32) := ms.foldl (fun rs q => s_put (s_start sp ss (pd q) x y z) (pd q).2.1 rs) []
def s_tot (pd : zPD) (ms : List Nat) : Int32 := ms.foldl (fun a q => a + (pd q).2.1) 0
def zMem (G : zG) (ms : List Nat) (pd : zPD) : Prop := ∀ y ∈ ms, ∃ (n : Int32) (st : Nat) (am : Int32) (ev : Option Nat) (n2 : Int32), G y = some (oPk n st (pd y).2.2.1 (pd y).1 (pd y).2.1 am ev) ∧ G st = some (oSta n2 (pd y).2.2.2.1 (pd y).2.2.2.2.1 (pd y).2.2.2.2.2)
/-- only the row's three cells differ -/
def zF3 (G G' : zG) (r na wa : Nat) : Prop := ∀ q, q ≠ r → q ≠ na → q ≠ wa → G' q = G q
/-- what is neither a row nor an array of numbers -/
def zk : va_E → Bool
  | .inr (3, _) => false
  | .inl (_, _, .inl _) => false
  | _ => true
theorem zF3.get {Γ : zY} {G G' : zG} {r na wa : Nat} {rs : List (Int32 × Int32)} {tot : Int32} (hf : zF3 G G' r na wa) (hR : zRo Γ G r na wa rs tot) {q : Nat} {e : va_E} (hq : G q = some e) (hk : zk e = true) : G' q = some e := by
  obtain ⟨-, -, h1, f, g, h2, h3, -⟩ := hR
  rw [hf q (zG_ne hq h1 (fun z => by rw [z] at hk; cases hk)) (zG_ne hq h2 (fun z => by rw [z] at hk; cases hk)) (zG_ne hq h3 (fun z => by rw [z] at hk; cases hk))]
  exact hq
theorem zF3.lst {Γ : zY} {G G' : zG} {r na wa : Nat} {rs : List (Int32 × Int32)} {tot : Int32} (hf : zF3 G G' r na wa) (hR : zRo Γ G r na wa rs tot) {a arr : Nat} {xs : List Nat} (h : zLs Γ G a arr xs) : zLs Γ G' a arr xs := by
  obtain ⟨mc, cap, h1, h2, h3, h4⟩ := h
  refine ⟨mc, cap, hf.get hR h1 rfl, h2, h3, ?_⟩
  rcases h4 with h4 | ⟨h4, f, h5, h6⟩
  · exact Or.inl h4
  · exact Or.inr ⟨h4, f, hf.get hR h5 rfl, h6⟩
theorem zF3.mem {Γ : zY} {G G' : zG} {r na wa : Nat} {rs : List (Int32 × Int32)} {tot : Int32} (hf : zF3 G G' r na wa) (hR : zRo Γ G r na wa rs tot) {ms : List Nat} {pd : zPD} (h : zMem G ms pd) : zMem G' ms pd := by
  intro y hy
  obtain ⟨n, st, am, ev, n2, h1, h2⟩ := h y hy
  exact ⟨n, st, am, ev, n2, hf.get hR h1 rfl, hf.get hR h2 rfl⟩
theorem zF3.trans {G G' G2 : zG} {r na wa : Nat} (h : zF3 G G' r na wa) (h2 : zF3 G' G2 r na wa) : zF3 G G2 r na wa := fun q a b c => (h2 q a b c).trans (h q a b c)
theorem s_row_len (sp ss : Int32) (pd : zPD) (x y z : Int32) (ms : List Nat) : (s_row sp ss pd ms x y z).length = ms.length := by
  unfold s_row
  suffices K : ∀ rs : List (Int32 × Int32), (ms.foldl (fun rs q => s_put (s_start sp ss (pd q) x y z) (pd q).2.1 rs) rs).length = rs.length + ms.length by rw [K]; simp
  induction ms with
  | nil => intro rs; rfl
  | cons a r ih => intro rs; rw [List.foldl_cons, ih, s_put_len, List.length_cons]; omega
theorem s_row_snoc (sp ss : Int32) (pd : zPD) (x y z : Int32) (ms : List Nat) {i q : Nat} (h : ms[i]? = some q) : s_row sp ss pd (ms.take (i + 1)) x y z = s_put (s_start sp ss (pd q) x y z) (pd q).2.1 (s_row sp ss pd (ms.take i) x y z) := by
  unfold s_row
  rw [List.take_add_one, h, Option.toList_some, List.foldl_append]
  rfl
theorem s_tot_snoc (pd : zPD) (ms : List Nat) {i q : Nat} (h : ms[i]? = some q) : s_tot pd (ms.take (i + 1)) = s_tot pd (ms.take i) + (pd q).2.1 := by
  unfold s_tot
  rw [List.take_add_one, h, Option.toList_some, List.foldl_append]
  rfl
abbrev rm_c_fill : Room := { frames := 3, cells := 0, slots := 0, locals := 102 }
set_option maxHeartbeats 4000000 in
set_option maxRecDepth 100000 in
theorem c_fill (l : Launch) (Γ : zY) (G : zG) {se wv ro na wa q ml mAr : Nat} {hb bx bY bz bb sp ss n fo ex ey ez et lb : Int32} {lm : Int64} {rs : List (Int32 × Int32)} {tot : Int32} {ms : List Nat} {pd : zPD} (x y z : Int32)
    (hse : G se = some (oSea wv ro hb bx bY bz bb lm)) (hwv : G wv = some (oWav sp ss)) (hR : zRo Γ G ro na wa rs tot) (hq : G q = some (oEv n ml fo ex ey ez et lb)) (hl : zLs Γ G ml mAr ms) (hm : zMem G ms pd) (hn : ms.length ≤ 33) :
    ZM l yX3_fillWithStarts cX3_fillWithStarts 7 (none) rm_c_fill Γ [.ref se, .ref q, .int x, .int y, .int z] G (fun v G' => none = v ∧ zRo Γ G' ro na wa (s_row sp ss pd ms x y z) (s_tot pd ms) ∧ zF3 G G' ro na wa) := by
  refine z_start (by decide +kernel) [some (.ref se), some (.ref q), some (.int x), some (.int y), some (.int z), none, none] rfl (Nat.le_of_ble_eq_true rfl) ?_
  intro p e s m args below meth c Q A C F hr hnm
  have loop : ∀ (d i : Nat) (G1 : zG) (w : Option Value), i + d = ms.length → zRo Γ G1 ro na wa (s_row sp ss pd (ms.take i) x y z) (s_tot pd (ms.take i)) → zF3 G G1 ro na wa → Z p l e rm_c_fill s m args below meth c Q 7 Γ A G1 0 0 10 [some (.ref se), some (.ref q), some (.int x), some (.int y), some (.int z), some (.int (nI i)), w] [] := by
    intro d
    induction d with
    | zero =>
      intro i G1 w hi hR1 hf
      have hq1 := hf.get hR hq rfl
      have hl1 := hf.lst hR hl
      obtain ⟨mc, cap, hml, -⟩ := id hl1
      refine z_iload C dX3_fillWithStarts_10 rfl ?_
      first | refine z_rload_n C dX3_fillWithStarts_12 rfl ?_ | refine z_nload_n C dX3_fillWithStarts_12 rfl ?_ | refine z_aload_n C dX3_fillWithStarts_12 rfl ?_
      refine z_getf (T := TX0) (N := 8) C (by first | assumption | exact zU_same _ _ _) rfl 1 (by decide) kw_688 (Or.inl rfl) rfl dX3_fillWithStarts_13 ?_
      refine z_callV (q := (RJx4a65c, TJx4a65c, 3)) C (c_size l Γ G1 hl1) kc_X3_fillWithStarts_16 (by first | assumption | exact zU_same _ _ _) rfl rfl rfl rfl ky_Jx4a65c_size_8abf5 ⟨(Nat.le_of_ble_eq_true rfl), (Nat.le_of_ble_eq_true rfl)⟩ (Nat.le_of_ble_eq_true rfl) ⟨(Nat.le_of_ble_eq_true rfl), (Nat.le_of_ble_eq_true rfl)⟩ dX3_fillWithStarts_16 (fun v16 G16 hp16 => ?_)
      obtain ⟨rfl, rfl⟩ := hp16
      refine z_icmp_ge (tgt := 81) C dX3_fillWithStarts_19 (by decide) (fun h19 => ?_) (fun h19 => ?_)
      · rw [List.take_of_length_le (by omega)] at hR1
        exact z_vret C F hr (Nat.le_of_ble_eq_true rfl) (Nat.le_of_ble_eq_true rfl) ⟨rfl, hR1, hf⟩ dX3_fillWithStarts_81
      · exact absurd (nI_le (by omega) (by omega)) h19
    | succ d ih =>
      intro i G1 w hi hR1 hf
      have hq1 := hf.get hR hq rfl
      have hl1 := hf.lst hR hl
      have hse1 := hf.get hR hse rfl
      have hwv1 := hf.get hR hwv rfl
      obtain ⟨mc, cap, hml, -⟩ := id hl1
      obtain ⟨y0, hy0⟩ : ∃ y0, ms[i]? = some y0 := ⟨_, List.getElem?_eq_getElem (by omega)⟩
      obtain ⟨pn, st, am, ev, n2, hp, hs⟩ := hf.mem hR hm y0 (List.mem_of_getElem? hy0)
      refine z_iload C dX3_fillWithStarts_10 rfl ?_
      first | refine z_rload_n C dX3_fillWithStarts_12 rfl ?_ | refine z_nload_n C dX3_fillWithStarts_12 rfl ?_ | refine z_aload_n C dX3_fillWithStarts_12 rfl ?_
      refine z_getf (T := TX0) (N := 8) C (by first | assumption | exact zU_same _ _ _) rfl 1 (by decide) kw_688 (Or.inl rfl) rfl dX3_fillWithStarts_13 ?_
      refine z_callV (q := (RJx4a65c, TJx4a65c, 3)) C (c_size l Γ G1 hl1) kc_X3_fillWithStarts_16 (by first | assumption | exact zU_same _ _ _) rfl rfl rfl rfl ky_Jx4a65c_size_8abf5 ⟨(Nat.le_of_ble_eq_true rfl), (Nat.le_of_ble_eq_true rfl)⟩ (Nat.le_of_ble_eq_true rfl) ⟨(Nat.le_of_ble_eq_true rfl), (Nat.le_of_ble_eq_true rfl)⟩ dX3_fillWithStarts_16 (fun v16 G16 hp16 => ?_)
      obtain ⟨rfl, rfl⟩ := hp16
      refine z_icmp_ge (tgt := 81) C dX3_fillWithStarts_19 (by decide) (fun h19 => ?_) (fun h19 => ?_)
      · exact absurd h19 (nI_ge (by omega) (by omega))
      · first | refine z_rload_n C dX3_fillWithStarts_22 rfl ?_ | refine z_nload_n C dX3_fillWithStarts_22 rfl ?_ | refine z_aload_n C dX3_fillWithStarts_22 rfl ?_
        refine z_getf (T := TX0) (N := 8) C (by first | assumption | exact zU_same _ _ _) rfl 1 (by decide) kw_688 (Or.inl rfl) rfl dX3_fillWithStarts_23 ?_
        refine z_iload C dX3_fillWithStarts_26 rfl ?_
        refine z_callV (q := (RJx4a65c, TJx4a65c, 3)) C (c_get l Γ G1 hl1 hy0) kc_X3_fillWithStarts_28 (by first | assumption | exact zU_same _ _ _) rfl rfl rfl rfl ky_Jx4a65c_get_915e3 ⟨(Nat.le_of_ble_eq_true rfl), (Nat.le_of_ble_eq_true rfl)⟩ (Nat.le_of_ble_eq_true rfl) ⟨(Nat.le_of_ble_eq_true rfl), (Nat.le_of_ble_eq_true rfl)⟩ dX3_fillWithStarts_28 (fun v28 G28 hp28 => ?_)
        obtain ⟨rfl, rfl⟩ := hp28
        refine z_cast (q := (RX1, TX1, 7)) C kw_752 (by first | assumption | exact zU_same _ _ _) rfl dX3_fillWithStarts_31 ?_
        first | refine z_rstore C dX3_fillWithStarts_34 (by decide) ?_ | refine z_astore C dX3_fillWithStarts_34 (by decide) ?_
        first | refine z_rload_n C dX3_fillWithStarts_36 rfl ?_ | refine z_nload_n C dX3_fillWithStarts_36 rfl ?_ | refine z_aload_n C dX3_fillWithStarts_36 rfl ?_
        refine z_getf (T := TX3) (N := 8) C (by first | assumption | exact zU_same _ _ _) rfl 1 (by decide) kw_161 (Or.inl rfl) rfl dX3_fillWithStarts_37 ?_
        first | refine z_rload C dX3_fillWithStarts_40 rfl ?_ | refine z_aload C dX3_fillWithStarts_40 rfl ?_
        refine z_getf (T := TX1) (N := 7) C (by first | assumption | exact zU_same _ _ _) rfl 3 (by decide) kw_949 (Or.inl rfl) rfl dX3_fillWithStarts_42 ?_
        first | refine z_rload_n C dX3_fillWithStarts_45 rfl ?_ | refine z_nload_n C dX3_fillWithStarts_45 rfl ?_ | refine z_aload_n C dX3_fillWithStarts_45 rfl ?_
        refine z_getf (T := TX3) (N := 8) C (by first | assumption | exact zU_same _ _ _) rfl 0 (by decide) kw_160 (Or.inl rfl) rfl dX3_fillWithStarts_46 ?_
        first | refine z_rload C dX3_fillWithStarts_49 rfl ?_ | refine z_aload C dX3_fillWithStarts_49 rfl ?_
        refine z_getf (T := TX1) (N := 7) C (by first | assumption | exact zU_same _ _ _) rfl 1 (by decide) kw_940 (Or.inl rfl) rfl dX3_fillWithStarts_51 ?_
        refine z_iload_n C dX3_fillWithStarts_54 rfl ?_
        refine z_iload_n C dX3_fillWithStarts_55 rfl ?_
        refine z_iload C dX3_fillWithStarts_56 rfl ?_
        first | refine z_rload C dX3_fillWithStarts_58 rfl ?_ | refine z_aload C dX3_fillWithStarts_58 rfl ?_
        refine z_getf (T := TX1) (N := 7) C (by first | assumption | exact zU_same _ _ _) rfl 2 (by decide) kw_945 (Or.inl rfl) rfl dX3_fillWithStarts_60 ?_
        refine z_callV (q := (RX5, TX5, 2)) C (c_travel l Γ G1 wv st sp ss n2 _ _ _ x y z (pd y0).2.2.1 hwv1 hs) kc_X3_fillWithStarts_63 (by first | assumption | exact zU_same _ _ _) rfl rfl rfl rfl ky_X5_travel ⟨(Nat.le_of_ble_eq_true rfl), (Nat.le_of_ble_eq_true rfl)⟩ (Nat.le_of_ble_eq_true rfl) ⟨(Nat.le_of_ble_eq_true rfl), (Nat.le_of_ble_eq_true rfl)⟩ dX3_fillWithStarts_63 (fun v63 G63 hp63 => ?_)
        obtain ⟨rfl, rfl⟩ := hp63
        have hro := hR1.2.2.1
        refine z_isub C dX3_fillWithStarts_66 ?_
        first | refine z_rload C dX3_fillWithStarts_67 rfl ?_ | refine z_aload C dX3_fillWithStarts_67 rfl ?_
        refine z_getf (T := TX1) (N := 7) C (by first | assumption | exact zU_same _ _ _) rfl 4 (by decide) kw_952 (Or.inl rfl) rfl dX3_fillWithStarts_69 ?_
        refine z_callV (q := (RX2, TX2, 4)) C (c_put l Γ G1 (x := s_start sp ss (pd y0) x y z) (w := (pd y0).2.1) hR1 (by rw [s_row_len, List.length_take]; omega)) kc_X3_fillWithStarts_72 (by first | assumption | exact zU_same _ _ _) rfl rfl rfl rfl ky_X2_put ⟨(Nat.le_of_ble_eq_true rfl), (Nat.le_of_ble_eq_true rfl)⟩ (Nat.le_of_ble_eq_true rfl) ⟨(Nat.le_of_ble_eq_true rfl), (Nat.le_of_ble_eq_true rfl)⟩ dX3_fillWithStarts_72 (fun v72 G72 hp72 => ?_)
        obtain ⟨rfl, hR2, hf2⟩ := hp72
        refine z_iinc (w := 1) C dX3_fillWithStarts_75 rfl rfl (by decide) ?_
        refine z_goto (tgt := 10) C dX3_fillWithStarts_78 (by decide) ?_
        rw [← nI_succ]
        exact ih (i + 1) _ _ (by omega) (by rw [s_row_snoc sp ss pd x y z ms hy0, s_tot_snoc pd ms hy0]; exact hR2) (hf.trans hf2)
  have hro := hR.2.2.1
  first | refine z_rload_n C dX3_fillWithStarts_0 rfl ?_ | refine z_nload_n C dX3_fillWithStarts_0 rfl ?_ | refine z_aload_n C dX3_fillWithStarts_0 rfl ?_
  refine z_getf (T := TX3) (N := 8) C (by first | assumption | exact zU_same _ _ _) rfl 1 (by decide) kw_161 (Or.inl rfl) rfl dX3_fillWithStarts_1 ?_
  refine z_callV (q := (RX2, TX2, 4)) C (c_empty l Γ G hR) kc_X3_fillWithStarts_4 (by first | assumption | exact zU_same _ _ _) rfl rfl rfl rfl ky_X2_empty ⟨(Nat.le_of_ble_eq_true rfl), (Nat.le_of_ble_eq_true rfl)⟩ (Nat.le_of_ble_eq_true rfl) ⟨(Nat.le_of_ble_eq_true rfl), (Nat.le_of_ble_eq_true rfl)⟩ dX3_fillWithStarts_4 (fun v4 G4 hp4 => ?_)
  obtain ⟨rfl, hR2, hf2⟩ := hp4
  refine z_iconst (v := 0) C dX3_fillWithStarts_7 rfl ?_
  refine z_istore C dX3_fillWithStarts_8 (by decide) ?_
  exact loop ms.length 0 _ none (Nat.zero_add _) hR2 hf2
/-- the best place so far is a place, with its own begin and misfit -/
def zBest (sp ss : Int32) (pd : zPD) (ms : List Nat) (hb bx bY bz bb : Int32) (lm : Int64) : Prop :=
  (hb = 0 ∨ hb = 1) ∧ (hb = 1 → s_place bx bY bz ∧ bb = s_mid (s_row sp ss pd ms bx bY bz) ((s_tot pd ms - 1) / 2) ∧ lm = s_dist (s_row sp ss pd ms bx bY bz) bb)
/-- the search's cells and the row's alone differ -/
def zF4 (G G' : zG) (se r na wa : Nat) : Prop := ∀ q, q ≠ se → q ≠ r → q ≠ na → q ≠ wa → G' q = G q
theorem zF4.get {Γ : zY} {G G' : zG} {se r na wa : Nat} {rs : List (Int32 × Int32)} {tot : Int32} (hf : zF4 G G' se r na wa) (hR : zRo Γ G r na wa rs tot) {fs : List Value} (hse : G se = some (.inr (4, fs))) {q : Nat} {e : va_E} (hq : G q = some e) (hk : zk e = true) (h4 : ∀ gs, e ≠ .inr (4, gs)) : G' q = some e := by
  obtain ⟨-, -, h1, f, g, h2, h3, -⟩ := hR
  rw [hf q (zG_ne hq hse (h4 _)) (zG_ne hq h1 (fun z => by rw [z] at hk; cases hk)) (zG_ne hq h2 (fun z => by rw [z] at hk; cases hk)) (zG_ne hq h3 (fun z => by rw [z] at hk; cases hk))]
  exact hq
theorem zF4.lst {Γ : zY} {G G' : zG} {se r na wa : Nat} {rs : List (Int32 × Int32)} {tot : Int32} (hf : zF4 G G' se r na wa) (hR : zRo Γ G r na wa rs tot) {fs : List Value} (hse : G se = some (.inr (4, fs))) {a arr : Nat} {xs : List Nat} (h : zLs Γ G a arr xs) : zLs Γ G' a arr xs := by
  obtain ⟨mc, cap, h1, h2, h3, h4⟩ := h
  refine ⟨mc, cap, hf.get hR hse h1 rfl (fun _ z => by cases z), h2, h3, ?_⟩
  rcases h4 with h4 | ⟨h4, f, h5, h6⟩
  · exact Or.inl h4
  · exact Or.inr ⟨h4, f, hf.get hR hse h5 rfl (fun _ z => by cases z), h6⟩
theorem zF4.mem {Γ : zY} {G G' : zG} {se r na wa : Nat} {rs : List (Int32 × Int32)} {tot : Int32} (hf : zF4 G G' se r na wa) (hR : zRo Γ G r na wa rs tot) {fs : List Value} (hse : G se = some (.inr (4, fs))) {ms : List Nat} {pd : zPD} (h : zMem G ms pd) : zMem G' ms pd := by
  intro y hy
  obtain ⟨n, st, am, ev, n2, h1, h2⟩ := h y hy
  exact ⟨n, st, am, ev, n2, hf.get hR hse h1 rfl (fun _ z => by cases z), hf.get hR hse h2 rfl (fun _ z => by cases z)⟩
theorem zF4.trans {G G' G2 : zG} {se r na wa : Nat} (h : zF4 G G' se r na wa) (h2 : zF4 G' G2 se r na wa) : zF4 G G2 se r na wa := fun q z a b c => (h2 q z a b c).trans (h q z a b c)
/-- all that a search of the event at q rests on -/
def zSr (Γ : zY) (G : zG) (se wv ro na wa q ml mAr : Nat) (sp ss : Int32) (ms : List Nat) (pd : zPD) (hb bx bY bz bb : Int32) (lm : Int64) : Prop :=
  G se = some (oSea wv ro hb bx bY bz bb lm) ∧ G wv = some (oWav sp ss) ∧ (∃ rs tot, zRo Γ G ro na wa rs tot) ∧ (∃ n fo ex ey ez et lb, G q = some (oEv n ml fo ex ey ez et lb)) ∧ zLs Γ G ml mAr ms ∧ zMem G ms pd ∧ ms.length ≤ 33
abbrev rm_c_offer : Room := { frames := 4, cells := 0, slots := 0, locals := 128 }
set_option maxHeartbeats 4000000 in
set_option maxRecDepth 100000 in
theorem c_offer (l : Launch) (Γ : zY) (G : zG) {se wv ro na wa q ml mAr : Nat} {hb bx bY bz bb sp ss : Int32} {lm : Int64} {ms : List Nat} {pd : zPD} (x y z : Int32)
    (hS : zSr Γ G se wv ro na wa q ml mAr sp ss ms pd hb bx bY bz bb lm) (hB : zBest sp ss pd ms hb bx bY bz bb lm) :
    ZM l yX3_offer cX3_offer 8 (none) rm_c_offer Γ [.ref se, .ref q, .int x, .int y, .int z] G (fun v G' => none = v ∧ zF4 G G' se ro na wa ∧ ∃ hb' bx' bY' bz' bb' lm', zSr Γ G' se wv ro na wa q ml mAr sp ss ms pd hb' bx' bY' bz' bb' lm' ∧ zBest sp ss pd ms hb' bx' bY' bz' bb' lm' ∧ (hb = 1 → hb' = 1) ∧ (s_place x y z → hb' = 1)) := by
  obtain ⟨hse, hwv, ⟨rs, tot, hR⟩, ⟨n, fo, ex, ey, ez, et, lb, hq⟩, hl, hm, hn⟩ := id hS
  refine z_start (by decide +kernel) [some (.ref se), some (.ref q), some (.int x), some (.int y), some (.int z), none, none, none] rfl (Nat.le_of_ble_eq_true rfl) ?_
  intro p e s m args below meth c Q A C F hr hnm
  refine z_iload_n C dX3_offer_0 rfl ?_
  refine z_iload_n C dX3_offer_1 rfl ?_
  refine z_iload C dX3_offer_2 rfl ?_
  refine z_callSN C (c_isPlace l Γ G x y z) kn_739 kc_X3_offer_4 rfl rfl ky_X6_isPlace ⟨(Nat.le_of_ble_eq_true rfl), (Nat.le_of_ble_eq_true rfl)⟩ (Nat.le_of_ble_eq_true rfl) ⟨(Nat.le_of_ble_eq_true rfl), (Nat.le_of_ble_eq_true rfl)⟩ dX3_offer_4 (fun v4 G4 hp4 => ?_)
  obtain ⟨rfl, rfl⟩ := hp4
  refine z_if_ne (tgt := 11) C dX3_offer_7 (by decide) (fun h7 => ?_) (fun h7 => ?_)
  · have hp := s_pl_iff.2.mp h7
    first | refine z_rload_n C dX3_offer_11 rfl ?_ | refine z_nload_n C dX3_offer_11 rfl ?_ | refine z_aload_n C dX3_offer_11 rfl ?_
    first | refine z_rload_n C dX3_offer_12 rfl ?_ | refine z_nload_n C dX3_offer_12 rfl ?_ | refine z_aload_n C dX3_offer_12 rfl ?_
    refine z_iload_n C dX3_offer_13 rfl ?_
    refine z_iload_n C dX3_offer_14 rfl ?_
    refine z_iload C dX3_offer_15 rfl ?_
    refine z_callV (q := (RX3, TX3, 8)) C (c_fill l Γ G x y z hse hwv hR hq hl hm hn) kc_X3_offer_17 (by first | assumption | exact zU_same _ _ _) rfl rfl rfl rfl ky_X3_fillWithStarts ⟨(Nat.le_of_ble_eq_true rfl), (Nat.le_of_ble_eq_true rfl)⟩ (Nat.le_of_ble_eq_true rfl) ⟨(Nat.le_of_ble_eq_true rfl), (Nat.le_of_ble_eq_true rfl)⟩ dX3_offer_17 (fun v17 G17 hp17 => ?_)
    obtain ⟨rfl, hR2, hf2⟩ := hp17
    have hse2 := hf2.get hR hse rfl
    have hro2 := hR2.2.2.1
    first | refine z_rload_n C dX3_offer_20 rfl ?_ | refine z_nload_n C dX3_offer_20 rfl ?_ | refine z_aload_n C dX3_offer_20 rfl ?_
    refine z_getf (T := TX3) (N := 8) C (by first | assumption | exact zU_same _ _ _) rfl 1 (by decide) kw_161 (Or.inl rfl) rfl dX3_offer_21 ?_
    refine z_callV (q := (RX2, TX2, 4)) C (c_mid l Γ G17 hR2) kc_X3_offer_24 (by first | assumption | exact zU_same _ _ _) rfl rfl rfl rfl ky_X2_middle ⟨(Nat.le_of_ble_eq_true rfl), (Nat.le_of_ble_eq_true rfl)⟩ (Nat.le_of_ble_eq_true rfl) ⟨(Nat.le_of_ble_eq_true rfl), (Nat.le_of_ble_eq_true rfl)⟩ dX3_offer_24 (fun v24 G24 hp24 => ?_)
    obtain ⟨rfl, rfl⟩ := hp24
    obtain ⟨bg, hbg⟩ : ∃ bg, bg = s_mid (s_row sp ss pd ms x y z) ((s_tot pd ms - 1) / 2) := ⟨_, rfl⟩
    rw [← hbg]
    refine z_istore C dX3_offer_27 (by decide) ?_
    first | refine z_rload_n C dX3_offer_29 rfl ?_ | refine z_nload_n C dX3_offer_29 rfl ?_ | refine z_aload_n C dX3_offer_29 rfl ?_
    refine z_getf (T := TX3) (N := 8) C (by first | assumption | exact zU_same _ _ _) rfl 1 (by decide) kw_161 (Or.inl rfl) rfl dX3_offer_30 ?_
    refine z_iload C dX3_offer_33 rfl ?_
    refine z_callV (q := (RX2, TX2, 4)) C (c_dist l Γ G17 bg hR2) kc_X3_offer_35 (by first | assumption | exact zU_same _ _ _) rfl rfl rfl rfl ky_X2_distanceFrom ⟨(Nat.le_of_ble_eq_true rfl), (Nat.le_of_ble_eq_true rfl)⟩ (Nat.le_of_ble_eq_true rfl) ⟨(Nat.le_of_ble_eq_true rfl), (Nat.le_of_ble_eq_true rfl)⟩ dX3_offer_35 (fun v35 G35 hp35 => ?_)
    obtain ⟨rfl, rfl⟩ := hp35
    obtain ⟨ds, hds⟩ : ∃ ds, ds = s_dist (s_row sp ss pd ms x y z) bg := ⟨_, rfl⟩
    rw [← hds]
    have take : Z p l e rm_c_offer s m args below meth c Q 8 Γ A G17 0 0 57 [some (.ref se), some (.ref q), some (.int x), some (.int y), some (.int z), some (.int bg), some (.long ds), none] [] := by
      refine z_widen (Nat.le_refl _) (Nat.le_refl _) ?_
      first | refine z_rload_n C dX3_offer_57 rfl ?_ | refine z_nload_n C dX3_offer_57 rfl ?_ | refine z_aload_n C dX3_offer_57 rfl ?_
      refine z_iconst (v := 1) C dX3_offer_58 rfl ?_
      refine z_putf (T := TX3) (N := 8) C (by first | assumption | exact zU_same _ _ _) rfl 2 (by decide) kw_162 (Or.inl rfl) rfl (tyX3_ok 2 (by decide)) rfl rfl (Nat.le_of_ble_eq_true rfl) dX3_offer_59 ?_
      first | refine z_rload_n C dX3_offer_62 rfl ?_ | refine z_nload_n C dX3_offer_62 rfl ?_ | refine z_aload_n C dX3_offer_62 rfl ?_
      refine z_iload_n C dX3_offer_63 rfl ?_
      refine z_putf (T := TX3) (N := 8) C (by first | assumption | exact zU_same _ _ _) rfl 3 (by decide) kw_163 (Or.inl rfl) rfl (tyX3_ok 3 (by decide)) rfl rfl (Nat.le_of_ble_eq_true rfl) dX3_offer_64 ?_
      first | refine z_rload_n C dX3_offer_67 rfl ?_ | refine z_nload_n C dX3_offer_67 rfl ?_ | refine z_aload_n C dX3_offer_67 rfl ?_
      refine z_iload_n C dX3_offer_68 rfl ?_
      refine z_putf (T := TX3) (N := 8) C (by first | assumption | exact zU_same _ _ _) rfl 4 (by decide) kw_164 (Or.inl rfl) rfl (tyX3_ok 4 (by decide)) rfl rfl (Nat.le_of_ble_eq_true rfl) dX3_offer_69 ?_
      first | refine z_rload_n C dX3_offer_72 rfl ?_ | refine z_nload_n C dX3_offer_72 rfl ?_ | refine z_aload_n C dX3_offer_72 rfl ?_
      refine z_iload C dX3_offer_73 rfl ?_
      refine z_putf (T := TX3) (N := 8) C (by first | assumption | exact zU_same _ _ _) rfl 5 (by decide) kw_165 (Or.inl rfl) rfl (tyX3_ok 5 (by decide)) rfl rfl (Nat.le_of_ble_eq_true rfl) dX3_offer_75 ?_
      first | refine z_rload_n C dX3_offer_78 rfl ?_ | refine z_nload_n C dX3_offer_78 rfl ?_ | refine z_aload_n C dX3_offer_78 rfl ?_
      refine z_iload C dX3_offer_79 rfl ?_
      refine z_putf (T := TX3) (N := 8) C (by first | assumption | exact zU_same _ _ _) rfl 6 (by decide) kw_166 (Or.inl rfl) rfl (tyX3_ok 6 (by decide)) rfl rfl (Nat.le_of_ble_eq_true rfl) dX3_offer_81 ?_
      first | refine z_rload_n C dX3_offer_84 rfl ?_ | refine z_nload_n C dX3_offer_84 rfl ?_ | refine z_aload_n C dX3_offer_84 rfl ?_
      refine z_lload C dX3_offer_85 rfl ?_
      refine z_putf (T := TX3) (N := 8) C (by first | assumption | exact zU_same _ _ _) rfl 7 (by decide) kw_167 (Or.inl rfl) rfl (tyX3_ok 7 (by decide)) rfl rfl (Nat.le_of_ble_eq_true rfl) dX3_offer_87 ?_
      simp only [zU_zU]
      have hne : ∀ {a : Nat} {e : va_E}, G a = some e → (∀ gs, e ≠ .inr (4, gs)) → a ≠ se := fun ha h => zG_ne ha hse (h _)
      have hf4 : zF4 G (zU G17 se (oSea wv ro 1 x y z bg ds)) se ro na wa := fun q z a b c => (zU_ne z).trans (hf2 q a b c)
      refine z_vret C F hr (Nat.le_of_ble_eq_true rfl) (Nat.le_of_ble_eq_true rfl) ?_ dX3_offer_90
      refine ⟨rfl, hf4, 1, x, y, z, bg, ds, ⟨zU_same _ _ _, hf4.get hR hse hwv rfl (fun _ z => by cases z), ⟨_, _, hR2.1, hR2.2.1, (zU_ne (zG_ne hro2 hse2 (fun z => by cases z))).trans hro2, ?_⟩, ⟨n, fo, ex, ey, ez, et, lb, hf4.get hR hse hq rfl (fun _ z => by cases z)⟩, hf4.lst hR hse hl, hf4.mem hR hse hm, hn⟩, ⟨Or.inr rfl, fun _ => ⟨hp, hbg, hds⟩⟩, fun _ => rfl, fun _ => rfl⟩
      obtain ⟨f, g, h1, h2, h3⟩ := hR2.2.2.2
      exact ⟨f, g, (zU_ne (zG_ne h1 hse2 zI_ne)).trans h1, (zU_ne (zG_ne h2 hse2 zI_ne)).trans h2, h3⟩
    refine z_lstore C dX3_offer_38 (by decide) ?_
    first | refine z_rload_n C dX3_offer_40 rfl ?_ | refine z_nload_n C dX3_offer_40 rfl ?_ | refine z_aload_n C dX3_offer_40 rfl ?_
    refine z_getf (T := TX3) (N := 8) C (by first | assumption | exact zU_same _ _ _) rfl 2 (by decide) kw_162 (Or.inl rfl) rfl dX3_offer_41 ?_
    refine z_if_eq (tgt := 57) C dX3_offer_44 (by decide) (fun h44 => ?_) (fun h44 => ?_)
    · exact take
    · have h1 : hb = 1 := hB.1.resolve_left h44
      refine z_lload C dX3_offer_47 rfl ?_
      first | refine z_rload_n C dX3_offer_49 rfl ?_ | refine z_nload_n C dX3_offer_49 rfl ?_ | refine z_aload_n C dX3_offer_49 rfl ?_
      refine z_getf (T := TX3) (N := 8) C (by first | assumption | exact zU_same _ _ _) rfl 7 (by decide) kw_167 (Or.inl rfl) rfl dX3_offer_50 ?_
      refine z_lcmp C dX3_offer_53 ?_
      refine z_if_ge (tgt := 90) C dX3_offer_54 (by decide) (fun h54 => ?_) (fun h54 => ?_)
      · exact z_vret C F hr (Nat.le_of_ble_eq_true rfl) (Nat.le_of_ble_eq_true rfl) ⟨rfl, fun q z a b c => hf2 q a b c, hb, bx, bY, bz, bb, lm, ⟨hse2, hf2.get hR hwv rfl, ⟨_, _, hR2⟩, ⟨n, fo, ex, ey, ez, et, lb, hf2.get hR hq rfl⟩, hf2.lst hR hl, hf2.mem hR hm, hn⟩, hB, id, fun _ => h1⟩ dX3_offer_90
      · exact take
  · have hp := s_pl_iff.1.mp h7
    exact z_vret C F hr (Nat.le_of_ble_eq_true rfl) (Nat.le_of_ble_eq_true rfl) ⟨rfl, fun _ _ _ _ _ => rfl, hb, bx, bY, bz, bb, lm, hS, hB, id, fun z => absurd z hp⟩ dX3_offer_10
end
section
theorem dX3_scan_0 : decode cX3_scan 0 = .ok (.aload_n 0, 1) := by decide +kernel
theorem dX3_scan_1 : decode cX3_scan 1 = .ok (.iconst 0, 1) := by decide +kernel
theorem dX3_scan_2 : decode cX3_scan 2 = .ok (.putfield 62, 3) := by decide +kernel
theorem dX3_scan_5 : decode cX3_scan 5 = .ok (.iconst 0, 1) := by decide +kernel
theorem dX3_scan_6 : decode cX3_scan 6 = .ok (.istore 8, 2) := by decide +kernel
theorem dX3_scan_8 : decode cX3_scan 8 = .ok (.iload 8, 2) := by decide +kernel
theorem dX3_scan_10 : decode cX3_scan 10 = .ok (.iload 6, 2) := by decide +kernel
theorem dX3_scan_12 : decode cX3_scan 12 = .ok (.if_icmp .ge 68, 3) := by decide +kernel
theorem dX3_scan_15 : decode cX3_scan 15 = .ok (.iconst 0, 1) := by decide +kernel
theorem dX3_scan_16 : decode cX3_scan 16 = .ok (.istore 9, 2) := by decide +kernel
theorem dX3_scan_18 : decode cX3_scan 18 = .ok (.iload 9, 2) := by decide +kernel
theorem dX3_scan_20 : decode cX3_scan 20 = .ok (.iload 5, 2) := by decide +kernel
theorem dX3_scan_22 : decode cX3_scan 22 = .ok (.if_icmp .ge 52, 3) := by decide +kernel
theorem dX3_scan_25 : decode cX3_scan 25 = .ok (.iconst 0, 1) := by decide +kernel
theorem dX3_scan_26 : decode cX3_scan 26 = .ok (.istore 10, 2) := by decide +kernel
theorem dX3_scan_28 : decode cX3_scan 28 = .ok (.iload 10, 2) := by decide +kernel
theorem dX3_scan_30 : decode cX3_scan 30 = .ok (.iload 5, 2) := by decide +kernel
theorem dX3_scan_32 : decode cX3_scan 32 = .ok (.if_icmp .ge 36, 3) := by decide +kernel
theorem dX3_scan_35 : decode cX3_scan 35 = .ok (.aload_n 0, 1) := by decide +kernel
theorem dX3_scan_36 : decode cX3_scan 36 = .ok (.aload_n 1, 1) := by decide +kernel
theorem dX3_scan_37 : decode cX3_scan 37 = .ok (.iload_n 2, 1) := by decide +kernel
theorem dX3_scan_38 : decode cX3_scan 38 = .ok (.iload 9, 2) := by decide +kernel
theorem dX3_scan_40 : decode cX3_scan 40 = .ok (.iload 7, 2) := by decide +kernel
theorem dX3_scan_42 : decode cX3_scan 42 = .ok (.imul, 1) := by decide +kernel
theorem dX3_scan_43 : decode cX3_scan 43 = .ok (.iadd, 1) := by decide +kernel
theorem dX3_scan_44 : decode cX3_scan 44 = .ok (.iload_n 3, 1) := by decide +kernel
theorem dX3_scan_45 : decode cX3_scan 45 = .ok (.iload 10, 2) := by decide +kernel
theorem dX3_scan_47 : decode cX3_scan 47 = .ok (.iload 7, 2) := by decide +kernel
theorem dX3_scan_49 : decode cX3_scan 49 = .ok (.imul, 1) := by decide +kernel
theorem dX3_scan_50 : decode cX3_scan 50 = .ok (.iadd, 1) := by decide +kernel
theorem dX3_scan_51 : decode cX3_scan 51 = .ok (.iload 4, 2) := by decide +kernel
theorem dX3_scan_53 : decode cX3_scan 53 = .ok (.iload 8, 2) := by decide +kernel
theorem dX3_scan_55 : decode cX3_scan 55 = .ok (.iload 7, 2) := by decide +kernel
theorem dX3_scan_57 : decode cX3_scan 57 = .ok (.imul, 1) := by decide +kernel
theorem dX3_scan_58 : decode cX3_scan 58 = .ok (.iadd, 1) := by decide +kernel
theorem dX3_scan_59 : decode cX3_scan 59 = .ok (.invokevirtual 65, 3) := by decide +kernel
theorem dX3_scan_62 : decode cX3_scan 62 = .ok (.iinc 10 1, 3) := by decide +kernel
theorem dX3_scan_65 : decode cX3_scan 65 = .ok (.goto (-37), 3) := by decide +kernel
theorem dX3_scan_68 : decode cX3_scan 68 = .ok (.iinc 9 1, 3) := by decide +kernel
theorem dX3_scan_71 : decode cX3_scan 71 = .ok (.goto (-53), 3) := by decide +kernel
theorem dX3_scan_74 : decode cX3_scan 74 = .ok (.iinc 8 1, 3) := by decide +kernel
theorem dX3_scan_77 : decode cX3_scan 77 = .ok (.goto (-69), 3) := by decide +kernel
theorem dX3_scan_80 : decode cX3_scan 80 = .ok (.return_, 1) := by decide +kernel
theorem ky_X3_offer : yX3_offer.cls ≠ "java/lang/invoke/MethodHandle" ∧ yX3_offer.cls ≠ "java/lang/invoke/VarHandle" ∧ (parseMethodDescriptor yX3_offer.desc).map (fun d => d.parameters.length) = some 4 := by decide +kernel
theorem kc_X3_scan_59 : ∀ w ∈ ([Cond.methodLink "QuakeBench$Search" 65 yX3_offer, Cond.instanceMethod yX3_offer, Cond.selects "QuakeBench$Search" yX3_offer yX3_offer, Cond.initialized "QuakeBench$Search", Cond.code yX3_offer prog_5_method_4_code 8 (Option.none : Option Jvm.ClassFile.FieldType)] : List Cond), w ∈ lw_all := zin [735, 737, 13, 60, 738] (by decide +kernel)
theorem dX3_locate_0 : decode cX3_locate 0 = .ok (.aload_n 0, 1) := by decide +kernel
theorem dX3_locate_1 : decode cX3_locate 1 = .ok (.aload_n 1, 1) := by decide +kernel
theorem dX3_locate_2 : decode cX3_locate 2 = .ok (.iconst 0, 1) := by decide +kernel
theorem dX3_locate_3 : decode cX3_locate 3 = .ok (.iconst 0, 1) := by decide +kernel
theorem dX3_locate_4 : decode cX3_locate 4 = .ok (.iconst 0, 1) := by decide +kernel
theorem dX3_locate_5 : decode cX3_locate 5 = .ok (.bipush 11, 2) := by decide +kernel
theorem dX3_locate_7 : decode cX3_locate 7 = .ok (.iconst 4, 1) := by decide +kernel
theorem dX3_locate_8 : decode cX3_locate 8 = .ok (.bipush 20, 2) := by decide +kernel
theorem dX3_locate_10 : decode cX3_locate 10 = .ok (.invokevirtual 19, 3) := by decide +kernel
theorem dX3_locate_13 : decode cX3_locate 13 = .ok (.iconst 0, 1) := by decide +kernel
theorem dX3_locate_14 : decode cX3_locate 14 = .ok (.istore_n 2, 1) := by decide +kernel
theorem dX3_locate_15 : decode cX3_locate 15 = .ok (.iload_n 2, 1) := by decide +kernel
theorem dX3_locate_16 : decode cX3_locate 16 = .ok (.getstatic 23, 3) := by decide +kernel
theorem dX3_locate_19 : decode cX3_locate 19 = .ok (.arraylength, 1) := by decide +kernel
theorem dX3_locate_20 : decode cX3_locate 20 = .ok (.if_icmp .ge 41, 3) := by decide +kernel
theorem dX3_locate_23 : decode cX3_locate 23 = .ok (.getstatic 23, 3) := by decide +kernel
theorem dX3_locate_26 : decode cX3_locate 26 = .ok (.iload_n 2, 1) := by decide +kernel
theorem dX3_locate_27 : decode cX3_locate 27 = .ok (.iaload, 1) := by decide +kernel
theorem dX3_locate_28 : decode cX3_locate 28 = .ok (.istore_n 3, 1) := by decide +kernel
theorem dX3_locate_29 : decode cX3_locate 29 = .ok (.aload_n 0, 1) := by decide +kernel
theorem dX3_locate_30 : decode cX3_locate 30 = .ok (.aload_n 1, 1) := by decide +kernel
theorem dX3_locate_31 : decode cX3_locate 31 = .ok (.aload_n 0, 1) := by decide +kernel
theorem dX3_locate_32 : decode cX3_locate 32 = .ok (.getfield 27, 3) := by decide +kernel
theorem dX3_locate_35 : decode cX3_locate 35 = .ok (.iload_n 3, 1) := by decide +kernel
theorem dX3_locate_36 : decode cX3_locate 36 = .ok (.isub, 1) := by decide +kernel
theorem dX3_locate_37 : decode cX3_locate 37 = .ok (.aload_n 0, 1) := by decide +kernel
theorem dX3_locate_38 : decode cX3_locate 38 = .ok (.getfield 31, 3) := by decide +kernel
theorem dX3_locate_41 : decode cX3_locate 41 = .ok (.iload_n 3, 1) := by decide +kernel
theorem dX3_locate_42 : decode cX3_locate 42 = .ok (.isub, 1) := by decide +kernel
theorem dX3_locate_43 : decode cX3_locate 43 = .ok (.aload_n 0, 1) := by decide +kernel
theorem dX3_locate_44 : decode cX3_locate 44 = .ok (.getfield 34, 3) := by decide +kernel
theorem dX3_locate_47 : decode cX3_locate 47 = .ok (.iload_n 3, 1) := by decide +kernel
theorem dX3_locate_48 : decode cX3_locate 48 = .ok (.isub, 1) := by decide +kernel
theorem dX3_locate_49 : decode cX3_locate 49 = .ok (.iconst 3, 1) := by decide +kernel
theorem dX3_locate_50 : decode cX3_locate 50 = .ok (.iconst 3, 1) := by decide +kernel
theorem dX3_locate_51 : decode cX3_locate 51 = .ok (.iload_n 3, 1) := by decide +kernel
theorem dX3_locate_52 : decode cX3_locate 52 = .ok (.invokevirtual 19, 3) := by decide +kernel
theorem dX3_locate_55 : decode cX3_locate 55 = .ok (.iinc 2 1, 3) := by decide +kernel
theorem dX3_locate_58 : decode cX3_locate 58 = .ok (.goto (-43), 3) := by decide +kernel
theorem dX3_locate_61 : decode cX3_locate 61 = .ok (.aload_n 1, 1) := by decide +kernel
theorem dX3_locate_62 : decode cX3_locate 62 = .ok (.aload_n 0, 1) := by decide +kernel
theorem dX3_locate_63 : decode cX3_locate 63 = .ok (.getfield 27, 3) := by decide +kernel
theorem dX3_locate_66 : decode cX3_locate 66 = .ok (.putfield 37, 3) := by decide +kernel
theorem dX3_locate_69 : decode cX3_locate 69 = .ok (.aload_n 1, 1) := by decide +kernel
theorem dX3_locate_70 : decode cX3_locate 70 = .ok (.aload_n 0, 1) := by decide +kernel
theorem dX3_locate_71 : decode cX3_locate 71 = .ok (.getfield 31, 3) := by decide +kernel
theorem dX3_locate_74 : decode cX3_locate 74 = .ok (.putfield 42, 3) := by decide +kernel
theorem dX3_locate_77 : decode cX3_locate 77 = .ok (.aload_n 1, 1) := by decide +kernel
theorem dX3_locate_78 : decode cX3_locate 78 = .ok (.aload_n 0, 1) := by decide +kernel
theorem dX3_locate_79 : decode cX3_locate 79 = .ok (.getfield 34, 3) := by decide +kernel
theorem dX3_locate_82 : decode cX3_locate 82 = .ok (.putfield 45, 3) := by decide +kernel
theorem dX3_locate_85 : decode cX3_locate 85 = .ok (.aload_n 1, 1) := by decide +kernel
theorem dX3_locate_86 : decode cX3_locate 86 = .ok (.aload_n 0, 1) := by decide +kernel
theorem dX3_locate_87 : decode cX3_locate 87 = .ok (.getfield 48, 3) := by decide +kernel
theorem dX3_locate_90 : decode cX3_locate 90 = .ok (.putfield 51, 3) := by decide +kernel
theorem dX3_locate_93 : decode cX3_locate 93 = .ok (.aload_n 1, 1) := by decide +kernel
theorem dX3_locate_94 : decode cX3_locate 94 = .ok (.iconst 1, 1) := by decide +kernel
theorem dX3_locate_95 : decode cX3_locate 95 = .ok (.putfield 54, 3) := by decide +kernel
theorem dX3_locate_98 : decode cX3_locate 98 = .ok (.aload_n 0, 1) := by decide +kernel
theorem dX3_locate_99 : decode cX3_locate 99 = .ok (.getfield 58, 3) := by decide +kernel
theorem dX3_locate_102 : decode cX3_locate 102 = .ok (.lreturn, 1) := by decide +kernel
theorem kw_693 : Cond.fieldLink "QuakeBench$Search" 37 "QuakeBench$Event" "x" "I" ∈ lw_all := zin1 693 (by decide +kernel)
theorem kw_697 : Cond.fieldLink "QuakeBench$Search" 42 "QuakeBench$Event" "y" "I" ∈ lw_all := zin1 697 (by decide +kernel)
theorem kw_701 : Cond.fieldLink "QuakeBench$Search" 45 "QuakeBench$Event" "z" "I" ∈ lw_all := zin1 701 (by decide +kernel)
theorem kw_705 : Cond.fieldLink "QuakeBench$Search" 51 "QuakeBench$Event" "time" "I" ∈ lw_all := zin1 705 (by decide +kernel)
theorem kw_690 : Cond.fieldLink "QuakeBench$Search" 54 "QuakeBench$Event" "found" "Z" ∈ lw_all := zin1 690 (by decide +kernel)
theorem kw_767 : Cond.fieldLink "QuakeBench$Search" 23 "QuakeBench$Search" "FINER_STEPS" "[I" ∈ lw_all := zin1 767 (by decide +kernel)
theorem ky_X3_scan : yX3_scan.cls ≠ "java/lang/invoke/MethodHandle" ∧ yX3_scan.cls ≠ "java/lang/invoke/VarHandle" ∧ (parseMethodDescriptor yX3_scan.desc).map (fun d => d.parameters.length) = some 7 := by decide +kernel
theorem kc_X3_locate_52 : ∀ w ∈ ([Cond.methodLink "QuakeBench$Search" 19 yX3_scan, Cond.instanceMethod yX3_scan, Cond.selects "QuakeBench$Search" yX3_scan yX3_scan, Cond.initialized "QuakeBench$Search", Cond.code yX3_scan prog_5_method_3_code 11 (Option.none : Option Jvm.ClassFile.FieldType)] : List Cond), w ∈ lw_all := zin [731, 733, 12, 60, 734] (by decide +kernel)
theorem kc_X3_locate_10 : ∀ w ∈ ([Cond.methodLink "QuakeBench$Search" 19 yX3_scan, Cond.instanceMethod yX3_scan, Cond.selects "QuakeBench$Search" yX3_scan yX3_scan, Cond.initialized "QuakeBench$Search", Cond.code yX3_scan prog_5_method_3_code 11 (Option.none : Option Jvm.ClassFile.FieldType)] : List Cond), w ∈ lw_all := zin [731, 733, 12, 60, 734] (by decide +kernel)
/-! Search: a scan of a grid, and the whole search -/
def zSt (Γ : zY) (G G1 : zG) (se wv ro na wa q ml mAr : Nat) (sp ss : Int32) (ms : List Nat) (pd : zPD) (cond : Prop) : Prop :=
  zF4 G G1 se ro na wa ∧ ∃ hb bx bY bz bb lm, zSr Γ G1 se wv ro na wa q ml mAr sp ss ms pd hb bx bY bz bb lm ∧ zBest sp ss pd ms hb bx bY bz bb lm ∧ (cond → hb = 1)
abbrev rm_c_scan : Room := { frames := 5, cells := 0, slots := 0, locals := 155 }
set_option maxHeartbeats 4000000 in
set_option maxRecDepth 100000 in
theorem c_scan (l : Launch) (Γ : zY) (G : zG) {se wv ro na wa q ml mAr : Nat} {hb bx bY bz bb sp ss : Int32} {lm : Int64} {ms : List Nat} {pd : zPD} (lx ly lz sT : Int32) (a d i0 j0 k0 : Nat) (ha : a ≤ 11) (hd : d ≤ 4) (hi0 : i0 < a) (hj0 : j0 < a) (hk0 : k0 < d)
    (hpl : s_place (lx + nI i0 * sT) (ly + nI j0 * sT) (lz + nI k0 * sT)) (hS : zSr Γ G se wv ro na wa q ml mAr sp ss ms pd hb bx bY bz bb lm) :
    ZM l yX3_scan cX3_scan 11 (none) rm_c_scan Γ [.ref se, .ref q, .int lx, .int ly, .int lz, .int (nI a), .int (nI d), .int sT] G (fun v G' => none = v ∧ zSt Γ G G' se wv ro na wa q ml mAr sp ss ms pd True) := by
  obtain ⟨hse, hwv, ⟨rs, tot, hR⟩, ⟨n, fo, ex, ey, ez, et, lb, hq⟩, hl, hm, hn⟩ := id hS
  refine z_start (by decide +kernel) [some (.ref se), some (.ref q), some (.int lx), some (.int ly), some (.int lz), some (.int (nI a)), some (.int (nI d)), some (.int sT), none, none, none] rfl (Nat.le_of_ble_eq_true rfl) ?_
  intro p e s m args below meth c Q A C F hr hnm
  have inner : ∀ (kk i : Nat), i < a → kk < d → (∀ (G1 : zG) (w : Option Value), zSt Γ G G1 se wv ro na wa q ml mAr sp ss ms pd (k0 < kk ∨ (kk = k0 ∧ i0 < i + 1)) → Z p l e rm_c_scan s m args below meth c Q 11 Γ A G1 0 0 68 [some (.ref se), some (.ref q), some (.int lx), some (.int ly), some (.int lz), some (.int (nI a)), some (.int (nI d)), some (.int sT), some (.int (nI kk)), some (.int (nI i)), w] []) →
      ∀ (dj j : Nat) (G1 : zG), j + dj = a → zSt Γ G G1 se wv ro na wa q ml mAr sp ss ms pd (k0 < kk ∨ (kk = k0 ∧ (i0 < i ∨ (i = i0 ∧ j0 < j)))) → Z p l e rm_c_scan s m args below meth c Q 11 Γ A G1 0 0 28 [some (.ref se), some (.ref q), some (.int lx), some (.int ly), some (.int lz), some (.int (nI a)), some (.int (nI d)), some (.int sT), some (.int (nI kk)), some (.int (nI i)), some (.int (nI j))] [] := by
    intro kk i hi hkk cont dj
    induction dj with
    | zero =>
      intro j G1 hj hT
      refine z_iload C dX3_scan_28 rfl ?_
      refine z_iload C dX3_scan_30 rfl ?_
      refine z_icmp_ge (tgt := 68) C dX3_scan_32 (by decide) (fun h32 => ?_) (fun h32 => ?_)
      · refine cont G1 _ ⟨hT.1, ?_⟩
        obtain ⟨-, hb, bx, bY, bz, bb, lm, h1, h2, h3⟩ := hT
        exact ⟨hb, bx, bY, bz, bb, lm, h1, h2, fun z => h3 (by omega)⟩
      · exact absurd (nI_le (by omega) (by omega)) h32
    | succ dj ih =>
      intro j G1 hj hT
      refine z_iload C dX3_scan_28 rfl ?_
      refine z_iload C dX3_scan_30 rfl ?_
      refine z_icmp_ge (tgt := 68) C dX3_scan_32 (by decide) (fun h32 => ?_) (fun h32 => ?_)
      · exact absurd h32 (nI_ge (by omega) (by omega))
      · obtain ⟨hf, hb, bx, bY, bz, bb, lm, h1, h2, h3⟩ := hT
        have hse1 := h1.1
        first | refine z_rload_n C dX3_scan_35 rfl ?_ | refine z_nload_n C dX3_scan_35 rfl ?_ | refine z_aload_n C dX3_scan_35 rfl ?_
        first | refine z_rload_n C dX3_scan_36 rfl ?_ | refine z_nload_n C dX3_scan_36 rfl ?_ | refine z_aload_n C dX3_scan_36 rfl ?_
        refine z_iload_n C dX3_scan_37 rfl ?_
        refine z_iload C dX3_scan_38 rfl ?_
        refine z_iload C dX3_scan_40 rfl ?_
        refine z_imul C dX3_scan_42 ?_
        refine z_iadd C dX3_scan_43 ?_
        refine z_iload_n C dX3_scan_44 rfl ?_
        refine z_iload C dX3_scan_45 rfl ?_
        refine z_iload C dX3_scan_47 rfl ?_
        refine z_imul C dX3_scan_49 ?_
        refine z_iadd C dX3_scan_50 ?_
        refine z_iload C dX3_scan_51 rfl ?_
        refine z_iload C dX3_scan_53 rfl ?_
        refine z_iload C dX3_scan_55 rfl ?_
        refine z_imul C dX3_scan_57 ?_
        refine z_iadd C dX3_scan_58 ?_
        refine z_callV (q := (RX3, TX3, 8)) C (c_offer l Γ G1 (lx + nI i * sT) (ly + nI j * sT) (lz + nI kk * sT) h1 h2) kc_X3_scan_59 (by first | assumption | exact zU_same _ _ _) rfl rfl rfl rfl ky_X3_offer ⟨(Nat.le_of_ble_eq_true rfl), (Nat.le_of_ble_eq_true rfl)⟩ (Nat.le_of_ble_eq_true rfl) ⟨(Nat.le_of_ble_eq_true rfl), (Nat.le_of_ble_eq_true rfl)⟩ dX3_scan_59 (fun v59 G59 hp59 => ?_)
        obtain ⟨rfl, hf2, hb', bx', bY', bz', bb', lm', g1, g2, g3, g4⟩ := hp59
        refine z_iinc (w := 1) C dX3_scan_62 rfl rfl (by decide) ?_
        refine z_goto (tgt := 28) C dX3_scan_65 (by decide) ?_
        rw [← nI_succ]
        refine ih (j + 1) _ (by omega) ⟨hf.trans hf2, hb', bx', bY', bz', bb', lm', g1, g2, fun z => ?_⟩
        by_cases e : k0 < kk ∨ (kk = k0 ∧ (i0 < i ∨ (i = i0 ∧ j0 < j)))
        · exact g3 (h3 e)
        · have e1 : kk = k0 ∧ i = i0 ∧ j = j0 := by omega
          obtain ⟨rfl, rfl, rfl⟩ := e1
          exact g4 hpl
  have middle : ∀ (kk : Nat), kk < d → (∀ (G1 : zG) (w w2 : Option Value), zSt Γ G G1 se wv ro na wa q ml mAr sp ss ms pd (k0 < kk + 1) → Z p l e rm_c_scan s m args below meth c Q 11 Γ A G1 0 0 74 [some (.ref se), some (.ref q), some (.int lx), some (.int ly), some (.int lz), some (.int (nI a)), some (.int (nI d)), some (.int sT), some (.int (nI kk)), w, w2] []) →
      ∀ (di i : Nat) (G1 : zG) (w : Option Value), i + di = a → zSt Γ G G1 se wv ro na wa q ml mAr sp ss ms pd (k0 < kk ∨ (kk = k0 ∧ i0 < i)) → Z p l e rm_c_scan s m args below meth c Q 11 Γ A G1 0 0 18 [some (.ref se), some (.ref q), some (.int lx), some (.int ly), some (.int lz), some (.int (nI a)), some (.int (nI d)), some (.int sT), some (.int (nI kk)), some (.int (nI i)), w] [] := by
    intro kk hkk cont di
    induction di with
    | zero =>
      intro i G1 w hi hT
      refine z_iload C dX3_scan_18 rfl ?_
      refine z_iload C dX3_scan_20 rfl ?_
      refine z_icmp_ge (tgt := 74) C dX3_scan_22 (by decide) (fun h22 => ?_) (fun h22 => ?_)
      · refine cont G1 _ _ ⟨hT.1, ?_⟩
        obtain ⟨-, hb, bx, bY, bz, bb, lm, h1, h2, h3⟩ := hT
        exact ⟨hb, bx, bY, bz, bb, lm, h1, h2, fun z => h3 (by omega)⟩
      · exact absurd (nI_le (by omega) (by omega)) h22
    | succ di ih =>
      intro i G1 w hi hT
      refine z_iload C dX3_scan_18 rfl ?_
      refine z_iload C dX3_scan_20 rfl ?_
      refine z_icmp_ge (tgt := 74) C dX3_scan_22 (by decide) (fun h22 => ?_) (fun h22 => ?_)
      · exact absurd h22 (nI_ge (by omega) (by omega))
      · refine z_iconst (v := 0) C dX3_scan_25 rfl ?_
        refine z_istore C dX3_scan_26 (by decide) ?_
        refine inner kk i (by omega) hkk (fun G2 w2 hT2 => ?_) a 0 G1 (Nat.zero_add _) ⟨hT.1, ?_⟩
        · refine z_iinc (w := 1) C dX3_scan_68 rfl rfl (by decide) ?_
          refine z_goto (tgt := 18) C dX3_scan_71 (by decide) ?_
          rw [← nI_succ]
          exact ih (i + 1) G2 _ (by omega) hT2
        · obtain ⟨-, hb, bx, bY, bz, bb, lm, h1, h2, h3⟩ := hT
          exact ⟨hb, bx, bY, bz, bb, lm, h1, h2, fun z => h3 (by omega)⟩
  have outer : ∀ (dk kk : Nat) (G1 : zG) (w w2 : Option Value), kk + dk = d → zSt Γ G G1 se wv ro na wa q ml mAr sp ss ms pd (k0 < kk) → Z p l e rm_c_scan s m args below meth c Q 11 Γ A G1 0 0 8 [some (.ref se), some (.ref q), some (.int lx), some (.int ly), some (.int lz), some (.int (nI a)), some (.int (nI d)), some (.int sT), some (.int (nI kk)), w, w2] [] := by
    intro dk
    induction dk with
    | zero =>
      intro kk G1 w w2 hk hT
      refine z_iload C dX3_scan_8 rfl ?_
      refine z_iload C dX3_scan_10 rfl ?_
      refine z_icmp_ge (tgt := 80) C dX3_scan_12 (by decide) (fun h12 => ?_) (fun h12 => ?_)
      · obtain ⟨hf, hb, bx, bY, bz, bb, lm, h1, h2, h3⟩ := hT
        exact z_vret C F hr (Nat.le_of_ble_eq_true rfl) (Nat.le_of_ble_eq_true rfl) ⟨rfl, hf, hb, bx, bY, bz, bb, lm, h1, h2, fun _ => h3 (by omega)⟩ dX3_scan_80
      · exact absurd (nI_le (by omega) (by omega)) h12
    | succ dk ih =>
      intro kk G1 w w2 hk hT
      refine z_iload C dX3_scan_8 rfl ?_
      refine z_iload C dX3_scan_10 rfl ?_
      refine z_icmp_ge (tgt := 80) C dX3_scan_12 (by decide) (fun h12 => ?_) (fun h12 => ?_)
      · exact absurd h12 (nI_ge (by omega) (by omega))
      · refine z_iconst (v := 0) C dX3_scan_15 rfl ?_
        refine z_istore C dX3_scan_16 (by decide) ?_
        refine middle kk (by omega) (fun G2 w3 w4 hT2 => ?_) a 0 G1 _ (Nat.zero_add _) ⟨hT.1, ?_⟩
        · refine z_iinc (w := 1) C dX3_scan_74 rfl rfl (by decide) ?_
          refine z_goto (tgt := 8) C dX3_scan_77 (by decide) ?_
          rw [← nI_succ]
          exact ih (kk + 1) G2 _ _ (by omega) hT2
        · obtain ⟨-, hb, bx, bY, bz, bb, lm, h1, h2, h3⟩ := hT
          exact ⟨hb, bx, bY, bz, bb, lm, h1, h2, fun z => h3 (by omega)⟩
  first | refine z_rload_n C dX3_scan_0 rfl ?_ | refine z_nload_n C dX3_scan_0 rfl ?_ | refine z_aload_n C dX3_scan_0 rfl ?_
  refine z_iconst (v := 0) C dX3_scan_1 rfl ?_
  refine z_putf (T := TX3) (N := 8) C (by first | assumption | exact zU_same _ _ _) rfl 2 (by decide) kw_162 (Or.inl rfl) rfl (tyX3_ok 2 (by decide)) rfl rfl (Nat.le_of_ble_eq_true rfl) dX3_scan_2 ?_
  refine z_iconst (v := 0) C dX3_scan_5 rfl ?_
  refine z_istore C dX3_scan_6 (by decide) ?_
  have hf4 : zF4 G (zU G se (oSea wv ro 0 bx bY bz bb lm)) se ro na wa := fun q z _ _ _ => zU_ne z
  have hro := hR.2.2.1
  refine outer d 0 _ none none (Nat.zero_add _) ⟨hf4, 0, bx, bY, bz, bb, lm, ⟨zU_same _ _ _, hf4.get hR hse hwv rfl (fun _ z => by cases z), ⟨rs, tot, hR.1, hR.2.1, (zU_ne (zG_ne hro hse (fun z => by cases z))).trans hro, ?_⟩, ⟨n, fo, ex, ey, ez, et, lb, hf4.get hR hse hq rfl (fun _ z => by cases z)⟩, hf4.lst hR hse hl, hf4.mem hR hse hm, hn⟩, ⟨Or.inl rfl, fun z => absurd z (by decide)⟩, fun z => absurd z (Nat.not_lt_zero _)⟩
  obtain ⟨f, g, h1, h2, h3⟩ := hR.2.2.2
  exact ⟨f, g, (zU_ne (zG_ne h1 hse zI_ne)).trans h1, (zU_ne (zG_ne h2 hse zI_ne)).trans h2, h3⟩
theorem i_back (x s : Int32) : x - s + nI 1 * s = x := by
  rw [show nI 1 = 1 from rfl, Int32.one_mul, Int32.sub_add_cancel]
abbrev rm_c_locate : Room := { frames := 6, cells := 0, slots := 0, locals := 185 }
set_option maxHeartbeats 4000000 in
set_option maxRecDepth 100000 in
theorem c_locate (l : Launch) (Γ : zY) (G : zG) {se wv ro na wa q ml mAr : Nat} {hb bx bY bz bb sp ss n fo ex ey ez et lb : Int32} {lm : Int64} {ms : List Nat} {pd : zPD}
    (hS : zSr Γ G se wv ro na wa q ml mAr sp ss ms pd hb bx bY bz bb lm) (hq : G q = some (oEv n ml fo ex ey ez et lb)) :
    ZM l yX3_locate cX3_locate 4 (some FieldType.long) rm_c_locate Γ [.ref se, .ref q] G (fun v G' => ∃ bx bY bz bb lm, some (.long lm) = v ∧ zBest sp ss pd ms 1 bx bY bz bb lm ∧ G' q = some (oEv n ml 1 bx bY bz bb lb) ∧ G' se = some (oSea wv ro 1 bx bY bz bb lm) ∧ (∃ rs tot, zRo Γ G' ro na wa rs tot) ∧ ∀ a, a ≠ q → a ≠ se → a ≠ ro → a ≠ na → a ≠ wa → G' a = G a) := by
  obtain ⟨hse, hwv, ⟨rs, tot, hR⟩, -, hl, hm, hn⟩ := id hS
  refine z_start (by decide +kernel) [some (.ref se), some (.ref q), none, none] rfl (Nat.le_of_ble_eq_true rfl) ?_
  intro p e s m args below meth c Q A C F hr hnm
  have fin : ∀ (G1 : zG) (w w2 : Option Value), zSt Γ G G1 se wv ro na wa q ml mAr sp ss ms pd True → Z p l e rm_c_locate s m args below meth c Q 4 Γ A G1 0 0 61 [some (.ref se), some (.ref q), w, w2] [] := by
    intro G1 w w2 hT
    obtain ⟨hf, hb, bx, bY, bz, bb, lm, h1, h2, h3⟩ := hT
    have e1 : hb = 1 := h3 trivial
    subst e1
    have hq1 := hf.get hR hse hq rfl (fun _ z => by cases z)
    have hse1 := h1.1
    have hqs : q ≠ se := zG_ne hq hse (fun z => by cases z)
    first | refine z_rload_n C dX3_locate_61 rfl ?_ | refine z_nload_n C dX3_locate_61 rfl ?_ | refine z_aload_n C dX3_locate_61 rfl ?_
    first | refine z_rload_n C dX3_locate_62 rfl ?_ | refine z_nload_n C dX3_locate_62 rfl ?_ | refine z_aload_n C dX3_locate_62 rfl ?_
    refine z_getf (T := TX3) (N := 8) C (by first | assumption | exact zU_same _ _ _ | exact (zU_ne hqs.symm).trans hse1) rfl 3 (by decide) kw_163 (Or.inl rfl) rfl dX3_locate_63 ?_
    refine z_putf (T := TX0) (N := 8) C (by first | assumption | exact zU_same _ _ _ | exact (zU_ne hqs.symm).trans hse1) rfl 3 (by decide) kw_693 (Or.inl rfl) rfl (tyX0_ok 3 (by decide)) rfl rfl (Nat.le_of_ble_eq_true rfl) dX3_locate_66 ?_
    first | refine z_rload_n C dX3_locate_69 rfl ?_ | refine z_nload_n C dX3_locate_69 rfl ?_ | refine z_aload_n C dX3_locate_69 rfl ?_
    first | refine z_rload_n C dX3_locate_70 rfl ?_ | refine z_nload_n C dX3_locate_70 rfl ?_ | refine z_aload_n C dX3_locate_70 rfl ?_
    refine z_getf (T := TX3) (N := 8) C (by first | assumption | exact zU_same _ _ _ | exact (zU_ne hqs.symm).trans hse1) rfl 4 (by decide) kw_164 (Or.inl rfl) rfl dX3_locate_71 ?_
    refine z_putf (T := TX0) (N := 8) C (by first | assumption | exact zU_same _ _ _ | exact (zU_ne hqs.symm).trans hse1) rfl 4 (by decide) kw_697 (Or.inl rfl) rfl (tyX0_ok 4 (by decide)) rfl rfl (Nat.le_of_ble_eq_true rfl) dX3_locate_74 ?_
    rw [zU_zU]
    first | refine z_rload_n C dX3_locate_77 rfl ?_ | refine z_nload_n C dX3_locate_77 rfl ?_ | refine z_aload_n C dX3_locate_77 rfl ?_
    first | refine z_rload_n C dX3_locate_78 rfl ?_ | refine z_nload_n C dX3_locate_78 rfl ?_ | refine z_aload_n C dX3_locate_78 rfl ?_
    refine z_getf (T := TX3) (N := 8) C (by first | assumption | exact zU_same _ _ _ | exact (zU_ne hqs.symm).trans hse1) rfl 5 (by decide) kw_165 (Or.inl rfl) rfl dX3_locate_79 ?_
    refine z_putf (T := TX0) (N := 8) C (by first | assumption | exact zU_same _ _ _ | exact (zU_ne hqs.symm).trans hse1) rfl 5 (by decide) kw_701 (Or.inl rfl) rfl (tyX0_ok 5 (by decide)) rfl rfl (Nat.le_of_ble_eq_true rfl) dX3_locate_82 ?_
    rw [zU_zU]
    first | refine z_rload_n C dX3_locate_85 rfl ?_ | refine z_nload_n C dX3_locate_85 rfl ?_ | refine z_aload_n C dX3_locate_85 rfl ?_
    first | refine z_rload_n C dX3_locate_86 rfl ?_ | refine z_nload_n C dX3_locate_86 rfl ?_ | refine z_aload_n C dX3_locate_86 rfl ?_
    refine z_getf (T := TX3) (N := 8) C (by first | assumption | exact zU_same _ _ _ | exact (zU_ne hqs.symm).trans hse1) rfl 6 (by decide) kw_166 (Or.inl rfl) rfl dX3_locate_87 ?_
    refine z_putf (T := TX0) (N := 8) C (by first | assumption | exact zU_same _ _ _ | exact (zU_ne hqs.symm).trans hse1) rfl 6 (by decide) kw_705 (Or.inl rfl) rfl (tyX0_ok 6 (by decide)) rfl rfl (Nat.le_of_ble_eq_true rfl) dX3_locate_90 ?_
    rw [zU_zU]
    first | refine z_rload_n C dX3_locate_93 rfl ?_ | refine z_nload_n C dX3_locate_93 rfl ?_ | refine z_aload_n C dX3_locate_93 rfl ?_
    refine z_iconst (v := 1) C dX3_locate_94 rfl ?_
    refine z_putf (T := TX0) (N := 8) C (by first | assumption | exact zU_same _ _ _ | exact (zU_ne hqs.symm).trans hse1) rfl 2 (by decide) kw_690 (Or.inl rfl) rfl (tyX0_ok 2 (by decide)) rfl rfl (Nat.le_of_ble_eq_true rfl) dX3_locate_95 ?_
    rw [zU_zU]
    have e : ∀ a, a ≠ q → zU G1 q (oEv n ml 1 bx bY bz bb lb) a = G1 a := fun a h => zU_ne h
    have hro1 : (∃ rs tot, zRo Γ (zU G1 q (oEv n ml 1 bx bY bz bb lb)) ro na wa rs tot) := by
      obtain ⟨r2, t2, g1, g2, g3, f, g, g4, g5, g6⟩ := h1.2.2.1
      exact ⟨r2, t2, g1, g2, (e ro (zG_ne g3 hq1 (fun z => by cases z))).trans g3, f, g, (e na (zG_ne g4 hq1 zI_ne)).trans g4, (e wa (zG_ne g5 hq1 zI_ne)).trans g5, g6⟩
    first | refine z_rload_n C dX3_locate_98 rfl ?_ | refine z_nload_n C dX3_locate_98 rfl ?_ | refine z_aload_n C dX3_locate_98 rfl ?_
    refine z_getf (T := TX3) (N := 8) C (by first | assumption | exact zU_same _ _ _ | exact (zU_ne hqs.symm).trans hse1) rfl 7 (by decide) kw_167 (Or.inl rfl) rfl dX3_locate_99 ?_
    exact z_lret C F hr (Nat.le_of_ble_eq_true rfl) (Nat.le_of_ble_eq_true rfl) ⟨bx, bY, bz, bb, lm, rfl, h2, zU_same _ _ _, (e se hqs.symm).trans hse1, hro1, fun a z1 z2 z3 z4 z5 => (e a z1).trans (hf a z2 z3 z4 z5)⟩ dX3_locate_102
  have loop : ∀ (dk kk : Nat) (G1 : zG) (w2 : Option Value), kk + dk = 4 → zSt Γ G G1 se wv ro na wa q ml mAr sp ss ms pd True → Z p l e rm_c_locate s m args below meth c Q 4 Γ A G1 0 0 15 [some (.ref se), some (.ref q), some (.int (nI kk)), w2] [] := by
    intro dk
    induction dk with
    | zero =>
      intro kk G1 w2 hk hT
      refine z_iload_n C dX3_locate_15 rfl ?_
      refine z_getsteps C kw_767 dX3_locate_16 ?_
      refine z_stepslen C dX3_locate_19 ?_
      refine z_icmp_ge (tgt := 61) C dX3_locate_20 (by decide) (fun h20 => ?_) (fun h20 => ?_)
      · exact fin G1 _ _ hT
      · exact absurd (nI_le (a := 4) (by omega) (by omega)) h20
    | succ dk ih =>
      intro kk G1 w2 hk hT
      refine z_iload_n C dX3_locate_15 rfl ?_
      refine z_getsteps C kw_767 dX3_locate_16 ?_
      refine z_stepslen C dX3_locate_19 ?_
      refine z_icmp_ge (tgt := 61) C dX3_locate_20 (by decide) (fun h20 => ?_) (fun h20 => ?_)
      · exact absurd h20 (nI_ge (b := 4) (by omega) (by decide))
      · obtain ⟨hf, hb, bx, bY, bz, bb, lm, h1, h2, h3⟩ := hT
        have e1 : hb = 1 := h3 trivial
        subst e1
        have hse1 := h1.1
        have hpl := (h2.2 rfl).1
        refine z_getsteps C kw_767 dX3_locate_23 ?_
        refine z_iload_n C dX3_locate_26 rfl ?_
        refine z_stepsld C (vp_in_nI (n := kk) (N := 4) (by omega) (by decide)) rfl dX3_locate_27 ?_
        obtain ⟨sT, hsT⟩ : ∃ sT : Int32, sT = (if (nI kk).toNatClampNeg = 0 then 10 else if (nI kk).toNatClampNeg = 1 then 5 else if (nI kk).toNatClampNeg = 2 then 2 else 1) := ⟨_, rfl⟩
        rw [← hsT]
        refine z_istore_n C dX3_locate_28 (by decide) ?_
        first | refine z_rload_n C dX3_locate_29 rfl ?_ | refine z_nload_n C dX3_locate_29 rfl ?_ | refine z_aload_n C dX3_locate_29 rfl ?_
        first | refine z_rload_n C dX3_locate_30 rfl ?_ | refine z_nload_n C dX3_locate_30 rfl ?_ | refine z_aload_n C dX3_locate_30 rfl ?_
        first | refine z_rload_n C dX3_locate_31 rfl ?_ | refine z_nload_n C dX3_locate_31 rfl ?_ | refine z_aload_n C dX3_locate_31 rfl ?_
        refine z_getf (T := TX3) (N := 8) C (by first | assumption | exact zU_same _ _ _ | exact (zU_ne hqs.symm).trans hse1) rfl 3 (by decide) kw_163 (Or.inl rfl) rfl dX3_locate_32 ?_
        refine z_iload_n C dX3_locate_35 rfl ?_
        refine z_isub C dX3_locate_36 ?_
        first | refine z_rload_n C dX3_locate_37 rfl ?_ | refine z_nload_n C dX3_locate_37 rfl ?_ | refine z_aload_n C dX3_locate_37 rfl ?_
        refine z_getf (T := TX3) (N := 8) C (by first | assumption | exact zU_same _ _ _ | exact (zU_ne hqs.symm).trans hse1) rfl 4 (by decide) kw_164 (Or.inl rfl) rfl dX3_locate_38 ?_
        refine z_iload_n C dX3_locate_41 rfl ?_
        refine z_isub C dX3_locate_42 ?_
        first | refine z_rload_n C dX3_locate_43 rfl ?_ | refine z_nload_n C dX3_locate_43 rfl ?_ | refine z_aload_n C dX3_locate_43 rfl ?_
        refine z_getf (T := TX3) (N := 8) C (by first | assumption | exact zU_same _ _ _ | exact (zU_ne hqs.symm).trans hse1) rfl 5 (by decide) kw_165 (Or.inl rfl) rfl dX3_locate_44 ?_
        refine z_iload_n C dX3_locate_47 rfl ?_
        refine z_isub C dX3_locate_48 ?_
        refine z_iconst (v := 3) C dX3_locate_49 rfl ?_
        refine z_iconst (v := 3) C dX3_locate_50 rfl ?_
        refine z_iload_n C dX3_locate_51 rfl ?_
        refine z_callV (q := (RX3, TX3, 8)) C (c_scan l Γ G1 (bx - sT) (bY - sT) (bz - sT) sT 3 3 1 1 1 (by decide) (by decide) (by decide) (by decide) (by decide) (by rw [i_back, i_back, i_back]; exact hpl) h1) kc_X3_locate_52 (by first | assumption | exact zU_same _ _ _ | exact (zU_ne hqs.symm).trans hse1) rfl rfl rfl rfl ky_X3_scan ⟨(Nat.le_of_ble_eq_true rfl), (Nat.le_of_ble_eq_true rfl)⟩ (Nat.le_of_ble_eq_true rfl) ⟨(Nat.le_of_ble_eq_true rfl), (Nat.le_of_ble_eq_true rfl)⟩ dX3_locate_52 (fun v52 G52 hp52 => ?_)
        obtain ⟨rfl, hf2, h4⟩ := hp52
        refine z_iinc (w := 1) C dX3_locate_55 rfl rfl (by decide) ?_
        refine z_goto (tgt := 15) C dX3_locate_58 (by decide) ?_
        rw [← nI_succ]
        exact ih (kk + 1) _ _ (by omega) ⟨hf.trans hf2, h4⟩
  first | refine z_rload_n C dX3_locate_0 rfl ?_ | refine z_nload_n C dX3_locate_0 rfl ?_ | refine z_aload_n C dX3_locate_0 rfl ?_
  first | refine z_rload_n C dX3_locate_1 rfl ?_ | refine z_nload_n C dX3_locate_1 rfl ?_ | refine z_aload_n C dX3_locate_1 rfl ?_
  refine z_iconst (v := 0) C dX3_locate_2 rfl ?_
  refine z_iconst (v := 0) C dX3_locate_3 rfl ?_
  refine z_iconst (v := 0) C dX3_locate_4 rfl ?_
  refine z_bipush (v := 11) C dX3_locate_5 rfl ?_
  refine z_iconst (v := 4) C dX3_locate_7 rfl ?_
  refine z_bipush (v := 20) C dX3_locate_8 rfl ?_
  refine z_callV (q := (RX3, TX3, 8)) C (c_scan l Γ G 0 0 0 20 11 4 0 0 0 (by decide) (by decide) (by decide) (by decide) (by decide) (by unfold s_place; decide) hS) kc_X3_locate_10 (by first | assumption | exact zU_same _ _ _) rfl rfl rfl rfl ky_X3_scan ⟨(Nat.le_of_ble_eq_true rfl), (Nat.le_of_ble_eq_true rfl)⟩ (Nat.le_of_ble_eq_true rfl) ⟨(Nat.le_of_ble_eq_true rfl), (Nat.le_of_ble_eq_true rfl)⟩ dX3_locate_10 (fun v10 G10 hp10 => ?_)
  obtain ⟨rfl, hf2, h4⟩ := hp10
  refine z_iconst (v := 0) C dX3_locate_13 rfl ?_
  refine z_istore_n C dX3_locate_14 (by decide) ?_
  exact loop 4 0 _ none rfl ⟨hf2, h4⟩
end
section
theorem dX4_init_0 : decode cX4_init 0 = .ok (.aload_n 0, 1) := by decide +kernel
theorem dX4_init_1 : decode cX4_init 1 = .ok (.invokespecial 1, 3) := by decide +kernel
theorem dX4_init_4 : decode cX4_init 4 = .ok (.aload_n 0, 1) := by decide +kernel
theorem dX4_init_5 : decode cX4_init 5 = .ok (.iload_n 1, 1) := by decide +kernel
theorem dX4_init_6 : decode cX4_init 6 = .ok (.putfield 7, 3) := by decide +kernel
theorem dX4_init_9 : decode cX4_init 9 = .ok (.aload_n 0, 1) := by decide +kernel
theorem dX4_init_10 : decode cX4_init 10 = .ok (.iload_n 2, 1) := by decide +kernel
theorem dX4_init_11 : decode cX4_init 11 = .ok (.putfield 13, 3) := by decide +kernel
theorem dX4_init_14 : decode cX4_init 14 = .ok (.aload_n 0, 1) := by decide +kernel
theorem dX4_init_15 : decode cX4_init 15 = .ok (.iload_n 3, 1) := by decide +kernel
theorem dX4_init_16 : decode cX4_init 16 = .ok (.putfield 16, 3) := by decide +kernel
theorem dX4_init_19 : decode cX4_init 19 = .ok (.return_, 1) := by decide +kernel
theorem ko_X4_init_1 : ∀ w ∈ ([Cond.methodLink "QuakeBench$Station" 1 ⟨"java/lang/Object", "<init>", "()V"⟩, Cond.instanceMethod ⟨"java/lang/Object", "<init>", "()V"⟩, Cond.code ⟨"java/lang/Object", "<init>", "()V"⟩ object_method_1_code 1 (Option.none : Option Jvm.ClassFile.FieldType)] : List Cond), w ∈ lw_all := zin [853, 90, 91] (by decide +kernel)
theorem kw_854 : Cond.fieldLink "QuakeBench$Station" 7 "QuakeBench$Station" "number" "I" ∈ lw_all := zin1 854 (by decide +kernel)
theorem dX1_init_0 : decode cX1_init 0 = .ok (.aload_n 0, 1) := by decide +kernel
theorem dX1_init_1 : decode cX1_init 1 = .ok (.invokespecial 3, 3) := by decide +kernel
theorem dX1_init_4 : decode cX1_init 4 = .ok (.aload_n 0, 1) := by decide +kernel
theorem dX1_init_5 : decode cX1_init 5 = .ok (.iconst 4, 1) := by decide +kernel
theorem dX1_init_6 : decode cX1_init 6 = .ok (.putfield 9, 3) := by decide +kernel
theorem dX1_init_9 : decode cX1_init 9 = .ok (.aload_n 0, 1) := by decide +kernel
theorem dX1_init_10 : decode cX1_init 10 = .ok (.iload_n 1, 1) := by decide +kernel
theorem dX1_init_11 : decode cX1_init 11 = .ok (.putfield 15, 3) := by decide +kernel
theorem dX1_init_14 : decode cX1_init 14 = .ok (.aload_n 0, 1) := by decide +kernel
theorem dX1_init_15 : decode cX1_init 15 = .ok (.aload_n 2, 1) := by decide +kernel
theorem dX1_init_16 : decode cX1_init 16 = .ok (.putfield 18, 3) := by decide +kernel
theorem dX1_init_19 : decode cX1_init 19 = .ok (.aload_n 0, 1) := by decide +kernel
theorem dX1_init_20 : decode cX1_init 20 = .ok (.iload_n 3, 1) := by decide +kernel
theorem dX1_init_21 : decode cX1_init 21 = .ok (.putfield 22, 3) := by decide +kernel
theorem dX1_init_24 : decode cX1_init 24 = .ok (.aload_n 0, 1) := by decide +kernel
theorem dX1_init_25 : decode cX1_init 25 = .ok (.iload 4, 2) := by decide +kernel
theorem dX1_init_27 : decode cX1_init 27 = .ok (.putfield 26, 3) := by decide +kernel
theorem dX1_init_30 : decode cX1_init 30 = .ok (.return_, 1) := by decide +kernel
theorem ko_X1_init_1 : ∀ w ∈ ([Cond.methodLink "QuakeBench$Pick" 3 ⟨"java/lang/Object", "<init>", "()V"⟩, Cond.instanceMethod ⟨"java/lang/Object", "<init>", "()V"⟩, Cond.code ⟨"java/lang/Object", "<init>", "()V"⟩ object_method_1_code 1 (Option.none : Option Jvm.ClassFile.FieldType)] : List Cond), w ∈ lw_all := zin [934, 90, 91] (by decide +kernel)
theorem kw_951 : Cond.fieldLink "QuakeBench$Pick" 9 "QuakeBench$Pick" "weight" "I" ∈ lw_all := zin1 951 (by decide +kernel)
theorem kw_935 : Cond.fieldLink "QuakeBench$Pick" 15 "QuakeBench$Pick" "number" "I" ∈ lw_all := zin1 935 (by decide +kernel)
theorem kw_937 : Cond.fieldLink "QuakeBench$Pick" 18 "QuakeBench$Pick" "station" "LQuakeBench$Station;" ∈ lw_all := zin1 937 (by decide +kernel)
theorem kw_942 : Cond.fieldLink "QuakeBench$Pick" 22 "QuakeBench$Pick" "isS" "Z" ∈ lw_all := zin1 942 (by decide +kernel)
theorem kw_947 : Cond.fieldLink "QuakeBench$Pick" 26 "QuakeBench$Pick" "time" "I" ∈ lw_all := zin1 947 (by decide +kernel)
theorem dX0_init_0 : decode cX0_init 0 = .ok (.aload_n 0, 1) := by decide +kernel
theorem dX0_init_1 : decode cX0_init 1 = .ok (.invokespecial 1, 3) := by decide +kernel
theorem dX0_init_4 : decode cX0_init 4 = .ok (.aload_n 0, 1) := by decide +kernel
theorem dX0_init_5 : decode cX0_init 5 = .ok (.new 7, 3) := by decide +kernel
theorem dX0_init_8 : decode cX0_init 8 = .ok (.dup, 1) := by decide +kernel
theorem dX0_init_9 : decode cX0_init 9 = .ok (.invokespecial 9, 3) := by decide +kernel
theorem dX0_init_12 : decode cX0_init 12 = .ok (.putfield 10, 3) := by decide +kernel
theorem dX0_init_15 : decode cX0_init 15 = .ok (.aload_n 0, 1) := by decide +kernel
theorem dX0_init_16 : decode cX0_init 16 = .ok (.iload_n 1, 1) := by decide +kernel
theorem dX0_init_17 : decode cX0_init 17 = .ok (.putfield 16, 3) := by decide +kernel
theorem dX0_init_20 : decode cX0_init 20 = .ok (.return_, 1) := by decide +kernel
theorem ko_X0_init_1 : ∀ w ∈ ([Cond.methodLink "QuakeBench$Event" 1 ⟨"java/lang/Object", "<init>", "()V"⟩, Cond.instanceMethod ⟨"java/lang/Object", "<init>", "()V"⟩, Cond.code ⟨"java/lang/Object", "<init>", "()V"⟩ object_method_1_code 1 (Option.none : Option Jvm.ClassFile.FieldType)] : List Cond), w ∈ lw_all := zin [682, 90, 91] (by decide +kernel)
theorem kn_X0_init_5 : ∀ w ∈ ([Cond.classLink "QuakeBench$Event" 7 "java/util/ArrayList", Cond.instantiable "java/util/ArrayList" 3, Cond.initialized "java/util/ArrayList"] : List Cond), w ∈ lw_all := zin [683, 93, 57] (by decide +kernel)
theorem ky_Jx4a65c_init_da8c8 : yJx4a65c_init_da8c8.cls ≠ "java/lang/invoke/MethodHandle" ∧ yJx4a65c_init_da8c8.cls ≠ "java/lang/invoke/VarHandle" ∧ (parseMethodDescriptor yJx4a65c_init_da8c8.desc).map (fun d => d.parameters.length) = some 0 := by decide +kernel
theorem kc_X0_init_9 : ∀ w ∈ ([Cond.methodLink "QuakeBench$Event" 9 yJx4a65c_init_da8c8, Cond.instanceMethod yJx4a65c_init_da8c8, Cond.initialized "java/util/ArrayList", Cond.code yJx4a65c_init_da8c8 prog_35_method_2_code 1 (Option.none : Option Jvm.ClassFile.FieldType)] : List Cond), w ∈ lw_all := zin [684, 95, 57, 96] (by decide +kernel)
theorem kw_687 : Cond.fieldLink "QuakeBench$Event" 10 "QuakeBench$Event" "members" "Ljava/util/ArrayList;" ∈ lw_all := zin1 687 (by decide +kernel)
theorem kw_685 : Cond.fieldLink "QuakeBench$Event" 16 "QuakeBench$Event" "number" "I" ∈ lw_all := zin1 685 (by decide +kernel)
theorem dX2_init_0 : decode cX2_init 0 = .ok (.aload_n 0, 1) := by decide +kernel
theorem dX2_init_1 : decode cX2_init 1 = .ok (.invokespecial 3, 3) := by decide +kernel
theorem dX2_init_4 : decode cX2_init 4 = .ok (.aload_n 0, 1) := by decide +kernel
theorem dX2_init_5 : decode cX2_init 5 = .ok (.bipush 80, 2) := by decide +kernel
theorem dX2_init_7 : decode cX2_init 7 = .ok (.newarray .int, 2) := by decide +kernel
theorem dX2_init_9 : decode cX2_init 9 = .ok (.putfield 9, 3) := by decide +kernel
theorem dX2_init_12 : decode cX2_init 12 = .ok (.aload_n 0, 1) := by decide +kernel
theorem dX2_init_13 : decode cX2_init 13 = .ok (.bipush 80, 2) := by decide +kernel
theorem dX2_init_15 : decode cX2_init 15 = .ok (.newarray .int, 2) := by decide +kernel
theorem dX2_init_17 : decode cX2_init 17 = .ok (.putfield 15, 3) := by decide +kernel
theorem dX2_init_20 : decode cX2_init 20 = .ok (.return_, 1) := by decide +kernel
theorem ko_X2_init_1 : ∀ w ∈ ([Cond.methodLink "QuakeBench$Row" 3 ⟨"java/lang/Object", "<init>", "()V"⟩, Cond.instanceMethod ⟨"java/lang/Object", "<init>", "()V"⟩, Cond.code ⟨"java/lang/Object", "<init>", "()V"⟩ object_method_1_code 1 (Option.none : Option Jvm.ClassFile.FieldType)] : List Cond), w ∈ lw_all := zin [138, 90, 91] (by decide +kernel)
theorem kw_153 : Cond.arrayClass Jvm.ClassFile.FieldType.int ∈ lw_all := zin1 153 (by decide +kernel)
theorem dX5_init_0 : decode cX5_init 0 = .ok (.aload_n 0, 1) := by decide +kernel
theorem dX5_init_1 : decode cX5_init 1 = .ok (.invokespecial 3, 3) := by decide +kernel
theorem dX5_init_4 : decode cX5_init 4 = .ok (.aload_n 0, 1) := by decide +kernel
theorem dX5_init_5 : decode cX5_init 5 = .ok (.sipush 6000, 3) := by decide +kernel
theorem dX5_init_8 : decode cX5_init 8 = .ok (.putfield 9, 3) := by decide +kernel
theorem dX5_init_11 : decode cX5_init 11 = .ok (.aload_n 0, 1) := by decide +kernel
theorem dX5_init_12 : decode cX5_init 12 = .ok (.sipush 3468, 3) := by decide +kernel
theorem dX5_init_15 : decode cX5_init 15 = .ok (.putfield 15, 3) := by decide +kernel
theorem dX5_init_18 : decode cX5_init 18 = .ok (.return_, 1) := by decide +kernel
theorem ko_X5_init_1 : ∀ w ∈ ([Cond.methodLink "QuakeBench$Waves" 3 ⟨"java/lang/Object", "<init>", "()V"⟩, Cond.instanceMethod ⟨"java/lang/Object", "<init>", "()V"⟩, Cond.code ⟨"java/lang/Object", "<init>", "()V"⟩ object_method_1_code 1 (Option.none : Option Jvm.ClassFile.FieldType)] : List Cond), w ∈ lw_all := zin [123, 90, 91] (by decide +kernel)
theorem dX3_init_0 : decode cX3_init 0 = .ok (.aload_n 0, 1) := by decide +kernel
theorem dX3_init_1 : decode cX3_init 1 = .ok (.invokespecial 3, 3) := by decide +kernel
theorem dX3_init_4 : decode cX3_init 4 = .ok (.aload_n 0, 1) := by decide +kernel
theorem dX3_init_5 : decode cX3_init 5 = .ok (.aload_n 1, 1) := by decide +kernel
theorem dX3_init_6 : decode cX3_init 6 = .ok (.putfield 9, 3) := by decide +kernel
theorem dX3_init_9 : decode cX3_init 9 = .ok (.aload_n 0, 1) := by decide +kernel
theorem dX3_init_10 : decode cX3_init 10 = .ok (.aload_n 2, 1) := by decide +kernel
theorem dX3_init_11 : decode cX3_init 11 = .ok (.putfield 15, 3) := by decide +kernel
theorem dX3_init_14 : decode cX3_init 14 = .ok (.return_, 1) := by decide +kernel
theorem ko_X3_init_1 : ∀ w ∈ ([Cond.methodLink "QuakeBench$Search" 3 ⟨"java/lang/Object", "<init>", "()V"⟩, Cond.instanceMethod ⟨"java/lang/Object", "<init>", "()V"⟩, Cond.code ⟨"java/lang/Object", "<init>", "()V"⟩ object_method_1_code 1 (Option.none : Option Jvm.ClassFile.FieldType)] : List Cond), w ∈ lw_all := zin [159, 90, 91] (by decide +kernel)
/-! constructors -/
abbrev rm_c_Sta_init : Room := { frames := 1, cells := 0, slots := 0, locals := 20 }
set_option maxHeartbeats 4000000 in
set_option maxRecDepth 100000 in
theorem c_Sta_init (l : Launch) (Γ : zY) (G : zG) {a : Nat} (n x y : Int32) (ha : G a = some (oSta 0 0 0 0)) : ZM l yX4_init cX4_init 4 (none) rm_c_Sta_init Γ [.ref a, .int n, .int x, .int y] G (fun v G' => none = v ∧ zU G a (oSta n x y 0) = G') := by
  refine z_start (by decide +kernel) [some (.ref a), some (.int n), some (.int x), some (.int y)] rfl (Nat.le_of_ble_eq_true rfl) ?_
  intro p e s m args below meth c Q A C F hr hnm
  first | refine z_rload_n C dX4_init_0 rfl ?_ | refine z_nload_n C dX4_init_0 rfl ?_ | refine z_aload_n C dX4_init_0 rfl ?_
  refine z_obj C ko_X4_init_1 (Nat.le_of_ble_eq_true rfl) (Nat.le_of_ble_eq_true rfl) (Nat.le_of_ble_eq_true rfl) (Nat.le_of_ble_eq_true rfl) dX4_init_1 ?_
  first | refine z_rload_n C dX4_init_4 rfl ?_ | refine z_nload_n C dX4_init_4 rfl ?_ | refine z_aload_n C dX4_init_4 rfl ?_
  refine z_iload_n C dX4_init_5 rfl ?_
  refine z_putF (T := TX4) (N := 4) C (by first | assumption | exact zU_same _ _ _) rfl 0 (by decide) kw_854 (Or.inl rfl) rfl hnm rfl (tyX4_ok 0 (by decide)) rfl rfl (Nat.le_of_ble_eq_true rfl) dX4_init_6 ?_
  first | refine z_rload_n C dX4_init_9 rfl ?_ | refine z_nload_n C dX4_init_9 rfl ?_ | refine z_aload_n C dX4_init_9 rfl ?_
  refine z_iload_n C dX4_init_10 rfl ?_
  refine z_putF (T := TX4) (N := 4) C (by first | assumption | exact zU_same _ _ _) rfl 1 (by decide) kw_857 (Or.inl rfl) rfl hnm rfl (tyX4_ok 1 (by decide)) rfl rfl (Nat.le_of_ble_eq_true rfl) dX4_init_11 ?_
  first | refine z_rload_n C dX4_init_14 rfl ?_ | refine z_nload_n C dX4_init_14 rfl ?_ | refine z_aload_n C dX4_init_14 rfl ?_
  refine z_iload_n C dX4_init_15 rfl ?_
  refine z_putF (T := TX4) (N := 4) C (by first | assumption | exact zU_same _ _ _) rfl 2 (by decide) kw_859 (Or.inl rfl) rfl hnm rfl (tyX4_ok 2 (by decide)) rfl rfl (Nat.le_of_ble_eq_true rfl) dX4_init_16 ?_
  exact z_vret C F hr (Nat.le_of_ble_eq_true rfl) (Nat.le_of_ble_eq_true rfl) ⟨rfl, by rw [zU_zU, zU_zU]; rfl⟩ dX4_init_19
abbrev rm_c_Pk_init : Room := { frames := 1, cells := 0, slots := 0, locals := 20 }
set_option maxHeartbeats 4000000 in
set_option maxRecDepth 100000 in
theorem c_Pk_init (l : Launch) (Γ : zY) (G : zG) {a : Nat} (n : Int32) (st : Nat) (iS t : Int32) (hb : narrow .boolean (.int iS) = .int iS) (hf : fits .boolean (.int iS) = true) (ha : G a = some (.inr (2, [.int 0, .null, .int 0, .int 0, .int 0, .int 0, .null]))) : ZM l yX1_init cX1_init 5 (none) rm_c_Pk_init Γ [.ref a, .int n, .ref st, .int iS, .int t] G (fun v G' => none = v ∧ zU G a (oPk n st iS t 4 0 none) = G') := by
  refine z_start (by decide +kernel) [some (.ref a), some (.int n), some (.ref st), some (.int iS), some (.int t)] rfl (Nat.le_of_ble_eq_true rfl) ?_
  intro p e s m args below meth c Q A C F hr hnm
  first | refine z_rload_n C dX1_init_0 rfl ?_ | refine z_nload_n C dX1_init_0 rfl ?_ | refine z_aload_n C dX1_init_0 rfl ?_
  refine z_obj C ko_X1_init_1 (Nat.le_of_ble_eq_true rfl) (Nat.le_of_ble_eq_true rfl) (Nat.le_of_ble_eq_true rfl) (Nat.le_of_ble_eq_true rfl) dX1_init_1 ?_
  first | refine z_rload_n C dX1_init_4 rfl ?_ | refine z_nload_n C dX1_init_4 rfl ?_ | refine z_aload_n C dX1_init_4 rfl ?_
  refine z_iconst (v := 4) C dX1_init_5 rfl ?_
  refine z_putf (T := TX1) (N := 7) C (by first | assumption | exact zU_same _ _ _) rfl 4 (by decide) kw_951 (Or.inl rfl) rfl (tyX1_ok 4 (by decide)) rfl rfl (Nat.le_of_ble_eq_true rfl) dX1_init_6 ?_
  first | refine z_rload_n C dX1_init_9 rfl ?_ | refine z_nload_n C dX1_init_9 rfl ?_ | refine z_aload_n C dX1_init_9 rfl ?_
  refine z_iload_n C dX1_init_10 rfl ?_
  refine z_putF (T := TX1) (N := 7) C (by first | assumption | exact zU_same _ _ _) rfl 0 (by decide) kw_935 (Or.inl rfl) rfl hnm rfl (tyX1_ok 0 (by decide)) rfl rfl (Nat.le_of_ble_eq_true rfl) dX1_init_11 ?_
  first | refine z_rload_n C dX1_init_14 rfl ?_ | refine z_nload_n C dX1_init_14 rfl ?_ | refine z_aload_n C dX1_init_14 rfl ?_
  first | refine z_rload_n C dX1_init_15 rfl ?_ | refine z_nload_n C dX1_init_15 rfl ?_ | refine z_aload_n C dX1_init_15 rfl ?_
  refine z_putF (T := TX1) (N := 7) C (by first | assumption | exact zU_same _ _ _) rfl 1 (by decide) kw_937 (Or.inl rfl) rfl hnm rfl (tyX1_ok 1 (by decide)) rfl rfl (Nat.le_of_ble_eq_true rfl) dX1_init_16 ?_
  first | refine z_rload_n C dX1_init_19 rfl ?_ | refine z_nload_n C dX1_init_19 rfl ?_ | refine z_aload_n C dX1_init_19 rfl ?_
  refine z_iload_n C dX1_init_20 rfl ?_
  refine z_putF (T := TX1) (N := 7) C (by first | assumption | exact zU_same _ _ _) rfl 2 (by decide) kw_942 (Or.inl rfl) rfl hnm rfl (tyX1_ok 2 (by decide)) hb hf (Nat.le_of_ble_eq_true rfl) dX1_init_21 ?_
  first | refine z_rload_n C dX1_init_24 rfl ?_ | refine z_nload_n C dX1_init_24 rfl ?_ | refine z_aload_n C dX1_init_24 rfl ?_
  refine z_iload C dX1_init_25 rfl ?_
  refine z_putF (T := TX1) (N := 7) C (by first | assumption | exact zU_same _ _ _) rfl 3 (by decide) kw_947 (Or.inl rfl) rfl hnm rfl (tyX1_ok 3 (by decide)) rfl rfl (Nat.le_of_ble_eq_true rfl) dX1_init_27 ?_
  exact z_vret C F hr (Nat.le_of_ble_eq_true rfl) (Nat.le_of_ble_eq_true rfl) ⟨rfl, by rw [zU_zU, zU_zU, zU_zU, zU_zU]; rfl⟩ dX1_init_30
abbrev rm_c_Ev_init : Room := { frames := 4, cells := 1, slots := 3, locals := 80 }
set_option maxHeartbeats 4000000 in
set_option maxRecDepth 100000 in
theorem c_Ev_init (l : Launch) (Γ : zY) (G : zG) {a : Nat} (n : Int32) (ha : G a = some (.inr (1, [.int 0, .null, .int 0, .int 0, .int 0, .int 0, .int 0, .int 0]))) : ZM l yX0_init cX0_init 2 (none) rm_c_Ev_init Γ [.ref a, .int n] G (fun v G' => none = v ∧ ∃ ml, G ml = none ∧ G' a = some (oEv n ml 0 0 0 0 0 0) ∧ G' ml = some (oAL 0 (Γ.2.2 0) 0) ∧ ∀ q, q ≠ a → q ≠ ml → G' q = G q) := by
  refine z_start (by decide +kernel) [some (.ref a), some (.int n)] rfl (Nat.le_of_ble_eq_true rfl) ?_
  intro p e s m args below meth c Q A C F hr hnm
  first | refine z_rload_n C dX0_init_0 rfl ?_ | refine z_nload_n C dX0_init_0 rfl ?_ | refine z_aload_n C dX0_init_0 rfl ?_
  refine z_obj C ko_X0_init_1 (Nat.le_of_ble_eq_true rfl) (Nat.le_of_ble_eq_true rfl) (Nat.le_of_ble_eq_true rfl) (Nat.le_of_ble_eq_true rfl) dX0_init_1 ?_
  first | refine z_rload_n C dX0_init_4 rfl ?_ | refine z_nload_n C dX0_init_4 rfl ?_ | refine z_aload_n C dX0_init_4 rfl ?_
  refine z_new (ci := 7) (fs := [.int 0, .null, .int 0]) C kn_X0_init_5 rfl tyJx4a65c tyJx4a65c_ok (fun j hj => by match j, hj with | 0, _ => rfl | 1, _ => rfl | 2, _ => rfl) (Nat.le_of_ble_eq_true rfl) (Nat.le_of_ble_eq_true rfl) dX0_init_5 (fun a5 n5 => ?_)
  refine z_dup C rfl dX0_init_8 ?_
  have hne : a5 ≠ a := (zG_nn ha n5).symm
  refine z_callI C (c_AL_init l Γ _ a5 (zU_same G a5 _)) kc_X0_init_9 rfl rfl rfl ky_Jx4a65c_init_da8c8 ⟨(Nat.le_of_ble_eq_true rfl), (Nat.le_of_ble_eq_true rfl)⟩ (Nat.le_of_ble_eq_true rfl) ⟨(Nat.le_of_ble_eq_true rfl), (Nat.le_of_ble_eq_true rfl)⟩ dX0_init_9 (fun v9 G9 hp9 => ?_)
  obtain ⟨rfl, rfl⟩ := hp9
  refine z_putF (T := TX0) (N := 8) C ((zU_ne hne.symm).trans ((zU_ne hne.symm).trans ha)) rfl 1 (by decide) kw_687 (Or.inl rfl) rfl hnm rfl (tyX0_ok 1 (by decide)) rfl rfl (Nat.le_of_ble_eq_true rfl) dX0_init_12 ?_
  first | refine z_rload_n C dX0_init_15 rfl ?_ | refine z_nload_n C dX0_init_15 rfl ?_ | refine z_aload_n C dX0_init_15 rfl ?_
  refine z_iload_n C dX0_init_16 rfl ?_
  refine z_putF (T := TX0) (N := 8) C (by first | assumption | exact zU_same _ _ _) rfl 0 (by decide) kw_685 (Or.inl rfl) rfl hnm rfl (tyX0_ok 0 (by decide)) rfl rfl (Nat.le_of_ble_eq_true rfl) dX0_init_17 ?_
  exact z_vret C F hr (Nat.le_of_ble_eq_true rfl) (Nat.le_of_ble_eq_true rfl) ⟨rfl, a5, n5, (zU_same _ _ _), by rw [zU_ne hne, zU_ne hne]; exact zU_same _ _ _, fun q h1 h2 => by rw [zU_ne h1, zU_ne h1, zU_ne h2, zU_ne h2]⟩ dX0_init_20
abbrev rm_c_Row_init : Room := { frames := 1, cells := 2, slots := 160, locals := 20 }
set_option maxHeartbeats 4000000 in
set_option maxRecDepth 100000 in
theorem c_Row_init (l : Launch) (Γ : zY) (G : zG) {a : Nat} (ha : G a = some (.inr (3, [.null, .null, .int 0, .int 0]))) : ZM l yX2_init cX2_init 1 (none) rm_c_Row_init Γ [.ref a] G (fun v G' => none = v ∧ ∃ na wa, G na = none ∧ G wa = none ∧ na ≠ wa ∧ G' a = some (oRow na wa 0 0) ∧ G' na = some (zI Γ 80 (fun _ => 0)) ∧ G' wa = some (zI Γ 80 (fun _ => 0)) ∧ ∀ q, q ≠ a → q ≠ na → q ≠ wa → G' q = G q) := by
  refine z_start (by decide +kernel) [some (.ref a)] rfl (Nat.le_of_ble_eq_true rfl) ?_
  intro p e s m args below meth c Q A C F hr hnm
  first | refine z_rload_n C dX2_init_0 rfl ?_ | refine z_nload_n C dX2_init_0 rfl ?_ | refine z_aload_n C dX2_init_0 rfl ?_
  refine z_obj C ko_X2_init_1 (Nat.le_of_ble_eq_true rfl) (Nat.le_of_ble_eq_true rfl) (Nat.le_of_ble_eq_true rfl) (Nat.le_of_ble_eq_true rfl) dX2_init_1 ?_
  first | refine z_rload_n C dX2_init_4 rfl ?_ | refine z_nload_n C dX2_init_4 rfl ?_ | refine z_aload_n C dX2_init_4 rfl ?_
  refine z_bipush (v := 80) C dX2_init_5 rfl ?_
  refine z_newi (N := 80) C kw_153 (by decide) (by decide) (Nat.le_of_ble_eq_true rfl) (Nat.le_of_ble_eq_true rfl) (Nat.le_of_ble_eq_true rfl) dX2_init_7 (fun a7 n7 => ?_)
  have hne : a7 ≠ a := (zG_nn ha n7).symm
  refine z_putF (T := TX2) (N := 4) C ((zU_ne hne.symm).trans ha) rfl 0 (by decide) kw_139 (Or.inl rfl) rfl hnm rfl (tyX2_ok 0 (by decide)) rfl rfl (Nat.le_of_ble_eq_true rfl) dX2_init_9 ?_
  first | refine z_rload_n C dX2_init_12 rfl ?_ | refine z_nload_n C dX2_init_12 rfl ?_ | refine z_aload_n C dX2_init_12 rfl ?_
  refine z_bipush (v := 80) C dX2_init_13 rfl ?_
  refine z_newi (N := 80) C kw_153 (by decide) (by decide) (Nat.le_of_ble_eq_true rfl) (Nat.le_of_ble_eq_true rfl) (Nat.le_of_ble_eq_true rfl) dX2_init_15 (fun a15 n15 => ?_)
  have hne2 : a15 ≠ a := fun z => by rw [z, zU_same] at n15; cases n15
  have hne3 : a15 ≠ a7 := fun z => by rw [z, zU_ne hne, zU_same] at n15; cases n15
  have n15' : G a15 = none := by rw [zU_ne hne2, zU_ne hne3] at n15; exact n15
  refine z_putF (T := TX2) (N := 4) C ((zU_ne hne2.symm).trans (zU_same _ _ _)) rfl 1 (by decide) kw_140 (Or.inl rfl) rfl hnm rfl (tyX2_ok 1 (by decide)) rfl rfl (Nat.le_of_ble_eq_true rfl) dX2_init_17 ?_
  exact z_vret C F hr (Nat.le_of_ble_eq_true rfl) (Nat.le_of_ble_eq_true rfl) ⟨rfl, a7, a15, n7, n15', hne3.symm, zU_same _ _ _, by rw [zU_ne hne, zU_ne hne3.symm, zU_ne hne]; exact zU_same _ _ _, by rw [zU_ne hne2]; exact zU_same _ _ _, fun q h1 h2 h3 => by rw [zU_ne h1, zU_ne h3, zU_ne h1, zU_ne h2]⟩ dX2_init_20
abbrev rm_c_Wav_init : Room := { frames := 1, cells := 0, slots := 0, locals := 20 }
set_option maxHeartbeats 4000000 in
set_option maxRecDepth 100000 in
theorem c_Wav_init (l : Launch) (Γ : zY) (G : zG) {a : Nat} (ha : G a = some (oWav 0 0)) : ZM l yX5_init cX5_init 1 (none) rm_c_Wav_init Γ [.ref a] G (fun v G' => none = v ∧ zU G a (oWav 6000 3468) = G') := by
  refine z_start (by decide +kernel) [some (.ref a)] rfl (Nat.le_of_ble_eq_true rfl) ?_
  intro p e s m args below meth c Q A C F hr hnm
  first | refine z_rload_n C dX5_init_0 rfl ?_ | refine z_nload_n C dX5_init_0 rfl ?_ | refine z_aload_n C dX5_init_0 rfl ?_
  refine z_obj C ko_X5_init_1 (Nat.le_of_ble_eq_true rfl) (Nat.le_of_ble_eq_true rfl) (Nat.le_of_ble_eq_true rfl) (Nat.le_of_ble_eq_true rfl) dX5_init_1 ?_
  first | refine z_rload_n C dX5_init_4 rfl ?_ | refine z_nload_n C dX5_init_4 rfl ?_ | refine z_aload_n C dX5_init_4 rfl ?_
  refine z_sipush (v := 6000) C dX5_init_5 rfl ?_
  refine z_putf (T := TX5) (N := 2) C (by first | assumption | exact zU_same _ _ _) rfl 0 (by decide) kw_124 (Or.inl rfl) rfl (tyX5_ok 0 (by decide)) rfl rfl (Nat.le_of_ble_eq_true rfl) dX5_init_8 ?_
  first | refine z_rload_n C dX5_init_11 rfl ?_ | refine z_nload_n C dX5_init_11 rfl ?_ | refine z_aload_n C dX5_init_11 rfl ?_
  refine z_sipush (v := 3468) C dX5_init_12 rfl ?_
  refine z_putf (T := TX5) (N := 2) C (by first | assumption | exact zU_same _ _ _) rfl 1 (by decide) kw_126 (Or.inl rfl) rfl (tyX5_ok 1 (by decide)) rfl rfl (Nat.le_of_ble_eq_true rfl) dX5_init_15 ?_
  exact z_vret C F hr (Nat.le_of_ble_eq_true rfl) (Nat.le_of_ble_eq_true rfl) ⟨rfl, by rw [zU_zU]; rfl⟩ dX5_init_18
abbrev rm_c_Sea_init : Room := { frames := 1, cells := 0, slots := 0, locals := 20 }
set_option maxHeartbeats 4000000 in
set_option maxRecDepth 100000 in
theorem c_Sea_init (l : Launch) (Γ : zY) (G : zG) {a : Nat} (wv ro : Nat) (ha : G a = some (.inr (4, [.null, .null, .int 0, .int 0, .int 0, .int 0, .int 0, .long 0]))) : ZM l yX3_init cX3_init 3 (none) rm_c_Sea_init Γ [.ref a, .ref wv, .ref ro] G (fun v G' => none = v ∧ zU G a (oSea wv ro 0 0 0 0 0 0) = G') := by
  refine z_start (by decide +kernel) [some (.ref a), some (.ref wv), some (.ref ro)] rfl (Nat.le_of_ble_eq_true rfl) ?_
  intro p e s m args below meth c Q A C F hr hnm
  first | refine z_rload_n C dX3_init_0 rfl ?_ | refine z_nload_n C dX3_init_0 rfl ?_ | refine z_aload_n C dX3_init_0 rfl ?_
  refine z_obj C ko_X3_init_1 (Nat.le_of_ble_eq_true rfl) (Nat.le_of_ble_eq_true rfl) (Nat.le_of_ble_eq_true rfl) (Nat.le_of_ble_eq_true rfl) dX3_init_1 ?_
  first | refine z_rload_n C dX3_init_4 rfl ?_ | refine z_nload_n C dX3_init_4 rfl ?_ | refine z_aload_n C dX3_init_4 rfl ?_
  first | refine z_rload_n C dX3_init_5 rfl ?_ | refine z_nload_n C dX3_init_5 rfl ?_ | refine z_aload_n C dX3_init_5 rfl ?_
  refine z_putF (T := TX3) (N := 8) C (by first | assumption | exact zU_same _ _ _) rfl 0 (by decide) kw_160 (Or.inl rfl) rfl hnm rfl (tyX3_ok 0 (by decide)) rfl rfl (Nat.le_of_ble_eq_true rfl) dX3_init_6 ?_
  first | refine z_rload_n C dX3_init_9 rfl ?_ | refine z_nload_n C dX3_init_9 rfl ?_ | refine z_aload_n C dX3_init_9 rfl ?_
  first | refine z_rload_n C dX3_init_10 rfl ?_ | refine z_nload_n C dX3_init_10 rfl ?_ | refine z_aload_n C dX3_init_10 rfl ?_
  refine z_putF (T := TX3) (N := 8) C (by first | assumption | exact zU_same _ _ _) rfl 1 (by decide) kw_161 (Or.inl rfl) rfl hnm rfl (tyX3_ok 1 (by decide)) rfl rfl (Nat.le_of_ble_eq_true rfl) dX3_init_11 ?_
  exact z_vret C F hr (Nat.le_of_ble_eq_true rfl) (Nat.le_of_ble_eq_true rfl) ⟨rfl, by rw [zU_zU]; rfl⟩ dX3_init_14
end
section

/-! the bench: what its cells hold, by ghost numbers: who owns a cell (0: a plain object or the row's arrays; t: list t and its array), each list's array and elements, the objects' numbers and references -/
abbrev zGh : Type := (Nat → Nat) × (Nat → Nat) × (Nat → List Nat) × (Nat → Nat → Int32) × (Nat → Nat → Nat) × (Nat → Option Nat)
abbrev gOwn (g : zGh) : Nat → Nat := g.1
abbrev gArr (g : zGh) : Nat → Nat := g.2.1
abbrev gXs (g : zGh) : Nat → List Nat := g.2.2.1
abbrev gNum (g : zGh) : Nat → Nat → Int32 := g.2.2.2.1
abbrev gRef (g : zGh) : Nat → Nat → Nat := g.2.2.2.2.1
abbrev gPev (g : zGh) : Nat → Option Nat := g.2.2.2.2.2
def zLt (Γ : zY) (G : zG) (g : zGh) (t a : Nat) : Prop :=
  zLs Γ G a (gArr g t) (gXs g t) ∧ gOwn g a = t ∧ ((gArr g t = Γ.2.2 0 ∧ G (gArr g t) = none) ∨ gOwn g (gArr g t) = t)
def zFx (Γ : zY) (G : zG) (own : Nat → Nat) (α : Nat → Nat) : Prop :=
  (G (α 0) = some (oQB (α 1) (α 2) (α 3) (α 4) (α 5) (α 6) (α 7) (α 8)) ∧ own (α 0) = 0) ∧ (G (α 4) = some (oWav 6000 3468) ∧ own (α 4) = 0) ∧
  ((∃ rs tot, zRo Γ G (α 5) (α 9) (α 10) rs tot) ∧ own (α 5) = 0 ∧ own (α 9) = 0 ∧ own (α 10) = 0) ∧ ((∃ hb bx bY bz bb lm, G (α 6) = some (oSea (α 4) (α 5) hb bx bY bz bb lm)) ∧ own (α 6) = 0)
def zSS (G : zG) (g : zGh) : Prop := ∀ i y, (gXs g 1)[i]? = some y → G y = some (oSta (nI i) (gNum g y 0) (gNum g y 1) 0) ∧ gOwn g y = 0
def zPP (G : zG) (g : zGh) : Prop := ∀ i y, (gXs g 2)[i]? = some y → G y = some (oPk (nI i) (gRef g y 0) (gNum g y 0) (gNum g y 1) (gNum g y 2) 0 (gPev g y)) ∧ gOwn g y = 0 ∧ gRef g y 0 ∈ gXs g 1
def zEE (G : zG) (g : zGh) : Prop := ∀ i q, (gXs g 3)[i]? = some q → G q = some (oEv (nI i) (gRef g q 0) (gNum g q 0) (gNum g q 1) (gNum g q 2) (gNum g q 3) (gNum g q 4) (gNum g q 5)) ∧ gOwn g q = 0
def zFive (t : Nat) : Prop := t = 1 ∨ t = 2 ∨ t = 3 ∨ t = 7 ∨ t = 8
def zBn (Γ : zY) (G : zG) (α : Nat → Nat) (g : zGh) : Prop :=
  zFx Γ G (gOwn g) α ∧ (∀ t, zFive t → zLt Γ G g t (α t)) ∧ (∀ q ∈ gXs g 3, zLt Γ G g (100 + q) (gRef g q 0)) ∧ zSS G g ∧ zPP G g ∧ zEE G g
/-- kept: what is in use and not excepted -/
def zK (G G' : zG) (own own' : Nat → Nat) (X : Nat → Prop) : Prop := ∀ q e, G q = some e → ¬ X q → G' q = some e ∧ own' q = own q
theorem zRo.keep {Γ : zY} {G G' : zG} {r na wa : Nat} {rs : List (Int32 × Int32)} {tot : Int32} (h : zRo Γ G r na wa rs tot) (k : ∀ q e, (q = r ∨ q = na ∨ q = wa) → G q = some e → G' q = some e) : zRo Γ G' r na wa rs tot := by
  obtain ⟨h1, h2, h3, f, g, h4, h5, h6⟩ := h
  exact ⟨h1, h2, k r _ (Or.inl rfl) h3, f, g, k na _ (Or.inr (Or.inl rfl)) h4, k wa _ (Or.inr (Or.inr rfl)) h5, h6⟩
theorem zLs.keep {Γ : zY} {G G' : zG} {a arr : Nat} {xs : List Nat} (h : zLs Γ G a arr xs) (k : ∀ q e, (q = a ∨ q = arr) → G q = some e → G' q = some e) : zLs Γ G' a arr xs := by
  obtain ⟨mc, cap, h1, h2, h3, h4⟩ := h
  refine ⟨mc, cap, k a _ (Or.inl rfl) h1, h2, h3, ?_⟩
  rcases h4 with h4 | ⟨h4, f, h5, h6⟩
  · exact Or.inl h4
  · exact Or.inr ⟨h4, f, k arr _ (Or.inr rfl) h5, h6⟩
theorem zLs.at {Γ : zY} {G : zG} {a arr : Nat} {xs : List Nat} (h : zLs Γ G a arr xs) : ∃ mc, G a = some (oAL mc arr (nI xs.length)) := by
  obtain ⟨mc, cap, h1, -⟩ := h
  exact ⟨mc, h1⟩
theorem zFx.keep {Γ : zY} {G G' : zG} {own own' α : Nat → Nat} {X : Nat → Prop} (h : zFx Γ G own α) (k : zK G G' own own' X) (hX : ∀ q, own q = 0 → ¬ X q) : zFx Γ G' own' α := by
  obtain ⟨⟨h1, h2⟩, ⟨h3, h4⟩, ⟨⟨rs, tot, h5⟩, h6, h7, h8⟩, ⟨⟨hb, bx, bY, bz, bb, lm, h9⟩, h10⟩⟩ := h
  have k0 : ∀ {q e}, G q = some e → own q = 0 → G' q = some e ∧ own' q = 0 := fun hq ho => ⟨(k _ _ hq (hX _ ho)).1, (k _ _ hq (hX _ ho)).2.trans ho⟩
  obtain ⟨-, -, g1, f, g, g2, g3, -⟩ := id h5
  refine ⟨k0 h1 h2, k0 h3 h4, ⟨⟨rs, tot, h5.keep (fun q e hq he => ?_)⟩, (k0 g1 h6).2, (k0 g2 h7).2, (k0 g3 h8).2⟩, ⟨hb, bx, bY, bz, bb, lm, (k0 h9 h10).1⟩, (k0 h9 h10).2⟩
  rcases hq with rfl | rfl | rfl
  · exact (k0 he h6).1
  · exact (k0 he h7).1
  · exact (k0 he h8).1
theorem zLt.keep {Γ : zY} {G G' : zG} {g g' : zGh} {t a : Nat} {X : Nat → Prop} (h : zLt Γ G g t a) (k : zK G G' (gOwn g) (gOwn g') X) (hX : ∀ q, gOwn g q = t → ¬ X q) (he : G' (Γ.2.2 0) = none) (e1 : gArr g' t = gArr g t) (e2 : gXs g' t = gXs g t) : zLt Γ G' g' t a := by
  obtain ⟨h1, h2, h3⟩ := h
  unfold zLt
  rw [e1, e2]
  obtain ⟨mc, ha⟩ := h1.at
  refine ⟨h1.keep (fun q e hq hqe => (k q e hqe ?_).1), (k a _ ha (hX a h2)).2.trans h2, ?_⟩
  · rcases hq with rfl | rfl
    · exact hX _ h2
    · rcases h3 with ⟨-, h3⟩ | h3
      · rw [h3] at hqe; cases hqe
      · exact hX _ h3
  · rcases h3 with ⟨h3, h4⟩ | h3
    · exact Or.inl ⟨h3, by rw [h3]; exact he⟩
    · obtain ⟨mc, cap, -, h5, h6, h7⟩ := h1
      rcases h7 with ⟨h7, -⟩ | ⟨-, f, h7, -⟩
      · exact Or.inl ⟨h7, by rw [h7]; exact he⟩
      · exact Or.inr ((k _ _ h7 (hX _ h3)).2.trans h3)
/-- the bench after an operation on one list: t0 -/
def gL (g : zGh) (t0 arr' : Nat) (xs' : List Nat) : zGh := (va_up (gOwn g) arr' t0, va_up (gArr g) t0 arr', va_up (gXs g) t0 xs', gNum g, gRef g, gPev g)
theorem gL_arr {g : zGh} {t0 arr' t : Nat} {xs' : List Nat} (h : t ≠ t0) : gArr (gL g t0 arr' xs') t = gArr g t := if_neg h
theorem gL_xs {g : zGh} {t0 arr' t : Nat} {xs' : List Nat} (h : t ≠ t0) : gXs (gL g t0 arr' xs') t = gXs g t := if_neg h
theorem gL_xs0 {g : zGh} {t0 arr' : Nat} {xs' : List Nat} : gXs (gL g t0 arr' xs') t0 = xs' := if_pos rfl
theorem gL_arr0 {g : zGh} {t0 arr' : Nat} {xs' : List Nat} : gArr (gL g t0 arr' xs') t0 = arr' := if_pos rfl
/-- the frame of a list operation, in terms of owners -/
theorem zLt.frame {Γ : zY} {G G' : zG} {g : zGh} {t0 a arr' : Nat} {xs' : List Nat} (h : zLt Γ G g t0 a) (ha : arr' = gArr g t0 ∨ G arr' = none) (hf : ∀ q, q ≠ a → q ≠ arr' → G' q = G q) : zK G G' (gOwn g) (gOwn (gL g t0 arr' xs')) (fun q => gOwn g q = t0) := by
  intro q e hq hX
  have h1 : q ≠ a := fun z => hX (by rw [z]; exact h.2.1)
  have h2 : q ≠ arr' := by
    intro z
    subst z
    rcases ha with ha | ha
    · rcases h.2.2 with ⟨h3, h4⟩ | h3
      · rw [← ha] at h4; rw [h4] at hq; cases hq
      · exact hX (by rw [ha]; exact h3)
    · rw [ha] at hq; cases hq
  exact ⟨(hf q h1 h2).trans hq, if_neg h2⟩
theorem zLt.now {Γ : zY} {G' : zG} {g : zGh} {t0 a arr' : Nat} {xs' : List Nat} (h : zLs Γ G' a arr' xs') (ho : gOwn g a = t0) (he : arr' = a → False) (hz : arr' = Γ.2.2 0 → G' (Γ.2.2 0) = none) : zLt Γ G' (gL g t0 arr' xs') t0 a := by
  unfold zLt
  rw [gL_arr0, gL_xs0]
  exact ⟨h, (if_neg (fun z => he z.symm)).trans ho, Or.inr (if_pos rfl)⟩
theorem zBn.lop {Γ : zY} {G G' : zG} {α : Nat → Nat} {g : zGh} {t0 a arr' : Nat} {xs' : List Nat} (h : zBn Γ G α g) (ht : t0 ≠ 0) (hk : zK G G' (gOwn g) (gOwn (gL g t0 arr' xs')) (fun q => gOwn g q = t0)) (he : G' (Γ.2.2 0) = none)
    (h5 : zFive t0 → zLt Γ G' (gL g t0 arr' xs') t0 (α t0)) (hm : ∀ q ∈ gXs (gL g t0 arr' xs') 3, 100 + q = t0 → zLt Γ G' (gL g t0 arr' xs') t0 (gRef g q 0)) (hS : t0 = 1 → zSS G' (gL g t0 arr' xs') ∧ ∀ y ∈ gXs g 1, y ∈ xs') (hP : t0 = 2 → zPP G' (gL g t0 arr' xs')) (hE : t0 = 3 → zEE G' (gL g t0 arr' xs') ∧ ∀ q ∈ xs', q ∉ gXs g 3 → zLt Γ G' (gL g t0 arr' xs') (100 + q) (gRef g q 0)) : zBn Γ G' α (gL g t0 arr' xs') := by
  obtain ⟨hF, hL, hM, hs, hp, hq⟩ := h
  have k0 : ∀ q, gOwn g q = 0 → ¬ gOwn g q = t0 := fun q h1 h2 => ht (h2.symm.trans h1)
  refine ⟨hF.keep hk k0, fun t h5t => ?_, fun q hq3 => ?_, ?_, ?_, ?_⟩
  · by_cases e : t = t0
    · subst e; exact h5 h5t
    · exact (hL t h5t).keep hk (fun q h1 h2 => e (h1.symm.trans h2)) he (gL_arr e) (gL_xs e)
  · by_cases e : 100 + q = t0
    · rw [e]; exact hm q hq3 e
    · by_cases e2 : q ∈ gXs g 3
      · exact (hM q e2).keep hk (fun q h1 h2 => e (h1.symm.trans h2)) he (gL_arr e) (gL_xs e)
      · by_cases e3 : t0 = 3
        · subst e3
          rw [gL_xs0] at hq3
          exact (hE rfl).2 q hq3 e2
        · rw [gL_xs (Ne.symm e3)] at hq3
          exact absurd hq3 e2
  · by_cases e : t0 = 1
    · exact (hS e).1
    · intro i y hy
      rw [gL_xs (Ne.symm e)] at hy
      obtain ⟨h1, h2⟩ := hs i y hy
      obtain ⟨h3, h4⟩ := hk y _ h1 (k0 y h2)
      exact ⟨h3, h4.trans h2⟩
  · by_cases e : t0 = 2
    · exact hP e
    · intro i y hy
      rw [gL_xs (Ne.symm e)] at hy
      obtain ⟨h1, h2, h6⟩ := hp i y hy
      obtain ⟨h3, h4⟩ := hk y _ h1 (k0 y h2)
      refine ⟨h3, h4.trans h2, ?_⟩
      by_cases e1 : t0 = 1
      · have := (hS e1).2 _ h6
        subst e1
        rw [gL_xs0]
        exact this
      · rw [gL_xs (Ne.symm e1)]
        exact h6
  · by_cases e : t0 = 3
    · exact (hE e).1
    · intro i y hy
      rw [gL_xs (Ne.symm e)] at hy
      obtain ⟨h1, h2⟩ := hq i y hy
      obtain ⟨h3, h4⟩ := hk y _ h1 (k0 y h2)
      exact ⟨h3, h4.trans h2⟩
/-- the bench beside a new object -/
def gN (g : zGh) (a : Nat) (num : Nat → Int32) (ref : Nat → Nat) (pv : Option Nat) : zGh := (va_up (gOwn g) a 0, gArr g, gXs g, va_up (gNum g) a num, va_up (gRef g) a ref, va_up (gPev g) a pv)
theorem zBn.new {Γ : zY} {G G' : zG} {α : Nat → Nat} {g : zGh} (h : zBn Γ G α g) {a : Nat} (ha : G a = none) (hf : ∀ q, q ≠ a → G' q = G q) (he : G' (Γ.2.2 0) = none) (num : Nat → Int32) (ref : Nat → Nat) (pv : Option Nat) : zBn Γ G' α (gN g a num ref pv) := by
  obtain ⟨hF, hL, hM, hs, hp, hq⟩ := h
  have hk : zK G G' (gOwn g) (gOwn (gN g a num ref pv)) (fun _ => False) := fun q e hq _ => ⟨(hf q (zG_nn hq ha)).trans hq, if_neg (zG_nn hq ha)⟩
  have un : ∀ {q e}, G q = some e → gNum (gN g a num ref pv) q = gNum g q ∧ gRef (gN g a num ref pv) q = gRef g q ∧ gPev (gN g a num ref pv) q = gPev g q := fun hq => ⟨if_neg (zG_nn hq ha), if_neg (zG_nn hq ha), if_neg (zG_nn hq ha)⟩
  refine ⟨hF.keep hk (fun _ _ z => z), fun t h5t => (hL t h5t).keep hk (fun _ _ z => z) he rfl rfl, fun q hq3 => ?_, fun i y hy => ?_, fun i y hy => ?_, fun i y hy => ?_⟩
  · obtain ⟨i, hi⟩ := List.getElem?_of_mem hq3
    rw [(un (hq i q hi).1).2.1]
    exact (hM q hq3).keep hk (fun _ _ z => z) he rfl rfl
  · obtain ⟨h1, h2⟩ := hs i y hy
    rw [(un h1).1]
    exact ⟨(hk y _ h1 (fun z => z)).1, (hk y _ h1 (fun z => z)).2.trans h2⟩
  · obtain ⟨h1, h2, h3⟩ := hp i y hy
    rw [(un h1).1, (un h1).2.1, (un h1).2.2]
    exact ⟨(hk y _ h1 (fun z => z)).1, (hk y _ h1 (fun z => z)).2.trans h2, h3⟩
  · obtain ⟨h1, h2⟩ := hq i y hy
    rw [(un h1).1, (un h1).2.1]
    exact ⟨(hk y _ h1 (fun z => z)).1, (hk y _ h1 (fun z => z)).2.trans h2⟩
/-- the bench behind a change of the row alone, or of the search -/
theorem zBn.row {Γ : zY} {G G' : zG} {α : Nat → Nat} {g : zGh} (h : zBn Γ G α g) (hf : ∀ q, q ≠ α 6 → q ≠ α 5 → q ≠ α 9 → q ≠ α 10 → G' q = G q) (hr : ∃ rs tot, zRo Γ G' (α 5) (α 9) (α 10) rs tot) (hse : ∃ hb bx bY bz bb lm, G' (α 6) = some (oSea (α 4) (α 5) hb bx bY bz bb lm)) (he : G' (Γ.2.2 0) = none) : zBn Γ G' α g := by
  obtain ⟨hF, hL, hM, hs, hp, hq⟩ := h
  obtain ⟨⟨h1, h2⟩, ⟨h3, h4⟩, ⟨⟨rs, tot, h5⟩, h6, h7, h8⟩, ⟨⟨hb, bx, bY, bz, bb, lm, h9⟩, h10⟩⟩ := hF
  obtain ⟨-, -, g1, f, f2, g2, g3, -⟩ := id h5
  have key : ∀ {q e}, G q = some e → e ≠ oSea (α 4) (α 5) hb bx bY bz bb lm → zk e = true → G' q = some e := fun hq h1 h2 => (hf _ (zG_ne hq h9 h1) (zG_ne hq g1 (fun z => by rw [z] at h2; cases h2)) (zG_ne hq g2 (fun z => by rw [z] at h2; cases h2)) (zG_ne hq g3 (fun z => by rw [z] at h2; cases h2))).trans hq
  have kl : ∀ {t a}, zLt Γ G g t a → zLt Γ G' g t a := by
    intro t a ⟨h1, h2, h3⟩
    refine ⟨?_, h2, ?_⟩
    · obtain ⟨mc, cap, k1, k2, k3, k4⟩ := h1
      refine ⟨mc, cap, key k1 (fun z => by cases z) rfl, k2, k3, ?_⟩
      rcases k4 with k4 | ⟨k4, ff, k5, k6⟩
      · exact Or.inl k4
      · exact Or.inr ⟨k4, ff, key k5 (fun z => by cases z) rfl, k6⟩
    · rcases h3 with ⟨h3, -⟩ | h3
      · exact Or.inl ⟨h3, by rw [h3]; exact he⟩
      · exact Or.inr h3
  refine ⟨⟨⟨key h1 (fun z => by cases z) rfl, h2⟩, ⟨key h3 (fun z => by cases z) rfl, h4⟩, ⟨hr, h6, h7, h8⟩, ⟨hse, h10⟩⟩, fun t h5t => kl (hL t h5t), fun q hq3 => kl (hM q hq3), fun i y hy => ?_, fun i y hy => ?_, fun i y hy => ?_⟩
  · obtain ⟨k1, k2⟩ := hs i y hy
    exact ⟨key k1 (fun z => by cases z) rfl, k2⟩
  · obtain ⟨k1, k2⟩ := hp i y hy
    exact ⟨key k1 (fun z => by cases z) rfl, k2⟩
  · obtain ⟨k1, k2⟩ := hq i y hy
    exact ⟨key k1 (fun z => by cases z) rfl, k2⟩
end
section
theorem dX6_init_0 : decode cX6_init 0 = .ok (.aload_n 0, 1) := by decide +kernel
theorem dX6_init_1 : decode cX6_init 1 = .ok (.invokespecial 1, 3) := by decide +kernel
theorem dX6_init_4 : decode cX6_init 4 = .ok (.aload_n 0, 1) := by decide +kernel
theorem dX6_init_5 : decode cX6_init 5 = .ok (.new 7, 3) := by decide +kernel
theorem dX6_init_8 : decode cX6_init 8 = .ok (.dup, 1) := by decide +kernel
theorem dX6_init_9 : decode cX6_init 9 = .ok (.invokespecial 9, 3) := by decide +kernel
theorem dX6_init_12 : decode cX6_init 12 = .ok (.putfield 10, 3) := by decide +kernel
theorem dX6_init_15 : decode cX6_init 15 = .ok (.aload_n 0, 1) := by decide +kernel
theorem dX6_init_16 : decode cX6_init 16 = .ok (.new 7, 3) := by decide +kernel
theorem dX6_init_19 : decode cX6_init 19 = .ok (.dup, 1) := by decide +kernel
theorem dX6_init_20 : decode cX6_init 20 = .ok (.invokespecial 9, 3) := by decide +kernel
theorem dX6_init_23 : decode cX6_init 23 = .ok (.putfield 16, 3) := by decide +kernel
theorem dX6_init_26 : decode cX6_init 26 = .ok (.aload_n 0, 1) := by decide +kernel
theorem dX6_init_27 : decode cX6_init 27 = .ok (.new 7, 3) := by decide +kernel
theorem dX6_init_30 : decode cX6_init 30 = .ok (.dup, 1) := by decide +kernel
theorem dX6_init_31 : decode cX6_init 31 = .ok (.invokespecial 9, 3) := by decide +kernel
theorem dX6_init_34 : decode cX6_init 34 = .ok (.putfield 19, 3) := by decide +kernel
theorem dX6_init_37 : decode cX6_init 37 = .ok (.aload_n 0, 1) := by decide +kernel
theorem dX6_init_38 : decode cX6_init 38 = .ok (.new 22, 3) := by decide +kernel
theorem dX6_init_41 : decode cX6_init 41 = .ok (.dup, 1) := by decide +kernel
theorem dX6_init_42 : decode cX6_init 42 = .ok (.invokespecial 24, 3) := by decide +kernel
theorem dX6_init_45 : decode cX6_init 45 = .ok (.putfield 25, 3) := by decide +kernel
theorem dX6_init_48 : decode cX6_init 48 = .ok (.aload_n 0, 1) := by decide +kernel
theorem dX6_init_49 : decode cX6_init 49 = .ok (.new 29, 3) := by decide +kernel
theorem dX6_init_52 : decode cX6_init 52 = .ok (.dup, 1) := by decide +kernel
theorem dX6_init_53 : decode cX6_init 53 = .ok (.invokespecial 31, 3) := by decide +kernel
theorem dX6_init_56 : decode cX6_init 56 = .ok (.putfield 32, 3) := by decide +kernel
theorem dX6_init_59 : decode cX6_init 59 = .ok (.aload_n 0, 1) := by decide +kernel
theorem dX6_init_60 : decode cX6_init 60 = .ok (.new 36, 3) := by decide +kernel
theorem dX6_init_63 : decode cX6_init 63 = .ok (.dup, 1) := by decide +kernel
theorem dX6_init_64 : decode cX6_init 64 = .ok (.aload_n 0, 1) := by decide +kernel
theorem dX6_init_65 : decode cX6_init 65 = .ok (.getfield 25, 3) := by decide +kernel
theorem dX6_init_68 : decode cX6_init 68 = .ok (.aload_n 0, 1) := by decide +kernel
theorem dX6_init_69 : decode cX6_init 69 = .ok (.getfield 32, 3) := by decide +kernel
theorem dX6_init_72 : decode cX6_init 72 = .ok (.invokespecial 38, 3) := by decide +kernel
theorem dX6_init_75 : decode cX6_init 75 = .ok (.putfield 41, 3) := by decide +kernel
theorem dX6_init_78 : decode cX6_init 78 = .ok (.aload_n 0, 1) := by decide +kernel
theorem dX6_init_79 : decode cX6_init 79 = .ok (.new 7, 3) := by decide +kernel
theorem dX6_init_82 : decode cX6_init 82 = .ok (.dup, 1) := by decide +kernel
theorem dX6_init_83 : decode cX6_init 83 = .ok (.invokespecial 9, 3) := by decide +kernel
theorem dX6_init_86 : decode cX6_init 86 = .ok (.putfield 45, 3) := by decide +kernel
theorem dX6_init_89 : decode cX6_init 89 = .ok (.aload_n 0, 1) := by decide +kernel
theorem dX6_init_90 : decode cX6_init 90 = .ok (.new 7, 3) := by decide +kernel
theorem dX6_init_93 : decode cX6_init 93 = .ok (.dup, 1) := by decide +kernel
theorem dX6_init_94 : decode cX6_init 94 = .ok (.invokespecial 9, 3) := by decide +kernel
theorem dX6_init_97 : decode cX6_init 97 = .ok (.putfield 48, 3) := by decide +kernel
theorem dX6_init_100 : decode cX6_init 100 = .ok (.return_, 1) := by decide +kernel
theorem ko_X6_init_1 : ∀ w ∈ ([Cond.methodLink "QuakeBench" 1 ⟨"java/lang/Object", "<init>", "()V"⟩, Cond.instanceMethod ⟨"java/lang/Object", "<init>", "()V"⟩, Cond.code ⟨"java/lang/Object", "<init>", "()V"⟩ object_method_1_code 1 (Option.none : Option Jvm.ClassFile.FieldType)] : List Cond), w ∈ lw_all := zin [89, 90, 91] (by decide +kernel)
theorem kn_X6_init_5 : ∀ w ∈ ([Cond.classLink "QuakeBench" 7 "java/util/ArrayList", Cond.instantiable "java/util/ArrayList" 3, Cond.initialized "java/util/ArrayList"] : List Cond), w ∈ lw_all := zin [92, 93, 57] (by decide +kernel)
theorem kc_X6_init_9 : ∀ w ∈ ([Cond.methodLink "QuakeBench" 9 yJx4a65c_init_da8c8, Cond.instanceMethod yJx4a65c_init_da8c8, Cond.initialized "java/util/ArrayList", Cond.code yJx4a65c_init_da8c8 prog_35_method_2_code 1 (Option.none : Option Jvm.ClassFile.FieldType)] : List Cond), w ∈ lw_all := zin [94, 95, 57, 96] (by decide +kernel)
theorem kw_185 : Cond.fieldLink "QuakeBench" 10 "QuakeBench" "stations" "Ljava/util/ArrayList;" ∈ lw_all := zin1 185 (by decide +kernel)
theorem kn_X6_init_16 : ∀ w ∈ ([Cond.classLink "QuakeBench" 7 "java/util/ArrayList", Cond.instantiable "java/util/ArrayList" 3, Cond.initialized "java/util/ArrayList"] : List Cond), w ∈ lw_all := zin [92, 93, 57] (by decide +kernel)
theorem kc_X6_init_20 : ∀ w ∈ ([Cond.methodLink "QuakeBench" 9 yJx4a65c_init_da8c8, Cond.instanceMethod yJx4a65c_init_da8c8, Cond.initialized "java/util/ArrayList", Cond.code yJx4a65c_init_da8c8 prog_35_method_2_code 1 (Option.none : Option Jvm.ClassFile.FieldType)] : List Cond), w ∈ lw_all := zin [94, 95, 57, 96] (by decide +kernel)
theorem kw_186 : Cond.fieldLink "QuakeBench" 16 "QuakeBench" "picks" "Ljava/util/ArrayList;" ∈ lw_all := zin1 186 (by decide +kernel)
theorem kn_X6_init_27 : ∀ w ∈ ([Cond.classLink "QuakeBench" 7 "java/util/ArrayList", Cond.instantiable "java/util/ArrayList" 3, Cond.initialized "java/util/ArrayList"] : List Cond), w ∈ lw_all := zin [92, 93, 57] (by decide +kernel)
theorem kc_X6_init_31 : ∀ w ∈ ([Cond.methodLink "QuakeBench" 9 yJx4a65c_init_da8c8, Cond.instanceMethod yJx4a65c_init_da8c8, Cond.initialized "java/util/ArrayList", Cond.code yJx4a65c_init_da8c8 prog_35_method_2_code 1 (Option.none : Option Jvm.ClassFile.FieldType)] : List Cond), w ∈ lw_all := zin [94, 95, 57, 96] (by decide +kernel)
theorem kw_187 : Cond.fieldLink "QuakeBench" 19 "QuakeBench" "events" "Ljava/util/ArrayList;" ∈ lw_all := zin1 187 (by decide +kernel)
theorem kn_X6_init_38 : ∀ w ∈ ([Cond.classLink "QuakeBench" 22 "QuakeBench$Waves", Cond.instantiable "QuakeBench$Waves" 2, Cond.initialized "QuakeBench$Waves"] : List Cond), w ∈ lw_all := zin [118, 119, 58] (by decide +kernel)
theorem ky_X5_init : yX5_init.cls ≠ "java/lang/invoke/MethodHandle" ∧ yX5_init.cls ≠ "java/lang/invoke/VarHandle" ∧ (parseMethodDescriptor yX5_init.desc).map (fun d => d.parameters.length) = some 0 := by decide +kernel
theorem kn_120 : Cond.methodLinkNest "QuakeBench" 24 yX5_init "QuakeBench" ∈ lw_nest := by decide +kernel
theorem kc_X6_init_42 : ∀ w ∈ ([Cond.instanceMethod yX5_init, Cond.initialized "QuakeBench$Waves", Cond.code yX5_init prog_7_method_1_code 1 (Option.none : Option Jvm.ClassFile.FieldType)] : List Cond), w ∈ lw_all := zin [121, 58, 122] (by decide +kernel)
theorem kw_188 : Cond.fieldLink "QuakeBench" 25 "QuakeBench" "waves" "LQuakeBench$Waves;" ∈ lw_all := zin1 188 (by decide +kernel)
theorem kn_X6_init_49 : ∀ w ∈ ([Cond.classLink "QuakeBench" 29 "QuakeBench$Row", Cond.instantiable "QuakeBench$Row" 4, Cond.initialized "QuakeBench$Row"] : List Cond), w ∈ lw_all := zin [133, 134, 59] (by decide +kernel)
theorem ky_X2_init : yX2_init.cls ≠ "java/lang/invoke/MethodHandle" ∧ yX2_init.cls ≠ "java/lang/invoke/VarHandle" ∧ (parseMethodDescriptor yX2_init.desc).map (fun d => d.parameters.length) = some 0 := by decide +kernel
theorem kn_135 : Cond.methodLinkNest "QuakeBench" 31 yX2_init "QuakeBench" ∈ lw_nest := by decide +kernel
theorem kc_X6_init_53 : ∀ w ∈ ([Cond.instanceMethod yX2_init, Cond.initialized "QuakeBench$Row", Cond.code yX2_init prog_4_method_1_code 1 (Option.none : Option Jvm.ClassFile.FieldType)] : List Cond), w ∈ lw_all := zin [136, 59, 137] (by decide +kernel)
theorem kw_189 : Cond.fieldLink "QuakeBench" 32 "QuakeBench" "row" "LQuakeBench$Row;" ∈ lw_all := zin1 189 (by decide +kernel)
theorem kn_X6_init_60 : ∀ w ∈ ([Cond.classLink "QuakeBench" 36 "QuakeBench$Search", Cond.instantiable "QuakeBench$Search" 8, Cond.initialized "QuakeBench$Search"] : List Cond), w ∈ lw_all := zin [154, 155, 60] (by decide +kernel)
theorem ky_X3_init : yX3_init.cls ≠ "java/lang/invoke/MethodHandle" ∧ yX3_init.cls ≠ "java/lang/invoke/VarHandle" ∧ (parseMethodDescriptor yX3_init.desc).map (fun d => d.parameters.length) = some 2 := by decide +kernel
theorem kc_X6_init_72 : ∀ w ∈ ([Cond.methodLink "QuakeBench" 38 yX3_init, Cond.instanceMethod yX3_init, Cond.initialized "QuakeBench$Search", Cond.code yX3_init prog_5_method_1_code 3 (Option.none : Option Jvm.ClassFile.FieldType)] : List Cond), w ∈ lw_all := zin [156, 157, 60, 158] (by decide +kernel)
theorem kw_190 : Cond.fieldLink "QuakeBench" 41 "QuakeBench" "search" "LQuakeBench$Search;" ∈ lw_all := zin1 190 (by decide +kernel)
theorem kn_X6_init_79 : ∀ w ∈ ([Cond.classLink "QuakeBench" 7 "java/util/ArrayList", Cond.instantiable "java/util/ArrayList" 3, Cond.initialized "java/util/ArrayList"] : List Cond), w ∈ lw_all := zin [92, 93, 57] (by decide +kernel)
theorem kc_X6_init_83 : ∀ w ∈ ([Cond.methodLink "QuakeBench" 9 yJx4a65c_init_da8c8, Cond.instanceMethod yJx4a65c_init_da8c8, Cond.initialized "java/util/ArrayList", Cond.code yJx4a65c_init_da8c8 prog_35_method_2_code 1 (Option.none : Option Jvm.ClassFile.FieldType)] : List Cond), w ∈ lw_all := zin [94, 95, 57, 96] (by decide +kernel)
theorem kw_191 : Cond.fieldLink "QuakeBench" 45 "QuakeBench" "loose" "Ljava/util/ArrayList;" ∈ lw_all := zin1 191 (by decide +kernel)
theorem kn_X6_init_90 : ∀ w ∈ ([Cond.classLink "QuakeBench" 7 "java/util/ArrayList", Cond.instantiable "java/util/ArrayList" 3, Cond.initialized "java/util/ArrayList"] : List Cond), w ∈ lw_all := zin [92, 93, 57] (by decide +kernel)
theorem kc_X6_init_94 : ∀ w ∈ ([Cond.methodLink "QuakeBench" 9 yJx4a65c_init_da8c8, Cond.instanceMethod yJx4a65c_init_da8c8, Cond.initialized "java/util/ArrayList", Cond.code yJx4a65c_init_da8c8 prog_35_method_2_code 1 (Option.none : Option Jvm.ClassFile.FieldType)] : List Cond), w ∈ lw_all := zin [94, 95, 57, 96] (by decide +kernel)
theorem kw_192 : Cond.fieldLink "QuakeBench" 48 "QuakeBench" "companions" "Ljava/util/ArrayList;" ∈ lw_all := zin1 192 (by decide +kernel)
/-! the bench's constructor -/
abbrev rm_c_QB_init : Room := { frames := 4, cells := 10, slots := 189, locals := 80 }
set_option maxHeartbeats 4000000 in
set_option maxRecDepth 100000 in
theorem c_QB_init (l : Launch) (Γ : zY) (G : zG) {b : Nat} (hb : G b = some (.inr (0, [.null, .null, .null, .null, .null, .null, .null, .null]))) : ZM l yX6_init cX6_init 1 (none) rm_c_QB_init Γ [.ref b] G (fun v G' => none = v ∧ ∃ α g, α 0 = b ∧ zBn Γ G' α g ∧ (∀ t, gXs g t = []) ∧ ∀ q e, G q = some e → q ≠ b → G' q = some e) := by
  refine z_start (by decide +kernel) [some (.ref b)] rfl (Nat.le_of_ble_eq_true rfl) ?_
  intro p e s m args below meth c Q A C F hr hnm
  have f_b := hb
  have f_old : ∀ q e, G q = some e → q ≠ b → G q = some e := fun q e h _ => h
  first | refine z_rload_n C dX6_init_0 rfl ?_ | refine z_nload_n C dX6_init_0 rfl ?_ | refine z_aload_n C dX6_init_0 rfl ?_
  refine z_obj C ko_X6_init_1 (Nat.le_of_ble_eq_true rfl) (Nat.le_of_ble_eq_true rfl) (Nat.le_of_ble_eq_true rfl) (Nat.le_of_ble_eq_true rfl) dX6_init_1 ?_
  first | refine z_rload_n C dX6_init_4 rfl ?_ | refine z_nload_n C dX6_init_4 rfl ?_ | refine z_aload_n C dX6_init_4 rfl ?_
  refine z_new (ci := 7) (fs := [.int 0, .null, .int 0]) C kn_X6_init_5 rfl tyJx4a65c tyJx4a65c_ok (fun j hj => by match j, hj with | 0, _ => rfl | 1, _ => rfl | 2, _ => rfl) (Nat.le_of_ble_eq_true rfl) (Nat.le_of_ble_eq_true rfl) dX6_init_5 (fun a5 n5 => ?_)
  have dd_b_a5 : b ≠ a5 := zG_nn f_b n5
  refine z_dup C rfl dX6_init_8 ?_
  refine z_callI C (c_AL_init l Γ _ a5 (zU_same _ _ _)) kc_X6_init_9 rfl rfl rfl ky_Jx4a65c_init_da8c8 ⟨(Nat.le_of_ble_eq_true rfl), (Nat.le_of_ble_eq_true rfl)⟩ (Nat.le_of_ble_eq_true rfl) ⟨(Nat.le_of_ble_eq_true rfl), (Nat.le_of_ble_eq_true rfl)⟩ dX6_init_9 (fun v9 G9 hp9 => ?_)
  obtain ⟨rfl, rfl⟩ := hp9
  have ne_b5 : b ≠ a5 := zG_nn f_b n5
  refine z_putF (T := TX6) (N := 8) C ((zU_ne ne_b5).trans ((zU_ne ne_b5).trans f_b)) rfl 0 (by decide) kw_185 (Or.inl rfl) rfl hnm rfl (tyX6_ok 0 (by decide)) rfl rfl (Nat.le_of_ble_eq_true rfl) dX6_init_12 ?_
  refine z_gen (fun G0_ e_0 => ?_)
  replace f_old : ∀ q e, G q = some e → q ≠ b → G0_ q = some e := fun q e h h2 => (e_0 q).trans ((zU_ne h2).trans (by have h3 := f_old q e h h2; exact (zU_ne (zG_nn h3 n5)).trans ((zU_ne (zG_nn h3 n5)).trans h3)))
  have f_a5 := (e_0 a5).trans ((zU_ne ne_b5.symm).trans (zU_same _ _ _))
  replace f_b : G0_ b = some (.inr (0, [.ref a5, .null, .null, .null, .null, .null, .null, .null])) := (e_0 b).trans (zU_same _ _ _)
  first | refine z_rload_n C dX6_init_15 rfl ?_ | refine z_nload_n C dX6_init_15 rfl ?_ | refine z_aload_n C dX6_init_15 rfl ?_
  refine z_new (ci := 7) (fs := [.int 0, .null, .int 0]) C kn_X6_init_16 rfl tyJx4a65c tyJx4a65c_ok (fun j hj => by match j, hj with | 0, _ => rfl | 1, _ => rfl | 2, _ => rfl) (Nat.le_of_ble_eq_true rfl) (Nat.le_of_ble_eq_true rfl) dX6_init_16 (fun a16 n16 => ?_)
  have dd_b_a16 : b ≠ a16 := zG_nn f_b n16
  have dd_a5_a16 : a5 ≠ a16 := zG_nn f_a5 n16
  refine z_dup C rfl dX6_init_19 ?_
  refine z_callI C (c_AL_init l Γ _ a16 (zU_same _ _ _)) kc_X6_init_20 rfl rfl rfl ky_Jx4a65c_init_da8c8 ⟨(Nat.le_of_ble_eq_true rfl), (Nat.le_of_ble_eq_true rfl)⟩ (Nat.le_of_ble_eq_true rfl) ⟨(Nat.le_of_ble_eq_true rfl), (Nat.le_of_ble_eq_true rfl)⟩ dX6_init_20 (fun v20 G20 hp20 => ?_)
  obtain ⟨rfl, rfl⟩ := hp20
  have ne_b16 : b ≠ a16 := zG_nn f_b n16
  refine z_putF (T := TX6) (N := 8) C ((zU_ne ne_b16).trans ((zU_ne ne_b16).trans f_b)) rfl 1 (by decide) kw_186 (Or.inl rfl) rfl hnm rfl (tyX6_ok 1 (by decide)) rfl rfl (Nat.le_of_ble_eq_true rfl) dX6_init_23 ?_
  refine z_gen (fun G1_ e_1 => ?_)
  replace f_old : ∀ q e, G q = some e → q ≠ b → G1_ q = some e := fun q e h h2 => (e_1 q).trans ((zU_ne h2).trans (by have h3 := f_old q e h h2; exact (zU_ne (zG_nn h3 n16)).trans ((zU_ne (zG_nn h3 n16)).trans h3)))
  replace f_a5 := (e_1 a5).trans ((zU_ne (ne_b5).symm).trans ((zU_ne (zG_nn f_a5 n16)).trans ((zU_ne (zG_nn f_a5 n16)).trans f_a5)))
  have f_a16 := (e_1 a16).trans ((zU_ne ne_b16.symm).trans (zU_same _ _ _))
  replace f_b : G1_ b = some (.inr (0, [.ref a5, .ref a16, .null, .null, .null, .null, .null, .null])) := (e_1 b).trans (zU_same _ _ _)
  first | refine z_rload_n C dX6_init_26 rfl ?_ | refine z_nload_n C dX6_init_26 rfl ?_ | refine z_aload_n C dX6_init_26 rfl ?_
  refine z_new (ci := 7) (fs := [.int 0, .null, .int 0]) C kn_X6_init_27 rfl tyJx4a65c tyJx4a65c_ok (fun j hj => by match j, hj with | 0, _ => rfl | 1, _ => rfl | 2, _ => rfl) (Nat.le_of_ble_eq_true rfl) (Nat.le_of_ble_eq_true rfl) dX6_init_27 (fun a27 n27 => ?_)
  have dd_b_a27 : b ≠ a27 := zG_nn f_b n27
  have dd_a5_a27 : a5 ≠ a27 := zG_nn f_a5 n27
  have dd_a16_a27 : a16 ≠ a27 := zG_nn f_a16 n27
  refine z_dup C rfl dX6_init_30 ?_
  refine z_callI C (c_AL_init l Γ _ a27 (zU_same _ _ _)) kc_X6_init_31 rfl rfl rfl ky_Jx4a65c_init_da8c8 ⟨(Nat.le_of_ble_eq_true rfl), (Nat.le_of_ble_eq_true rfl)⟩ (Nat.le_of_ble_eq_true rfl) ⟨(Nat.le_of_ble_eq_true rfl), (Nat.le_of_ble_eq_true rfl)⟩ dX6_init_31 (fun v31 G31 hp31 => ?_)
  obtain ⟨rfl, rfl⟩ := hp31
  have ne_b27 : b ≠ a27 := zG_nn f_b n27
  refine z_putF (T := TX6) (N := 8) C ((zU_ne ne_b27).trans ((zU_ne ne_b27).trans f_b)) rfl 2 (by decide) kw_187 (Or.inl rfl) rfl hnm rfl (tyX6_ok 2 (by decide)) rfl rfl (Nat.le_of_ble_eq_true rfl) dX6_init_34 ?_
  refine z_gen (fun G2_ e_2 => ?_)
  replace f_old : ∀ q e, G q = some e → q ≠ b → G2_ q = some e := fun q e h h2 => (e_2 q).trans ((zU_ne h2).trans (by have h3 := f_old q e h h2; exact (zU_ne (zG_nn h3 n27)).trans ((zU_ne (zG_nn h3 n27)).trans h3)))
  replace f_a5 := (e_2 a5).trans ((zU_ne (ne_b5).symm).trans ((zU_ne (zG_nn f_a5 n27)).trans ((zU_ne (zG_nn f_a5 n27)).trans f_a5)))
  replace f_a16 := (e_2 a16).trans ((zU_ne (ne_b16).symm).trans ((zU_ne (zG_nn f_a16 n27)).trans ((zU_ne (zG_nn f_a16 n27)).trans f_a16)))
  have f_a27 := (e_2 a27).trans ((zU_ne ne_b27.symm).trans (zU_same _ _ _))
  replace f_b : G2_ b = some (.inr (0, [.ref a5, .ref a16, .ref a27, .null, .null, .null, .null, .null])) := (e_2 b).trans (zU_same _ _ _)
  first | refine z_rload_n C dX6_init_37 rfl ?_ | refine z_nload_n C dX6_init_37 rfl ?_ | refine z_aload_n C dX6_init_37 rfl ?_
  refine z_new (ci := 6) (fs := [.int 0, .int 0]) C kn_X6_init_38 rfl tyX5 tyX5_ok (fun j hj => by match j, hj with | 0, _ => rfl | 1, _ => rfl) (Nat.le_of_ble_eq_true rfl) (Nat.le_of_ble_eq_true rfl) dX6_init_38 (fun a38 n38 => ?_)
  have dd_b_a38 : b ≠ a38 := zG_nn f_b n38
  have dd_a5_a38 : a5 ≠ a38 := zG_nn f_a5 n38
  have dd_a16_a38 : a16 ≠ a38 := zG_nn f_a16 n38
  have dd_a27_a38 : a27 ≠ a38 := zG_nn f_a27 n38
  refine z_dup C rfl dX6_init_41 ?_
  refine z_callIN C (c_Wav_init l Γ _ (zU_same _ a38 _)) kn_120 kc_X6_init_42 rfl rfl rfl ky_X5_init ⟨(Nat.le_of_ble_eq_true rfl), (Nat.le_of_ble_eq_true rfl)⟩ (Nat.le_of_ble_eq_true rfl) ⟨(Nat.le_of_ble_eq_true rfl), (Nat.le_of_ble_eq_true rfl)⟩ dX6_init_42 (fun v42 G42 hp42 => ?_)
  obtain ⟨rfl, rfl⟩ := hp42
  have ne_b38 : b ≠ a38 := zG_nn f_b n38
  refine z_putF (T := TX6) (N := 8) C ((zU_ne ne_b38).trans ((zU_ne ne_b38).trans f_b)) rfl 3 (by decide) kw_188 (Or.inl rfl) rfl hnm rfl (tyX6_ok 3 (by decide)) rfl rfl (Nat.le_of_ble_eq_true rfl) dX6_init_45 ?_
  refine z_gen (fun G3_ e_3 => ?_)
  replace f_old : ∀ q e, G q = some e → q ≠ b → G3_ q = some e := fun q e h h2 => (e_3 q).trans ((zU_ne h2).trans (by have h3 := f_old q e h h2; exact (zU_ne (zG_nn h3 n38)).trans ((zU_ne (zG_nn h3 n38)).trans h3)))
  replace f_a5 := (e_3 a5).trans ((zU_ne (ne_b5).symm).trans ((zU_ne (zG_nn f_a5 n38)).trans ((zU_ne (zG_nn f_a5 n38)).trans f_a5)))
  replace f_a16 := (e_3 a16).trans ((zU_ne (ne_b16).symm).trans ((zU_ne (zG_nn f_a16 n38)).trans ((zU_ne (zG_nn f_a16 n38)).trans f_a16)))
  replace f_a27 := (e_3 a27).trans ((zU_ne (ne_b27).symm).trans ((zU_ne (zG_nn f_a27 n38)).trans ((zU_ne (zG_nn f_a27 n38)).trans f_a27)))
  have f_a38 := (e_3 a38).trans ((zU_ne ne_b38.symm).trans (zU_same _ _ _))
  replace f_b : G3_ b = some (.inr (0, [.ref a5, .ref a16, .ref a27, .ref a38, .null, .null, .null, .null])) := (e_3 b).trans (zU_same _ _ _)
  first | refine z_rload_n C dX6_init_48 rfl ?_ | refine z_nload_n C dX6_init_48 rfl ?_ | refine z_aload_n C dX6_init_48 rfl ?_
  refine z_new (ci := 3) (fs := [.null, .null, .int 0, .int 0]) C kn_X6_init_49 rfl tyX2 tyX2_ok (fun j hj => by match j, hj with | 0, _ => rfl | 1, _ => rfl | 2, _ => rfl | 3, _ => rfl) (Nat.le_of_ble_eq_true rfl) (Nat.le_of_ble_eq_true rfl) dX6_init_49 (fun a49 n49 => ?_)
  have dd_b_a49 : b ≠ a49 := zG_nn f_b n49
  have dd_a5_a49 : a5 ≠ a49 := zG_nn f_a5 n49
  have dd_a16_a49 : a16 ≠ a49 := zG_nn f_a16 n49
  have dd_a27_a49 : a27 ≠ a49 := zG_nn f_a27 n49
  have dd_a38_a49 : a38 ≠ a49 := zG_nn f_a38 n49
  refine z_dup C rfl dX6_init_52 ?_
  refine z_callIN C (c_Row_init l Γ _ (zU_same _ a49 _)) kn_135 kc_X6_init_53 rfl rfl rfl ky_X2_init ⟨(Nat.le_of_ble_eq_true rfl), (Nat.le_of_ble_eq_true rfl)⟩ (Nat.le_of_ble_eq_true rfl) ⟨(Nat.le_of_ble_eq_true rfl), (Nat.le_of_ble_eq_true rfl)⟩ dX6_init_53 (fun v53 G53 hp53 => ?_)
  obtain ⟨rfl, na, wa, r_na, r_wa, r_nw, r_a, r_f, r_g, r_o⟩ := hp53
  have ne_b49 : b ≠ a49 := zG_nn f_b n49
  have r_nb : b ≠ na := fun z => by rw [← z, zU_ne ne_b49, f_b] at r_na; cases r_na
  have r_wb : b ≠ wa := fun z => by rw [← z, zU_ne ne_b49, f_b] at r_wa; cases r_wa
  have r_na2 : na ≠ a49 := fun z => by rw [z, zU_same] at r_na; cases r_na
  have r_wa2 : wa ≠ a49 := fun z => by rw [z, zU_same] at r_wa; cases r_wa
  have r_na3 : G3_ na = none := by rw [zU_ne r_na2] at r_na; exact r_na
  have r_wa3 : G3_ wa = none := by rw [zU_ne r_wa2] at r_wa; exact r_wa
  have dd_b_na : b ≠ na := zG_nn f_b r_na3
  have dd_b_wa : b ≠ wa := zG_nn f_b r_wa3
  have dd_a5_na : a5 ≠ na := zG_nn f_a5 r_na3
  have dd_a5_wa : a5 ≠ wa := zG_nn f_a5 r_wa3
  have dd_a16_na : a16 ≠ na := zG_nn f_a16 r_na3
  have dd_a16_wa : a16 ≠ wa := zG_nn f_a16 r_wa3
  have dd_a27_na : a27 ≠ na := zG_nn f_a27 r_na3
  have dd_a27_wa : a27 ≠ wa := zG_nn f_a27 r_wa3
  have dd_a38_na : a38 ≠ na := zG_nn f_a38 r_na3
  have dd_a38_wa : a38 ≠ wa := zG_nn f_a38 r_wa3
  refine z_putF (T := TX6) (N := 8) C ((r_o b ne_b49 r_nb r_wb).trans ((zU_ne ne_b49).trans f_b)) rfl 4 (by decide) kw_189 (Or.inl rfl) rfl hnm rfl (tyX6_ok 4 (by decide)) rfl rfl (Nat.le_of_ble_eq_true rfl) dX6_init_56 ?_
  refine z_gen (fun G4_ e_4 => ?_)
  replace f_old : ∀ q e, G q = some e → q ≠ b → G4_ q = some e := fun q e h h2 => (e_4 q).trans ((zU_ne h2).trans (by have h3 := f_old q e h h2; exact (r_o q (zG_nn h3 n49) (zG_nn h3 r_na3) (zG_nn h3 r_wa3)).trans ((zU_ne (zG_nn h3 n49)).trans h3)))
  replace f_a5 := (e_4 a5).trans ((zU_ne (ne_b5).symm).trans ((r_o a5 (zG_nn f_a5 n49) (zG_nn f_a5 r_na3) (zG_nn f_a5 r_wa3)).trans ((zU_ne (zG_nn f_a5 n49)).trans f_a5)))
  replace f_a16 := (e_4 a16).trans ((zU_ne (ne_b16).symm).trans ((r_o a16 (zG_nn f_a16 n49) (zG_nn f_a16 r_na3) (zG_nn f_a16 r_wa3)).trans ((zU_ne (zG_nn f_a16 n49)).trans f_a16)))
  replace f_a27 := (e_4 a27).trans ((zU_ne (ne_b27).symm).trans ((r_o a27 (zG_nn f_a27 n49) (zG_nn f_a27 r_na3) (zG_nn f_a27 r_wa3)).trans ((zU_ne (zG_nn f_a27 n49)).trans f_a27)))
  replace f_a38 := (e_4 a38).trans ((zU_ne (ne_b38).symm).trans ((r_o a38 (zG_nn f_a38 n49) (zG_nn f_a38 r_na3) (zG_nn f_a38 r_wa3)).trans ((zU_ne (zG_nn f_a38 n49)).trans f_a38)))
  have f_a49 := (e_4 a49).trans ((zU_ne ne_b49.symm).trans r_a)
  have ne_bna := r_nb
  have ne_bwa := r_wb
  have f_na := (e_4 na).trans ((zU_ne r_nb.symm).trans r_f)
  have f_wa := (e_4 wa).trans ((zU_ne r_wb.symm).trans r_g)
  replace f_b : G4_ b = some (.inr (0, [.ref a5, .ref a16, .ref a27, .ref a38, .ref a49, .null, .null, .null])) := (e_4 b).trans (zU_same _ _ _)
  first | refine z_rload_n C dX6_init_59 rfl ?_ | refine z_nload_n C dX6_init_59 rfl ?_ | refine z_aload_n C dX6_init_59 rfl ?_
  refine z_new (ci := 4) (fs := [.null, .null, .int 0, .int 0, .int 0, .int 0, .int 0, .long 0]) C kn_X6_init_60 rfl tyX3 tyX3_ok (fun j hj => by match j, hj with | 0, _ => rfl | 1, _ => rfl | 2, _ => rfl | 3, _ => rfl | 4, _ => rfl | 5, _ => rfl | 6, _ => rfl | 7, _ => rfl) (Nat.le_of_ble_eq_true rfl) (Nat.le_of_ble_eq_true rfl) dX6_init_60 (fun a60 n60 => ?_)
  have dd_b_a60 : b ≠ a60 := zG_nn f_b n60
  have dd_a5_a60 : a5 ≠ a60 := zG_nn f_a5 n60
  have dd_a16_a60 : a16 ≠ a60 := zG_nn f_a16 n60
  have dd_a27_a60 : a27 ≠ a60 := zG_nn f_a27 n60
  have dd_a38_a60 : a38 ≠ a60 := zG_nn f_a38 n60
  have dd_a49_a60 : a49 ≠ a60 := zG_nn f_a49 n60
  have dd_na_a60 : na ≠ a60 := zG_nn f_na n60
  have dd_wa_a60 : wa ≠ a60 := zG_nn f_wa n60
  have ne_b60 : b ≠ a60 := zG_nn f_b n60
  refine z_dup C rfl dX6_init_63 ?_
  first | refine z_rload_n C dX6_init_64 rfl ?_ | refine z_nload_n C dX6_init_64 rfl ?_ | refine z_aload_n C dX6_init_64 rfl ?_
  refine z_getf (T := TX6) (N := 8) C (by first | assumption | exact (zU_ne ne_b60).trans f_b | exact zU_same _ _ _) rfl 3 (by decide) kw_188 (Or.inl rfl) rfl dX6_init_65 ?_
  first | refine z_rload_n C dX6_init_68 rfl ?_ | refine z_nload_n C dX6_init_68 rfl ?_ | refine z_aload_n C dX6_init_68 rfl ?_
  refine z_getf (T := TX6) (N := 8) C (by first | assumption | exact (zU_ne ne_b60).trans f_b | exact zU_same _ _ _) rfl 4 (by decide) kw_189 (Or.inl rfl) rfl dX6_init_69 ?_
  refine z_callI C (c_Sea_init l Γ _ a38 a49 (zU_same _ a60 _)) kc_X6_init_72 rfl rfl rfl ky_X3_init ⟨(Nat.le_of_ble_eq_true rfl), (Nat.le_of_ble_eq_true rfl)⟩ (Nat.le_of_ble_eq_true rfl) ⟨(Nat.le_of_ble_eq_true rfl), (Nat.le_of_ble_eq_true rfl)⟩ dX6_init_72 (fun v72 G72 hp72 => ?_)
  obtain ⟨rfl, rfl⟩ := hp72
  refine z_putF (T := TX6) (N := 8) C ((zU_ne ne_b60).trans ((zU_ne ne_b60).trans f_b)) rfl 5 (by decide) kw_190 (Or.inl rfl) rfl hnm rfl (tyX6_ok 5 (by decide)) rfl rfl (Nat.le_of_ble_eq_true rfl) dX6_init_75 ?_
  refine z_gen (fun G5_ e_5 => ?_)
  replace f_old : ∀ q e, G q = some e → q ≠ b → G5_ q = some e := fun q e h h2 => (e_5 q).trans ((zU_ne h2).trans (by have h3 := f_old q e h h2; exact (zU_ne (zG_nn h3 n60)).trans ((zU_ne (zG_nn h3 n60)).trans h3)))
  replace f_a5 := (e_5 a5).trans ((zU_ne (ne_b5).symm).trans ((zU_ne (zG_nn f_a5 n60)).trans ((zU_ne (zG_nn f_a5 n60)).trans f_a5)))
  replace f_a16 := (e_5 a16).trans ((zU_ne (ne_b16).symm).trans ((zU_ne (zG_nn f_a16 n60)).trans ((zU_ne (zG_nn f_a16 n60)).trans f_a16)))
  replace f_a27 := (e_5 a27).trans ((zU_ne (ne_b27).symm).trans ((zU_ne (zG_nn f_a27 n60)).trans ((zU_ne (zG_nn f_a27 n60)).trans f_a27)))
  replace f_a38 := (e_5 a38).trans ((zU_ne (ne_b38).symm).trans ((zU_ne (zG_nn f_a38 n60)).trans ((zU_ne (zG_nn f_a38 n60)).trans f_a38)))
  replace f_a49 := (e_5 a49).trans ((zU_ne (ne_b49).symm).trans ((zU_ne (zG_nn f_a49 n60)).trans ((zU_ne (zG_nn f_a49 n60)).trans f_a49)))
  replace f_na := (e_5 na).trans ((zU_ne (ne_bna).symm).trans ((zU_ne (zG_nn f_na n60)).trans ((zU_ne (zG_nn f_na n60)).trans f_na)))
  replace f_wa := (e_5 wa).trans ((zU_ne (ne_bwa).symm).trans ((zU_ne (zG_nn f_wa n60)).trans ((zU_ne (zG_nn f_wa n60)).trans f_wa)))
  have f_a60 := (e_5 a60).trans ((zU_ne ne_b60.symm).trans (zU_same _ _ _))
  replace f_b : G5_ b = some (.inr (0, [.ref a5, .ref a16, .ref a27, .ref a38, .ref a49, .ref a60, .null, .null])) := (e_5 b).trans (zU_same _ _ _)
  first | refine z_rload_n C dX6_init_78 rfl ?_ | refine z_nload_n C dX6_init_78 rfl ?_ | refine z_aload_n C dX6_init_78 rfl ?_
  refine z_new (ci := 7) (fs := [.int 0, .null, .int 0]) C kn_X6_init_79 rfl tyJx4a65c tyJx4a65c_ok (fun j hj => by match j, hj with | 0, _ => rfl | 1, _ => rfl | 2, _ => rfl) (Nat.le_of_ble_eq_true rfl) (Nat.le_of_ble_eq_true rfl) dX6_init_79 (fun a79 n79 => ?_)
  have dd_b_a79 : b ≠ a79 := zG_nn f_b n79
  have dd_a5_a79 : a5 ≠ a79 := zG_nn f_a5 n79
  have dd_a16_a79 : a16 ≠ a79 := zG_nn f_a16 n79
  have dd_a27_a79 : a27 ≠ a79 := zG_nn f_a27 n79
  have dd_a38_a79 : a38 ≠ a79 := zG_nn f_a38 n79
  have dd_a49_a79 : a49 ≠ a79 := zG_nn f_a49 n79
  have dd_na_a79 : na ≠ a79 := zG_nn f_na n79
  have dd_wa_a79 : wa ≠ a79 := zG_nn f_wa n79
  have dd_a60_a79 : a60 ≠ a79 := zG_nn f_a60 n79
  refine z_dup C rfl dX6_init_82 ?_
  refine z_callI C (c_AL_init l Γ _ a79 (zU_same _ _ _)) kc_X6_init_83 rfl rfl rfl ky_Jx4a65c_init_da8c8 ⟨(Nat.le_of_ble_eq_true rfl), (Nat.le_of_ble_eq_true rfl)⟩ (Nat.le_of_ble_eq_true rfl) ⟨(Nat.le_of_ble_eq_true rfl), (Nat.le_of_ble_eq_true rfl)⟩ dX6_init_83 (fun v83 G83 hp83 => ?_)
  obtain ⟨rfl, rfl⟩ := hp83
  have ne_b79 : b ≠ a79 := zG_nn f_b n79
  refine z_putF (T := TX6) (N := 8) C ((zU_ne ne_b79).trans ((zU_ne ne_b79).trans f_b)) rfl 6 (by decide) kw_191 (Or.inl rfl) rfl hnm rfl (tyX6_ok 6 (by decide)) rfl rfl (Nat.le_of_ble_eq_true rfl) dX6_init_86 ?_
  refine z_gen (fun G6_ e_6 => ?_)
  replace f_old : ∀ q e, G q = some e → q ≠ b → G6_ q = some e := fun q e h h2 => (e_6 q).trans ((zU_ne h2).trans (by have h3 := f_old q e h h2; exact (zU_ne (zG_nn h3 n79)).trans ((zU_ne (zG_nn h3 n79)).trans h3)))
  replace f_a5 := (e_6 a5).trans ((zU_ne (ne_b5).symm).trans ((zU_ne (zG_nn f_a5 n79)).trans ((zU_ne (zG_nn f_a5 n79)).trans f_a5)))
  replace f_a16 := (e_6 a16).trans ((zU_ne (ne_b16).symm).trans ((zU_ne (zG_nn f_a16 n79)).trans ((zU_ne (zG_nn f_a16 n79)).trans f_a16)))
  replace f_a27 := (e_6 a27).trans ((zU_ne (ne_b27).symm).trans ((zU_ne (zG_nn f_a27 n79)).trans ((zU_ne (zG_nn f_a27 n79)).trans f_a27)))
  replace f_a38 := (e_6 a38).trans ((zU_ne (ne_b38).symm).trans ((zU_ne (zG_nn f_a38 n79)).trans ((zU_ne (zG_nn f_a38 n79)).trans f_a38)))
  replace f_a49 := (e_6 a49).trans ((zU_ne (ne_b49).symm).trans ((zU_ne (zG_nn f_a49 n79)).trans ((zU_ne (zG_nn f_a49 n79)).trans f_a49)))
  replace f_na := (e_6 na).trans ((zU_ne (ne_bna).symm).trans ((zU_ne (zG_nn f_na n79)).trans ((zU_ne (zG_nn f_na n79)).trans f_na)))
  replace f_wa := (e_6 wa).trans ((zU_ne (ne_bwa).symm).trans ((zU_ne (zG_nn f_wa n79)).trans ((zU_ne (zG_nn f_wa n79)).trans f_wa)))
  replace f_a60 := (e_6 a60).trans ((zU_ne (ne_b60).symm).trans ((zU_ne (zG_nn f_a60 n79)).trans ((zU_ne (zG_nn f_a60 n79)).trans f_a60)))
  have f_a79 := (e_6 a79).trans ((zU_ne ne_b79.symm).trans (zU_same _ _ _))
  replace f_b : G6_ b = some (.inr (0, [.ref a5, .ref a16, .ref a27, .ref a38, .ref a49, .ref a60, .ref a79, .null])) := (e_6 b).trans (zU_same _ _ _)
  first | refine z_rload_n C dX6_init_89 rfl ?_ | refine z_nload_n C dX6_init_89 rfl ?_ | refine z_aload_n C dX6_init_89 rfl ?_
  refine z_new (ci := 7) (fs := [.int 0, .null, .int 0]) C kn_X6_init_90 rfl tyJx4a65c tyJx4a65c_ok (fun j hj => by match j, hj with | 0, _ => rfl | 1, _ => rfl | 2, _ => rfl) (Nat.le_of_ble_eq_true rfl) (Nat.le_of_ble_eq_true rfl) dX6_init_90 (fun a90 n90 => ?_)
  have dd_b_a90 : b ≠ a90 := zG_nn f_b n90
  have dd_a5_a90 : a5 ≠ a90 := zG_nn f_a5 n90
  have dd_a16_a90 : a16 ≠ a90 := zG_nn f_a16 n90
  have dd_a27_a90 : a27 ≠ a90 := zG_nn f_a27 n90
  have dd_a38_a90 : a38 ≠ a90 := zG_nn f_a38 n90
  have dd_a49_a90 : a49 ≠ a90 := zG_nn f_a49 n90
  have dd_na_a90 : na ≠ a90 := zG_nn f_na n90
  have dd_wa_a90 : wa ≠ a90 := zG_nn f_wa n90
  have dd_a60_a90 : a60 ≠ a90 := zG_nn f_a60 n90
  have dd_a79_a90 : a79 ≠ a90 := zG_nn f_a79 n90
  refine z_dup C rfl dX6_init_93 ?_
  refine z_callI C (c_AL_init l Γ _ a90 (zU_same _ _ _)) kc_X6_init_94 rfl rfl rfl ky_Jx4a65c_init_da8c8 ⟨(Nat.le_of_ble_eq_true rfl), (Nat.le_of_ble_eq_true rfl)⟩ (Nat.le_of_ble_eq_true rfl) ⟨(Nat.le_of_ble_eq_true rfl), (Nat.le_of_ble_eq_true rfl)⟩ dX6_init_94 (fun v94 G94 hp94 => ?_)
  obtain ⟨rfl, rfl⟩ := hp94
  have ne_b90 : b ≠ a90 := zG_nn f_b n90
  refine z_putF (T := TX6) (N := 8) C ((zU_ne ne_b90).trans ((zU_ne ne_b90).trans f_b)) rfl 7 (by decide) kw_192 (Or.inl rfl) rfl hnm rfl (tyX6_ok 7 (by decide)) rfl rfl (Nat.le_of_ble_eq_true rfl) dX6_init_97 ?_
  refine z_gen (fun G7_ e_7 => ?_)
  replace f_old : ∀ q e, G q = some e → q ≠ b → G7_ q = some e := fun q e h h2 => (e_7 q).trans ((zU_ne h2).trans (by have h3 := f_old q e h h2; exact (zU_ne (zG_nn h3 n90)).trans ((zU_ne (zG_nn h3 n90)).trans h3)))
  replace f_a5 := (e_7 a5).trans ((zU_ne (ne_b5).symm).trans ((zU_ne (zG_nn f_a5 n90)).trans ((zU_ne (zG_nn f_a5 n90)).trans f_a5)))
  replace f_a16 := (e_7 a16).trans ((zU_ne (ne_b16).symm).trans ((zU_ne (zG_nn f_a16 n90)).trans ((zU_ne (zG_nn f_a16 n90)).trans f_a16)))
  replace f_a27 := (e_7 a27).trans ((zU_ne (ne_b27).symm).trans ((zU_ne (zG_nn f_a27 n90)).trans ((zU_ne (zG_nn f_a27 n90)).trans f_a27)))
  replace f_a38 := (e_7 a38).trans ((zU_ne (ne_b38).symm).trans ((zU_ne (zG_nn f_a38 n90)).trans ((zU_ne (zG_nn f_a38 n90)).trans f_a38)))
  replace f_a49 := (e_7 a49).trans ((zU_ne (ne_b49).symm).trans ((zU_ne (zG_nn f_a49 n90)).trans ((zU_ne (zG_nn f_a49 n90)).trans f_a49)))
  replace f_na := (e_7 na).trans ((zU_ne (ne_bna).symm).trans ((zU_ne (zG_nn f_na n90)).trans ((zU_ne (zG_nn f_na n90)).trans f_na)))
  replace f_wa := (e_7 wa).trans ((zU_ne (ne_bwa).symm).trans ((zU_ne (zG_nn f_wa n90)).trans ((zU_ne (zG_nn f_wa n90)).trans f_wa)))
  replace f_a60 := (e_7 a60).trans ((zU_ne (ne_b60).symm).trans ((zU_ne (zG_nn f_a60 n90)).trans ((zU_ne (zG_nn f_a60 n90)).trans f_a60)))
  replace f_a79 := (e_7 a79).trans ((zU_ne (ne_b79).symm).trans ((zU_ne (zG_nn f_a79 n90)).trans ((zU_ne (zG_nn f_a79 n90)).trans f_a79)))
  have f_a90 := (e_7 a90).trans ((zU_ne ne_b90.symm).trans (zU_same _ _ _))
  replace f_b : G7_ b = some (.inr (0, [.ref a5, .ref a16, .ref a27, .ref a38, .ref a49, .ref a60, .ref a79, .ref a90])) := (e_7 b).trans (zU_same _ _ _)
  refine z_et C (fun he => ?_)
  refine z_vret C F hr (Nat.le_of_ble_eq_true rfl) (Nat.le_of_ble_eq_true rfl) ?_ dX6_init_100
  refine ⟨rfl, fun i => if i = 0 then b else if i = 1 then a5 else if i = 2 then a16 else if i = 3 then a27 else if i = 4 then a38 else if i = 5 then a49 else if i = 6 then a60 else if i = 7 then a79 else if i = 8 then a90 else if i = 9 then na else wa, (fun q => if q = a5 then 1 else if q = a16 then 2 else if q = a27 then 3 else if q = a79 then 7 else if q = a90 then 8 else 0, fun _ => Γ.2.2 0, fun _ => [], fun _ _ => 0, fun _ _ => 0, fun _ => none), rfl, ⟨⟨⟨f_b, (if_neg dd_b_a5).trans ((if_neg dd_b_a16).trans ((if_neg dd_b_a27).trans ((if_neg dd_b_a79).trans (if_neg dd_b_a90))))⟩, ⟨f_a38, (if_neg dd_a5_a38.symm).trans ((if_neg dd_a16_a38.symm).trans ((if_neg dd_a27_a38.symm).trans ((if_neg dd_a38_a79).trans (if_neg dd_a38_a90))))⟩, ⟨⟨[], 0, r_nw, Nat.zero_le _, f_a49, _, _, f_na, f_wa, fun i hi => absurd hi (Nat.not_lt_zero i)⟩, (if_neg dd_a5_a49.symm).trans ((if_neg dd_a16_a49.symm).trans ((if_neg dd_a27_a49.symm).trans ((if_neg dd_a49_a79).trans (if_neg dd_a49_a90)))), (if_neg dd_a5_na.symm).trans ((if_neg dd_a16_na.symm).trans ((if_neg dd_a27_na.symm).trans ((if_neg dd_na_a79).trans (if_neg dd_na_a90)))), (if_neg dd_a5_wa.symm).trans ((if_neg dd_a16_wa.symm).trans ((if_neg dd_a27_wa.symm).trans ((if_neg dd_wa_a79).trans (if_neg dd_wa_a90))))⟩, ⟨⟨_, _, _, _, _, _, f_a60⟩, (if_neg dd_a5_a60.symm).trans ((if_neg dd_a16_a60.symm).trans ((if_neg dd_a27_a60.symm).trans ((if_neg dd_a60_a79).trans (if_neg dd_a60_a90))))⟩⟩, ?_, fun q hq => (by cases hq), fun i y hy => (by cases hy), fun i y hy => (by cases hy), fun i y hy => (by cases hy)⟩, fun _ => rfl, f_old⟩
  intro t ht
  have ls : ∀ {x : Nat}, G7_ x = some (oAL 0 (Γ.2.2 0) 0) → zLs Γ G7_ x (Γ.2.2 0) [] := fun h => ⟨0, 0, h, Nat.le_refl _, Nat.zero_le _, Or.inl ⟨rfl, rfl⟩⟩
  rcases ht with rfl | rfl | rfl | rfl | rfl
  · exact ⟨ls f_a5, if_pos rfl, Or.inl ⟨rfl, he⟩⟩
  · exact ⟨ls f_a16, (if_neg dd_a5_a16.symm).trans (if_pos rfl), Or.inl ⟨rfl, he⟩⟩
  · exact ⟨ls f_a27, (if_neg dd_a5_a27.symm).trans ((if_neg dd_a16_a27.symm).trans (if_pos rfl)), Or.inl ⟨rfl, he⟩⟩
  · exact ⟨ls f_a79, (if_neg dd_a5_a79.symm).trans ((if_neg dd_a16_a79.symm).trans ((if_neg dd_a27_a79.symm).trans (if_pos rfl))), Or.inl ⟨rfl, he⟩⟩
  · exact ⟨ls f_a90, (if_neg dd_a5_a90.symm).trans ((if_neg dd_a16_a90.symm).trans ((if_neg dd_a27_a90.symm).trans ((if_neg dd_a79_a90.symm).trans (if_pos rfl)))), Or.inl ⟨rfl, he⟩⟩
end
section
theorem dX7_isIn_0 : decode cX7_isIn 0 = .ok (.iload_n 0, 1) := by decide +kernel
theorem dX7_isIn_1 : decode cX7_isIn 1 = .ok (.iload_n 1, 1) := by decide +kernel
theorem dX7_isIn_2 : decode cX7_isIn 2 = .ok (.if_icmp .lt 12, 3) := by decide +kernel
theorem dX7_isIn_5 : decode cX7_isIn 5 = .ok (.iload_n 0, 1) := by decide +kernel
theorem dX7_isIn_6 : decode cX7_isIn 6 = .ok (.iload_n 2, 1) := by decide +kernel
theorem dX7_isIn_7 : decode cX7_isIn 7 = .ok (.if_icmp .gt 7, 3) := by decide +kernel
theorem dX7_isIn_10 : decode cX7_isIn 10 = .ok (.iconst 1, 1) := by decide +kernel
theorem dX7_isIn_11 : decode cX7_isIn 11 = .ok (.goto 4, 3) := by decide +kernel
theorem dX7_isIn_14 : decode cX7_isIn 14 = .ok (.iconst 0, 1) := by decide +kernel
theorem dX7_isIn_15 : decode cX7_isIn 15 = .ok (.ireturn, 1) := by decide +kernel
theorem dX7_no_0 : decode cX7_no 0 = .ok (.aload_n 0, 1) := by decide +kernel
theorem dX7_no_1 : decode cX7_no 1 = .ok (.iload_n 1, 1) := by decide +kernel
theorem dX7_no_2 : decode cX7_no 2 = .ok (.putfield 54, 3) := by decide +kernel
theorem dX7_no_5 : decode cX7_no 5 = .ok (.iconst 0, 1) := by decide +kernel
theorem dX7_no_6 : decode cX7_no 6 = .ok (.ireturn, 1) := by decide +kernel
theorem kw_1169 : Cond.fieldLink "QuakeBenchModel" 54 "QuakeBenchModel" "thrown" "I" ∈ lw_all := zin1 1169 (by decide +kernel)
theorem dX7_thrown_0 : decode cX7_thrown 0 = .ok (.aload_n 0, 1) := by decide +kernel
theorem dX7_thrown_1 : decode cX7_thrown 1 = .ok (.getfield 54, 3) := by decide +kernel
theorem dX7_thrown_4 : decode cX7_thrown 4 = .ok (.ireturn, 1) := by decide +kernel
theorem dX7_isStation_0 : decode cX7_isStation 0 = .ok (.iload_n 1, 1) := by decide +kernel
theorem dX7_isStation_1 : decode cX7_isStation 1 = .ok (.iconst 0, 1) := by decide +kernel
theorem dX7_isStation_2 : decode cX7_isStation 2 = .ok (.aload_n 0, 1) := by decide +kernel
theorem dX7_isStation_3 : decode cX7_isStation 3 = .ok (.getfield 57, 3) := by decide +kernel
theorem dX7_isStation_6 : decode cX7_isStation 6 = .ok (.iconst 1, 1) := by decide +kernel
theorem dX7_isStation_7 : decode cX7_isStation 7 = .ok (.isub, 1) := by decide +kernel
theorem dX7_isStation_8 : decode cX7_isStation 8 = .ok (.invokestatic 60, 3) := by decide +kernel
theorem dX7_isStation_11 : decode cX7_isStation 11 = .ok (.ireturn, 1) := by decide +kernel
theorem kw_1172 : Cond.fieldLink "QuakeBenchModel" 57 "QuakeBenchModel" "stations" "I" ∈ lw_all := zin1 1172 (by decide +kernel)
theorem ky_X7_isIn : yX7_isIn.cls ≠ "java/lang/invoke/MethodHandle" ∧ yX7_isIn.cls ≠ "java/lang/invoke/VarHandle" ∧ (parseMethodDescriptor yX7_isIn.desc).map (fun d => d.parameters.length) = some 3 := by decide +kernel
theorem kc_X7_isStation_8 : ∀ w ∈ ([Cond.methodLink "QuakeBenchModel" 60 yX7_isIn, Cond.static yX7_isIn, Cond.initialized "QuakeBenchModel", Cond.code yX7_isIn prog_9_method_4_code 3 (Option.some Jvm.ClassFile.FieldType.boolean)] : List Cond), w ∈ lw_all := zin [1236, 1237, 61, 1238] (by decide +kernel)
theorem dX7_isPick_0 : decode cX7_isPick 0 = .ok (.iload_n 1, 1) := by decide +kernel
theorem dX7_isPick_1 : decode cX7_isPick 1 = .ok (.iconst 0, 1) := by decide +kernel
theorem dX7_isPick_2 : decode cX7_isPick 2 = .ok (.aload_n 0, 1) := by decide +kernel
theorem dX7_isPick_3 : decode cX7_isPick 3 = .ok (.getfield 64, 3) := by decide +kernel
theorem dX7_isPick_6 : decode cX7_isPick 6 = .ok (.iconst 1, 1) := by decide +kernel
theorem dX7_isPick_7 : decode cX7_isPick 7 = .ok (.isub, 1) := by decide +kernel
theorem dX7_isPick_8 : decode cX7_isPick 8 = .ok (.invokestatic 60, 3) := by decide +kernel
theorem dX7_isPick_11 : decode cX7_isPick 11 = .ok (.ireturn, 1) := by decide +kernel
theorem kw_1176 : Cond.fieldLink "QuakeBenchModel" 64 "QuakeBenchModel" "picks" "I" ∈ lw_all := zin1 1176 (by decide +kernel)
theorem kc_X7_isPick_8 : ∀ w ∈ ([Cond.methodLink "QuakeBenchModel" 60 yX7_isIn, Cond.static yX7_isIn, Cond.initialized "QuakeBenchModel", Cond.code yX7_isIn prog_9_method_4_code 3 (Option.some Jvm.ClassFile.FieldType.boolean)] : List Cond), w ∈ lw_all := zin [1236, 1237, 61, 1238] (by decide +kernel)
theorem dX7_isEvent_0 : decode cX7_isEvent 0 = .ok (.iload_n 1, 1) := by decide +kernel
theorem dX7_isEvent_1 : decode cX7_isEvent 1 = .ok (.iconst 0, 1) := by decide +kernel
theorem dX7_isEvent_2 : decode cX7_isEvent 2 = .ok (.aload_n 0, 1) := by decide +kernel
theorem dX7_isEvent_3 : decode cX7_isEvent 3 = .ok (.getfield 67, 3) := by decide +kernel
theorem dX7_isEvent_6 : decode cX7_isEvent 6 = .ok (.iconst 1, 1) := by decide +kernel
theorem dX7_isEvent_7 : decode cX7_isEvent 7 = .ok (.isub, 1) := by decide +kernel
theorem dX7_isEvent_8 : decode cX7_isEvent 8 = .ok (.invokestatic 60, 3) := by decide +kernel
theorem dX7_isEvent_11 : decode cX7_isEvent 11 = .ok (.ireturn, 1) := by decide +kernel
theorem kw_1183 : Cond.fieldLink "QuakeBenchModel" 67 "QuakeBenchModel" "events" "I" ∈ lw_all := zin1 1183 (by decide +kernel)
theorem kc_X7_isEvent_8 : ∀ w ∈ ([Cond.methodLink "QuakeBenchModel" 60 yX7_isIn, Cond.static yX7_isIn, Cond.initialized "QuakeBenchModel", Cond.code yX7_isIn prog_9_method_4_code 3 (Option.some Jvm.ClassFile.FieldType.boolean)] : List Cond), w ∈ lw_all := zin [1236, 1237, 61, 1238] (by decide +kernel)
theorem dX7_setDelay_0 : decode cX7_setDelay 0 = .ok (.aload_n 0, 1) := by decide +kernel
theorem dX7_setDelay_1 : decode cX7_setDelay 1 = .ok (.iconst 0, 1) := by decide +kernel
theorem dX7_setDelay_2 : decode cX7_setDelay 2 = .ok (.putfield 54, 3) := by decide +kernel
theorem dX7_setDelay_5 : decode cX7_setDelay 5 = .ok (.aload_n 0, 1) := by decide +kernel
theorem dX7_setDelay_6 : decode cX7_setDelay 6 = .ok (.iload_n 1, 1) := by decide +kernel
theorem dX7_setDelay_7 : decode cX7_setDelay 7 = .ok (.invokevirtual 74, 3) := by decide +kernel
theorem dX7_setDelay_10 : decode cX7_setDelay 10 = .ok (.ifCond .ne 9, 3) := by decide +kernel
theorem dX7_setDelay_13 : decode cX7_setDelay 13 = .ok (.aload_n 0, 1) := by decide +kernel
theorem dX7_setDelay_14 : decode cX7_setDelay 14 = .ok (.iconst 1, 1) := by decide +kernel
theorem dX7_setDelay_15 : decode cX7_setDelay 15 = .ok (.invokevirtual 70, 3) := by decide +kernel
theorem dX7_setDelay_18 : decode cX7_setDelay 18 = .ok (.ireturn, 1) := by decide +kernel
theorem dX7_setDelay_19 : decode cX7_setDelay 19 = .ok (.iload_n 2, 1) := by decide +kernel
theorem dX7_setDelay_20 : decode cX7_setDelay 20 = .ok (.sipush (-2000), 3) := by decide +kernel
theorem dX7_setDelay_23 : decode cX7_setDelay 23 = .ok (.sipush 2000, 3) := by decide +kernel
theorem dX7_setDelay_26 : decode cX7_setDelay 26 = .ok (.invokestatic 60, 3) := by decide +kernel
theorem dX7_setDelay_29 : decode cX7_setDelay 29 = .ok (.ifCond .ne 9, 3) := by decide +kernel
theorem dX7_setDelay_32 : decode cX7_setDelay 32 = .ok (.aload_n 0, 1) := by decide +kernel
theorem dX7_setDelay_33 : decode cX7_setDelay 33 = .ok (.iconst 2, 1) := by decide +kernel
theorem dX7_setDelay_34 : decode cX7_setDelay 34 = .ok (.invokevirtual 70, 3) := by decide +kernel
theorem dX7_setDelay_37 : decode cX7_setDelay 37 = .ok (.ireturn, 1) := by decide +kernel
theorem dX7_setDelay_38 : decode cX7_setDelay 38 = .ok (.aload_n 0, 1) := by decide +kernel
theorem dX7_setDelay_39 : decode cX7_setDelay 39 = .ok (.getfield 23, 3) := by decide +kernel
theorem dX7_setDelay_42 : decode cX7_setDelay 42 = .ok (.iload_n 1, 1) := by decide +kernel
theorem dX7_setDelay_43 : decode cX7_setDelay 43 = .ok (.iaload, 1) := by decide +kernel
theorem dX7_setDelay_44 : decode cX7_setDelay 44 = .ok (.istore_n 3, 1) := by decide +kernel
theorem dX7_setDelay_45 : decode cX7_setDelay 45 = .ok (.aload_n 0, 1) := by decide +kernel
theorem dX7_setDelay_46 : decode cX7_setDelay 46 = .ok (.getfield 23, 3) := by decide +kernel
theorem dX7_setDelay_49 : decode cX7_setDelay 49 = .ok (.iload_n 1, 1) := by decide +kernel
theorem dX7_setDelay_50 : decode cX7_setDelay 50 = .ok (.iload_n 2, 1) := by decide +kernel
theorem dX7_setDelay_51 : decode cX7_setDelay 51 = .ok (.iastore, 1) := by decide +kernel
theorem dX7_setDelay_52 : decode cX7_setDelay 52 = .ok (.iconst 0, 1) := by decide +kernel
theorem dX7_setDelay_53 : decode cX7_setDelay 53 = .ok (.istore 4, 2) := by decide +kernel
theorem dX7_setDelay_55 : decode cX7_setDelay 55 = .ok (.iload 4, 2) := by decide +kernel
theorem dX7_setDelay_57 : decode cX7_setDelay 57 = .ok (.aload_n 0, 1) := by decide +kernel
theorem dX7_setDelay_58 : decode cX7_setDelay 58 = .ok (.getfield 64, 3) := by decide +kernel
theorem dX7_setDelay_61 : decode cX7_setDelay 61 = .ok (.if_icmp .ge 44, 3) := by decide +kernel
theorem dX7_setDelay_64 : decode cX7_setDelay 64 = .ok (.aload_n 0, 1) := by decide +kernel
theorem dX7_setDelay_65 : decode cX7_setDelay 65 = .ok (.getfield 26, 3) := by decide +kernel
theorem dX7_setDelay_68 : decode cX7_setDelay 68 = .ok (.iload 4, 2) := by decide +kernel
theorem dX7_setDelay_70 : decode cX7_setDelay 70 = .ok (.iaload, 1) := by decide +kernel
theorem dX7_setDelay_71 : decode cX7_setDelay 71 = .ok (.iload_n 1, 1) := by decide +kernel
theorem dX7_setDelay_72 : decode cX7_setDelay 72 = .ok (.if_icmp .ne 27, 3) := by decide +kernel
theorem dX7_setDelay_75 : decode cX7_setDelay 75 = .ok (.aload_n 0, 1) := by decide +kernel
theorem dX7_setDelay_76 : decode cX7_setDelay 76 = .ok (.getfield 39, 3) := by decide +kernel
theorem dX7_setDelay_79 : decode cX7_setDelay 79 = .ok (.iload 4, 2) := by decide +kernel
theorem dX7_setDelay_81 : decode cX7_setDelay 81 = .ok (.iaload, 1) := by decide +kernel
theorem dX7_setDelay_82 : decode cX7_setDelay 82 = .ok (.iconst (-1), 1) := by decide +kernel
theorem dX7_setDelay_83 : decode cX7_setDelay 83 = .ok (.if_icmp .eq 16, 3) := by decide +kernel
theorem dX7_setDelay_86 : decode cX7_setDelay 86 = .ok (.aload_n 0, 1) := by decide +kernel
theorem dX7_setDelay_87 : decode cX7_setDelay 87 = .ok (.getfield 45, 3) := by decide +kernel
theorem dX7_setDelay_90 : decode cX7_setDelay 90 = .ok (.aload_n 0, 1) := by decide +kernel
theorem dX7_setDelay_91 : decode cX7_setDelay 91 = .ok (.getfield 39, 3) := by decide +kernel
theorem dX7_setDelay_94 : decode cX7_setDelay 94 = .ok (.iload 4, 2) := by decide +kernel
theorem dX7_setDelay_96 : decode cX7_setDelay 96 = .ok (.iaload, 1) := by decide +kernel
theorem dX7_setDelay_97 : decode cX7_setDelay 97 = .ok (.iconst 0, 1) := by decide +kernel
theorem dX7_setDelay_98 : decode cX7_setDelay 98 = .ok (.bastore, 1) := by decide +kernel
theorem dX7_setDelay_99 : decode cX7_setDelay 99 = .ok (.iinc 4 1, 3) := by decide +kernel
theorem dX7_setDelay_102 : decode cX7_setDelay 102 = .ok (.goto (-47), 3) := by decide +kernel
theorem dX7_setDelay_105 : decode cX7_setDelay 105 = .ok (.iload_n 3, 1) := by decide +kernel
theorem dX7_setDelay_106 : decode cX7_setDelay 106 = .ok (.ireturn, 1) := by decide +kernel
theorem ky_X7_isStation : yX7_isStation.cls ≠ "java/lang/invoke/MethodHandle" ∧ yX7_isStation.cls ≠ "java/lang/invoke/VarHandle" ∧ (parseMethodDescriptor yX7_isStation.desc).map (fun d => d.parameters.length) = some 1 := by decide +kernel
theorem kc_X7_setDelay_7 : ∀ w ∈ ([Cond.methodLink "QuakeBenchModel" 74 yX7_isStation, Cond.instanceMethod yX7_isStation, Cond.selects "QuakeBenchModel" yX7_isStation yX7_isStation, Cond.initialized "QuakeBenchModel", Cond.code yX7_isStation prog_9_method_5_code 2 (Option.some Jvm.ClassFile.FieldType.boolean)] : List Cond), w ∈ lw_all := zin [1247, 1249, 26, 61, 1250] (by decide +kernel)
theorem ky_X7_no : yX7_no.cls ≠ "java/lang/invoke/MethodHandle" ∧ yX7_no.cls ≠ "java/lang/invoke/VarHandle" ∧ (parseMethodDescriptor yX7_no.desc).map (fun d => d.parameters.length) = some 1 := by decide +kernel
theorem kc_X7_setDelay_15 : ∀ w ∈ ([Cond.methodLink "QuakeBenchModel" 70 yX7_no, Cond.instanceMethod yX7_no, Cond.selects "QuakeBenchModel" yX7_no yX7_no, Cond.initialized "QuakeBenchModel", Cond.code yX7_no prog_9_method_3_code 2 (Option.some Jvm.ClassFile.FieldType.int)] : List Cond), w ∈ lw_all := zin [1239, 1241, 25, 61, 1242] (by decide +kernel)
theorem dX7_way_0 : decode cX7_way 0 = .ok (.aload_n 0, 1) := by decide +kernel
theorem dX7_way_1 : decode cX7_way 1 = .ok (.iconst 0, 1) := by decide +kernel
theorem dX7_way_2 : decode cX7_way 2 = .ok (.putfield 54, 3) := by decide +kernel
theorem dX7_way_5 : decode cX7_way 5 = .ok (.aload_n 0, 1) := by decide +kernel
theorem dX7_way_6 : decode cX7_way 6 = .ok (.iload_n 1, 1) := by decide +kernel
theorem dX7_way_7 : decode cX7_way 7 = .ok (.invokevirtual 74, 3) := by decide +kernel
theorem dX7_way_10 : decode cX7_way 10 = .ok (.ifCond .ne 9, 3) := by decide +kernel
theorem dX7_way_13 : decode cX7_way 13 = .ok (.aload_n 0, 1) := by decide +kernel
theorem dX7_way_14 : decode cX7_way 14 = .ok (.iconst 1, 1) := by decide +kernel
theorem dX7_way_15 : decode cX7_way 15 = .ok (.invokevirtual 70, 3) := by decide +kernel
theorem dX7_way_18 : decode cX7_way 18 = .ok (.ireturn, 1) := by decide +kernel
theorem dX7_way_19 : decode cX7_way 19 = .ok (.iload_n 2, 1) := by decide +kernel
theorem dX7_way_20 : decode cX7_way 20 = .ok (.iload_n 3, 1) := by decide +kernel
theorem dX7_way_21 : decode cX7_way 21 = .ok (.iload 4, 2) := by decide +kernel
theorem dX7_way_23 : decode cX7_way 23 = .ok (.invokestatic 88, 3) := by decide +kernel
theorem dX7_way_26 : decode cX7_way 26 = .ok (.ifCond .eq 15, 3) := by decide +kernel
theorem dX7_way_29 : decode cX7_way 29 = .ok (.aload_n 0, 1) := by decide +kernel
theorem dX7_way_30 : decode cX7_way 30 = .ok (.iload_n 1, 1) := by decide +kernel
theorem dX7_way_31 : decode cX7_way 31 = .ok (.iload_n 2, 1) := by decide +kernel
theorem dX7_way_32 : decode cX7_way 32 = .ok (.iload_n 3, 1) := by decide +kernel
theorem dX7_way_33 : decode cX7_way 33 = .ok (.iload 4, 2) := by decide +kernel
theorem dX7_way_35 : decode cX7_way 35 = .ok (.invokevirtual 84, 3) := by decide +kernel
theorem dX7_way_38 : decode cX7_way 38 = .ok (.goto 8, 3) := by decide +kernel
theorem dX7_way_41 : decode cX7_way 41 = .ok (.aload_n 0, 1) := by decide +kernel
theorem dX7_way_42 : decode cX7_way 42 = .ok (.iconst 2, 1) := by decide +kernel
theorem dX7_way_43 : decode cX7_way 43 = .ok (.invokevirtual 70, 3) := by decide +kernel
theorem dX7_way_46 : decode cX7_way 46 = .ok (.ireturn, 1) := by decide +kernel
theorem kc_X7_way_7 : ∀ w ∈ ([Cond.methodLink "QuakeBenchModel" 74 yX7_isStation, Cond.instanceMethod yX7_isStation, Cond.selects "QuakeBenchModel" yX7_isStation yX7_isStation, Cond.initialized "QuakeBenchModel", Cond.code yX7_isStation prog_9_method_5_code 2 (Option.some Jvm.ClassFile.FieldType.boolean)] : List Cond), w ∈ lw_all := zin [1247, 1249, 26, 61, 1250] (by decide +kernel)
theorem kc_X7_way_15 : ∀ w ∈ ([Cond.methodLink "QuakeBenchModel" 70 yX7_no, Cond.instanceMethod yX7_no, Cond.selects "QuakeBenchModel" yX7_no yX7_no, Cond.initialized "QuakeBenchModel", Cond.code yX7_no prog_9_method_3_code 2 (Option.some Jvm.ClassFile.FieldType.int)] : List Cond), w ∈ lw_all := zin [1239, 1241, 25, 61, 1242] (by decide +kernel)
theorem dX7_needs_0 : decode cX7_needs 0 = .ok (.aload_n 0, 1) := by decide +kernel
theorem dX7_needs_1 : decode cX7_needs 1 = .ok (.iconst 0, 1) := by decide +kernel
theorem dX7_needs_2 : decode cX7_needs 2 = .ok (.putfield 54, 3) := by decide +kernel
theorem dX7_needs_5 : decode cX7_needs 5 = .ok (.aload_n 0, 1) := by decide +kernel
theorem dX7_needs_6 : decode cX7_needs 6 = .ok (.iload_n 1, 1) := by decide +kernel
theorem dX7_needs_7 : decode cX7_needs 7 = .ok (.invokevirtual 74, 3) := by decide +kernel
theorem dX7_needs_10 : decode cX7_needs 10 = .ok (.ifCond .ne 9, 3) := by decide +kernel
theorem dX7_needs_13 : decode cX7_needs 13 = .ok (.aload_n 0, 1) := by decide +kernel
theorem dX7_needs_14 : decode cX7_needs 14 = .ok (.iconst 1, 1) := by decide +kernel
theorem dX7_needs_15 : decode cX7_needs 15 = .ok (.invokevirtual 70, 3) := by decide +kernel
theorem dX7_needs_18 : decode cX7_needs 18 = .ok (.ireturn, 1) := by decide +kernel
theorem dX7_needs_19 : decode cX7_needs 19 = .ok (.iload_n 2, 1) := by decide +kernel
theorem dX7_needs_20 : decode cX7_needs 20 = .ok (.iload_n 3, 1) := by decide +kernel
theorem dX7_needs_21 : decode cX7_needs 21 = .ok (.iload 4, 2) := by decide +kernel
theorem dX7_needs_23 : decode cX7_needs 23 = .ok (.invokestatic 88, 3) := by decide +kernel
theorem dX7_needs_26 : decode cX7_needs 26 = .ok (.ifCond .eq 17, 3) := by decide +kernel
theorem dX7_needs_29 : decode cX7_needs 29 = .ok (.aload_n 0, 1) := by decide +kernel
theorem dX7_needs_30 : decode cX7_needs 30 = .ok (.iload_n 1, 1) := by decide +kernel
theorem dX7_needs_31 : decode cX7_needs 31 = .ok (.iload_n 2, 1) := by decide +kernel
theorem dX7_needs_32 : decode cX7_needs 32 = .ok (.iload_n 3, 1) := by decide +kernel
theorem dX7_needs_33 : decode cX7_needs 33 = .ok (.iload 4, 2) := by decide +kernel
theorem dX7_needs_35 : decode cX7_needs 35 = .ok (.iload 5, 2) := by decide +kernel
theorem dX7_needs_37 : decode cX7_needs 37 = .ok (.invokevirtual 91, 3) := by decide +kernel
theorem dX7_needs_40 : decode cX7_needs 40 = .ok (.goto 8, 3) := by decide +kernel
theorem dX7_needs_43 : decode cX7_needs 43 = .ok (.aload_n 0, 1) := by decide +kernel
theorem dX7_needs_44 : decode cX7_needs 44 = .ok (.iconst 2, 1) := by decide +kernel
theorem dX7_needs_45 : decode cX7_needs 45 = .ok (.invokevirtual 70, 3) := by decide +kernel
theorem dX7_needs_48 : decode cX7_needs 48 = .ok (.ireturn, 1) := by decide +kernel
theorem kc_X7_needs_7 : ∀ w ∈ ([Cond.methodLink "QuakeBenchModel" 74 yX7_isStation, Cond.instanceMethod yX7_isStation, Cond.selects "QuakeBenchModel" yX7_isStation yX7_isStation, Cond.initialized "QuakeBenchModel", Cond.code yX7_isStation prog_9_method_5_code 2 (Option.some Jvm.ClassFile.FieldType.boolean)] : List Cond), w ∈ lw_all := zin [1247, 1249, 26, 61, 1250] (by decide +kernel)
theorem kc_X7_needs_15 : ∀ w ∈ ([Cond.methodLink "QuakeBenchModel" 70 yX7_no, Cond.instanceMethod yX7_no, Cond.selects "QuakeBenchModel" yX7_no yX7_no, Cond.initialized "QuakeBenchModel", Cond.code yX7_no prog_9_method_3_code 2 (Option.some Jvm.ClassFile.FieldType.int)] : List Cond), w ∈ lw_all := zin [1239, 1241, 25, 61, 1242] (by decide +kernel)
theorem dX7_addPick_0 : decode cX7_addPick 0 = .ok (.aload_n 0, 1) := by decide +kernel
theorem dX7_addPick_1 : decode cX7_addPick 1 = .ok (.iconst 0, 1) := by decide +kernel
theorem dX7_addPick_2 : decode cX7_addPick 2 = .ok (.putfield 54, 3) := by decide +kernel
theorem dX7_addPick_5 : decode cX7_addPick 5 = .ok (.aload_n 0, 1) := by decide +kernel
theorem dX7_addPick_6 : decode cX7_addPick 6 = .ok (.iload_n 1, 1) := by decide +kernel
theorem dX7_addPick_7 : decode cX7_addPick 7 = .ok (.invokevirtual 74, 3) := by decide +kernel
theorem dX7_addPick_10 : decode cX7_addPick 10 = .ok (.ifCond .ne 9, 3) := by decide +kernel
theorem dX7_addPick_13 : decode cX7_addPick 13 = .ok (.aload_n 0, 1) := by decide +kernel
theorem dX7_addPick_14 : decode cX7_addPick 14 = .ok (.iconst 1, 1) := by decide +kernel
theorem dX7_addPick_15 : decode cX7_addPick 15 = .ok (.invokevirtual 70, 3) := by decide +kernel
theorem dX7_addPick_18 : decode cX7_addPick 18 = .ok (.ireturn, 1) := by decide +kernel
theorem dX7_addPick_19 : decode cX7_addPick 19 = .ok (.iload_n 3, 1) := by decide +kernel
theorem dX7_addPick_20 : decode cX7_addPick 20 = .ok (.iconst 0, 1) := by decide +kernel
theorem dX7_addPick_21 : decode cX7_addPick 21 = .ok (.ldc 95, 2) := by decide +kernel
theorem dX7_addPick_23 : decode cX7_addPick 23 = .ok (.invokestatic 60, 3) := by decide +kernel
theorem dX7_addPick_26 : decode cX7_addPick 26 = .ok (.ifCond .ne 9, 3) := by decide +kernel
theorem dX7_addPick_29 : decode cX7_addPick 29 = .ok (.aload_n 0, 1) := by decide +kernel
theorem dX7_addPick_30 : decode cX7_addPick 30 = .ok (.iconst 2, 1) := by decide +kernel
theorem dX7_addPick_31 : decode cX7_addPick 31 = .ok (.invokevirtual 70, 3) := by decide +kernel
theorem dX7_addPick_34 : decode cX7_addPick 34 = .ok (.ireturn, 1) := by decide +kernel
theorem dX7_addPick_35 : decode cX7_addPick 35 = .ok (.aload_n 0, 1) := by decide +kernel
theorem dX7_addPick_36 : decode cX7_addPick 36 = .ok (.getfield 64, 3) := by decide +kernel
theorem dX7_addPick_39 : decode cX7_addPick 39 = .ok (.bipush 80, 2) := by decide +kernel
theorem dX7_addPick_41 : decode cX7_addPick 41 = .ok (.if_icmp .ne 9, 3) := by decide +kernel
theorem dX7_addPick_44 : decode cX7_addPick 44 = .ok (.aload_n 0, 1) := by decide +kernel
theorem dX7_addPick_45 : decode cX7_addPick 45 = .ok (.iconst 3, 1) := by decide +kernel
theorem dX7_addPick_46 : decode cX7_addPick 46 = .ok (.invokevirtual 70, 3) := by decide +kernel
theorem dX7_addPick_49 : decode cX7_addPick 49 = .ok (.ireturn, 1) := by decide +kernel
theorem dX7_addPick_50 : decode cX7_addPick 50 = .ok (.aload_n 0, 1) := by decide +kernel
theorem dX7_addPick_51 : decode cX7_addPick 51 = .ok (.getfield 26, 3) := by decide +kernel
theorem dX7_addPick_54 : decode cX7_addPick 54 = .ok (.aload_n 0, 1) := by decide +kernel
theorem dX7_addPick_55 : decode cX7_addPick 55 = .ok (.getfield 64, 3) := by decide +kernel
theorem dX7_addPick_58 : decode cX7_addPick 58 = .ok (.iload_n 1, 1) := by decide +kernel
theorem dX7_addPick_59 : decode cX7_addPick 59 = .ok (.iastore, 1) := by decide +kernel
theorem dX7_addPick_60 : decode cX7_addPick 60 = .ok (.aload_n 0, 1) := by decide +kernel
theorem dX7_addPick_61 : decode cX7_addPick 61 = .ok (.getfield 29, 3) := by decide +kernel
theorem dX7_addPick_64 : decode cX7_addPick 64 = .ok (.aload_n 0, 1) := by decide +kernel
theorem dX7_addPick_65 : decode cX7_addPick 65 = .ok (.getfield 64, 3) := by decide +kernel
theorem dX7_addPick_68 : decode cX7_addPick 68 = .ok (.iload_n 2, 1) := by decide +kernel
theorem dX7_addPick_69 : decode cX7_addPick 69 = .ok (.bastore, 1) := by decide +kernel
theorem dX7_addPick_70 : decode cX7_addPick 70 = .ok (.aload_n 0, 1) := by decide +kernel
theorem dX7_addPick_71 : decode cX7_addPick 71 = .ok (.getfield 33, 3) := by decide +kernel
theorem dX7_addPick_74 : decode cX7_addPick 74 = .ok (.aload_n 0, 1) := by decide +kernel
theorem dX7_addPick_75 : decode cX7_addPick 75 = .ok (.getfield 64, 3) := by decide +kernel
theorem dX7_addPick_78 : decode cX7_addPick 78 = .ok (.iload_n 3, 1) := by decide +kernel
theorem dX7_addPick_79 : decode cX7_addPick 79 = .ok (.iastore, 1) := by decide +kernel
theorem dX7_addPick_80 : decode cX7_addPick 80 = .ok (.aload_n 0, 1) := by decide +kernel
theorem dX7_addPick_81 : decode cX7_addPick 81 = .ok (.getfield 36, 3) := by decide +kernel
theorem dX7_addPick_84 : decode cX7_addPick 84 = .ok (.aload_n 0, 1) := by decide +kernel
theorem dX7_addPick_85 : decode cX7_addPick 85 = .ok (.getfield 64, 3) := by decide +kernel
theorem dX7_addPick_88 : decode cX7_addPick 88 = .ok (.iconst 4, 1) := by decide +kernel
theorem dX7_addPick_89 : decode cX7_addPick 89 = .ok (.iastore, 1) := by decide +kernel
theorem dX7_addPick_90 : decode cX7_addPick 90 = .ok (.aload_n 0, 1) := by decide +kernel
theorem dX7_addPick_91 : decode cX7_addPick 91 = .ok (.getfield 39, 3) := by decide +kernel
theorem dX7_addPick_94 : decode cX7_addPick 94 = .ok (.aload_n 0, 1) := by decide +kernel
theorem dX7_addPick_95 : decode cX7_addPick 95 = .ok (.getfield 64, 3) := by decide +kernel
theorem dX7_addPick_98 : decode cX7_addPick 98 = .ok (.iconst (-1), 1) := by decide +kernel
theorem dX7_addPick_99 : decode cX7_addPick 99 = .ok (.iastore, 1) := by decide +kernel
theorem dX7_addPick_100 : decode cX7_addPick 100 = .ok (.aload_n 0, 1) := by decide +kernel
theorem dX7_addPick_101 : decode cX7_addPick 101 = .ok (.dup, 1) := by decide +kernel
theorem dX7_addPick_102 : decode cX7_addPick 102 = .ok (.getfield 64, 3) := by decide +kernel
theorem dX7_addPick_105 : decode cX7_addPick 105 = .ok (.iconst 1, 1) := by decide +kernel
theorem dX7_addPick_106 : decode cX7_addPick 106 = .ok (.iadd, 1) := by decide +kernel
theorem dX7_addPick_107 : decode cX7_addPick 107 = .ok (.putfield 64, 3) := by decide +kernel
theorem dX7_addPick_110 : decode cX7_addPick 110 = .ok (.aload_n 0, 1) := by decide +kernel
theorem dX7_addPick_111 : decode cX7_addPick 111 = .ok (.getfield 64, 3) := by decide +kernel
theorem dX7_addPick_114 : decode cX7_addPick 114 = .ok (.iconst 1, 1) := by decide +kernel
theorem dX7_addPick_115 : decode cX7_addPick 115 = .ok (.isub, 1) := by decide +kernel
theorem dX7_addPick_116 : decode cX7_addPick 116 = .ok (.ireturn, 1) := by decide +kernel
theorem kc_X7_addPick_7 : ∀ w ∈ ([Cond.methodLink "QuakeBenchModel" 74 yX7_isStation, Cond.instanceMethod yX7_isStation, Cond.selects "QuakeBenchModel" yX7_isStation yX7_isStation, Cond.initialized "QuakeBenchModel", Cond.code yX7_isStation prog_9_method_5_code 2 (Option.some Jvm.ClassFile.FieldType.boolean)] : List Cond), w ∈ lw_all := zin [1247, 1249, 26, 61, 1250] (by decide +kernel)
theorem kc_X7_addPick_15 : ∀ w ∈ ([Cond.methodLink "QuakeBenchModel" 70 yX7_no, Cond.instanceMethod yX7_no, Cond.selects "QuakeBenchModel" yX7_no yX7_no, Cond.initialized "QuakeBenchModel", Cond.code yX7_no prog_9_method_3_code 2 (Option.some Jvm.ClassFile.FieldType.int)] : List Cond), w ∈ lw_all := zin [1239, 1241, 25, 61, 1242] (by decide +kernel)
theorem dX7_setWeight_0 : decode cX7_setWeight 0 = .ok (.aload_n 0, 1) := by decide +kernel
theorem dX7_setWeight_1 : decode cX7_setWeight 1 = .ok (.iconst 0, 1) := by decide +kernel
theorem dX7_setWeight_2 : decode cX7_setWeight 2 = .ok (.putfield 54, 3) := by decide +kernel
theorem dX7_setWeight_5 : decode cX7_setWeight 5 = .ok (.aload_n 0, 1) := by decide +kernel
theorem dX7_setWeight_6 : decode cX7_setWeight 6 = .ok (.iload_n 1, 1) := by decide +kernel
theorem dX7_setWeight_7 : decode cX7_setWeight 7 = .ok (.invokevirtual 96, 3) := by decide +kernel
theorem dX7_setWeight_10 : decode cX7_setWeight 10 = .ok (.ifCond .ne 9, 3) := by decide +kernel
theorem dX7_setWeight_13 : decode cX7_setWeight 13 = .ok (.aload_n 0, 1) := by decide +kernel
theorem dX7_setWeight_14 : decode cX7_setWeight 14 = .ok (.iconst 1, 1) := by decide +kernel
theorem dX7_setWeight_15 : decode cX7_setWeight 15 = .ok (.invokevirtual 70, 3) := by decide +kernel
theorem dX7_setWeight_18 : decode cX7_setWeight 18 = .ok (.ireturn, 1) := by decide +kernel
theorem dX7_setWeight_19 : decode cX7_setWeight 19 = .ok (.iload_n 2, 1) := by decide +kernel
theorem dX7_setWeight_20 : decode cX7_setWeight 20 = .ok (.iconst 1, 1) := by decide +kernel
theorem dX7_setWeight_21 : decode cX7_setWeight 21 = .ok (.iconst 4, 1) := by decide +kernel
theorem dX7_setWeight_22 : decode cX7_setWeight 22 = .ok (.invokestatic 60, 3) := by decide +kernel
theorem dX7_setWeight_25 : decode cX7_setWeight 25 = .ok (.ifCond .ne 9, 3) := by decide +kernel
theorem dX7_setWeight_28 : decode cX7_setWeight 28 = .ok (.aload_n 0, 1) := by decide +kernel
theorem dX7_setWeight_29 : decode cX7_setWeight 29 = .ok (.iconst 2, 1) := by decide +kernel
theorem dX7_setWeight_30 : decode cX7_setWeight 30 = .ok (.invokevirtual 70, 3) := by decide +kernel
theorem dX7_setWeight_33 : decode cX7_setWeight 33 = .ok (.ireturn, 1) := by decide +kernel
theorem dX7_setWeight_34 : decode cX7_setWeight 34 = .ok (.aload_n 0, 1) := by decide +kernel
theorem dX7_setWeight_35 : decode cX7_setWeight 35 = .ok (.getfield 36, 3) := by decide +kernel
theorem dX7_setWeight_38 : decode cX7_setWeight 38 = .ok (.iload_n 1, 1) := by decide +kernel
theorem dX7_setWeight_39 : decode cX7_setWeight 39 = .ok (.iaload, 1) := by decide +kernel
theorem dX7_setWeight_40 : decode cX7_setWeight 40 = .ok (.istore_n 3, 1) := by decide +kernel
theorem dX7_setWeight_41 : decode cX7_setWeight 41 = .ok (.aload_n 0, 1) := by decide +kernel
theorem dX7_setWeight_42 : decode cX7_setWeight 42 = .ok (.getfield 36, 3) := by decide +kernel
theorem dX7_setWeight_45 : decode cX7_setWeight 45 = .ok (.iload_n 1, 1) := by decide +kernel
theorem dX7_setWeight_46 : decode cX7_setWeight 46 = .ok (.iload_n 2, 1) := by decide +kernel
theorem dX7_setWeight_47 : decode cX7_setWeight 47 = .ok (.iastore, 1) := by decide +kernel
theorem dX7_setWeight_48 : decode cX7_setWeight 48 = .ok (.aload_n 0, 1) := by decide +kernel
theorem dX7_setWeight_49 : decode cX7_setWeight 49 = .ok (.aload_n 0, 1) := by decide +kernel
theorem dX7_setWeight_50 : decode cX7_setWeight 50 = .ok (.getfield 39, 3) := by decide +kernel
theorem dX7_setWeight_53 : decode cX7_setWeight 53 = .ok (.iload_n 1, 1) := by decide +kernel
theorem dX7_setWeight_54 : decode cX7_setWeight 54 = .ok (.iaload, 1) := by decide +kernel
theorem dX7_setWeight_55 : decode cX7_setWeight 55 = .ok (.invokevirtual 99, 3) := by decide +kernel
theorem dX7_setWeight_58 : decode cX7_setWeight 58 = .ok (.iload_n 3, 1) := by decide +kernel
theorem dX7_setWeight_59 : decode cX7_setWeight 59 = .ok (.ireturn, 1) := by decide +kernel
theorem ky_X7_isPick : yX7_isPick.cls ≠ "java/lang/invoke/MethodHandle" ∧ yX7_isPick.cls ≠ "java/lang/invoke/VarHandle" ∧ (parseMethodDescriptor yX7_isPick.desc).map (fun d => d.parameters.length) = some 1 := by decide +kernel
theorem kc_X7_setWeight_7 : ∀ w ∈ ([Cond.methodLink "QuakeBenchModel" 96 yX7_isPick, Cond.instanceMethod yX7_isPick, Cond.selects "QuakeBenchModel" yX7_isPick yX7_isPick, Cond.initialized "QuakeBenchModel", Cond.code yX7_isPick prog_9_method_6_code 2 (Option.some Jvm.ClassFile.FieldType.boolean)] : List Cond), w ∈ lw_all := zin [1286, 1288, 29, 61, 1289] (by decide +kernel)
theorem kc_X7_setWeight_15 : ∀ w ∈ ([Cond.methodLink "QuakeBenchModel" 70 yX7_no, Cond.instanceMethod yX7_no, Cond.selects "QuakeBenchModel" yX7_no yX7_no, Cond.initialized "QuakeBenchModel", Cond.code yX7_no prog_9_method_3_code 2 (Option.some Jvm.ClassFile.FieldType.int)] : List Cond), w ∈ lw_all := zin [1239, 1241, 25, 61, 1242] (by decide +kernel)
theorem dX7_residual_0 : decode cX7_residual 0 = .ok (.aload_n 0, 1) := by decide +kernel
theorem dX7_residual_1 : decode cX7_residual 1 = .ok (.iconst 0, 1) := by decide +kernel
theorem dX7_residual_2 : decode cX7_residual 2 = .ok (.putfield 54, 3) := by decide +kernel
theorem dX7_residual_5 : decode cX7_residual 5 = .ok (.aload_n 0, 1) := by decide +kernel
theorem dX7_residual_6 : decode cX7_residual 6 = .ok (.iload_n 1, 1) := by decide +kernel
theorem dX7_residual_7 : decode cX7_residual 7 = .ok (.invokevirtual 96, 3) := by decide +kernel
theorem dX7_residual_10 : decode cX7_residual 10 = .ok (.ifCond .ne 9, 3) := by decide +kernel
theorem dX7_residual_13 : decode cX7_residual 13 = .ok (.aload_n 0, 1) := by decide +kernel
theorem dX7_residual_14 : decode cX7_residual 14 = .ok (.iconst 1, 1) := by decide +kernel
theorem dX7_residual_15 : decode cX7_residual 15 = .ok (.invokevirtual 70, 3) := by decide +kernel
theorem dX7_residual_18 : decode cX7_residual 18 = .ok (.ireturn, 1) := by decide +kernel
theorem dX7_residual_19 : decode cX7_residual 19 = .ok (.aload_n 0, 1) := by decide +kernel
theorem dX7_residual_20 : decode cX7_residual 20 = .ok (.getfield 39, 3) := by decide +kernel
theorem dX7_residual_23 : decode cX7_residual 23 = .ok (.iload_n 1, 1) := by decide +kernel
theorem dX7_residual_24 : decode cX7_residual 24 = .ok (.iaload, 1) := by decide +kernel
theorem dX7_residual_25 : decode cX7_residual 25 = .ok (.iconst (-1), 1) := by decide +kernel
theorem dX7_residual_26 : decode cX7_residual 26 = .ok (.if_icmp .eq 25, 3) := by decide +kernel
theorem dX7_residual_29 : decode cX7_residual 29 = .ok (.aload_n 0, 1) := by decide +kernel
theorem dX7_residual_30 : decode cX7_residual 30 = .ok (.getfield 45, 3) := by decide +kernel
theorem dX7_residual_33 : decode cX7_residual 33 = .ok (.aload_n 0, 1) := by decide +kernel
theorem dX7_residual_34 : decode cX7_residual 34 = .ok (.getfield 39, 3) := by decide +kernel
theorem dX7_residual_37 : decode cX7_residual 37 = .ok (.iload_n 1, 1) := by decide +kernel
theorem dX7_residual_38 : decode cX7_residual 38 = .ok (.iaload, 1) := by decide +kernel
theorem dX7_residual_39 : decode cX7_residual 39 = .ok (.baload, 1) := by decide +kernel
theorem dX7_residual_40 : decode cX7_residual 40 = .ok (.ifCond .eq 11, 3) := by decide +kernel
theorem dX7_residual_43 : decode cX7_residual 43 = .ok (.aload_n 0, 1) := by decide +kernel
theorem dX7_residual_44 : decode cX7_residual 44 = .ok (.iload_n 1, 1) := by decide +kernel
theorem dX7_residual_45 : decode cX7_residual 45 = .ok (.invokevirtual 172, 3) := by decide +kernel
theorem dX7_residual_48 : decode cX7_residual 48 = .ok (.goto 8, 3) := by decide +kernel
theorem dX7_residual_51 : decode cX7_residual 51 = .ok (.aload_n 0, 1) := by decide +kernel
theorem dX7_residual_52 : decode cX7_residual 52 = .ok (.iconst 2, 1) := by decide +kernel
theorem dX7_residual_53 : decode cX7_residual 53 = .ok (.invokevirtual 70, 3) := by decide +kernel
theorem dX7_residual_56 : decode cX7_residual 56 = .ok (.ireturn, 1) := by decide +kernel
theorem kc_X7_residual_7 : ∀ w ∈ ([Cond.methodLink "QuakeBenchModel" 96 yX7_isPick, Cond.instanceMethod yX7_isPick, Cond.selects "QuakeBenchModel" yX7_isPick yX7_isPick, Cond.initialized "QuakeBenchModel", Cond.code yX7_isPick prog_9_method_6_code 2 (Option.some Jvm.ClassFile.FieldType.boolean)] : List Cond), w ∈ lw_all := zin [1286, 1288, 29, 61, 1289] (by decide +kernel)
theorem kc_X7_residual_15 : ∀ w ∈ ([Cond.methodLink "QuakeBenchModel" 70 yX7_no, Cond.instanceMethod yX7_no, Cond.selects "QuakeBenchModel" yX7_no yX7_no, Cond.initialized "QuakeBenchModel", Cond.code yX7_no prog_9_method_3_code 2 (Option.some Jvm.ClassFile.FieldType.int)] : List Cond), w ∈ lw_all := zin [1239, 1241, 25, 61, 1242] (by decide +kernel)
theorem dX7_worst_0 : decode cX7_worst 0 = .ok (.aload_n 0, 1) := by decide +kernel
theorem dX7_worst_1 : decode cX7_worst 1 = .ok (.iconst 0, 1) := by decide +kernel
theorem dX7_worst_2 : decode cX7_worst 2 = .ok (.putfield 54, 3) := by decide +kernel
theorem dX7_worst_5 : decode cX7_worst 5 = .ok (.aload_n 0, 1) := by decide +kernel
theorem dX7_worst_6 : decode cX7_worst 6 = .ok (.iload_n 1, 1) := by decide +kernel
theorem dX7_worst_7 : decode cX7_worst 7 = .ok (.invokevirtual 107, 3) := by decide +kernel
theorem dX7_worst_10 : decode cX7_worst 10 = .ok (.ifCond .ne 9, 3) := by decide +kernel
theorem dX7_worst_13 : decode cX7_worst 13 = .ok (.aload_n 0, 1) := by decide +kernel
theorem dX7_worst_14 : decode cX7_worst 14 = .ok (.iconst 1, 1) := by decide +kernel
theorem dX7_worst_15 : decode cX7_worst 15 = .ok (.invokevirtual 70, 3) := by decide +kernel
theorem dX7_worst_18 : decode cX7_worst 18 = .ok (.ireturn, 1) := by decide +kernel
theorem dX7_worst_19 : decode cX7_worst 19 = .ok (.aload_n 0, 1) := by decide +kernel
theorem dX7_worst_20 : decode cX7_worst 20 = .ok (.getfield 45, 3) := by decide +kernel
theorem dX7_worst_23 : decode cX7_worst 23 = .ok (.iload_n 1, 1) := by decide +kernel
theorem dX7_worst_24 : decode cX7_worst 24 = .ok (.baload, 1) := by decide +kernel
theorem dX7_worst_25 : decode cX7_worst 25 = .ok (.ifCond .ne 9, 3) := by decide +kernel
theorem dX7_worst_28 : decode cX7_worst 28 = .ok (.aload_n 0, 1) := by decide +kernel
theorem dX7_worst_29 : decode cX7_worst 29 = .ok (.iconst 2, 1) := by decide +kernel
theorem dX7_worst_30 : decode cX7_worst 30 = .ok (.invokevirtual 70, 3) := by decide +kernel
theorem dX7_worst_33 : decode cX7_worst 33 = .ok (.ireturn, 1) := by decide +kernel
theorem dX7_worst_34 : decode cX7_worst 34 = .ok (.iconst (-1), 1) := by decide +kernel
theorem dX7_worst_35 : decode cX7_worst 35 = .ok (.istore_n 2, 1) := by decide +kernel
theorem dX7_worst_36 : decode cX7_worst 36 = .ok (.iconst 0, 1) := by decide +kernel
theorem dX7_worst_37 : decode cX7_worst 37 = .ok (.istore_n 3, 1) := by decide +kernel
theorem dX7_worst_38 : decode cX7_worst 38 = .ok (.iload_n 3, 1) := by decide +kernel
theorem dX7_worst_39 : decode cX7_worst 39 = .ok (.aload_n 0, 1) := by decide +kernel
theorem dX7_worst_40 : decode cX7_worst 40 = .ok (.getfield 64, 3) := by decide +kernel
theorem dX7_worst_43 : decode cX7_worst 43 = .ok (.if_icmp .ge 45, 3) := by decide +kernel
theorem dX7_worst_46 : decode cX7_worst 46 = .ok (.aload_n 0, 1) := by decide +kernel
theorem dX7_worst_47 : decode cX7_worst 47 = .ok (.getfield 39, 3) := by decide +kernel
theorem dX7_worst_50 : decode cX7_worst 50 = .ok (.iload_n 3, 1) := by decide +kernel
theorem dX7_worst_51 : decode cX7_worst 51 = .ok (.iaload, 1) := by decide +kernel
theorem dX7_worst_52 : decode cX7_worst 52 = .ok (.iload_n 1, 1) := by decide +kernel
theorem dX7_worst_53 : decode cX7_worst 53 = .ok (.if_icmp .ne 29, 3) := by decide +kernel
theorem dX7_worst_56 : decode cX7_worst 56 = .ok (.iload_n 2, 1) := by decide +kernel
theorem dX7_worst_57 : decode cX7_worst 57 = .ok (.iconst (-1), 1) := by decide +kernel
theorem dX7_worst_58 : decode cX7_worst 58 = .ok (.if_icmp .eq 22, 3) := by decide +kernel
theorem dX7_worst_61 : decode cX7_worst 61 = .ok (.aload_n 0, 1) := by decide +kernel
theorem dX7_worst_62 : decode cX7_worst 62 = .ok (.iload_n 3, 1) := by decide +kernel
theorem dX7_worst_63 : decode cX7_worst 63 = .ok (.invokevirtual 172, 3) := by decide +kernel
theorem dX7_worst_66 : decode cX7_worst 66 = .ok (.invokestatic 117, 3) := by decide +kernel
theorem dX7_worst_69 : decode cX7_worst 69 = .ok (.aload_n 0, 1) := by decide +kernel
theorem dX7_worst_70 : decode cX7_worst 70 = .ok (.iload_n 2, 1) := by decide +kernel
theorem dX7_worst_71 : decode cX7_worst 71 = .ok (.invokevirtual 172, 3) := by decide +kernel
theorem dX7_worst_74 : decode cX7_worst 74 = .ok (.invokestatic 117, 3) := by decide +kernel
theorem dX7_worst_77 : decode cX7_worst 77 = .ok (.if_icmp .le 5, 3) := by decide +kernel
theorem dX7_worst_80 : decode cX7_worst 80 = .ok (.iload_n 3, 1) := by decide +kernel
theorem dX7_worst_81 : decode cX7_worst 81 = .ok (.istore_n 2, 1) := by decide +kernel
theorem dX7_worst_82 : decode cX7_worst 82 = .ok (.iinc 3 1, 3) := by decide +kernel
theorem dX7_worst_85 : decode cX7_worst 85 = .ok (.goto (-47), 3) := by decide +kernel
theorem dX7_worst_88 : decode cX7_worst 88 = .ok (.iload_n 2, 1) := by decide +kernel
theorem dX7_worst_89 : decode cX7_worst 89 = .ok (.ireturn, 1) := by decide +kernel
theorem ky_X7_isEvent : yX7_isEvent.cls ≠ "java/lang/invoke/MethodHandle" ∧ yX7_isEvent.cls ≠ "java/lang/invoke/VarHandle" ∧ (parseMethodDescriptor yX7_isEvent.desc).map (fun d => d.parameters.length) = some 1 := by decide +kernel
theorem kc_X7_worst_7 : ∀ w ∈ ([Cond.methodLink "QuakeBenchModel" 107 yX7_isEvent, Cond.instanceMethod yX7_isEvent, Cond.selects "QuakeBenchModel" yX7_isEvent yX7_isEvent, Cond.initialized "QuakeBenchModel", Cond.code yX7_isEvent prog_9_method_7_code 2 (Option.some Jvm.ClassFile.FieldType.boolean)] : List Cond), w ∈ lw_all := zin [1310, 1312, 32, 61, 1313] (by decide +kernel)
theorem kc_X7_worst_15 : ∀ w ∈ ([Cond.methodLink "QuakeBenchModel" 70 yX7_no, Cond.instanceMethod yX7_no, Cond.selects "QuakeBenchModel" yX7_no yX7_no, Cond.initialized "QuakeBenchModel", Cond.code yX7_no prog_9_method_3_code 2 (Option.some Jvm.ClassFile.FieldType.int)] : List Cond), w ∈ lw_all := zin [1239, 1241, 25, 61, 1242] (by decide +kernel)
theorem dX7_gap_0 : decode cX7_gap 0 = .ok (.aload_n 0, 1) := by decide +kernel
theorem dX7_gap_1 : decode cX7_gap 1 = .ok (.iconst 0, 1) := by decide +kernel
theorem dX7_gap_2 : decode cX7_gap 2 = .ok (.putfield 54, 3) := by decide +kernel
theorem dX7_gap_5 : decode cX7_gap 5 = .ok (.aload_n 0, 1) := by decide +kernel
theorem dX7_gap_6 : decode cX7_gap 6 = .ok (.iload_n 1, 1) := by decide +kernel
theorem dX7_gap_7 : decode cX7_gap 7 = .ok (.invokevirtual 107, 3) := by decide +kernel
theorem dX7_gap_10 : decode cX7_gap 10 = .ok (.ifCond .ne 9, 3) := by decide +kernel
theorem dX7_gap_13 : decode cX7_gap 13 = .ok (.aload_n 0, 1) := by decide +kernel
theorem dX7_gap_14 : decode cX7_gap 14 = .ok (.iconst 1, 1) := by decide +kernel
theorem dX7_gap_15 : decode cX7_gap 15 = .ok (.invokevirtual 70, 3) := by decide +kernel
theorem dX7_gap_18 : decode cX7_gap 18 = .ok (.ireturn, 1) := by decide +kernel
theorem dX7_gap_19 : decode cX7_gap 19 = .ok (.aload_n 0, 1) := by decide +kernel
theorem dX7_gap_20 : decode cX7_gap 20 = .ok (.getfield 45, 3) := by decide +kernel
theorem dX7_gap_23 : decode cX7_gap 23 = .ok (.iload_n 1, 1) := by decide +kernel
theorem dX7_gap_24 : decode cX7_gap 24 = .ok (.baload, 1) := by decide +kernel
theorem dX7_gap_25 : decode cX7_gap 25 = .ok (.ifCond .eq 11, 3) := by decide +kernel
theorem dX7_gap_28 : decode cX7_gap 28 = .ok (.aload_n 0, 1) := by decide +kernel
theorem dX7_gap_29 : decode cX7_gap 29 = .ok (.iload_n 1, 1) := by decide +kernel
theorem dX7_gap_30 : decode cX7_gap 30 = .ok (.invokevirtual 181, 3) := by decide +kernel
theorem dX7_gap_33 : decode cX7_gap 33 = .ok (.goto 8, 3) := by decide +kernel
theorem dX7_gap_36 : decode cX7_gap 36 = .ok (.aload_n 0, 1) := by decide +kernel
theorem dX7_gap_37 : decode cX7_gap 37 = .ok (.iconst 2, 1) := by decide +kernel
theorem dX7_gap_38 : decode cX7_gap 38 = .ok (.invokevirtual 70, 3) := by decide +kernel
theorem dX7_gap_41 : decode cX7_gap 41 = .ok (.ireturn, 1) := by decide +kernel
theorem kc_X7_gap_7 : ∀ w ∈ ([Cond.methodLink "QuakeBenchModel" 107 yX7_isEvent, Cond.instanceMethod yX7_isEvent, Cond.selects "QuakeBenchModel" yX7_isEvent yX7_isEvent, Cond.initialized "QuakeBenchModel", Cond.code yX7_isEvent prog_9_method_7_code 2 (Option.some Jvm.ClassFile.FieldType.boolean)] : List Cond), w ∈ lw_all := zin [1310, 1312, 32, 61, 1313] (by decide +kernel)
theorem kc_X7_gap_15 : ∀ w ∈ ([Cond.methodLink "QuakeBenchModel" 70 yX7_no, Cond.instanceMethod yX7_no, Cond.selects "QuakeBenchModel" yX7_no yX7_no, Cond.initialized "QuakeBenchModel", Cond.code yX7_no prog_9_method_3_code 2 (Option.some Jvm.ClassFile.FieldType.int)] : List Cond), w ∈ lw_all := zin [1239, 1241, 25, 61, 1242] (by decide +kernel)
theorem dX7_setAmplitude_0 : decode cX7_setAmplitude 0 = .ok (.aload_n 0, 1) := by decide +kernel
theorem dX7_setAmplitude_1 : decode cX7_setAmplitude 1 = .ok (.iconst 0, 1) := by decide +kernel
theorem dX7_setAmplitude_2 : decode cX7_setAmplitude 2 = .ok (.putfield 54, 3) := by decide +kernel
theorem dX7_setAmplitude_5 : decode cX7_setAmplitude 5 = .ok (.aload_n 0, 1) := by decide +kernel
theorem dX7_setAmplitude_6 : decode cX7_setAmplitude 6 = .ok (.iload_n 1, 1) := by decide +kernel
theorem dX7_setAmplitude_7 : decode cX7_setAmplitude 7 = .ok (.invokevirtual 96, 3) := by decide +kernel
theorem dX7_setAmplitude_10 : decode cX7_setAmplitude 10 = .ok (.ifCond .ne 9, 3) := by decide +kernel
theorem dX7_setAmplitude_13 : decode cX7_setAmplitude 13 = .ok (.aload_n 0, 1) := by decide +kernel
theorem dX7_setAmplitude_14 : decode cX7_setAmplitude 14 = .ok (.iconst 1, 1) := by decide +kernel
theorem dX7_setAmplitude_15 : decode cX7_setAmplitude 15 = .ok (.invokevirtual 70, 3) := by decide +kernel
theorem dX7_setAmplitude_18 : decode cX7_setAmplitude 18 = .ok (.ireturn, 1) := by decide +kernel
theorem dX7_setAmplitude_19 : decode cX7_setAmplitude 19 = .ok (.iload_n 2, 1) := by decide +kernel
theorem dX7_setAmplitude_20 : decode cX7_setAmplitude 20 = .ok (.iconst 1, 1) := by decide +kernel
theorem dX7_setAmplitude_21 : decode cX7_setAmplitude 21 = .ok (.ldc 184, 2) := by decide +kernel
theorem dX7_setAmplitude_23 : decode cX7_setAmplitude 23 = .ok (.invokestatic 60, 3) := by decide +kernel
theorem dX7_setAmplitude_26 : decode cX7_setAmplitude 26 = .ok (.ifCond .ne 9, 3) := by decide +kernel
theorem dX7_setAmplitude_29 : decode cX7_setAmplitude 29 = .ok (.aload_n 0, 1) := by decide +kernel
theorem dX7_setAmplitude_30 : decode cX7_setAmplitude 30 = .ok (.iconst 2, 1) := by decide +kernel
theorem dX7_setAmplitude_31 : decode cX7_setAmplitude 31 = .ok (.invokevirtual 70, 3) := by decide +kernel
theorem dX7_setAmplitude_34 : decode cX7_setAmplitude 34 = .ok (.ireturn, 1) := by decide +kernel
theorem dX7_setAmplitude_35 : decode cX7_setAmplitude 35 = .ok (.aload_n 0, 1) := by decide +kernel
theorem dX7_setAmplitude_36 : decode cX7_setAmplitude 36 = .ok (.getfield 42, 3) := by decide +kernel
theorem dX7_setAmplitude_39 : decode cX7_setAmplitude 39 = .ok (.iload_n 1, 1) := by decide +kernel
theorem dX7_setAmplitude_40 : decode cX7_setAmplitude 40 = .ok (.iaload, 1) := by decide +kernel
theorem dX7_setAmplitude_41 : decode cX7_setAmplitude 41 = .ok (.istore_n 3, 1) := by decide +kernel
theorem dX7_setAmplitude_42 : decode cX7_setAmplitude 42 = .ok (.aload_n 0, 1) := by decide +kernel
theorem dX7_setAmplitude_43 : decode cX7_setAmplitude 43 = .ok (.getfield 42, 3) := by decide +kernel
theorem dX7_setAmplitude_46 : decode cX7_setAmplitude 46 = .ok (.iload_n 1, 1) := by decide +kernel
theorem dX7_setAmplitude_47 : decode cX7_setAmplitude 47 = .ok (.iload_n 2, 1) := by decide +kernel
theorem dX7_setAmplitude_48 : decode cX7_setAmplitude 48 = .ok (.iastore, 1) := by decide +kernel
theorem dX7_setAmplitude_49 : decode cX7_setAmplitude 49 = .ok (.iload_n 3, 1) := by decide +kernel
theorem dX7_setAmplitude_50 : decode cX7_setAmplitude 50 = .ok (.ireturn, 1) := by decide +kernel
theorem kc_X7_setAmplitude_7 : ∀ w ∈ ([Cond.methodLink "QuakeBenchModel" 96 yX7_isPick, Cond.instanceMethod yX7_isPick, Cond.selects "QuakeBenchModel" yX7_isPick yX7_isPick, Cond.initialized "QuakeBenchModel", Cond.code yX7_isPick prog_9_method_6_code 2 (Option.some Jvm.ClassFile.FieldType.boolean)] : List Cond), w ∈ lw_all := zin [1286, 1288, 29, 61, 1289] (by decide +kernel)
theorem kc_X7_setAmplitude_15 : ∀ w ∈ ([Cond.methodLink "QuakeBenchModel" 70 yX7_no, Cond.instanceMethod yX7_no, Cond.selects "QuakeBenchModel" yX7_no yX7_no, Cond.initialized "QuakeBenchModel", Cond.code yX7_no prog_9_method_3_code 2 (Option.some Jvm.ClassFile.FieldType.int)] : List Cond), w ∈ lw_all := zin [1239, 1241, 25, 61, 1242] (by decide +kernel)
theorem dX7_magnitude_0 : decode cX7_magnitude 0 = .ok (.aload_n 0, 1) := by decide +kernel
theorem dX7_magnitude_1 : decode cX7_magnitude 1 = .ok (.iconst 0, 1) := by decide +kernel
theorem dX7_magnitude_2 : decode cX7_magnitude 2 = .ok (.putfield 54, 3) := by decide +kernel
theorem dX7_magnitude_5 : decode cX7_magnitude 5 = .ok (.aload_n 0, 1) := by decide +kernel
theorem dX7_magnitude_6 : decode cX7_magnitude 6 = .ok (.iload_n 1, 1) := by decide +kernel
theorem dX7_magnitude_7 : decode cX7_magnitude 7 = .ok (.invokevirtual 107, 3) := by decide +kernel
theorem dX7_magnitude_10 : decode cX7_magnitude 10 = .ok (.ifCond .ne 9, 3) := by decide +kernel
theorem dX7_magnitude_13 : decode cX7_magnitude 13 = .ok (.aload_n 0, 1) := by decide +kernel
theorem dX7_magnitude_14 : decode cX7_magnitude 14 = .ok (.iconst 1, 1) := by decide +kernel
theorem dX7_magnitude_15 : decode cX7_magnitude 15 = .ok (.invokevirtual 70, 3) := by decide +kernel
theorem dX7_magnitude_18 : decode cX7_magnitude 18 = .ok (.ireturn, 1) := by decide +kernel
theorem dX7_magnitude_19 : decode cX7_magnitude 19 = .ok (.aload_n 0, 1) := by decide +kernel
theorem dX7_magnitude_20 : decode cX7_magnitude 20 = .ok (.getfield 45, 3) := by decide +kernel
theorem dX7_magnitude_23 : decode cX7_magnitude 23 = .ok (.iload_n 1, 1) := by decide +kernel
theorem dX7_magnitude_24 : decode cX7_magnitude 24 = .ok (.baload, 1) := by decide +kernel
theorem dX7_magnitude_25 : decode cX7_magnitude 25 = .ok (.ifCond .eq 11, 3) := by decide +kernel
theorem dX7_magnitude_28 : decode cX7_magnitude 28 = .ok (.aload_n 0, 1) := by decide +kernel
theorem dX7_magnitude_29 : decode cX7_magnitude 29 = .ok (.iload_n 1, 1) := by decide +kernel
theorem dX7_magnitude_30 : decode cX7_magnitude 30 = .ok (.invokevirtual 188, 3) := by decide +kernel
theorem dX7_magnitude_33 : decode cX7_magnitude 33 = .ok (.goto 8, 3) := by decide +kernel
theorem dX7_magnitude_36 : decode cX7_magnitude 36 = .ok (.aload_n 0, 1) := by decide +kernel
theorem dX7_magnitude_37 : decode cX7_magnitude 37 = .ok (.iconst 2, 1) := by decide +kernel
theorem dX7_magnitude_38 : decode cX7_magnitude 38 = .ok (.invokevirtual 70, 3) := by decide +kernel
theorem dX7_magnitude_41 : decode cX7_magnitude 41 = .ok (.ireturn, 1) := by decide +kernel
theorem kc_X7_magnitude_7 : ∀ w ∈ ([Cond.methodLink "QuakeBenchModel" 107 yX7_isEvent, Cond.instanceMethod yX7_isEvent, Cond.selects "QuakeBenchModel" yX7_isEvent yX7_isEvent, Cond.initialized "QuakeBenchModel", Cond.code yX7_isEvent prog_9_method_7_code 2 (Option.some Jvm.ClassFile.FieldType.boolean)] : List Cond), w ∈ lw_all := zin [1310, 1312, 32, 61, 1313] (by decide +kernel)
theorem kc_X7_magnitude_15 : ∀ w ∈ ([Cond.methodLink "QuakeBenchModel" 70 yX7_no, Cond.instanceMethod yX7_no, Cond.selects "QuakeBenchModel" yX7_no yX7_no, Cond.initialized "QuakeBenchModel", Cond.code yX7_no prog_9_method_3_code 2 (Option.some Jvm.ClassFile.FieldType.int)] : List Cond), w ∈ lw_all := zin [1239, 1241, 25, 61, 1242] (by decide +kernel)
theorem dX7_family_0 : decode cX7_family 0 = .ok (.aload_n 0, 1) := by decide +kernel
theorem dX7_family_1 : decode cX7_family 1 = .ok (.iconst 0, 1) := by decide +kernel
theorem dX7_family_2 : decode cX7_family 2 = .ok (.putfield 54, 3) := by decide +kernel
theorem dX7_family_5 : decode cX7_family 5 = .ok (.aload_n 0, 1) := by decide +kernel
theorem dX7_family_6 : decode cX7_family 6 = .ok (.iload_n 1, 1) := by decide +kernel
theorem dX7_family_7 : decode cX7_family 7 = .ok (.invokevirtual 107, 3) := by decide +kernel
theorem dX7_family_10 : decode cX7_family 10 = .ok (.ifCond .ne 9, 3) := by decide +kernel
theorem dX7_family_13 : decode cX7_family 13 = .ok (.aload_n 0, 1) := by decide +kernel
theorem dX7_family_14 : decode cX7_family 14 = .ok (.iconst 1, 1) := by decide +kernel
theorem dX7_family_15 : decode cX7_family 15 = .ok (.invokevirtual 70, 3) := by decide +kernel
theorem dX7_family_18 : decode cX7_family 18 = .ok (.ireturn, 1) := by decide +kernel
theorem dX7_family_19 : decode cX7_family 19 = .ok (.iload_n 2, 1) := by decide +kernel
theorem dX7_family_20 : decode cX7_family 20 = .ok (.iload_n 3, 1) := by decide +kernel
theorem dX7_family_21 : decode cX7_family 21 = .ok (.invokestatic 201, 3) := by decide +kernel
theorem dX7_family_24 : decode cX7_family 24 = .ok (.ifCond .ne 9, 3) := by decide +kernel
theorem dX7_family_27 : decode cX7_family 27 = .ok (.aload_n 0, 1) := by decide +kernel
theorem dX7_family_28 : decode cX7_family 28 = .ok (.iconst 2, 1) := by decide +kernel
theorem dX7_family_29 : decode cX7_family 29 = .ok (.invokevirtual 70, 3) := by decide +kernel
theorem dX7_family_32 : decode cX7_family 32 = .ok (.ireturn, 1) := by decide +kernel
theorem dX7_family_33 : decode cX7_family 33 = .ok (.aload_n 0, 1) := by decide +kernel
theorem dX7_family_34 : decode cX7_family 34 = .ok (.getfield 45, 3) := by decide +kernel
theorem dX7_family_37 : decode cX7_family 37 = .ok (.iload_n 1, 1) := by decide +kernel
theorem dX7_family_38 : decode cX7_family 38 = .ok (.baload, 1) := by decide +kernel
theorem dX7_family_39 : decode cX7_family 39 = .ok (.ifCond .ne 9, 3) := by decide +kernel
theorem dX7_family_42 : decode cX7_family 42 = .ok (.aload_n 0, 1) := by decide +kernel
theorem dX7_family_43 : decode cX7_family 43 = .ok (.iconst 3, 1) := by decide +kernel
theorem dX7_family_44 : decode cX7_family 44 = .ok (.invokevirtual 70, 3) := by decide +kernel
theorem dX7_family_47 : decode cX7_family 47 = .ok (.ireturn, 1) := by decide +kernel
theorem dX7_family_48 : decode cX7_family 48 = .ok (.aload_n 0, 1) := by decide +kernel
theorem dX7_family_49 : decode cX7_family 49 = .ok (.iload_n 2, 1) := by decide +kernel
theorem dX7_family_50 : decode cX7_family 50 = .ok (.iload_n 3, 1) := by decide +kernel
theorem dX7_family_51 : decode cX7_family 51 = .ok (.invokevirtual 204, 3) := by decide +kernel
theorem dX7_family_54 : decode cX7_family 54 = .ok (.astore 4, 2) := by decide +kernel
theorem dX7_family_56 : decode cX7_family 56 = .ok (.iconst 0, 1) := by decide +kernel
theorem dX7_family_57 : decode cX7_family 57 = .ok (.istore 5, 2) := by decide +kernel
theorem dX7_family_59 : decode cX7_family 59 = .ok (.iconst 0, 1) := by decide +kernel
theorem dX7_family_60 : decode cX7_family 60 = .ok (.istore 6, 2) := by decide +kernel
theorem dX7_family_62 : decode cX7_family 62 = .ok (.iload 6, 2) := by decide +kernel
theorem dX7_family_64 : decode cX7_family 64 = .ok (.aload_n 0, 1) := by decide +kernel
theorem dX7_family_65 : decode cX7_family 65 = .ok (.getfield 67, 3) := by decide +kernel
theorem dX7_family_68 : decode cX7_family 68 = .ok (.if_icmp .ge 31, 3) := by decide +kernel
theorem dX7_family_71 : decode cX7_family 71 = .ok (.iload 5, 2) := by decide +kernel
theorem dX7_family_73 : decode cX7_family 73 = .ok (.aload 4, 2) := by decide +kernel
theorem dX7_family_75 : decode cX7_family 75 = .ok (.iload 6, 2) := by decide +kernel
theorem dX7_family_77 : decode cX7_family 77 = .ok (.iaload, 1) := by decide +kernel
theorem dX7_family_78 : decode cX7_family 78 = .ok (.aload 4, 2) := by decide +kernel
theorem dX7_family_80 : decode cX7_family 80 = .ok (.iload_n 1, 1) := by decide +kernel
theorem dX7_family_81 : decode cX7_family 81 = .ok (.iaload, 1) := by decide +kernel
theorem dX7_family_82 : decode cX7_family 82 = .ok (.if_icmp .ne 7, 3) := by decide +kernel
theorem dX7_family_85 : decode cX7_family 85 = .ok (.iconst 1, 1) := by decide +kernel
theorem dX7_family_86 : decode cX7_family 86 = .ok (.goto 4, 3) := by decide +kernel
theorem dX7_family_89 : decode cX7_family 89 = .ok (.iconst 0, 1) := by decide +kernel
theorem dX7_family_90 : decode cX7_family 90 = .ok (.iadd, 1) := by decide +kernel
theorem dX7_family_91 : decode cX7_family 91 = .ok (.istore 5, 2) := by decide +kernel
theorem dX7_family_93 : decode cX7_family 93 = .ok (.iinc 6 1, 3) := by decide +kernel
theorem dX7_family_96 : decode cX7_family 96 = .ok (.goto (-34), 3) := by decide +kernel
theorem dX7_family_99 : decode cX7_family 99 = .ok (.iload 5, 2) := by decide +kernel
theorem dX7_family_101 : decode cX7_family 101 = .ok (.ireturn, 1) := by decide +kernel
theorem kc_X7_family_7 : ∀ w ∈ ([Cond.methodLink "QuakeBenchModel" 107 yX7_isEvent, Cond.instanceMethod yX7_isEvent, Cond.selects "QuakeBenchModel" yX7_isEvent yX7_isEvent, Cond.initialized "QuakeBenchModel", Cond.code yX7_isEvent prog_9_method_7_code 2 (Option.some Jvm.ClassFile.FieldType.boolean)] : List Cond), w ∈ lw_all := zin [1310, 1312, 32, 61, 1313] (by decide +kernel)
theorem kc_X7_family_15 : ∀ w ∈ ([Cond.methodLink "QuakeBenchModel" 70 yX7_no, Cond.instanceMethod yX7_no, Cond.selects "QuakeBenchModel" yX7_no yX7_no, Cond.initialized "QuakeBenchModel", Cond.code yX7_no prog_9_method_3_code 2 (Option.some Jvm.ClassFile.FieldType.int)] : List Cond), w ∈ lw_all := zin [1239, 1241, 25, 61, 1242] (by decide +kernel)
theorem dX7_pick_0 : decode cX7_pick 0 = .ok (.aload_n 0, 1) := by decide +kernel
theorem dX7_pick_1 : decode cX7_pick 1 = .ok (.iconst 0, 1) := by decide +kernel
theorem dX7_pick_2 : decode cX7_pick 2 = .ok (.putfield 54, 3) := by decide +kernel
theorem dX7_pick_5 : decode cX7_pick 5 = .ok (.aload_n 0, 1) := by decide +kernel
theorem dX7_pick_6 : decode cX7_pick 6 = .ok (.iload_n 1, 1) := by decide +kernel
theorem dX7_pick_7 : decode cX7_pick 7 = .ok (.invokevirtual 96, 3) := by decide +kernel
theorem dX7_pick_10 : decode cX7_pick 10 = .ok (.ifCond .eq 21, 3) := by decide +kernel
theorem dX7_pick_13 : decode cX7_pick 13 = .ok (.iload_n 2, 1) := by decide +kernel
theorem dX7_pick_14 : decode cX7_pick 14 = .ok (.iconst 0, 1) := by decide +kernel
theorem dX7_pick_15 : decode cX7_pick 15 = .ok (.iconst 4, 1) := by decide +kernel
theorem dX7_pick_16 : decode cX7_pick 16 = .ok (.invokestatic 60, 3) := by decide +kernel
theorem dX7_pick_19 : decode cX7_pick 19 = .ok (.ifCond .eq 12, 3) := by decide +kernel
theorem dX7_pick_22 : decode cX7_pick 22 = .ok (.aload_n 0, 1) := by decide +kernel
theorem dX7_pick_23 : decode cX7_pick 23 = .ok (.iload_n 1, 1) := by decide +kernel
theorem dX7_pick_24 : decode cX7_pick 24 = .ok (.iload_n 2, 1) := by decide +kernel
theorem dX7_pick_25 : decode cX7_pick 25 = .ok (.invokevirtual 103, 3) := by decide +kernel
theorem dX7_pick_28 : decode cX7_pick 28 = .ok (.goto 8, 3) := by decide +kernel
theorem dX7_pick_31 : decode cX7_pick 31 = .ok (.aload_n 0, 1) := by decide +kernel
theorem dX7_pick_32 : decode cX7_pick 32 = .ok (.iconst 1, 1) := by decide +kernel
theorem dX7_pick_33 : decode cX7_pick 33 = .ok (.invokevirtual 70, 3) := by decide +kernel
theorem dX7_pick_36 : decode cX7_pick 36 = .ok (.ireturn, 1) := by decide +kernel
theorem kc_X7_pick_7 : ∀ w ∈ ([Cond.methodLink "QuakeBenchModel" 96 yX7_isPick, Cond.instanceMethod yX7_isPick, Cond.selects "QuakeBenchModel" yX7_isPick yX7_isPick, Cond.initialized "QuakeBenchModel", Cond.code yX7_isPick prog_9_method_6_code 2 (Option.some Jvm.ClassFile.FieldType.boolean)] : List Cond), w ∈ lw_all := zin [1286, 1288, 29, 61, 1289] (by decide +kernel)
theorem kc_X7_pick_33 : ∀ w ∈ ([Cond.methodLink "QuakeBenchModel" 70 yX7_no, Cond.instanceMethod yX7_no, Cond.selects "QuakeBenchModel" yX7_no yX7_no, Cond.initialized "QuakeBenchModel", Cond.code yX7_no prog_9_method_3_code 2 (Option.some Jvm.ClassFile.FieldType.int)] : List Cond), w ∈ lw_all := zin [1239, 1241, 25, 61, 1242] (by decide +kernel)
theorem dX7_give_0 : decode cX7_give 0 = .ok (.aload_n 0, 1) := by decide +kernel
theorem dX7_give_1 : decode cX7_give 1 = .ok (.iconst 0, 1) := by decide +kernel
theorem dX7_give_2 : decode cX7_give 2 = .ok (.putfield 54, 3) := by decide +kernel
theorem dX7_give_5 : decode cX7_give 5 = .ok (.aload_n 0, 1) := by decide +kernel
theorem dX7_give_6 : decode cX7_give 6 = .ok (.iload_n 1, 1) := by decide +kernel
theorem dX7_give_7 : decode cX7_give 7 = .ok (.invokevirtual 96, 3) := by decide +kernel
theorem dX7_give_10 : decode cX7_give 10 = .ok (.ifCond .eq 16, 3) := by decide +kernel
theorem dX7_give_13 : decode cX7_give 13 = .ok (.iload_n 2, 1) := by decide +kernel
theorem dX7_give_14 : decode cX7_give 14 = .ok (.iconst (-1), 1) := by decide +kernel
theorem dX7_give_15 : decode cX7_give 15 = .ok (.if_icmp .eq 17, 3) := by decide +kernel
theorem dX7_give_18 : decode cX7_give 18 = .ok (.aload_n 0, 1) := by decide +kernel
theorem dX7_give_19 : decode cX7_give 19 = .ok (.iload_n 2, 1) := by decide +kernel
theorem dX7_give_20 : decode cX7_give 20 = .ok (.invokevirtual 107, 3) := by decide +kernel
theorem dX7_give_23 : decode cX7_give 23 = .ok (.ifCond .ne 9, 3) := by decide +kernel
theorem dX7_give_26 : decode cX7_give 26 = .ok (.aload_n 0, 1) := by decide +kernel
theorem dX7_give_27 : decode cX7_give 27 = .ok (.iconst 1, 1) := by decide +kernel
theorem dX7_give_28 : decode cX7_give 28 = .ok (.invokevirtual 70, 3) := by decide +kernel
theorem dX7_give_31 : decode cX7_give 31 = .ok (.ireturn, 1) := by decide +kernel
theorem dX7_give_32 : decode cX7_give 32 = .ok (.iload_n 2, 1) := by decide +kernel
theorem dX7_give_33 : decode cX7_give 33 = .ok (.iconst (-1), 1) := by decide +kernel
theorem dX7_give_34 : decode cX7_give 34 = .ok (.if_icmp .eq 18, 3) := by decide +kernel
theorem dX7_give_37 : decode cX7_give 37 = .ok (.aload_n 0, 1) := by decide +kernel
theorem dX7_give_38 : decode cX7_give 38 = .ok (.iload_n 2, 1) := by decide +kernel
theorem dX7_give_39 : decode cX7_give 39 = .ok (.iload_n 1, 1) := by decide +kernel
theorem dX7_give_40 : decode cX7_give 40 = .ok (.invokevirtual 110, 3) := by decide +kernel
theorem dX7_give_43 : decode cX7_give 43 = .ok (.ifCond .eq 9, 3) := by decide +kernel
theorem dX7_give_46 : decode cX7_give 46 = .ok (.aload_n 0, 1) := by decide +kernel
theorem dX7_give_47 : decode cX7_give 47 = .ok (.iconst 2, 1) := by decide +kernel
theorem dX7_give_48 : decode cX7_give 48 = .ok (.invokevirtual 70, 3) := by decide +kernel
theorem dX7_give_51 : decode cX7_give 51 = .ok (.ireturn, 1) := by decide +kernel
theorem dX7_give_52 : decode cX7_give 52 = .ok (.aload_n 0, 1) := by decide +kernel
theorem dX7_give_53 : decode cX7_give 53 = .ok (.getfield 39, 3) := by decide +kernel
theorem dX7_give_56 : decode cX7_give 56 = .ok (.iload_n 1, 1) := by decide +kernel
theorem dX7_give_57 : decode cX7_give 57 = .ok (.iaload, 1) := by decide +kernel
theorem dX7_give_58 : decode cX7_give 58 = .ok (.istore_n 3, 1) := by decide +kernel
theorem dX7_give_59 : decode cX7_give 59 = .ok (.aload_n 0, 1) := by decide +kernel
theorem dX7_give_60 : decode cX7_give 60 = .ok (.iload_n 3, 1) := by decide +kernel
theorem dX7_give_61 : decode cX7_give 61 = .ok (.invokevirtual 99, 3) := by decide +kernel
theorem dX7_give_64 : decode cX7_give 64 = .ok (.aload_n 0, 1) := by decide +kernel
theorem dX7_give_65 : decode cX7_give 65 = .ok (.iload_n 2, 1) := by decide +kernel
theorem dX7_give_66 : decode cX7_give 66 = .ok (.invokevirtual 99, 3) := by decide +kernel
theorem dX7_give_69 : decode cX7_give 69 = .ok (.aload_n 0, 1) := by decide +kernel
theorem dX7_give_70 : decode cX7_give 70 = .ok (.getfield 39, 3) := by decide +kernel
theorem dX7_give_73 : decode cX7_give 73 = .ok (.iload_n 1, 1) := by decide +kernel
theorem dX7_give_74 : decode cX7_give 74 = .ok (.iload_n 2, 1) := by decide +kernel
theorem dX7_give_75 : decode cX7_give 75 = .ok (.iastore, 1) := by decide +kernel
theorem dX7_give_76 : decode cX7_give 76 = .ok (.iload_n 3, 1) := by decide +kernel
theorem dX7_give_77 : decode cX7_give 77 = .ok (.ireturn, 1) := by decide +kernel
theorem kc_X7_give_7 : ∀ w ∈ ([Cond.methodLink "QuakeBenchModel" 96 yX7_isPick, Cond.instanceMethod yX7_isPick, Cond.selects "QuakeBenchModel" yX7_isPick yX7_isPick, Cond.initialized "QuakeBenchModel", Cond.code yX7_isPick prog_9_method_6_code 2 (Option.some Jvm.ClassFile.FieldType.boolean)] : List Cond), w ∈ lw_all := zin [1286, 1288, 29, 61, 1289] (by decide +kernel)
theorem kc_X7_give_28 : ∀ w ∈ ([Cond.methodLink "QuakeBenchModel" 70 yX7_no, Cond.instanceMethod yX7_no, Cond.selects "QuakeBenchModel" yX7_no yX7_no, Cond.initialized "QuakeBenchModel", Cond.code yX7_no prog_9_method_3_code 2 (Option.some Jvm.ClassFile.FieldType.int)] : List Cond), w ∈ lw_all := zin [1239, 1241, 25, 61, 1242] (by decide +kernel)
theorem dX7_event_0 : decode cX7_event 0 = .ok (.aload_n 0, 1) := by decide +kernel
theorem dX7_event_1 : decode cX7_event 1 = .ok (.iconst 0, 1) := by decide +kernel
theorem dX7_event_2 : decode cX7_event 2 = .ok (.putfield 54, 3) := by decide +kernel
theorem dX7_event_5 : decode cX7_event 5 = .ok (.aload_n 0, 1) := by decide +kernel
theorem dX7_event_6 : decode cX7_event 6 = .ok (.iload_n 1, 1) := by decide +kernel
theorem dX7_event_7 : decode cX7_event 7 = .ok (.invokevirtual 107, 3) := by decide +kernel
theorem dX7_event_10 : decode cX7_event 10 = .ok (.ifCond .eq 12, 3) := by decide +kernel
theorem dX7_event_13 : decode cX7_event 13 = .ok (.iload_n 2, 1) := by decide +kernel
theorem dX7_event_14 : decode cX7_event 14 = .ok (.iconst 0, 1) := by decide +kernel
theorem dX7_event_15 : decode cX7_event 15 = .ok (.iconst 5, 1) := by decide +kernel
theorem dX7_event_16 : decode cX7_event 16 = .ok (.invokestatic 60, 3) := by decide +kernel
theorem dX7_event_19 : decode cX7_event 19 = .ok (.ifCond .ne 9, 3) := by decide +kernel
theorem dX7_event_22 : decode cX7_event 22 = .ok (.aload_n 0, 1) := by decide +kernel
theorem dX7_event_23 : decode cX7_event 23 = .ok (.iconst 1, 1) := by decide +kernel
theorem dX7_event_24 : decode cX7_event 24 = .ok (.invokevirtual 70, 3) := by decide +kernel
theorem dX7_event_27 : decode cX7_event 27 = .ok (.ireturn, 1) := by decide +kernel
theorem dX7_event_28 : decode cX7_event 28 = .ok (.iload_n 2, 1) := by decide +kernel
theorem dX7_event_29 : decode cX7_event 29 = .ok (.iconst 3, 1) := by decide +kernel
theorem dX7_event_30 : decode cX7_event 30 = .ok (.if_icmp .le 22, 3) := by decide +kernel
theorem dX7_event_33 : decode cX7_event 33 = .ok (.iload_n 2, 1) := by decide +kernel
theorem dX7_event_34 : decode cX7_event 34 = .ok (.iconst 4, 1) := by decide +kernel
theorem dX7_event_35 : decode cX7_event 35 = .ok (.if_icmp .ne 11, 3) := by decide +kernel
theorem dX7_event_38 : decode cX7_event 38 = .ok (.aload_n 0, 1) := by decide +kernel
theorem dX7_event_39 : decode cX7_event 39 = .ok (.iload_n 1, 1) := by decide +kernel
theorem dX7_event_40 : decode cX7_event 40 = .ok (.invokevirtual 140, 3) := by decide +kernel
theorem dX7_event_43 : decode cX7_event 43 = .ok (.goto 8, 3) := by decide +kernel
theorem dX7_event_46 : decode cX7_event 46 = .ok (.aload_n 0, 1) := by decide +kernel
theorem dX7_event_47 : decode cX7_event 47 = .ok (.iload_n 1, 1) := by decide +kernel
theorem dX7_event_48 : decode cX7_event 48 = .ok (.invokevirtual 169, 3) := by decide +kernel
theorem dX7_event_51 : decode cX7_event 51 = .ok (.ireturn, 1) := by decide +kernel
theorem dX7_event_52 : decode cX7_event 52 = .ok (.aload_n 0, 1) := by decide +kernel
theorem dX7_event_53 : decode cX7_event 53 = .ok (.getfield 45, 3) := by decide +kernel
theorem dX7_event_56 : decode cX7_event 56 = .ok (.iload_n 1, 1) := by decide +kernel
theorem dX7_event_57 : decode cX7_event 57 = .ok (.baload, 1) := by decide +kernel
theorem dX7_event_58 : decode cX7_event 58 = .ok (.ifCond .eq 16, 3) := by decide +kernel
theorem dX7_event_61 : decode cX7_event 61 = .ok (.aload_n 0, 1) := by decide +kernel
theorem dX7_event_62 : decode cX7_event 62 = .ok (.getfield 48, 3) := by decide +kernel
theorem dX7_event_65 : decode cX7_event 65 = .ok (.iconst 4, 1) := by decide +kernel
theorem dX7_event_66 : decode cX7_event 66 = .ok (.iload_n 1, 1) := by decide +kernel
theorem dX7_event_67 : decode cX7_event 67 = .ok (.imul, 1) := by decide +kernel
theorem dX7_event_68 : decode cX7_event 68 = .ok (.iload_n 2, 1) := by decide +kernel
theorem dX7_event_69 : decode cX7_event 69 = .ok (.iadd, 1) := by decide +kernel
theorem dX7_event_70 : decode cX7_event 70 = .ok (.iaload, 1) := by decide +kernel
theorem dX7_event_71 : decode cX7_event 71 = .ok (.goto 8, 3) := by decide +kernel
theorem dX7_event_74 : decode cX7_event 74 = .ok (.aload_n 0, 1) := by decide +kernel
theorem dX7_event_75 : decode cX7_event 75 = .ok (.iconst 2, 1) := by decide +kernel
theorem dX7_event_76 : decode cX7_event 76 = .ok (.invokevirtual 70, 3) := by decide +kernel
theorem dX7_event_79 : decode cX7_event 79 = .ok (.ireturn, 1) := by decide +kernel
theorem kc_X7_event_7 : ∀ w ∈ ([Cond.methodLink "QuakeBenchModel" 107 yX7_isEvent, Cond.instanceMethod yX7_isEvent, Cond.selects "QuakeBenchModel" yX7_isEvent yX7_isEvent, Cond.initialized "QuakeBenchModel", Cond.code yX7_isEvent prog_9_method_7_code 2 (Option.some Jvm.ClassFile.FieldType.boolean)] : List Cond), w ∈ lw_all := zin [1310, 1312, 32, 61, 1313] (by decide +kernel)
theorem kc_X7_event_24 : ∀ w ∈ ([Cond.methodLink "QuakeBenchModel" 70 yX7_no, Cond.instanceMethod yX7_no, Cond.selects "QuakeBenchModel" yX7_no yX7_no, Cond.initialized "QuakeBenchModel", Cond.code yX7_no prog_9_method_3_code 2 (Option.some Jvm.ClassFile.FieldType.int)] : List Cond), w ∈ lw_all := zin [1239, 1241, 25, 61, 1242] (by decide +kernel)
theorem dX7_seek_0 : decode cX7_seek 0 = .ok (.aload_n 0, 1) := by decide +kernel
theorem dX7_seek_1 : decode cX7_seek 1 = .ok (.aload_n 0, 1) := by decide +kernel
theorem dX7_seek_2 : decode cX7_seek 2 = .ok (.iload_n 1, 1) := by decide +kernel
theorem dX7_seek_3 : decode cX7_seek 3 = .ok (.invokevirtual 107, 3) := by decide +kernel
theorem dX7_seek_6 : decode cX7_seek 6 = .ok (.ifCond .ne 7, 3) := by decide +kernel
theorem dX7_seek_9 : decode cX7_seek 9 = .ok (.iconst 1, 1) := by decide +kernel
theorem dX7_seek_10 : decode cX7_seek 10 = .ok (.goto 17, 3) := by decide +kernel
theorem dX7_seek_13 : decode cX7_seek 13 = .ok (.aload_n 0, 1) := by decide +kernel
theorem dX7_seek_14 : decode cX7_seek 14 = .ok (.iload_n 1, 1) := by decide +kernel
theorem dX7_seek_15 : decode cX7_seek 15 = .ok (.invokevirtual 169, 3) := by decide +kernel
theorem dX7_seek_18 : decode cX7_seek 18 = .ok (.iconst 3, 1) := by decide +kernel
theorem dX7_seek_19 : decode cX7_seek 19 = .ok (.if_icmp .ge 7, 3) := by decide +kernel
theorem dX7_seek_22 : decode cX7_seek 22 = .ok (.iconst 2, 1) := by decide +kernel
theorem dX7_seek_23 : decode cX7_seek 23 = .ok (.goto 4, 3) := by decide +kernel
theorem dX7_seek_26 : decode cX7_seek 26 = .ok (.iconst 0, 1) := by decide +kernel
theorem dX7_seek_27 : decode cX7_seek 27 = .ok (.putfield 54, 3) := by decide +kernel
theorem dX7_seek_30 : decode cX7_seek 30 = .ok (.aload_n 0, 1) := by decide +kernel
theorem dX7_seek_31 : decode cX7_seek 31 = .ok (.getfield 54, 3) := by decide +kernel
theorem dX7_seek_34 : decode cX7_seek 34 = .ok (.ifCond .ne 11, 3) := by decide +kernel
theorem dX7_seek_37 : decode cX7_seek 37 = .ok (.aload_n 0, 1) := by decide +kernel
theorem dX7_seek_38 : decode cX7_seek 38 = .ok (.iload_n 1, 1) := by decide +kernel
theorem dX7_seek_39 : decode cX7_seek 39 = .ok (.invokevirtual 126, 3) := by decide +kernel
theorem dX7_seek_42 : decode cX7_seek 42 = .ok (.goto 4, 3) := by decide +kernel
theorem dX7_seek_45 : decode cX7_seek 45 = .ok (.lconst 0, 1) := by decide +kernel
theorem dX7_seek_46 : decode cX7_seek 46 = .ok (.lreturn, 1) := by decide +kernel
theorem kc_X7_seek_3 : ∀ w ∈ ([Cond.methodLink "QuakeBenchModel" 107 yX7_isEvent, Cond.instanceMethod yX7_isEvent, Cond.selects "QuakeBenchModel" yX7_isEvent yX7_isEvent, Cond.initialized "QuakeBenchModel", Cond.code yX7_isEvent prog_9_method_7_code 2 (Option.some Jvm.ClassFile.FieldType.boolean)] : List Cond), w ∈ lw_all := zin [1310, 1312, 32, 61, 1313] (by decide +kernel)
theorem dX7_misfit_0 : decode cX7_misfit 0 = .ok (.aload_n 0, 1) := by decide +kernel
theorem dX7_misfit_1 : decode cX7_misfit 1 = .ok (.aload_n 0, 1) := by decide +kernel
theorem dX7_misfit_2 : decode cX7_misfit 2 = .ok (.iload_n 1, 1) := by decide +kernel
theorem dX7_misfit_3 : decode cX7_misfit 3 = .ok (.invokevirtual 107, 3) := by decide +kernel
theorem dX7_misfit_6 : decode cX7_misfit 6 = .ok (.ifCond .ne 7, 3) := by decide +kernel
theorem dX7_misfit_9 : decode cX7_misfit 9 = .ok (.iconst 1, 1) := by decide +kernel
theorem dX7_misfit_10 : decode cX7_misfit 10 = .ok (.goto 18, 3) := by decide +kernel
theorem dX7_misfit_13 : decode cX7_misfit 13 = .ok (.iload_n 2, 1) := by decide +kernel
theorem dX7_misfit_14 : decode cX7_misfit 14 = .ok (.iload_n 3, 1) := by decide +kernel
theorem dX7_misfit_15 : decode cX7_misfit 15 = .ok (.iload 4, 2) := by decide +kernel
theorem dX7_misfit_17 : decode cX7_misfit 17 = .ok (.invokestatic 88, 3) := by decide +kernel
theorem dX7_misfit_20 : decode cX7_misfit 20 = .ok (.ifCond .ne 7, 3) := by decide +kernel
theorem dX7_misfit_23 : decode cX7_misfit 23 = .ok (.iconst 2, 1) := by decide +kernel
theorem dX7_misfit_24 : decode cX7_misfit 24 = .ok (.goto 4, 3) := by decide +kernel
theorem dX7_misfit_27 : decode cX7_misfit 27 = .ok (.iconst 0, 1) := by decide +kernel
theorem dX7_misfit_28 : decode cX7_misfit 28 = .ok (.putfield 54, 3) := by decide +kernel
theorem dX7_misfit_31 : decode cX7_misfit 31 = .ok (.aload_n 0, 1) := by decide +kernel
theorem dX7_misfit_32 : decode cX7_misfit 32 = .ok (.getfield 54, 3) := by decide +kernel
theorem dX7_misfit_35 : decode cX7_misfit 35 = .ok (.ifCond .ne 15, 3) := by decide +kernel
theorem dX7_misfit_38 : decode cX7_misfit 38 = .ok (.aload_n 0, 1) := by decide +kernel
theorem dX7_misfit_39 : decode cX7_misfit 39 = .ok (.iload_n 1, 1) := by decide +kernel
theorem dX7_misfit_40 : decode cX7_misfit 40 = .ok (.iload_n 2, 1) := by decide +kernel
theorem dX7_misfit_41 : decode cX7_misfit 41 = .ok (.iload_n 3, 1) := by decide +kernel
theorem dX7_misfit_42 : decode cX7_misfit 42 = .ok (.iload 4, 2) := by decide +kernel
theorem dX7_misfit_44 : decode cX7_misfit 44 = .ok (.invokevirtual 159, 3) := by decide +kernel
theorem dX7_misfit_47 : decode cX7_misfit 47 = .ok (.goto 4, 3) := by decide +kernel
theorem dX7_misfit_50 : decode cX7_misfit 50 = .ok (.lconst 0, 1) := by decide +kernel
theorem dX7_misfit_51 : decode cX7_misfit 51 = .ok (.lreturn, 1) := by decide +kernel
theorem kc_X7_misfit_3 : ∀ w ∈ ([Cond.methodLink "QuakeBenchModel" 107 yX7_isEvent, Cond.instanceMethod yX7_isEvent, Cond.selects "QuakeBenchModel" yX7_isEvent yX7_isEvent, Cond.initialized "QuakeBenchModel", Cond.code yX7_isEvent prog_9_method_7_code 2 (Option.some Jvm.ClassFile.FieldType.boolean)] : List Cond), w ∈ lw_all := zin [1310, 1312, 32, 61, 1313] (by decide +kernel)
theorem dX7_spread_0 : decode cX7_spread 0 = .ok (.aload_n 0, 1) := by decide +kernel
theorem dX7_spread_1 : decode cX7_spread 1 = .ok (.aload_n 0, 1) := by decide +kernel
theorem dX7_spread_2 : decode cX7_spread 2 = .ok (.iload_n 1, 1) := by decide +kernel
theorem dX7_spread_3 : decode cX7_spread 3 = .ok (.invokevirtual 107, 3) := by decide +kernel
theorem dX7_spread_6 : decode cX7_spread 6 = .ok (.ifCond .ne 7, 3) := by decide +kernel
theorem dX7_spread_9 : decode cX7_spread 9 = .ok (.iconst 1, 1) := by decide +kernel
theorem dX7_spread_10 : decode cX7_spread 10 = .ok (.goto 17, 3) := by decide +kernel
theorem dX7_spread_13 : decode cX7_spread 13 = .ok (.aload_n 0, 1) := by decide +kernel
theorem dX7_spread_14 : decode cX7_spread 14 = .ok (.getfield 45, 3) := by decide +kernel
theorem dX7_spread_17 : decode cX7_spread 17 = .ok (.iload_n 1, 1) := by decide +kernel
theorem dX7_spread_18 : decode cX7_spread 18 = .ok (.baload, 1) := by decide +kernel
theorem dX7_spread_19 : decode cX7_spread 19 = .ok (.ifCond .ne 7, 3) := by decide +kernel
theorem dX7_spread_22 : decode cX7_spread 22 = .ok (.iconst 2, 1) := by decide +kernel
theorem dX7_spread_23 : decode cX7_spread 23 = .ok (.goto 4, 3) := by decide +kernel
theorem dX7_spread_26 : decode cX7_spread 26 = .ok (.iconst 0, 1) := by decide +kernel
theorem dX7_spread_27 : decode cX7_spread 27 = .ok (.putfield 54, 3) := by decide +kernel
theorem dX7_spread_30 : decode cX7_spread 30 = .ok (.aload_n 0, 1) := by decide +kernel
theorem dX7_spread_31 : decode cX7_spread 31 = .ok (.getfield 54, 3) := by decide +kernel
theorem dX7_spread_34 : decode cX7_spread 34 = .ok (.ifCond .eq 5, 3) := by decide +kernel
theorem dX7_spread_37 : decode cX7_spread 37 = .ok (.dconst 0, 1) := by decide +kernel
theorem dX7_spread_38 : decode cX7_spread 38 = .ok (.dreturn, 1) := by decide +kernel
theorem dX7_spread_39 : decode cX7_spread 39 = .ok (.lconst 0, 1) := by decide +kernel
theorem dX7_spread_40 : decode cX7_spread 40 = .ok (.lstore_n 2, 1) := by decide +kernel
theorem dX7_spread_41 : decode cX7_spread 41 = .ok (.iconst 0, 1) := by decide +kernel
theorem dX7_spread_42 : decode cX7_spread 42 = .ok (.istore 4, 2) := by decide +kernel
theorem dX7_spread_44 : decode cX7_spread 44 = .ok (.iconst 0, 1) := by decide +kernel
theorem dX7_spread_45 : decode cX7_spread 45 = .ok (.istore 5, 2) := by decide +kernel
theorem dX7_spread_47 : decode cX7_spread 47 = .ok (.iload 5, 2) := by decide +kernel
theorem dX7_spread_49 : decode cX7_spread 49 = .ok (.aload_n 0, 1) := by decide +kernel
theorem dX7_spread_50 : decode cX7_spread 50 = .ok (.getfield 64, 3) := by decide +kernel
theorem dX7_spread_53 : decode cX7_spread 53 = .ok (.if_icmp .ge 57, 3) := by decide +kernel
theorem dX7_spread_56 : decode cX7_spread 56 = .ok (.aload_n 0, 1) := by decide +kernel
theorem dX7_spread_57 : decode cX7_spread 57 = .ok (.getfield 39, 3) := by decide +kernel
theorem dX7_spread_60 : decode cX7_spread 60 = .ok (.iload 5, 2) := by decide +kernel
theorem dX7_spread_62 : decode cX7_spread 62 = .ok (.iaload, 1) := by decide +kernel
theorem dX7_spread_63 : decode cX7_spread 63 = .ok (.iload_n 1, 1) := by decide +kernel
theorem dX7_spread_64 : decode cX7_spread 64 = .ok (.if_icmp .eq 6, 3) := by decide +kernel
theorem dX7_spread_67 : decode cX7_spread 67 = .ok (.goto 37, 3) := by decide +kernel
theorem dX7_spread_70 : decode cX7_spread 70 = .ok (.lload_n 2, 1) := by decide +kernel
theorem dX7_spread_71 : decode cX7_spread 71 = .ok (.aload_n 0, 1) := by decide +kernel
theorem dX7_spread_72 : decode cX7_spread 72 = .ok (.getfield 36, 3) := by decide +kernel
theorem dX7_spread_75 : decode cX7_spread 75 = .ok (.iload 5, 2) := by decide +kernel
theorem dX7_spread_77 : decode cX7_spread 77 = .ok (.iaload, 1) := by decide +kernel
theorem dX7_spread_78 : decode cX7_spread 78 = .ok (.i2l, 1) := by decide +kernel
theorem dX7_spread_79 : decode cX7_spread 79 = .ok (.aload_n 0, 1) := by decide +kernel
theorem dX7_spread_80 : decode cX7_spread 80 = .ok (.iload 5, 2) := by decide +kernel
theorem dX7_spread_82 : decode cX7_spread 82 = .ok (.invokevirtual 172, 3) := by decide +kernel
theorem dX7_spread_85 : decode cX7_spread 85 = .ok (.invokestatic 117, 3) := by decide +kernel
theorem dX7_spread_88 : decode cX7_spread 88 = .ok (.i2l, 1) := by decide +kernel
theorem dX7_spread_89 : decode cX7_spread 89 = .ok (.lmul, 1) := by decide +kernel
theorem dX7_spread_90 : decode cX7_spread 90 = .ok (.ladd, 1) := by decide +kernel
theorem dX7_spread_91 : decode cX7_spread 91 = .ok (.lstore_n 2, 1) := by decide +kernel
theorem dX7_spread_92 : decode cX7_spread 92 = .ok (.iload 4, 2) := by decide +kernel
theorem dX7_spread_94 : decode cX7_spread 94 = .ok (.aload_n 0, 1) := by decide +kernel
theorem dX7_spread_95 : decode cX7_spread 95 = .ok (.getfield 36, 3) := by decide +kernel
theorem dX7_spread_98 : decode cX7_spread 98 = .ok (.iload 5, 2) := by decide +kernel
theorem dX7_spread_100 : decode cX7_spread 100 = .ok (.iaload, 1) := by decide +kernel
theorem dX7_spread_101 : decode cX7_spread 101 = .ok (.iadd, 1) := by decide +kernel
theorem dX7_spread_102 : decode cX7_spread 102 = .ok (.istore 4, 2) := by decide +kernel
theorem dX7_spread_104 : decode cX7_spread 104 = .ok (.iinc 5 1, 3) := by decide +kernel
theorem dX7_spread_107 : decode cX7_spread 107 = .ok (.goto (-60), 3) := by decide +kernel
theorem dX7_spread_110 : decode cX7_spread 110 = .ok (.lload_n 2, 1) := by decide +kernel
theorem dX7_spread_111 : decode cX7_spread 111 = .ok (.l2d, 1) := by decide +kernel
theorem dX7_spread_112 : decode cX7_spread 112 = .ok (.iload 4, 2) := by decide +kernel
theorem dX7_spread_114 : decode cX7_spread 114 = .ok (.i2d, 1) := by decide +kernel
theorem dX7_spread_115 : decode cX7_spread 115 = .ok (.ddiv, 1) := by decide +kernel
theorem dX7_spread_116 : decode cX7_spread 116 = .ok (.dreturn, 1) := by decide +kernel
theorem kc_X7_spread_3 : ∀ w ∈ ([Cond.methodLink "QuakeBenchModel" 107 yX7_isEvent, Cond.instanceMethod yX7_isEvent, Cond.selects "QuakeBenchModel" yX7_isEvent yX7_isEvent, Cond.initialized "QuakeBenchModel", Cond.code yX7_isEvent prog_9_method_7_code 2 (Option.some Jvm.ClassFile.FieldType.boolean)] : List Cond), w ∈ lw_all := zin [1310, 1312, 32, 61, 1313] (by decide +kernel)
/-! the reference: its constructor and its calls on a new object -/
abbrev oMo (th sp ss st : Int32) (xs ys ds : Nat) (pk : Int32) (sO aS ti we eO am : Nat) (ev : Int32) (aF fo sT : Nat) (bg : Int32) : va_E := .inr (8, [.int th, .int sp, .int ss, .int st, .ref xs, .ref ys, .ref ds, .int pk, .ref sO, .ref aS, .ref ti, .ref we, .ref eO, .ref am, .int ev, .ref aF, .ref fo, .ref sT, .int bg])
def s_in (x lo hi : Int32) : Int32 := if x < lo then 0 else if x > hi then 0 else 1
abbrev rm_m_isIn : Room := { frames := 0, cells := 0, slots := 0, locals := 0 }
set_option maxHeartbeats 4000000 in
set_option maxRecDepth 100000 in
theorem m_isIn (l : Launch) (Γ : zY) (G : zG) (x lo hi : Int32) : ZM l yX7_isIn cX7_isIn 3 (some FieldType.boolean) rm_m_isIn Γ [.int x, .int lo, .int hi] G (zRd G (.int (s_in x lo hi))) := by
  refine z_start (by decide +kernel) [some (.int x), some (.int lo), some (.int hi)] rfl (Nat.le_of_ble_eq_true rfl) ?_
  intro p e s m args below meth c Q A C F hr hnm
  refine z_iload_n C dX7_isIn_0 rfl ?_
  refine z_iload_n C dX7_isIn_1 rfl ?_
  refine z_icmp_lt (tgt := 14) C dX7_isIn_2 (by decide) (fun h2 => ?_) (fun h2 => ?_)
  · refine z_iconst (v := 0) C dX7_isIn_14 rfl ?_
    exact z_bret C F hr rfl (Nat.le_of_ble_eq_true rfl) (Nat.le_of_ble_eq_true rfl) ⟨by unfold s_in; rw [if_pos h2], rfl⟩ dX7_isIn_15
  · refine z_iload_n C dX7_isIn_5 rfl ?_
    refine z_iload_n C dX7_isIn_6 rfl ?_
    refine z_icmp_gt (tgt := 14) C dX7_isIn_7 (by decide) (fun h7 => ?_) (fun h7 => ?_)
    · refine z_iconst (v := 0) C dX7_isIn_14 rfl ?_
      exact z_bret C F hr rfl (Nat.le_of_ble_eq_true rfl) (Nat.le_of_ble_eq_true rfl) ⟨by unfold s_in; rw [if_neg h2, if_pos h7], rfl⟩ dX7_isIn_15
    · refine z_iconst (v := 1) C dX7_isIn_10 rfl ?_
      refine z_goto (tgt := 15) C dX7_isIn_11 (by decide) ?_
      exact z_bret C F hr rfl (Nat.le_of_ble_eq_true rfl) (Nat.le_of_ble_eq_true rfl) ⟨by unfold s_in; rw [if_neg h2, if_neg h7], rfl⟩ dX7_isIn_15
abbrev oM0 (th : Int32) (μ : Nat → Nat) : va_E := oMo th 6000 3468 0 (μ 0) (μ 1) (μ 2) 0 (μ 3) (μ 4) (μ 5) (μ 6) (μ 7) (μ 8) 0 (μ 9) (μ 10) (μ 11) 0
theorem s_in_none (x : Int32) : s_in x 0 (0 - 1) = 0 := by
  unfold s_in
  by_cases h : x < 0
  · rw [if_pos h]
  · rw [if_neg h]
    refine if_pos ?_
    rw [gt_iff_lt, Int32.lt_iff_toInt_lt]
    rw [Int32.lt_iff_toInt_lt] at h
    have h1 : ((0 : Int32) - 1).toInt = -1 := by decide
    have h2 : (0 : Int32).toInt = 0 := by decide
    omega
abbrev rm_m_no : Room := { frames := 0, cells := 0, slots := 0, locals := 0 }
set_option maxHeartbeats 4000000 in
set_option maxRecDepth 100000 in
theorem m_no (l : Launch) (Γ : zY) (G : zG) {mo : Nat} {th : Int32} {fs : List Value} (k : Int32) (hm : G mo = some (.inr (8, .int th :: fs))) : ZM l yX7_no cX7_no 2 (some FieldType.int) rm_m_no Γ [.ref mo, .int k] G (fun v G' => some (.int 0) = v ∧ zU G mo (.inr (8, .int k :: fs)) = G') := by
  refine z_start (by decide +kernel) [some (.ref mo), some (.int k)] rfl (Nat.le_of_ble_eq_true rfl) ?_
  intro p e s m args below meth c Q A C F hr hnm
  first | refine z_rload_n C dX7_no_0 rfl ?_ | refine z_nload_n C dX7_no_0 rfl ?_ | refine z_aload_n C dX7_no_0 rfl ?_
  refine z_iload_n C dX7_no_1 rfl ?_
  refine z_putf (T := TX7) (N := 19) C (by first | assumption | exact zU_same _ _ _) rfl 0 (by decide) kw_1169 (Or.inl rfl) rfl (tyX7_ok 0 (by decide)) rfl rfl (Nat.le_of_ble_eq_true rfl) dX7_no_2 ?_
  refine z_iconst (v := 0) C dX7_no_5 rfl ?_
  exact z_iret C F hr (Nat.le_of_ble_eq_true rfl) (Nat.le_of_ble_eq_true rfl) ⟨rfl, rfl⟩ dX7_no_6
abbrev rm_m_thrown : Room := { frames := 0, cells := 0, slots := 0, locals := 0 }
set_option maxHeartbeats 4000000 in
set_option maxRecDepth 100000 in
theorem m_thrown (l : Launch) (Γ : zY) (G : zG) {mo : Nat} {th : Int32} {fs : List Value} (hm : G mo = some (.inr (8, .int th :: fs))) : ZM l yX7_thrown cX7_thrown 1 (some FieldType.int) rm_m_thrown Γ [.ref mo] G (zRd G (.int th)) := by
  refine z_start (by decide +kernel) [some (.ref mo)] rfl (Nat.le_of_ble_eq_true rfl) ?_
  intro p e s m args below meth c Q A C F hr hnm
  first | refine z_rload_n C dX7_thrown_0 rfl ?_ | refine z_nload_n C dX7_thrown_0 rfl ?_ | refine z_aload_n C dX7_thrown_0 rfl ?_
  refine z_getf (T := TX7) (N := 19) C (by first | assumption | exact zU_same _ _ _) rfl 0 (by decide) kw_1169 (Or.inl rfl) rfl dX7_thrown_1 ?_
  exact z_iret C F hr (Nat.le_of_ble_eq_true rfl) (Nat.le_of_ble_eq_true rfl) ⟨rfl, rfl⟩ dX7_thrown_4
abbrev rm_m_isStation : Room := { frames := 1, cells := 0, slots := 0, locals := 22 }
set_option maxHeartbeats 4000000 in
set_option maxRecDepth 100000 in
theorem m_isStation (l : Launch) (Γ : zY) (G : zG) {mo : Nat} {th : Int32} {μ : Nat → Nat} (x : Int32) (hm : G mo = some (oM0 th μ)) : ZM l yX7_isStation cX7_isStation 2 (some FieldType.boolean) rm_m_isStation Γ [.ref mo, .int x] G (zRd G (.int 0)) := by
  refine z_start (by decide +kernel) [some (.ref mo), some (.int x)] rfl (Nat.le_of_ble_eq_true rfl) ?_
  intro p e s m args below meth c Q A C F hr hnm
  refine z_iload_n C dX7_isStation_0 rfl ?_
  refine z_iconst (v := 0) C dX7_isStation_1 rfl ?_
  first | refine z_rload_n C dX7_isStation_2 rfl ?_ | refine z_nload_n C dX7_isStation_2 rfl ?_ | refine z_aload_n C dX7_isStation_2 rfl ?_
  refine z_getf (T := TX7) (N := 19) C (by first | assumption | exact zU_same _ _ _) rfl 3 (by decide) kw_1172 (Or.inl rfl) rfl dX7_isStation_3 ?_
  refine z_iconst (v := 1) C dX7_isStation_6 rfl ?_
  refine z_isub C dX7_isStation_7 ?_
  refine z_callS C (m_isIn l Γ _ x 0 (0 - 1)) kc_X7_isStation_8 rfl rfl ky_X7_isIn ⟨(Nat.le_of_ble_eq_true rfl), (Nat.le_of_ble_eq_true rfl)⟩ (Nat.le_of_ble_eq_true rfl) ⟨(Nat.le_of_ble_eq_true rfl), (Nat.le_of_ble_eq_true rfl)⟩ dX7_isStation_8 (fun v8 G8 hp8 => ?_)
  obtain ⟨rfl, rfl⟩ := hp8
  rw [s_in_none]
  exact z_bret C F hr rfl (Nat.le_of_ble_eq_true rfl) (Nat.le_of_ble_eq_true rfl) ⟨rfl, rfl⟩ dX7_isStation_11
abbrev rm_m_isPick : Room := { frames := 1, cells := 0, slots := 0, locals := 22 }
set_option maxHeartbeats 4000000 in
set_option maxRecDepth 100000 in
theorem m_isPick (l : Launch) (Γ : zY) (G : zG) {mo : Nat} {th : Int32} {μ : Nat → Nat} (x : Int32) (hm : G mo = some (oM0 th μ)) : ZM l yX7_isPick cX7_isPick 2 (some FieldType.boolean) rm_m_isPick Γ [.ref mo, .int x] G (zRd G (.int 0)) := by
  refine z_start (by decide +kernel) [some (.ref mo), some (.int x)] rfl (Nat.le_of_ble_eq_true rfl) ?_
  intro p e s m args below meth c Q A C F hr hnm
  refine z_iload_n C dX7_isPick_0 rfl ?_
  refine z_iconst (v := 0) C dX7_isPick_1 rfl ?_
  first | refine z_rload_n C dX7_isPick_2 rfl ?_ | refine z_nload_n C dX7_isPick_2 rfl ?_ | refine z_aload_n C dX7_isPick_2 rfl ?_
  refine z_getf (T := TX7) (N := 19) C (by first | assumption | exact zU_same _ _ _) rfl 7 (by decide) kw_1176 (Or.inl rfl) rfl dX7_isPick_3 ?_
  refine z_iconst (v := 1) C dX7_isPick_6 rfl ?_
  refine z_isub C dX7_isPick_7 ?_
  refine z_callS C (m_isIn l Γ _ x 0 (0 - 1)) kc_X7_isPick_8 rfl rfl ky_X7_isIn ⟨(Nat.le_of_ble_eq_true rfl), (Nat.le_of_ble_eq_true rfl)⟩ (Nat.le_of_ble_eq_true rfl) ⟨(Nat.le_of_ble_eq_true rfl), (Nat.le_of_ble_eq_true rfl)⟩ dX7_isPick_8 (fun v8 G8 hp8 => ?_)
  obtain ⟨rfl, rfl⟩ := hp8
  rw [s_in_none]
  exact z_bret C F hr rfl (Nat.le_of_ble_eq_true rfl) (Nat.le_of_ble_eq_true rfl) ⟨rfl, rfl⟩ dX7_isPick_11
abbrev rm_m_isEvent : Room := { frames := 1, cells := 0, slots := 0, locals := 22 }
set_option maxHeartbeats 4000000 in
set_option maxRecDepth 100000 in
theorem m_isEvent (l : Launch) (Γ : zY) (G : zG) {mo : Nat} {th : Int32} {μ : Nat → Nat} (x : Int32) (hm : G mo = some (oM0 th μ)) : ZM l yX7_isEvent cX7_isEvent 2 (some FieldType.boolean) rm_m_isEvent Γ [.ref mo, .int x] G (zRd G (.int 0)) := by
  refine z_start (by decide +kernel) [some (.ref mo), some (.int x)] rfl (Nat.le_of_ble_eq_true rfl) ?_
  intro p e s m args below meth c Q A C F hr hnm
  refine z_iload_n C dX7_isEvent_0 rfl ?_
  refine z_iconst (v := 0) C dX7_isEvent_1 rfl ?_
  first | refine z_rload_n C dX7_isEvent_2 rfl ?_ | refine z_nload_n C dX7_isEvent_2 rfl ?_ | refine z_aload_n C dX7_isEvent_2 rfl ?_
  refine z_getf (T := TX7) (N := 19) C (by first | assumption | exact zU_same _ _ _) rfl 14 (by decide) kw_1183 (Or.inl rfl) rfl dX7_isEvent_3 ?_
  refine z_iconst (v := 1) C dX7_isEvent_6 rfl ?_
  refine z_isub C dX7_isEvent_7 ?_
  refine z_callS C (m_isIn l Γ _ x 0 (0 - 1)) kc_X7_isEvent_8 rfl rfl ky_X7_isIn ⟨(Nat.le_of_ble_eq_true rfl), (Nat.le_of_ble_eq_true rfl)⟩ (Nat.le_of_ble_eq_true rfl) ⟨(Nat.le_of_ble_eq_true rfl), (Nat.le_of_ble_eq_true rfl)⟩ dX7_isEvent_8 (fun v8 G8 hp8 => ?_)
  obtain ⟨rfl, rfl⟩ := hp8
  rw [s_in_none]
  exact z_bret C F hr rfl (Nat.le_of_ble_eq_true rfl) (Nat.le_of_ble_eq_true rfl) ⟨rfl, rfl⟩ dX7_isEvent_11
abbrev rm_m_setDelay : Room := { frames := 2, cells := 0, slots := 0, locals := 43 }
set_option maxHeartbeats 4000000 in
set_option maxRecDepth 100000 in
theorem m_setDelay (l : Launch) (Γ : zY) (G : zG) {mo : Nat} {th : Int32} {μ : Nat → Nat} (x0 : Int32) (x1 : Int32) (hm : G mo = some (oM0 th μ)) : ZM l yX7_setDelay cX7_setDelay 5 (some FieldType.int) rm_m_setDelay Γ [.ref mo, .int x0, .int x1] G (fun v G' => some (.int 0) = v ∧ zU G mo (oM0 1 μ) = G') := by
  refine z_start (by decide +kernel) [some (.ref mo), some (.int x0), some (.int x1)] rfl (Nat.le_of_ble_eq_true rfl) ?_
  intro p e s m args below meth c Q A C F hr hnm
  first | refine z_rload_n C dX7_setDelay_0 rfl ?_ | refine z_nload_n C dX7_setDelay_0 rfl ?_ | refine z_aload_n C dX7_setDelay_0 rfl ?_
  refine z_iconst (v := 0) C dX7_setDelay_1 rfl ?_
  refine z_putf (T := TX7) (N := 19) C (by first | assumption | exact zU_same _ _ _) rfl 0 (by decide) kw_1169 (Or.inl rfl) rfl (tyX7_ok 0 (by decide)) rfl rfl (Nat.le_of_ble_eq_true rfl) dX7_setDelay_2 ?_
  first | refine z_rload_n C dX7_setDelay_5 rfl ?_ | refine z_nload_n C dX7_setDelay_5 rfl ?_ | refine z_aload_n C dX7_setDelay_5 rfl ?_
  refine z_iload_n C dX7_setDelay_6 rfl ?_
  refine z_callV (q := (RX7, TX7, 19)) C (m_isStation l Γ _ x0 (zU_same G mo (oM0 0 μ))) kc_X7_setDelay_7 (by first | assumption | exact zU_same _ _ _) rfl rfl rfl rfl ky_X7_isStation ⟨(Nat.le_of_ble_eq_true rfl), (Nat.le_of_ble_eq_true rfl)⟩ (Nat.le_of_ble_eq_true rfl) ⟨(Nat.le_of_ble_eq_true rfl), (Nat.le_of_ble_eq_true rfl)⟩ dX7_setDelay_7 (fun v7 G7 hp7 => ?_)
  obtain ⟨rfl, rfl⟩ := hp7
  refine z_if_ne (tgt := 19) C dX7_setDelay_10 (by decide) (fun h10 => ?_) (fun h10 => ?_)
  · exact absurd rfl h10
  · first | refine z_rload_n C dX7_setDelay_13 rfl ?_ | refine z_nload_n C dX7_setDelay_13 rfl ?_ | refine z_aload_n C dX7_setDelay_13 rfl ?_
    refine z_iconst (v := 1) C dX7_setDelay_14 rfl ?_
    refine z_callV (q := (RX7, TX7, 19)) C (m_no l Γ _ 1 (zU_same G mo (oM0 0 μ))) kc_X7_setDelay_15 (by first | assumption | exact zU_same _ _ _) rfl rfl rfl rfl ky_X7_no ⟨(Nat.le_of_ble_eq_true rfl), (Nat.le_of_ble_eq_true rfl)⟩ (Nat.le_of_ble_eq_true rfl) ⟨(Nat.le_of_ble_eq_true rfl), (Nat.le_of_ble_eq_true rfl)⟩ dX7_setDelay_15 (fun v15 G15 hp15 => ?_)
    obtain ⟨rfl, rfl⟩ := hp15
    exact z_iret C F hr (Nat.le_of_ble_eq_true rfl) (Nat.le_of_ble_eq_true rfl) ⟨rfl, (zU_zU _ _ _ _).symm⟩ dX7_setDelay_18
abbrev rm_m_way : Room := { frames := 2, cells := 0, slots := 0, locals := 43 }
set_option maxHeartbeats 4000000 in
set_option maxRecDepth 100000 in
theorem m_way (l : Launch) (Γ : zY) (G : zG) {mo : Nat} {th : Int32} {μ : Nat → Nat} (x0 : Int32) (x1 : Int32) (x2 : Int32) (x3 : Int32) (hm : G mo = some (oM0 th μ)) : ZM l yX7_way cX7_way 5 (some FieldType.int) rm_m_way Γ [.ref mo, .int x0, .int x1, .int x2, .int x3] G (fun v G' => some (.int 0) = v ∧ zU G mo (oM0 1 μ) = G') := by
  refine z_start (by decide +kernel) [some (.ref mo), some (.int x0), some (.int x1), some (.int x2), some (.int x3)] rfl (Nat.le_of_ble_eq_true rfl) ?_
  intro p e s m args below meth c Q A C F hr hnm
  first | refine z_rload_n C dX7_way_0 rfl ?_ | refine z_nload_n C dX7_way_0 rfl ?_ | refine z_aload_n C dX7_way_0 rfl ?_
  refine z_iconst (v := 0) C dX7_way_1 rfl ?_
  refine z_putf (T := TX7) (N := 19) C (by first | assumption | exact zU_same _ _ _) rfl 0 (by decide) kw_1169 (Or.inl rfl) rfl (tyX7_ok 0 (by decide)) rfl rfl (Nat.le_of_ble_eq_true rfl) dX7_way_2 ?_
  first | refine z_rload_n C dX7_way_5 rfl ?_ | refine z_nload_n C dX7_way_5 rfl ?_ | refine z_aload_n C dX7_way_5 rfl ?_
  refine z_iload_n C dX7_way_6 rfl ?_
  refine z_callV (q := (RX7, TX7, 19)) C (m_isStation l Γ _ x0 (zU_same G mo (oM0 0 μ))) kc_X7_way_7 (by first | assumption | exact zU_same _ _ _) rfl rfl rfl rfl ky_X7_isStation ⟨(Nat.le_of_ble_eq_true rfl), (Nat.le_of_ble_eq_true rfl)⟩ (Nat.le_of_ble_eq_true rfl) ⟨(Nat.le_of_ble_eq_true rfl), (Nat.le_of_ble_eq_true rfl)⟩ dX7_way_7 (fun v7 G7 hp7 => ?_)
  obtain ⟨rfl, rfl⟩ := hp7
  refine z_if_ne (tgt := 19) C dX7_way_10 (by decide) (fun h10 => ?_) (fun h10 => ?_)
  · exact absurd rfl h10
  · first | refine z_rload_n C dX7_way_13 rfl ?_ | refine z_nload_n C dX7_way_13 rfl ?_ | refine z_aload_n C dX7_way_13 rfl ?_
    refine z_iconst (v := 1) C dX7_way_14 rfl ?_
    refine z_callV (q := (RX7, TX7, 19)) C (m_no l Γ _ 1 (zU_same G mo (oM0 0 μ))) kc_X7_way_15 (by first | assumption | exact zU_same _ _ _) rfl rfl rfl rfl ky_X7_no ⟨(Nat.le_of_ble_eq_true rfl), (Nat.le_of_ble_eq_true rfl)⟩ (Nat.le_of_ble_eq_true rfl) ⟨(Nat.le_of_ble_eq_true rfl), (Nat.le_of_ble_eq_true rfl)⟩ dX7_way_15 (fun v15 G15 hp15 => ?_)
    obtain ⟨rfl, rfl⟩ := hp15
    exact z_iret C F hr (Nat.le_of_ble_eq_true rfl) (Nat.le_of_ble_eq_true rfl) ⟨rfl, (zU_zU _ _ _ _).symm⟩ dX7_way_18
abbrev rm_m_needs : Room := { frames := 2, cells := 0, slots := 0, locals := 43 }
set_option maxHeartbeats 4000000 in
set_option maxRecDepth 100000 in
theorem m_needs (l : Launch) (Γ : zY) (G : zG) {mo : Nat} {th : Int32} {μ : Nat → Nat} (x0 : Int32) (x1 : Int32) (x2 : Int32) (x3 : Int32) (x4 : Int32) (hm : G mo = some (oM0 th μ)) : ZM l yX7_needs cX7_needs 6 (some FieldType.int) rm_m_needs Γ [.ref mo, .int x0, .int x1, .int x2, .int x3, .int x4] G (fun v G' => some (.int 0) = v ∧ zU G mo (oM0 1 μ) = G') := by
  refine z_start (by decide +kernel) [some (.ref mo), some (.int x0), some (.int x1), some (.int x2), some (.int x3), some (.int x4)] rfl (Nat.le_of_ble_eq_true rfl) ?_
  intro p e s m args below meth c Q A C F hr hnm
  first | refine z_rload_n C dX7_needs_0 rfl ?_ | refine z_nload_n C dX7_needs_0 rfl ?_ | refine z_aload_n C dX7_needs_0 rfl ?_
  refine z_iconst (v := 0) C dX7_needs_1 rfl ?_
  refine z_putf (T := TX7) (N := 19) C (by first | assumption | exact zU_same _ _ _) rfl 0 (by decide) kw_1169 (Or.inl rfl) rfl (tyX7_ok 0 (by decide)) rfl rfl (Nat.le_of_ble_eq_true rfl) dX7_needs_2 ?_
  first | refine z_rload_n C dX7_needs_5 rfl ?_ | refine z_nload_n C dX7_needs_5 rfl ?_ | refine z_aload_n C dX7_needs_5 rfl ?_
  refine z_iload_n C dX7_needs_6 rfl ?_
  refine z_callV (q := (RX7, TX7, 19)) C (m_isStation l Γ _ x0 (zU_same G mo (oM0 0 μ))) kc_X7_needs_7 (by first | assumption | exact zU_same _ _ _) rfl rfl rfl rfl ky_X7_isStation ⟨(Nat.le_of_ble_eq_true rfl), (Nat.le_of_ble_eq_true rfl)⟩ (Nat.le_of_ble_eq_true rfl) ⟨(Nat.le_of_ble_eq_true rfl), (Nat.le_of_ble_eq_true rfl)⟩ dX7_needs_7 (fun v7 G7 hp7 => ?_)
  obtain ⟨rfl, rfl⟩ := hp7
  refine z_if_ne (tgt := 19) C dX7_needs_10 (by decide) (fun h10 => ?_) (fun h10 => ?_)
  · exact absurd rfl h10
  · first | refine z_rload_n C dX7_needs_13 rfl ?_ | refine z_nload_n C dX7_needs_13 rfl ?_ | refine z_aload_n C dX7_needs_13 rfl ?_
    refine z_iconst (v := 1) C dX7_needs_14 rfl ?_
    refine z_callV (q := (RX7, TX7, 19)) C (m_no l Γ _ 1 (zU_same G mo (oM0 0 μ))) kc_X7_needs_15 (by first | assumption | exact zU_same _ _ _) rfl rfl rfl rfl ky_X7_no ⟨(Nat.le_of_ble_eq_true rfl), (Nat.le_of_ble_eq_true rfl)⟩ (Nat.le_of_ble_eq_true rfl) ⟨(Nat.le_of_ble_eq_true rfl), (Nat.le_of_ble_eq_true rfl)⟩ dX7_needs_15 (fun v15 G15 hp15 => ?_)
    obtain ⟨rfl, rfl⟩ := hp15
    exact z_iret C F hr (Nat.le_of_ble_eq_true rfl) (Nat.le_of_ble_eq_true rfl) ⟨rfl, (zU_zU _ _ _ _).symm⟩ dX7_needs_18
abbrev rm_m_addPick : Room := { frames := 2, cells := 0, slots := 0, locals := 43 }
set_option maxHeartbeats 4000000 in
set_option maxRecDepth 100000 in
theorem m_addPick (l : Launch) (Γ : zY) (G : zG) {mo : Nat} {th : Int32} {μ : Nat → Nat} (x0 : Int32) (x1 : Int32) (x2 : Int32) (hm : G mo = some (oM0 th μ)) : ZM l yX7_addPick cX7_addPick 4 (some FieldType.int) rm_m_addPick Γ [.ref mo, .int x0, .int x1, .int x2] G (fun v G' => some (.int 0) = v ∧ zU G mo (oM0 1 μ) = G') := by
  refine z_start (by decide +kernel) [some (.ref mo), some (.int x0), some (.int x1), some (.int x2)] rfl (Nat.le_of_ble_eq_true rfl) ?_
  intro p e s m args below meth c Q A C F hr hnm
  first | refine z_rload_n C dX7_addPick_0 rfl ?_ | refine z_nload_n C dX7_addPick_0 rfl ?_ | refine z_aload_n C dX7_addPick_0 rfl ?_
  refine z_iconst (v := 0) C dX7_addPick_1 rfl ?_
  refine z_putf (T := TX7) (N := 19) C (by first | assumption | exact zU_same _ _ _) rfl 0 (by decide) kw_1169 (Or.inl rfl) rfl (tyX7_ok 0 (by decide)) rfl rfl (Nat.le_of_ble_eq_true rfl) dX7_addPick_2 ?_
  first | refine z_rload_n C dX7_addPick_5 rfl ?_ | refine z_nload_n C dX7_addPick_5 rfl ?_ | refine z_aload_n C dX7_addPick_5 rfl ?_
  refine z_iload_n C dX7_addPick_6 rfl ?_
  refine z_callV (q := (RX7, TX7, 19)) C (m_isStation l Γ _ x0 (zU_same G mo (oM0 0 μ))) kc_X7_addPick_7 (by first | assumption | exact zU_same _ _ _) rfl rfl rfl rfl ky_X7_isStation ⟨(Nat.le_of_ble_eq_true rfl), (Nat.le_of_ble_eq_true rfl)⟩ (Nat.le_of_ble_eq_true rfl) ⟨(Nat.le_of_ble_eq_true rfl), (Nat.le_of_ble_eq_true rfl)⟩ dX7_addPick_7 (fun v7 G7 hp7 => ?_)
  obtain ⟨rfl, rfl⟩ := hp7
  refine z_if_ne (tgt := 19) C dX7_addPick_10 (by decide) (fun h10 => ?_) (fun h10 => ?_)
  · exact absurd rfl h10
  · first | refine z_rload_n C dX7_addPick_13 rfl ?_ | refine z_nload_n C dX7_addPick_13 rfl ?_ | refine z_aload_n C dX7_addPick_13 rfl ?_
    refine z_iconst (v := 1) C dX7_addPick_14 rfl ?_
    refine z_callV (q := (RX7, TX7, 19)) C (m_no l Γ _ 1 (zU_same G mo (oM0 0 μ))) kc_X7_addPick_15 (by first | assumption | exact zU_same _ _ _) rfl rfl rfl rfl ky_X7_no ⟨(Nat.le_of_ble_eq_true rfl), (Nat.le_of_ble_eq_true rfl)⟩ (Nat.le_of_ble_eq_true rfl) ⟨(Nat.le_of_ble_eq_true rfl), (Nat.le_of_ble_eq_true rfl)⟩ dX7_addPick_15 (fun v15 G15 hp15 => ?_)
    obtain ⟨rfl, rfl⟩ := hp15
    exact z_iret C F hr (Nat.le_of_ble_eq_true rfl) (Nat.le_of_ble_eq_true rfl) ⟨rfl, (zU_zU _ _ _ _).symm⟩ dX7_addPick_18
abbrev rm_m_setWeight : Room := { frames := 2, cells := 0, slots := 0, locals := 43 }
set_option maxHeartbeats 4000000 in
set_option maxRecDepth 100000 in
theorem m_setWeight (l : Launch) (Γ : zY) (G : zG) {mo : Nat} {th : Int32} {μ : Nat → Nat} (x0 : Int32) (x1 : Int32) (hm : G mo = some (oM0 th μ)) : ZM l yX7_setWeight cX7_setWeight 4 (some FieldType.int) rm_m_setWeight Γ [.ref mo, .int x0, .int x1] G (fun v G' => some (.int 0) = v ∧ zU G mo (oM0 1 μ) = G') := by
  refine z_start (by decide +kernel) [some (.ref mo), some (.int x0), some (.int x1)] rfl (Nat.le_of_ble_eq_true rfl) ?_
  intro p e s m args below meth c Q A C F hr hnm
  first | refine z_rload_n C dX7_setWeight_0 rfl ?_ | refine z_nload_n C dX7_setWeight_0 rfl ?_ | refine z_aload_n C dX7_setWeight_0 rfl ?_
  refine z_iconst (v := 0) C dX7_setWeight_1 rfl ?_
  refine z_putf (T := TX7) (N := 19) C (by first | assumption | exact zU_same _ _ _) rfl 0 (by decide) kw_1169 (Or.inl rfl) rfl (tyX7_ok 0 (by decide)) rfl rfl (Nat.le_of_ble_eq_true rfl) dX7_setWeight_2 ?_
  first | refine z_rload_n C dX7_setWeight_5 rfl ?_ | refine z_nload_n C dX7_setWeight_5 rfl ?_ | refine z_aload_n C dX7_setWeight_5 rfl ?_
  refine z_iload_n C dX7_setWeight_6 rfl ?_
  refine z_callV (q := (RX7, TX7, 19)) C (m_isPick l Γ _ x0 (zU_same G mo (oM0 0 μ))) kc_X7_setWeight_7 (by first | assumption | exact zU_same _ _ _) rfl rfl rfl rfl ky_X7_isPick ⟨(Nat.le_of_ble_eq_true rfl), (Nat.le_of_ble_eq_true rfl)⟩ (Nat.le_of_ble_eq_true rfl) ⟨(Nat.le_of_ble_eq_true rfl), (Nat.le_of_ble_eq_true rfl)⟩ dX7_setWeight_7 (fun v7 G7 hp7 => ?_)
  obtain ⟨rfl, rfl⟩ := hp7
  refine z_if_ne (tgt := 19) C dX7_setWeight_10 (by decide) (fun h10 => ?_) (fun h10 => ?_)
  · exact absurd rfl h10
  · first | refine z_rload_n C dX7_setWeight_13 rfl ?_ | refine z_nload_n C dX7_setWeight_13 rfl ?_ | refine z_aload_n C dX7_setWeight_13 rfl ?_
    refine z_iconst (v := 1) C dX7_setWeight_14 rfl ?_
    refine z_callV (q := (RX7, TX7, 19)) C (m_no l Γ _ 1 (zU_same G mo (oM0 0 μ))) kc_X7_setWeight_15 (by first | assumption | exact zU_same _ _ _) rfl rfl rfl rfl ky_X7_no ⟨(Nat.le_of_ble_eq_true rfl), (Nat.le_of_ble_eq_true rfl)⟩ (Nat.le_of_ble_eq_true rfl) ⟨(Nat.le_of_ble_eq_true rfl), (Nat.le_of_ble_eq_true rfl)⟩ dX7_setWeight_15 (fun v15 G15 hp15 => ?_)
    obtain ⟨rfl, rfl⟩ := hp15
    exact z_iret C F hr (Nat.le_of_ble_eq_true rfl) (Nat.le_of_ble_eq_true rfl) ⟨rfl, (zU_zU _ _ _ _).symm⟩ dX7_setWeight_18
abbrev rm_m_residual : Room := { frames := 2, cells := 0, slots := 0, locals := 43 }
set_option maxHeartbeats 4000000 in
set_option maxRecDepth 100000 in
theorem m_residual (l : Launch) (Γ : zY) (G : zG) {mo : Nat} {th : Int32} {μ : Nat → Nat} (x0 : Int32) (hm : G mo = some (oM0 th μ)) : ZM l yX7_residual cX7_residual 2 (some FieldType.int) rm_m_residual Γ [.ref mo, .int x0] G (fun v G' => some (.int 0) = v ∧ zU G mo (oM0 1 μ) = G') := by
  refine z_start (by decide +kernel) [some (.ref mo), some (.int x0)] rfl (Nat.le_of_ble_eq_true rfl) ?_
  intro p e s m args below meth c Q A C F hr hnm
  first | refine z_rload_n C dX7_residual_0 rfl ?_ | refine z_nload_n C dX7_residual_0 rfl ?_ | refine z_aload_n C dX7_residual_0 rfl ?_
  refine z_iconst (v := 0) C dX7_residual_1 rfl ?_
  refine z_putf (T := TX7) (N := 19) C (by first | assumption | exact zU_same _ _ _) rfl 0 (by decide) kw_1169 (Or.inl rfl) rfl (tyX7_ok 0 (by decide)) rfl rfl (Nat.le_of_ble_eq_true rfl) dX7_residual_2 ?_
  first | refine z_rload_n C dX7_residual_5 rfl ?_ | refine z_nload_n C dX7_residual_5 rfl ?_ | refine z_aload_n C dX7_residual_5 rfl ?_
  refine z_iload_n C dX7_residual_6 rfl ?_
  refine z_callV (q := (RX7, TX7, 19)) C (m_isPick l Γ _ x0 (zU_same G mo (oM0 0 μ))) kc_X7_residual_7 (by first | assumption | exact zU_same _ _ _) rfl rfl rfl rfl ky_X7_isPick ⟨(Nat.le_of_ble_eq_true rfl), (Nat.le_of_ble_eq_true rfl)⟩ (Nat.le_of_ble_eq_true rfl) ⟨(Nat.le_of_ble_eq_true rfl), (Nat.le_of_ble_eq_true rfl)⟩ dX7_residual_7 (fun v7 G7 hp7 => ?_)
  obtain ⟨rfl, rfl⟩ := hp7
  refine z_if_ne (tgt := 19) C dX7_residual_10 (by decide) (fun h10 => ?_) (fun h10 => ?_)
  · exact absurd rfl h10
  · first | refine z_rload_n C dX7_residual_13 rfl ?_ | refine z_nload_n C dX7_residual_13 rfl ?_ | refine z_aload_n C dX7_residual_13 rfl ?_
    refine z_iconst (v := 1) C dX7_residual_14 rfl ?_
    refine z_callV (q := (RX7, TX7, 19)) C (m_no l Γ _ 1 (zU_same G mo (oM0 0 μ))) kc_X7_residual_15 (by first | assumption | exact zU_same _ _ _) rfl rfl rfl rfl ky_X7_no ⟨(Nat.le_of_ble_eq_true rfl), (Nat.le_of_ble_eq_true rfl)⟩ (Nat.le_of_ble_eq_true rfl) ⟨(Nat.le_of_ble_eq_true rfl), (Nat.le_of_ble_eq_true rfl)⟩ dX7_residual_15 (fun v15 G15 hp15 => ?_)
    obtain ⟨rfl, rfl⟩ := hp15
    exact z_iret C F hr (Nat.le_of_ble_eq_true rfl) (Nat.le_of_ble_eq_true rfl) ⟨rfl, (zU_zU _ _ _ _).symm⟩ dX7_residual_18
abbrev rm_m_worst : Room := { frames := 2, cells := 0, slots := 0, locals := 43 }
set_option maxHeartbeats 4000000 in
set_option maxRecDepth 100000 in
theorem m_worst (l : Launch) (Γ : zY) (G : zG) {mo : Nat} {th : Int32} {μ : Nat → Nat} (x0 : Int32) (hm : G mo = some (oM0 th μ)) : ZM l yX7_worst cX7_worst 4 (some FieldType.int) rm_m_worst Γ [.ref mo, .int x0] G (fun v G' => some (.int 0) = v ∧ zU G mo (oM0 1 μ) = G') := by
  refine z_start (by decide +kernel) [some (.ref mo), some (.int x0)] rfl (Nat.le_of_ble_eq_true rfl) ?_
  intro p e s m args below meth c Q A C F hr hnm
  first | refine z_rload_n C dX7_worst_0 rfl ?_ | refine z_nload_n C dX7_worst_0 rfl ?_ | refine z_aload_n C dX7_worst_0 rfl ?_
  refine z_iconst (v := 0) C dX7_worst_1 rfl ?_
  refine z_putf (T := TX7) (N := 19) C (by first | assumption | exact zU_same _ _ _) rfl 0 (by decide) kw_1169 (Or.inl rfl) rfl (tyX7_ok 0 (by decide)) rfl rfl (Nat.le_of_ble_eq_true rfl) dX7_worst_2 ?_
  first | refine z_rload_n C dX7_worst_5 rfl ?_ | refine z_nload_n C dX7_worst_5 rfl ?_ | refine z_aload_n C dX7_worst_5 rfl ?_
  refine z_iload_n C dX7_worst_6 rfl ?_
  refine z_callV (q := (RX7, TX7, 19)) C (m_isEvent l Γ _ x0 (zU_same G mo (oM0 0 μ))) kc_X7_worst_7 (by first | assumption | exact zU_same _ _ _) rfl rfl rfl rfl ky_X7_isEvent ⟨(Nat.le_of_ble_eq_true rfl), (Nat.le_of_ble_eq_true rfl)⟩ (Nat.le_of_ble_eq_true rfl) ⟨(Nat.le_of_ble_eq_true rfl), (Nat.le_of_ble_eq_true rfl)⟩ dX7_worst_7 (fun v7 G7 hp7 => ?_)
  obtain ⟨rfl, rfl⟩ := hp7
  refine z_if_ne (tgt := 19) C dX7_worst_10 (by decide) (fun h10 => ?_) (fun h10 => ?_)
  · exact absurd rfl h10
  · first | refine z_rload_n C dX7_worst_13 rfl ?_ | refine z_nload_n C dX7_worst_13 rfl ?_ | refine z_aload_n C dX7_worst_13 rfl ?_
    refine z_iconst (v := 1) C dX7_worst_14 rfl ?_
    refine z_callV (q := (RX7, TX7, 19)) C (m_no l Γ _ 1 (zU_same G mo (oM0 0 μ))) kc_X7_worst_15 (by first | assumption | exact zU_same _ _ _) rfl rfl rfl rfl ky_X7_no ⟨(Nat.le_of_ble_eq_true rfl), (Nat.le_of_ble_eq_true rfl)⟩ (Nat.le_of_ble_eq_true rfl) ⟨(Nat.le_of_ble_eq_true rfl), (Nat.le_of_ble_eq_true rfl)⟩ dX7_worst_15 (fun v15 G15 hp15 => ?_)
    obtain ⟨rfl, rfl⟩ := hp15
    exact z_iret C F hr (Nat.le_of_ble_eq_true rfl) (Nat.le_of_ble_eq_true rfl) ⟨rfl, (zU_zU _ _ _ _).symm⟩ dX7_worst_18
abbrev rm_m_gap : Room := { frames := 2, cells := 0, slots := 0, locals := 43 }
set_option maxHeartbeats 4000000 in
set_option maxRecDepth 100000 in
theorem m_gap (l : Launch) (Γ : zY) (G : zG) {mo : Nat} {th : Int32} {μ : Nat → Nat} (x0 : Int32) (hm : G mo = some (oM0 th μ)) : ZM l yX7_gap cX7_gap 2 (some FieldType.int) rm_m_gap Γ [.ref mo, .int x0] G (fun v G' => some (.int 0) = v ∧ zU G mo (oM0 1 μ) = G') := by
  refine z_start (by decide +kernel) [some (.ref mo), some (.int x0)] rfl (Nat.le_of_ble_eq_true rfl) ?_
  intro p e s m args below meth c Q A C F hr hnm
  first | refine z_rload_n C dX7_gap_0 rfl ?_ | refine z_nload_n C dX7_gap_0 rfl ?_ | refine z_aload_n C dX7_gap_0 rfl ?_
  refine z_iconst (v := 0) C dX7_gap_1 rfl ?_
  refine z_putf (T := TX7) (N := 19) C (by first | assumption | exact zU_same _ _ _) rfl 0 (by decide) kw_1169 (Or.inl rfl) rfl (tyX7_ok 0 (by decide)) rfl rfl (Nat.le_of_ble_eq_true rfl) dX7_gap_2 ?_
  first | refine z_rload_n C dX7_gap_5 rfl ?_ | refine z_nload_n C dX7_gap_5 rfl ?_ | refine z_aload_n C dX7_gap_5 rfl ?_
  refine z_iload_n C dX7_gap_6 rfl ?_
  refine z_callV (q := (RX7, TX7, 19)) C (m_isEvent l Γ _ x0 (zU_same G mo (oM0 0 μ))) kc_X7_gap_7 (by first | assumption | exact zU_same _ _ _) rfl rfl rfl rfl ky_X7_isEvent ⟨(Nat.le_of_ble_eq_true rfl), (Nat.le_of_ble_eq_true rfl)⟩ (Nat.le_of_ble_eq_true rfl) ⟨(Nat.le_of_ble_eq_true rfl), (Nat.le_of_ble_eq_true rfl)⟩ dX7_gap_7 (fun v7 G7 hp7 => ?_)
  obtain ⟨rfl, rfl⟩ := hp7
  refine z_if_ne (tgt := 19) C dX7_gap_10 (by decide) (fun h10 => ?_) (fun h10 => ?_)
  · exact absurd rfl h10
  · first | refine z_rload_n C dX7_gap_13 rfl ?_ | refine z_nload_n C dX7_gap_13 rfl ?_ | refine z_aload_n C dX7_gap_13 rfl ?_
    refine z_iconst (v := 1) C dX7_gap_14 rfl ?_
    refine z_callV (q := (RX7, TX7, 19)) C (m_no l Γ _ 1 (zU_same G mo (oM0 0 μ))) kc_X7_gap_15 (by first | assumption | exact zU_same _ _ _) rfl rfl rfl rfl ky_X7_no ⟨(Nat.le_of_ble_eq_true rfl), (Nat.le_of_ble_eq_true rfl)⟩ (Nat.le_of_ble_eq_true rfl) ⟨(Nat.le_of_ble_eq_true rfl), (Nat.le_of_ble_eq_true rfl)⟩ dX7_gap_15 (fun v15 G15 hp15 => ?_)
    obtain ⟨rfl, rfl⟩ := hp15
    exact z_iret C F hr (Nat.le_of_ble_eq_true rfl) (Nat.le_of_ble_eq_true rfl) ⟨rfl, (zU_zU _ _ _ _).symm⟩ dX7_gap_18
abbrev rm_m_setAmplitude : Room := { frames := 2, cells := 0, slots := 0, locals := 43 }
set_option maxHeartbeats 4000000 in
set_option maxRecDepth 100000 in
theorem m_setAmplitude (l : Launch) (Γ : zY) (G : zG) {mo : Nat} {th : Int32} {μ : Nat → Nat} (x0 : Int32) (x1 : Int32) (hm : G mo = some (oM0 th μ)) : ZM l yX7_setAmplitude cX7_setAmplitude 4 (some FieldType.int) rm_m_setAmplitude Γ [.ref mo, .int x0, .int x1] G (fun v G' => some (.int 0) = v ∧ zU G mo (oM0 1 μ) = G') := by
  refine z_start (by decide +kernel) [some (.ref mo), some (.int x0), some (.int x1)] rfl (Nat.le_of_ble_eq_true rfl) ?_
  intro p e s m args below meth c Q A C F hr hnm
  first | refine z_rload_n C dX7_setAmplitude_0 rfl ?_ | refine z_nload_n C dX7_setAmplitude_0 rfl ?_ | refine z_aload_n C dX7_setAmplitude_0 rfl ?_
  refine z_iconst (v := 0) C dX7_setAmplitude_1 rfl ?_
  refine z_putf (T := TX7) (N := 19) C (by first | assumption | exact zU_same _ _ _) rfl 0 (by decide) kw_1169 (Or.inl rfl) rfl (tyX7_ok 0 (by decide)) rfl rfl (Nat.le_of_ble_eq_true rfl) dX7_setAmplitude_2 ?_
  first | refine z_rload_n C dX7_setAmplitude_5 rfl ?_ | refine z_nload_n C dX7_setAmplitude_5 rfl ?_ | refine z_aload_n C dX7_setAmplitude_5 rfl ?_
  refine z_iload_n C dX7_setAmplitude_6 rfl ?_
  refine z_callV (q := (RX7, TX7, 19)) C (m_isPick l Γ _ x0 (zU_same G mo (oM0 0 μ))) kc_X7_setAmplitude_7 (by first | assumption | exact zU_same _ _ _) rfl rfl rfl rfl ky_X7_isPick ⟨(Nat.le_of_ble_eq_true rfl), (Nat.le_of_ble_eq_true rfl)⟩ (Nat.le_of_ble_eq_true rfl) ⟨(Nat.le_of_ble_eq_true rfl), (Nat.le_of_ble_eq_true rfl)⟩ dX7_setAmplitude_7 (fun v7 G7 hp7 => ?_)
  obtain ⟨rfl, rfl⟩ := hp7
  refine z_if_ne (tgt := 19) C dX7_setAmplitude_10 (by decide) (fun h10 => ?_) (fun h10 => ?_)
  · exact absurd rfl h10
  · first | refine z_rload_n C dX7_setAmplitude_13 rfl ?_ | refine z_nload_n C dX7_setAmplitude_13 rfl ?_ | refine z_aload_n C dX7_setAmplitude_13 rfl ?_
    refine z_iconst (v := 1) C dX7_setAmplitude_14 rfl ?_
    refine z_callV (q := (RX7, TX7, 19)) C (m_no l Γ _ 1 (zU_same G mo (oM0 0 μ))) kc_X7_setAmplitude_15 (by first | assumption | exact zU_same _ _ _) rfl rfl rfl rfl ky_X7_no ⟨(Nat.le_of_ble_eq_true rfl), (Nat.le_of_ble_eq_true rfl)⟩ (Nat.le_of_ble_eq_true rfl) ⟨(Nat.le_of_ble_eq_true rfl), (Nat.le_of_ble_eq_true rfl)⟩ dX7_setAmplitude_15 (fun v15 G15 hp15 => ?_)
    obtain ⟨rfl, rfl⟩ := hp15
    exact z_iret C F hr (Nat.le_of_ble_eq_true rfl) (Nat.le_of_ble_eq_true rfl) ⟨rfl, (zU_zU _ _ _ _).symm⟩ dX7_setAmplitude_18
abbrev rm_m_magnitude : Room := { frames := 2, cells := 0, slots := 0, locals := 43 }
set_option maxHeartbeats 4000000 in
set_option maxRecDepth 100000 in
theorem m_magnitude (l : Launch) (Γ : zY) (G : zG) {mo : Nat} {th : Int32} {μ : Nat → Nat} (x0 : Int32) (hm : G mo = some (oM0 th μ)) : ZM l yX7_magnitude cX7_magnitude 2 (some FieldType.int) rm_m_magnitude Γ [.ref mo, .int x0] G (fun v G' => some (.int 0) = v ∧ zU G mo (oM0 1 μ) = G') := by
  refine z_start (by decide +kernel) [some (.ref mo), some (.int x0)] rfl (Nat.le_of_ble_eq_true rfl) ?_
  intro p e s m args below meth c Q A C F hr hnm
  first | refine z_rload_n C dX7_magnitude_0 rfl ?_ | refine z_nload_n C dX7_magnitude_0 rfl ?_ | refine z_aload_n C dX7_magnitude_0 rfl ?_
  refine z_iconst (v := 0) C dX7_magnitude_1 rfl ?_
  refine z_putf (T := TX7) (N := 19) C (by first | assumption | exact zU_same _ _ _) rfl 0 (by decide) kw_1169 (Or.inl rfl) rfl (tyX7_ok 0 (by decide)) rfl rfl (Nat.le_of_ble_eq_true rfl) dX7_magnitude_2 ?_
  first | refine z_rload_n C dX7_magnitude_5 rfl ?_ | refine z_nload_n C dX7_magnitude_5 rfl ?_ | refine z_aload_n C dX7_magnitude_5 rfl ?_
  refine z_iload_n C dX7_magnitude_6 rfl ?_
  refine z_callV (q := (RX7, TX7, 19)) C (m_isEvent l Γ _ x0 (zU_same G mo (oM0 0 μ))) kc_X7_magnitude_7 (by first | assumption | exact zU_same _ _ _) rfl rfl rfl rfl ky_X7_isEvent ⟨(Nat.le_of_ble_eq_true rfl), (Nat.le_of_ble_eq_true rfl)⟩ (Nat.le_of_ble_eq_true rfl) ⟨(Nat.le_of_ble_eq_true rfl), (Nat.le_of_ble_eq_true rfl)⟩ dX7_magnitude_7 (fun v7 G7 hp7 => ?_)
  obtain ⟨rfl, rfl⟩ := hp7
  refine z_if_ne (tgt := 19) C dX7_magnitude_10 (by decide) (fun h10 => ?_) (fun h10 => ?_)
  · exact absurd rfl h10
  · first | refine z_rload_n C dX7_magnitude_13 rfl ?_ | refine z_nload_n C dX7_magnitude_13 rfl ?_ | refine z_aload_n C dX7_magnitude_13 rfl ?_
    refine z_iconst (v := 1) C dX7_magnitude_14 rfl ?_
    refine z_callV (q := (RX7, TX7, 19)) C (m_no l Γ _ 1 (zU_same G mo (oM0 0 μ))) kc_X7_magnitude_15 (by first | assumption | exact zU_same _ _ _) rfl rfl rfl rfl ky_X7_no ⟨(Nat.le_of_ble_eq_true rfl), (Nat.le_of_ble_eq_true rfl)⟩ (Nat.le_of_ble_eq_true rfl) ⟨(Nat.le_of_ble_eq_true rfl), (Nat.le_of_ble_eq_true rfl)⟩ dX7_magnitude_15 (fun v15 G15 hp15 => ?_)
    obtain ⟨rfl, rfl⟩ := hp15
    exact z_iret C F hr (Nat.le_of_ble_eq_true rfl) (Nat.le_of_ble_eq_true rfl) ⟨rfl, (zU_zU _ _ _ _).symm⟩ dX7_magnitude_18
abbrev rm_m_family : Room := { frames := 2, cells := 0, slots := 0, locals := 43 }
set_option maxHeartbeats 4000000 in
set_option maxRecDepth 100000 in
theorem m_family (l : Launch) (Γ : zY) (G : zG) {mo : Nat} {th : Int32} {μ : Nat → Nat} (x0 : Int32) (x1 : Int32) (x2 : Int32) (hm : G mo = some (oM0 th μ)) : ZM l yX7_family cX7_family 7 (some FieldType.int) rm_m_family Γ [.ref mo, .int x0, .int x1, .int x2] G (fun v G' => some (.int 0) = v ∧ zU G mo (oM0 1 μ) = G') := by
  refine z_start (by decide +kernel) [some (.ref mo), some (.int x0), some (.int x1), some (.int x2)] rfl (Nat.le_of_ble_eq_true rfl) ?_
  intro p e s m args below meth c Q A C F hr hnm
  first | refine z_rload_n C dX7_family_0 rfl ?_ | refine z_nload_n C dX7_family_0 rfl ?_ | refine z_aload_n C dX7_family_0 rfl ?_
  refine z_iconst (v := 0) C dX7_family_1 rfl ?_
  refine z_putf (T := TX7) (N := 19) C (by first | assumption | exact zU_same _ _ _) rfl 0 (by decide) kw_1169 (Or.inl rfl) rfl (tyX7_ok 0 (by decide)) rfl rfl (Nat.le_of_ble_eq_true rfl) dX7_family_2 ?_
  first | refine z_rload_n C dX7_family_5 rfl ?_ | refine z_nload_n C dX7_family_5 rfl ?_ | refine z_aload_n C dX7_family_5 rfl ?_
  refine z_iload_n C dX7_family_6 rfl ?_
  refine z_callV (q := (RX7, TX7, 19)) C (m_isEvent l Γ _ x0 (zU_same G mo (oM0 0 μ))) kc_X7_family_7 (by first | assumption | exact zU_same _ _ _) rfl rfl rfl rfl ky_X7_isEvent ⟨(Nat.le_of_ble_eq_true rfl), (Nat.le_of_ble_eq_true rfl)⟩ (Nat.le_of_ble_eq_true rfl) ⟨(Nat.le_of_ble_eq_true rfl), (Nat.le_of_ble_eq_true rfl)⟩ dX7_family_7 (fun v7 G7 hp7 => ?_)
  obtain ⟨rfl, rfl⟩ := hp7
  refine z_if_ne (tgt := 19) C dX7_family_10 (by decide) (fun h10 => ?_) (fun h10 => ?_)
  · exact absurd rfl h10
  · first | refine z_rload_n C dX7_family_13 rfl ?_ | refine z_nload_n C dX7_family_13 rfl ?_ | refine z_aload_n C dX7_family_13 rfl ?_
    refine z_iconst (v := 1) C dX7_family_14 rfl ?_
    refine z_callV (q := (RX7, TX7, 19)) C (m_no l Γ _ 1 (zU_same G mo (oM0 0 μ))) kc_X7_family_15 (by first | assumption | exact zU_same _ _ _) rfl rfl rfl rfl ky_X7_no ⟨(Nat.le_of_ble_eq_true rfl), (Nat.le_of_ble_eq_true rfl)⟩ (Nat.le_of_ble_eq_true rfl) ⟨(Nat.le_of_ble_eq_true rfl), (Nat.le_of_ble_eq_true rfl)⟩ dX7_family_15 (fun v15 G15 hp15 => ?_)
    obtain ⟨rfl, rfl⟩ := hp15
    exact z_iret C F hr (Nat.le_of_ble_eq_true rfl) (Nat.le_of_ble_eq_true rfl) ⟨rfl, (zU_zU _ _ _ _).symm⟩ dX7_family_18
abbrev rm_m_pick : Room := { frames := 2, cells := 0, slots := 0, locals := 43 }
set_option maxHeartbeats 4000000 in
set_option maxRecDepth 100000 in
theorem m_pick (l : Launch) (Γ : zY) (G : zG) {mo : Nat} {th : Int32} {μ : Nat → Nat} (x0 : Int32) (x1 : Int32) (hm : G mo = some (oM0 th μ)) : ZM l yX7_pick cX7_pick 3 (some FieldType.int) rm_m_pick Γ [.ref mo, .int x0, .int x1] G (fun v G' => some (.int 0) = v ∧ zU G mo (oM0 1 μ) = G') := by
  refine z_start (by decide +kernel) [some (.ref mo), some (.int x0), some (.int x1)] rfl (Nat.le_of_ble_eq_true rfl) ?_
  intro p e s m args below meth c Q A C F hr hnm
  first | refine z_rload_n C dX7_pick_0 rfl ?_ | refine z_nload_n C dX7_pick_0 rfl ?_ | refine z_aload_n C dX7_pick_0 rfl ?_
  refine z_iconst (v := 0) C dX7_pick_1 rfl ?_
  refine z_putf (T := TX7) (N := 19) C (by first | assumption | exact zU_same _ _ _) rfl 0 (by decide) kw_1169 (Or.inl rfl) rfl (tyX7_ok 0 (by decide)) rfl rfl (Nat.le_of_ble_eq_true rfl) dX7_pick_2 ?_
  first | refine z_rload_n C dX7_pick_5 rfl ?_ | refine z_nload_n C dX7_pick_5 rfl ?_ | refine z_aload_n C dX7_pick_5 rfl ?_
  refine z_iload_n C dX7_pick_6 rfl ?_
  refine z_callV (q := (RX7, TX7, 19)) C (m_isPick l Γ _ x0 (zU_same G mo (oM0 0 μ))) kc_X7_pick_7 (by first | assumption | exact zU_same _ _ _) rfl rfl rfl rfl ky_X7_isPick ⟨(Nat.le_of_ble_eq_true rfl), (Nat.le_of_ble_eq_true rfl)⟩ (Nat.le_of_ble_eq_true rfl) ⟨(Nat.le_of_ble_eq_true rfl), (Nat.le_of_ble_eq_true rfl)⟩ dX7_pick_7 (fun v7 G7 hp7 => ?_)
  obtain ⟨rfl, rfl⟩ := hp7
  refine z_if_eq (tgt := 31) C dX7_pick_10 (by decide) (fun h10 => ?_) (fun h10 => ?_)
  · first | refine z_rload_n C dX7_pick_31 rfl ?_ | refine z_nload_n C dX7_pick_31 rfl ?_ | refine z_aload_n C dX7_pick_31 rfl ?_
    refine z_iconst (v := 1) C dX7_pick_32 rfl ?_
    refine z_callV (q := (RX7, TX7, 19)) C (m_no l Γ _ 1 (zU_same G mo (oM0 0 μ))) kc_X7_pick_33 (by first | assumption | exact zU_same _ _ _) rfl rfl rfl rfl ky_X7_no ⟨(Nat.le_of_ble_eq_true rfl), (Nat.le_of_ble_eq_true rfl)⟩ (Nat.le_of_ble_eq_true rfl) ⟨(Nat.le_of_ble_eq_true rfl), (Nat.le_of_ble_eq_true rfl)⟩ dX7_pick_33 (fun v33 G33 hp33 => ?_)
    obtain ⟨rfl, rfl⟩ := hp33
    exact z_iret C F hr (Nat.le_of_ble_eq_true rfl) (Nat.le_of_ble_eq_true rfl) ⟨rfl, (zU_zU _ _ _ _).symm⟩ dX7_pick_36
  · exact absurd rfl h10
abbrev rm_m_give : Room := { frames := 2, cells := 0, slots := 0, locals := 43 }
set_option maxHeartbeats 4000000 in
set_option maxRecDepth 100000 in
theorem m_give (l : Launch) (Γ : zY) (G : zG) {mo : Nat} {th : Int32} {μ : Nat → Nat} (x0 : Int32) (x1 : Int32) (hm : G mo = some (oM0 th μ)) : ZM l yX7_give cX7_give 4 (some FieldType.int) rm_m_give Γ [.ref mo, .int x0, .int x1] G (fun v G' => some (.int 0) = v ∧ zU G mo (oM0 1 μ) = G') := by
  refine z_start (by decide +kernel) [some (.ref mo), some (.int x0), some (.int x1)] rfl (Nat.le_of_ble_eq_true rfl) ?_
  intro p e s m args below meth c Q A C F hr hnm
  first | refine z_rload_n C dX7_give_0 rfl ?_ | refine z_nload_n C dX7_give_0 rfl ?_ | refine z_aload_n C dX7_give_0 rfl ?_
  refine z_iconst (v := 0) C dX7_give_1 rfl ?_
  refine z_putf (T := TX7) (N := 19) C (by first | assumption | exact zU_same _ _ _) rfl 0 (by decide) kw_1169 (Or.inl rfl) rfl (tyX7_ok 0 (by decide)) rfl rfl (Nat.le_of_ble_eq_true rfl) dX7_give_2 ?_
  first | refine z_rload_n C dX7_give_5 rfl ?_ | refine z_nload_n C dX7_give_5 rfl ?_ | refine z_aload_n C dX7_give_5 rfl ?_
  refine z_iload_n C dX7_give_6 rfl ?_
  refine z_callV (q := (RX7, TX7, 19)) C (m_isPick l Γ _ x0 (zU_same G mo (oM0 0 μ))) kc_X7_give_7 (by first | assumption | exact zU_same _ _ _) rfl rfl rfl rfl ky_X7_isPick ⟨(Nat.le_of_ble_eq_true rfl), (Nat.le_of_ble_eq_true rfl)⟩ (Nat.le_of_ble_eq_true rfl) ⟨(Nat.le_of_ble_eq_true rfl), (Nat.le_of_ble_eq_true rfl)⟩ dX7_give_7 (fun v7 G7 hp7 => ?_)
  obtain ⟨rfl, rfl⟩ := hp7
  refine z_if_eq (tgt := 26) C dX7_give_10 (by decide) (fun h10 => ?_) (fun h10 => ?_)
  · first | refine z_rload_n C dX7_give_26 rfl ?_ | refine z_nload_n C dX7_give_26 rfl ?_ | refine z_aload_n C dX7_give_26 rfl ?_
    refine z_iconst (v := 1) C dX7_give_27 rfl ?_
    refine z_callV (q := (RX7, TX7, 19)) C (m_no l Γ _ 1 (zU_same G mo (oM0 0 μ))) kc_X7_give_28 (by first | assumption | exact zU_same _ _ _) rfl rfl rfl rfl ky_X7_no ⟨(Nat.le_of_ble_eq_true rfl), (Nat.le_of_ble_eq_true rfl)⟩ (Nat.le_of_ble_eq_true rfl) ⟨(Nat.le_of_ble_eq_true rfl), (Nat.le_of_ble_eq_true rfl)⟩ dX7_give_28 (fun v28 G28 hp28 => ?_)
    obtain ⟨rfl, rfl⟩ := hp28
    exact z_iret C F hr (Nat.le_of_ble_eq_true rfl) (Nat.le_of_ble_eq_true rfl) ⟨rfl, (zU_zU _ _ _ _).symm⟩ dX7_give_31
  · exact absurd rfl h10
abbrev rm_m_event : Room := { frames := 2, cells := 0, slots := 0, locals := 43 }
set_option maxHeartbeats 4000000 in
set_option maxRecDepth 100000 in
theorem m_event (l : Launch) (Γ : zY) (G : zG) {mo : Nat} {th : Int32} {μ : Nat → Nat} (x0 : Int32) (x1 : Int32) (hm : G mo = some (oM0 th μ)) : ZM l yX7_event cX7_event 3 (some FieldType.int) rm_m_event Γ [.ref mo, .int x0, .int x1] G (fun v G' => some (.int 0) = v ∧ zU G mo (oM0 1 μ) = G') := by
  refine z_start (by decide +kernel) [some (.ref mo), some (.int x0), some (.int x1)] rfl (Nat.le_of_ble_eq_true rfl) ?_
  intro p e s m args below meth c Q A C F hr hnm
  first | refine z_rload_n C dX7_event_0 rfl ?_ | refine z_nload_n C dX7_event_0 rfl ?_ | refine z_aload_n C dX7_event_0 rfl ?_
  refine z_iconst (v := 0) C dX7_event_1 rfl ?_
  refine z_putf (T := TX7) (N := 19) C (by first | assumption | exact zU_same _ _ _) rfl 0 (by decide) kw_1169 (Or.inl rfl) rfl (tyX7_ok 0 (by decide)) rfl rfl (Nat.le_of_ble_eq_true rfl) dX7_event_2 ?_
  first | refine z_rload_n C dX7_event_5 rfl ?_ | refine z_nload_n C dX7_event_5 rfl ?_ | refine z_aload_n C dX7_event_5 rfl ?_
  refine z_iload_n C dX7_event_6 rfl ?_
  refine z_callV (q := (RX7, TX7, 19)) C (m_isEvent l Γ _ x0 (zU_same G mo (oM0 0 μ))) kc_X7_event_7 (by first | assumption | exact zU_same _ _ _) rfl rfl rfl rfl ky_X7_isEvent ⟨(Nat.le_of_ble_eq_true rfl), (Nat.le_of_ble_eq_true rfl)⟩ (Nat.le_of_ble_eq_true rfl) ⟨(Nat.le_of_ble_eq_true rfl), (Nat.le_of_ble_eq_true rfl)⟩ dX7_event_7 (fun v7 G7 hp7 => ?_)
  obtain ⟨rfl, rfl⟩ := hp7
  refine z_if_eq (tgt := 22) C dX7_event_10 (by decide) (fun h10 => ?_) (fun h10 => ?_)
  · first | refine z_rload_n C dX7_event_22 rfl ?_ | refine z_nload_n C dX7_event_22 rfl ?_ | refine z_aload_n C dX7_event_22 rfl ?_
    refine z_iconst (v := 1) C dX7_event_23 rfl ?_
    refine z_callV (q := (RX7, TX7, 19)) C (m_no l Γ _ 1 (zU_same G mo (oM0 0 μ))) kc_X7_event_24 (by first | assumption | exact zU_same _ _ _) rfl rfl rfl rfl ky_X7_no ⟨(Nat.le_of_ble_eq_true rfl), (Nat.le_of_ble_eq_true rfl)⟩ (Nat.le_of_ble_eq_true rfl) ⟨(Nat.le_of_ble_eq_true rfl), (Nat.le_of_ble_eq_true rfl)⟩ dX7_event_24 (fun v24 G24 hp24 => ?_)
    obtain ⟨rfl, rfl⟩ := hp24
    exact z_iret C F hr (Nat.le_of_ble_eq_true rfl) (Nat.le_of_ble_eq_true rfl) ⟨rfl, (zU_zU _ _ _ _).symm⟩ dX7_event_27
  · exact absurd rfl h10
abbrev rm_m_seek : Room := { frames := 2, cells := 0, slots := 0, locals := 43 }
set_option maxHeartbeats 4000000 in
set_option maxRecDepth 100000 in
theorem m_seek (l : Launch) (Γ : zY) (G : zG) {mo : Nat} {th : Int32} {μ : Nat → Nat} (x0 : Int32) (hm : G mo = some (oM0 th μ)) : ZM l yX7_seek cX7_seek 2 (some FieldType.long) rm_m_seek Γ [.ref mo, .int x0] G (fun v G' => some (.long 0) = v ∧ zU G mo (oM0 1 μ) = G') := by
  refine z_start (by decide +kernel) [some (.ref mo), some (.int x0)] rfl (Nat.le_of_ble_eq_true rfl) ?_
  intro p e s m args below meth c Q A C F hr hnm
  first | refine z_rload_n C dX7_seek_0 rfl ?_ | refine z_nload_n C dX7_seek_0 rfl ?_ | refine z_aload_n C dX7_seek_0 rfl ?_
  first | refine z_rload_n C dX7_seek_1 rfl ?_ | refine z_nload_n C dX7_seek_1 rfl ?_ | refine z_aload_n C dX7_seek_1 rfl ?_
  refine z_iload_n C dX7_seek_2 rfl ?_
  refine z_callV (q := (RX7, TX7, 19)) C (m_isEvent l Γ _ x0 hm) kc_X7_seek_3 (by first | assumption | exact zU_same _ _ _) rfl rfl rfl rfl ky_X7_isEvent ⟨(Nat.le_of_ble_eq_true rfl), (Nat.le_of_ble_eq_true rfl)⟩ (Nat.le_of_ble_eq_true rfl) ⟨(Nat.le_of_ble_eq_true rfl), (Nat.le_of_ble_eq_true rfl)⟩ dX7_seek_3 (fun v3 G3 hp3 => ?_)
  obtain ⟨rfl, rfl⟩ := hp3
  refine z_if_ne (tgt := 13) C dX7_seek_6 (by decide) (fun h6 => ?_) (fun h6 => ?_)
  · exact absurd rfl h6
  · refine z_iconst (v := 1) C dX7_seek_9 rfl ?_
    refine z_goto (tgt := 27) C dX7_seek_10 (by decide) ?_
    refine z_putf (T := TX7) (N := 19) C (by first | assumption | exact zU_same _ _ _) rfl 0 (by decide) kw_1169 (Or.inl rfl) rfl (tyX7_ok 0 (by decide)) rfl rfl (Nat.le_of_ble_eq_true rfl) dX7_seek_27 ?_
    first | refine z_rload_n C dX7_seek_30 rfl ?_ | refine z_nload_n C dX7_seek_30 rfl ?_ | refine z_aload_n C dX7_seek_30 rfl ?_
    refine z_getf (T := TX7) (N := 19) C (by first | assumption | exact zU_same _ _ _) rfl 0 (by decide) kw_1169 (Or.inl rfl) rfl dX7_seek_31 ?_
    refine z_if_ne (tgt := 45) C dX7_seek_34 (by decide) (fun h34 => ?_) (fun h34 => ?_)
    · refine z_lconst (v := 0) C dX7_seek_45 rfl ?_
      exact z_lret C F hr (Nat.le_of_ble_eq_true rfl) (Nat.le_of_ble_eq_true rfl) ⟨rfl, rfl⟩ dX7_seek_46
    · exact absurd h34 (by decide)
abbrev rm_m_misfit : Room := { frames := 2, cells := 0, slots := 0, locals := 43 }
set_option maxHeartbeats 4000000 in
set_option maxRecDepth 100000 in
theorem m_misfit (l : Launch) (Γ : zY) (G : zG) {mo : Nat} {th : Int32} {μ : Nat → Nat} (x0 : Int32) (x1 : Int32) (x2 : Int32) (x3 : Int32) (hm : G mo = some (oM0 th μ)) : ZM l yX7_misfit cX7_misfit 5 (some FieldType.long) rm_m_misfit Γ [.ref mo, .int x0, .int x1, .int x2, .int x3] G (fun v G' => some (.long 0) = v ∧ zU G mo (oM0 1 μ) = G') := by
  refine z_start (by decide +kernel) [some (.ref mo), some (.int x0), some (.int x1), some (.int x2), some (.int x3)] rfl (Nat.le_of_ble_eq_true rfl) ?_
  intro p e s m args below meth c Q A C F hr hnm
  first | refine z_rload_n C dX7_misfit_0 rfl ?_ | refine z_nload_n C dX7_misfit_0 rfl ?_ | refine z_aload_n C dX7_misfit_0 rfl ?_
  first | refine z_rload_n C dX7_misfit_1 rfl ?_ | refine z_nload_n C dX7_misfit_1 rfl ?_ | refine z_aload_n C dX7_misfit_1 rfl ?_
  refine z_iload_n C dX7_misfit_2 rfl ?_
  refine z_callV (q := (RX7, TX7, 19)) C (m_isEvent l Γ _ x0 hm) kc_X7_misfit_3 (by first | assumption | exact zU_same _ _ _) rfl rfl rfl rfl ky_X7_isEvent ⟨(Nat.le_of_ble_eq_true rfl), (Nat.le_of_ble_eq_true rfl)⟩ (Nat.le_of_ble_eq_true rfl) ⟨(Nat.le_of_ble_eq_true rfl), (Nat.le_of_ble_eq_true rfl)⟩ dX7_misfit_3 (fun v3 G3 hp3 => ?_)
  obtain ⟨rfl, rfl⟩ := hp3
  refine z_if_ne (tgt := 13) C dX7_misfit_6 (by decide) (fun h6 => ?_) (fun h6 => ?_)
  · exact absurd rfl h6
  · refine z_iconst (v := 1) C dX7_misfit_9 rfl ?_
    refine z_goto (tgt := 28) C dX7_misfit_10 (by decide) ?_
    refine z_putf (T := TX7) (N := 19) C (by first | assumption | exact zU_same _ _ _) rfl 0 (by decide) kw_1169 (Or.inl rfl) rfl (tyX7_ok 0 (by decide)) rfl rfl (Nat.le_of_ble_eq_true rfl) dX7_misfit_28 ?_
    first | refine z_rload_n C dX7_misfit_31 rfl ?_ | refine z_nload_n C dX7_misfit_31 rfl ?_ | refine z_aload_n C dX7_misfit_31 rfl ?_
    refine z_getf (T := TX7) (N := 19) C (by first | assumption | exact zU_same _ _ _) rfl 0 (by decide) kw_1169 (Or.inl rfl) rfl dX7_misfit_32 ?_
    refine z_if_ne (tgt := 50) C dX7_misfit_35 (by decide) (fun h35 => ?_) (fun h35 => ?_)
    · refine z_lconst (v := 0) C dX7_misfit_50 rfl ?_
      exact z_lret C F hr (Nat.le_of_ble_eq_true rfl) (Nat.le_of_ble_eq_true rfl) ⟨rfl, rfl⟩ dX7_misfit_51
    · exact absurd h35 (by decide)
abbrev rm_m_spread : Room := { frames := 2, cells := 0, slots := 0, locals := 43 }
set_option maxHeartbeats 4000000 in
set_option maxRecDepth 100000 in
theorem m_spread (l : Launch) (Γ : zY) (G : zG) {mo : Nat} {th : Int32} {μ : Nat → Nat} (x0 : Int32) (hm : G mo = some (oM0 th μ)) : ZM l yX7_spread cX7_spread 6 (some FieldType.double) rm_m_spread Γ [.ref mo, .int x0] G (fun v G' => some (.double FP.dconst0) = v ∧ zU G mo (oM0 1 μ) = G') := by
  refine z_start (by decide +kernel) [some (.ref mo), some (.int x0)] rfl (Nat.le_of_ble_eq_true rfl) ?_
  intro p e s m args below meth c Q A C F hr hnm
  first | refine z_rload_n C dX7_spread_0 rfl ?_ | refine z_nload_n C dX7_spread_0 rfl ?_ | refine z_aload_n C dX7_spread_0 rfl ?_
  first | refine z_rload_n C dX7_spread_1 rfl ?_ | refine z_nload_n C dX7_spread_1 rfl ?_ | refine z_aload_n C dX7_spread_1 rfl ?_
  refine z_iload_n C dX7_spread_2 rfl ?_
  refine z_callV (q := (RX7, TX7, 19)) C (m_isEvent l Γ _ x0 hm) kc_X7_spread_3 (by first | assumption | exact zU_same _ _ _) rfl rfl rfl rfl ky_X7_isEvent ⟨(Nat.le_of_ble_eq_true rfl), (Nat.le_of_ble_eq_true rfl)⟩ (Nat.le_of_ble_eq_true rfl) ⟨(Nat.le_of_ble_eq_true rfl), (Nat.le_of_ble_eq_true rfl)⟩ dX7_spread_3 (fun v3 G3 hp3 => ?_)
  obtain ⟨rfl, rfl⟩ := hp3
  refine z_if_ne (tgt := 13) C dX7_spread_6 (by decide) (fun h6 => ?_) (fun h6 => ?_)
  · exact absurd rfl h6
  · refine z_iconst (v := 1) C dX7_spread_9 rfl ?_
    refine z_goto (tgt := 27) C dX7_spread_10 (by decide) ?_
    refine z_putf (T := TX7) (N := 19) C (by first | assumption | exact zU_same _ _ _) rfl 0 (by decide) kw_1169 (Or.inl rfl) rfl (tyX7_ok 0 (by decide)) rfl rfl (Nat.le_of_ble_eq_true rfl) dX7_spread_27 ?_
    first | refine z_rload_n C dX7_spread_30 rfl ?_ | refine z_nload_n C dX7_spread_30 rfl ?_ | refine z_aload_n C dX7_spread_30 rfl ?_
    refine z_getf (T := TX7) (N := 19) C (by first | assumption | exact zU_same _ _ _) rfl 0 (by decide) kw_1169 (Or.inl rfl) rfl dX7_spread_31 ?_
    refine z_if_eq (tgt := 39) C dX7_spread_34 (by decide) (fun h34 => ?_) (fun h34 => ?_)
    · exact absurd h34 (by decide)
    · refine z_dconst0 C dX7_spread_37 ?_
      exact z_dret C F hr (Nat.le_of_ble_eq_true rfl) (Nat.le_of_ble_eq_true rfl) ⟨rfl, rfl⟩ dX7_spread_38
end
section
theorem dX7_isRange_0 : decode cX7_isRange 0 = .ok (.iload_n 0, 1) := by decide +kernel
theorem dX7_isRange_1 : decode cX7_isRange 1 = .ok (.iconst 0, 1) := by decide +kernel
theorem dX7_isRange_2 : decode cX7_isRange 2 = .ok (.sipush 500, 3) := by decide +kernel
theorem dX7_isRange_5 : decode cX7_isRange 5 = .ok (.invokestatic 60, 3) := by decide +kernel
theorem dX7_isRange_8 : decode cX7_isRange 8 = .ok (.ifCond .eq 17, 3) := by decide +kernel
theorem dX7_isRange_11 : decode cX7_isRange 11 = .ok (.iload_n 1, 1) := by decide +kernel
theorem dX7_isRange_12 : decode cX7_isRange 12 = .ok (.iconst 0, 1) := by decide +kernel
theorem dX7_isRange_13 : decode cX7_isRange 13 = .ok (.ldc 95, 2) := by decide +kernel
theorem dX7_isRange_15 : decode cX7_isRange 15 = .ok (.invokestatic 60, 3) := by decide +kernel
theorem dX7_isRange_18 : decode cX7_isRange 18 = .ok (.ifCond .eq 7, 3) := by decide +kernel
theorem dX7_isRange_21 : decode cX7_isRange 21 = .ok (.iconst 1, 1) := by decide +kernel
theorem dX7_isRange_22 : decode cX7_isRange 22 = .ok (.goto 4, 3) := by decide +kernel
theorem dX7_isRange_25 : decode cX7_isRange 25 = .ok (.iconst 0, 1) := by decide +kernel
theorem dX7_isRange_26 : decode cX7_isRange 26 = .ok (.ireturn, 1) := by decide +kernel
theorem kc_X7_isRange_5 : ∀ w ∈ ([Cond.methodLink "QuakeBenchModel" 60 yX7_isIn, Cond.static yX7_isIn, Cond.initialized "QuakeBenchModel", Cond.code yX7_isIn prog_9_method_4_code 3 (Option.some Jvm.ClassFile.FieldType.boolean)] : List Cond), w ∈ lw_all := zin [1236, 1237, 61, 1238] (by decide +kernel)
theorem kw_1281 : Cond.constant "QuakeBenchModel" 95 10000000 ∈ lw_all := zin1 1281 (by decide +kernel)
theorem kc_X7_isRange_15 : ∀ w ∈ ([Cond.methodLink "QuakeBenchModel" 60 yX7_isIn, Cond.static yX7_isIn, Cond.initialized "QuakeBenchModel", Cond.code yX7_isIn prog_9_method_4_code 3 (Option.some Jvm.ClassFile.FieldType.boolean)] : List Cond), w ∈ lw_all := zin [1236, 1237, 61, 1238] (by decide +kernel)
theorem dX7_isPlace_0 : decode cX7_isPlace 0 = .ok (.iload_n 0, 1) := by decide +kernel
theorem dX7_isPlace_1 : decode cX7_isPlace 1 = .ok (.iconst 0, 1) := by decide +kernel
theorem dX7_isPlace_2 : decode cX7_isPlace 2 = .ok (.sipush 200, 3) := by decide +kernel
theorem dX7_isPlace_5 : decode cX7_isPlace 5 = .ok (.invokestatic 60, 3) := by decide +kernel
theorem dX7_isPlace_8 : decode cX7_isPlace 8 = .ok (.ifCond .eq 28, 3) := by decide +kernel
theorem dX7_isPlace_11 : decode cX7_isPlace 11 = .ok (.iload_n 1, 1) := by decide +kernel
theorem dX7_isPlace_12 : decode cX7_isPlace 12 = .ok (.iconst 0, 1) := by decide +kernel
theorem dX7_isPlace_13 : decode cX7_isPlace 13 = .ok (.sipush 200, 3) := by decide +kernel
theorem dX7_isPlace_16 : decode cX7_isPlace 16 = .ok (.invokestatic 60, 3) := by decide +kernel
theorem dX7_isPlace_19 : decode cX7_isPlace 19 = .ok (.ifCond .eq 17, 3) := by decide +kernel
theorem dX7_isPlace_22 : decode cX7_isPlace 22 = .ok (.iload_n 2, 1) := by decide +kernel
theorem dX7_isPlace_23 : decode cX7_isPlace 23 = .ok (.iconst 0, 1) := by decide +kernel
theorem dX7_isPlace_24 : decode cX7_isPlace 24 = .ok (.bipush 60, 2) := by decide +kernel
theorem dX7_isPlace_26 : decode cX7_isPlace 26 = .ok (.invokestatic 60, 3) := by decide +kernel
theorem dX7_isPlace_29 : decode cX7_isPlace 29 = .ok (.ifCond .eq 7, 3) := by decide +kernel
theorem dX7_isPlace_32 : decode cX7_isPlace 32 = .ok (.iconst 1, 1) := by decide +kernel
theorem dX7_isPlace_33 : decode cX7_isPlace 33 = .ok (.goto 4, 3) := by decide +kernel
theorem dX7_isPlace_36 : decode cX7_isPlace 36 = .ok (.iconst 0, 1) := by decide +kernel
theorem dX7_isPlace_37 : decode cX7_isPlace 37 = .ok (.ireturn, 1) := by decide +kernel
theorem kc_X7_isPlace_5 : ∀ w ∈ ([Cond.methodLink "QuakeBenchModel" 60 yX7_isIn, Cond.static yX7_isIn, Cond.initialized "QuakeBenchModel", Cond.code yX7_isIn prog_9_method_4_code 3 (Option.some Jvm.ClassFile.FieldType.boolean)] : List Cond), w ∈ lw_all := zin [1236, 1237, 61, 1238] (by decide +kernel)
theorem kc_X7_isPlace_16 : ∀ w ∈ ([Cond.methodLink "QuakeBenchModel" 60 yX7_isIn, Cond.static yX7_isIn, Cond.initialized "QuakeBenchModel", Cond.code yX7_isIn prog_9_method_4_code 3 (Option.some Jvm.ClassFile.FieldType.boolean)] : List Cond), w ∈ lw_all := zin [1236, 1237, 61, 1238] (by decide +kernel)
theorem kc_X7_isPlace_26 : ∀ w ∈ ([Cond.methodLink "QuakeBenchModel" 60 yX7_isIn, Cond.static yX7_isIn, Cond.initialized "QuakeBenchModel", Cond.code yX7_isIn prog_9_method_4_code 3 (Option.some Jvm.ClassFile.FieldType.boolean)] : List Cond), w ∈ lw_all := zin [1236, 1237, 61, 1238] (by decide +kernel)
theorem dX7_foundEvents_0 : decode cX7_foundEvents 0 = .ok (.iconst 0, 1) := by decide +kernel
theorem dX7_foundEvents_1 : decode cX7_foundEvents 1 = .ok (.istore_n 1, 1) := by decide +kernel
theorem dX7_foundEvents_2 : decode cX7_foundEvents 2 = .ok (.iconst 0, 1) := by decide +kernel
theorem dX7_foundEvents_3 : decode cX7_foundEvents 3 = .ok (.istore_n 2, 1) := by decide +kernel
theorem dX7_foundEvents_4 : decode cX7_foundEvents 4 = .ok (.iload_n 2, 1) := by decide +kernel
theorem dX7_foundEvents_5 : decode cX7_foundEvents 5 = .ok (.aload_n 0, 1) := by decide +kernel
theorem dX7_foundEvents_6 : decode cX7_foundEvents 6 = .ok (.getfield 67, 3) := by decide +kernel
theorem dX7_foundEvents_9 : decode cX7_foundEvents 9 = .ok (.if_icmp .ge 26, 3) := by decide +kernel
theorem dX7_foundEvents_12 : decode cX7_foundEvents 12 = .ok (.iload_n 1, 1) := by decide +kernel
theorem dX7_foundEvents_13 : decode cX7_foundEvents 13 = .ok (.aload_n 0, 1) := by decide +kernel
theorem dX7_foundEvents_14 : decode cX7_foundEvents 14 = .ok (.getfield 45, 3) := by decide +kernel
theorem dX7_foundEvents_17 : decode cX7_foundEvents 17 = .ok (.iload_n 2, 1) := by decide +kernel
theorem dX7_foundEvents_18 : decode cX7_foundEvents 18 = .ok (.baload, 1) := by decide +kernel
theorem dX7_foundEvents_19 : decode cX7_foundEvents 19 = .ok (.ifCond .eq 7, 3) := by decide +kernel
theorem dX7_foundEvents_22 : decode cX7_foundEvents 22 = .ok (.iconst 1, 1) := by decide +kernel
theorem dX7_foundEvents_23 : decode cX7_foundEvents 23 = .ok (.goto 4, 3) := by decide +kernel
theorem dX7_foundEvents_26 : decode cX7_foundEvents 26 = .ok (.iconst 0, 1) := by decide +kernel
theorem dX7_foundEvents_27 : decode cX7_foundEvents 27 = .ok (.iadd, 1) := by decide +kernel
theorem dX7_foundEvents_28 : decode cX7_foundEvents 28 = .ok (.istore_n 1, 1) := by decide +kernel
theorem dX7_foundEvents_29 : decode cX7_foundEvents 29 = .ok (.iinc 2 1, 3) := by decide +kernel
theorem dX7_foundEvents_32 : decode cX7_foundEvents 32 = .ok (.goto (-28), 3) := by decide +kernel
theorem dX7_foundEvents_35 : decode cX7_foundEvents 35 = .ok (.iload_n 1, 1) := by decide +kernel
theorem dX7_foundEvents_36 : decode cX7_foundEvents 36 = .ok (.ireturn, 1) := by decide +kernel
theorem dX7_picksOf_0 : decode cX7_picksOf 0 = .ok (.iconst 0, 1) := by decide +kernel
theorem dX7_picksOf_1 : decode cX7_picksOf 1 = .ok (.istore_n 2, 1) := by decide +kernel
theorem dX7_picksOf_2 : decode cX7_picksOf 2 = .ok (.iconst 0, 1) := by decide +kernel
theorem dX7_picksOf_3 : decode cX7_picksOf 3 = .ok (.istore_n 3, 1) := by decide +kernel
theorem dX7_picksOf_4 : decode cX7_picksOf 4 = .ok (.iload_n 3, 1) := by decide +kernel
theorem dX7_picksOf_5 : decode cX7_picksOf 5 = .ok (.aload_n 0, 1) := by decide +kernel
theorem dX7_picksOf_6 : decode cX7_picksOf 6 = .ok (.getfield 64, 3) := by decide +kernel
theorem dX7_picksOf_9 : decode cX7_picksOf 9 = .ok (.if_icmp .ge 27, 3) := by decide +kernel
theorem dX7_picksOf_12 : decode cX7_picksOf 12 = .ok (.iload_n 2, 1) := by decide +kernel
theorem dX7_picksOf_13 : decode cX7_picksOf 13 = .ok (.aload_n 0, 1) := by decide +kernel
theorem dX7_picksOf_14 : decode cX7_picksOf 14 = .ok (.getfield 39, 3) := by decide +kernel
theorem dX7_picksOf_17 : decode cX7_picksOf 17 = .ok (.iload_n 3, 1) := by decide +kernel
theorem dX7_picksOf_18 : decode cX7_picksOf 18 = .ok (.iaload, 1) := by decide +kernel
theorem dX7_picksOf_19 : decode cX7_picksOf 19 = .ok (.iload_n 1, 1) := by decide +kernel
theorem dX7_picksOf_20 : decode cX7_picksOf 20 = .ok (.if_icmp .ne 7, 3) := by decide +kernel
theorem dX7_picksOf_23 : decode cX7_picksOf 23 = .ok (.iconst 1, 1) := by decide +kernel
theorem dX7_picksOf_24 : decode cX7_picksOf 24 = .ok (.goto 4, 3) := by decide +kernel
theorem dX7_picksOf_27 : decode cX7_picksOf 27 = .ok (.iconst 0, 1) := by decide +kernel
theorem dX7_picksOf_28 : decode cX7_picksOf 28 = .ok (.iadd, 1) := by decide +kernel
theorem dX7_picksOf_29 : decode cX7_picksOf 29 = .ok (.istore_n 2, 1) := by decide +kernel
theorem dX7_picksOf_30 : decode cX7_picksOf 30 = .ok (.iinc 3 1, 3) := by decide +kernel
theorem dX7_picksOf_33 : decode cX7_picksOf 33 = .ok (.goto (-29), 3) := by decide +kernel
theorem dX7_picksOf_36 : decode cX7_picksOf 36 = .ok (.iload_n 2, 1) := by decide +kernel
theorem dX7_picksOf_37 : decode cX7_picksOf 37 = .ok (.ireturn, 1) := by decide +kernel
theorem dX7_counted_0 : decode cX7_counted 0 = .ok (.iload_n 1, 1) := by decide +kernel
theorem dX7_counted_1 : decode cX7_counted 1 = .ok (.iconst 3, 1) := by decide +kernel
theorem dX7_counted_2 : decode cX7_counted 2 = .ok (.if_icmp .ge 31, 3) := by decide +kernel
theorem dX7_counted_5 : decode cX7_counted 5 = .ok (.iload_n 1, 1) := by decide +kernel
theorem dX7_counted_6 : decode cX7_counted 6 = .ok (.ifCond .ne 10, 3) := by decide +kernel
theorem dX7_counted_9 : decode cX7_counted 9 = .ok (.aload_n 0, 1) := by decide +kernel
theorem dX7_counted_10 : decode cX7_counted 10 = .ok (.getfield 57, 3) := by decide +kernel
theorem dX7_counted_13 : decode cX7_counted 13 = .ok (.goto 19, 3) := by decide +kernel
theorem dX7_counted_16 : decode cX7_counted 16 = .ok (.iload_n 1, 1) := by decide +kernel
theorem dX7_counted_17 : decode cX7_counted 17 = .ok (.iconst 1, 1) := by decide +kernel
theorem dX7_counted_18 : decode cX7_counted 18 = .ok (.if_icmp .ne 10, 3) := by decide +kernel
theorem dX7_counted_21 : decode cX7_counted 21 = .ok (.aload_n 0, 1) := by decide +kernel
theorem dX7_counted_22 : decode cX7_counted 22 = .ok (.getfield 64, 3) := by decide +kernel
theorem dX7_counted_25 : decode cX7_counted 25 = .ok (.goto 7, 3) := by decide +kernel
theorem dX7_counted_28 : decode cX7_counted 28 = .ok (.aload_n 0, 1) := by decide +kernel
theorem dX7_counted_29 : decode cX7_counted 29 = .ok (.getfield 67, 3) := by decide +kernel
theorem dX7_counted_32 : decode cX7_counted 32 = .ok (.ireturn, 1) := by decide +kernel
theorem dX7_counted_33 : decode cX7_counted 33 = .ok (.iload_n 1, 1) := by decide +kernel
theorem dX7_counted_34 : decode cX7_counted 34 = .ok (.iconst 3, 1) := by decide +kernel
theorem dX7_counted_35 : decode cX7_counted 35 = .ok (.if_icmp .ne 10, 3) := by decide +kernel
theorem dX7_counted_38 : decode cX7_counted 38 = .ok (.aload_n 0, 1) := by decide +kernel
theorem dX7_counted_39 : decode cX7_counted 39 = .ok (.invokevirtual 136, 3) := by decide +kernel
theorem dX7_counted_42 : decode cX7_counted 42 = .ok (.goto 8, 3) := by decide +kernel
theorem dX7_counted_45 : decode cX7_counted 45 = .ok (.aload_n 0, 1) := by decide +kernel
theorem dX7_counted_46 : decode cX7_counted 46 = .ok (.iconst (-1), 1) := by decide +kernel
theorem dX7_counted_47 : decode cX7_counted 47 = .ok (.invokevirtual 140, 3) := by decide +kernel
theorem dX7_counted_50 : decode cX7_counted 50 = .ok (.ireturn, 1) := by decide +kernel
theorem ky_X7_picksOf : yX7_picksOf.cls ≠ "java/lang/invoke/MethodHandle" ∧ yX7_picksOf.cls ≠ "java/lang/invoke/VarHandle" ∧ (parseMethodDescriptor yX7_picksOf.desc).map (fun d => d.parameters.length) = some 1 := by decide +kernel
theorem kc_X7_counted_47 : ∀ w ∈ ([Cond.methodLink "QuakeBenchModel" 140 yX7_picksOf, Cond.instanceMethod yX7_picksOf, Cond.selects "QuakeBenchModel" yX7_picksOf yX7_picksOf, Cond.initialized "QuakeBenchModel", Cond.code yX7_picksOf prog_9_method_32_code 4 (Option.some Jvm.ClassFile.FieldType.int)] : List Cond), w ∈ lw_all := zin [1366, 1368, 43, 61, 1369] (by decide +kernel)
theorem ky_X7_foundEvents : yX7_foundEvents.cls ≠ "java/lang/invoke/MethodHandle" ∧ yX7_foundEvents.cls ≠ "java/lang/invoke/VarHandle" ∧ (parseMethodDescriptor yX7_foundEvents.desc).map (fun d => d.parameters.length) = some 0 := by decide +kernel
theorem kc_X7_counted_39 : ∀ w ∈ ([Cond.methodLink "QuakeBenchModel" 136 yX7_foundEvents, Cond.instanceMethod yX7_foundEvents, Cond.selects "QuakeBenchModel" yX7_foundEvents yX7_foundEvents, Cond.initialized "QuakeBenchModel", Cond.code yX7_foundEvents prog_9_method_29_code 3 (Option.some Jvm.ClassFile.FieldType.int)] : List Cond), w ∈ lw_all := zin [1362, 1364, 42, 61, 1365] (by decide +kernel)
theorem dX7_count_0 : decode cX7_count 0 = .ok (.aload_n 0, 1) := by decide +kernel
theorem dX7_count_1 : decode cX7_count 1 = .ok (.iconst 0, 1) := by decide +kernel
theorem dX7_count_2 : decode cX7_count 2 = .ok (.putfield 54, 3) := by decide +kernel
theorem dX7_count_5 : decode cX7_count 5 = .ok (.iload_n 1, 1) := by decide +kernel
theorem dX7_count_6 : decode cX7_count 6 = .ok (.iconst 0, 1) := by decide +kernel
theorem dX7_count_7 : decode cX7_count 7 = .ok (.iconst 4, 1) := by decide +kernel
theorem dX7_count_8 : decode cX7_count 8 = .ok (.invokestatic 60, 3) := by decide +kernel
theorem dX7_count_11 : decode cX7_count 11 = .ok (.ifCond .eq 11, 3) := by decide +kernel
theorem dX7_count_14 : decode cX7_count 14 = .ok (.aload_n 0, 1) := by decide +kernel
theorem dX7_count_15 : decode cX7_count 15 = .ok (.iload_n 1, 1) := by decide +kernel
theorem dX7_count_16 : decode cX7_count 16 = .ok (.invokevirtual 143, 3) := by decide +kernel
theorem dX7_count_19 : decode cX7_count 19 = .ok (.goto 8, 3) := by decide +kernel
theorem dX7_count_22 : decode cX7_count 22 = .ok (.aload_n 0, 1) := by decide +kernel
theorem dX7_count_23 : decode cX7_count 23 = .ok (.iconst 1, 1) := by decide +kernel
theorem dX7_count_24 : decode cX7_count 24 = .ok (.invokevirtual 70, 3) := by decide +kernel
theorem dX7_count_27 : decode cX7_count 27 = .ok (.ireturn, 1) := by decide +kernel
theorem kc_X7_count_8 : ∀ w ∈ ([Cond.methodLink "QuakeBenchModel" 60 yX7_isIn, Cond.static yX7_isIn, Cond.initialized "QuakeBenchModel", Cond.code yX7_isIn prog_9_method_4_code 3 (Option.some Jvm.ClassFile.FieldType.boolean)] : List Cond), w ∈ lw_all := zin [1236, 1237, 61, 1238] (by decide +kernel)
theorem kc_X7_count_24 : ∀ w ∈ ([Cond.methodLink "QuakeBenchModel" 70 yX7_no, Cond.instanceMethod yX7_no, Cond.selects "QuakeBenchModel" yX7_no yX7_no, Cond.initialized "QuakeBenchModel", Cond.code yX7_no prog_9_method_3_code 2 (Option.some Jvm.ClassFile.FieldType.int)] : List Cond), w ∈ lw_all := zin [1239, 1241, 25, 61, 1242] (by decide +kernel)
theorem ky_X7_counted : yX7_counted.cls ≠ "java/lang/invoke/MethodHandle" ∧ yX7_counted.cls ≠ "java/lang/invoke/VarHandle" ∧ (parseMethodDescriptor yX7_counted.desc).map (fun d => d.parameters.length) = some 1 := by decide +kernel
theorem kc_X7_count_16 : ∀ w ∈ ([Cond.methodLink "QuakeBenchModel" 143 yX7_counted, Cond.instanceMethod yX7_counted, Cond.selects "QuakeBenchModel" yX7_counted yX7_counted, Cond.initialized "QuakeBenchModel", Cond.code yX7_counted prog_9_method_30_code 2 (Option.some Jvm.ClassFile.FieldType.int)] : List Cond), w ∈ lw_all := zin [1358, 1360, 41, 61, 1361] (by decide +kernel)
theorem dX7_addStation_0 : decode cX7_addStation 0 = .ok (.aload_n 0, 1) := by decide +kernel
theorem dX7_addStation_1 : decode cX7_addStation 1 = .ok (.iconst 0, 1) := by decide +kernel
theorem dX7_addStation_2 : decode cX7_addStation 2 = .ok (.putfield 54, 3) := by decide +kernel
theorem dX7_addStation_5 : decode cX7_addStation 5 = .ok (.iload_n 1, 1) := by decide +kernel
theorem dX7_addStation_6 : decode cX7_addStation 6 = .ok (.iconst 0, 1) := by decide +kernel
theorem dX7_addStation_7 : decode cX7_addStation 7 = .ok (.sipush 200, 3) := by decide +kernel
theorem dX7_addStation_10 : decode cX7_addStation 10 = .ok (.invokestatic 60, 3) := by decide +kernel
theorem dX7_addStation_13 : decode cX7_addStation 13 = .ok (.ifCond .eq 14, 3) := by decide +kernel
theorem dX7_addStation_16 : decode cX7_addStation 16 = .ok (.iload_n 2, 1) := by decide +kernel
theorem dX7_addStation_17 : decode cX7_addStation 17 = .ok (.iconst 0, 1) := by decide +kernel
theorem dX7_addStation_18 : decode cX7_addStation 18 = .ok (.sipush 200, 3) := by decide +kernel
theorem dX7_addStation_21 : decode cX7_addStation 21 = .ok (.invokestatic 60, 3) := by decide +kernel
theorem dX7_addStation_24 : decode cX7_addStation 24 = .ok (.ifCond .ne 9, 3) := by decide +kernel
theorem dX7_addStation_27 : decode cX7_addStation 27 = .ok (.aload_n 0, 1) := by decide +kernel
theorem dX7_addStation_28 : decode cX7_addStation 28 = .ok (.iconst 1, 1) := by decide +kernel
theorem dX7_addStation_29 : decode cX7_addStation 29 = .ok (.invokevirtual 70, 3) := by decide +kernel
theorem dX7_addStation_32 : decode cX7_addStation 32 = .ok (.ireturn, 1) := by decide +kernel
theorem dX7_addStation_33 : decode cX7_addStation 33 = .ok (.aload_n 0, 1) := by decide +kernel
theorem dX7_addStation_34 : decode cX7_addStation 34 = .ok (.getfield 57, 3) := by decide +kernel
theorem dX7_addStation_37 : decode cX7_addStation 37 = .ok (.bipush 10, 2) := by decide +kernel
theorem dX7_addStation_39 : decode cX7_addStation 39 = .ok (.if_icmp .ne 9, 3) := by decide +kernel
theorem dX7_addStation_42 : decode cX7_addStation 42 = .ok (.aload_n 0, 1) := by decide +kernel
theorem dX7_addStation_43 : decode cX7_addStation 43 = .ok (.iconst 2, 1) := by decide +kernel
theorem dX7_addStation_44 : decode cX7_addStation 44 = .ok (.invokevirtual 70, 3) := by decide +kernel
theorem dX7_addStation_47 : decode cX7_addStation 47 = .ok (.ireturn, 1) := by decide +kernel
theorem dX7_addStation_48 : decode cX7_addStation 48 = .ok (.aload_n 0, 1) := by decide +kernel
theorem dX7_addStation_49 : decode cX7_addStation 49 = .ok (.getfield 16, 3) := by decide +kernel
theorem dX7_addStation_52 : decode cX7_addStation 52 = .ok (.aload_n 0, 1) := by decide +kernel
theorem dX7_addStation_53 : decode cX7_addStation 53 = .ok (.getfield 57, 3) := by decide +kernel
theorem dX7_addStation_56 : decode cX7_addStation 56 = .ok (.iload_n 1, 1) := by decide +kernel
theorem dX7_addStation_57 : decode cX7_addStation 57 = .ok (.iastore, 1) := by decide +kernel
theorem dX7_addStation_58 : decode cX7_addStation 58 = .ok (.aload_n 0, 1) := by decide +kernel
theorem dX7_addStation_59 : decode cX7_addStation 59 = .ok (.getfield 20, 3) := by decide +kernel
theorem dX7_addStation_62 : decode cX7_addStation 62 = .ok (.aload_n 0, 1) := by decide +kernel
theorem dX7_addStation_63 : decode cX7_addStation 63 = .ok (.getfield 57, 3) := by decide +kernel
theorem dX7_addStation_66 : decode cX7_addStation 66 = .ok (.iload_n 2, 1) := by decide +kernel
theorem dX7_addStation_67 : decode cX7_addStation 67 = .ok (.iastore, 1) := by decide +kernel
theorem dX7_addStation_68 : decode cX7_addStation 68 = .ok (.aload_n 0, 1) := by decide +kernel
theorem dX7_addStation_69 : decode cX7_addStation 69 = .ok (.dup, 1) := by decide +kernel
theorem dX7_addStation_70 : decode cX7_addStation 70 = .ok (.getfield 57, 3) := by decide +kernel
theorem dX7_addStation_73 : decode cX7_addStation 73 = .ok (.iconst 1, 1) := by decide +kernel
theorem dX7_addStation_74 : decode cX7_addStation 74 = .ok (.iadd, 1) := by decide +kernel
theorem dX7_addStation_75 : decode cX7_addStation 75 = .ok (.putfield 57, 3) := by decide +kernel
theorem dX7_addStation_78 : decode cX7_addStation 78 = .ok (.aload_n 0, 1) := by decide +kernel
theorem dX7_addStation_79 : decode cX7_addStation 79 = .ok (.getfield 57, 3) := by decide +kernel
theorem dX7_addStation_82 : decode cX7_addStation 82 = .ok (.iconst 1, 1) := by decide +kernel
theorem dX7_addStation_83 : decode cX7_addStation 83 = .ok (.isub, 1) := by decide +kernel
theorem dX7_addStation_84 : decode cX7_addStation 84 = .ok (.ireturn, 1) := by decide +kernel
theorem kc_X7_addStation_10 : ∀ w ∈ ([Cond.methodLink "QuakeBenchModel" 60 yX7_isIn, Cond.static yX7_isIn, Cond.initialized "QuakeBenchModel", Cond.code yX7_isIn prog_9_method_4_code 3 (Option.some Jvm.ClassFile.FieldType.boolean)] : List Cond), w ∈ lw_all := zin [1236, 1237, 61, 1238] (by decide +kernel)
theorem kc_X7_addStation_29 : ∀ w ∈ ([Cond.methodLink "QuakeBenchModel" 70 yX7_no, Cond.instanceMethod yX7_no, Cond.selects "QuakeBenchModel" yX7_no yX7_no, Cond.initialized "QuakeBenchModel", Cond.code yX7_no prog_9_method_3_code 2 (Option.some Jvm.ClassFile.FieldType.int)] : List Cond), w ∈ lw_all := zin [1239, 1241, 25, 61, 1242] (by decide +kernel)
theorem kc_X7_addStation_21 : ∀ w ∈ ([Cond.methodLink "QuakeBenchModel" 60 yX7_isIn, Cond.static yX7_isIn, Cond.initialized "QuakeBenchModel", Cond.code yX7_isIn prog_9_method_4_code 3 (Option.some Jvm.ClassFile.FieldType.boolean)] : List Cond), w ∈ lw_all := zin [1236, 1237, 61, 1238] (by decide +kernel)
theorem kw_1173 : Cond.fieldLink "QuakeBenchModel" 16 "QuakeBenchModel" "xs" "[I" ∈ lw_all := zin1 1173 (by decide +kernel)
theorem kw_1174 : Cond.fieldLink "QuakeBenchModel" 20 "QuakeBenchModel" "ys" "[I" ∈ lw_all := zin1 1174 (by decide +kernel)
theorem dX7_addEvent_0 : decode cX7_addEvent 0 = .ok (.aload_n 0, 1) := by decide +kernel
theorem dX7_addEvent_1 : decode cX7_addEvent 1 = .ok (.iconst 0, 1) := by decide +kernel
theorem dX7_addEvent_2 : decode cX7_addEvent 2 = .ok (.putfield 54, 3) := by decide +kernel
theorem dX7_addEvent_5 : decode cX7_addEvent 5 = .ok (.aload_n 0, 1) := by decide +kernel
theorem dX7_addEvent_6 : decode cX7_addEvent 6 = .ok (.getfield 67, 3) := by decide +kernel
theorem dX7_addEvent_9 : decode cX7_addEvent 9 = .ok (.bipush 12, 2) := by decide +kernel
theorem dX7_addEvent_11 : decode cX7_addEvent 11 = .ok (.if_icmp .ne 9, 3) := by decide +kernel
theorem dX7_addEvent_14 : decode cX7_addEvent 14 = .ok (.aload_n 0, 1) := by decide +kernel
theorem dX7_addEvent_15 : decode cX7_addEvent 15 = .ok (.iconst 1, 1) := by decide +kernel
theorem dX7_addEvent_16 : decode cX7_addEvent 16 = .ok (.invokevirtual 70, 3) := by decide +kernel
theorem dX7_addEvent_19 : decode cX7_addEvent 19 = .ok (.ireturn, 1) := by decide +kernel
theorem dX7_addEvent_20 : decode cX7_addEvent 20 = .ok (.aload_n 0, 1) := by decide +kernel
theorem dX7_addEvent_21 : decode cX7_addEvent 21 = .ok (.getfield 45, 3) := by decide +kernel
theorem dX7_addEvent_24 : decode cX7_addEvent 24 = .ok (.aload_n 0, 1) := by decide +kernel
theorem dX7_addEvent_25 : decode cX7_addEvent 25 = .ok (.getfield 67, 3) := by decide +kernel
theorem dX7_addEvent_28 : decode cX7_addEvent 28 = .ok (.iconst 0, 1) := by decide +kernel
theorem dX7_addEvent_29 : decode cX7_addEvent 29 = .ok (.bastore, 1) := by decide +kernel
theorem dX7_addEvent_30 : decode cX7_addEvent 30 = .ok (.aload_n 0, 1) := by decide +kernel
theorem dX7_addEvent_31 : decode cX7_addEvent 31 = .ok (.dup, 1) := by decide +kernel
theorem dX7_addEvent_32 : decode cX7_addEvent 32 = .ok (.getfield 67, 3) := by decide +kernel
theorem dX7_addEvent_35 : decode cX7_addEvent 35 = .ok (.iconst 1, 1) := by decide +kernel
theorem dX7_addEvent_36 : decode cX7_addEvent 36 = .ok (.iadd, 1) := by decide +kernel
theorem dX7_addEvent_37 : decode cX7_addEvent 37 = .ok (.putfield 67, 3) := by decide +kernel
theorem dX7_addEvent_40 : decode cX7_addEvent 40 = .ok (.aload_n 0, 1) := by decide +kernel
theorem dX7_addEvent_41 : decode cX7_addEvent 41 = .ok (.getfield 67, 3) := by decide +kernel
theorem dX7_addEvent_44 : decode cX7_addEvent 44 = .ok (.iconst 1, 1) := by decide +kernel
theorem dX7_addEvent_45 : decode cX7_addEvent 45 = .ok (.isub, 1) := by decide +kernel
theorem dX7_addEvent_46 : decode cX7_addEvent 46 = .ok (.ireturn, 1) := by decide +kernel
theorem kw_1184 : Cond.fieldLink "QuakeBenchModel" 45 "QuakeBenchModel" "areFound" "[Z" ∈ lw_all := zin1 1184 (by decide +kernel)
theorem dX7_setSpeeds_0 : decode cX7_setSpeeds 0 = .ok (.aload_n 0, 1) := by decide +kernel
theorem dX7_setSpeeds_1 : decode cX7_setSpeeds 1 = .ok (.iconst 0, 1) := by decide +kernel
theorem dX7_setSpeeds_2 : decode cX7_setSpeeds 2 = .ok (.putfield 54, 3) := by decide +kernel
theorem dX7_setSpeeds_5 : decode cX7_setSpeeds 5 = .ok (.iload_n 1, 1) := by decide +kernel
theorem dX7_setSpeeds_6 : decode cX7_setSpeeds 6 = .ok (.sipush 3000, 3) := by decide +kernel
theorem dX7_setSpeeds_9 : decode cX7_setSpeeds 9 = .ok (.sipush 9000, 3) := by decide +kernel
theorem dX7_setSpeeds_12 : decode cX7_setSpeeds 12 = .ok (.invokestatic 60, 3) := by decide +kernel
theorem dX7_setSpeeds_15 : decode cX7_setSpeeds 15 = .ok (.ifCond .eq 16, 3) := by decide +kernel
theorem dX7_setSpeeds_18 : decode cX7_setSpeeds 18 = .ok (.iload_n 2, 1) := by decide +kernel
theorem dX7_setSpeeds_19 : decode cX7_setSpeeds 19 = .ok (.sipush 150, 3) := by decide +kernel
theorem dX7_setSpeeds_22 : decode cX7_setSpeeds 22 = .ok (.sipush 200, 3) := by decide +kernel
theorem dX7_setSpeeds_25 : decode cX7_setSpeeds 25 = .ok (.invokestatic 60, 3) := by decide +kernel
theorem dX7_setSpeeds_28 : decode cX7_setSpeeds 28 = .ok (.ifCond .ne 9, 3) := by decide +kernel
theorem dX7_setSpeeds_31 : decode cX7_setSpeeds 31 = .ok (.aload_n 0, 1) := by decide +kernel
theorem dX7_setSpeeds_32 : decode cX7_setSpeeds 32 = .ok (.iconst 1, 1) := by decide +kernel
theorem dX7_setSpeeds_33 : decode cX7_setSpeeds 33 = .ok (.invokevirtual 70, 3) := by decide +kernel
theorem dX7_setSpeeds_36 : decode cX7_setSpeeds 36 = .ok (.ireturn, 1) := by decide +kernel
theorem dX7_setSpeeds_37 : decode cX7_setSpeeds 37 = .ok (.aload_n 0, 1) := by decide +kernel
theorem dX7_setSpeeds_38 : decode cX7_setSpeeds 38 = .ok (.iload_n 1, 1) := by decide +kernel
theorem dX7_setSpeeds_39 : decode cX7_setSpeeds 39 = .ok (.putfield 7, 3) := by decide +kernel
theorem dX7_setSpeeds_42 : decode cX7_setSpeeds 42 = .ok (.aload_n 0, 1) := by decide +kernel
theorem dX7_setSpeeds_43 : decode cX7_setSpeeds 43 = .ok (.iload_n 1, 1) := by decide +kernel
theorem dX7_setSpeeds_44 : decode cX7_setSpeeds 44 = .ok (.bipush 100, 2) := by decide +kernel
theorem dX7_setSpeeds_46 : decode cX7_setSpeeds 46 = .ok (.imul, 1) := by decide +kernel
theorem dX7_setSpeeds_47 : decode cX7_setSpeeds 47 = .ok (.iload_n 2, 1) := by decide +kernel
theorem dX7_setSpeeds_48 : decode cX7_setSpeeds 48 = .ok (.idiv, 1) := by decide +kernel
theorem dX7_setSpeeds_49 : decode cX7_setSpeeds 49 = .ok (.putfield 13, 3) := by decide +kernel
theorem dX7_setSpeeds_52 : decode cX7_setSpeeds 52 = .ok (.iconst 0, 1) := by decide +kernel
theorem dX7_setSpeeds_53 : decode cX7_setSpeeds 53 = .ok (.istore_n 3, 1) := by decide +kernel
theorem dX7_setSpeeds_54 : decode cX7_setSpeeds 54 = .ok (.iload_n 3, 1) := by decide +kernel
theorem dX7_setSpeeds_55 : decode cX7_setSpeeds 55 = .ok (.aload_n 0, 1) := by decide +kernel
theorem dX7_setSpeeds_56 : decode cX7_setSpeeds 56 = .ok (.getfield 67, 3) := by decide +kernel
theorem dX7_setSpeeds_59 : decode cX7_setSpeeds 59 = .ok (.if_icmp .ge 16, 3) := by decide +kernel
theorem dX7_setSpeeds_62 : decode cX7_setSpeeds 62 = .ok (.aload_n 0, 1) := by decide +kernel
theorem dX7_setSpeeds_63 : decode cX7_setSpeeds 63 = .ok (.getfield 45, 3) := by decide +kernel
theorem dX7_setSpeeds_66 : decode cX7_setSpeeds 66 = .ok (.iload_n 3, 1) := by decide +kernel
theorem dX7_setSpeeds_67 : decode cX7_setSpeeds 67 = .ok (.iconst 0, 1) := by decide +kernel
theorem dX7_setSpeeds_68 : decode cX7_setSpeeds 68 = .ok (.bastore, 1) := by decide +kernel
theorem dX7_setSpeeds_69 : decode cX7_setSpeeds 69 = .ok (.iinc 3 1, 3) := by decide +kernel
theorem dX7_setSpeeds_72 : decode cX7_setSpeeds 72 = .ok (.goto (-18), 3) := by decide +kernel
theorem dX7_setSpeeds_75 : decode cX7_setSpeeds 75 = .ok (.aload_n 0, 1) := by decide +kernel
theorem dX7_setSpeeds_76 : decode cX7_setSpeeds 76 = .ok (.getfield 13, 3) := by decide +kernel
theorem dX7_setSpeeds_79 : decode cX7_setSpeeds 79 = .ok (.ireturn, 1) := by decide +kernel
theorem kc_X7_setSpeeds_12 : ∀ w ∈ ([Cond.methodLink "QuakeBenchModel" 60 yX7_isIn, Cond.static yX7_isIn, Cond.initialized "QuakeBenchModel", Cond.code yX7_isIn prog_9_method_4_code 3 (Option.some Jvm.ClassFile.FieldType.boolean)] : List Cond), w ∈ lw_all := zin [1236, 1237, 61, 1238] (by decide +kernel)
theorem kc_X7_setSpeeds_33 : ∀ w ∈ ([Cond.methodLink "QuakeBenchModel" 70 yX7_no, Cond.instanceMethod yX7_no, Cond.selects "QuakeBenchModel" yX7_no yX7_no, Cond.initialized "QuakeBenchModel", Cond.code yX7_no prog_9_method_3_code 2 (Option.some Jvm.ClassFile.FieldType.int)] : List Cond), w ∈ lw_all := zin [1239, 1241, 25, 61, 1242] (by decide +kernel)
theorem kc_X7_setSpeeds_25 : ∀ w ∈ ([Cond.methodLink "QuakeBenchModel" 60 yX7_isIn, Cond.static yX7_isIn, Cond.initialized "QuakeBenchModel", Cond.code yX7_isIn prog_9_method_4_code 3 (Option.some Jvm.ClassFile.FieldType.boolean)] : List Cond), w ∈ lw_all := zin [1236, 1237, 61, 1238] (by decide +kernel)
theorem kw_1170 : Cond.fieldLink "QuakeBenchModel" 7 "QuakeBenchModel" "speedP" "I" ∈ lw_all := zin1 1170 (by decide +kernel)
theorem kw_1171 : Cond.fieldLink "QuakeBenchModel" 13 "QuakeBenchModel" "speedS" "I" ∈ lw_all := zin1 1171 (by decide +kernel)
theorem dX7_associate_0 : decode cX7_associate 0 = .ok (.aload_n 0, 1) := by decide +kernel
theorem dX7_associate_1 : decode cX7_associate 1 = .ok (.iconst 0, 1) := by decide +kernel
theorem dX7_associate_2 : decode cX7_associate 2 = .ok (.putfield 54, 3) := by decide +kernel
theorem dX7_associate_5 : decode cX7_associate 5 = .ok (.bipush 80, 2) := by decide +kernel
theorem dX7_associate_7 : decode cX7_associate 7 = .ok (.newarray .boolean, 2) := by decide +kernel
theorem dX7_associate_9 : decode cX7_associate 9 = .ok (.astore_n 1, 1) := by decide +kernel
theorem dX7_associate_10 : decode cX7_associate 10 = .ok (.iconst 0, 1) := by decide +kernel
theorem dX7_associate_11 : decode cX7_associate 11 = .ok (.istore_n 2, 1) := by decide +kernel
theorem dX7_associate_12 : decode cX7_associate 12 = .ok (.iconst 0, 1) := by decide +kernel
theorem dX7_associate_13 : decode cX7_associate 13 = .ok (.istore_n 3, 1) := by decide +kernel
theorem dX7_associate_14 : decode cX7_associate 14 = .ok (.iload_n 3, 1) := by decide +kernel
theorem dX7_associate_15 : decode cX7_associate 15 = .ok (.aload_n 0, 1) := by decide +kernel
theorem dX7_associate_16 : decode cX7_associate 16 = .ok (.getfield 64, 3) := by decide +kernel
theorem dX7_associate_19 : decode cX7_associate 19 = .ok (.if_icmp .ge 125, 3) := by decide +kernel
theorem dX7_associate_22 : decode cX7_associate 22 = .ok (.iconst (-1), 1) := by decide +kernel
theorem dX7_associate_23 : decode cX7_associate 23 = .ok (.istore 4, 2) := by decide +kernel
theorem dX7_associate_25 : decode cX7_associate 25 = .ok (.iconst 0, 1) := by decide +kernel
theorem dX7_associate_26 : decode cX7_associate 26 = .ok (.istore 5, 2) := by decide +kernel
theorem dX7_associate_28 : decode cX7_associate 28 = .ok (.iload 5, 2) := by decide +kernel
theorem dX7_associate_30 : decode cX7_associate 30 = .ok (.aload_n 0, 1) := by decide +kernel
theorem dX7_associate_31 : decode cX7_associate 31 = .ok (.getfield 64, 3) := by decide +kernel
theorem dX7_associate_34 : decode cX7_associate 34 = .ok (.if_icmp .ge 37, 3) := by decide +kernel
theorem dX7_associate_37 : decode cX7_associate 37 = .ok (.aload_n 1, 1) := by decide +kernel
theorem dX7_associate_38 : decode cX7_associate 38 = .ok (.iload 5, 2) := by decide +kernel
theorem dX7_associate_40 : decode cX7_associate 40 = .ok (.baload, 1) := by decide +kernel
theorem dX7_associate_41 : decode cX7_associate 41 = .ok (.ifCond .ne 24, 3) := by decide +kernel
theorem dX7_associate_44 : decode cX7_associate 44 = .ok (.iload 4, 2) := by decide +kernel
theorem dX7_associate_46 : decode cX7_associate 46 = .ok (.iconst (-1), 1) := by decide +kernel
theorem dX7_associate_47 : decode cX7_associate 47 = .ok (.if_icmp .eq 14, 3) := by decide +kernel
theorem dX7_associate_50 : decode cX7_associate 50 = .ok (.aload_n 0, 1) := by decide +kernel
theorem dX7_associate_51 : decode cX7_associate 51 = .ok (.iload 5, 2) := by decide +kernel
theorem dX7_associate_53 : decode cX7_associate 53 = .ok (.iload 4, 2) := by decide +kernel
theorem dX7_associate_55 : decode cX7_associate 55 = .ok (.invokevirtual 122, 3) := by decide +kernel
theorem dX7_associate_58 : decode cX7_associate 58 = .ok (.ifCond .eq 7, 3) := by decide +kernel
theorem dX7_associate_61 : decode cX7_associate 61 = .ok (.iload 5, 2) := by decide +kernel
theorem dX7_associate_63 : decode cX7_associate 63 = .ok (.istore 4, 2) := by decide +kernel
theorem dX7_associate_65 : decode cX7_associate 65 = .ok (.iinc 5 1, 3) := by decide +kernel
theorem dX7_associate_68 : decode cX7_associate 68 = .ok (.goto (-40), 3) := by decide +kernel
theorem dX7_associate_71 : decode cX7_associate 71 = .ok (.aload_n 1, 1) := by decide +kernel
theorem dX7_associate_72 : decode cX7_associate 72 = .ok (.iload 4, 2) := by decide +kernel
theorem dX7_associate_74 : decode cX7_associate 74 = .ok (.iconst 1, 1) := by decide +kernel
theorem dX7_associate_75 : decode cX7_associate 75 = .ok (.bastore, 1) := by decide +kernel
theorem dX7_associate_76 : decode cX7_associate 76 = .ok (.aload_n 0, 1) := by decide +kernel
theorem dX7_associate_77 : decode cX7_associate 77 = .ok (.getfield 39, 3) := by decide +kernel
theorem dX7_associate_80 : decode cX7_associate 80 = .ok (.iload 4, 2) := by decide +kernel
theorem dX7_associate_82 : decode cX7_associate 82 = .ok (.iaload, 1) := by decide +kernel
theorem dX7_associate_83 : decode cX7_associate 83 = .ok (.iconst (-1), 1) := by decide +kernel
theorem dX7_associate_84 : decode cX7_associate 84 = .ok (.if_icmp .eq 6, 3) := by decide +kernel
theorem dX7_associate_87 : decode cX7_associate 87 = .ok (.goto 51, 3) := by decide +kernel
theorem dX7_associate_90 : decode cX7_associate 90 = .ok (.aload_n 0, 1) := by decide +kernel
theorem dX7_associate_91 : decode cX7_associate 91 = .ok (.iload 4, 2) := by decide +kernel
theorem dX7_associate_93 : decode cX7_associate 93 = .ok (.invokevirtual 130, 3) := by decide +kernel
theorem dX7_associate_96 : decode cX7_associate 96 = .ok (.istore 5, 2) := by decide +kernel
theorem dX7_associate_98 : decode cX7_associate 98 = .ok (.iload 5, 2) := by decide +kernel
theorem dX7_associate_100 : decode cX7_associate 100 = .ok (.iconst (-1), 1) := by decide +kernel
theorem dX7_associate_101 : decode cX7_associate 101 = .ok (.if_icmp .eq 18, 3) := by decide +kernel
theorem dX7_associate_104 : decode cX7_associate 104 = .ok (.aload_n 0, 1) := by decide +kernel
theorem dX7_associate_105 : decode cX7_associate 105 = .ok (.getfield 39, 3) := by decide +kernel
theorem dX7_associate_108 : decode cX7_associate 108 = .ok (.iload 4, 2) := by decide +kernel
theorem dX7_associate_110 : decode cX7_associate 110 = .ok (.iload 5, 2) := by decide +kernel
theorem dX7_associate_112 : decode cX7_associate 112 = .ok (.iastore, 1) := by decide +kernel
theorem dX7_associate_113 : decode cX7_associate 113 = .ok (.iinc 2 1, 3) := by decide +kernel
theorem dX7_associate_116 : decode cX7_associate 116 = .ok (.goto 22, 3) := by decide +kernel
theorem dX7_associate_119 : decode cX7_associate 119 = .ok (.aload_n 0, 1) := by decide +kernel
theorem dX7_associate_120 : decode cX7_associate 120 = .ok (.getfield 29, 3) := by decide +kernel
theorem dX7_associate_123 : decode cX7_associate 123 = .ok (.iload 4, 2) := by decide +kernel
theorem dX7_associate_125 : decode cX7_associate 125 = .ok (.baload, 1) := by decide +kernel
theorem dX7_associate_126 : decode cX7_associate 126 = .ok (.ifCond .ne 12, 3) := by decide +kernel
theorem dX7_associate_129 : decode cX7_associate 129 = .ok (.iload_n 2, 1) := by decide +kernel
theorem dX7_associate_130 : decode cX7_associate 130 = .ok (.aload_n 0, 1) := by decide +kernel
theorem dX7_associate_131 : decode cX7_associate 131 = .ok (.iload 4, 2) := by decide +kernel
theorem dX7_associate_133 : decode cX7_associate 133 = .ok (.invokevirtual 133, 3) := by decide +kernel
theorem dX7_associate_136 : decode cX7_associate 136 = .ok (.iadd, 1) := by decide +kernel
theorem dX7_associate_137 : decode cX7_associate 137 = .ok (.istore_n 2, 1) := by decide +kernel
theorem dX7_associate_138 : decode cX7_associate 138 = .ok (.iinc 3 1, 3) := by decide +kernel
theorem dX7_associate_141 : decode cX7_associate 141 = .ok (.goto (-127), 3) := by decide +kernel
theorem dX7_associate_144 : decode cX7_associate 144 = .ok (.iload_n 2, 1) := by decide +kernel
theorem dX7_associate_145 : decode cX7_associate 145 = .ok (.ireturn, 1) := by decide +kernel
theorem kw_1227 : Cond.arrayClass Jvm.ClassFile.FieldType.boolean ∈ lw_all := zin1 1227 (by decide +kernel)
theorem dX7_nearest_0 : decode cX7_nearest 0 = .ok (.aload_n 0, 1) := by decide +kernel
theorem dX7_nearest_1 : decode cX7_nearest 1 = .ok (.iconst 0, 1) := by decide +kernel
theorem dX7_nearest_2 : decode cX7_nearest 2 = .ok (.putfield 54, 3) := by decide +kernel
theorem dX7_nearest_5 : decode cX7_nearest 5 = .ok (.iload_n 1, 1) := by decide +kernel
theorem dX7_nearest_6 : decode cX7_nearest 6 = .ok (.iload_n 2, 1) := by decide +kernel
theorem dX7_nearest_7 : decode cX7_nearest 7 = .ok (.iload_n 3, 1) := by decide +kernel
theorem dX7_nearest_8 : decode cX7_nearest 8 = .ok (.invokestatic 88, 3) := by decide +kernel
theorem dX7_nearest_11 : decode cX7_nearest 11 = .ok (.ifCond .ne 9, 3) := by decide +kernel
theorem dX7_nearest_14 : decode cX7_nearest 14 = .ok (.aload_n 0, 1) := by decide +kernel
theorem dX7_nearest_15 : decode cX7_nearest 15 = .ok (.iconst 1, 1) := by decide +kernel
theorem dX7_nearest_16 : decode cX7_nearest 16 = .ok (.invokevirtual 70, 3) := by decide +kernel
theorem dX7_nearest_19 : decode cX7_nearest 19 = .ok (.ireturn, 1) := by decide +kernel
theorem dX7_nearest_20 : decode cX7_nearest 20 = .ok (.iconst (-1), 1) := by decide +kernel
theorem dX7_nearest_21 : decode cX7_nearest 21 = .ok (.istore 4, 2) := by decide +kernel
theorem dX7_nearest_23 : decode cX7_nearest 23 = .ok (.iconst 0, 1) := by decide +kernel
theorem dX7_nearest_24 : decode cX7_nearest 24 = .ok (.istore 5, 2) := by decide +kernel
theorem dX7_nearest_26 : decode cX7_nearest 26 = .ok (.iload 5, 2) := by decide +kernel
theorem dX7_nearest_28 : decode cX7_nearest 28 = .ok (.aload_n 0, 1) := by decide +kernel
theorem dX7_nearest_29 : decode cX7_nearest 29 = .ok (.getfield 67, 3) := by decide +kernel
theorem dX7_nearest_32 : decode cX7_nearest 32 = .ok (.if_icmp .ge 50, 3) := by decide +kernel
theorem dX7_nearest_35 : decode cX7_nearest 35 = .ok (.aload_n 0, 1) := by decide +kernel
theorem dX7_nearest_36 : decode cX7_nearest 36 = .ok (.getfield 45, 3) := by decide +kernel
theorem dX7_nearest_39 : decode cX7_nearest 39 = .ok (.iload 5, 2) := by decide +kernel
theorem dX7_nearest_41 : decode cX7_nearest 41 = .ok (.baload, 1) := by decide +kernel
theorem dX7_nearest_42 : decode cX7_nearest 42 = .ok (.ifCond .eq 34, 3) := by decide +kernel
theorem dX7_nearest_45 : decode cX7_nearest 45 = .ok (.iload 4, 2) := by decide +kernel
theorem dX7_nearest_47 : decode cX7_nearest 47 = .ok (.iconst (-1), 1) := by decide +kernel
theorem dX7_nearest_48 : decode cX7_nearest 48 = .ok (.if_icmp .eq 24, 3) := by decide +kernel
theorem dX7_nearest_51 : decode cX7_nearest 51 = .ok (.aload_n 0, 1) := by decide +kernel
theorem dX7_nearest_52 : decode cX7_nearest 52 = .ok (.iload 5, 2) := by decide +kernel
theorem dX7_nearest_54 : decode cX7_nearest 54 = .ok (.iload_n 1, 1) := by decide +kernel
theorem dX7_nearest_55 : decode cX7_nearest 55 = .ok (.iload_n 2, 1) := by decide +kernel
theorem dX7_nearest_56 : decode cX7_nearest 56 = .ok (.iload_n 3, 1) := by decide +kernel
theorem dX7_nearest_57 : decode cX7_nearest 57 = .ok (.invokevirtual 191, 3) := by decide +kernel
theorem dX7_nearest_60 : decode cX7_nearest 60 = .ok (.aload_n 0, 1) := by decide +kernel
theorem dX7_nearest_61 : decode cX7_nearest 61 = .ok (.iload 4, 2) := by decide +kernel
theorem dX7_nearest_63 : decode cX7_nearest 63 = .ok (.iload_n 1, 1) := by decide +kernel
theorem dX7_nearest_64 : decode cX7_nearest 64 = .ok (.iload_n 2, 1) := by decide +kernel
theorem dX7_nearest_65 : decode cX7_nearest 65 = .ok (.iload_n 3, 1) := by decide +kernel
theorem dX7_nearest_66 : decode cX7_nearest 66 = .ok (.invokevirtual 191, 3) := by decide +kernel
theorem dX7_nearest_69 : decode cX7_nearest 69 = .ok (.if_icmp .ge 7, 3) := by decide +kernel
theorem dX7_nearest_72 : decode cX7_nearest 72 = .ok (.iload 5, 2) := by decide +kernel
theorem dX7_nearest_74 : decode cX7_nearest 74 = .ok (.istore 4, 2) := by decide +kernel
theorem dX7_nearest_76 : decode cX7_nearest 76 = .ok (.iinc 5 1, 3) := by decide +kernel
theorem dX7_nearest_79 : decode cX7_nearest 79 = .ok (.goto (-53), 3) := by decide +kernel
theorem dX7_nearest_82 : decode cX7_nearest 82 = .ok (.iload 4, 2) := by decide +kernel
theorem dX7_nearest_84 : decode cX7_nearest 84 = .ok (.ireturn, 1) := by decide +kernel
theorem ky_X7_isPlace : yX7_isPlace.cls ≠ "java/lang/invoke/MethodHandle" ∧ yX7_isPlace.cls ≠ "java/lang/invoke/VarHandle" ∧ (parseMethodDescriptor yX7_isPlace.desc).map (fun d => d.parameters.length) = some 3 := by decide +kernel
theorem kc_X7_nearest_8 : ∀ w ∈ ([Cond.methodLink "QuakeBenchModel" 88 yX7_isPlace, Cond.static yX7_isPlace, Cond.initialized "QuakeBenchModel", Cond.code yX7_isPlace prog_9_method_8_code 3 (Option.some Jvm.ClassFile.FieldType.boolean)] : List Cond), w ∈ lw_all := zin [1259, 1260, 61, 1261] (by decide +kernel)
theorem kc_X7_nearest_16 : ∀ w ∈ ([Cond.methodLink "QuakeBenchModel" 70 yX7_no, Cond.instanceMethod yX7_no, Cond.selects "QuakeBenchModel" yX7_no yX7_no, Cond.initialized "QuakeBenchModel", Cond.code yX7_no prog_9_method_3_code 2 (Option.some Jvm.ClassFile.FieldType.int)] : List Cond), w ∈ lw_all := zin [1239, 1241, 25, 61, 1242] (by decide +kernel)
/-! the reference: its calls on a new object that aren't refused at once -/
def zMf (Γ : zY) (G : zG) (μ : Nat → Nat) : Prop := G (μ 0) = some (zI Γ 10 (fun _ => 0)) ∧ G (μ 1) = some (zI Γ 10 (fun _ => 0)) ∧ μ 0 ≠ μ 1 ∧ G (μ 9) = some (zZ Γ 12 (fun _ => 0))
def zMK (G G' : zG) (mo : Nat) (μ : Nat → Nat) (th : Int32) : Prop := (∃ fs, G' mo = some (.inr (8, .int th :: fs))) ∧ ∀ q e, G q = some e → q ≠ mo → (∀ i, q ≠ μ i) → G' q = some e
theorem zMK.u {G : zG} {mo : Nat} {μ : Nat → Nat} {th : Int32} {fs : List Value} : zMK G (zU G mo (.inr (8, .int th :: fs))) mo μ th := ⟨⟨fs, zU_same _ _ _⟩, fun q e h h1 _ => (zU_ne h1).trans h⟩
theorem zMK.uu {G : zG} {mo : Nat} {μ : Nat → Nat} {th : Int32} {fs : List Value} {x : va_E} : zMK G (zU (zU G mo x) mo (.inr (8, .int th :: fs))) mo μ th := by rw [zU_zU]; exact zMK.u
def s_xyk (x y : Int32) : Int32 := if s_in x 0 200 = 0 then 1 else if s_in y 0 200 = 0 then 1 else 0
def s_spk (v r : Int32) : Int32 := if s_in v 3000 9000 = 0 then 1 else if s_in r 150 200 = 0 then 1 else 0
def s_rng (a b : Int32) : Int32 := if s_in a 0 500 = 0 then 0 else if s_in b 0 10000000 = 0 then 0 else 1
def s_pl3 (x y z : Int32) : Int32 := if s_in x 0 200 = 0 then 0 else if s_in y 0 200 = 0 then 0 else if s_in z 0 60 = 0 then 0 else 1
def s_not (x : Int32) : Int32 := if x = 0 then 1 else 0
theorem s_in_ne {x lo hi : Int32} (h : ¬ s_in x lo hi = 0) : ¬ x < lo ∧ ¬ x > hi := by
  unfold s_in at h
  refine ⟨fun z => h (if_pos z), fun z => h ?_⟩
  by_cases h1 : x < lo
  · exact if_pos h1
  · rw [if_neg h1]; exact if_pos z
abbrev rm_m_isRange : Room := { frames := 1, cells := 0, slots := 0, locals := 22 }
set_option maxHeartbeats 4000000 in
set_option maxRecDepth 100000 in
theorem m_isRange (l : Launch) (Γ : zY) (G : zG) (a b : Int32) : ZM l yX7_isRange cX7_isRange 2 (some FieldType.boolean) rm_m_isRange Γ [.int a, .int b] G (zRd G (.int (s_rng a b))) := by
  refine z_start (by decide +kernel) [some (.int a), some (.int b)] rfl (Nat.le_of_ble_eq_true rfl) ?_
  intro p e s m args below meth c Q A C F hr hnm
  refine z_iload_n C dX7_isRange_0 rfl ?_
  refine z_iconst (v := 0) C dX7_isRange_1 rfl ?_
  refine z_sipush (v := 500) C dX7_isRange_2 rfl ?_
  refine z_callS C (m_isIn l Γ _ a 0 500) kc_X7_isRange_5 rfl rfl ky_X7_isIn ⟨(Nat.le_of_ble_eq_true rfl), (Nat.le_of_ble_eq_true rfl)⟩ (Nat.le_of_ble_eq_true rfl) ⟨(Nat.le_of_ble_eq_true rfl), (Nat.le_of_ble_eq_true rfl)⟩ dX7_isRange_5 (fun v5 G5 hp5 => ?_)
  obtain ⟨rfl, rfl⟩ := hp5
  refine z_if_eq (tgt := 25) C dX7_isRange_8 (by decide) (fun h8 => ?_) (fun h8 => ?_)
  · refine z_iconst (v := 0) C dX7_isRange_25 rfl ?_
    exact z_bret C F hr rfl (Nat.le_of_ble_eq_true rfl) (Nat.le_of_ble_eq_true rfl) ⟨by unfold s_rng; rw [if_pos h8], rfl⟩ dX7_isRange_26
  · refine z_iload_n C dX7_isRange_11 rfl ?_
    refine z_iconst (v := 0) C dX7_isRange_12 rfl ?_
    refine z_ldc C kw_1281 dX7_isRange_13 ?_
    refine z_callS C (m_isIn l Γ _ b 0 10000000) kc_X7_isRange_15 rfl rfl ky_X7_isIn ⟨(Nat.le_of_ble_eq_true rfl), (Nat.le_of_ble_eq_true rfl)⟩ (Nat.le_of_ble_eq_true rfl) ⟨(Nat.le_of_ble_eq_true rfl), (Nat.le_of_ble_eq_true rfl)⟩ dX7_isRange_15 (fun v15 G15 hp15 => ?_)
    obtain ⟨rfl, rfl⟩ := hp15
    refine z_if_eq (tgt := 25) C dX7_isRange_18 (by decide) (fun h18 => ?_) (fun h18 => ?_)
    · refine z_iconst (v := 0) C dX7_isRange_25 rfl ?_
      exact z_bret C F hr rfl (Nat.le_of_ble_eq_true rfl) (Nat.le_of_ble_eq_true rfl) ⟨by unfold s_rng; rw [if_neg h8, if_pos h18], rfl⟩ dX7_isRange_26
    · refine z_iconst (v := 1) C dX7_isRange_21 rfl ?_
      refine z_goto (tgt := 26) C dX7_isRange_22 (by decide) ?_
      exact z_bret C F hr rfl (Nat.le_of_ble_eq_true rfl) (Nat.le_of_ble_eq_true rfl) ⟨by unfold s_rng; rw [if_neg h8, if_neg h18], rfl⟩ dX7_isRange_26
abbrev rm_m_isPlace : Room := { frames := 1, cells := 0, slots := 0, locals := 22 }
set_option maxHeartbeats 4000000 in
set_option maxRecDepth 100000 in
theorem m_isPlace (l : Launch) (Γ : zY) (G : zG) (x y z : Int32) : ZM l yX7_isPlace cX7_isPlace 3 (some FieldType.boolean) rm_m_isPlace Γ [.int x, .int y, .int z] G (zRd G (.int (s_pl3 x y z))) := by
  refine z_start (by decide +kernel) [some (.int x), some (.int y), some (.int z)] rfl (Nat.le_of_ble_eq_true rfl) ?_
  intro p e s m args below meth c Q A C F hr hnm
  refine z_iload_n C dX7_isPlace_0 rfl ?_
  refine z_iconst (v := 0) C dX7_isPlace_1 rfl ?_
  refine z_sipush (v := 200) C dX7_isPlace_2 rfl ?_
  refine z_callS C (m_isIn l Γ _ x 0 200) kc_X7_isPlace_5 rfl rfl ky_X7_isIn ⟨(Nat.le_of_ble_eq_true rfl), (Nat.le_of_ble_eq_true rfl)⟩ (Nat.le_of_ble_eq_true rfl) ⟨(Nat.le_of_ble_eq_true rfl), (Nat.le_of_ble_eq_true rfl)⟩ dX7_isPlace_5 (fun v5 G5 hp5 => ?_)
  obtain ⟨rfl, rfl⟩ := hp5
  refine z_if_eq (tgt := 36) C dX7_isPlace_8 (by decide) (fun h8 => ?_) (fun h8 => ?_)
  · refine z_iconst (v := 0) C dX7_isPlace_36 rfl ?_
    exact z_bret C F hr rfl (Nat.le_of_ble_eq_true rfl) (Nat.le_of_ble_eq_true rfl) ⟨by unfold s_pl3; rw [if_pos h8], rfl⟩ dX7_isPlace_37
  · refine z_iload_n C dX7_isPlace_11 rfl ?_
    refine z_iconst (v := 0) C dX7_isPlace_12 rfl ?_
    refine z_sipush (v := 200) C dX7_isPlace_13 rfl ?_
    refine z_callS C (m_isIn l Γ _ y 0 200) kc_X7_isPlace_16 rfl rfl ky_X7_isIn ⟨(Nat.le_of_ble_eq_true rfl), (Nat.le_of_ble_eq_true rfl)⟩ (Nat.le_of_ble_eq_true rfl) ⟨(Nat.le_of_ble_eq_true rfl), (Nat.le_of_ble_eq_true rfl)⟩ dX7_isPlace_16 (fun v16 G16 hp16 => ?_)
    obtain ⟨rfl, rfl⟩ := hp16
    refine z_if_eq (tgt := 36) C dX7_isPlace_19 (by decide) (fun h19 => ?_) (fun h19 => ?_)
    · refine z_iconst (v := 0) C dX7_isPlace_36 rfl ?_
      exact z_bret C F hr rfl (Nat.le_of_ble_eq_true rfl) (Nat.le_of_ble_eq_true rfl) ⟨by unfold s_pl3; rw [if_neg h8, if_pos h19], rfl⟩ dX7_isPlace_37
    · refine z_iload_n C dX7_isPlace_22 rfl ?_
      refine z_iconst (v := 0) C dX7_isPlace_23 rfl ?_
      refine z_bipush (v := 60) C dX7_isPlace_24 rfl ?_
      refine z_callS C (m_isIn l Γ _ z 0 60) kc_X7_isPlace_26 rfl rfl ky_X7_isIn ⟨(Nat.le_of_ble_eq_true rfl), (Nat.le_of_ble_eq_true rfl)⟩ (Nat.le_of_ble_eq_true rfl) ⟨(Nat.le_of_ble_eq_true rfl), (Nat.le_of_ble_eq_true rfl)⟩ dX7_isPlace_26 (fun v26 G26 hp26 => ?_)
      obtain ⟨rfl, rfl⟩ := hp26
      refine z_if_eq (tgt := 36) C dX7_isPlace_29 (by decide) (fun h29 => ?_) (fun h29 => ?_)
      · refine z_iconst (v := 0) C dX7_isPlace_36 rfl ?_
        exact z_bret C F hr rfl (Nat.le_of_ble_eq_true rfl) (Nat.le_of_ble_eq_true rfl) ⟨by unfold s_pl3; rw [if_neg h8, if_neg h19, if_pos h29], rfl⟩ dX7_isPlace_37
      · refine z_iconst (v := 1) C dX7_isPlace_32 rfl ?_
        refine z_goto (tgt := 37) C dX7_isPlace_33 (by decide) ?_
        exact z_bret C F hr rfl (Nat.le_of_ble_eq_true rfl) (Nat.le_of_ble_eq_true rfl) ⟨by unfold s_pl3; rw [if_neg h8, if_neg h19, if_neg h29], rfl⟩ dX7_isPlace_37
abbrev rm_m_foundEvents : Room := { frames := 0, cells := 0, slots := 0, locals := 0 }
set_option maxHeartbeats 4000000 in
set_option maxRecDepth 100000 in
theorem m_foundEvents (l : Launch) (Γ : zY) (G : zG) {mo : Nat} {th : Int32} {μ : Nat → Nat} (hm : G mo = some (oM0 th μ)) : ZM l yX7_foundEvents cX7_foundEvents 3 (some FieldType.int) rm_m_foundEvents Γ [.ref mo] G (zRd G (.int 0)) := by
  refine z_start (by decide +kernel) [some (.ref mo), none, none] rfl (Nat.le_of_ble_eq_true rfl) ?_
  intro p e s m args below meth c Q A C F hr hnm
  refine z_iconst (v := 0) C dX7_foundEvents_0 rfl ?_
  refine z_istore_n C dX7_foundEvents_1 (by decide) ?_
  refine z_iconst (v := 0) C dX7_foundEvents_2 rfl ?_
  refine z_istore_n C dX7_foundEvents_3 (by decide) ?_
  refine z_iload_n C dX7_foundEvents_4 rfl ?_
  first | refine z_rload_n C dX7_foundEvents_5 rfl ?_ | refine z_nload_n C dX7_foundEvents_5 rfl ?_ | refine z_aload_n C dX7_foundEvents_5 rfl ?_
  refine z_getf (T := TX7) (N := 19) C (by first | assumption | exact zU_same _ _ _) rfl 14 (by decide) kw_1183 (Or.inl rfl) rfl dX7_foundEvents_6 ?_
  refine z_icmp_ge (tgt := 35) C dX7_foundEvents_9 (by decide) (fun h9 => ?_) (fun h9 => ?_)
  · refine z_iload_n C dX7_foundEvents_35 rfl ?_
    exact z_iret C F hr (Nat.le_of_ble_eq_true rfl) (Nat.le_of_ble_eq_true rfl) ⟨rfl, rfl⟩ dX7_foundEvents_36
  · exact absurd (by decide) h9
abbrev rm_m_picksOf : Room := { frames := 0, cells := 0, slots := 0, locals := 0 }
set_option maxHeartbeats 4000000 in
set_option maxRecDepth 100000 in
theorem m_picksOf (l : Launch) (Γ : zY) (G : zG) {mo : Nat} {th : Int32} {μ : Nat → Nat} (x : Int32) (hm : G mo = some (oM0 th μ)) : ZM l yX7_picksOf cX7_picksOf 4 (some FieldType.int) rm_m_picksOf Γ [.ref mo, .int x] G (zRd G (.int 0)) := by
  refine z_start (by decide +kernel) [some (.ref mo), some (.int x), none, none] rfl (Nat.le_of_ble_eq_true rfl) ?_
  intro p e s m args below meth c Q A C F hr hnm
  refine z_iconst (v := 0) C dX7_picksOf_0 rfl ?_
  refine z_istore_n C dX7_picksOf_1 (by decide) ?_
  refine z_iconst (v := 0) C dX7_picksOf_2 rfl ?_
  refine z_istore_n C dX7_picksOf_3 (by decide) ?_
  refine z_iload_n C dX7_picksOf_4 rfl ?_
  first | refine z_rload_n C dX7_picksOf_5 rfl ?_ | refine z_nload_n C dX7_picksOf_5 rfl ?_ | refine z_aload_n C dX7_picksOf_5 rfl ?_
  refine z_getf (T := TX7) (N := 19) C (by first | assumption | exact zU_same _ _ _) rfl 7 (by decide) kw_1176 (Or.inl rfl) rfl dX7_picksOf_6 ?_
  refine z_icmp_ge (tgt := 36) C dX7_picksOf_9 (by decide) (fun h9 => ?_) (fun h9 => ?_)
  · refine z_iload_n C dX7_picksOf_36 rfl ?_
    exact z_iret C F hr (Nat.le_of_ble_eq_true rfl) (Nat.le_of_ble_eq_true rfl) ⟨rfl, rfl⟩ dX7_picksOf_37
  · exact absurd (by decide) h9
abbrev rm_m_counted : Room := { frames := 1, cells := 0, slots := 0, locals := 23 }
set_option maxHeartbeats 4000000 in
set_option maxRecDepth 100000 in
theorem m_counted (l : Launch) (Γ : zY) (G : zG) {mo : Nat} {th : Int32} {μ : Nat → Nat} (x : Int32) (hm : G mo = some (oM0 th μ)) : ZM l yX7_counted cX7_counted 2 (some FieldType.int) rm_m_counted Γ [.ref mo, .int x] G (zRd G (.int 0)) := by
  refine z_start (by decide +kernel) [some (.ref mo), some (.int x)] rfl (Nat.le_of_ble_eq_true rfl) ?_
  intro p e s m args below meth c Q A C F hr hnm
  refine z_iload_n C dX7_counted_0 rfl ?_
  refine z_iconst (v := 3) C dX7_counted_1 rfl ?_
  refine z_icmp_ge (tgt := 33) C dX7_counted_2 (by decide) (fun h2 => ?_) (fun h2 => ?_)
  · refine z_iload_n C dX7_counted_33 rfl ?_
    refine z_iconst (v := 3) C dX7_counted_34 rfl ?_
    refine z_icmp_ne (tgt := 45) C dX7_counted_35 (by decide) (fun h35 => ?_) (fun h35 => ?_)
    · first | refine z_rload_n C dX7_counted_45 rfl ?_ | refine z_nload_n C dX7_counted_45 rfl ?_ | refine z_aload_n C dX7_counted_45 rfl ?_
      refine z_iconst (v := (-1)) C dX7_counted_46 rfl ?_
      refine z_callV (q := (RX7, TX7, 19)) C (m_picksOf l Γ _ (-1) hm) kc_X7_counted_47 (by first | assumption | exact zU_same _ _ _) rfl rfl rfl rfl ky_X7_picksOf ⟨(Nat.le_of_ble_eq_true rfl), (Nat.le_of_ble_eq_true rfl)⟩ (Nat.le_of_ble_eq_true rfl) ⟨(Nat.le_of_ble_eq_true rfl), (Nat.le_of_ble_eq_true rfl)⟩ dX7_counted_47 (fun v47 G47 hp47 => ?_)
      obtain ⟨rfl, rfl⟩ := hp47
      exact z_iret C F hr (Nat.le_of_ble_eq_true rfl) (Nat.le_of_ble_eq_true rfl) ⟨rfl, rfl⟩ dX7_counted_50
    · first | refine z_rload_n C dX7_counted_38 rfl ?_ | refine z_nload_n C dX7_counted_38 rfl ?_ | refine z_aload_n C dX7_counted_38 rfl ?_
      refine z_callV (q := (RX7, TX7, 19)) C (m_foundEvents l Γ _ hm) kc_X7_counted_39 (by first | assumption | exact zU_same _ _ _) rfl rfl rfl rfl ky_X7_foundEvents ⟨(Nat.le_of_ble_eq_true rfl), (Nat.le_of_ble_eq_true rfl)⟩ (Nat.le_of_ble_eq_true rfl) ⟨(Nat.le_of_ble_eq_true rfl), (Nat.le_of_ble_eq_true rfl)⟩ dX7_counted_39 (fun v39 G39 hp39 => ?_)
      obtain ⟨rfl, rfl⟩ := hp39
      refine z_goto (tgt := 50) C dX7_counted_42 (by decide) ?_
      exact z_iret C F hr (Nat.le_of_ble_eq_true rfl) (Nat.le_of_ble_eq_true rfl) ⟨rfl, rfl⟩ dX7_counted_50
  · refine z_iload_n C dX7_counted_5 rfl ?_
    refine z_if_ne (tgt := 16) C dX7_counted_6 (by decide) (fun h6 => ?_) (fun h6 => ?_)
    · refine z_iload_n C dX7_counted_16 rfl ?_
      refine z_iconst (v := 1) C dX7_counted_17 rfl ?_
      refine z_icmp_ne (tgt := 28) C dX7_counted_18 (by decide) (fun h18 => ?_) (fun h18 => ?_)
      · first | refine z_rload_n C dX7_counted_28 rfl ?_ | refine z_nload_n C dX7_counted_28 rfl ?_ | refine z_aload_n C dX7_counted_28 rfl ?_
        refine z_getf (T := TX7) (N := 19) C (by first | assumption | exact zU_same _ _ _) rfl 14 (by decide) kw_1183 (Or.inl rfl) rfl dX7_counted_29 ?_
        exact z_iret C F hr (Nat.le_of_ble_eq_true rfl) (Nat.le_of_ble_eq_true rfl) ⟨rfl, rfl⟩ dX7_counted_32
      · first | refine z_rload_n C dX7_counted_21 rfl ?_ | refine z_nload_n C dX7_counted_21 rfl ?_ | refine z_aload_n C dX7_counted_21 rfl ?_
        refine z_getf (T := TX7) (N := 19) C (by first | assumption | exact zU_same _ _ _) rfl 7 (by decide) kw_1176 (Or.inl rfl) rfl dX7_counted_22 ?_
        refine z_goto (tgt := 32) C dX7_counted_25 (by decide) ?_
        exact z_iret C F hr (Nat.le_of_ble_eq_true rfl) (Nat.le_of_ble_eq_true rfl) ⟨rfl, rfl⟩ dX7_counted_32
    · first | refine z_rload_n C dX7_counted_9 rfl ?_ | refine z_nload_n C dX7_counted_9 rfl ?_ | refine z_aload_n C dX7_counted_9 rfl ?_
      refine z_getf (T := TX7) (N := 19) C (by first | assumption | exact zU_same _ _ _) rfl 3 (by decide) kw_1172 (Or.inl rfl) rfl dX7_counted_10 ?_
      refine z_goto (tgt := 32) C dX7_counted_13 (by decide) ?_
      exact z_iret C F hr (Nat.le_of_ble_eq_true rfl) (Nat.le_of_ble_eq_true rfl) ⟨rfl, rfl⟩ dX7_counted_32
abbrev rm_m_count : Room := { frames := 2, cells := 0, slots := 0, locals := 44 }
set_option maxHeartbeats 4000000 in
set_option maxRecDepth 100000 in
theorem m_count (l : Launch) (Γ : zY) (G : zG) {mo : Nat} {th : Int32} {μ : Nat → Nat} (x : Int32) (hm : G mo = some (oM0 th μ)) : ZM l yX7_count cX7_count 2 (some FieldType.int) rm_m_count Γ [.ref mo, .int x] G (fun v G' => some (.int 0) = v ∧ zMK G G' mo μ (s_not (s_in x 0 4))) := by
  refine z_start (by decide +kernel) [some (.ref mo), some (.int x)] rfl (Nat.le_of_ble_eq_true rfl) ?_
  intro p e s m args below meth c Q A C F hr hnm
  first | refine z_rload_n C dX7_count_0 rfl ?_ | refine z_nload_n C dX7_count_0 rfl ?_ | refine z_aload_n C dX7_count_0 rfl ?_
  refine z_iconst (v := 0) C dX7_count_1 rfl ?_
  refine z_putf (T := TX7) (N := 19) C (by first | assumption | exact zU_same _ _ _) rfl 0 (by decide) kw_1169 (Or.inl rfl) rfl (tyX7_ok 0 (by decide)) rfl rfl (Nat.le_of_ble_eq_true rfl) dX7_count_2 ?_
  refine z_iload_n C dX7_count_5 rfl ?_
  refine z_iconst (v := 0) C dX7_count_6 rfl ?_
  refine z_iconst (v := 4) C dX7_count_7 rfl ?_
  refine z_callS C (m_isIn l Γ _ x 0 4) kc_X7_count_8 rfl rfl ky_X7_isIn ⟨(Nat.le_of_ble_eq_true rfl), (Nat.le_of_ble_eq_true rfl)⟩ (Nat.le_of_ble_eq_true rfl) ⟨(Nat.le_of_ble_eq_true rfl), (Nat.le_of_ble_eq_true rfl)⟩ dX7_count_8 (fun v8 G8 hp8 => ?_)
  obtain ⟨rfl, rfl⟩ := hp8
  refine z_if_eq (tgt := 22) C dX7_count_11 (by decide) (fun h11 => ?_) (fun h11 => ?_)
  · first | refine z_rload_n C dX7_count_22 rfl ?_ | refine z_nload_n C dX7_count_22 rfl ?_ | refine z_aload_n C dX7_count_22 rfl ?_
    refine z_iconst (v := 1) C dX7_count_23 rfl ?_
    refine z_callV (q := (RX7, TX7, 19)) C (m_no l Γ _ 1 (zU_same G mo (oM0 0 μ))) kc_X7_count_24 (by first | assumption | exact zU_same _ _ _) rfl rfl rfl rfl ky_X7_no ⟨(Nat.le_of_ble_eq_true rfl), (Nat.le_of_ble_eq_true rfl)⟩ (Nat.le_of_ble_eq_true rfl) ⟨(Nat.le_of_ble_eq_true rfl), (Nat.le_of_ble_eq_true rfl)⟩ dX7_count_24 (fun v24 G24 hp24 => ?_)
    obtain ⟨rfl, rfl⟩ := hp24
    exact z_iret C F hr (Nat.le_of_ble_eq_true rfl) (Nat.le_of_ble_eq_true rfl) ⟨rfl, by unfold s_not; rw [if_pos h11]; exact zMK.uu⟩ dX7_count_27
  · first | refine z_rload_n C dX7_count_14 rfl ?_ | refine z_nload_n C dX7_count_14 rfl ?_ | refine z_aload_n C dX7_count_14 rfl ?_
    refine z_iload_n C dX7_count_15 rfl ?_
    refine z_callV (q := (RX7, TX7, 19)) C (m_counted l Γ _ x (zU_same G mo (oM0 0 μ))) kc_X7_count_16 (by first | assumption | exact zU_same _ _ _) rfl rfl rfl rfl ky_X7_counted ⟨(Nat.le_of_ble_eq_true rfl), (Nat.le_of_ble_eq_true rfl)⟩ (Nat.le_of_ble_eq_true rfl) ⟨(Nat.le_of_ble_eq_true rfl), (Nat.le_of_ble_eq_true rfl)⟩ dX7_count_16 (fun v16 G16 hp16 => ?_)
    obtain ⟨rfl, rfl⟩ := hp16
    refine z_goto (tgt := 27) C dX7_count_19 (by decide) ?_
    exact z_iret C F hr (Nat.le_of_ble_eq_true rfl) (Nat.le_of_ble_eq_true rfl) ⟨rfl, by unfold s_not; rw [if_neg h11]; exact zMK.u⟩ dX7_count_27
abbrev rm_m_addStation : Room := { frames := 1, cells := 0, slots := 0, locals := 22 }
set_option maxHeartbeats 4000000 in
set_option maxRecDepth 100000 in
theorem m_addStation (l : Launch) (Γ : zY) (G : zG) {mo : Nat} {th : Int32} {μ : Nat → Nat} (x y : Int32) (hm : G mo = some (oM0 th μ)) (hf : zMf Γ G μ) : ZM l yX7_addStation cX7_addStation 3 (some FieldType.int) rm_m_addStation Γ [.ref mo, .int x, .int y] G (fun v G' => some (.int 0) = v ∧ zMK G G' mo μ (s_xyk x y)) := by
  obtain ⟨f0, f1, f01, f9⟩ := hf
  have d0 : mo ≠ μ 0 := fun z => by rw [← z, hm] at f0; cases f0
  have d1 : mo ≠ μ 1 := fun z => by rw [← z, hm] at f1; cases f1
  refine z_start (by decide +kernel) [some (.ref mo), some (.int x), some (.int y)] rfl (Nat.le_of_ble_eq_true rfl) ?_
  intro p e s m args below meth c Q A C F hr hnm
  first | refine z_rload_n C dX7_addStation_0 rfl ?_ | refine z_nload_n C dX7_addStation_0 rfl ?_ | refine z_aload_n C dX7_addStation_0 rfl ?_
  refine z_iconst (v := 0) C dX7_addStation_1 rfl ?_
  refine z_putf (T := TX7) (N := 19) C (by first | assumption | exact zU_same _ _ _) rfl 0 (by decide) kw_1169 (Or.inl rfl) rfl (tyX7_ok 0 (by decide)) rfl rfl (Nat.le_of_ble_eq_true rfl) dX7_addStation_2 ?_
  refine z_iload_n C dX7_addStation_5 rfl ?_
  refine z_iconst (v := 0) C dX7_addStation_6 rfl ?_
  refine z_sipush (v := 200) C dX7_addStation_7 rfl ?_
  refine z_callS C (m_isIn l Γ _ x 0 200) kc_X7_addStation_10 rfl rfl ky_X7_isIn ⟨(Nat.le_of_ble_eq_true rfl), (Nat.le_of_ble_eq_true rfl)⟩ (Nat.le_of_ble_eq_true rfl) ⟨(Nat.le_of_ble_eq_true rfl), (Nat.le_of_ble_eq_true rfl)⟩ dX7_addStation_10 (fun v10 G10 hp10 => ?_)
  obtain ⟨rfl, rfl⟩ := hp10
  refine z_if_eq (tgt := 27) C dX7_addStation_13 (by decide) (fun h13 => ?_) (fun h13 => ?_)
  · first | refine z_rload_n C dX7_addStation_27 rfl ?_ | refine z_nload_n C dX7_addStation_27 rfl ?_ | refine z_aload_n C dX7_addStation_27 rfl ?_
    refine z_iconst (v := 1) C dX7_addStation_28 rfl ?_
    refine z_callV (q := (RX7, TX7, 19)) C (m_no l Γ _ 1 (zU_same G mo (oM0 0 μ))) kc_X7_addStation_29 (by first | assumption | exact zU_same _ _ _) rfl rfl rfl rfl ky_X7_no ⟨(Nat.le_of_ble_eq_true rfl), (Nat.le_of_ble_eq_true rfl)⟩ (Nat.le_of_ble_eq_true rfl) ⟨(Nat.le_of_ble_eq_true rfl), (Nat.le_of_ble_eq_true rfl)⟩ dX7_addStation_29 (fun v29 G29 hp29 => ?_)
    obtain ⟨rfl, rfl⟩ := hp29
    exact z_iret C F hr (Nat.le_of_ble_eq_true rfl) (Nat.le_of_ble_eq_true rfl) ⟨rfl, by unfold s_xyk; rw [if_pos h13]; exact zMK.uu⟩ dX7_addStation_32
  · refine z_iload_n C dX7_addStation_16 rfl ?_
    refine z_iconst (v := 0) C dX7_addStation_17 rfl ?_
    refine z_sipush (v := 200) C dX7_addStation_18 rfl ?_
    refine z_callS C (m_isIn l Γ _ y 0 200) kc_X7_addStation_21 rfl rfl ky_X7_isIn ⟨(Nat.le_of_ble_eq_true rfl), (Nat.le_of_ble_eq_true rfl)⟩ (Nat.le_of_ble_eq_true rfl) ⟨(Nat.le_of_ble_eq_true rfl), (Nat.le_of_ble_eq_true rfl)⟩ dX7_addStation_21 (fun v21 G21 hp21 => ?_)
    obtain ⟨rfl, rfl⟩ := hp21
    refine z_if_ne (tgt := 33) C dX7_addStation_24 (by decide) (fun h24 => ?_) (fun h24 => ?_)
    · first | refine z_rload_n C dX7_addStation_33 rfl ?_ | refine z_nload_n C dX7_addStation_33 rfl ?_ | refine z_aload_n C dX7_addStation_33 rfl ?_
      refine z_getf (T := TX7) (N := 19) C (by first | assumption | exact zU_same _ _ _) rfl 3 (by decide) kw_1172 (Or.inl rfl) rfl dX7_addStation_34 ?_
      refine z_bipush (v := 10) C dX7_addStation_37 rfl ?_
      refine z_icmp_ne (tgt := 48) C dX7_addStation_39 (by decide) (fun h39 => ?_) (fun h39 => ?_)
      · first | refine z_rload_n C dX7_addStation_48 rfl ?_ | refine z_nload_n C dX7_addStation_48 rfl ?_ | refine z_aload_n C dX7_addStation_48 rfl ?_
        refine z_getf (T := TX7) (N := 19) C (by first | assumption | exact zU_same _ _ _) rfl 4 (by decide) kw_1173 (Or.inl rfl) rfl dX7_addStation_49 ?_
        first | refine z_rload_n C dX7_addStation_52 rfl ?_ | refine z_nload_n C dX7_addStation_52 rfl ?_ | refine z_aload_n C dX7_addStation_52 rfl ?_
        refine z_getf (T := TX7) (N := 19) C (by first | assumption | exact zU_same _ _ _) rfl 3 (by decide) kw_1172 (Or.inl rfl) rfl dX7_addStation_53 ?_
        refine z_iload_n C dX7_addStation_56 rfl ?_
        refine z_iast C ((zU_ne d0.symm).trans f0) (by unfold vp_in; decide) dX7_addStation_57 ?_
        first | refine z_rload_n C dX7_addStation_58 rfl ?_ | refine z_nload_n C dX7_addStation_58 rfl ?_ | refine z_aload_n C dX7_addStation_58 rfl ?_
        refine z_getf (T := TX7) (N := 19) C ((zU_ne d0).trans (zU_same _ _ _)) rfl 5 (by decide) kw_1174 (Or.inl rfl) rfl dX7_addStation_59 ?_
        first | refine z_rload_n C dX7_addStation_62 rfl ?_ | refine z_nload_n C dX7_addStation_62 rfl ?_ | refine z_aload_n C dX7_addStation_62 rfl ?_
        refine z_getf (T := TX7) (N := 19) C ((zU_ne d0).trans (zU_same _ _ _)) rfl 3 (by decide) kw_1172 (Or.inl rfl) rfl dX7_addStation_63 ?_
        refine z_iload_n C dX7_addStation_66 rfl ?_
        refine z_iast C ((zU_ne f01.symm).trans ((zU_ne d1.symm).trans f1)) (by unfold vp_in; decide) dX7_addStation_67 ?_
        first | refine z_rload_n C dX7_addStation_68 rfl ?_ | refine z_nload_n C dX7_addStation_68 rfl ?_ | refine z_aload_n C dX7_addStation_68 rfl ?_
        refine z_dup C rfl dX7_addStation_69 ?_
        refine z_getf (T := TX7) (N := 19) C ((zU_ne d1).trans ((zU_ne d0).trans (zU_same _ _ _))) rfl 3 (by decide) kw_1172 (Or.inl rfl) rfl dX7_addStation_70 ?_
        refine z_iconst (v := 1) C dX7_addStation_73 rfl ?_
        refine z_iadd C dX7_addStation_74 ?_
        refine z_putf (T := TX7) (N := 19) C ((zU_ne d1).trans ((zU_ne d0).trans (zU_same _ _ _))) rfl 3 (by decide) kw_1172 (Or.inl rfl) rfl (tyX7_ok 3 (by decide)) rfl rfl (Nat.le_of_ble_eq_true rfl) dX7_addStation_75 ?_
        first | refine z_rload_n C dX7_addStation_78 rfl ?_ | refine z_nload_n C dX7_addStation_78 rfl ?_ | refine z_aload_n C dX7_addStation_78 rfl ?_
        refine z_getf (T := TX7) (N := 19) C (by first | assumption | exact zU_same _ _ _) rfl 3 (by decide) kw_1172 (Or.inl rfl) rfl dX7_addStation_79 ?_
        refine z_iconst (v := 1) C dX7_addStation_82 rfl ?_
        refine z_isub C dX7_addStation_83 ?_
        exact z_iret C F hr (Nat.le_of_ble_eq_true rfl) (Nat.le_of_ble_eq_true rfl) ⟨rfl, by unfold s_xyk; rw [if_neg h13, if_neg h24]; exact ⟨⟨_, zU_same _ _ _⟩, fun q e h k1 k2 => (zU_ne k1).trans ((zU_ne (k2 1)).trans ((zU_ne (k2 0)).trans ((zU_ne k1).trans h)))⟩⟩ dX7_addStation_84
      · exact absurd h39 (by decide)
    · first | refine z_rload_n C dX7_addStation_27 rfl ?_ | refine z_nload_n C dX7_addStation_27 rfl ?_ | refine z_aload_n C dX7_addStation_27 rfl ?_
      refine z_iconst (v := 1) C dX7_addStation_28 rfl ?_
      refine z_callV (q := (RX7, TX7, 19)) C (m_no l Γ _ 1 (zU_same G mo (oM0 0 μ))) kc_X7_addStation_29 (by first | assumption | exact zU_same _ _ _) rfl rfl rfl rfl ky_X7_no ⟨(Nat.le_of_ble_eq_true rfl), (Nat.le_of_ble_eq_true rfl)⟩ (Nat.le_of_ble_eq_true rfl) ⟨(Nat.le_of_ble_eq_true rfl), (Nat.le_of_ble_eq_true rfl)⟩ dX7_addStation_29 (fun v29 G29 hp29 => ?_)
      obtain ⟨rfl, rfl⟩ := hp29
      exact z_iret C F hr (Nat.le_of_ble_eq_true rfl) (Nat.le_of_ble_eq_true rfl) ⟨rfl, by unfold s_xyk; rw [if_neg h13, if_pos h24]; exact zMK.uu⟩ dX7_addStation_32
abbrev rm_m_addEvent : Room := { frames := 0, cells := 0, slots := 0, locals := 0 }
set_option maxHeartbeats 4000000 in
set_option maxRecDepth 100000 in
theorem m_addEvent (l : Launch) (Γ : zY) (G : zG) {mo : Nat} {th : Int32} {μ : Nat → Nat} (hm : G mo = some (oM0 th μ)) (hf : zMf Γ G μ) : ZM l yX7_addEvent cX7_addEvent 1 (some FieldType.int) rm_m_addEvent Γ [.ref mo] G (fun v G' => some (.int 0) = v ∧ zMK G G' mo μ 0) := by
  obtain ⟨f0, f1, f01, f9⟩ := hf
  have d9 : mo ≠ μ 9 := fun z => by rw [← z, hm] at f9; cases f9
  refine z_start (by decide +kernel) [some (.ref mo)] rfl (Nat.le_of_ble_eq_true rfl) ?_
  intro p e s m args below meth c Q A C F hr hnm
  first | refine z_rload_n C dX7_addEvent_0 rfl ?_ | refine z_nload_n C dX7_addEvent_0 rfl ?_ | refine z_aload_n C dX7_addEvent_0 rfl ?_
  refine z_iconst (v := 0) C dX7_addEvent_1 rfl ?_
  refine z_putf (T := TX7) (N := 19) C (by first | assumption | exact zU_same _ _ _) rfl 0 (by decide) kw_1169 (Or.inl rfl) rfl (tyX7_ok 0 (by decide)) rfl rfl (Nat.le_of_ble_eq_true rfl) dX7_addEvent_2 ?_
  first | refine z_rload_n C dX7_addEvent_5 rfl ?_ | refine z_nload_n C dX7_addEvent_5 rfl ?_ | refine z_aload_n C dX7_addEvent_5 rfl ?_
  refine z_getf (T := TX7) (N := 19) C (by first | assumption | exact zU_same _ _ _) rfl 14 (by decide) kw_1183 (Or.inl rfl) rfl dX7_addEvent_6 ?_
  refine z_bipush (v := 12) C dX7_addEvent_9 rfl ?_
  refine z_icmp_ne (tgt := 20) C dX7_addEvent_11 (by decide) (fun h11 => ?_) (fun h11 => ?_)
  · first | refine z_rload_n C dX7_addEvent_20 rfl ?_ | refine z_nload_n C dX7_addEvent_20 rfl ?_ | refine z_aload_n C dX7_addEvent_20 rfl ?_
    refine z_getf (T := TX7) (N := 19) C (by first | assumption | exact zU_same _ _ _) rfl 15 (by decide) kw_1184 (Or.inl rfl) rfl dX7_addEvent_21 ?_
    first | refine z_rload_n C dX7_addEvent_24 rfl ?_ | refine z_nload_n C dX7_addEvent_24 rfl ?_ | refine z_aload_n C dX7_addEvent_24 rfl ?_
    refine z_getf (T := TX7) (N := 19) C (by first | assumption | exact zU_same _ _ _) rfl 14 (by decide) kw_1183 (Or.inl rfl) rfl dX7_addEvent_25 ?_
    refine z_iconst (v := 0) C dX7_addEvent_28 rfl ?_
    refine z_zast C ((zU_ne d9.symm).trans f9) (by unfold vp_in; decide) dX7_addEvent_29 ?_
    first | refine z_rload_n C dX7_addEvent_30 rfl ?_ | refine z_nload_n C dX7_addEvent_30 rfl ?_ | refine z_aload_n C dX7_addEvent_30 rfl ?_
    refine z_dup C rfl dX7_addEvent_31 ?_
    refine z_getf (T := TX7) (N := 19) C ((zU_ne d9).trans (zU_same _ _ _)) rfl 14 (by decide) kw_1183 (Or.inl rfl) rfl dX7_addEvent_32 ?_
    refine z_iconst (v := 1) C dX7_addEvent_35 rfl ?_
    refine z_iadd C dX7_addEvent_36 ?_
    refine z_putf (T := TX7) (N := 19) C ((zU_ne d9).trans (zU_same _ _ _)) rfl 14 (by decide) kw_1183 (Or.inl rfl) rfl (tyX7_ok 14 (by decide)) rfl rfl (Nat.le_of_ble_eq_true rfl) dX7_addEvent_37 ?_
    first | refine z_rload_n C dX7_addEvent_40 rfl ?_ | refine z_nload_n C dX7_addEvent_40 rfl ?_ | refine z_aload_n C dX7_addEvent_40 rfl ?_
    refine z_getf (T := TX7) (N := 19) C (by first | assumption | exact zU_same _ _ _) rfl 14 (by decide) kw_1183 (Or.inl rfl) rfl dX7_addEvent_41 ?_
    refine z_iconst (v := 1) C dX7_addEvent_44 rfl ?_
    refine z_isub C dX7_addEvent_45 ?_
    exact z_iret C F hr (Nat.le_of_ble_eq_true rfl) (Nat.le_of_ble_eq_true rfl) ⟨rfl, ⟨⟨_, zU_same _ _ _⟩, fun q e h k1 k2 => (zU_ne k1).trans ((zU_ne (k2 9)).trans ((zU_ne k1).trans h))⟩⟩ dX7_addEvent_46
  · exact absurd h11 (by decide)
abbrev rm_m_setSpeeds : Room := { frames := 1, cells := 0, slots := 0, locals := 22 }
set_option maxHeartbeats 4000000 in
set_option maxRecDepth 100000 in
theorem m_setSpeeds (l : Launch) (Γ : zY) (G : zG) {mo : Nat} {th : Int32} {μ : Nat → Nat} (x y : Int32) (hm : G mo = some (oM0 th μ)) : ZM l yX7_setSpeeds cX7_setSpeeds 4 (some FieldType.int) rm_m_setSpeeds Γ [.ref mo, .int x, .int y] G (fun v G' => some (.int (if s_spk x y = 0 then x * 100 / y else 0)) = v ∧ zMK G G' mo μ (s_spk x y)) := by
  have h10 : ¬ (1 : Int32) = 0 := by decide
  refine z_start (by decide +kernel) [some (.ref mo), some (.int x), some (.int y), none] rfl (Nat.le_of_ble_eq_true rfl) ?_
  intro p e s m args below meth c Q A C F hr hnm
  first | refine z_rload_n C dX7_setSpeeds_0 rfl ?_ | refine z_nload_n C dX7_setSpeeds_0 rfl ?_ | refine z_aload_n C dX7_setSpeeds_0 rfl ?_
  refine z_iconst (v := 0) C dX7_setSpeeds_1 rfl ?_
  refine z_putf (T := TX7) (N := 19) C (by first | assumption | exact zU_same _ _ _) rfl 0 (by decide) kw_1169 (Or.inl rfl) rfl (tyX7_ok 0 (by decide)) rfl rfl (Nat.le_of_ble_eq_true rfl) dX7_setSpeeds_2 ?_
  refine z_iload_n C dX7_setSpeeds_5 rfl ?_
  refine z_sipush (v := 3000) C dX7_setSpeeds_6 rfl ?_
  refine z_sipush (v := 9000) C dX7_setSpeeds_9 rfl ?_
  refine z_callS C (m_isIn l Γ _ x 3000 9000) kc_X7_setSpeeds_12 rfl rfl ky_X7_isIn ⟨(Nat.le_of_ble_eq_true rfl), (Nat.le_of_ble_eq_true rfl)⟩ (Nat.le_of_ble_eq_true rfl) ⟨(Nat.le_of_ble_eq_true rfl), (Nat.le_of_ble_eq_true rfl)⟩ dX7_setSpeeds_12 (fun v12 G12 hp12 => ?_)
  obtain ⟨rfl, rfl⟩ := hp12
  refine z_if_eq (tgt := 31) C dX7_setSpeeds_15 (by decide) (fun h15 => ?_) (fun h15 => ?_)
  · have hs : s_spk x y = 1 := by unfold s_spk; rw [if_pos h15]
    first | refine z_rload_n C dX7_setSpeeds_31 rfl ?_ | refine z_nload_n C dX7_setSpeeds_31 rfl ?_ | refine z_aload_n C dX7_setSpeeds_31 rfl ?_
    refine z_iconst (v := 1) C dX7_setSpeeds_32 rfl ?_
    refine z_callV (q := (RX7, TX7, 19)) C (m_no l Γ _ 1 (zU_same G mo (oM0 0 μ))) kc_X7_setSpeeds_33 (by first | assumption | exact zU_same _ _ _) rfl rfl rfl rfl ky_X7_no ⟨(Nat.le_of_ble_eq_true rfl), (Nat.le_of_ble_eq_true rfl)⟩ (Nat.le_of_ble_eq_true rfl) ⟨(Nat.le_of_ble_eq_true rfl), (Nat.le_of_ble_eq_true rfl)⟩ dX7_setSpeeds_33 (fun v33 G33 hp33 => ?_)
    obtain ⟨rfl, rfl⟩ := hp33
    exact z_iret C F hr (Nat.le_of_ble_eq_true rfl) (Nat.le_of_ble_eq_true rfl) ⟨by rw [hs, if_neg h10], by rw [hs]; exact zMK.uu⟩ dX7_setSpeeds_36
  · refine z_iload_n C dX7_setSpeeds_18 rfl ?_
    refine z_sipush (v := 150) C dX7_setSpeeds_19 rfl ?_
    refine z_sipush (v := 200) C dX7_setSpeeds_22 rfl ?_
    refine z_callS C (m_isIn l Γ _ y 150 200) kc_X7_setSpeeds_25 rfl rfl ky_X7_isIn ⟨(Nat.le_of_ble_eq_true rfl), (Nat.le_of_ble_eq_true rfl)⟩ (Nat.le_of_ble_eq_true rfl) ⟨(Nat.le_of_ble_eq_true rfl), (Nat.le_of_ble_eq_true rfl)⟩ dX7_setSpeeds_25 (fun v25 G25 hp25 => ?_)
    obtain ⟨rfl, rfl⟩ := hp25
    refine z_if_ne (tgt := 37) C dX7_setSpeeds_28 (by decide) (fun h28 => ?_) (fun h28 => ?_)
    · have hs : s_spk x y = 0 := by unfold s_spk; rw [if_neg h15, if_neg h28]
      have hy0 : ¬ y = 0 := fun z => by rw [z] at h28; exact h28 (by decide)
      first | refine z_rload_n C dX7_setSpeeds_37 rfl ?_ | refine z_nload_n C dX7_setSpeeds_37 rfl ?_ | refine z_aload_n C dX7_setSpeeds_37 rfl ?_
      refine z_iload_n C dX7_setSpeeds_38 rfl ?_
      refine z_putf (T := TX7) (N := 19) C (by first | assumption | exact zU_same _ _ _) rfl 1 (by decide) kw_1170 (Or.inl rfl) rfl (tyX7_ok 1 (by decide)) rfl rfl (Nat.le_of_ble_eq_true rfl) dX7_setSpeeds_39 ?_
      first | refine z_rload_n C dX7_setSpeeds_42 rfl ?_ | refine z_nload_n C dX7_setSpeeds_42 rfl ?_ | refine z_aload_n C dX7_setSpeeds_42 rfl ?_
      refine z_iload_n C dX7_setSpeeds_43 rfl ?_
      refine z_bipush (v := 100) C dX7_setSpeeds_44 rfl ?_
      refine z_imul C dX7_setSpeeds_46 ?_
      refine z_iload_n C dX7_setSpeeds_47 rfl ?_
      refine z_idiv C hy0 dX7_setSpeeds_48 ?_
      refine z_putf (T := TX7) (N := 19) C (by first | assumption | exact zU_same _ _ _) rfl 2 (by decide) kw_1171 (Or.inl rfl) rfl (tyX7_ok 2 (by decide)) rfl rfl (Nat.le_of_ble_eq_true rfl) dX7_setSpeeds_49 ?_
      refine z_iconst (v := 0) C dX7_setSpeeds_52 rfl ?_
      refine z_istore_n C dX7_setSpeeds_53 (by decide) ?_
      refine z_iload_n C dX7_setSpeeds_54 rfl ?_
      first | refine z_rload_n C dX7_setSpeeds_55 rfl ?_ | refine z_nload_n C dX7_setSpeeds_55 rfl ?_ | refine z_aload_n C dX7_setSpeeds_55 rfl ?_
      refine z_getf (T := TX7) (N := 19) C (by first | assumption | exact zU_same _ _ _) rfl 14 (by decide) kw_1183 (Or.inl rfl) rfl dX7_setSpeeds_56 ?_
      refine z_icmp_ge (tgt := 75) C dX7_setSpeeds_59 (by decide) (fun h59 => ?_) (fun h59 => ?_)
      · first | refine z_rload_n C dX7_setSpeeds_75 rfl ?_ | refine z_nload_n C dX7_setSpeeds_75 rfl ?_ | refine z_aload_n C dX7_setSpeeds_75 rfl ?_
        refine z_getf (T := TX7) (N := 19) C (by first | assumption | exact zU_same _ _ _) rfl 2 (by decide) kw_1171 (Or.inl rfl) rfl dX7_setSpeeds_76 ?_
        exact z_iret C F hr (Nat.le_of_ble_eq_true rfl) (Nat.le_of_ble_eq_true rfl) ⟨by rw [hs, if_pos rfl], by rw [hs]; exact ⟨⟨_, zU_same _ _ _⟩, fun q e h k1 k2 => (zU_ne k1).trans ((zU_ne k1).trans ((zU_ne k1).trans h))⟩⟩ dX7_setSpeeds_79
      · exact absurd (by decide) h59
    · have hs : s_spk x y = 1 := by unfold s_spk; rw [if_neg h15, if_pos h28]
      first | refine z_rload_n C dX7_setSpeeds_31 rfl ?_ | refine z_nload_n C dX7_setSpeeds_31 rfl ?_ | refine z_aload_n C dX7_setSpeeds_31 rfl ?_
      refine z_iconst (v := 1) C dX7_setSpeeds_32 rfl ?_
      refine z_callV (q := (RX7, TX7, 19)) C (m_no l Γ _ 1 (zU_same G mo (oM0 0 μ))) kc_X7_setSpeeds_33 (by first | assumption | exact zU_same _ _ _) rfl rfl rfl rfl ky_X7_no ⟨(Nat.le_of_ble_eq_true rfl), (Nat.le_of_ble_eq_true rfl)⟩ (Nat.le_of_ble_eq_true rfl) ⟨(Nat.le_of_ble_eq_true rfl), (Nat.le_of_ble_eq_true rfl)⟩ dX7_setSpeeds_33 (fun v33 G33 hp33 => ?_)
      obtain ⟨rfl, rfl⟩ := hp33
      exact z_iret C F hr (Nat.le_of_ble_eq_true rfl) (Nat.le_of_ble_eq_true rfl) ⟨by rw [hs, if_neg h10], by rw [hs]; exact zMK.uu⟩ dX7_setSpeeds_36
abbrev rm_m_associate : Room := { frames := 0, cells := 1, slots := 80, locals := 0 }
set_option maxHeartbeats 4000000 in
set_option maxRecDepth 100000 in
theorem m_associate (l : Launch) (Γ : zY) (G : zG) {mo : Nat} {th : Int32} {μ : Nat → Nat} (hm : G mo = some (oM0 th μ)) : ZM l yX7_associate cX7_associate 6 (some FieldType.int) rm_m_associate Γ [.ref mo] G (fun v G' => some (.int 0) = v ∧ zMK G G' mo μ 0) := by
  refine z_start (by decide +kernel) [some (.ref mo), none, none, none, none, none] rfl (Nat.le_of_ble_eq_true rfl) ?_
  intro p e s m args below meth c Q A C F hr hnm
  first | refine z_rload_n C dX7_associate_0 rfl ?_ | refine z_nload_n C dX7_associate_0 rfl ?_ | refine z_aload_n C dX7_associate_0 rfl ?_
  refine z_iconst (v := 0) C dX7_associate_1 rfl ?_
  refine z_putf (T := TX7) (N := 19) C (by first | assumption | exact zU_same _ _ _) rfl 0 (by decide) kw_1169 (Or.inl rfl) rfl (tyX7_ok 0 (by decide)) rfl rfl (Nat.le_of_ble_eq_true rfl) dX7_associate_2 ?_
  refine z_bipush (v := 80) C dX7_associate_5 rfl ?_
  refine z_newz (N := 80) C kw_1227 (by decide) (by decide) (Nat.le_of_ble_eq_true rfl) (Nat.le_of_ble_eq_true rfl) (Nat.le_of_ble_eq_true rfl) dX7_associate_7 (fun a7 n7 => ?_)
  have da : mo ≠ a7 := zG_nn (zU_same _ _ _) n7
  first | refine z_rstore_n C dX7_associate_9 (by decide) ?_ | refine z_nstore_n C dX7_associate_9 (by decide) ?_ | refine z_astore_n C dX7_associate_9 (by decide) ?_
  refine z_iconst (v := 0) C dX7_associate_10 rfl ?_
  refine z_istore_n C dX7_associate_11 (by decide) ?_
  refine z_iconst (v := 0) C dX7_associate_12 rfl ?_
  refine z_istore_n C dX7_associate_13 (by decide) ?_
  refine z_iload_n C dX7_associate_14 rfl ?_
  first | refine z_rload_n C dX7_associate_15 rfl ?_ | refine z_nload_n C dX7_associate_15 rfl ?_ | refine z_aload_n C dX7_associate_15 rfl ?_
  refine z_getf (T := TX7) (N := 19) C ((zU_ne da).trans (zU_same _ _ _)) rfl 7 (by decide) kw_1176 (Or.inl rfl) rfl dX7_associate_16 ?_
  refine z_icmp_ge (tgt := 144) C dX7_associate_19 (by decide) (fun h19 => ?_) (fun h19 => ?_)
  · refine z_iload_n C dX7_associate_144 rfl ?_
    exact z_iret C F hr (Nat.le_of_ble_eq_true rfl) (Nat.le_of_ble_eq_true rfl) ⟨rfl, ⟨⟨_, (zU_ne da).trans (zU_same _ _ _)⟩, fun q e h k1 k2 => (zU_ne (zG_nn ((zU_ne k1).trans h) n7)).trans ((zU_ne k1).trans h)⟩⟩ dX7_associate_145
  · exact absurd (by decide) h19
abbrev rm_m_nearest : Room := { frames := 2, cells := 0, slots := 0, locals := 44 }
set_option maxHeartbeats 4000000 in
set_option maxRecDepth 100000 in
theorem m_nearest (l : Launch) (Γ : zY) (G : zG) {mo : Nat} {th : Int32} {μ : Nat → Nat} (x y z : Int32) (hm : G mo = some (oM0 th μ)) : ZM l yX7_nearest cX7_nearest 6 (some FieldType.int) rm_m_nearest Γ [.ref mo, .int x, .int y, .int z] G (fun v G' => some (.int (if s_pl3 x y z = 0 then 0 else -1)) = v ∧ zMK G G' mo μ (s_not (s_pl3 x y z))) := by
  refine z_start (by decide +kernel) [some (.ref mo), some (.int x), some (.int y), some (.int z), none, none] rfl (Nat.le_of_ble_eq_true rfl) ?_
  intro p e s m args below meth c Q A C F hr hnm
  first | refine z_rload_n C dX7_nearest_0 rfl ?_ | refine z_nload_n C dX7_nearest_0 rfl ?_ | refine z_aload_n C dX7_nearest_0 rfl ?_
  refine z_iconst (v := 0) C dX7_nearest_1 rfl ?_
  refine z_putf (T := TX7) (N := 19) C (by first | assumption | exact zU_same _ _ _) rfl 0 (by decide) kw_1169 (Or.inl rfl) rfl (tyX7_ok 0 (by decide)) rfl rfl (Nat.le_of_ble_eq_true rfl) dX7_nearest_2 ?_
  refine z_iload_n C dX7_nearest_5 rfl ?_
  refine z_iload_n C dX7_nearest_6 rfl ?_
  refine z_iload_n C dX7_nearest_7 rfl ?_
  refine z_callS C (m_isPlace l Γ _ x y z) kc_X7_nearest_8 rfl rfl ky_X7_isPlace ⟨(Nat.le_of_ble_eq_true rfl), (Nat.le_of_ble_eq_true rfl)⟩ (Nat.le_of_ble_eq_true rfl) ⟨(Nat.le_of_ble_eq_true rfl), (Nat.le_of_ble_eq_true rfl)⟩ dX7_nearest_8 (fun v8 G8 hp8 => ?_)
  obtain ⟨rfl, rfl⟩ := hp8
  refine z_if_ne (tgt := 20) C dX7_nearest_11 (by decide) (fun h11 => ?_) (fun h11 => ?_)
  · refine z_iconst (v := (-1)) C dX7_nearest_20 rfl ?_
    refine z_istore C dX7_nearest_21 (by decide) ?_
    refine z_iconst (v := 0) C dX7_nearest_23 rfl ?_
    refine z_istore C dX7_nearest_24 (by decide) ?_
    refine z_iload C dX7_nearest_26 rfl ?_
    first | refine z_rload_n C dX7_nearest_28 rfl ?_ | refine z_nload_n C dX7_nearest_28 rfl ?_ | refine z_aload_n C dX7_nearest_28 rfl ?_
    refine z_getf (T := TX7) (N := 19) C (by first | assumption | exact zU_same _ _ _) rfl 14 (by decide) kw_1183 (Or.inl rfl) rfl dX7_nearest_29 ?_
    refine z_icmp_ge (tgt := 82) C dX7_nearest_32 (by decide) (fun h32 => ?_) (fun h32 => ?_)
    · refine z_iload C dX7_nearest_82 rfl ?_
      exact z_iret C F hr (Nat.le_of_ble_eq_true rfl) (Nat.le_of_ble_eq_true rfl) ⟨by rw [if_neg h11], by unfold s_not; rw [if_neg h11]; exact zMK.u⟩ dX7_nearest_84
    · exact absurd (by decide) h32
  · first | refine z_rload_n C dX7_nearest_14 rfl ?_ | refine z_nload_n C dX7_nearest_14 rfl ?_ | refine z_aload_n C dX7_nearest_14 rfl ?_
    refine z_iconst (v := 1) C dX7_nearest_15 rfl ?_
    refine z_callV (q := (RX7, TX7, 19)) C (m_no l Γ _ 1 (zU_same G mo (oM0 0 μ))) kc_X7_nearest_16 (by first | assumption | exact zU_same _ _ _) rfl rfl rfl rfl ky_X7_no ⟨(Nat.le_of_ble_eq_true rfl), (Nat.le_of_ble_eq_true rfl)⟩ (Nat.le_of_ble_eq_true rfl) ⟨(Nat.le_of_ble_eq_true rfl), (Nat.le_of_ble_eq_true rfl)⟩ dX7_nearest_16 (fun v16 G16 hp16 => ?_)
    obtain ⟨rfl, rfl⟩ := hp16
    exact z_iret C F hr (Nat.le_of_ble_eq_true rfl) (Nat.le_of_ble_eq_true rfl) ⟨by rw [if_pos h11], by unfold s_not; rw [if_pos h11]; exact zMK.uu⟩ dX7_nearest_19
end
section
theorem dX7_heads_0 : decode cX7_heads 0 = .ok (.bipush 12, 2) := by decide +kernel
theorem dX7_heads_2 : decode cX7_heads 2 = .ok (.newarray .int, 2) := by decide +kernel
theorem dX7_heads_4 : decode cX7_heads 4 = .ok (.astore_n 3, 1) := by decide +kernel
theorem dX7_heads_5 : decode cX7_heads 5 = .ok (.iconst 0, 1) := by decide +kernel
theorem dX7_heads_6 : decode cX7_heads 6 = .ok (.istore 4, 2) := by decide +kernel
theorem dX7_heads_8 : decode cX7_heads 8 = .ok (.iload 4, 2) := by decide +kernel
theorem dX7_heads_10 : decode cX7_heads 10 = .ok (.bipush 12, 2) := by decide +kernel
theorem dX7_heads_12 : decode cX7_heads 12 = .ok (.if_icmp .ge 38, 3) := by decide +kernel
theorem dX7_heads_15 : decode cX7_heads 15 = .ok (.aload_n 3, 1) := by decide +kernel
theorem dX7_heads_16 : decode cX7_heads 16 = .ok (.iload 4, 2) := by decide +kernel
theorem dX7_heads_18 : decode cX7_heads 18 = .ok (.iload 4, 2) := by decide +kernel
theorem dX7_heads_20 : decode cX7_heads 20 = .ok (.aload_n 0, 1) := by decide +kernel
theorem dX7_heads_21 : decode cX7_heads 21 = .ok (.getfield 67, 3) := by decide +kernel
theorem dX7_heads_24 : decode cX7_heads 24 = .ok (.if_icmp .ge 18, 3) := by decide +kernel
theorem dX7_heads_27 : decode cX7_heads 27 = .ok (.aload_n 0, 1) := by decide +kernel
theorem dX7_heads_28 : decode cX7_heads 28 = .ok (.getfield 45, 3) := by decide +kernel
theorem dX7_heads_31 : decode cX7_heads 31 = .ok (.iload 4, 2) := by decide +kernel
theorem dX7_heads_33 : decode cX7_heads 33 = .ok (.baload, 1) := by decide +kernel
theorem dX7_heads_34 : decode cX7_heads 34 = .ok (.ifCond .eq 8, 3) := by decide +kernel
theorem dX7_heads_37 : decode cX7_heads 37 = .ok (.iload 4, 2) := by decide +kernel
theorem dX7_heads_39 : decode cX7_heads 39 = .ok (.goto 4, 3) := by decide +kernel
theorem dX7_heads_42 : decode cX7_heads 42 = .ok (.iconst (-1), 1) := by decide +kernel
theorem dX7_heads_43 : decode cX7_heads 43 = .ok (.iastore, 1) := by decide +kernel
theorem dX7_heads_44 : decode cX7_heads 44 = .ok (.iinc 4 1, 3) := by decide +kernel
theorem dX7_heads_47 : decode cX7_heads 47 = .ok (.goto (-39), 3) := by decide +kernel
theorem dX7_heads_50 : decode cX7_heads 50 = .ok (.iconst 0, 1) := by decide +kernel
theorem dX7_heads_51 : decode cX7_heads 51 = .ok (.istore 4, 2) := by decide +kernel
theorem dX7_heads_53 : decode cX7_heads 53 = .ok (.iload 4, 2) := by decide +kernel
theorem dX7_heads_55 : decode cX7_heads 55 = .ok (.aload_n 0, 1) := by decide +kernel
theorem dX7_heads_56 : decode cX7_heads 56 = .ok (.getfield 67, 3) := by decide +kernel
theorem dX7_heads_59 : decode cX7_heads 59 = .ok (.if_icmp .ge 89, 3) := by decide +kernel
theorem dX7_heads_62 : decode cX7_heads 62 = .ok (.iconst 0, 1) := by decide +kernel
theorem dX7_heads_63 : decode cX7_heads 63 = .ok (.istore 5, 2) := by decide +kernel
theorem dX7_heads_65 : decode cX7_heads 65 = .ok (.iload 5, 2) := by decide +kernel
theorem dX7_heads_67 : decode cX7_heads 67 = .ok (.aload_n 0, 1) := by decide +kernel
theorem dX7_heads_68 : decode cX7_heads 68 = .ok (.getfield 67, 3) := by decide +kernel
theorem dX7_heads_71 : decode cX7_heads 71 = .ok (.if_icmp .ge 71, 3) := by decide +kernel
theorem dX7_heads_74 : decode cX7_heads 74 = .ok (.iconst 0, 1) := by decide +kernel
theorem dX7_heads_75 : decode cX7_heads 75 = .ok (.istore 6, 2) := by decide +kernel
theorem dX7_heads_77 : decode cX7_heads 77 = .ok (.iload 6, 2) := by decide +kernel
theorem dX7_heads_79 : decode cX7_heads 79 = .ok (.aload_n 0, 1) := by decide +kernel
theorem dX7_heads_80 : decode cX7_heads 80 = .ok (.getfield 67, 3) := by decide +kernel
theorem dX7_heads_83 : decode cX7_heads 83 = .ok (.if_icmp .ge 53, 3) := by decide +kernel
theorem dX7_heads_86 : decode cX7_heads 86 = .ok (.aload_n 3, 1) := by decide +kernel
theorem dX7_heads_87 : decode cX7_heads 87 = .ok (.iload 5, 2) := by decide +kernel
theorem dX7_heads_89 : decode cX7_heads 89 = .ok (.iaload, 1) := by decide +kernel
theorem dX7_heads_90 : decode cX7_heads 90 = .ok (.iconst (-1), 1) := by decide +kernel
theorem dX7_heads_91 : decode cX7_heads 91 = .ok (.if_icmp .eq 39, 3) := by decide +kernel
theorem dX7_heads_94 : decode cX7_heads 94 = .ok (.aload_n 3, 1) := by decide +kernel
theorem dX7_heads_95 : decode cX7_heads 95 = .ok (.iload 6, 2) := by decide +kernel
theorem dX7_heads_97 : decode cX7_heads 97 = .ok (.iaload, 1) := by decide +kernel
theorem dX7_heads_98 : decode cX7_heads 98 = .ok (.iconst (-1), 1) := by decide +kernel
theorem dX7_heads_99 : decode cX7_heads 99 = .ok (.if_icmp .eq 31, 3) := by decide +kernel
theorem dX7_heads_102 : decode cX7_heads 102 = .ok (.aload_n 0, 1) := by decide +kernel
theorem dX7_heads_103 : decode cX7_heads 103 = .ok (.iload 5, 2) := by decide +kernel
theorem dX7_heads_105 : decode cX7_heads 105 = .ok (.iload 6, 2) := by decide +kernel
theorem dX7_heads_107 : decode cX7_heads 107 = .ok (.iload_n 1, 1) := by decide +kernel
theorem dX7_heads_108 : decode cX7_heads 108 = .ok (.iload_n 2, 1) := by decide +kernel
theorem dX7_heads_109 : decode cX7_heads 109 = .ok (.invokevirtual 194, 3) := by decide +kernel
theorem dX7_heads_112 : decode cX7_heads 112 = .ok (.ifCond .eq 18, 3) := by decide +kernel
theorem dX7_heads_115 : decode cX7_heads 115 = .ok (.aload_n 3, 1) := by decide +kernel
theorem dX7_heads_116 : decode cX7_heads 116 = .ok (.iload 5, 2) := by decide +kernel
theorem dX7_heads_118 : decode cX7_heads 118 = .ok (.aload_n 3, 1) := by decide +kernel
theorem dX7_heads_119 : decode cX7_heads 119 = .ok (.iload 5, 2) := by decide +kernel
theorem dX7_heads_121 : decode cX7_heads 121 = .ok (.iaload, 1) := by decide +kernel
theorem dX7_heads_122 : decode cX7_heads 122 = .ok (.aload_n 3, 1) := by decide +kernel
theorem dX7_heads_123 : decode cX7_heads 123 = .ok (.iload 6, 2) := by decide +kernel
theorem dX7_heads_125 : decode cX7_heads 125 = .ok (.iaload, 1) := by decide +kernel
theorem dX7_heads_126 : decode cX7_heads 126 = .ok (.invokestatic 198, 3) := by decide +kernel
theorem dX7_heads_129 : decode cX7_heads 129 = .ok (.iastore, 1) := by decide +kernel
theorem dX7_heads_130 : decode cX7_heads 130 = .ok (.iinc 6 1, 3) := by decide +kernel
theorem dX7_heads_133 : decode cX7_heads 133 = .ok (.goto (-56), 3) := by decide +kernel
theorem dX7_heads_136 : decode cX7_heads 136 = .ok (.iinc 5 1, 3) := by decide +kernel
theorem dX7_heads_139 : decode cX7_heads 139 = .ok (.goto (-74), 3) := by decide +kernel
theorem dX7_heads_142 : decode cX7_heads 142 = .ok (.iinc 4 1, 3) := by decide +kernel
theorem dX7_heads_145 : decode cX7_heads 145 = .ok (.goto (-92), 3) := by decide +kernel
theorem dX7_heads_148 : decode cX7_heads 148 = .ok (.aload_n 3, 1) := by decide +kernel
theorem dX7_heads_149 : decode cX7_heads 149 = .ok (.areturn, 1) := by decide +kernel
theorem dX7_families_0 : decode cX7_families 0 = .ok (.aload_n 0, 1) := by decide +kernel
theorem dX7_families_1 : decode cX7_families 1 = .ok (.iconst 0, 1) := by decide +kernel
theorem dX7_families_2 : decode cX7_families 2 = .ok (.putfield 54, 3) := by decide +kernel
theorem dX7_families_5 : decode cX7_families 5 = .ok (.iload_n 1, 1) := by decide +kernel
theorem dX7_families_6 : decode cX7_families 6 = .ok (.iload_n 2, 1) := by decide +kernel
theorem dX7_families_7 : decode cX7_families 7 = .ok (.invokestatic 201, 3) := by decide +kernel
theorem dX7_families_10 : decode cX7_families 10 = .ok (.ifCond .ne 9, 3) := by decide +kernel
theorem dX7_families_13 : decode cX7_families 13 = .ok (.aload_n 0, 1) := by decide +kernel
theorem dX7_families_14 : decode cX7_families 14 = .ok (.iconst 1, 1) := by decide +kernel
theorem dX7_families_15 : decode cX7_families 15 = .ok (.invokevirtual 70, 3) := by decide +kernel
theorem dX7_families_18 : decode cX7_families 18 = .ok (.ireturn, 1) := by decide +kernel
theorem dX7_families_19 : decode cX7_families 19 = .ok (.aload_n 0, 1) := by decide +kernel
theorem dX7_families_20 : decode cX7_families 20 = .ok (.iload_n 1, 1) := by decide +kernel
theorem dX7_families_21 : decode cX7_families 21 = .ok (.iload_n 2, 1) := by decide +kernel
theorem dX7_families_22 : decode cX7_families 22 = .ok (.invokevirtual 204, 3) := by decide +kernel
theorem dX7_families_25 : decode cX7_families 25 = .ok (.astore_n 3, 1) := by decide +kernel
theorem dX7_families_26 : decode cX7_families 26 = .ok (.iconst 0, 1) := by decide +kernel
theorem dX7_families_27 : decode cX7_families 27 = .ok (.istore 4, 2) := by decide +kernel
theorem dX7_families_29 : decode cX7_families 29 = .ok (.iconst 0, 1) := by decide +kernel
theorem dX7_families_30 : decode cX7_families 30 = .ok (.istore 5, 2) := by decide +kernel
theorem dX7_families_32 : decode cX7_families 32 = .ok (.iload 5, 2) := by decide +kernel
theorem dX7_families_34 : decode cX7_families 34 = .ok (.aload_n 0, 1) := by decide +kernel
theorem dX7_families_35 : decode cX7_families 35 = .ok (.getfield 67, 3) := by decide +kernel
theorem dX7_families_38 : decode cX7_families 38 = .ok (.if_icmp .ge 28, 3) := by decide +kernel
theorem dX7_families_41 : decode cX7_families 41 = .ok (.iload 4, 2) := by decide +kernel
theorem dX7_families_43 : decode cX7_families 43 = .ok (.aload_n 3, 1) := by decide +kernel
theorem dX7_families_44 : decode cX7_families 44 = .ok (.iload 5, 2) := by decide +kernel
theorem dX7_families_46 : decode cX7_families 46 = .ok (.iaload, 1) := by decide +kernel
theorem dX7_families_47 : decode cX7_families 47 = .ok (.iload 5, 2) := by decide +kernel
theorem dX7_families_49 : decode cX7_families 49 = .ok (.if_icmp .ne 7, 3) := by decide +kernel
theorem dX7_families_52 : decode cX7_families 52 = .ok (.iconst 1, 1) := by decide +kernel
theorem dX7_families_53 : decode cX7_families 53 = .ok (.goto 4, 3) := by decide +kernel
theorem dX7_families_56 : decode cX7_families 56 = .ok (.iconst 0, 1) := by decide +kernel
theorem dX7_families_57 : decode cX7_families 57 = .ok (.iadd, 1) := by decide +kernel
theorem dX7_families_58 : decode cX7_families 58 = .ok (.istore 4, 2) := by decide +kernel
theorem dX7_families_60 : decode cX7_families 60 = .ok (.iinc 5 1, 3) := by decide +kernel
theorem dX7_families_63 : decode cX7_families 63 = .ok (.goto (-31), 3) := by decide +kernel
theorem dX7_families_66 : decode cX7_families 66 = .ok (.iload 4, 2) := by decide +kernel
theorem dX7_families_68 : decode cX7_families 68 = .ok (.ireturn, 1) := by decide +kernel
theorem ky_X7_isRange : yX7_isRange.cls ≠ "java/lang/invoke/MethodHandle" ∧ yX7_isRange.cls ≠ "java/lang/invoke/VarHandle" ∧ (parseMethodDescriptor yX7_isRange.desc).map (fun d => d.parameters.length) = some 2 := by decide +kernel
theorem kc_X7_families_7 : ∀ w ∈ ([Cond.methodLink "QuakeBenchModel" 201 yX7_isRange, Cond.static yX7_isRange, Cond.initialized "QuakeBenchModel", Cond.code yX7_isRange prog_9_method_52_code 2 (Option.some Jvm.ClassFile.FieldType.boolean)] : List Cond), w ∈ lw_all := zin [1439, 1440, 61, 1441] (by decide +kernel)
theorem ky_X7_heads : yX7_heads.cls ≠ "java/lang/invoke/MethodHandle" ∧ yX7_heads.cls ≠ "java/lang/invoke/VarHandle" ∧ (parseMethodDescriptor yX7_heads.desc).map (fun d => d.parameters.length) = some 2 := by decide +kernel
theorem kc_X7_families_22 : ∀ w ∈ ([Cond.methodLink "QuakeBenchModel" 204 yX7_heads, Cond.instanceMethod yX7_heads, Cond.selects "QuakeBenchModel" yX7_heads yX7_heads, Cond.initialized "QuakeBenchModel", Cond.code yX7_heads prog_9_method_55_code 7 (Option.some (Jvm.ClassFile.FieldType.array Jvm.ClassFile.FieldType.int))] : List Cond), w ∈ lw_all := zin [1442, 1444, 50, 61, 1445] (by decide +kernel)
theorem kc_X7_families_15 : ∀ w ∈ ([Cond.methodLink "QuakeBenchModel" 70 yX7_no, Cond.instanceMethod yX7_no, Cond.selects "QuakeBenchModel" yX7_no yX7_no, Cond.initialized "QuakeBenchModel", Cond.code yX7_no prog_9_method_3_code 2 (Option.some Jvm.ClassFile.FieldType.int)] : List Cond), w ∈ lw_all := zin [1239, 1241, 25, 61, 1242] (by decide +kernel)
theorem dX7_digest_0 : decode cX7_digest 0 = .ok (.aload_n 0, 1) := by decide +kernel
theorem dX7_digest_1 : decode cX7_digest 1 = .ok (.iconst 0, 1) := by decide +kernel
theorem dX7_digest_2 : decode cX7_digest 2 = .ok (.putfield 54, 3) := by decide +kernel
theorem dX7_digest_5 : decode cX7_digest 5 = .ok (.ldc2_w 208, 3) := by decide +kernel
theorem dX7_digest_8 : decode cX7_digest 8 = .ok (.lstore_n 1, 1) := by decide +kernel
theorem dX7_digest_9 : decode cX7_digest 9 = .ok (.iconst 0, 1) := by decide +kernel
theorem dX7_digest_10 : decode cX7_digest 10 = .ok (.istore_n 3, 1) := by decide +kernel
theorem dX7_digest_11 : decode cX7_digest 11 = .ok (.iload_n 3, 1) := by decide +kernel
theorem dX7_digest_12 : decode cX7_digest 12 = .ok (.iconst 5, 1) := by decide +kernel
theorem dX7_digest_13 : decode cX7_digest 13 = .ok (.if_icmp .ge 22, 3) := by decide +kernel
theorem dX7_digest_16 : decode cX7_digest 16 = .ok (.lload_n 1, 1) := by decide +kernel
theorem dX7_digest_17 : decode cX7_digest 17 = .ok (.ldc2_w 210, 3) := by decide +kernel
theorem dX7_digest_20 : decode cX7_digest 20 = .ok (.lmul, 1) := by decide +kernel
theorem dX7_digest_21 : decode cX7_digest 21 = .ok (.aload_n 0, 1) := by decide +kernel
theorem dX7_digest_22 : decode cX7_digest 22 = .ok (.iload_n 3, 1) := by decide +kernel
theorem dX7_digest_23 : decode cX7_digest 23 = .ok (.invokevirtual 143, 3) := by decide +kernel
theorem dX7_digest_26 : decode cX7_digest 26 = .ok (.i2l, 1) := by decide +kernel
theorem dX7_digest_27 : decode cX7_digest 27 = .ok (.ladd, 1) := by decide +kernel
theorem dX7_digest_28 : decode cX7_digest 28 = .ok (.lstore_n 1, 1) := by decide +kernel
theorem dX7_digest_29 : decode cX7_digest 29 = .ok (.iinc 3 1, 3) := by decide +kernel
theorem dX7_digest_32 : decode cX7_digest 32 = .ok (.goto (-21), 3) := by decide +kernel
theorem dX7_digest_35 : decode cX7_digest 35 = .ok (.lload_n 1, 1) := by decide +kernel
theorem dX7_digest_36 : decode cX7_digest 36 = .ok (.ldc2_w 210, 3) := by decide +kernel
theorem dX7_digest_39 : decode cX7_digest 39 = .ok (.lmul, 1) := by decide +kernel
theorem dX7_digest_40 : decode cX7_digest 40 = .ok (.aload_n 0, 1) := by decide +kernel
theorem dX7_digest_41 : decode cX7_digest 41 = .ok (.getfield 7, 3) := by decide +kernel
theorem dX7_digest_44 : decode cX7_digest 44 = .ok (.i2l, 1) := by decide +kernel
theorem dX7_digest_45 : decode cX7_digest 45 = .ok (.ladd, 1) := by decide +kernel
theorem dX7_digest_46 : decode cX7_digest 46 = .ok (.ldc2_w 210, 3) := by decide +kernel
theorem dX7_digest_49 : decode cX7_digest 49 = .ok (.lmul, 1) := by decide +kernel
theorem dX7_digest_50 : decode cX7_digest 50 = .ok (.aload_n 0, 1) := by decide +kernel
theorem dX7_digest_51 : decode cX7_digest 51 = .ok (.getfield 13, 3) := by decide +kernel
theorem dX7_digest_54 : decode cX7_digest 54 = .ok (.i2l, 1) := by decide +kernel
theorem dX7_digest_55 : decode cX7_digest 55 = .ok (.ladd, 1) := by decide +kernel
theorem dX7_digest_56 : decode cX7_digest 56 = .ok (.lstore_n 1, 1) := by decide +kernel
theorem dX7_digest_57 : decode cX7_digest 57 = .ok (.iconst 0, 1) := by decide +kernel
theorem dX7_digest_58 : decode cX7_digest 58 = .ok (.istore_n 3, 1) := by decide +kernel
theorem dX7_digest_59 : decode cX7_digest 59 = .ok (.iload_n 3, 1) := by decide +kernel
theorem dX7_digest_60 : decode cX7_digest 60 = .ok (.aload_n 0, 1) := by decide +kernel
theorem dX7_digest_61 : decode cX7_digest 61 = .ok (.getfield 57, 3) := by decide +kernel
theorem dX7_digest_64 : decode cX7_digest 64 = .ok (.if_icmp .ge 47, 3) := by decide +kernel
theorem dX7_digest_67 : decode cX7_digest 67 = .ok (.lload_n 1, 1) := by decide +kernel
theorem dX7_digest_68 : decode cX7_digest 68 = .ok (.ldc2_w 210, 3) := by decide +kernel
theorem dX7_digest_71 : decode cX7_digest 71 = .ok (.lmul, 1) := by decide +kernel
theorem dX7_digest_72 : decode cX7_digest 72 = .ok (.aload_n 0, 1) := by decide +kernel
theorem dX7_digest_73 : decode cX7_digest 73 = .ok (.getfield 16, 3) := by decide +kernel
theorem dX7_digest_76 : decode cX7_digest 76 = .ok (.iload_n 3, 1) := by decide +kernel
theorem dX7_digest_77 : decode cX7_digest 77 = .ok (.iaload, 1) := by decide +kernel
theorem dX7_digest_78 : decode cX7_digest 78 = .ok (.i2l, 1) := by decide +kernel
theorem dX7_digest_79 : decode cX7_digest 79 = .ok (.ladd, 1) := by decide +kernel
theorem dX7_digest_80 : decode cX7_digest 80 = .ok (.ldc2_w 210, 3) := by decide +kernel
theorem dX7_digest_83 : decode cX7_digest 83 = .ok (.lmul, 1) := by decide +kernel
theorem dX7_digest_84 : decode cX7_digest 84 = .ok (.aload_n 0, 1) := by decide +kernel
theorem dX7_digest_85 : decode cX7_digest 85 = .ok (.getfield 20, 3) := by decide +kernel
theorem dX7_digest_88 : decode cX7_digest 88 = .ok (.iload_n 3, 1) := by decide +kernel
theorem dX7_digest_89 : decode cX7_digest 89 = .ok (.iaload, 1) := by decide +kernel
theorem dX7_digest_90 : decode cX7_digest 90 = .ok (.i2l, 1) := by decide +kernel
theorem dX7_digest_91 : decode cX7_digest 91 = .ok (.ladd, 1) := by decide +kernel
theorem dX7_digest_92 : decode cX7_digest 92 = .ok (.ldc2_w 210, 3) := by decide +kernel
theorem dX7_digest_95 : decode cX7_digest 95 = .ok (.lmul, 1) := by decide +kernel
theorem dX7_digest_96 : decode cX7_digest 96 = .ok (.aload_n 0, 1) := by decide +kernel
theorem dX7_digest_97 : decode cX7_digest 97 = .ok (.getfield 23, 3) := by decide +kernel
theorem dX7_digest_100 : decode cX7_digest 100 = .ok (.iload_n 3, 1) := by decide +kernel
theorem dX7_digest_101 : decode cX7_digest 101 = .ok (.iaload, 1) := by decide +kernel
theorem dX7_digest_102 : decode cX7_digest 102 = .ok (.i2l, 1) := by decide +kernel
theorem dX7_digest_103 : decode cX7_digest 103 = .ok (.ladd, 1) := by decide +kernel
theorem dX7_digest_104 : decode cX7_digest 104 = .ok (.lstore_n 1, 1) := by decide +kernel
theorem dX7_digest_105 : decode cX7_digest 105 = .ok (.iinc 3 1, 3) := by decide +kernel
theorem dX7_digest_108 : decode cX7_digest 108 = .ok (.goto (-49), 3) := by decide +kernel
theorem dX7_digest_111 : decode cX7_digest 111 = .ok (.iconst 0, 1) := by decide +kernel
theorem dX7_digest_112 : decode cX7_digest 112 = .ok (.istore_n 3, 1) := by decide +kernel
theorem dX7_digest_113 : decode cX7_digest 113 = .ok (.iload_n 3, 1) := by decide +kernel
theorem dX7_digest_114 : decode cX7_digest 114 = .ok (.aload_n 0, 1) := by decide +kernel
theorem dX7_digest_115 : decode cX7_digest 115 = .ok (.getfield 64, 3) := by decide +kernel
theorem dX7_digest_118 : decode cX7_digest 118 = .ok (.if_icmp .ge 53, 3) := by decide +kernel
theorem dX7_digest_121 : decode cX7_digest 121 = .ok (.iconst 0, 1) := by decide +kernel
theorem dX7_digest_122 : decode cX7_digest 122 = .ok (.istore 4, 2) := by decide +kernel
theorem dX7_digest_124 : decode cX7_digest 124 = .ok (.iload 4, 2) := by decide +kernel
theorem dX7_digest_126 : decode cX7_digest 126 = .ok (.iconst 5, 1) := by decide +kernel
theorem dX7_digest_127 : decode cX7_digest 127 = .ok (.if_icmp .ge 24, 3) := by decide +kernel
theorem dX7_digest_130 : decode cX7_digest 130 = .ok (.lload_n 1, 1) := by decide +kernel
theorem dX7_digest_131 : decode cX7_digest 131 = .ok (.ldc2_w 210, 3) := by decide +kernel
theorem dX7_digest_134 : decode cX7_digest 134 = .ok (.lmul, 1) := by decide +kernel
theorem dX7_digest_135 : decode cX7_digest 135 = .ok (.aload_n 0, 1) := by decide +kernel
theorem dX7_digest_136 : decode cX7_digest 136 = .ok (.iload_n 3, 1) := by decide +kernel
theorem dX7_digest_137 : decode cX7_digest 137 = .ok (.iload 4, 2) := by decide +kernel
theorem dX7_digest_139 : decode cX7_digest 139 = .ok (.invokevirtual 103, 3) := by decide +kernel
theorem dX7_digest_142 : decode cX7_digest 142 = .ok (.i2l, 1) := by decide +kernel
theorem dX7_digest_143 : decode cX7_digest 143 = .ok (.ladd, 1) := by decide +kernel
theorem dX7_digest_144 : decode cX7_digest 144 = .ok (.lstore_n 1, 1) := by decide +kernel
theorem dX7_digest_145 : decode cX7_digest 145 = .ok (.iinc 4 1, 3) := by decide +kernel
theorem dX7_digest_148 : decode cX7_digest 148 = .ok (.goto (-24), 3) := by decide +kernel
theorem dX7_digest_151 : decode cX7_digest 151 = .ok (.lload_n 1, 1) := by decide +kernel
theorem dX7_digest_152 : decode cX7_digest 152 = .ok (.ldc2_w 210, 3) := by decide +kernel
theorem dX7_digest_155 : decode cX7_digest 155 = .ok (.lmul, 1) := by decide +kernel
theorem dX7_digest_156 : decode cX7_digest 156 = .ok (.aload_n 0, 1) := by decide +kernel
theorem dX7_digest_157 : decode cX7_digest 157 = .ok (.getfield 42, 3) := by decide +kernel
theorem dX7_digest_160 : decode cX7_digest 160 = .ok (.iload_n 3, 1) := by decide +kernel
theorem dX7_digest_161 : decode cX7_digest 161 = .ok (.iaload, 1) := by decide +kernel
theorem dX7_digest_162 : decode cX7_digest 162 = .ok (.i2l, 1) := by decide +kernel
theorem dX7_digest_163 : decode cX7_digest 163 = .ok (.ladd, 1) := by decide +kernel
theorem dX7_digest_164 : decode cX7_digest 164 = .ok (.lstore_n 1, 1) := by decide +kernel
theorem dX7_digest_165 : decode cX7_digest 165 = .ok (.iinc 3 1, 3) := by decide +kernel
theorem dX7_digest_168 : decode cX7_digest 168 = .ok (.goto (-55), 3) := by decide +kernel
theorem dX7_digest_171 : decode cX7_digest 171 = .ok (.iconst 0, 1) := by decide +kernel
theorem dX7_digest_172 : decode cX7_digest 172 = .ok (.istore_n 3, 1) := by decide +kernel
theorem dX7_digest_173 : decode cX7_digest 173 = .ok (.iload_n 3, 1) := by decide +kernel
theorem dX7_digest_174 : decode cX7_digest 174 = .ok (.aload_n 0, 1) := by decide +kernel
theorem dX7_digest_175 : decode cX7_digest 175 = .ok (.getfield 67, 3) := by decide +kernel
theorem dX7_digest_178 : decode cX7_digest 178 = .ok (.if_icmp .ge 92, 3) := by decide +kernel
theorem dX7_digest_181 : decode cX7_digest 181 = .ok (.lload_n 1, 1) := by decide +kernel
theorem dX7_digest_182 : decode cX7_digest 182 = .ok (.ldc2_w 210, 3) := by decide +kernel
theorem dX7_digest_185 : decode cX7_digest 185 = .ok (.lmul, 1) := by decide +kernel
theorem dX7_digest_186 : decode cX7_digest 186 = .ok (.aload_n 0, 1) := by decide +kernel
theorem dX7_digest_187 : decode cX7_digest 187 = .ok (.iload_n 3, 1) := by decide +kernel
theorem dX7_digest_188 : decode cX7_digest 188 = .ok (.invokevirtual 140, 3) := by decide +kernel
theorem dX7_digest_191 : decode cX7_digest 191 = .ok (.i2l, 1) := by decide +kernel
theorem dX7_digest_192 : decode cX7_digest 192 = .ok (.ladd, 1) := by decide +kernel
theorem dX7_digest_193 : decode cX7_digest 193 = .ok (.lstore_n 1, 1) := by decide +kernel
theorem dX7_digest_194 : decode cX7_digest 194 = .ok (.aload_n 0, 1) := by decide +kernel
theorem dX7_digest_195 : decode cX7_digest 195 = .ok (.getfield 45, 3) := by decide +kernel
theorem dX7_digest_198 : decode cX7_digest 198 = .ok (.iload_n 3, 1) := by decide +kernel
theorem dX7_digest_199 : decode cX7_digest 199 = .ok (.baload, 1) := by decide +kernel
theorem dX7_digest_200 : decode cX7_digest 200 = .ok (.ifCond .ne 6, 3) := by decide +kernel
theorem dX7_digest_203 : decode cX7_digest 203 = .ok (.goto 61, 3) := by decide +kernel
theorem dX7_digest_206 : decode cX7_digest 206 = .ok (.iconst 0, 1) := by decide +kernel
theorem dX7_digest_207 : decode cX7_digest 207 = .ok (.istore 4, 2) := by decide +kernel
theorem dX7_digest_209 : decode cX7_digest 209 = .ok (.iload 4, 2) := by decide +kernel
theorem dX7_digest_211 : decode cX7_digest 211 = .ok (.iconst 4, 1) := by decide +kernel
theorem dX7_digest_212 : decode cX7_digest 212 = .ok (.if_icmp .ge 28, 3) := by decide +kernel
theorem dX7_digest_215 : decode cX7_digest 215 = .ok (.lload_n 1, 1) := by decide +kernel
theorem dX7_digest_216 : decode cX7_digest 216 = .ok (.ldc2_w 210, 3) := by decide +kernel
theorem dX7_digest_219 : decode cX7_digest 219 = .ok (.lmul, 1) := by decide +kernel
theorem dX7_digest_220 : decode cX7_digest 220 = .ok (.aload_n 0, 1) := by decide +kernel
theorem dX7_digest_221 : decode cX7_digest 221 = .ok (.getfield 48, 3) := by decide +kernel
theorem dX7_digest_224 : decode cX7_digest 224 = .ok (.iconst 4, 1) := by decide +kernel
theorem dX7_digest_225 : decode cX7_digest 225 = .ok (.iload_n 3, 1) := by decide +kernel
theorem dX7_digest_226 : decode cX7_digest 226 = .ok (.imul, 1) := by decide +kernel
theorem dX7_digest_227 : decode cX7_digest 227 = .ok (.iload 4, 2) := by decide +kernel
theorem dX7_digest_229 : decode cX7_digest 229 = .ok (.iadd, 1) := by decide +kernel
theorem dX7_digest_230 : decode cX7_digest 230 = .ok (.iaload, 1) := by decide +kernel
theorem dX7_digest_231 : decode cX7_digest 231 = .ok (.i2l, 1) := by decide +kernel
theorem dX7_digest_232 : decode cX7_digest 232 = .ok (.ladd, 1) := by decide +kernel
theorem dX7_digest_233 : decode cX7_digest 233 = .ok (.lstore_n 1, 1) := by decide +kernel
theorem dX7_digest_234 : decode cX7_digest 234 = .ok (.iinc 4 1, 3) := by decide +kernel
theorem dX7_digest_237 : decode cX7_digest 237 = .ok (.goto (-28), 3) := by decide +kernel
theorem dX7_digest_240 : decode cX7_digest 240 = .ok (.lload_n 1, 1) := by decide +kernel
theorem dX7_digest_241 : decode cX7_digest 241 = .ok (.ldc2_w 210, 3) := by decide +kernel
theorem dX7_digest_244 : decode cX7_digest 244 = .ok (.lmul, 1) := by decide +kernel
theorem dX7_digest_245 : decode cX7_digest 245 = .ok (.aload_n 0, 1) := by decide +kernel
theorem dX7_digest_246 : decode cX7_digest 246 = .ok (.iload_n 3, 1) := by decide +kernel
theorem dX7_digest_247 : decode cX7_digest 247 = .ok (.invokevirtual 181, 3) := by decide +kernel
theorem dX7_digest_250 : decode cX7_digest 250 = .ok (.i2l, 1) := by decide +kernel
theorem dX7_digest_251 : decode cX7_digest 251 = .ok (.ladd, 1) := by decide +kernel
theorem dX7_digest_252 : decode cX7_digest 252 = .ok (.ldc2_w 210, 3) := by decide +kernel
theorem dX7_digest_255 : decode cX7_digest 255 = .ok (.lmul, 1) := by decide +kernel
theorem dX7_digest_256 : decode cX7_digest 256 = .ok (.aload_n 0, 1) := by decide +kernel
theorem dX7_digest_257 : decode cX7_digest 257 = .ok (.iload_n 3, 1) := by decide +kernel
theorem dX7_digest_258 : decode cX7_digest 258 = .ok (.invokevirtual 188, 3) := by decide +kernel
theorem dX7_digest_261 : decode cX7_digest 261 = .ok (.i2l, 1) := by decide +kernel
theorem dX7_digest_262 : decode cX7_digest 262 = .ok (.ladd, 1) := by decide +kernel
theorem dX7_digest_263 : decode cX7_digest 263 = .ok (.lstore_n 1, 1) := by decide +kernel
theorem dX7_digest_264 : decode cX7_digest 264 = .ok (.iinc 3 1, 3) := by decide +kernel
theorem dX7_digest_267 : decode cX7_digest 267 = .ok (.goto (-94), 3) := by decide +kernel
theorem dX7_digest_270 : decode cX7_digest 270 = .ok (.lload_n 1, 1) := by decide +kernel
theorem dX7_digest_271 : decode cX7_digest 271 = .ok (.lreturn, 1) := by decide +kernel
theorem kw_1467 : Cond.constantLong "QuakeBenchModel" 208 337 ∈ lw_all := zin1 1467 (by decide +kernel)
theorem kw_1468 : Cond.constantLong "QuakeBenchModel" 210 31 ∈ lw_all := zin1 1468 (by decide +kernel)
theorem kc_X7_digest_23 : ∀ w ∈ ([Cond.methodLink "QuakeBenchModel" 143 yX7_counted, Cond.instanceMethod yX7_counted, Cond.selects "QuakeBenchModel" yX7_counted yX7_counted, Cond.initialized "QuakeBenchModel", Cond.code yX7_counted prog_9_method_30_code 2 (Option.some Jvm.ClassFile.FieldType.int)] : List Cond), w ∈ lw_all := zin [1358, 1360, 41, 61, 1361] (by decide +kernel)
/-! the reference: families, digest and constructor -/
abbrev rm_m_heads : Room := { frames := 0, cells := 1, slots := 12, locals := 0 }
set_option maxHeartbeats 4000000 in
set_option maxRecDepth 100000 in
theorem m_heads (l : Launch) (Γ : zY) (G : zG) {mo : Nat} {th : Int32} {μ : Nat → Nat} (x y : Int32) (hm : G mo = some (oM0 th μ)) : ZM l yX7_heads cX7_heads 7 (some (FieldType.array FieldType.int)) rm_m_heads Γ [.ref mo, .int x, .int y] G (fun v G' => ∃ hd, some (.ref hd) = v ∧ G hd = none ∧ ∃ f, zU G hd (zI Γ 12 f) = G') := by
  refine z_start (by decide +kernel) [some (.ref mo), some (.int x), some (.int y), none, none, none, none] rfl (Nat.le_of_ble_eq_true rfl) ?_
  intro p e s m args below meth c Q A C F hr hnm
  refine z_bipush (v := 12) C dX7_heads_0 rfl ?_
  refine z_newi (N := 12) C kw_153 (by decide) (by decide) (Nat.le_of_ble_eq_true rfl) (Nat.le_of_ble_eq_true rfl) (Nat.le_of_ble_eq_true rfl) dX7_heads_2 (fun a2 n2 => ?_)
  first | refine z_rstore_n C dX7_heads_4 (by decide) ?_ | refine z_nstore_n C dX7_heads_4 (by decide) ?_ | refine z_astore_n C dX7_heads_4 (by decide) ?_
  refine z_iconst (v := 0) C dX7_heads_5 rfl ?_
  refine z_istore C dX7_heads_6 (by decide) ?_
  have da : mo ≠ a2 := zG_nn hm n2
  have loop : ∀ (d i : Nat) (f : Nat → Int32), i + d = 12 → Z p l e rm_m_heads s m args below meth c Q 7 Γ A (zU G a2 (zI Γ 12 f)) 1 12 8 [some (.ref mo), some (.int x), some (.int y), some (.ref a2), some (.int (nI i)), none, none] [] := by
    intro d
    induction d with
    | zero =>
      intro i f hi
      obtain rfl : i = 12 := by omega
      refine z_iload C dX7_heads_8 rfl ?_
      refine z_bipush (v := 12) C dX7_heads_10 rfl ?_
      refine z_icmp_ge (tgt := 50) C dX7_heads_12 (by decide) (fun h12 => ?_) (fun h12 => ?_)
      · refine z_iconst (v := 0) C dX7_heads_50 rfl ?_
        refine z_istore C dX7_heads_51 (by decide) ?_
        refine z_iload C dX7_heads_53 rfl ?_
        first | refine z_rload_n C dX7_heads_55 rfl ?_ | refine z_nload_n C dX7_heads_55 rfl ?_ | refine z_aload_n C dX7_heads_55 rfl ?_
        refine z_getf (T := TX7) (N := 19) C ((zU_ne da).trans hm) rfl 14 (by decide) kw_1183 (Or.inl rfl) rfl dX7_heads_56 ?_
        refine z_icmp_ge (tgt := 148) C dX7_heads_59 (by decide) (fun h59 => ?_) (fun h59 => ?_)
        · first | refine z_rload_n C dX7_heads_148 rfl ?_ | refine z_nload_n C dX7_heads_148 rfl ?_ | refine z_aload_n C dX7_heads_148 rfl ?_
          exact z_rret C F hr (Or.inr ⟨_, rfl⟩) (Nat.le_of_ble_eq_true rfl) (Nat.le_of_ble_eq_true rfl) ⟨a2, rfl, n2, f, rfl⟩ dX7_heads_149
        · exact absurd (by decide) h59
      · exact absurd (by decide) h12
    | succ d ih =>
      intro i f hi
      refine z_iload C dX7_heads_8 rfl ?_
      refine z_bipush (v := 12) C dX7_heads_10 rfl ?_
      refine z_icmp_ge (tgt := 50) C dX7_heads_12 (by decide) (fun h12 => ?_) (fun h12 => ?_)
      · exact absurd h12 (nI_ge (b := 12) (by omega) (by omega))
      · first | refine z_rload_n C dX7_heads_15 rfl ?_ | refine z_nload_n C dX7_heads_15 rfl ?_ | refine z_aload_n C dX7_heads_15 rfl ?_
        refine z_iload C dX7_heads_16 rfl ?_
        refine z_iload C dX7_heads_18 rfl ?_
        first | refine z_rload_n C dX7_heads_20 rfl ?_ | refine z_nload_n C dX7_heads_20 rfl ?_ | refine z_aload_n C dX7_heads_20 rfl ?_
        refine z_getf (T := TX7) (N := 19) C ((zU_ne da).trans hm) rfl 14 (by decide) kw_1183 (Or.inl rfl) rfl dX7_heads_21 ?_
        refine z_icmp_ge (tgt := 42) C dX7_heads_24 (by decide) (fun h24 => ?_) (fun h24 => ?_)
        · refine z_iconst (v := (-1)) C dX7_heads_42 rfl ?_
          refine z_iast C (by first | assumption | exact zU_same _ _ _) (vp_in_nI (by omega) (by decide)) dX7_heads_43 ?_
          refine z_iinc (w := 1) C dX7_heads_44 rfl rfl (by decide) ?_
          rw [zU_zU, ← nI_succ]
          refine z_goto (tgt := 8) C dX7_heads_47 (by decide) ?_
          exact ih (i + 1) _ (by omega)
        · exact absurd (nI_le (a := 0) (b := i) (by omega) (by omega)) h24
  exact loop 12 0 _ rfl
abbrev rm_m_families : Room := { frames := 2, cells := 1, slots := 12, locals := 43 }
set_option maxHeartbeats 4000000 in
set_option maxRecDepth 100000 in
theorem m_families (l : Launch) (Γ : zY) (G : zG) {mo : Nat} {th : Int32} {μ : Nat → Nat} (x y : Int32) (hm : G mo = some (oM0 th μ)) : ZM l yX7_families cX7_families 6 (some FieldType.int) rm_m_families Γ [.ref mo, .int x, .int y] G (fun v G' => some (.int 0) = v ∧ zMK G G' mo μ (s_not (s_rng x y))) := by
  refine z_start (by decide +kernel) [some (.ref mo), some (.int x), some (.int y), none, none, none] rfl (Nat.le_of_ble_eq_true rfl) ?_
  intro p e s m args below meth c Q A C F hr hnm
  first | refine z_rload_n C dX7_families_0 rfl ?_ | refine z_nload_n C dX7_families_0 rfl ?_ | refine z_aload_n C dX7_families_0 rfl ?_
  refine z_iconst (v := 0) C dX7_families_1 rfl ?_
  refine z_putf (T := TX7) (N := 19) C (by first | assumption | exact zU_same _ _ _) rfl 0 (by decide) kw_1169 (Or.inl rfl) rfl (tyX7_ok 0 (by decide)) rfl rfl (Nat.le_of_ble_eq_true rfl) dX7_families_2 ?_
  refine z_iload_n C dX7_families_5 rfl ?_
  refine z_iload_n C dX7_families_6 rfl ?_
  refine z_callS C (m_isRange l Γ _ x y) kc_X7_families_7 rfl rfl ky_X7_isRange ⟨(Nat.le_of_ble_eq_true rfl), (Nat.le_of_ble_eq_true rfl)⟩ (Nat.le_of_ble_eq_true rfl) ⟨(Nat.le_of_ble_eq_true rfl), (Nat.le_of_ble_eq_true rfl)⟩ dX7_families_7 (fun v7 G7 hp7 => ?_)
  obtain ⟨rfl, rfl⟩ := hp7
  refine z_if_ne (tgt := 19) C dX7_families_10 (by decide) (fun h10 => ?_) (fun h10 => ?_)
  · first | refine z_rload_n C dX7_families_19 rfl ?_ | refine z_nload_n C dX7_families_19 rfl ?_ | refine z_aload_n C dX7_families_19 rfl ?_
    refine z_iload_n C dX7_families_20 rfl ?_
    refine z_iload_n C dX7_families_21 rfl ?_
    refine z_callV (q := (RX7, TX7, 19)) C (m_heads l Γ _ x y (zU_same G mo (oM0 0 μ))) kc_X7_families_22 (by first | assumption | exact zU_same _ _ _) rfl rfl rfl rfl ky_X7_heads ⟨(Nat.le_of_ble_eq_true rfl), (Nat.le_of_ble_eq_true rfl)⟩ (Nat.le_of_ble_eq_true rfl) ⟨(Nat.le_of_ble_eq_true rfl), (Nat.le_of_ble_eq_true rfl)⟩ dX7_families_22 (fun v22 G22 hp22 => ?_)
    obtain ⟨hd, rfl, hn, f, rfl⟩ := hp22
    have da : mo ≠ hd := zG_nn (zU_same _ _ _) hn
    first | refine z_rstore_n C dX7_families_25 (by decide) ?_ | refine z_nstore_n C dX7_families_25 (by decide) ?_ | refine z_astore_n C dX7_families_25 (by decide) ?_
    refine z_iconst (v := 0) C dX7_families_26 rfl ?_
    refine z_istore C dX7_families_27 (by decide) ?_
    refine z_iconst (v := 0) C dX7_families_29 rfl ?_
    refine z_istore C dX7_families_30 (by decide) ?_
    refine z_iload C dX7_families_32 rfl ?_
    first | refine z_rload_n C dX7_families_34 rfl ?_ | refine z_nload_n C dX7_families_34 rfl ?_ | refine z_aload_n C dX7_families_34 rfl ?_
    refine z_getf (T := TX7) (N := 19) C ((zU_ne da).trans (zU_same _ _ _)) rfl 14 (by decide) kw_1183 (Or.inl rfl) rfl dX7_families_35 ?_
    refine z_icmp_ge (tgt := 66) C dX7_families_38 (by decide) (fun h38 => ?_) (fun h38 => ?_)
    · refine z_iload C dX7_families_66 rfl ?_
      exact z_iret C F hr (Nat.le_of_ble_eq_true rfl) (Nat.le_of_ble_eq_true rfl) ⟨rfl, by unfold s_not; rw [if_neg h10]; exact ⟨⟨_, (zU_ne da).trans (zU_same _ _ _)⟩, fun q e h k1 k2 => (zU_ne (zG_nn ((zU_ne k1).trans h) hn)).trans ((zU_ne k1).trans h)⟩⟩ dX7_families_68
    · exact absurd (by decide) h38
  · first | refine z_rload_n C dX7_families_13 rfl ?_ | refine z_nload_n C dX7_families_13 rfl ?_ | refine z_aload_n C dX7_families_13 rfl ?_
    refine z_iconst (v := 1) C dX7_families_14 rfl ?_
    refine z_callV (q := (RX7, TX7, 19)) C (m_no l Γ _ 1 (zU_same G mo (oM0 0 μ))) kc_X7_families_15 (by first | assumption | exact zU_same _ _ _) rfl rfl rfl rfl ky_X7_no ⟨(Nat.le_of_ble_eq_true rfl), (Nat.le_of_ble_eq_true rfl)⟩ (Nat.le_of_ble_eq_true rfl) ⟨(Nat.le_of_ble_eq_true rfl), (Nat.le_of_ble_eq_true rfl)⟩ dX7_families_15 (fun v15 G15 hp15 => ?_)
    obtain ⟨rfl, rfl⟩ := hp15
    exact z_iret C F hr (Nat.le_of_ble_eq_true rfl) (Nat.le_of_ble_eq_true rfl) ⟨rfl, by unfold s_not; rw [if_pos h10]; exact zMK.uu⟩ dX7_families_18
def s_rep : Nat → Int64 → Int64
  | 0, D => D
  | d + 1, D => s_rep d (D * 31 + (0 : Int32).toInt64)
def s_dig : Int64 := ((((((337 * 31 + (0 : Int32).toInt64) * 31 + (0 : Int32).toInt64) * 31 + (0 : Int32).toInt64) * 31 + (0 : Int32).toInt64) * 31 + (0 : Int32).toInt64) * 31 + (6000 : Int32).toInt64) * 31 + (3468 : Int32).toInt64
abbrev rm_m_digest : Room := { frames := 2, cells := 0, slots := 0, locals := 44 }
set_option maxHeartbeats 4000000 in
set_option maxRecDepth 100000 in
theorem m_digest (l : Launch) (Γ : zY) (G : zG) {mo : Nat} {th : Int32} {μ : Nat → Nat} (hm : G mo = some (oM0 th μ)) : ZM l yX7_digest cX7_digest 5 (some FieldType.long) rm_m_digest Γ [.ref mo] G (fun v G' => some (.long s_dig) = v ∧ zMK G G' mo μ 0) := by
  refine z_start (by decide +kernel) [some (.ref mo), none, none, none, none] rfl (Nat.le_of_ble_eq_true rfl) ?_
  intro p e s m args below meth c Q A C F hr hnm
  first | refine z_rload_n C dX7_digest_0 rfl ?_ | refine z_nload_n C dX7_digest_0 rfl ?_ | refine z_aload_n C dX7_digest_0 rfl ?_
  refine z_iconst (v := 0) C dX7_digest_1 rfl ?_
  refine z_putf (T := TX7) (N := 19) C (by first | assumption | exact zU_same _ _ _) rfl 0 (by decide) kw_1169 (Or.inl rfl) rfl (tyX7_ok 0 (by decide)) rfl rfl (Nat.le_of_ble_eq_true rfl) dX7_digest_2 ?_
  refine z_ldc2 C kw_1467 dX7_digest_5 ?_
  refine z_lstore_n C dX7_digest_8 (by decide) ?_
  refine z_iconst (v := 0) C dX7_digest_9 rfl ?_
  refine z_istore_n C dX7_digest_10 (by decide) ?_
  have loop : ∀ (d i : Nat) (D : Int64), i + d = 5 → s_rep d D = s_rep 5 337 → Z p l e rm_m_digest s m args below meth c Q 5 Γ A (zU G mo (oM0 0 μ)) 0 0 11 [some (.ref mo), some (.long D), none, some (.int (nI i)), none] [] := by
    intro d
    induction d with
    | zero =>
      intro i D hi hD
      obtain rfl : i = 5 := by omega
      change D = _ at hD
      subst hD
      refine z_iload_n C dX7_digest_11 rfl ?_
      refine z_iconst (v := 5) C dX7_digest_12 rfl ?_
      refine z_icmp_ge (tgt := 35) C dX7_digest_13 (by decide) (fun h13 => ?_) (fun h13 => ?_)
      · refine z_lload_n C dX7_digest_35 rfl ?_
        refine z_ldc2 C kw_1468 dX7_digest_36 ?_
        refine z_lmul C dX7_digest_39 ?_
        first | refine z_rload_n C dX7_digest_40 rfl ?_ | refine z_nload_n C dX7_digest_40 rfl ?_ | refine z_aload_n C dX7_digest_40 rfl ?_
        refine z_getf (T := TX7) (N := 19) C (by first | assumption | exact zU_same _ _ _) rfl 1 (by decide) kw_1170 (Or.inl rfl) rfl dX7_digest_41 ?_
        refine z_i2l C dX7_digest_44 ?_
        refine z_ladd C dX7_digest_45 ?_
        refine z_ldc2 C kw_1468 dX7_digest_46 ?_
        refine z_lmul C dX7_digest_49 ?_
        first | refine z_rload_n C dX7_digest_50 rfl ?_ | refine z_nload_n C dX7_digest_50 rfl ?_ | refine z_aload_n C dX7_digest_50 rfl ?_
        refine z_getf (T := TX7) (N := 19) C (by first | assumption | exact zU_same _ _ _) rfl 2 (by decide) kw_1171 (Or.inl rfl) rfl dX7_digest_51 ?_
        refine z_i2l C dX7_digest_54 ?_
        refine z_ladd C dX7_digest_55 ?_
        refine z_lstore_n C dX7_digest_56 (by decide) ?_
        refine z_iconst (v := 0) C dX7_digest_57 rfl ?_
        refine z_istore_n C dX7_digest_58 (by decide) ?_
        refine z_iload_n C dX7_digest_59 rfl ?_
        first | refine z_rload_n C dX7_digest_60 rfl ?_ | refine z_nload_n C dX7_digest_60 rfl ?_ | refine z_aload_n C dX7_digest_60 rfl ?_
        refine z_getf (T := TX7) (N := 19) C (by first | assumption | exact zU_same _ _ _) rfl 3 (by decide) kw_1172 (Or.inl rfl) rfl dX7_digest_61 ?_
        refine z_icmp_ge (tgt := 111) C dX7_digest_64 (by decide) (fun h64 => ?_) (fun h64 => ?_)
        · refine z_iconst (v := 0) C dX7_digest_111 rfl ?_
          refine z_istore_n C dX7_digest_112 (by decide) ?_
          refine z_iload_n C dX7_digest_113 rfl ?_
          first | refine z_rload_n C dX7_digest_114 rfl ?_ | refine z_nload_n C dX7_digest_114 rfl ?_ | refine z_aload_n C dX7_digest_114 rfl ?_
          refine z_getf (T := TX7) (N := 19) C (by first | assumption | exact zU_same _ _ _) rfl 7 (by decide) kw_1176 (Or.inl rfl) rfl dX7_digest_115 ?_
          refine z_icmp_ge (tgt := 171) C dX7_digest_118 (by decide) (fun h118 => ?_) (fun h118 => ?_)
          · refine z_iconst (v := 0) C dX7_digest_171 rfl ?_
            refine z_istore_n C dX7_digest_172 (by decide) ?_
            refine z_iload_n C dX7_digest_173 rfl ?_
            first | refine z_rload_n C dX7_digest_174 rfl ?_ | refine z_nload_n C dX7_digest_174 rfl ?_ | refine z_aload_n C dX7_digest_174 rfl ?_
            refine z_getf (T := TX7) (N := 19) C (by first | assumption | exact zU_same _ _ _) rfl 14 (by decide) kw_1183 (Or.inl rfl) rfl dX7_digest_175 ?_
            refine z_icmp_ge (tgt := 270) C dX7_digest_178 (by decide) (fun h178 => ?_) (fun h178 => ?_)
            · refine z_lload_n C dX7_digest_270 rfl ?_
              exact z_lret C F hr (Nat.le_of_ble_eq_true rfl) (Nat.le_of_ble_eq_true rfl) ⟨rfl, zMK.u⟩ dX7_digest_271
            · exact absurd (by decide) h178
          · exact absurd (by decide) h118
        · exact absurd (by decide) h64
      · exact absurd (by decide) h13
    | succ d ih =>
      intro i D hi hD
      refine z_iload_n C dX7_digest_11 rfl ?_
      refine z_iconst (v := 5) C dX7_digest_12 rfl ?_
      refine z_icmp_ge (tgt := 35) C dX7_digest_13 (by decide) (fun h13 => ?_) (fun h13 => ?_)
      · exact absurd h13 (nI_ge (b := 5) (by omega) (by omega))
      · refine z_lload_n C dX7_digest_16 rfl ?_
        refine z_ldc2 C kw_1468 dX7_digest_17 ?_
        refine z_lmul C dX7_digest_20 ?_
        first | refine z_rload_n C dX7_digest_21 rfl ?_ | refine z_nload_n C dX7_digest_21 rfl ?_ | refine z_aload_n C dX7_digest_21 rfl ?_
        refine z_iload_n C dX7_digest_22 rfl ?_
        refine z_callV (q := (RX7, TX7, 19)) C (m_counted l Γ _ (nI i) (zU_same G mo (oM0 0 μ))) kc_X7_digest_23 (by first | assumption | exact zU_same _ _ _) rfl rfl rfl rfl ky_X7_counted ⟨(Nat.le_of_ble_eq_true rfl), (Nat.le_of_ble_eq_true rfl)⟩ (Nat.le_of_ble_eq_true rfl) ⟨(Nat.le_of_ble_eq_true rfl), (Nat.le_of_ble_eq_true rfl)⟩ dX7_digest_23 (fun v23 G23 hp23 => ?_)
        obtain ⟨rfl, rfl⟩ := hp23
        refine z_i2l C dX7_digest_26 ?_
        refine z_ladd C dX7_digest_27 ?_
        refine z_lstore_n C dX7_digest_28 (by decide) ?_
        refine z_iinc (w := 1) C dX7_digest_29 rfl rfl (by decide) ?_
        rw [← nI_succ]
        refine z_goto (tgt := 11) C dX7_digest_32 (by decide) ?_
        exact ih (i + 1) _ (by omega) hD
  exact loop 5 0 337 rfl rfl
end
section
theorem dX7_init_0 : decode cX7_init 0 = .ok (.aload_n 0, 1) := by decide +kernel
theorem dX7_init_1 : decode cX7_init 1 = .ok (.invokespecial 1, 3) := by decide +kernel
theorem dX7_init_4 : decode cX7_init 4 = .ok (.aload_n 0, 1) := by decide +kernel
theorem dX7_init_5 : decode cX7_init 5 = .ok (.sipush 6000, 3) := by decide +kernel
theorem dX7_init_8 : decode cX7_init 8 = .ok (.putfield 7, 3) := by decide +kernel
theorem dX7_init_11 : decode cX7_init 11 = .ok (.aload_n 0, 1) := by decide +kernel
theorem dX7_init_12 : decode cX7_init 12 = .ok (.sipush 3468, 3) := by decide +kernel
theorem dX7_init_15 : decode cX7_init 15 = .ok (.putfield 13, 3) := by decide +kernel
theorem dX7_init_18 : decode cX7_init 18 = .ok (.aload_n 0, 1) := by decide +kernel
theorem dX7_init_19 : decode cX7_init 19 = .ok (.bipush 10, 2) := by decide +kernel
theorem dX7_init_21 : decode cX7_init 21 = .ok (.newarray .int, 2) := by decide +kernel
theorem dX7_init_23 : decode cX7_init 23 = .ok (.putfield 16, 3) := by decide +kernel
theorem dX7_init_26 : decode cX7_init 26 = .ok (.aload_n 0, 1) := by decide +kernel
theorem dX7_init_27 : decode cX7_init 27 = .ok (.bipush 10, 2) := by decide +kernel
theorem dX7_init_29 : decode cX7_init 29 = .ok (.newarray .int, 2) := by decide +kernel
theorem dX7_init_31 : decode cX7_init 31 = .ok (.putfield 20, 3) := by decide +kernel
theorem dX7_init_34 : decode cX7_init 34 = .ok (.aload_n 0, 1) := by decide +kernel
theorem dX7_init_35 : decode cX7_init 35 = .ok (.bipush 10, 2) := by decide +kernel
theorem dX7_init_37 : decode cX7_init 37 = .ok (.newarray .int, 2) := by decide +kernel
theorem dX7_init_39 : decode cX7_init 39 = .ok (.putfield 23, 3) := by decide +kernel
theorem dX7_init_42 : decode cX7_init 42 = .ok (.aload_n 0, 1) := by decide +kernel
theorem dX7_init_43 : decode cX7_init 43 = .ok (.bipush 80, 2) := by decide +kernel
theorem dX7_init_45 : decode cX7_init 45 = .ok (.newarray .int, 2) := by decide +kernel
theorem dX7_init_47 : decode cX7_init 47 = .ok (.putfield 26, 3) := by decide +kernel
theorem dX7_init_50 : decode cX7_init 50 = .ok (.aload_n 0, 1) := by decide +kernel
theorem dX7_init_51 : decode cX7_init 51 = .ok (.bipush 80, 2) := by decide +kernel
theorem dX7_init_53 : decode cX7_init 53 = .ok (.newarray .boolean, 2) := by decide +kernel
theorem dX7_init_55 : decode cX7_init 55 = .ok (.putfield 29, 3) := by decide +kernel
theorem dX7_init_58 : decode cX7_init 58 = .ok (.aload_n 0, 1) := by decide +kernel
theorem dX7_init_59 : decode cX7_init 59 = .ok (.bipush 80, 2) := by decide +kernel
theorem dX7_init_61 : decode cX7_init 61 = .ok (.newarray .int, 2) := by decide +kernel
theorem dX7_init_63 : decode cX7_init 63 = .ok (.putfield 33, 3) := by decide +kernel
theorem dX7_init_66 : decode cX7_init 66 = .ok (.aload_n 0, 1) := by decide +kernel
theorem dX7_init_67 : decode cX7_init 67 = .ok (.bipush 80, 2) := by decide +kernel
theorem dX7_init_69 : decode cX7_init 69 = .ok (.newarray .int, 2) := by decide +kernel
theorem dX7_init_71 : decode cX7_init 71 = .ok (.putfield 36, 3) := by decide +kernel
theorem dX7_init_74 : decode cX7_init 74 = .ok (.aload_n 0, 1) := by decide +kernel
theorem dX7_init_75 : decode cX7_init 75 = .ok (.bipush 80, 2) := by decide +kernel
theorem dX7_init_77 : decode cX7_init 77 = .ok (.newarray .int, 2) := by decide +kernel
theorem dX7_init_79 : decode cX7_init 79 = .ok (.putfield 39, 3) := by decide +kernel
theorem dX7_init_82 : decode cX7_init 82 = .ok (.aload_n 0, 1) := by decide +kernel
theorem dX7_init_83 : decode cX7_init 83 = .ok (.bipush 80, 2) := by decide +kernel
theorem dX7_init_85 : decode cX7_init 85 = .ok (.newarray .int, 2) := by decide +kernel
theorem dX7_init_87 : decode cX7_init 87 = .ok (.putfield 42, 3) := by decide +kernel
theorem dX7_init_90 : decode cX7_init 90 = .ok (.aload_n 0, 1) := by decide +kernel
theorem dX7_init_91 : decode cX7_init 91 = .ok (.bipush 12, 2) := by decide +kernel
theorem dX7_init_93 : decode cX7_init 93 = .ok (.newarray .boolean, 2) := by decide +kernel
theorem dX7_init_95 : decode cX7_init 95 = .ok (.putfield 45, 3) := by decide +kernel
theorem dX7_init_98 : decode cX7_init 98 = .ok (.aload_n 0, 1) := by decide +kernel
theorem dX7_init_99 : decode cX7_init 99 = .ok (.bipush 48, 2) := by decide +kernel
theorem dX7_init_101 : decode cX7_init 101 = .ok (.newarray .int, 2) := by decide +kernel
theorem dX7_init_103 : decode cX7_init 103 = .ok (.putfield 48, 3) := by decide +kernel
theorem dX7_init_106 : decode cX7_init 106 = .ok (.aload_n 0, 1) := by decide +kernel
theorem dX7_init_107 : decode cX7_init 107 = .ok (.bipush 80, 2) := by decide +kernel
theorem dX7_init_109 : decode cX7_init 109 = .ok (.newarray .int, 2) := by decide +kernel
theorem dX7_init_111 : decode cX7_init 111 = .ok (.putfield 51, 3) := by decide +kernel
theorem dX7_init_114 : decode cX7_init 114 = .ok (.return_, 1) := by decide +kernel
theorem ko_X7_init_1 : ∀ w ∈ ([Cond.methodLink "QuakeBenchModel" 1 ⟨"java/lang/Object", "<init>", "()V"⟩, Cond.instanceMethod ⟨"java/lang/Object", "<init>", "()V"⟩, Cond.code ⟨"java/lang/Object", "<init>", "()V"⟩ object_method_1_code 1 (Option.none : Option Jvm.ClassFile.FieldType)] : List Cond), w ∈ lw_all := zin [1168, 90, 91] (by decide +kernel)
theorem kw_1175 : Cond.fieldLink "QuakeBenchModel" 23 "QuakeBenchModel" "delays" "[I" ∈ lw_all := zin1 1175 (by decide +kernel)
theorem kw_1177 : Cond.fieldLink "QuakeBenchModel" 26 "QuakeBenchModel" "stationOf" "[I" ∈ lw_all := zin1 1177 (by decide +kernel)
theorem kw_1178 : Cond.fieldLink "QuakeBenchModel" 29 "QuakeBenchModel" "areS" "[Z" ∈ lw_all := zin1 1178 (by decide +kernel)
theorem kw_1179 : Cond.fieldLink "QuakeBenchModel" 33 "QuakeBenchModel" "times" "[I" ∈ lw_all := zin1 1179 (by decide +kernel)
theorem kw_1180 : Cond.fieldLink "QuakeBenchModel" 36 "QuakeBenchModel" "weights" "[I" ∈ lw_all := zin1 1180 (by decide +kernel)
theorem kw_1181 : Cond.fieldLink "QuakeBenchModel" 39 "QuakeBenchModel" "eventOf" "[I" ∈ lw_all := zin1 1181 (by decide +kernel)
theorem kw_1182 : Cond.fieldLink "QuakeBenchModel" 42 "QuakeBenchModel" "amplitudes" "[I" ∈ lw_all := zin1 1182 (by decide +kernel)
theorem kw_1185 : Cond.fieldLink "QuakeBenchModel" 48 "QuakeBenchModel" "found" "[I" ∈ lw_all := zin1 1185 (by decide +kernel)
theorem kw_1186 : Cond.fieldLink "QuakeBenchModel" 51 "QuakeBenchModel" "starts" "[I" ∈ lw_all := zin1 1186 (by decide +kernel)
/-! the reference's constructor -/
abbrev rm_m_init : Room := { frames := 1, cells := 12, slots := 722, locals := 20 }
set_option maxHeartbeats 4000000 in
set_option maxRecDepth 100000 in
theorem m_init (l : Launch) (Γ : zY) (G : zG) {mo : Nat} (hb : G mo = some (.inr (8, [.int 0, .int 0, .int 0, .int 0, .null, .null, .null, .int 0, .null, .null, .null, .null, .null, .null, .int 0, .null, .null, .null, .int 0]))) : ZM l yX7_init cX7_init 1 (none) rm_m_init Γ [.ref mo] G (fun v G' => none = v ∧ ∃ μ : Nat → Nat, G' mo = some (oM0 0 μ) ∧ zMf Γ G' μ ∧ (∀ i, G (μ i) = none) ∧ ∀ q e, G q = some e → q ≠ mo → G' q = some e) := by
  refine z_start (by decide +kernel) [some (.ref mo)] rfl (Nat.le_of_ble_eq_true rfl) ?_
  intro p e s m args below meth c Q A C F hr hnm
  have f_old : ∀ q e, G q = some e → q ≠ mo → G q = some e := fun q e h _ => h
  first | refine z_rload_n C dX7_init_0 rfl ?_ | refine z_nload_n C dX7_init_0 rfl ?_ | refine z_aload_n C dX7_init_0 rfl ?_
  refine z_obj C ko_X7_init_1 (Nat.le_of_ble_eq_true rfl) (Nat.le_of_ble_eq_true rfl) (Nat.le_of_ble_eq_true rfl) (Nat.le_of_ble_eq_true rfl) dX7_init_1 ?_
  first | refine z_rload_n C dX7_init_4 rfl ?_ | refine z_nload_n C dX7_init_4 rfl ?_ | refine z_aload_n C dX7_init_4 rfl ?_
  refine z_sipush (v := 6000) C dX7_init_5 rfl ?_
  refine z_putf (T := TX7) (N := 19) C (by first | assumption | exact zU_same _ _ _) rfl 1 (by decide) kw_1170 (Or.inl rfl) rfl (tyX7_ok 1 (by decide)) rfl rfl (Nat.le_of_ble_eq_true rfl) dX7_init_8 ?_
  first | refine z_rload_n C dX7_init_11 rfl ?_ | refine z_nload_n C dX7_init_11 rfl ?_ | refine z_aload_n C dX7_init_11 rfl ?_
  refine z_sipush (v := 3468) C dX7_init_12 rfl ?_
  refine z_putf (T := TX7) (N := 19) C (by first | assumption | exact zU_same _ _ _) rfl 2 (by decide) kw_1171 (Or.inl rfl) rfl (tyX7_ok 2 (by decide)) rfl rfl (Nat.le_of_ble_eq_true rfl) dX7_init_15 ?_
  refine z_gen (fun G0_ e_0 => ?_)
  replace f_old : ∀ q e, G q = some e → q ≠ mo → G0_ q = some e := fun q e h h2 => (e_0 q).trans ((zU_ne h2).trans ((zU_ne h2).trans h))
  have f_mo : G0_ mo = some (.inr (8, [.int 0, .int 6000, .int 3468, .int 0, .null, .null, .null, .int 0, .null, .null, .null, .null, .null, .null, .int 0, .null, .null, .null, .int 0])) := (e_0 mo).trans (zU_same _ _ _)
  first | refine z_rload_n C dX7_init_18 rfl ?_ | refine z_nload_n C dX7_init_18 rfl ?_ | refine z_aload_n C dX7_init_18 rfl ?_
  refine z_bipush (v := 10) C dX7_init_19 rfl ?_
  refine z_newi (N := 10) C kw_153 (by decide) (by decide) (Nat.le_of_ble_eq_true rfl) (Nat.le_of_ble_eq_true rfl) (Nat.le_of_ble_eq_true rfl) dX7_init_21 (fun a21 n21 => ?_)
  have dm_0 : a21 ≠ mo := (zG_nn f_mo n21).symm
  have o_0 : G a21 = none := by
    cases hq : G a21 with
    | none => rfl
    | some e => rw [f_old _ _ hq dm_0] at n21; cases n21
  refine z_putF (T := TX7) (N := 19) C ((zU_ne dm_0.symm).trans f_mo) rfl 4 (by decide) kw_1173 (Or.inl rfl) rfl hnm rfl (tyX7_ok 4 (by decide)) rfl rfl (Nat.le_of_ble_eq_true rfl) dX7_init_23 ?_
  refine z_gen (fun G1_ e_1 => ?_)
  replace f_old : ∀ q e, G q = some e → q ≠ mo → G1_ q = some e := fun q e h h2 => (e_1 q).trans ((zU_ne h2).trans ((zU_ne (zG_nn (f_old q e h h2) n21)).trans (f_old q e h h2)))
  replace f_mo : G1_ mo = some (.inr (8, [.int 0, .int 6000, .int 3468, .int 0, .ref a21, .null, .null, .int 0, .null, .null, .null, .null, .null, .null, .int 0, .null, .null, .null, .int 0])) := (e_1 mo).trans (zU_same _ _ _)
  have f_0 : G1_ a21 = some (zI Γ 10 (fun _ => 0)) := (e_1 a21).trans ((zU_ne dm_0).trans (zU_same _ _ _))
  first | refine z_rload_n C dX7_init_26 rfl ?_ | refine z_nload_n C dX7_init_26 rfl ?_ | refine z_aload_n C dX7_init_26 rfl ?_
  refine z_bipush (v := 10) C dX7_init_27 rfl ?_
  refine z_newi (N := 10) C kw_153 (by decide) (by decide) (Nat.le_of_ble_eq_true rfl) (Nat.le_of_ble_eq_true rfl) (Nat.le_of_ble_eq_true rfl) dX7_init_29 (fun a29 n29 => ?_)
  have dm_1 : a29 ≠ mo := (zG_nn f_mo n29).symm
  have o_1 : G a29 = none := by
    cases hq : G a29 with
    | none => rfl
    | some e => rw [f_old _ _ hq dm_1] at n29; cases n29
  have dd_0_1 : a21 ≠ a29 := zG_nn f_0 n29
  refine z_putF (T := TX7) (N := 19) C ((zU_ne dm_1.symm).trans f_mo) rfl 5 (by decide) kw_1174 (Or.inl rfl) rfl hnm rfl (tyX7_ok 5 (by decide)) rfl rfl (Nat.le_of_ble_eq_true rfl) dX7_init_31 ?_
  refine z_gen (fun G2_ e_2 => ?_)
  replace f_old : ∀ q e, G q = some e → q ≠ mo → G2_ q = some e := fun q e h h2 => (e_2 q).trans ((zU_ne h2).trans ((zU_ne (zG_nn (f_old q e h h2) n29)).trans (f_old q e h h2)))
  replace f_0 := (e_2 a21).trans ((zU_ne dm_0).trans ((zU_ne dd_0_1).trans f_0))
  replace f_mo : G2_ mo = some (.inr (8, [.int 0, .int 6000, .int 3468, .int 0, .ref a21, .ref a29, .null, .int 0, .null, .null, .null, .null, .null, .null, .int 0, .null, .null, .null, .int 0])) := (e_2 mo).trans (zU_same _ _ _)
  have f_1 : G2_ a29 = some (zI Γ 10 (fun _ => 0)) := (e_2 a29).trans ((zU_ne dm_1).trans (zU_same _ _ _))
  first | refine z_rload_n C dX7_init_34 rfl ?_ | refine z_nload_n C dX7_init_34 rfl ?_ | refine z_aload_n C dX7_init_34 rfl ?_
  refine z_bipush (v := 10) C dX7_init_35 rfl ?_
  refine z_newi (N := 10) C kw_153 (by decide) (by decide) (Nat.le_of_ble_eq_true rfl) (Nat.le_of_ble_eq_true rfl) (Nat.le_of_ble_eq_true rfl) dX7_init_37 (fun a37 n37 => ?_)
  have dm_2 : a37 ≠ mo := (zG_nn f_mo n37).symm
  have o_2 : G a37 = none := by
    cases hq : G a37 with
    | none => rfl
    | some e => rw [f_old _ _ hq dm_2] at n37; cases n37
  have dd_0_2 : a21 ≠ a37 := zG_nn f_0 n37
  have dd_1_2 : a29 ≠ a37 := zG_nn f_1 n37
  refine z_putF (T := TX7) (N := 19) C ((zU_ne dm_2.symm).trans f_mo) rfl 6 (by decide) kw_1175 (Or.inl rfl) rfl hnm rfl (tyX7_ok 6 (by decide)) rfl rfl (Nat.le_of_ble_eq_true rfl) dX7_init_39 ?_
  refine z_gen (fun G3_ e_3 => ?_)
  replace f_old : ∀ q e, G q = some e → q ≠ mo → G3_ q = some e := fun q e h h2 => (e_3 q).trans ((zU_ne h2).trans ((zU_ne (zG_nn (f_old q e h h2) n37)).trans (f_old q e h h2)))
  replace f_0 := (e_3 a21).trans ((zU_ne dm_0).trans ((zU_ne dd_0_2).trans f_0))
  replace f_1 := (e_3 a29).trans ((zU_ne dm_1).trans ((zU_ne dd_1_2).trans f_1))
  replace f_mo : G3_ mo = some (.inr (8, [.int 0, .int 6000, .int 3468, .int 0, .ref a21, .ref a29, .ref a37, .int 0, .null, .null, .null, .null, .null, .null, .int 0, .null, .null, .null, .int 0])) := (e_3 mo).trans (zU_same _ _ _)
  first | refine z_rload_n C dX7_init_42 rfl ?_ | refine z_nload_n C dX7_init_42 rfl ?_ | refine z_aload_n C dX7_init_42 rfl ?_
  refine z_bipush (v := 80) C dX7_init_43 rfl ?_
  refine z_newi (N := 80) C kw_153 (by decide) (by decide) (Nat.le_of_ble_eq_true rfl) (Nat.le_of_ble_eq_true rfl) (Nat.le_of_ble_eq_true rfl) dX7_init_45 (fun a45 n45 => ?_)
  have dm_3 : a45 ≠ mo := (zG_nn f_mo n45).symm
  have o_3 : G a45 = none := by
    cases hq : G a45 with
    | none => rfl
    | some e => rw [f_old _ _ hq dm_3] at n45; cases n45
  have dd_0_3 : a21 ≠ a45 := zG_nn f_0 n45
  have dd_1_3 : a29 ≠ a45 := zG_nn f_1 n45
  refine z_putF (T := TX7) (N := 19) C ((zU_ne dm_3.symm).trans f_mo) rfl 8 (by decide) kw_1177 (Or.inl rfl) rfl hnm rfl (tyX7_ok 8 (by decide)) rfl rfl (Nat.le_of_ble_eq_true rfl) dX7_init_47 ?_
  refine z_gen (fun G4_ e_4 => ?_)
  replace f_old : ∀ q e, G q = some e → q ≠ mo → G4_ q = some e := fun q e h h2 => (e_4 q).trans ((zU_ne h2).trans ((zU_ne (zG_nn (f_old q e h h2) n45)).trans (f_old q e h h2)))
  replace f_0 := (e_4 a21).trans ((zU_ne dm_0).trans ((zU_ne dd_0_3).trans f_0))
  replace f_1 := (e_4 a29).trans ((zU_ne dm_1).trans ((zU_ne dd_1_3).trans f_1))
  replace f_mo : G4_ mo = some (.inr (8, [.int 0, .int 6000, .int 3468, .int 0, .ref a21, .ref a29, .ref a37, .int 0, .ref a45, .null, .null, .null, .null, .null, .int 0, .null, .null, .null, .int 0])) := (e_4 mo).trans (zU_same _ _ _)
  first | refine z_rload_n C dX7_init_50 rfl ?_ | refine z_nload_n C dX7_init_50 rfl ?_ | refine z_aload_n C dX7_init_50 rfl ?_
  refine z_bipush (v := 80) C dX7_init_51 rfl ?_
  refine z_newz (N := 80) C kw_1227 (by decide) (by decide) (Nat.le_of_ble_eq_true rfl) (Nat.le_of_ble_eq_true rfl) (Nat.le_of_ble_eq_true rfl) dX7_init_53 (fun a53 n53 => ?_)
  have dm_4 : a53 ≠ mo := (zG_nn f_mo n53).symm
  have o_4 : G a53 = none := by
    cases hq : G a53 with
    | none => rfl
    | some e => rw [f_old _ _ hq dm_4] at n53; cases n53
  have dd_0_4 : a21 ≠ a53 := zG_nn f_0 n53
  have dd_1_4 : a29 ≠ a53 := zG_nn f_1 n53
  refine z_putF (T := TX7) (N := 19) C ((zU_ne dm_4.symm).trans f_mo) rfl 9 (by decide) kw_1178 (Or.inl rfl) rfl hnm rfl (tyX7_ok 9 (by decide)) rfl rfl (Nat.le_of_ble_eq_true rfl) dX7_init_55 ?_
  refine z_gen (fun G5_ e_5 => ?_)
  replace f_old : ∀ q e, G q = some e → q ≠ mo → G5_ q = some e := fun q e h h2 => (e_5 q).trans ((zU_ne h2).trans ((zU_ne (zG_nn (f_old q e h h2) n53)).trans (f_old q e h h2)))
  replace f_0 := (e_5 a21).trans ((zU_ne dm_0).trans ((zU_ne dd_0_4).trans f_0))
  replace f_1 := (e_5 a29).trans ((zU_ne dm_1).trans ((zU_ne dd_1_4).trans f_1))
  replace f_mo : G5_ mo = some (.inr (8, [.int 0, .int 6000, .int 3468, .int 0, .ref a21, .ref a29, .ref a37, .int 0, .ref a45, .ref a53, .null, .null, .null, .null, .int 0, .null, .null, .null, .int 0])) := (e_5 mo).trans (zU_same _ _ _)
  first | refine z_rload_n C dX7_init_58 rfl ?_ | refine z_nload_n C dX7_init_58 rfl ?_ | refine z_aload_n C dX7_init_58 rfl ?_
  refine z_bipush (v := 80) C dX7_init_59 rfl ?_
  refine z_newi (N := 80) C kw_153 (by decide) (by decide) (Nat.le_of_ble_eq_true rfl) (Nat.le_of_ble_eq_true rfl) (Nat.le_of_ble_eq_true rfl) dX7_init_61 (fun a61 n61 => ?_)
  have dm_5 : a61 ≠ mo := (zG_nn f_mo n61).symm
  have o_5 : G a61 = none := by
    cases hq : G a61 with
    | none => rfl
    | some e => rw [f_old _ _ hq dm_5] at n61; cases n61
  have dd_0_5 : a21 ≠ a61 := zG_nn f_0 n61
  have dd_1_5 : a29 ≠ a61 := zG_nn f_1 n61
  refine z_putF (T := TX7) (N := 19) C ((zU_ne dm_5.symm).trans f_mo) rfl 10 (by decide) kw_1179 (Or.inl rfl) rfl hnm rfl (tyX7_ok 10 (by decide)) rfl rfl (Nat.le_of_ble_eq_true rfl) dX7_init_63 ?_
  refine z_gen (fun G6_ e_6 => ?_)
  replace f_old : ∀ q e, G q = some e → q ≠ mo → G6_ q = some e := fun q e h h2 => (e_6 q).trans ((zU_ne h2).trans ((zU_ne (zG_nn (f_old q e h h2) n61)).trans (f_old q e h h2)))
  replace f_0 := (e_6 a21).trans ((zU_ne dm_0).trans ((zU_ne dd_0_5).trans f_0))
  replace f_1 := (e_6 a29).trans ((zU_ne dm_1).trans ((zU_ne dd_1_5).trans f_1))
  replace f_mo : G6_ mo = some (.inr (8, [.int 0, .int 6000, .int 3468, .int 0, .ref a21, .ref a29, .ref a37, .int 0, .ref a45, .ref a53, .ref a61, .null, .null, .null, .int 0, .null, .null, .null, .int 0])) := (e_6 mo).trans (zU_same _ _ _)
  first | refine z_rload_n C dX7_init_66 rfl ?_ | refine z_nload_n C dX7_init_66 rfl ?_ | refine z_aload_n C dX7_init_66 rfl ?_
  refine z_bipush (v := 80) C dX7_init_67 rfl ?_
  refine z_newi (N := 80) C kw_153 (by decide) (by decide) (Nat.le_of_ble_eq_true rfl) (Nat.le_of_ble_eq_true rfl) (Nat.le_of_ble_eq_true rfl) dX7_init_69 (fun a69 n69 => ?_)
  have dm_6 : a69 ≠ mo := (zG_nn f_mo n69).symm
  have o_6 : G a69 = none := by
    cases hq : G a69 with
    | none => rfl
    | some e => rw [f_old _ _ hq dm_6] at n69; cases n69
  have dd_0_6 : a21 ≠ a69 := zG_nn f_0 n69
  have dd_1_6 : a29 ≠ a69 := zG_nn f_1 n69
  refine z_putF (T := TX7) (N := 19) C ((zU_ne dm_6.symm).trans f_mo) rfl 11 (by decide) kw_1180 (Or.inl rfl) rfl hnm rfl (tyX7_ok 11 (by decide)) rfl rfl (Nat.le_of_ble_eq_true rfl) dX7_init_71 ?_
  refine z_gen (fun G7_ e_7 => ?_)
  replace f_old : ∀ q e, G q = some e → q ≠ mo → G7_ q = some e := fun q e h h2 => (e_7 q).trans ((zU_ne h2).trans ((zU_ne (zG_nn (f_old q e h h2) n69)).trans (f_old q e h h2)))
  replace f_0 := (e_7 a21).trans ((zU_ne dm_0).trans ((zU_ne dd_0_6).trans f_0))
  replace f_1 := (e_7 a29).trans ((zU_ne dm_1).trans ((zU_ne dd_1_6).trans f_1))
  replace f_mo : G7_ mo = some (.inr (8, [.int 0, .int 6000, .int 3468, .int 0, .ref a21, .ref a29, .ref a37, .int 0, .ref a45, .ref a53, .ref a61, .ref a69, .null, .null, .int 0, .null, .null, .null, .int 0])) := (e_7 mo).trans (zU_same _ _ _)
  first | refine z_rload_n C dX7_init_74 rfl ?_ | refine z_nload_n C dX7_init_74 rfl ?_ | refine z_aload_n C dX7_init_74 rfl ?_
  refine z_bipush (v := 80) C dX7_init_75 rfl ?_
  refine z_newi (N := 80) C kw_153 (by decide) (by decide) (Nat.le_of_ble_eq_true rfl) (Nat.le_of_ble_eq_true rfl) (Nat.le_of_ble_eq_true rfl) dX7_init_77 (fun a77 n77 => ?_)
  have dm_7 : a77 ≠ mo := (zG_nn f_mo n77).symm
  have o_7 : G a77 = none := by
    cases hq : G a77 with
    | none => rfl
    | some e => rw [f_old _ _ hq dm_7] at n77; cases n77
  have dd_0_7 : a21 ≠ a77 := zG_nn f_0 n77
  have dd_1_7 : a29 ≠ a77 := zG_nn f_1 n77
  refine z_putF (T := TX7) (N := 19) C ((zU_ne dm_7.symm).trans f_mo) rfl 12 (by decide) kw_1181 (Or.inl rfl) rfl hnm rfl (tyX7_ok 12 (by decide)) rfl rfl (Nat.le_of_ble_eq_true rfl) dX7_init_79 ?_
  refine z_gen (fun G8_ e_8 => ?_)
  replace f_old : ∀ q e, G q = some e → q ≠ mo → G8_ q = some e := fun q e h h2 => (e_8 q).trans ((zU_ne h2).trans ((zU_ne (zG_nn (f_old q e h h2) n77)).trans (f_old q e h h2)))
  replace f_0 := (e_8 a21).trans ((zU_ne dm_0).trans ((zU_ne dd_0_7).trans f_0))
  replace f_1 := (e_8 a29).trans ((zU_ne dm_1).trans ((zU_ne dd_1_7).trans f_1))
  replace f_mo : G8_ mo = some (.inr (8, [.int 0, .int 6000, .int 3468, .int 0, .ref a21, .ref a29, .ref a37, .int 0, .ref a45, .ref a53, .ref a61, .ref a69, .ref a77, .null, .int 0, .null, .null, .null, .int 0])) := (e_8 mo).trans (zU_same _ _ _)
  first | refine z_rload_n C dX7_init_82 rfl ?_ | refine z_nload_n C dX7_init_82 rfl ?_ | refine z_aload_n C dX7_init_82 rfl ?_
  refine z_bipush (v := 80) C dX7_init_83 rfl ?_
  refine z_newi (N := 80) C kw_153 (by decide) (by decide) (Nat.le_of_ble_eq_true rfl) (Nat.le_of_ble_eq_true rfl) (Nat.le_of_ble_eq_true rfl) dX7_init_85 (fun a85 n85 => ?_)
  have dm_8 : a85 ≠ mo := (zG_nn f_mo n85).symm
  have o_8 : G a85 = none := by
    cases hq : G a85 with
    | none => rfl
    | some e => rw [f_old _ _ hq dm_8] at n85; cases n85
  have dd_0_8 : a21 ≠ a85 := zG_nn f_0 n85
  have dd_1_8 : a29 ≠ a85 := zG_nn f_1 n85
  refine z_putF (T := TX7) (N := 19) C ((zU_ne dm_8.symm).trans f_mo) rfl 13 (by decide) kw_1182 (Or.inl rfl) rfl hnm rfl (tyX7_ok 13 (by decide)) rfl rfl (Nat.le_of_ble_eq_true rfl) dX7_init_87 ?_
  refine z_gen (fun G9_ e_9 => ?_)
  replace f_old : ∀ q e, G q = some e → q ≠ mo → G9_ q = some e := fun q e h h2 => (e_9 q).trans ((zU_ne h2).trans ((zU_ne (zG_nn (f_old q e h h2) n85)).trans (f_old q e h h2)))
  replace f_0 := (e_9 a21).trans ((zU_ne dm_0).trans ((zU_ne dd_0_8).trans f_0))
  replace f_1 := (e_9 a29).trans ((zU_ne dm_1).trans ((zU_ne dd_1_8).trans f_1))
  replace f_mo : G9_ mo = some (.inr (8, [.int 0, .int 6000, .int 3468, .int 0, .ref a21, .ref a29, .ref a37, .int 0, .ref a45, .ref a53, .ref a61, .ref a69, .ref a77, .ref a85, .int 0, .null, .null, .null, .int 0])) := (e_9 mo).trans (zU_same _ _ _)
  first | refine z_rload_n C dX7_init_90 rfl ?_ | refine z_nload_n C dX7_init_90 rfl ?_ | refine z_aload_n C dX7_init_90 rfl ?_
  refine z_bipush (v := 12) C dX7_init_91 rfl ?_
  refine z_newz (N := 12) C kw_1227 (by decide) (by decide) (Nat.le_of_ble_eq_true rfl) (Nat.le_of_ble_eq_true rfl) (Nat.le_of_ble_eq_true rfl) dX7_init_93 (fun a93 n93 => ?_)
  have dm_9 : a93 ≠ mo := (zG_nn f_mo n93).symm
  have o_9 : G a93 = none := by
    cases hq : G a93 with
    | none => rfl
    | some e => rw [f_old _ _ hq dm_9] at n93; cases n93
  have dd_0_9 : a21 ≠ a93 := zG_nn f_0 n93
  have dd_1_9 : a29 ≠ a93 := zG_nn f_1 n93
  refine z_putF (T := TX7) (N := 19) C ((zU_ne dm_9.symm).trans f_mo) rfl 15 (by decide) kw_1184 (Or.inl rfl) rfl hnm rfl (tyX7_ok 15 (by decide)) rfl rfl (Nat.le_of_ble_eq_true rfl) dX7_init_95 ?_
  refine z_gen (fun G10_ e_10 => ?_)
  replace f_old : ∀ q e, G q = some e → q ≠ mo → G10_ q = some e := fun q e h h2 => (e_10 q).trans ((zU_ne h2).trans ((zU_ne (zG_nn (f_old q e h h2) n93)).trans (f_old q e h h2)))
  replace f_0 := (e_10 a21).trans ((zU_ne dm_0).trans ((zU_ne dd_0_9).trans f_0))
  replace f_1 := (e_10 a29).trans ((zU_ne dm_1).trans ((zU_ne dd_1_9).trans f_1))
  replace f_mo : G10_ mo = some (.inr (8, [.int 0, .int 6000, .int 3468, .int 0, .ref a21, .ref a29, .ref a37, .int 0, .ref a45, .ref a53, .ref a61, .ref a69, .ref a77, .ref a85, .int 0, .ref a93, .null, .null, .int 0])) := (e_10 mo).trans (zU_same _ _ _)
  have f_9 : G10_ a93 = some (zZ Γ 12 (fun _ => 0)) := (e_10 a93).trans ((zU_ne dm_9).trans (zU_same _ _ _))
  first | refine z_rload_n C dX7_init_98 rfl ?_ | refine z_nload_n C dX7_init_98 rfl ?_ | refine z_aload_n C dX7_init_98 rfl ?_
  refine z_bipush (v := 48) C dX7_init_99 rfl ?_
  refine z_newi (N := 48) C kw_153 (by decide) (by decide) (Nat.le_of_ble_eq_true rfl) (Nat.le_of_ble_eq_true rfl) (Nat.le_of_ble_eq_true rfl) dX7_init_101 (fun a101 n101 => ?_)
  have dm_10 : a101 ≠ mo := (zG_nn f_mo n101).symm
  have o_10 : G a101 = none := by
    cases hq : G a101 with
    | none => rfl
    | some e => rw [f_old _ _ hq dm_10] at n101; cases n101
  have dd_0_10 : a21 ≠ a101 := zG_nn f_0 n101
  have dd_1_10 : a29 ≠ a101 := zG_nn f_1 n101
  have dd_9_10 : a93 ≠ a101 := zG_nn f_9 n101
  refine z_putF (T := TX7) (N := 19) C ((zU_ne dm_10.symm).trans f_mo) rfl 16 (by decide) kw_1185 (Or.inl rfl) rfl hnm rfl (tyX7_ok 16 (by decide)) rfl rfl (Nat.le_of_ble_eq_true rfl) dX7_init_103 ?_
  refine z_gen (fun G11_ e_11 => ?_)
  replace f_old : ∀ q e, G q = some e → q ≠ mo → G11_ q = some e := fun q e h h2 => (e_11 q).trans ((zU_ne h2).trans ((zU_ne (zG_nn (f_old q e h h2) n101)).trans (f_old q e h h2)))
  replace f_0 := (e_11 a21).trans ((zU_ne dm_0).trans ((zU_ne dd_0_10).trans f_0))
  replace f_1 := (e_11 a29).trans ((zU_ne dm_1).trans ((zU_ne dd_1_10).trans f_1))
  replace f_9 := (e_11 a93).trans ((zU_ne dm_9).trans ((zU_ne dd_9_10).trans f_9))
  replace f_mo : G11_ mo = some (.inr (8, [.int 0, .int 6000, .int 3468, .int 0, .ref a21, .ref a29, .ref a37, .int 0, .ref a45, .ref a53, .ref a61, .ref a69, .ref a77, .ref a85, .int 0, .ref a93, .ref a101, .null, .int 0])) := (e_11 mo).trans (zU_same _ _ _)
  first | refine z_rload_n C dX7_init_106 rfl ?_ | refine z_nload_n C dX7_init_106 rfl ?_ | refine z_aload_n C dX7_init_106 rfl ?_
  refine z_bipush (v := 80) C dX7_init_107 rfl ?_
  refine z_newi (N := 80) C kw_153 (by decide) (by decide) (Nat.le_of_ble_eq_true rfl) (Nat.le_of_ble_eq_true rfl) (Nat.le_of_ble_eq_true rfl) dX7_init_109 (fun a109 n109 => ?_)
  have dm_11 : a109 ≠ mo := (zG_nn f_mo n109).symm
  have o_11 : G a109 = none := by
    cases hq : G a109 with
    | none => rfl
    | some e => rw [f_old _ _ hq dm_11] at n109; cases n109
  have dd_0_11 : a21 ≠ a109 := zG_nn f_0 n109
  have dd_1_11 : a29 ≠ a109 := zG_nn f_1 n109
  have dd_9_11 : a93 ≠ a109 := zG_nn f_9 n109
  refine z_putF (T := TX7) (N := 19) C ((zU_ne dm_11.symm).trans f_mo) rfl 17 (by decide) kw_1186 (Or.inl rfl) rfl hnm rfl (tyX7_ok 17 (by decide)) rfl rfl (Nat.le_of_ble_eq_true rfl) dX7_init_111 ?_
  refine z_gen (fun G12_ e_12 => ?_)
  replace f_old : ∀ q e, G q = some e → q ≠ mo → G12_ q = some e := fun q e h h2 => (e_12 q).trans ((zU_ne h2).trans ((zU_ne (zG_nn (f_old q e h h2) n109)).trans (f_old q e h h2)))
  replace f_0 := (e_12 a21).trans ((zU_ne dm_0).trans ((zU_ne dd_0_11).trans f_0))
  replace f_1 := (e_12 a29).trans ((zU_ne dm_1).trans ((zU_ne dd_1_11).trans f_1))
  replace f_9 := (e_12 a93).trans ((zU_ne dm_9).trans ((zU_ne dd_9_11).trans f_9))
  replace f_mo : G12_ mo = some (.inr (8, [.int 0, .int 6000, .int 3468, .int 0, .ref a21, .ref a29, .ref a37, .int 0, .ref a45, .ref a53, .ref a61, .ref a69, .ref a77, .ref a85, .int 0, .ref a93, .ref a101, .ref a109, .int 0])) := (e_12 mo).trans (zU_same _ _ _)
  exact z_vret C F hr (Nat.le_of_ble_eq_true rfl) (Nat.le_of_ble_eq_true rfl) ⟨rfl, (fun i => if i = 0 then a21 else if i = 1 then a29 else if i = 2 then a37 else if i = 3 then a45 else if i = 4 then a53 else if i = 5 then a61 else if i = 6 then a69 else if i = 7 then a77 else if i = 8 then a85 else if i = 9 then a93 else if i = 10 then a101 else a109), f_mo, ⟨f_0, f_1, dd_0_1, f_9⟩, fun i => by dsimp only; repeat (first | assumption | split), f_old⟩ dX7_init_114
end
section
theorem dX6_stationAt_0 : decode cX6_stationAt 0 = .ok (.iload_n 1, 1) := by decide +kernel
theorem dX6_stationAt_1 : decode cX6_stationAt 1 = .ok (.ifCond .lt 14, 3) := by decide +kernel
theorem dX6_stationAt_4 : decode cX6_stationAt 4 = .ok (.iload_n 1, 1) := by decide +kernel
theorem dX6_stationAt_5 : decode cX6_stationAt 5 = .ok (.aload_n 0, 1) := by decide +kernel
theorem dX6_stationAt_6 : decode cX6_stationAt 6 = .ok (.getfield 10, 3) := by decide +kernel
theorem dX6_stationAt_9 : decode cX6_stationAt 9 = .ok (.invokevirtual 62, 3) := by decide +kernel
theorem dX6_stationAt_12 : decode cX6_stationAt 12 = .ok (.if_icmp .lt 14, 3) := by decide +kernel
theorem dX6_stationAt_15 : decode cX6_stationAt 15 = .ok (.new 165, 3) := by decide +kernel
theorem dX6_stationAt_18 : decode cX6_stationAt 18 = .ok (.dup, 1) := by decide +kernel
theorem dX6_stationAt_19 : decode cX6_stationAt 19 = .ok (.ldc_w 318, 3) := by decide +kernel
theorem dX6_stationAt_22 : decode cX6_stationAt 22 = .ok (.invokespecial 169, 3) := by decide +kernel
theorem dX6_stationAt_25 : decode cX6_stationAt 25 = .ok (.athrow, 1) := by decide +kernel
theorem dX6_stationAt_26 : decode cX6_stationAt 26 = .ok (.aload_n 0, 1) := by decide +kernel
theorem dX6_stationAt_27 : decode cX6_stationAt 27 = .ok (.getfield 10, 3) := by decide +kernel
theorem dX6_stationAt_30 : decode cX6_stationAt 30 = .ok (.iload_n 1, 1) := by decide +kernel
theorem dX6_stationAt_31 : decode cX6_stationAt 31 = .ok (.invokevirtual 90, 3) := by decide +kernel
theorem dX6_stationAt_34 : decode cX6_stationAt 34 = .ok (.checkcast 71, 3) := by decide +kernel
theorem dX6_stationAt_37 : decode cX6_stationAt 37 = .ok (.areturn, 1) := by decide +kernel
theorem zt_X6_stationAt_15 : zThrow "QuakeBench" "java/lang/IndexOutOfBoundsException" "no such station" ["java/lang/RuntimeException", "java/lang/Exception"] 165 318 169 := ⟨by decide +kernel, by decide +kernel, by decide +kernel, by decide +kernel, by decide +kernel, by decide +kernel⟩
theorem kc_X6_stationAt_9 : ∀ w ∈ ([Cond.methodLink "QuakeBench" 62 yJx4a65c_size_8abf5, Cond.instanceMethod yJx4a65c_size_8abf5, Cond.selects "java/util/ArrayList" yJx4a65c_size_8abf5 yJx4a65c_size_8abf5, Cond.initialized "java/util/ArrayList", Cond.code yJx4a65c_size_8abf5 prog_35_method_8_code 1 (Option.some Jvm.ClassFile.FieldType.int)] : List Cond), w ∈ lw_all := zin [222, 223, 224, 57, 225] (by decide +kernel)
theorem dX6_pickAt_0 : decode cX6_pickAt 0 = .ok (.iload_n 1, 1) := by decide +kernel
theorem dX6_pickAt_1 : decode cX6_pickAt 1 = .ok (.ifCond .lt 14, 3) := by decide +kernel
theorem dX6_pickAt_4 : decode cX6_pickAt 4 = .ok (.iload_n 1, 1) := by decide +kernel
theorem dX6_pickAt_5 : decode cX6_pickAt 5 = .ok (.aload_n 0, 1) := by decide +kernel
theorem dX6_pickAt_6 : decode cX6_pickAt 6 = .ok (.getfield 16, 3) := by decide +kernel
theorem dX6_pickAt_9 : decode cX6_pickAt 9 = .ok (.invokevirtual 62, 3) := by decide +kernel
theorem dX6_pickAt_12 : decode cX6_pickAt 12 = .ok (.if_icmp .lt 14, 3) := by decide +kernel
theorem dX6_pickAt_15 : decode cX6_pickAt 15 = .ok (.new 165, 3) := by decide +kernel
theorem dX6_pickAt_18 : decode cX6_pickAt 18 = .ok (.dup, 1) := by decide +kernel
theorem dX6_pickAt_19 : decode cX6_pickAt 19 = .ok (.ldc_w 320, 3) := by decide +kernel
theorem dX6_pickAt_22 : decode cX6_pickAt 22 = .ok (.invokespecial 169, 3) := by decide +kernel
theorem dX6_pickAt_25 : decode cX6_pickAt 25 = .ok (.athrow, 1) := by decide +kernel
theorem dX6_pickAt_26 : decode cX6_pickAt 26 = .ok (.aload_n 0, 1) := by decide +kernel
theorem dX6_pickAt_27 : decode cX6_pickAt 27 = .ok (.getfield 16, 3) := by decide +kernel
theorem dX6_pickAt_30 : decode cX6_pickAt 30 = .ok (.iload_n 1, 1) := by decide +kernel
theorem dX6_pickAt_31 : decode cX6_pickAt 31 = .ok (.invokevirtual 90, 3) := by decide +kernel
theorem dX6_pickAt_34 : decode cX6_pickAt 34 = .ok (.checkcast 130, 3) := by decide +kernel
theorem dX6_pickAt_37 : decode cX6_pickAt 37 = .ok (.areturn, 1) := by decide +kernel
theorem zt_X6_pickAt_15 : zThrow "QuakeBench" "java/lang/IndexOutOfBoundsException" "no such pick" ["java/lang/RuntimeException", "java/lang/Exception"] 165 320 169 := ⟨by decide +kernel, by decide +kernel, by decide +kernel, by decide +kernel, by decide +kernel, by decide +kernel⟩
theorem kc_X6_pickAt_9 : ∀ w ∈ ([Cond.methodLink "QuakeBench" 62 yJx4a65c_size_8abf5, Cond.instanceMethod yJx4a65c_size_8abf5, Cond.selects "java/util/ArrayList" yJx4a65c_size_8abf5 yJx4a65c_size_8abf5, Cond.initialized "java/util/ArrayList", Cond.code yJx4a65c_size_8abf5 prog_35_method_8_code 1 (Option.some Jvm.ClassFile.FieldType.int)] : List Cond), w ∈ lw_all := zin [222, 223, 224, 57, 225] (by decide +kernel)
theorem dX6_eventAt_0 : decode cX6_eventAt 0 = .ok (.iload_n 1, 1) := by decide +kernel
theorem dX6_eventAt_1 : decode cX6_eventAt 1 = .ok (.ifCond .lt 14, 3) := by decide +kernel
theorem dX6_eventAt_4 : decode cX6_eventAt 4 = .ok (.iload_n 1, 1) := by decide +kernel
theorem dX6_eventAt_5 : decode cX6_eventAt 5 = .ok (.aload_n 0, 1) := by decide +kernel
theorem dX6_eventAt_6 : decode cX6_eventAt 6 = .ok (.getfield 19, 3) := by decide +kernel
theorem dX6_eventAt_9 : decode cX6_eventAt 9 = .ok (.invokevirtual 62, 3) := by decide +kernel
theorem dX6_eventAt_12 : decode cX6_eventAt 12 = .ok (.if_icmp .lt 14, 3) := by decide +kernel
theorem dX6_eventAt_15 : decode cX6_eventAt 15 = .ok (.new 165, 3) := by decide +kernel
theorem dX6_eventAt_18 : decode cX6_eventAt 18 = .ok (.dup, 1) := by decide +kernel
theorem dX6_eventAt_19 : decode cX6_eventAt 19 = .ok (.ldc_w 322, 3) := by decide +kernel
theorem dX6_eventAt_22 : decode cX6_eventAt 22 = .ok (.invokespecial 169, 3) := by decide +kernel
theorem dX6_eventAt_25 : decode cX6_eventAt 25 = .ok (.athrow, 1) := by decide +kernel
theorem dX6_eventAt_26 : decode cX6_eventAt 26 = .ok (.aload_n 0, 1) := by decide +kernel
theorem dX6_eventAt_27 : decode cX6_eventAt 27 = .ok (.getfield 19, 3) := by decide +kernel
theorem dX6_eventAt_30 : decode cX6_eventAt 30 = .ok (.iload_n 1, 1) := by decide +kernel
theorem dX6_eventAt_31 : decode cX6_eventAt 31 = .ok (.invokevirtual 90, 3) := by decide +kernel
theorem dX6_eventAt_34 : decode cX6_eventAt 34 = .ok (.checkcast 94, 3) := by decide +kernel
theorem dX6_eventAt_37 : decode cX6_eventAt 37 = .ok (.areturn, 1) := by decide +kernel
theorem zt_X6_eventAt_15 : zThrow "QuakeBench" "java/lang/IndexOutOfBoundsException" "no such event" ["java/lang/RuntimeException", "java/lang/Exception"] 165 322 169 := ⟨by decide +kernel, by decide +kernel, by decide +kernel, by decide +kernel, by decide +kernel, by decide +kernel⟩
theorem kc_X6_eventAt_9 : ∀ w ∈ ([Cond.methodLink "QuakeBench" 62 yJx4a65c_size_8abf5, Cond.instanceMethod yJx4a65c_size_8abf5, Cond.selects "java/util/ArrayList" yJx4a65c_size_8abf5 yJx4a65c_size_8abf5, Cond.initialized "java/util/ArrayList", Cond.code yJx4a65c_size_8abf5 prog_35_method_8_code 1 (Option.some Jvm.ClassFile.FieldType.int)] : List Cond), w ∈ lw_all := zin [222, 223, 224, 57, 225] (by decide +kernel)
theorem dX6_setDelay_0 : decode cX6_setDelay 0 = .ok (.aload_n 0, 1) := by decide +kernel
theorem dX6_setDelay_1 : decode cX6_setDelay 1 = .ok (.iload_n 1, 1) := by decide +kernel
theorem dX6_setDelay_2 : decode cX6_setDelay 2 = .ok (.invokevirtual 80, 3) := by decide +kernel
theorem dX6_setDelay_5 : decode cX6_setDelay 5 = .ok (.astore_n 3, 1) := by decide +kernel
theorem dX6_setDelay_6 : decode cX6_setDelay 6 = .ok (.iload_n 2, 1) := by decide +kernel
theorem dX6_setDelay_7 : decode cX6_setDelay 7 = .ok (.sipush (-2000), 3) := by decide +kernel
theorem dX6_setDelay_10 : decode cX6_setDelay 10 = .ok (.if_icmp .lt 10, 3) := by decide +kernel
theorem dX6_setDelay_13 : decode cX6_setDelay 13 = .ok (.iload_n 2, 1) := by decide +kernel
theorem dX6_setDelay_14 : decode cX6_setDelay 14 = .ok (.sipush 2000, 3) := by decide +kernel
theorem dX6_setDelay_17 : decode cX6_setDelay 17 = .ok (.if_icmp .le 13, 3) := by decide +kernel
theorem dX6_setDelay_20 : decode cX6_setDelay 20 = .ok (.new 55, 3) := by decide +kernel
theorem dX6_setDelay_23 : decode cX6_setDelay 23 = .ok (.dup, 1) := by decide +kernel
theorem dX6_setDelay_24 : decode cX6_setDelay 24 = .ok (.ldc 84, 2) := by decide +kernel
theorem dX6_setDelay_26 : decode cX6_setDelay 26 = .ok (.invokespecial 59, 3) := by decide +kernel
theorem dX6_setDelay_29 : decode cX6_setDelay 29 = .ok (.athrow, 1) := by decide +kernel
theorem dX6_setDelay_30 : decode cX6_setDelay 30 = .ok (.aload_n 3, 1) := by decide +kernel
theorem dX6_setDelay_31 : decode cX6_setDelay 31 = .ok (.getfield 86, 3) := by decide +kernel
theorem dX6_setDelay_34 : decode cX6_setDelay 34 = .ok (.istore 4, 2) := by decide +kernel
theorem dX6_setDelay_36 : decode cX6_setDelay 36 = .ok (.aload_n 3, 1) := by decide +kernel
theorem dX6_setDelay_37 : decode cX6_setDelay 37 = .ok (.iload_n 2, 1) := by decide +kernel
theorem dX6_setDelay_38 : decode cX6_setDelay 38 = .ok (.putfield 86, 3) := by decide +kernel
theorem dX6_setDelay_41 : decode cX6_setDelay 41 = .ok (.iconst 0, 1) := by decide +kernel
theorem dX6_setDelay_42 : decode cX6_setDelay 42 = .ok (.istore 5, 2) := by decide +kernel
theorem dX6_setDelay_44 : decode cX6_setDelay 44 = .ok (.iload 5, 2) := by decide +kernel
theorem dX6_setDelay_46 : decode cX6_setDelay 46 = .ok (.aload_n 0, 1) := by decide +kernel
theorem dX6_setDelay_47 : decode cX6_setDelay 47 = .ok (.getfield 19, 3) := by decide +kernel
theorem dX6_setDelay_50 : decode cX6_setDelay 50 = .ok (.invokevirtual 62, 3) := by decide +kernel
theorem dX6_setDelay_53 : decode cX6_setDelay 53 = .ok (.if_icmp .ge 38, 3) := by decide +kernel
theorem dX6_setDelay_56 : decode cX6_setDelay 56 = .ok (.aload_n 0, 1) := by decide +kernel
theorem dX6_setDelay_57 : decode cX6_setDelay 57 = .ok (.getfield 19, 3) := by decide +kernel
theorem dX6_setDelay_60 : decode cX6_setDelay 60 = .ok (.iload 5, 2) := by decide +kernel
theorem dX6_setDelay_62 : decode cX6_setDelay 62 = .ok (.invokevirtual 90, 3) := by decide +kernel
theorem dX6_setDelay_65 : decode cX6_setDelay 65 = .ok (.checkcast 94, 3) := by decide +kernel
theorem dX6_setDelay_68 : decode cX6_setDelay 68 = .ok (.astore 6, 2) := by decide +kernel
theorem dX6_setDelay_70 : decode cX6_setDelay 70 = .ok (.aload 6, 2) := by decide +kernel
theorem dX6_setDelay_72 : decode cX6_setDelay 72 = .ok (.aload_n 3, 1) := by decide +kernel
theorem dX6_setDelay_73 : decode cX6_setDelay 73 = .ok (.invokevirtual 96, 3) := by decide +kernel
theorem dX6_setDelay_76 : decode cX6_setDelay 76 = .ok (.ifCond .eq 9, 3) := by decide +kernel
theorem dX6_setDelay_79 : decode cX6_setDelay 79 = .ok (.aload 6, 2) := by decide +kernel
theorem dX6_setDelay_81 : decode cX6_setDelay 81 = .ok (.iconst 0, 1) := by decide +kernel
theorem dX6_setDelay_82 : decode cX6_setDelay 82 = .ok (.putfield 100, 3) := by decide +kernel
theorem dX6_setDelay_85 : decode cX6_setDelay 85 = .ok (.iinc 5 1, 3) := by decide +kernel
theorem dX6_setDelay_88 : decode cX6_setDelay 88 = .ok (.goto (-44), 3) := by decide +kernel
theorem dX6_setDelay_91 : decode cX6_setDelay 91 = .ok (.iload 4, 2) := by decide +kernel
theorem dX6_setDelay_93 : decode cX6_setDelay 93 = .ok (.ireturn, 1) := by decide +kernel
theorem ky_X6_stationAt : yX6_stationAt.cls ≠ "java/lang/invoke/MethodHandle" ∧ yX6_stationAt.cls ≠ "java/lang/invoke/VarHandle" ∧ (parseMethodDescriptor yX6_stationAt.desc).map (fun d => d.parameters.length) = some 1 := by decide +kernel
theorem kc_X6_setDelay_2 : ∀ w ∈ ([Cond.methodLink "QuakeBench" 80 yX6_stationAt, Cond.instanceMethod yX6_stationAt, Cond.selects "QuakeBench" yX6_stationAt yX6_stationAt, Cond.initialized "QuakeBench", Cond.code yX6_stationAt prog_1_method_31_code 2 (Option.some (Jvm.ClassFile.FieldType.object "QuakeBench$Station"))] : List Cond), w ∈ lw_all := zin [880, 882, 19, 54, 883] (by decide +kernel)
theorem dX6_way_0 : decode cX6_way 0 = .ok (.aload_n 0, 1) := by decide +kernel
theorem dX6_way_1 : decode cX6_way 1 = .ok (.iload_n 1, 1) := by decide +kernel
theorem dX6_way_2 : decode cX6_way 2 = .ok (.invokevirtual 80, 3) := by decide +kernel
theorem dX6_way_5 : decode cX6_way 5 = .ok (.astore 5, 2) := by decide +kernel
theorem dX6_way_7 : decode cX6_way 7 = .ok (.iload_n 2, 1) := by decide +kernel
theorem dX6_way_8 : decode cX6_way 8 = .ok (.iload_n 3, 1) := by decide +kernel
theorem dX6_way_9 : decode cX6_way 9 = .ok (.iload 4, 2) := by decide +kernel
theorem dX6_way_11 : decode cX6_way 11 = .ok (.invokestatic 114, 3) := by decide +kernel
theorem dX6_way_14 : decode cX6_way 14 = .ok (.aload 5, 2) := by decide +kernel
theorem dX6_way_16 : decode cX6_way 16 = .ok (.iload_n 2, 1) := by decide +kernel
theorem dX6_way_17 : decode cX6_way 17 = .ok (.iload_n 3, 1) := by decide +kernel
theorem dX6_way_18 : decode cX6_way 18 = .ok (.iload 4, 2) := by decide +kernel
theorem dX6_way_20 : decode cX6_way 20 = .ok (.invokevirtual 117, 3) := by decide +kernel
theorem dX6_way_23 : decode cX6_way 23 = .ok (.ireturn, 1) := by decide +kernel
theorem kc_X6_way_2 : ∀ w ∈ ([Cond.methodLink "QuakeBench" 80 yX6_stationAt, Cond.instanceMethod yX6_stationAt, Cond.selects "QuakeBench" yX6_stationAt yX6_stationAt, Cond.initialized "QuakeBench", Cond.code yX6_stationAt prog_1_method_31_code 2 (Option.some (Jvm.ClassFile.FieldType.object "QuakeBench$Station"))] : List Cond), w ∈ lw_all := zin [880, 882, 19, 54, 883] (by decide +kernel)
theorem dX6_needs_0 : decode cX6_needs 0 = .ok (.aload_n 0, 1) := by decide +kernel
theorem dX6_needs_1 : decode cX6_needs 1 = .ok (.iload_n 1, 1) := by decide +kernel
theorem dX6_needs_2 : decode cX6_needs 2 = .ok (.invokevirtual 80, 3) := by decide +kernel
theorem dX6_needs_5 : decode cX6_needs 5 = .ok (.astore 6, 2) := by decide +kernel
theorem dX6_needs_7 : decode cX6_needs 7 = .ok (.iload_n 2, 1) := by decide +kernel
theorem dX6_needs_8 : decode cX6_needs 8 = .ok (.iload_n 3, 1) := by decide +kernel
theorem dX6_needs_9 : decode cX6_needs 9 = .ok (.iload 4, 2) := by decide +kernel
theorem dX6_needs_11 : decode cX6_needs 11 = .ok (.invokestatic 114, 3) := by decide +kernel
theorem dX6_needs_14 : decode cX6_needs 14 = .ok (.aload_n 0, 1) := by decide +kernel
theorem dX6_needs_15 : decode cX6_needs 15 = .ok (.getfield 25, 3) := by decide +kernel
theorem dX6_needs_18 : decode cX6_needs 18 = .ok (.aload 6, 2) := by decide +kernel
theorem dX6_needs_20 : decode cX6_needs 20 = .ok (.iload_n 2, 1) := by decide +kernel
theorem dX6_needs_21 : decode cX6_needs 21 = .ok (.iload_n 3, 1) := by decide +kernel
theorem dX6_needs_22 : decode cX6_needs 22 = .ok (.iload 4, 2) := by decide +kernel
theorem dX6_needs_24 : decode cX6_needs 24 = .ok (.iload 5, 2) := by decide +kernel
theorem dX6_needs_26 : decode cX6_needs 26 = .ok (.invokevirtual 121, 3) := by decide +kernel
theorem dX6_needs_29 : decode cX6_needs 29 = .ok (.ireturn, 1) := by decide +kernel
theorem kc_X6_needs_2 : ∀ w ∈ ([Cond.methodLink "QuakeBench" 80 yX6_stationAt, Cond.instanceMethod yX6_stationAt, Cond.selects "QuakeBench" yX6_stationAt yX6_stationAt, Cond.initialized "QuakeBench", Cond.code yX6_stationAt prog_1_method_31_code 2 (Option.some (Jvm.ClassFile.FieldType.object "QuakeBench$Station"))] : List Cond), w ∈ lw_all := zin [880, 882, 19, 54, 883] (by decide +kernel)
theorem dX6_addPick_0 : decode cX6_addPick 0 = .ok (.aload_n 0, 1) := by decide +kernel
theorem dX6_addPick_1 : decode cX6_addPick 1 = .ok (.iload_n 1, 1) := by decide +kernel
theorem dX6_addPick_2 : decode cX6_addPick 2 = .ok (.invokevirtual 80, 3) := by decide +kernel
theorem dX6_addPick_5 : decode cX6_addPick 5 = .ok (.astore 4, 2) := by decide +kernel
theorem dX6_addPick_7 : decode cX6_addPick 7 = .ok (.iload_n 3, 1) := by decide +kernel
theorem dX6_addPick_8 : decode cX6_addPick 8 = .ok (.ifCond .lt 9, 3) := by decide +kernel
theorem dX6_addPick_11 : decode cX6_addPick 11 = .ok (.iload_n 3, 1) := by decide +kernel
theorem dX6_addPick_12 : decode cX6_addPick 12 = .ok (.ldc 125, 2) := by decide +kernel
theorem dX6_addPick_14 : decode cX6_addPick 14 = .ok (.if_icmp .le 13, 3) := by decide +kernel
theorem dX6_addPick_17 : decode cX6_addPick 17 = .ok (.new 55, 3) := by decide +kernel
theorem dX6_addPick_20 : decode cX6_addPick 20 = .ok (.dup, 1) := by decide +kernel
theorem dX6_addPick_21 : decode cX6_addPick 21 = .ok (.ldc 126, 2) := by decide +kernel
theorem dX6_addPick_23 : decode cX6_addPick 23 = .ok (.invokespecial 59, 3) := by decide +kernel
theorem dX6_addPick_26 : decode cX6_addPick 26 = .ok (.athrow, 1) := by decide +kernel
theorem dX6_addPick_27 : decode cX6_addPick 27 = .ok (.aload_n 0, 1) := by decide +kernel
theorem dX6_addPick_28 : decode cX6_addPick 28 = .ok (.getfield 16, 3) := by decide +kernel
theorem dX6_addPick_31 : decode cX6_addPick 31 = .ok (.invokevirtual 62, 3) := by decide +kernel
theorem dX6_addPick_34 : decode cX6_addPick 34 = .ok (.bipush 80, 2) := by decide +kernel
theorem dX6_addPick_36 : decode cX6_addPick 36 = .ok (.if_icmp .lt 13, 3) := by decide +kernel
theorem dX6_addPick_39 : decode cX6_addPick 39 = .ok (.new 66, 3) := by decide +kernel
theorem dX6_addPick_42 : decode cX6_addPick 42 = .ok (.dup, 1) := by decide +kernel
theorem dX6_addPick_43 : decode cX6_addPick 43 = .ok (.ldc 128, 2) := by decide +kernel
theorem dX6_addPick_45 : decode cX6_addPick 45 = .ok (.invokespecial 70, 3) := by decide +kernel
theorem dX6_addPick_48 : decode cX6_addPick 48 = .ok (.athrow, 1) := by decide +kernel
theorem dX6_addPick_49 : decode cX6_addPick 49 = .ok (.aload_n 0, 1) := by decide +kernel
theorem dX6_addPick_50 : decode cX6_addPick 50 = .ok (.getfield 16, 3) := by decide +kernel
theorem dX6_addPick_53 : decode cX6_addPick 53 = .ok (.invokevirtual 62, 3) := by decide +kernel
theorem dX6_addPick_56 : decode cX6_addPick 56 = .ok (.istore 5, 2) := by decide +kernel
theorem dX6_addPick_58 : decode cX6_addPick 58 = .ok (.aload_n 0, 1) := by decide +kernel
theorem dX6_addPick_59 : decode cX6_addPick 59 = .ok (.getfield 16, 3) := by decide +kernel
theorem dX6_addPick_62 : decode cX6_addPick 62 = .ok (.new 130, 3) := by decide +kernel
theorem dX6_addPick_65 : decode cX6_addPick 65 = .ok (.dup, 1) := by decide +kernel
theorem dX6_addPick_66 : decode cX6_addPick 66 = .ok (.iload 5, 2) := by decide +kernel
theorem dX6_addPick_68 : decode cX6_addPick 68 = .ok (.aload 4, 2) := by decide +kernel
theorem dX6_addPick_70 : decode cX6_addPick 70 = .ok (.iload_n 2, 1) := by decide +kernel
theorem dX6_addPick_71 : decode cX6_addPick 71 = .ok (.iload_n 3, 1) := by decide +kernel
theorem dX6_addPick_72 : decode cX6_addPick 72 = .ok (.invokespecial 132, 3) := by decide +kernel
theorem dX6_addPick_75 : decode cX6_addPick 75 = .ok (.invokevirtual 76, 3) := by decide +kernel
theorem dX6_addPick_78 : decode cX6_addPick 78 = .ok (.pop, 1) := by decide +kernel
theorem dX6_addPick_79 : decode cX6_addPick 79 = .ok (.iload 5, 2) := by decide +kernel
theorem dX6_addPick_81 : decode cX6_addPick 81 = .ok (.ireturn, 1) := by decide +kernel
theorem kc_X6_addPick_2 : ∀ w ∈ ([Cond.methodLink "QuakeBench" 80 yX6_stationAt, Cond.instanceMethod yX6_stationAt, Cond.selects "QuakeBench" yX6_stationAt yX6_stationAt, Cond.initialized "QuakeBench", Cond.code yX6_stationAt prog_1_method_31_code 2 (Option.some (Jvm.ClassFile.FieldType.object "QuakeBench$Station"))] : List Cond), w ∈ lw_all := zin [880, 882, 19, 54, 883] (by decide +kernel)
theorem dX6_setWeight_0 : decode cX6_setWeight 0 = .ok (.aload_n 0, 1) := by decide +kernel
theorem dX6_setWeight_1 : decode cX6_setWeight 1 = .ok (.iload_n 1, 1) := by decide +kernel
theorem dX6_setWeight_2 : decode cX6_setWeight 2 = .ok (.invokevirtual 135, 3) := by decide +kernel
theorem dX6_setWeight_5 : decode cX6_setWeight 5 = .ok (.astore_n 3, 1) := by decide +kernel
theorem dX6_setWeight_6 : decode cX6_setWeight 6 = .ok (.iload_n 2, 1) := by decide +kernel
theorem dX6_setWeight_7 : decode cX6_setWeight 7 = .ok (.iconst 1, 1) := by decide +kernel
theorem dX6_setWeight_8 : decode cX6_setWeight 8 = .ok (.if_icmp .lt 8, 3) := by decide +kernel
theorem dX6_setWeight_11 : decode cX6_setWeight 11 = .ok (.iload_n 2, 1) := by decide +kernel
theorem dX6_setWeight_12 : decode cX6_setWeight 12 = .ok (.iconst 4, 1) := by decide +kernel
theorem dX6_setWeight_13 : decode cX6_setWeight 13 = .ok (.if_icmp .le 13, 3) := by decide +kernel
theorem dX6_setWeight_16 : decode cX6_setWeight 16 = .ok (.new 55, 3) := by decide +kernel
theorem dX6_setWeight_19 : decode cX6_setWeight 19 = .ok (.dup, 1) := by decide +kernel
theorem dX6_setWeight_20 : decode cX6_setWeight 20 = .ok (.ldc 139, 2) := by decide +kernel
theorem dX6_setWeight_22 : decode cX6_setWeight 22 = .ok (.invokespecial 59, 3) := by decide +kernel
theorem dX6_setWeight_25 : decode cX6_setWeight 25 = .ok (.athrow, 1) := by decide +kernel
theorem dX6_setWeight_26 : decode cX6_setWeight 26 = .ok (.aload_n 3, 1) := by decide +kernel
theorem dX6_setWeight_27 : decode cX6_setWeight 27 = .ok (.getfield 141, 3) := by decide +kernel
theorem dX6_setWeight_30 : decode cX6_setWeight 30 = .ok (.istore 4, 2) := by decide +kernel
theorem dX6_setWeight_32 : decode cX6_setWeight 32 = .ok (.aload_n 3, 1) := by decide +kernel
theorem dX6_setWeight_33 : decode cX6_setWeight 33 = .ok (.iload_n 2, 1) := by decide +kernel
theorem dX6_setWeight_34 : decode cX6_setWeight 34 = .ok (.putfield 141, 3) := by decide +kernel
theorem dX6_setWeight_37 : decode cX6_setWeight 37 = .ok (.aload_n 3, 1) := by decide +kernel
theorem dX6_setWeight_38 : decode cX6_setWeight 38 = .ok (.getfield 144, 3) := by decide +kernel
theorem dX6_setWeight_41 : decode cX6_setWeight 41 = .ok (.ifnull 11, 3) := by decide +kernel
theorem dX6_setWeight_44 : decode cX6_setWeight 44 = .ok (.aload_n 3, 1) := by decide +kernel
theorem dX6_setWeight_45 : decode cX6_setWeight 45 = .ok (.getfield 144, 3) := by decide +kernel
theorem dX6_setWeight_48 : decode cX6_setWeight 48 = .ok (.iconst 0, 1) := by decide +kernel
theorem dX6_setWeight_49 : decode cX6_setWeight 49 = .ok (.putfield 100, 3) := by decide +kernel
theorem dX6_setWeight_52 : decode cX6_setWeight 52 = .ok (.iload 4, 2) := by decide +kernel
theorem dX6_setWeight_54 : decode cX6_setWeight 54 = .ok (.ireturn, 1) := by decide +kernel
theorem ky_X6_pickAt : yX6_pickAt.cls ≠ "java/lang/invoke/MethodHandle" ∧ yX6_pickAt.cls ≠ "java/lang/invoke/VarHandle" ∧ (parseMethodDescriptor yX6_pickAt.desc).map (fun d => d.parameters.length) = some 1 := by decide +kernel
theorem kc_X6_setWeight_2 : ∀ w ∈ ([Cond.methodLink "QuakeBench" 135 yX6_pickAt, Cond.instanceMethod yX6_pickAt, Cond.selects "QuakeBench" yX6_pickAt yX6_pickAt, Cond.initialized "QuakeBench", Cond.code yX6_pickAt prog_1_method_32_code 2 (Option.some (Jvm.ClassFile.FieldType.object "QuakeBench$Pick"))] : List Cond), w ∈ lw_all := zin [979, 981, 20, 54, 982] (by decide +kernel)
theorem dX6_pick_0 : decode cX6_pick 0 = .ok (.aload_n 0, 1) := by decide +kernel
theorem dX6_pick_1 : decode cX6_pick 1 = .ok (.iload_n 1, 1) := by decide +kernel
theorem dX6_pick_2 : decode cX6_pick 2 = .ok (.invokevirtual 135, 3) := by decide +kernel
theorem dX6_pick_5 : decode cX6_pick 5 = .ok (.astore_n 3, 1) := by decide +kernel
theorem dX6_pick_6 : decode cX6_pick 6 = .ok (.iload_n 2, 1) := by decide +kernel
theorem dX6_pick_7 : decode cX6_pick 7 = .ok (.tableswitch 72 0 4 #[33, 41, 54, 59, 64], 33) := by decide +kernel
theorem dX6_pick_40 : decode cX6_pick 40 = .ok (.aload_n 3, 1) := by decide +kernel
theorem dX6_pick_41 : decode cX6_pick 41 = .ok (.getfield 148, 3) := by decide +kernel
theorem dX6_pick_44 : decode cX6_pick 44 = .ok (.getfield 152, 3) := by decide +kernel
theorem dX6_pick_47 : decode cX6_pick 47 = .ok (.ireturn, 1) := by decide +kernel
theorem dX6_pick_48 : decode cX6_pick 48 = .ok (.aload_n 3, 1) := by decide +kernel
theorem dX6_pick_49 : decode cX6_pick 49 = .ok (.getfield 155, 3) := by decide +kernel
theorem dX6_pick_52 : decode cX6_pick 52 = .ok (.ifCond .eq 7, 3) := by decide +kernel
theorem dX6_pick_55 : decode cX6_pick 55 = .ok (.iconst 1, 1) := by decide +kernel
theorem dX6_pick_56 : decode cX6_pick 56 = .ok (.goto 4, 3) := by decide +kernel
theorem dX6_pick_59 : decode cX6_pick 59 = .ok (.iconst 0, 1) := by decide +kernel
theorem dX6_pick_60 : decode cX6_pick 60 = .ok (.ireturn, 1) := by decide +kernel
theorem dX6_pick_61 : decode cX6_pick 61 = .ok (.aload_n 3, 1) := by decide +kernel
theorem dX6_pick_62 : decode cX6_pick 62 = .ok (.getfield 158, 3) := by decide +kernel
theorem dX6_pick_65 : decode cX6_pick 65 = .ok (.ireturn, 1) := by decide +kernel
theorem dX6_pick_66 : decode cX6_pick 66 = .ok (.aload_n 3, 1) := by decide +kernel
theorem dX6_pick_67 : decode cX6_pick 67 = .ok (.getfield 141, 3) := by decide +kernel
theorem dX6_pick_70 : decode cX6_pick 70 = .ok (.ireturn, 1) := by decide +kernel
theorem dX6_pick_71 : decode cX6_pick 71 = .ok (.aload_n 3, 1) := by decide +kernel
theorem dX6_pick_72 : decode cX6_pick 72 = .ok (.getfield 144, 3) := by decide +kernel
theorem dX6_pick_75 : decode cX6_pick 75 = .ok (.invokestatic 161, 3) := by decide +kernel
theorem dX6_pick_78 : decode cX6_pick 78 = .ok (.ireturn, 1) := by decide +kernel
theorem dX6_pick_79 : decode cX6_pick 79 = .ok (.new 165, 3) := by decide +kernel
theorem dX6_pick_82 : decode cX6_pick 82 = .ok (.dup, 1) := by decide +kernel
theorem dX6_pick_83 : decode cX6_pick 83 = .ok (.ldc 167, 2) := by decide +kernel
theorem dX6_pick_85 : decode cX6_pick 85 = .ok (.invokespecial 169, 3) := by decide +kernel
theorem dX6_pick_88 : decode cX6_pick 88 = .ok (.athrow, 1) := by decide +kernel
theorem kc_X6_pick_2 : ∀ w ∈ ([Cond.methodLink "QuakeBench" 135 yX6_pickAt, Cond.instanceMethod yX6_pickAt, Cond.selects "QuakeBench" yX6_pickAt yX6_pickAt, Cond.initialized "QuakeBench", Cond.code yX6_pickAt prog_1_method_32_code 2 (Option.some (Jvm.ClassFile.FieldType.object "QuakeBench$Pick"))] : List Cond), w ∈ lw_all := zin [979, 981, 20, 54, 982] (by decide +kernel)
theorem dX6_give_0 : decode cX6_give 0 = .ok (.aload_n 0, 1) := by decide +kernel
theorem dX6_give_1 : decode cX6_give 1 = .ok (.iload_n 1, 1) := by decide +kernel
theorem dX6_give_2 : decode cX6_give 2 = .ok (.invokevirtual 135, 3) := by decide +kernel
theorem dX6_give_5 : decode cX6_give 5 = .ok (.astore_n 3, 1) := by decide +kernel
theorem dX6_give_6 : decode cX6_give 6 = .ok (.iload_n 2, 1) := by decide +kernel
theorem dX6_give_7 : decode cX6_give 7 = .ok (.iconst (-1), 1) := by decide +kernel
theorem dX6_give_8 : decode cX6_give 8 = .ok (.if_icmp .ne 7, 3) := by decide +kernel
theorem dX6_give_11 : decode cX6_give 11 = .ok (.aconst_null, 1) := by decide +kernel
theorem dX6_give_12 : decode cX6_give 12 = .ok (.goto 8, 3) := by decide +kernel
theorem dX6_give_15 : decode cX6_give 15 = .ok (.aload_n 0, 1) := by decide +kernel
theorem dX6_give_16 : decode cX6_give 16 = .ok (.iload_n 2, 1) := by decide +kernel
theorem dX6_give_17 : decode cX6_give 17 = .ok (.invokevirtual 177, 3) := by decide +kernel
theorem dX6_give_20 : decode cX6_give 20 = .ok (.astore 4, 2) := by decide +kernel
theorem dX6_give_22 : decode cX6_give 22 = .ok (.aload 4, 2) := by decide +kernel
theorem dX6_give_24 : decode cX6_give 24 = .ok (.ifnull 22, 3) := by decide +kernel
theorem dX6_give_27 : decode cX6_give 27 = .ok (.aload 4, 2) := by decide +kernel
theorem dX6_give_29 : decode cX6_give 29 = .ok (.aload_n 3, 1) := by decide +kernel
theorem dX6_give_30 : decode cX6_give 30 = .ok (.invokevirtual 181, 3) := by decide +kernel
theorem dX6_give_33 : decode cX6_give 33 = .ok (.ifCond .eq 13, 3) := by decide +kernel
theorem dX6_give_36 : decode cX6_give 36 = .ok (.new 66, 3) := by decide +kernel
theorem dX6_give_39 : decode cX6_give 39 = .ok (.dup, 1) := by decide +kernel
theorem dX6_give_40 : decode cX6_give 40 = .ok (.ldc 185, 2) := by decide +kernel
theorem dX6_give_42 : decode cX6_give 42 = .ok (.invokespecial 70, 3) := by decide +kernel
theorem dX6_give_45 : decode cX6_give 45 = .ok (.athrow, 1) := by decide +kernel
theorem dX6_give_46 : decode cX6_give 46 = .ok (.aload_n 3, 1) := by decide +kernel
theorem dX6_give_47 : decode cX6_give 47 = .ok (.getfield 144, 3) := by decide +kernel
theorem dX6_give_50 : decode cX6_give 50 = .ok (.astore 5, 2) := by decide +kernel
theorem dX6_give_52 : decode cX6_give 52 = .ok (.aload 5, 2) := by decide +kernel
theorem dX6_give_54 : decode cX6_give 54 = .ok (.ifnull 15, 3) := by decide +kernel
theorem dX6_give_57 : decode cX6_give 57 = .ok (.aload 5, 2) := by decide +kernel
theorem dX6_give_59 : decode cX6_give 59 = .ok (.aload_n 3, 1) := by decide +kernel
theorem dX6_give_60 : decode cX6_give 60 = .ok (.invokevirtual 187, 3) := by decide +kernel
theorem dX6_give_63 : decode cX6_give 63 = .ok (.aload 5, 2) := by decide +kernel
theorem dX6_give_65 : decode cX6_give 65 = .ok (.iconst 0, 1) := by decide +kernel
theorem dX6_give_66 : decode cX6_give 66 = .ok (.putfield 100, 3) := by decide +kernel
theorem dX6_give_69 : decode cX6_give 69 = .ok (.aload 4, 2) := by decide +kernel
theorem dX6_give_71 : decode cX6_give 71 = .ok (.ifnull 15, 3) := by decide +kernel
theorem dX6_give_74 : decode cX6_give 74 = .ok (.aload 4, 2) := by decide +kernel
theorem dX6_give_76 : decode cX6_give 76 = .ok (.aload_n 3, 1) := by decide +kernel
theorem dX6_give_77 : decode cX6_give 77 = .ok (.invokevirtual 191, 3) := by decide +kernel
theorem dX6_give_80 : decode cX6_give 80 = .ok (.aload 4, 2) := by decide +kernel
theorem dX6_give_82 : decode cX6_give 82 = .ok (.iconst 0, 1) := by decide +kernel
theorem dX6_give_83 : decode cX6_give 83 = .ok (.putfield 100, 3) := by decide +kernel
theorem dX6_give_86 : decode cX6_give 86 = .ok (.aload 5, 2) := by decide +kernel
theorem dX6_give_88 : decode cX6_give 88 = .ok (.invokestatic 161, 3) := by decide +kernel
theorem dX6_give_91 : decode cX6_give 91 = .ok (.ireturn, 1) := by decide +kernel
theorem kc_X6_give_2 : ∀ w ∈ ([Cond.methodLink "QuakeBench" 135 yX6_pickAt, Cond.instanceMethod yX6_pickAt, Cond.selects "QuakeBench" yX6_pickAt yX6_pickAt, Cond.initialized "QuakeBench", Cond.code yX6_pickAt prog_1_method_32_code 2 (Option.some (Jvm.ClassFile.FieldType.object "QuakeBench$Pick"))] : List Cond), w ∈ lw_all := zin [979, 981, 20, 54, 982] (by decide +kernel)
theorem dX6_seek_0 : decode cX6_seek 0 = .ok (.aload_n 0, 1) := by decide +kernel
theorem dX6_seek_1 : decode cX6_seek 1 = .ok (.iload_n 1, 1) := by decide +kernel
theorem dX6_seek_2 : decode cX6_seek 2 = .ok (.invokevirtual 177, 3) := by decide +kernel
theorem dX6_seek_5 : decode cX6_seek 5 = .ok (.astore_n 2, 1) := by decide +kernel
theorem dX6_seek_6 : decode cX6_seek 6 = .ok (.aload_n 2, 1) := by decide +kernel
theorem dX6_seek_7 : decode cX6_seek 7 = .ok (.invokevirtual 218, 3) := by decide +kernel
theorem dX6_seek_10 : decode cX6_seek 10 = .ok (.iconst 3, 1) := by decide +kernel
theorem dX6_seek_11 : decode cX6_seek 11 = .ok (.if_icmp .ge 13, 3) := by decide +kernel
theorem dX6_seek_14 : decode cX6_seek 14 = .ok (.new 66, 3) := by decide +kernel
theorem dX6_seek_17 : decode cX6_seek 17 = .ok (.dup, 1) := by decide +kernel
theorem dX6_seek_18 : decode cX6_seek 18 = .ok (.ldc 221, 2) := by decide +kernel
theorem dX6_seek_20 : decode cX6_seek 20 = .ok (.invokespecial 70, 3) := by decide +kernel
theorem dX6_seek_23 : decode cX6_seek 23 = .ok (.athrow, 1) := by decide +kernel
theorem dX6_seek_24 : decode cX6_seek 24 = .ok (.aload_n 0, 1) := by decide +kernel
theorem dX6_seek_25 : decode cX6_seek 25 = .ok (.getfield 41, 3) := by decide +kernel
theorem dX6_seek_28 : decode cX6_seek 28 = .ok (.aload_n 2, 1) := by decide +kernel
theorem dX6_seek_29 : decode cX6_seek 29 = .ok (.invokevirtual 208, 3) := by decide +kernel
theorem dX6_seek_32 : decode cX6_seek 32 = .ok (.lreturn, 1) := by decide +kernel
theorem ky_X6_eventAt : yX6_eventAt.cls ≠ "java/lang/invoke/MethodHandle" ∧ yX6_eventAt.cls ≠ "java/lang/invoke/VarHandle" ∧ (parseMethodDescriptor yX6_eventAt.desc).map (fun d => d.parameters.length) = some 1 := by decide +kernel
theorem kc_X6_seek_2 : ∀ w ∈ ([Cond.methodLink "QuakeBench" 177 yX6_eventAt, Cond.instanceMethod yX6_eventAt, Cond.selects "QuakeBench" yX6_eventAt yX6_eventAt, Cond.initialized "QuakeBench", Cond.code yX6_eventAt prog_1_method_33_code 2 (Option.some (Jvm.ClassFile.FieldType.object "QuakeBench$Event"))] : List Cond), w ∈ lw_all := zin [1008, 1010, 21, 54, 1011] (by decide +kernel)
theorem dX6_event_0 : decode cX6_event 0 = .ok (.aload_n 0, 1) := by decide +kernel
theorem dX6_event_1 : decode cX6_event 1 = .ok (.iload_n 1, 1) := by decide +kernel
theorem dX6_event_2 : decode cX6_event 2 = .ok (.invokevirtual 177, 3) := by decide +kernel
theorem dX6_event_5 : decode cX6_event 5 = .ok (.astore_n 3, 1) := by decide +kernel
theorem dX6_event_6 : decode cX6_event 6 = .ok (.iload_n 2, 1) := by decide +kernel
theorem dX6_event_7 : decode cX6_event 7 = .ok (.ifCond .lt 8, 3) := by decide +kernel
theorem dX6_event_10 : decode cX6_event 10 = .ok (.iload_n 2, 1) := by decide +kernel
theorem dX6_event_11 : decode cX6_event 11 = .ok (.iconst 5, 1) := by decide +kernel
theorem dX6_event_12 : decode cX6_event 12 = .ok (.if_icmp .le 13, 3) := by decide +kernel
theorem dX6_event_15 : decode cX6_event 15 = .ok (.new 165, 3) := by decide +kernel
theorem dX6_event_18 : decode cX6_event 18 = .ok (.dup, 1) := by decide +kernel
theorem dX6_event_19 : decode cX6_event 19 = .ok (.ldc 223, 2) := by decide +kernel
theorem dX6_event_21 : decode cX6_event 21 = .ok (.invokespecial 169, 3) := by decide +kernel
theorem dX6_event_24 : decode cX6_event 24 = .ok (.athrow, 1) := by decide +kernel
theorem dX6_event_25 : decode cX6_event 25 = .ok (.iload_n 2, 1) := by decide +kernel
theorem dX6_event_26 : decode cX6_event 26 = .ok (.iconst 3, 1) := by decide +kernel
theorem dX6_event_27 : decode cX6_event 27 = .ok (.if_icmp .gt 7, 3) := by decide +kernel
theorem dX6_event_30 : decode cX6_event 30 = .ok (.aload_n 3, 1) := by decide +kernel
theorem dX6_event_31 : decode cX6_event 31 = .ok (.invokestatic 225, 3) := by decide +kernel
theorem dX6_event_34 : decode cX6_event 34 = .ok (.iload_n 2, 1) := by decide +kernel
theorem dX6_event_35 : decode cX6_event 35 = .ok (.tableswitch 61 0 4 #[33, 38, 43, 48, 53], 33) := by decide +kernel
theorem dX6_event_68 : decode cX6_event 68 = .ok (.aload_n 3, 1) := by decide +kernel
theorem dX6_event_69 : decode cX6_event 69 = .ok (.getfield 229, 3) := by decide +kernel
theorem dX6_event_72 : decode cX6_event 72 = .ok (.ireturn, 1) := by decide +kernel
theorem dX6_event_73 : decode cX6_event 73 = .ok (.aload_n 3, 1) := by decide +kernel
theorem dX6_event_74 : decode cX6_event 74 = .ok (.getfield 232, 3) := by decide +kernel
theorem dX6_event_77 : decode cX6_event 77 = .ok (.ireturn, 1) := by decide +kernel
theorem dX6_event_78 : decode cX6_event 78 = .ok (.aload_n 3, 1) := by decide +kernel
theorem dX6_event_79 : decode cX6_event 79 = .ok (.getfield 235, 3) := by decide +kernel
theorem dX6_event_82 : decode cX6_event 82 = .ok (.ireturn, 1) := by decide +kernel
theorem dX6_event_83 : decode cX6_event 83 = .ok (.aload_n 3, 1) := by decide +kernel
theorem dX6_event_84 : decode cX6_event 84 = .ok (.getfield 238, 3) := by decide +kernel
theorem dX6_event_87 : decode cX6_event 87 = .ok (.ireturn, 1) := by decide +kernel
theorem dX6_event_88 : decode cX6_event 88 = .ok (.aload_n 3, 1) := by decide +kernel
theorem dX6_event_89 : decode cX6_event 89 = .ok (.getfield 239, 3) := by decide +kernel
theorem dX6_event_92 : decode cX6_event 92 = .ok (.invokevirtual 62, 3) := by decide +kernel
theorem dX6_event_95 : decode cX6_event 95 = .ok (.ireturn, 1) := by decide +kernel
theorem dX6_event_96 : decode cX6_event 96 = .ok (.aload_n 3, 1) := by decide +kernel
theorem dX6_event_97 : decode cX6_event 97 = .ok (.invokevirtual 218, 3) := by decide +kernel
theorem dX6_event_100 : decode cX6_event 100 = .ok (.ireturn, 1) := by decide +kernel
theorem kc_X6_event_2 : ∀ w ∈ ([Cond.methodLink "QuakeBench" 177 yX6_eventAt, Cond.instanceMethod yX6_eventAt, Cond.selects "QuakeBench" yX6_eventAt yX6_eventAt, Cond.initialized "QuakeBench", Cond.code yX6_eventAt prog_1_method_33_code 2 (Option.some (Jvm.ClassFile.FieldType.object "QuakeBench$Event"))] : List Cond), w ∈ lw_all := zin [1008, 1010, 21, 54, 1011] (by decide +kernel)
theorem dX6_misfit_0 : decode cX6_misfit 0 = .ok (.aload_n 0, 1) := by decide +kernel
theorem dX6_misfit_1 : decode cX6_misfit 1 = .ok (.iload_n 1, 1) := by decide +kernel
theorem dX6_misfit_2 : decode cX6_misfit 2 = .ok (.invokevirtual 177, 3) := by decide +kernel
theorem dX6_misfit_5 : decode cX6_misfit 5 = .ok (.astore 5, 2) := by decide +kernel
theorem dX6_misfit_7 : decode cX6_misfit 7 = .ok (.iload_n 2, 1) := by decide +kernel
theorem dX6_misfit_8 : decode cX6_misfit 8 = .ok (.iload_n 3, 1) := by decide +kernel
theorem dX6_misfit_9 : decode cX6_misfit 9 = .ok (.iload 4, 2) := by decide +kernel
theorem dX6_misfit_11 : decode cX6_misfit 11 = .ok (.invokestatic 114, 3) := by decide +kernel
theorem dX6_misfit_14 : decode cX6_misfit 14 = .ok (.aload_n 0, 1) := by decide +kernel
theorem dX6_misfit_15 : decode cX6_misfit 15 = .ok (.getfield 41, 3) := by decide +kernel
theorem dX6_misfit_18 : decode cX6_misfit 18 = .ok (.aload 5, 2) := by decide +kernel
theorem dX6_misfit_20 : decode cX6_misfit 20 = .ok (.iload_n 2, 1) := by decide +kernel
theorem dX6_misfit_21 : decode cX6_misfit 21 = .ok (.iload_n 3, 1) := by decide +kernel
theorem dX6_misfit_22 : decode cX6_misfit 22 = .ok (.iload 4, 2) := by decide +kernel
theorem dX6_misfit_24 : decode cX6_misfit 24 = .ok (.invokevirtual 242, 3) := by decide +kernel
theorem dX6_misfit_27 : decode cX6_misfit 27 = .ok (.aload_n 0, 1) := by decide +kernel
theorem dX6_misfit_28 : decode cX6_misfit 28 = .ok (.getfield 32, 3) := by decide +kernel
theorem dX6_misfit_31 : decode cX6_misfit 31 = .ok (.aload_n 0, 1) := by decide +kernel
theorem dX6_misfit_32 : decode cX6_misfit 32 = .ok (.getfield 32, 3) := by decide +kernel
theorem dX6_misfit_35 : decode cX6_misfit 35 = .ok (.invokevirtual 246, 3) := by decide +kernel
theorem dX6_misfit_38 : decode cX6_misfit 38 = .ok (.invokevirtual 249, 3) := by decide +kernel
theorem dX6_misfit_41 : decode cX6_misfit 41 = .ok (.lreturn, 1) := by decide +kernel
theorem kc_X6_misfit_2 : ∀ w ∈ ([Cond.methodLink "QuakeBench" 177 yX6_eventAt, Cond.instanceMethod yX6_eventAt, Cond.selects "QuakeBench" yX6_eventAt yX6_eventAt, Cond.initialized "QuakeBench", Cond.code yX6_eventAt prog_1_method_33_code 2 (Option.some (Jvm.ClassFile.FieldType.object "QuakeBench$Event"))] : List Cond), w ∈ lw_all := zin [1008, 1010, 21, 54, 1011] (by decide +kernel)
theorem dX6_residual_0 : decode cX6_residual 0 = .ok (.aload_n 0, 1) := by decide +kernel
theorem dX6_residual_1 : decode cX6_residual 1 = .ok (.iload_n 1, 1) := by decide +kernel
theorem dX6_residual_2 : decode cX6_residual 2 = .ok (.invokevirtual 135, 3) := by decide +kernel
theorem dX6_residual_5 : decode cX6_residual 5 = .ok (.astore_n 2, 1) := by decide +kernel
theorem dX6_residual_6 : decode cX6_residual 6 = .ok (.aload_n 2, 1) := by decide +kernel
theorem dX6_residual_7 : decode cX6_residual 7 = .ok (.getfield 144, 3) := by decide +kernel
theorem dX6_residual_10 : decode cX6_residual 10 = .ok (.astore_n 3, 1) := by decide +kernel
theorem dX6_residual_11 : decode cX6_residual 11 = .ok (.aload_n 3, 1) := by decide +kernel
theorem dX6_residual_12 : decode cX6_residual 12 = .ok (.ifnonnull 13, 3) := by decide +kernel
theorem dX6_residual_15 : decode cX6_residual 15 = .ok (.new 66, 3) := by decide +kernel
theorem dX6_residual_18 : decode cX6_residual 18 = .ok (.dup, 1) := by decide +kernel
theorem dX6_residual_19 : decode cX6_residual 19 = .ok (.ldc 253, 2) := by decide +kernel
theorem dX6_residual_21 : decode cX6_residual 21 = .ok (.invokespecial 70, 3) := by decide +kernel
theorem dX6_residual_24 : decode cX6_residual 24 = .ok (.athrow, 1) := by decide +kernel
theorem dX6_residual_25 : decode cX6_residual 25 = .ok (.aload_n 3, 1) := by decide +kernel
theorem dX6_residual_26 : decode cX6_residual 26 = .ok (.invokestatic 225, 3) := by decide +kernel
theorem dX6_residual_29 : decode cX6_residual 29 = .ok (.aload_n 0, 1) := by decide +kernel
theorem dX6_residual_30 : decode cX6_residual 30 = .ok (.getfield 25, 3) := by decide +kernel
theorem dX6_residual_33 : decode cX6_residual 33 = .ok (.aload_n 2, 1) := by decide +kernel
theorem dX6_residual_34 : decode cX6_residual 34 = .ok (.aload_n 3, 1) := by decide +kernel
theorem dX6_residual_35 : decode cX6_residual 35 = .ok (.invokevirtual 255, 3) := by decide +kernel
theorem dX6_residual_38 : decode cX6_residual 38 = .ok (.ireturn, 1) := by decide +kernel
theorem kc_X6_residual_2 : ∀ w ∈ ([Cond.methodLink "QuakeBench" 135 yX6_pickAt, Cond.instanceMethod yX6_pickAt, Cond.selects "QuakeBench" yX6_pickAt yX6_pickAt, Cond.initialized "QuakeBench", Cond.code yX6_pickAt prog_1_method_32_code 2 (Option.some (Jvm.ClassFile.FieldType.object "QuakeBench$Pick"))] : List Cond), w ∈ lw_all := zin [979, 981, 20, 54, 982] (by decide +kernel)
theorem dX6_worst_0 : decode cX6_worst 0 = .ok (.aload_n 0, 1) := by decide +kernel
theorem dX6_worst_1 : decode cX6_worst 1 = .ok (.iload_n 1, 1) := by decide +kernel
theorem dX6_worst_2 : decode cX6_worst 2 = .ok (.invokevirtual 177, 3) := by decide +kernel
theorem dX6_worst_5 : decode cX6_worst 5 = .ok (.astore_n 2, 1) := by decide +kernel
theorem dX6_worst_6 : decode cX6_worst 6 = .ok (.aload_n 2, 1) := by decide +kernel
theorem dX6_worst_7 : decode cX6_worst 7 = .ok (.invokestatic 225, 3) := by decide +kernel
theorem dX6_worst_10 : decode cX6_worst 10 = .ok (.iconst (-1), 1) := by decide +kernel
theorem dX6_worst_11 : decode cX6_worst 11 = .ok (.istore_n 3, 1) := by decide +kernel
theorem dX6_worst_12 : decode cX6_worst 12 = .ok (.iconst (-1), 1) := by decide +kernel
theorem dX6_worst_13 : decode cX6_worst 13 = .ok (.istore 4, 2) := by decide +kernel
theorem dX6_worst_15 : decode cX6_worst 15 = .ok (.iconst 0, 1) := by decide +kernel
theorem dX6_worst_16 : decode cX6_worst 16 = .ok (.istore 5, 2) := by decide +kernel
theorem dX6_worst_18 : decode cX6_worst 18 = .ok (.iload 5, 2) := by decide +kernel
theorem dX6_worst_20 : decode cX6_worst 20 = .ok (.aload_n 2, 1) := by decide +kernel
theorem dX6_worst_21 : decode cX6_worst 21 = .ok (.getfield 239, 3) := by decide +kernel
theorem dX6_worst_24 : decode cX6_worst 24 = .ok (.invokevirtual 62, 3) := by decide +kernel
theorem dX6_worst_27 : decode cX6_worst 27 = .ok (.if_icmp .ge 71, 3) := by decide +kernel
theorem dX6_worst_30 : decode cX6_worst 30 = .ok (.aload_n 2, 1) := by decide +kernel
theorem dX6_worst_31 : decode cX6_worst 31 = .ok (.getfield 239, 3) := by decide +kernel
theorem dX6_worst_34 : decode cX6_worst 34 = .ok (.iload 5, 2) := by decide +kernel
theorem dX6_worst_36 : decode cX6_worst 36 = .ok (.invokevirtual 90, 3) := by decide +kernel
theorem dX6_worst_39 : decode cX6_worst 39 = .ok (.checkcast 130, 3) := by decide +kernel
theorem dX6_worst_42 : decode cX6_worst 42 = .ok (.astore 6, 2) := by decide +kernel
theorem dX6_worst_44 : decode cX6_worst 44 = .ok (.aload_n 0, 1) := by decide +kernel
theorem dX6_worst_45 : decode cX6_worst 45 = .ok (.getfield 25, 3) := by decide +kernel
theorem dX6_worst_48 : decode cX6_worst 48 = .ok (.aload 6, 2) := by decide +kernel
theorem dX6_worst_50 : decode cX6_worst 50 = .ok (.aload_n 2, 1) := by decide +kernel
theorem dX6_worst_51 : decode cX6_worst 51 = .ok (.invokevirtual 255, 3) := by decide +kernel
theorem dX6_worst_54 : decode cX6_worst 54 = .ok (.invokestatic 259, 3) := by decide +kernel
theorem dX6_worst_57 : decode cX6_worst 57 = .ok (.istore 7, 2) := by decide +kernel
theorem dX6_worst_59 : decode cX6_worst 59 = .ok (.iload 7, 2) := by decide +kernel
theorem dX6_worst_61 : decode cX6_worst 61 = .ok (.iload 4, 2) := by decide +kernel
theorem dX6_worst_63 : decode cX6_worst 63 = .ok (.if_icmp .gt 19, 3) := by decide +kernel
theorem dX6_worst_66 : decode cX6_worst 66 = .ok (.iload 7, 2) := by decide +kernel
theorem dX6_worst_68 : decode cX6_worst 68 = .ok (.iload 4, 2) := by decide +kernel
theorem dX6_worst_70 : decode cX6_worst 70 = .ok (.if_icmp .ne 22, 3) := by decide +kernel
theorem dX6_worst_73 : decode cX6_worst 73 = .ok (.aload 6, 2) := by decide +kernel
theorem dX6_worst_75 : decode cX6_worst 75 = .ok (.getfield 265, 3) := by decide +kernel
theorem dX6_worst_78 : decode cX6_worst 78 = .ok (.iload_n 3, 1) := by decide +kernel
theorem dX6_worst_79 : decode cX6_worst 79 = .ok (.if_icmp .ge 13, 3) := by decide +kernel
theorem dX6_worst_82 : decode cX6_worst 82 = .ok (.iload 7, 2) := by decide +kernel
theorem dX6_worst_84 : decode cX6_worst 84 = .ok (.istore 4, 2) := by decide +kernel
theorem dX6_worst_86 : decode cX6_worst 86 = .ok (.aload 6, 2) := by decide +kernel
theorem dX6_worst_88 : decode cX6_worst 88 = .ok (.getfield 265, 3) := by decide +kernel
theorem dX6_worst_91 : decode cX6_worst 91 = .ok (.istore_n 3, 1) := by decide +kernel
theorem dX6_worst_92 : decode cX6_worst 92 = .ok (.iinc 5 1, 3) := by decide +kernel
theorem dX6_worst_95 : decode cX6_worst 95 = .ok (.goto (-77), 3) := by decide +kernel
theorem dX6_worst_98 : decode cX6_worst 98 = .ok (.iload_n 3, 1) := by decide +kernel
theorem dX6_worst_99 : decode cX6_worst 99 = .ok (.ireturn, 1) := by decide +kernel
theorem kc_X6_worst_2 : ∀ w ∈ ([Cond.methodLink "QuakeBench" 177 yX6_eventAt, Cond.instanceMethod yX6_eventAt, Cond.selects "QuakeBench" yX6_eventAt yX6_eventAt, Cond.initialized "QuakeBench", Cond.code yX6_eventAt prog_1_method_33_code 2 (Option.some (Jvm.ClassFile.FieldType.object "QuakeBench$Event"))] : List Cond), w ∈ lw_all := zin [1008, 1010, 21, 54, 1011] (by decide +kernel)
theorem dX6_spread_0 : decode cX6_spread 0 = .ok (.aload_n 0, 1) := by decide +kernel
theorem dX6_spread_1 : decode cX6_spread 1 = .ok (.iload_n 1, 1) := by decide +kernel
theorem dX6_spread_2 : decode cX6_spread 2 = .ok (.invokevirtual 177, 3) := by decide +kernel
theorem dX6_spread_5 : decode cX6_spread 5 = .ok (.astore_n 2, 1) := by decide +kernel
theorem dX6_spread_6 : decode cX6_spread 6 = .ok (.aload_n 2, 1) := by decide +kernel
theorem dX6_spread_7 : decode cX6_spread 7 = .ok (.invokestatic 225, 3) := by decide +kernel
theorem dX6_spread_10 : decode cX6_spread 10 = .ok (.aload_n 0, 1) := by decide +kernel
theorem dX6_spread_11 : decode cX6_spread 11 = .ok (.getfield 41, 3) := by decide +kernel
theorem dX6_spread_14 : decode cX6_spread 14 = .ok (.aload_n 2, 1) := by decide +kernel
theorem dX6_spread_15 : decode cX6_spread 15 = .ok (.aload_n 2, 1) := by decide +kernel
theorem dX6_spread_16 : decode cX6_spread 16 = .ok (.getfield 229, 3) := by decide +kernel
theorem dX6_spread_19 : decode cX6_spread 19 = .ok (.aload_n 2, 1) := by decide +kernel
theorem dX6_spread_20 : decode cX6_spread 20 = .ok (.getfield 232, 3) := by decide +kernel
theorem dX6_spread_23 : decode cX6_spread 23 = .ok (.aload_n 2, 1) := by decide +kernel
theorem dX6_spread_24 : decode cX6_spread 24 = .ok (.getfield 235, 3) := by decide +kernel
theorem dX6_spread_27 : decode cX6_spread 27 = .ok (.invokevirtual 242, 3) := by decide +kernel
theorem dX6_spread_30 : decode cX6_spread 30 = .ok (.aload_n 0, 1) := by decide +kernel
theorem dX6_spread_31 : decode cX6_spread 31 = .ok (.getfield 32, 3) := by decide +kernel
theorem dX6_spread_34 : decode cX6_spread 34 = .ok (.getfield 266, 3) := by decide +kernel
theorem dX6_spread_37 : decode cX6_spread 37 = .ok (.ifCond .le 27, 3) := by decide +kernel
theorem dX6_spread_40 : decode cX6_spread 40 = .ok (.aload_n 0, 1) := by decide +kernel
theorem dX6_spread_41 : decode cX6_spread 41 = .ok (.getfield 32, 3) := by decide +kernel
theorem dX6_spread_44 : decode cX6_spread 44 = .ok (.aload_n 2, 1) := by decide +kernel
theorem dX6_spread_45 : decode cX6_spread 45 = .ok (.getfield 238, 3) := by decide +kernel
theorem dX6_spread_48 : decode cX6_spread 48 = .ok (.invokevirtual 249, 3) := by decide +kernel
theorem dX6_spread_51 : decode cX6_spread 51 = .ok (.l2d, 1) := by decide +kernel
theorem dX6_spread_52 : decode cX6_spread 52 = .ok (.aload_n 0, 1) := by decide +kernel
theorem dX6_spread_53 : decode cX6_spread 53 = .ok (.getfield 32, 3) := by decide +kernel
theorem dX6_spread_56 : decode cX6_spread 56 = .ok (.getfield 266, 3) := by decide +kernel
theorem dX6_spread_59 : decode cX6_spread 59 = .ok (.i2d, 1) := by decide +kernel
theorem dX6_spread_60 : decode cX6_spread 60 = .ok (.ddiv, 1) := by decide +kernel
theorem dX6_spread_61 : decode cX6_spread 61 = .ok (.goto 4, 3) := by decide +kernel
theorem dX6_spread_64 : decode cX6_spread 64 = .ok (.dconst 0, 1) := by decide +kernel
theorem dX6_spread_65 : decode cX6_spread 65 = .ok (.dreturn, 1) := by decide +kernel
theorem kc_X6_spread_2 : ∀ w ∈ ([Cond.methodLink "QuakeBench" 177 yX6_eventAt, Cond.instanceMethod yX6_eventAt, Cond.selects "QuakeBench" yX6_eventAt yX6_eventAt, Cond.initialized "QuakeBench", Cond.code yX6_eventAt prog_1_method_33_code 2 (Option.some (Jvm.ClassFile.FieldType.object "QuakeBench$Event"))] : List Cond), w ∈ lw_all := zin [1008, 1010, 21, 54, 1011] (by decide +kernel)
theorem dX6_gap_0 : decode cX6_gap 0 = .ok (.aload_n 0, 1) := by decide +kernel
theorem dX6_gap_1 : decode cX6_gap 1 = .ok (.iload_n 1, 1) := by decide +kernel
theorem dX6_gap_2 : decode cX6_gap 2 = .ok (.invokevirtual 177, 3) := by decide +kernel
theorem dX6_gap_5 : decode cX6_gap 5 = .ok (.astore_n 2, 1) := by decide +kernel
theorem dX6_gap_6 : decode cX6_gap 6 = .ok (.aload_n 2, 1) := by decide +kernel
theorem dX6_gap_7 : decode cX6_gap 7 = .ok (.invokestatic 225, 3) := by decide +kernel
theorem dX6_gap_10 : decode cX6_gap 10 = .ok (.aload_n 0, 1) := by decide +kernel
theorem dX6_gap_11 : decode cX6_gap 11 = .ok (.aload_n 2, 1) := by decide +kernel
theorem dX6_gap_12 : decode cX6_gap 12 = .ok (.invokevirtual 269, 3) := by decide +kernel
theorem dX6_gap_15 : decode cX6_gap 15 = .ok (.ireturn, 1) := by decide +kernel
theorem kc_X6_gap_2 : ∀ w ∈ ([Cond.methodLink "QuakeBench" 177 yX6_eventAt, Cond.instanceMethod yX6_eventAt, Cond.selects "QuakeBench" yX6_eventAt yX6_eventAt, Cond.initialized "QuakeBench", Cond.code yX6_eventAt prog_1_method_33_code 2 (Option.some (Jvm.ClassFile.FieldType.object "QuakeBench$Event"))] : List Cond), w ∈ lw_all := zin [1008, 1010, 21, 54, 1011] (by decide +kernel)
theorem dX6_setAmplitude_0 : decode cX6_setAmplitude 0 = .ok (.aload_n 0, 1) := by decide +kernel
theorem dX6_setAmplitude_1 : decode cX6_setAmplitude 1 = .ok (.iload_n 1, 1) := by decide +kernel
theorem dX6_setAmplitude_2 : decode cX6_setAmplitude 2 = .ok (.invokevirtual 135, 3) := by decide +kernel
theorem dX6_setAmplitude_5 : decode cX6_setAmplitude 5 = .ok (.astore_n 3, 1) := by decide +kernel
theorem dX6_setAmplitude_6 : decode cX6_setAmplitude 6 = .ok (.iload_n 2, 1) := by decide +kernel
theorem dX6_setAmplitude_7 : decode cX6_setAmplitude 7 = .ok (.iconst 1, 1) := by decide +kernel
theorem dX6_setAmplitude_8 : decode cX6_setAmplitude 8 = .ok (.if_icmp .lt 10, 3) := by decide +kernel
theorem dX6_setAmplitude_11 : decode cX6_setAmplitude 11 = .ok (.iload_n 2, 1) := by decide +kernel
theorem dX6_setAmplitude_12 : decode cX6_setAmplitude 12 = .ok (.ldc_w 272, 3) := by decide +kernel
theorem dX6_setAmplitude_15 : decode cX6_setAmplitude 15 = .ok (.if_icmp .le 14, 3) := by decide +kernel
theorem dX6_setAmplitude_18 : decode cX6_setAmplitude 18 = .ok (.new 55, 3) := by decide +kernel
theorem dX6_setAmplitude_21 : decode cX6_setAmplitude 21 = .ok (.dup, 1) := by decide +kernel
theorem dX6_setAmplitude_22 : decode cX6_setAmplitude 22 = .ok (.ldc_w 273, 3) := by decide +kernel
theorem dX6_setAmplitude_25 : decode cX6_setAmplitude 25 = .ok (.invokespecial 59, 3) := by decide +kernel
theorem dX6_setAmplitude_28 : decode cX6_setAmplitude 28 = .ok (.athrow, 1) := by decide +kernel
theorem dX6_setAmplitude_29 : decode cX6_setAmplitude 29 = .ok (.aload_n 3, 1) := by decide +kernel
theorem dX6_setAmplitude_30 : decode cX6_setAmplitude 30 = .ok (.getfield 275, 3) := by decide +kernel
theorem dX6_setAmplitude_33 : decode cX6_setAmplitude 33 = .ok (.istore 4, 2) := by decide +kernel
theorem dX6_setAmplitude_35 : decode cX6_setAmplitude 35 = .ok (.aload_n 3, 1) := by decide +kernel
theorem dX6_setAmplitude_36 : decode cX6_setAmplitude 36 = .ok (.iload_n 2, 1) := by decide +kernel
theorem dX6_setAmplitude_37 : decode cX6_setAmplitude 37 = .ok (.putfield 275, 3) := by decide +kernel
theorem dX6_setAmplitude_40 : decode cX6_setAmplitude 40 = .ok (.iload 4, 2) := by decide +kernel
theorem dX6_setAmplitude_42 : decode cX6_setAmplitude 42 = .ok (.ireturn, 1) := by decide +kernel
theorem kc_X6_setAmplitude_2 : ∀ w ∈ ([Cond.methodLink "QuakeBench" 135 yX6_pickAt, Cond.instanceMethod yX6_pickAt, Cond.selects "QuakeBench" yX6_pickAt yX6_pickAt, Cond.initialized "QuakeBench", Cond.code yX6_pickAt prog_1_method_32_code 2 (Option.some (Jvm.ClassFile.FieldType.object "QuakeBench$Pick"))] : List Cond), w ∈ lw_all := zin [979, 981, 20, 54, 982] (by decide +kernel)
theorem dX6_magnitude_0 : decode cX6_magnitude 0 = .ok (.aload_n 0, 1) := by decide +kernel
theorem dX6_magnitude_1 : decode cX6_magnitude 1 = .ok (.iload_n 1, 1) := by decide +kernel
theorem dX6_magnitude_2 : decode cX6_magnitude 2 = .ok (.invokevirtual 177, 3) := by decide +kernel
theorem dX6_magnitude_5 : decode cX6_magnitude 5 = .ok (.astore_n 2, 1) := by decide +kernel
theorem dX6_magnitude_6 : decode cX6_magnitude 6 = .ok (.aload_n 2, 1) := by decide +kernel
theorem dX6_magnitude_7 : decode cX6_magnitude 7 = .ok (.invokestatic 225, 3) := by decide +kernel
theorem dX6_magnitude_10 : decode cX6_magnitude 10 = .ok (.aload_n 0, 1) := by decide +kernel
theorem dX6_magnitude_11 : decode cX6_magnitude 11 = .ok (.aload_n 2, 1) := by decide +kernel
theorem dX6_magnitude_12 : decode cX6_magnitude 12 = .ok (.invokevirtual 278, 3) := by decide +kernel
theorem dX6_magnitude_15 : decode cX6_magnitude 15 = .ok (.ireturn, 1) := by decide +kernel
theorem kc_X6_magnitude_2 : ∀ w ∈ ([Cond.methodLink "QuakeBench" 177 yX6_eventAt, Cond.instanceMethod yX6_eventAt, Cond.selects "QuakeBench" yX6_eventAt yX6_eventAt, Cond.initialized "QuakeBench", Cond.code yX6_eventAt prog_1_method_33_code 2 (Option.some (Jvm.ClassFile.FieldType.object "QuakeBench$Event"))] : List Cond), w ∈ lw_all := zin [1008, 1010, 21, 54, 1011] (by decide +kernel)
theorem dX6_family_0 : decode cX6_family 0 = .ok (.aload_n 0, 1) := by decide +kernel
theorem dX6_family_1 : decode cX6_family 1 = .ok (.iload_n 1, 1) := by decide +kernel
theorem dX6_family_2 : decode cX6_family 2 = .ok (.invokevirtual 177, 3) := by decide +kernel
theorem dX6_family_5 : decode cX6_family 5 = .ok (.astore 4, 2) := by decide +kernel
theorem dX6_family_7 : decode cX6_family 7 = .ok (.iload_n 2, 1) := by decide +kernel
theorem dX6_family_8 : decode cX6_family 8 = .ok (.iload_n 3, 1) := by decide +kernel
theorem dX6_family_9 : decode cX6_family 9 = .ok (.invokestatic 281, 3) := by decide +kernel
theorem dX6_family_12 : decode cX6_family 12 = .ok (.aload 4, 2) := by decide +kernel
theorem dX6_family_14 : decode cX6_family 14 = .ok (.invokestatic 225, 3) := by decide +kernel
theorem dX6_family_17 : decode cX6_family 17 = .ok (.aload_n 0, 1) := by decide +kernel
theorem dX6_family_18 : decode cX6_family 18 = .ok (.iload_n 2, 1) := by decide +kernel
theorem dX6_family_19 : decode cX6_family 19 = .ok (.iload_n 3, 1) := by decide +kernel
theorem dX6_family_20 : decode cX6_family 20 = .ok (.invokevirtual 285, 3) := by decide +kernel
theorem dX6_family_23 : decode cX6_family 23 = .ok (.iconst 0, 1) := by decide +kernel
theorem dX6_family_24 : decode cX6_family 24 = .ok (.istore 5, 2) := by decide +kernel
theorem dX6_family_26 : decode cX6_family 26 = .ok (.iconst 0, 1) := by decide +kernel
theorem dX6_family_27 : decode cX6_family 27 = .ok (.istore 6, 2) := by decide +kernel
theorem dX6_family_29 : decode cX6_family 29 = .ok (.iload 6, 2) := by decide +kernel
theorem dX6_family_31 : decode cX6_family 31 = .ok (.aload_n 0, 1) := by decide +kernel
theorem dX6_family_32 : decode cX6_family 32 = .ok (.getfield 19, 3) := by decide +kernel
theorem dX6_family_35 : decode cX6_family 35 = .ok (.invokevirtual 62, 3) := by decide +kernel
theorem dX6_family_38 : decode cX6_family 38 = .ok (.if_icmp .ge 47, 3) := by decide +kernel
theorem dX6_family_41 : decode cX6_family 41 = .ok (.aload_n 0, 1) := by decide +kernel
theorem dX6_family_42 : decode cX6_family 42 = .ok (.getfield 19, 3) := by decide +kernel
theorem dX6_family_45 : decode cX6_family 45 = .ok (.iload 6, 2) := by decide +kernel
theorem dX6_family_47 : decode cX6_family 47 = .ok (.invokevirtual 90, 3) := by decide +kernel
theorem dX6_family_50 : decode cX6_family 50 = .ok (.checkcast 94, 3) := by decide +kernel
theorem dX6_family_53 : decode cX6_family 53 = .ok (.astore 7, 2) := by decide +kernel
theorem dX6_family_55 : decode cX6_family 55 = .ok (.aload 7, 2) := by decide +kernel
theorem dX6_family_57 : decode cX6_family 57 = .ok (.getfield 100, 3) := by decide +kernel
theorem dX6_family_60 : decode cX6_family 60 = .ok (.ifCond .eq 19, 3) := by decide +kernel
theorem dX6_family_63 : decode cX6_family 63 = .ok (.aload 7, 2) := by decide +kernel
theorem dX6_family_65 : decode cX6_family 65 = .ok (.getfield 288, 3) := by decide +kernel
theorem dX6_family_68 : decode cX6_family 68 = .ok (.aload 4, 2) := by decide +kernel
theorem dX6_family_70 : decode cX6_family 70 = .ok (.getfield 288, 3) := by decide +kernel
theorem dX6_family_73 : decode cX6_family 73 = .ok (.if_icmp .ne 6, 3) := by decide +kernel
theorem dX6_family_76 : decode cX6_family 76 = .ok (.iinc 5 1, 3) := by decide +kernel
theorem dX6_family_79 : decode cX6_family 79 = .ok (.iinc 6 1, 3) := by decide +kernel
theorem dX6_family_82 : decode cX6_family 82 = .ok (.goto (-53), 3) := by decide +kernel
theorem dX6_family_85 : decode cX6_family 85 = .ok (.iload 5, 2) := by decide +kernel
theorem dX6_family_87 : decode cX6_family 87 = .ok (.ireturn, 1) := by decide +kernel
theorem kc_X6_family_2 : ∀ w ∈ ([Cond.methodLink "QuakeBench" 177 yX6_eventAt, Cond.instanceMethod yX6_eventAt, Cond.selects "QuakeBench" yX6_eventAt yX6_eventAt, Cond.initialized "QuakeBench", Cond.code yX6_eventAt prog_1_method_33_code 2 (Option.some (Jvm.ClassFile.FieldType.object "QuakeBench$Event"))] : List Cond), w ∈ lw_all := zin [1008, 1010, 21, 54, 1011] (by decide +kernel)
/-! the class: its calls on a new bench -/
def zKd : va_E → Prop
  | .inl (_, _, .inr (.inr (.inr (.inr _)))) => False
  | .inl _ => True
  | .inr (ci, _) => ci = 8
abbrev zKp (G G' : zG) : Prop := ∀ q e, G q = some e → zKd e → G' q = some e
def zC0 (Γ : zY) (G : zG) (b : Nat) : Prop :=
  ∃ s p e w r q lo co as ap ae alo, G b = some (oQB s p e w r q lo co) ∧ zLs Γ G s as [] ∧ zLs Γ G p ap [] ∧ zLs Γ G e ae [] ∧ zLs Γ G lo alo [] ∧ G w = some (oWav 6000 3468)
theorem zKp.rf {G : zG} : zKp G G := fun _ _ h _ => h
theorem zKp.al {G : zG} {a : Nat} {mc sz : Int32} {arr q : Nat} {e : va_E} (ha : G a = some (oAL mc arr sz)) (hq : G q = some e) (he : zKd e) : q ≠ a := by
  intro z; subst z
  rw [ha] at hq
  cases hq
  exact absurd he (by intro h; change (7 : Nat) = 8 at h; omega)
theorem zKp.ob {Γ : zY} {G : zG} {a N : Nat} {f : Nat → Option Nat} {q : Nat} {e : va_E} (ha : G a = some (zO Γ N f)) (hq : G q = some e) (he : zKd e) : q ≠ a := by
  intro z; subst z
  rw [ha] at hq
  cases hq
  exact he
abbrev nIOB : String := "java/lang/IndexOutOfBoundsException"
abbrev nIAE : String := "java/lang/IllegalArgumentException"
abbrev zIOB (G : zG) : String → zG → Prop := fun E G' => E = "java/lang/IndexOutOfBoundsException" ∧ G = G'
abbrev zIAE (P : Prop) (G : zG) : String → zG → Prop := fun E G' => E = "java/lang/IllegalArgumentException" ∧ P ∧ G = G'
abbrev rm_x_stationAt : Room := { frames := 6, cells := 1, slots := 6, locals := 90 }
set_option maxHeartbeats 4000000 in
set_option maxRecDepth 100000 in
theorem x_stationAt (l : Launch) (hst : l.stackTraces = false) (Γ : zY) (G : zG) {b : Nat} (x : Int32) (hC : zC0 Γ G b) : ZX l yX6_stationAt cX6_stationAt 2 (some (FieldType.object "QuakeBench$Station")) rm_x_stationAt Γ [.ref b, .int x] G (fun _ _ => False) (zIOB G) := by
  obtain ⟨ls, lp, le, w, r, q, lo, co, as, ap, ae, alo, hb, hLs, hLp, hLe, hLlo, hw⟩ := hC
  obtain ⟨mcs, hs⟩ := hLs.at
  obtain ⟨mcp, hp⟩ := hLp.at
  obtain ⟨mce, he⟩ := hLe.at
  refine z_startX (by decide +kernel) [some (.ref b), some (.int x)] rfl (Nat.le_of_ble_eq_true rfl) ?_
  intro p e s m args below meth c Q A C F hT hr hnm
  refine z_iload_n C dX6_stationAt_0 rfl ?_
  refine z_if_lt (tgt := 15) C dX6_stationAt_1 (by decide) (fun h1 => ?_) (fun h1 => ?_)
  · exact z_throwW C F hT hst zt_X6_stationAt_15 dX6_stationAt_15 dX6_stationAt_18 dX6_stationAt_19 dX6_stationAt_22 dX6_stationAt_25 (Nat.le_of_ble_eq_true rfl) (Nat.le_of_ble_eq_true rfl) (Nat.le_of_ble_eq_true rfl) (Nat.le_of_ble_eq_true rfl) (Nat.le_of_ble_eq_true rfl) (Nat.le_of_ble_eq_true rfl) ⟨rfl, rfl⟩
  · refine z_iload_n C dX6_stationAt_4 rfl ?_
    first | refine z_rload_n C dX6_stationAt_5 rfl ?_ | refine z_nload_n C dX6_stationAt_5 rfl ?_ | refine z_aload_n C dX6_stationAt_5 rfl ?_
    refine z_getf (T := TX6) (N := 8) C (by first | assumption | exact zU_same _ _ _) rfl 0 (by decide) kw_185 (Or.inl rfl) rfl dX6_stationAt_6 ?_
    refine z_callV (q := (RJx4a65c, TJx4a65c, 3)) C (c_size l Γ G hLs) kc_X6_stationAt_9 (by first | assumption | exact zU_same _ _ _) rfl rfl rfl rfl ky_Jx4a65c_size_8abf5 ⟨(Nat.le_of_ble_eq_true rfl), (Nat.le_of_ble_eq_true rfl)⟩ (Nat.le_of_ble_eq_true rfl) ⟨(Nat.le_of_ble_eq_true rfl), (Nat.le_of_ble_eq_true rfl)⟩ dX6_stationAt_9 (fun v9 G9 hp9 => ?_)
    obtain ⟨rfl, rfl⟩ := hp9
    refine z_icmp_lt (tgt := 26) C dX6_stationAt_12 (by decide) (fun h12 => ?_) (fun h12 => ?_)
    · exact absurd h12 h1
    · exact z_throwW C F hT hst zt_X6_stationAt_15 dX6_stationAt_15 dX6_stationAt_18 dX6_stationAt_19 dX6_stationAt_22 dX6_stationAt_25 (Nat.le_of_ble_eq_true rfl) (Nat.le_of_ble_eq_true rfl) (Nat.le_of_ble_eq_true rfl) (Nat.le_of_ble_eq_true rfl) (Nat.le_of_ble_eq_true rfl) (Nat.le_of_ble_eq_true rfl) ⟨rfl, rfl⟩
abbrev rm_x_pickAt : Room := { frames := 6, cells := 1, slots := 6, locals := 90 }
set_option maxHeartbeats 4000000 in
set_option maxRecDepth 100000 in
theorem x_pickAt (l : Launch) (hst : l.stackTraces = false) (Γ : zY) (G : zG) {b : Nat} (x : Int32) (hC : zC0 Γ G b) : ZX l yX6_pickAt cX6_pickAt 2 (some (FieldType.object "QuakeBench$Pick")) rm_x_pickAt Γ [.ref b, .int x] G (fun _ _ => False) (zIOB G) := by
  obtain ⟨ls, lp, le, w, r, q, lo, co, as, ap, ae, alo, hb, hLs, hLp, hLe, hLlo, hw⟩ := hC
  obtain ⟨mcs, hs⟩ := hLs.at
  obtain ⟨mcp, hp⟩ := hLp.at
  obtain ⟨mce, he⟩ := hLe.at
  refine z_startX (by decide +kernel) [some (.ref b), some (.int x)] rfl (Nat.le_of_ble_eq_true rfl) ?_
  intro p e s m args below meth c Q A C F hT hr hnm
  refine z_iload_n C dX6_pickAt_0 rfl ?_
  refine z_if_lt (tgt := 15) C dX6_pickAt_1 (by decide) (fun h1 => ?_) (fun h1 => ?_)
  · exact z_throwW C F hT hst zt_X6_pickAt_15 dX6_pickAt_15 dX6_pickAt_18 dX6_pickAt_19 dX6_pickAt_22 dX6_pickAt_25 (Nat.le_of_ble_eq_true rfl) (Nat.le_of_ble_eq_true rfl) (Nat.le_of_ble_eq_true rfl) (Nat.le_of_ble_eq_true rfl) (Nat.le_of_ble_eq_true rfl) (Nat.le_of_ble_eq_true rfl) ⟨rfl, rfl⟩
  · refine z_iload_n C dX6_pickAt_4 rfl ?_
    first | refine z_rload_n C dX6_pickAt_5 rfl ?_ | refine z_nload_n C dX6_pickAt_5 rfl ?_ | refine z_aload_n C dX6_pickAt_5 rfl ?_
    refine z_getf (T := TX6) (N := 8) C (by first | assumption | exact zU_same _ _ _) rfl 1 (by decide) kw_186 (Or.inl rfl) rfl dX6_pickAt_6 ?_
    refine z_callV (q := (RJx4a65c, TJx4a65c, 3)) C (c_size l Γ G hLp) kc_X6_pickAt_9 (by first | assumption | exact zU_same _ _ _) rfl rfl rfl rfl ky_Jx4a65c_size_8abf5 ⟨(Nat.le_of_ble_eq_true rfl), (Nat.le_of_ble_eq_true rfl)⟩ (Nat.le_of_ble_eq_true rfl) ⟨(Nat.le_of_ble_eq_true rfl), (Nat.le_of_ble_eq_true rfl)⟩ dX6_pickAt_9 (fun v9 G9 hp9 => ?_)
    obtain ⟨rfl, rfl⟩ := hp9
    refine z_icmp_lt (tgt := 26) C dX6_pickAt_12 (by decide) (fun h12 => ?_) (fun h12 => ?_)
    · exact absurd h12 h1
    · exact z_throwW C F hT hst zt_X6_pickAt_15 dX6_pickAt_15 dX6_pickAt_18 dX6_pickAt_19 dX6_pickAt_22 dX6_pickAt_25 (Nat.le_of_ble_eq_true rfl) (Nat.le_of_ble_eq_true rfl) (Nat.le_of_ble_eq_true rfl) (Nat.le_of_ble_eq_true rfl) (Nat.le_of_ble_eq_true rfl) (Nat.le_of_ble_eq_true rfl) ⟨rfl, rfl⟩
abbrev rm_x_eventAt : Room := { frames := 6, cells := 1, slots := 6, locals := 90 }
set_option maxHeartbeats 4000000 in
set_option maxRecDepth 100000 in
theorem x_eventAt (l : Launch) (hst : l.stackTraces = false) (Γ : zY) (G : zG) {b : Nat} (x : Int32) (hC : zC0 Γ G b) : ZX l yX6_eventAt cX6_eventAt 2 (some (FieldType.object "QuakeBench$Event")) rm_x_eventAt Γ [.ref b, .int x] G (fun _ _ => False) (zIOB G) := by
  obtain ⟨ls, lp, le, w, r, q, lo, co, as, ap, ae, alo, hb, hLs, hLp, hLe, hLlo, hw⟩ := hC
  obtain ⟨mcs, hs⟩ := hLs.at
  obtain ⟨mcp, hp⟩ := hLp.at
  obtain ⟨mce, he⟩ := hLe.at
  refine z_startX (by decide +kernel) [some (.ref b), some (.int x)] rfl (Nat.le_of_ble_eq_true rfl) ?_
  intro p e s m args below meth c Q A C F hT hr hnm
  refine z_iload_n C dX6_eventAt_0 rfl ?_
  refine z_if_lt (tgt := 15) C dX6_eventAt_1 (by decide) (fun h1 => ?_) (fun h1 => ?_)
  · exact z_throwW C F hT hst zt_X6_eventAt_15 dX6_eventAt_15 dX6_eventAt_18 dX6_eventAt_19 dX6_eventAt_22 dX6_eventAt_25 (Nat.le_of_ble_eq_true rfl) (Nat.le_of_ble_eq_true rfl) (Nat.le_of_ble_eq_true rfl) (Nat.le_of_ble_eq_true rfl) (Nat.le_of_ble_eq_true rfl) (Nat.le_of_ble_eq_true rfl) ⟨rfl, rfl⟩
  · refine z_iload_n C dX6_eventAt_4 rfl ?_
    first | refine z_rload_n C dX6_eventAt_5 rfl ?_ | refine z_nload_n C dX6_eventAt_5 rfl ?_ | refine z_aload_n C dX6_eventAt_5 rfl ?_
    refine z_getf (T := TX6) (N := 8) C (by first | assumption | exact zU_same _ _ _) rfl 2 (by decide) kw_187 (Or.inl rfl) rfl dX6_eventAt_6 ?_
    refine z_callV (q := (RJx4a65c, TJx4a65c, 3)) C (c_size l Γ G hLe) kc_X6_eventAt_9 (by first | assumption | exact zU_same _ _ _) rfl rfl rfl rfl ky_Jx4a65c_size_8abf5 ⟨(Nat.le_of_ble_eq_true rfl), (Nat.le_of_ble_eq_true rfl)⟩ (Nat.le_of_ble_eq_true rfl) ⟨(Nat.le_of_ble_eq_true rfl), (Nat.le_of_ble_eq_true rfl)⟩ dX6_eventAt_9 (fun v9 G9 hp9 => ?_)
    obtain ⟨rfl, rfl⟩ := hp9
    refine z_icmp_lt (tgt := 26) C dX6_eventAt_12 (by decide) (fun h12 => ?_) (fun h12 => ?_)
    · exact absurd h12 h1
    · exact z_throwW C F hT hst zt_X6_eventAt_15 dX6_eventAt_15 dX6_eventAt_18 dX6_eventAt_19 dX6_eventAt_22 dX6_eventAt_25 (Nat.le_of_ble_eq_true rfl) (Nat.le_of_ble_eq_true rfl) (Nat.le_of_ble_eq_true rfl) (Nat.le_of_ble_eq_true rfl) (Nat.le_of_ble_eq_true rfl) (Nat.le_of_ble_eq_true rfl) ⟨rfl, rfl⟩
abbrev rm_x_setDelay : Room := { frames := 7, cells := 1, slots := 6, locals := 111 }
set_option maxHeartbeats 4000000 in
set_option maxRecDepth 100000 in
theorem x_setDelay (l : Launch) (hst : l.stackTraces = false) (Γ : zY) (G : zG) {b : Nat} (x0 : Int32) (x1 : Int32) (hC : zC0 Γ G b) : ZX l yX6_setDelay cX6_setDelay 7 (some FieldType.int) rm_x_setDelay Γ [.ref b, .int x0, .int x1] G (fun _ _ => False) (zIOB G) := by
  obtain ⟨ls, lp, le, w, r, q, lo, co, as, ap, ae, alo, hb, hR⟩ := id hC
  refine z_startX (by decide +kernel) [some (.ref b), some (.int x0), some (.int x1), none, none, none, none] rfl (Nat.le_of_ble_eq_true rfl) ?_
  intro p e s m args below meth c Q A C F hT hr hnm
  first | refine z_rload_n C dX6_setDelay_0 rfl ?_ | refine z_nload_n C dX6_setDelay_0 rfl ?_ | refine z_aload_n C dX6_setDelay_0 rfl ?_
  refine z_iload_n C dX6_setDelay_1 rfl ?_
  refine z_callVX (q := (RX6, TX6, 8)) C (x_stationAt l hst Γ G x0 hC) kc_X6_setDelay_2 (by first | assumption | exact zU_same _ _ _) rfl rfl rfl rfl ky_X6_stationAt ⟨(Nat.le_of_ble_eq_true rfl), (Nat.le_of_ble_eq_true rfl)⟩ (Nat.le_of_ble_eq_true rfl) ⟨(Nat.le_of_ble_eq_true rfl), (Nat.le_of_ble_eq_true rfl)⟩ dX6_setDelay_2 (fun E2 G2 hx2 => z_out C F hT (Nat.le_of_ble_eq_true rfl) (Nat.le_of_ble_eq_true rfl) hx2) (fun _ _ hp => hp.elim)
abbrev rm_x_way : Room := { frames := 7, cells := 1, slots := 6, locals := 111 }
set_option maxHeartbeats 4000000 in
set_option maxRecDepth 100000 in
theorem x_way (l : Launch) (hst : l.stackTraces = false) (Γ : zY) (G : zG) {b : Nat} (x0 : Int32) (x1 : Int32) (x2 : Int32) (x3 : Int32) (hC : zC0 Γ G b) : ZX l yX6_way cX6_way 6 (some FieldType.int) rm_x_way Γ [.ref b, .int x0, .int x1, .int x2, .int x3] G (fun _ _ => False) (zIOB G) := by
  obtain ⟨ls, lp, le, w, r, q, lo, co, as, ap, ae, alo, hb, hR⟩ := id hC
  refine z_startX (by decide +kernel) [some (.ref b), some (.int x0), some (.int x1), some (.int x2), some (.int x3), none] rfl (Nat.le_of_ble_eq_true rfl) ?_
  intro p e s m args below meth c Q A C F hT hr hnm
  first | refine z_rload_n C dX6_way_0 rfl ?_ | refine z_nload_n C dX6_way_0 rfl ?_ | refine z_aload_n C dX6_way_0 rfl ?_
  refine z_iload_n C dX6_way_1 rfl ?_
  refine z_callVX (q := (RX6, TX6, 8)) C (x_stationAt l hst Γ G x0 hC) kc_X6_way_2 (by first | assumption | exact zU_same _ _ _) rfl rfl rfl rfl ky_X6_stationAt ⟨(Nat.le_of_ble_eq_true rfl), (Nat.le_of_ble_eq_true rfl)⟩ (Nat.le_of_ble_eq_true rfl) ⟨(Nat.le_of_ble_eq_true rfl), (Nat.le_of_ble_eq_true rfl)⟩ dX6_way_2 (fun E2 G2 hx2 => z_out C F hT (Nat.le_of_ble_eq_true rfl) (Nat.le_of_ble_eq_true rfl) hx2) (fun _ _ hp => hp.elim)
abbrev rm_x_needs : Room := { frames := 7, cells := 1, slots := 6, locals := 111 }
set_option maxHeartbeats 4000000 in
set_option maxRecDepth 100000 in
theorem x_needs (l : Launch) (hst : l.stackTraces = false) (Γ : zY) (G : zG) {b : Nat} (x0 : Int32) (x1 : Int32) (x2 : Int32) (x3 : Int32) (x4 : Int32) (hC : zC0 Γ G b) : ZX l yX6_needs cX6_needs 7 (some FieldType.int) rm_x_needs Γ [.ref b, .int x0, .int x1, .int x2, .int x3, .int x4] G (fun _ _ => False) (zIOB G) := by
  obtain ⟨ls, lp, le, w, r, q, lo, co, as, ap, ae, alo, hb, hR⟩ := id hC
  refine z_startX (by decide +kernel) [some (.ref b), some (.int x0), some (.int x1), some (.int x2), some (.int x3), some (.int x4), none] rfl (Nat.le_of_ble_eq_true rfl) ?_
  intro p e s m args below meth c Q A C F hT hr hnm
  first | refine z_rload_n C dX6_needs_0 rfl ?_ | refine z_nload_n C dX6_needs_0 rfl ?_ | refine z_aload_n C dX6_needs_0 rfl ?_
  refine z_iload_n C dX6_needs_1 rfl ?_
  refine z_callVX (q := (RX6, TX6, 8)) C (x_stationAt l hst Γ G x0 hC) kc_X6_needs_2 (by first | assumption | exact zU_same _ _ _) rfl rfl rfl rfl ky_X6_stationAt ⟨(Nat.le_of_ble_eq_true rfl), (Nat.le_of_ble_eq_true rfl)⟩ (Nat.le_of_ble_eq_true rfl) ⟨(Nat.le_of_ble_eq_true rfl), (Nat.le_of_ble_eq_true rfl)⟩ dX6_needs_2 (fun E2 G2 hx2 => z_out C F hT (Nat.le_of_ble_eq_true rfl) (Nat.le_of_ble_eq_true rfl) hx2) (fun _ _ hp => hp.elim)
abbrev rm_x_addPick : Room := { frames := 7, cells := 1, slots := 6, locals := 111 }
set_option maxHeartbeats 4000000 in
set_option maxRecDepth 100000 in
theorem x_addPick (l : Launch) (hst : l.stackTraces = false) (Γ : zY) (G : zG) {b : Nat} (x0 : Int32) (x1 : Int32) (x2 : Int32) (hC : zC0 Γ G b) : ZX l yX6_addPick cX6_addPick 6 (some FieldType.int) rm_x_addPick Γ [.ref b, .int x0, .int x1, .int x2] G (fun _ _ => False) (zIOB G) := by
  obtain ⟨ls, lp, le, w, r, q, lo, co, as, ap, ae, alo, hb, hR⟩ := id hC
  refine z_startX (by decide +kernel) [some (.ref b), some (.int x0), some (.int x1), some (.int x2), none, none] rfl (Nat.le_of_ble_eq_true rfl) ?_
  intro p e s m args below meth c Q A C F hT hr hnm
  first | refine z_rload_n C dX6_addPick_0 rfl ?_ | refine z_nload_n C dX6_addPick_0 rfl ?_ | refine z_aload_n C dX6_addPick_0 rfl ?_
  refine z_iload_n C dX6_addPick_1 rfl ?_
  refine z_callVX (q := (RX6, TX6, 8)) C (x_stationAt l hst Γ G x0 hC) kc_X6_addPick_2 (by first | assumption | exact zU_same _ _ _) rfl rfl rfl rfl ky_X6_stationAt ⟨(Nat.le_of_ble_eq_true rfl), (Nat.le_of_ble_eq_true rfl)⟩ (Nat.le_of_ble_eq_true rfl) ⟨(Nat.le_of_ble_eq_true rfl), (Nat.le_of_ble_eq_true rfl)⟩ dX6_addPick_2 (fun E2 G2 hx2 => z_out C F hT (Nat.le_of_ble_eq_true rfl) (Nat.le_of_ble_eq_true rfl) hx2) (fun _ _ hp => hp.elim)
abbrev rm_x_setWeight : Room := { frames := 7, cells := 1, slots := 6, locals := 111 }
set_option maxHeartbeats 4000000 in
set_option maxRecDepth 100000 in
theorem x_setWeight (l : Launch) (hst : l.stackTraces = false) (Γ : zY) (G : zG) {b : Nat} (x0 : Int32) (x1 : Int32) (hC : zC0 Γ G b) : ZX l yX6_setWeight cX6_setWeight 5 (some FieldType.int) rm_x_setWeight Γ [.ref b, .int x0, .int x1] G (fun _ _ => False) (zIOB G) := by
  obtain ⟨ls, lp, le, w, r, q, lo, co, as, ap, ae, alo, hb, hR⟩ := id hC
  refine z_startX (by decide +kernel) [some (.ref b), some (.int x0), some (.int x1), none, none] rfl (Nat.le_of_ble_eq_true rfl) ?_
  intro p e s m args below meth c Q A C F hT hr hnm
  first | refine z_rload_n C dX6_setWeight_0 rfl ?_ | refine z_nload_n C dX6_setWeight_0 rfl ?_ | refine z_aload_n C dX6_setWeight_0 rfl ?_
  refine z_iload_n C dX6_setWeight_1 rfl ?_
  refine z_callVX (q := (RX6, TX6, 8)) C (x_pickAt l hst Γ G x0 hC) kc_X6_setWeight_2 (by first | assumption | exact zU_same _ _ _) rfl rfl rfl rfl ky_X6_pickAt ⟨(Nat.le_of_ble_eq_true rfl), (Nat.le_of_ble_eq_true rfl)⟩ (Nat.le_of_ble_eq_true rfl) ⟨(Nat.le_of_ble_eq_true rfl), (Nat.le_of_ble_eq_true rfl)⟩ dX6_setWeight_2 (fun E2 G2 hx2 => z_out C F hT (Nat.le_of_ble_eq_true rfl) (Nat.le_of_ble_eq_true rfl) hx2) (fun _ _ hp => hp.elim)
abbrev rm_x_pick : Room := { frames := 7, cells := 1, slots := 6, locals := 111 }
set_option maxHeartbeats 4000000 in
set_option maxRecDepth 100000 in
theorem x_pick (l : Launch) (hst : l.stackTraces = false) (Γ : zY) (G : zG) {b : Nat} (x0 : Int32) (x1 : Int32) (hC : zC0 Γ G b) : ZX l yX6_pick cX6_pick 4 (some FieldType.int) rm_x_pick Γ [.ref b, .int x0, .int x1] G (fun _ _ => False) (zIOB G) := by
  obtain ⟨ls, lp, le, w, r, q, lo, co, as, ap, ae, alo, hb, hR⟩ := id hC
  refine z_startX (by decide +kernel) [some (.ref b), some (.int x0), some (.int x1), none] rfl (Nat.le_of_ble_eq_true rfl) ?_
  intro p e s m args below meth c Q A C F hT hr hnm
  first | refine z_rload_n C dX6_pick_0 rfl ?_ | refine z_nload_n C dX6_pick_0 rfl ?_ | refine z_aload_n C dX6_pick_0 rfl ?_
  refine z_iload_n C dX6_pick_1 rfl ?_
  refine z_callVX (q := (RX6, TX6, 8)) C (x_pickAt l hst Γ G x0 hC) kc_X6_pick_2 (by first | assumption | exact zU_same _ _ _) rfl rfl rfl rfl ky_X6_pickAt ⟨(Nat.le_of_ble_eq_true rfl), (Nat.le_of_ble_eq_true rfl)⟩ (Nat.le_of_ble_eq_true rfl) ⟨(Nat.le_of_ble_eq_true rfl), (Nat.le_of_ble_eq_true rfl)⟩ dX6_pick_2 (fun E2 G2 hx2 => z_out C F hT (Nat.le_of_ble_eq_true rfl) (Nat.le_of_ble_eq_true rfl) hx2) (fun _ _ hp => hp.elim)
abbrev rm_x_give : Room := { frames := 7, cells := 1, slots := 6, locals := 111 }
set_option maxHeartbeats 4000000 in
set_option maxRecDepth 100000 in
theorem x_give (l : Launch) (hst : l.stackTraces = false) (Γ : zY) (G : zG) {b : Nat} (x0 : Int32) (x1 : Int32) (hC : zC0 Γ G b) : ZX l yX6_give cX6_give 6 (some FieldType.int) rm_x_give Γ [.ref b, .int x0, .int x1] G (fun _ _ => False) (zIOB G) := by
  obtain ⟨ls, lp, le, w, r, q, lo, co, as, ap, ae, alo, hb, hR⟩ := id hC
  refine z_startX (by decide +kernel) [some (.ref b), some (.int x0), some (.int x1), none, none, none] rfl (Nat.le_of_ble_eq_true rfl) ?_
  intro p e s m args below meth c Q A C F hT hr hnm
  first | refine z_rload_n C dX6_give_0 rfl ?_ | refine z_nload_n C dX6_give_0 rfl ?_ | refine z_aload_n C dX6_give_0 rfl ?_
  refine z_iload_n C dX6_give_1 rfl ?_
  refine z_callVX (q := (RX6, TX6, 8)) C (x_pickAt l hst Γ G x0 hC) kc_X6_give_2 (by first | assumption | exact zU_same _ _ _) rfl rfl rfl rfl ky_X6_pickAt ⟨(Nat.le_of_ble_eq_true rfl), (Nat.le_of_ble_eq_true rfl)⟩ (Nat.le_of_ble_eq_true rfl) ⟨(Nat.le_of_ble_eq_true rfl), (Nat.le_of_ble_eq_true rfl)⟩ dX6_give_2 (fun E2 G2 hx2 => z_out C F hT (Nat.le_of_ble_eq_true rfl) (Nat.le_of_ble_eq_true rfl) hx2) (fun _ _ hp => hp.elim)
abbrev rm_x_seek : Room := { frames := 7, cells := 1, slots := 6, locals := 111 }
set_option maxHeartbeats 4000000 in
set_option maxRecDepth 100000 in
theorem x_seek (l : Launch) (hst : l.stackTraces = false) (Γ : zY) (G : zG) {b : Nat} (x0 : Int32) (hC : zC0 Γ G b) : ZX l yX6_seek cX6_seek 3 (some FieldType.long) rm_x_seek Γ [.ref b, .int x0] G (fun _ _ => False) (zIOB G) := by
  obtain ⟨ls, lp, le, w, r, q, lo, co, as, ap, ae, alo, hb, hR⟩ := id hC
  refine z_startX (by decide +kernel) [some (.ref b), some (.int x0), none] rfl (Nat.le_of_ble_eq_true rfl) ?_
  intro p e s m args below meth c Q A C F hT hr hnm
  first | refine z_rload_n C dX6_seek_0 rfl ?_ | refine z_nload_n C dX6_seek_0 rfl ?_ | refine z_aload_n C dX6_seek_0 rfl ?_
  refine z_iload_n C dX6_seek_1 rfl ?_
  refine z_callVX (q := (RX6, TX6, 8)) C (x_eventAt l hst Γ G x0 hC) kc_X6_seek_2 (by first | assumption | exact zU_same _ _ _) rfl rfl rfl rfl ky_X6_eventAt ⟨(Nat.le_of_ble_eq_true rfl), (Nat.le_of_ble_eq_true rfl)⟩ (Nat.le_of_ble_eq_true rfl) ⟨(Nat.le_of_ble_eq_true rfl), (Nat.le_of_ble_eq_true rfl)⟩ dX6_seek_2 (fun E2 G2 hx2 => z_out C F hT (Nat.le_of_ble_eq_true rfl) (Nat.le_of_ble_eq_true rfl) hx2) (fun _ _ hp => hp.elim)
abbrev rm_x_event : Room := { frames := 7, cells := 1, slots := 6, locals := 111 }
set_option maxHeartbeats 4000000 in
set_option maxRecDepth 100000 in
theorem x_event (l : Launch) (hst : l.stackTraces = false) (Γ : zY) (G : zG) {b : Nat} (x0 : Int32) (x1 : Int32) (hC : zC0 Γ G b) : ZX l yX6_event cX6_event 4 (some FieldType.int) rm_x_event Γ [.ref b, .int x0, .int x1] G (fun _ _ => False) (zIOB G) := by
  obtain ⟨ls, lp, le, w, r, q, lo, co, as, ap, ae, alo, hb, hR⟩ := id hC
  refine z_startX (by decide +kernel) [some (.ref b), some (.int x0), some (.int x1), none] rfl (Nat.le_of_ble_eq_true rfl) ?_
  intro p e s m args below meth c Q A C F hT hr hnm
  first | refine z_rload_n C dX6_event_0 rfl ?_ | refine z_nload_n C dX6_event_0 rfl ?_ | refine z_aload_n C dX6_event_0 rfl ?_
  refine z_iload_n C dX6_event_1 rfl ?_
  refine z_callVX (q := (RX6, TX6, 8)) C (x_eventAt l hst Γ G x0 hC) kc_X6_event_2 (by first | assumption | exact zU_same _ _ _) rfl rfl rfl rfl ky_X6_eventAt ⟨(Nat.le_of_ble_eq_true rfl), (Nat.le_of_ble_eq_true rfl)⟩ (Nat.le_of_ble_eq_true rfl) ⟨(Nat.le_of_ble_eq_true rfl), (Nat.le_of_ble_eq_true rfl)⟩ dX6_event_2 (fun E2 G2 hx2 => z_out C F hT (Nat.le_of_ble_eq_true rfl) (Nat.le_of_ble_eq_true rfl) hx2) (fun _ _ hp => hp.elim)
abbrev rm_x_misfit : Room := { frames := 7, cells := 1, slots := 6, locals := 111 }
set_option maxHeartbeats 4000000 in
set_option maxRecDepth 100000 in
theorem x_misfit (l : Launch) (hst : l.stackTraces = false) (Γ : zY) (G : zG) {b : Nat} (x0 : Int32) (x1 : Int32) (x2 : Int32) (x3 : Int32) (hC : zC0 Γ G b) : ZX l yX6_misfit cX6_misfit 6 (some FieldType.long) rm_x_misfit Γ [.ref b, .int x0, .int x1, .int x2, .int x3] G (fun _ _ => False) (zIOB G) := by
  obtain ⟨ls, lp, le, w, r, q, lo, co, as, ap, ae, alo, hb, hR⟩ := id hC
  refine z_startX (by decide +kernel) [some (.ref b), some (.int x0), some (.int x1), some (.int x2), some (.int x3), none] rfl (Nat.le_of_ble_eq_true rfl) ?_
  intro p e s m args below meth c Q A C F hT hr hnm
  first | refine z_rload_n C dX6_misfit_0 rfl ?_ | refine z_nload_n C dX6_misfit_0 rfl ?_ | refine z_aload_n C dX6_misfit_0 rfl ?_
  refine z_iload_n C dX6_misfit_1 rfl ?_
  refine z_callVX (q := (RX6, TX6, 8)) C (x_eventAt l hst Γ G x0 hC) kc_X6_misfit_2 (by first | assumption | exact zU_same _ _ _) rfl rfl rfl rfl ky_X6_eventAt ⟨(Nat.le_of_ble_eq_true rfl), (Nat.le_of_ble_eq_true rfl)⟩ (Nat.le_of_ble_eq_true rfl) ⟨(Nat.le_of_ble_eq_true rfl), (Nat.le_of_ble_eq_true rfl)⟩ dX6_misfit_2 (fun E2 G2 hx2 => z_out C F hT (Nat.le_of_ble_eq_true rfl) (Nat.le_of_ble_eq_true rfl) hx2) (fun _ _ hp => hp.elim)
abbrev rm_x_residual : Room := { frames := 7, cells := 1, slots := 6, locals := 111 }
set_option maxHeartbeats 4000000 in
set_option maxRecDepth 100000 in
theorem x_residual (l : Launch) (hst : l.stackTraces = false) (Γ : zY) (G : zG) {b : Nat} (x0 : Int32) (hC : zC0 Γ G b) : ZX l yX6_residual cX6_residual 4 (some FieldType.int) rm_x_residual Γ [.ref b, .int x0] G (fun _ _ => False) (zIOB G) := by
  obtain ⟨ls, lp, le, w, r, q, lo, co, as, ap, ae, alo, hb, hR⟩ := id hC
  refine z_startX (by decide +kernel) [some (.ref b), some (.int x0), none, none] rfl (Nat.le_of_ble_eq_true rfl) ?_
  intro p e s m args below meth c Q A C F hT hr hnm
  first | refine z_rload_n C dX6_residual_0 rfl ?_ | refine z_nload_n C dX6_residual_0 rfl ?_ | refine z_aload_n C dX6_residual_0 rfl ?_
  refine z_iload_n C dX6_residual_1 rfl ?_
  refine z_callVX (q := (RX6, TX6, 8)) C (x_pickAt l hst Γ G x0 hC) kc_X6_residual_2 (by first | assumption | exact zU_same _ _ _) rfl rfl rfl rfl ky_X6_pickAt ⟨(Nat.le_of_ble_eq_true rfl), (Nat.le_of_ble_eq_true rfl)⟩ (Nat.le_of_ble_eq_true rfl) ⟨(Nat.le_of_ble_eq_true rfl), (Nat.le_of_ble_eq_true rfl)⟩ dX6_residual_2 (fun E2 G2 hx2 => z_out C F hT (Nat.le_of_ble_eq_true rfl) (Nat.le_of_ble_eq_true rfl) hx2) (fun _ _ hp => hp.elim)
abbrev rm_x_worst : Room := { frames := 7, cells := 1, slots := 6, locals := 111 }
set_option maxHeartbeats 4000000 in
set_option maxRecDepth 100000 in
theorem x_worst (l : Launch) (hst : l.stackTraces = false) (Γ : zY) (G : zG) {b : Nat} (x0 : Int32) (hC : zC0 Γ G b) : ZX l yX6_worst cX6_worst 8 (some FieldType.int) rm_x_worst Γ [.ref b, .int x0] G (fun _ _ => False) (zIOB G) := by
  obtain ⟨ls, lp, le, w, r, q, lo, co, as, ap, ae, alo, hb, hR⟩ := id hC
  refine z_startX (by decide +kernel) [some (.ref b), some (.int x0), none, none, none, none, none, none] rfl (Nat.le_of_ble_eq_true rfl) ?_
  intro p e s m args below meth c Q A C F hT hr hnm
  first | refine z_rload_n C dX6_worst_0 rfl ?_ | refine z_nload_n C dX6_worst_0 rfl ?_ | refine z_aload_n C dX6_worst_0 rfl ?_
  refine z_iload_n C dX6_worst_1 rfl ?_
  refine z_callVX (q := (RX6, TX6, 8)) C (x_eventAt l hst Γ G x0 hC) kc_X6_worst_2 (by first | assumption | exact zU_same _ _ _) rfl rfl rfl rfl ky_X6_eventAt ⟨(Nat.le_of_ble_eq_true rfl), (Nat.le_of_ble_eq_true rfl)⟩ (Nat.le_of_ble_eq_true rfl) ⟨(Nat.le_of_ble_eq_true rfl), (Nat.le_of_ble_eq_true rfl)⟩ dX6_worst_2 (fun E2 G2 hx2 => z_out C F hT (Nat.le_of_ble_eq_true rfl) (Nat.le_of_ble_eq_true rfl) hx2) (fun _ _ hp => hp.elim)
abbrev rm_x_spread : Room := { frames := 7, cells := 1, slots := 6, locals := 111 }
set_option maxHeartbeats 4000000 in
set_option maxRecDepth 100000 in
theorem x_spread (l : Launch) (hst : l.stackTraces = false) (Γ : zY) (G : zG) {b : Nat} (x0 : Int32) (hC : zC0 Γ G b) : ZX l yX6_spread cX6_spread 3 (some FieldType.double) rm_x_spread Γ [.ref b, .int x0] G (fun _ _ => False) (zIOB G) := by
  obtain ⟨ls, lp, le, w, r, q, lo, co, as, ap, ae, alo, hb, hR⟩ := id hC
  refine z_startX (by decide +kernel) [some (.ref b), some (.int x0), none] rfl (Nat.le_of_ble_eq_true rfl) ?_
  intro p e s m args below meth c Q A C F hT hr hnm
  first | refine z_rload_n C dX6_spread_0 rfl ?_ | refine z_nload_n C dX6_spread_0 rfl ?_ | refine z_aload_n C dX6_spread_0 rfl ?_
  refine z_iload_n C dX6_spread_1 rfl ?_
  refine z_callVX (q := (RX6, TX6, 8)) C (x_eventAt l hst Γ G x0 hC) kc_X6_spread_2 (by first | assumption | exact zU_same _ _ _) rfl rfl rfl rfl ky_X6_eventAt ⟨(Nat.le_of_ble_eq_true rfl), (Nat.le_of_ble_eq_true rfl)⟩ (Nat.le_of_ble_eq_true rfl) ⟨(Nat.le_of_ble_eq_true rfl), (Nat.le_of_ble_eq_true rfl)⟩ dX6_spread_2 (fun E2 G2 hx2 => z_out C F hT (Nat.le_of_ble_eq_true rfl) (Nat.le_of_ble_eq_true rfl) hx2) (fun _ _ hp => hp.elim)
abbrev rm_x_gap : Room := { frames := 7, cells := 1, slots := 6, locals := 111 }
set_option maxHeartbeats 4000000 in
set_option maxRecDepth 100000 in
theorem x_gap (l : Launch) (hst : l.stackTraces = false) (Γ : zY) (G : zG) {b : Nat} (x0 : Int32) (hC : zC0 Γ G b) : ZX l yX6_gap cX6_gap 3 (some FieldType.int) rm_x_gap Γ [.ref b, .int x0] G (fun _ _ => False) (zIOB G) := by
  obtain ⟨ls, lp, le, w, r, q, lo, co, as, ap, ae, alo, hb, hR⟩ := id hC
  refine z_startX (by decide +kernel) [some (.ref b), some (.int x0), none] rfl (Nat.le_of_ble_eq_true rfl) ?_
  intro p e s m args below meth c Q A C F hT hr hnm
  first | refine z_rload_n C dX6_gap_0 rfl ?_ | refine z_nload_n C dX6_gap_0 rfl ?_ | refine z_aload_n C dX6_gap_0 rfl ?_
  refine z_iload_n C dX6_gap_1 rfl ?_
  refine z_callVX (q := (RX6, TX6, 8)) C (x_eventAt l hst Γ G x0 hC) kc_X6_gap_2 (by first | assumption | exact zU_same _ _ _) rfl rfl rfl rfl ky_X6_eventAt ⟨(Nat.le_of_ble_eq_true rfl), (Nat.le_of_ble_eq_true rfl)⟩ (Nat.le_of_ble_eq_true rfl) ⟨(Nat.le_of_ble_eq_true rfl), (Nat.le_of_ble_eq_true rfl)⟩ dX6_gap_2 (fun E2 G2 hx2 => z_out C F hT (Nat.le_of_ble_eq_true rfl) (Nat.le_of_ble_eq_true rfl) hx2) (fun _ _ hp => hp.elim)
abbrev rm_x_setAmplitude : Room := { frames := 7, cells := 1, slots := 6, locals := 111 }
set_option maxHeartbeats 4000000 in
set_option maxRecDepth 100000 in
theorem x_setAmplitude (l : Launch) (hst : l.stackTraces = false) (Γ : zY) (G : zG) {b : Nat} (x0 : Int32) (x1 : Int32) (hC : zC0 Γ G b) : ZX l yX6_setAmplitude cX6_setAmplitude 5 (some FieldType.int) rm_x_setAmplitude Γ [.ref b, .int x0, .int x1] G (fun _ _ => False) (zIOB G) := by
  obtain ⟨ls, lp, le, w, r, q, lo, co, as, ap, ae, alo, hb, hR⟩ := id hC
  refine z_startX (by decide +kernel) [some (.ref b), some (.int x0), some (.int x1), none, none] rfl (Nat.le_of_ble_eq_true rfl) ?_
  intro p e s m args below meth c Q A C F hT hr hnm
  first | refine z_rload_n C dX6_setAmplitude_0 rfl ?_ | refine z_nload_n C dX6_setAmplitude_0 rfl ?_ | refine z_aload_n C dX6_setAmplitude_0 rfl ?_
  refine z_iload_n C dX6_setAmplitude_1 rfl ?_
  refine z_callVX (q := (RX6, TX6, 8)) C (x_pickAt l hst Γ G x0 hC) kc_X6_setAmplitude_2 (by first | assumption | exact zU_same _ _ _) rfl rfl rfl rfl ky_X6_pickAt ⟨(Nat.le_of_ble_eq_true rfl), (Nat.le_of_ble_eq_true rfl)⟩ (Nat.le_of_ble_eq_true rfl) ⟨(Nat.le_of_ble_eq_true rfl), (Nat.le_of_ble_eq_true rfl)⟩ dX6_setAmplitude_2 (fun E2 G2 hx2 => z_out C F hT (Nat.le_of_ble_eq_true rfl) (Nat.le_of_ble_eq_true rfl) hx2) (fun _ _ hp => hp.elim)
abbrev rm_x_magnitude : Room := { frames := 7, cells := 1, slots := 6, locals := 111 }
set_option maxHeartbeats 4000000 in
set_option maxRecDepth 100000 in
theorem x_magnitude (l : Launch) (hst : l.stackTraces = false) (Γ : zY) (G : zG) {b : Nat} (x0 : Int32) (hC : zC0 Γ G b) : ZX l yX6_magnitude cX6_magnitude 3 (some FieldType.int) rm_x_magnitude Γ [.ref b, .int x0] G (fun _ _ => False) (zIOB G) := by
  obtain ⟨ls, lp, le, w, r, q, lo, co, as, ap, ae, alo, hb, hR⟩ := id hC
  refine z_startX (by decide +kernel) [some (.ref b), some (.int x0), none] rfl (Nat.le_of_ble_eq_true rfl) ?_
  intro p e s m args below meth c Q A C F hT hr hnm
  first | refine z_rload_n C dX6_magnitude_0 rfl ?_ | refine z_nload_n C dX6_magnitude_0 rfl ?_ | refine z_aload_n C dX6_magnitude_0 rfl ?_
  refine z_iload_n C dX6_magnitude_1 rfl ?_
  refine z_callVX (q := (RX6, TX6, 8)) C (x_eventAt l hst Γ G x0 hC) kc_X6_magnitude_2 (by first | assumption | exact zU_same _ _ _) rfl rfl rfl rfl ky_X6_eventAt ⟨(Nat.le_of_ble_eq_true rfl), (Nat.le_of_ble_eq_true rfl)⟩ (Nat.le_of_ble_eq_true rfl) ⟨(Nat.le_of_ble_eq_true rfl), (Nat.le_of_ble_eq_true rfl)⟩ dX6_magnitude_2 (fun E2 G2 hx2 => z_out C F hT (Nat.le_of_ble_eq_true rfl) (Nat.le_of_ble_eq_true rfl) hx2) (fun _ _ hp => hp.elim)
abbrev rm_x_family : Room := { frames := 7, cells := 1, slots := 6, locals := 111 }
set_option maxHeartbeats 4000000 in
set_option maxRecDepth 100000 in
theorem x_family (l : Launch) (hst : l.stackTraces = false) (Γ : zY) (G : zG) {b : Nat} (x0 : Int32) (x1 : Int32) (x2 : Int32) (hC : zC0 Γ G b) : ZX l yX6_family cX6_family 8 (some FieldType.int) rm_x_family Γ [.ref b, .int x0, .int x1, .int x2] G (fun _ _ => False) (zIOB G) := by
  obtain ⟨ls, lp, le, w, r, q, lo, co, as, ap, ae, alo, hb, hR⟩ := id hC
  refine z_startX (by decide +kernel) [some (.ref b), some (.int x0), some (.int x1), some (.int x2), none, none, none, none] rfl (Nat.le_of_ble_eq_true rfl) ?_
  intro p e s m args below meth c Q A C F hT hr hnm
  first | refine z_rload_n C dX6_family_0 rfl ?_ | refine z_nload_n C dX6_family_0 rfl ?_ | refine z_aload_n C dX6_family_0 rfl ?_
  refine z_iload_n C dX6_family_1 rfl ?_
  refine z_callVX (q := (RX6, TX6, 8)) C (x_eventAt l hst Γ G x0 hC) kc_X6_family_2 (by first | assumption | exact zU_same _ _ _) rfl rfl rfl rfl ky_X6_eventAt ⟨(Nat.le_of_ble_eq_true rfl), (Nat.le_of_ble_eq_true rfl)⟩ (Nat.le_of_ble_eq_true rfl) ⟨(Nat.le_of_ble_eq_true rfl), (Nat.le_of_ble_eq_true rfl)⟩ dX6_family_2 (fun E2 G2 hx2 => z_out C F hT (Nat.le_of_ble_eq_true rfl) (Nat.le_of_ble_eq_true rfl) hx2) (fun _ _ hp => hp.elim)
end
