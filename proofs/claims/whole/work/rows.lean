section
-- ===== PART A: goes FIRST, ahead of the names: the tables' words, and 'selects' of the private methods out of them =====
/-- a private method of a class that the tables say can be made, by its rows of tables_1 -/
def lw_okq (q : MethodName × Nat) : Prop := (q.1.cls ≠ "java/lang/invoke/MethodHandle" ∧ q.1.cls ≠ "java/lang/invoke/VarHandle") ∧ Cond.instantiable q.1.cls q.2 ∈ tables_1 ∧ Cond.privateMethod q.1 ∈ tables_1 ∧ Cond.instanceMethod q.1 ∈ tables_1
theorem lw_p0 : lw_okq (⟨"QuakeBench", "orderLoosePicks", "()V"⟩, 8) := ⟨⟨by decide +kernel, by decide +kernel⟩, List.mem_of_getElem? (i := 32) (by decide +kernel), List.mem_of_getElem? (i := 162) (by decide +kernel), List.mem_of_getElem? (i := 163) (by decide +kernel)⟩
theorem lw_p1 : lw_okq (⟨"java/util/ArrayList", "rangeCheckForAdd", "(I)V"⟩, 3) := ⟨⟨by decide +kernel, by decide +kernel⟩, List.mem_of_getElem? (i := 40) (by decide +kernel), List.mem_of_getElem? (i := 193) (by decide +kernel), List.mem_of_getElem? (i := 194) (by decide +kernel)⟩
theorem lw_p2 : lw_okq (⟨"java/lang/Throwable", "fillInStackTrace", "(I)Ljava/lang/Throwable;"⟩, 6) := ⟨⟨by decide +kernel, by decide +kernel⟩, List.mem_of_getElem? (i := 235) (by decide +kernel), List.mem_of_getElem? (i := 233) (by decide +kernel), List.mem_of_getElem? (i := 234) (by decide +kernel)⟩
theorem lw_p3 : lw_okq (⟨"java/util/ArrayList", "outOfBoundsMsg", "(I)Ljava/lang/String;"⟩, 3) := ⟨⟨by decide +kernel, by decide +kernel⟩, List.mem_of_getElem? (i := 40) (by decide +kernel), List.mem_of_getElem? (i := 238) (by decide +kernel), List.mem_of_getElem? (i := 239) (by decide +kernel)⟩
theorem lw_p4 : lw_okq (⟨"java/util/ArrayList", "grow", "()[Ljava/lang/Object;"⟩, 3) := ⟨⟨by decide +kernel, by decide +kernel⟩, List.mem_of_getElem? (i := 40) (by decide +kernel), List.mem_of_getElem? (i := 527) (by decide +kernel), List.mem_of_getElem? (i := 528) (by decide +kernel)⟩
theorem lw_p5 : lw_okq (⟨"java/util/ArrayList", "grow", "(I)[Ljava/lang/Object;"⟩, 3) := ⟨⟨by decide +kernel, by decide +kernel⟩, List.mem_of_getElem? (i := 40) (by decide +kernel), List.mem_of_getElem? (i := 531) (by decide +kernel), List.mem_of_getElem? (i := 532) (by decide +kernel)⟩
theorem lw_p6 : lw_okq (⟨"QuakeBench", "hostFor", "(LQuakeBench$Pick;)LQuakeBench$Event;"⟩, 8) := ⟨⟨by decide +kernel, by decide +kernel⟩, List.mem_of_getElem? (i := 32) (by decide +kernel), List.mem_of_getElem? (i := 566) (by decide +kernel), List.mem_of_getElem? (i := 567) (by decide +kernel)⟩
theorem lw_p7 : lw_okq (⟨"java/util/ArrayList", "add", "(Ljava/lang/Object;[Ljava/lang/Object;I)V"⟩, 3) := ⟨⟨by decide +kernel, by decide +kernel⟩, List.mem_of_getElem? (i := 40) (by decide +kernel), List.mem_of_getElem? (i := 604) (by decide +kernel), List.mem_of_getElem? (i := 605) (by decide +kernel)⟩
theorem lw_p8 : lw_okq (⟨"QuakeBench", "gatherCompanions", "(LQuakeBench$Pick;I)V"⟩, 8) := ⟨⟨by decide +kernel, by decide +kernel⟩, List.mem_of_getElem? (i := 32) (by decide +kernel), List.mem_of_getElem? (i := 608) (by decide +kernel), List.mem_of_getElem? (i := 609) (by decide +kernel)⟩
theorem lw_p9 : lw_okq (⟨"QuakeBench", "companyHears", "(LQuakeBench$Station;)Z"⟩, 8) := ⟨⟨by decide +kernel, by decide +kernel⟩, List.mem_of_getElem? (i := 32) (by decide +kernel), List.mem_of_getElem? (i := 613) (by decide +kernel), List.mem_of_getElem? (i := 614) (by decide +kernel)⟩
theorem lw_p10 : lw_okq (⟨"QuakeBench", "openEventWithCompanions", "(LQuakeBench$Pick;)LQuakeBench$Event;"⟩, 8) := ⟨⟨by decide +kernel, by decide +kernel⟩, List.mem_of_getElem? (i := 32) (by decide +kernel), List.mem_of_getElem? (i := 618) (by decide +kernel), List.mem_of_getElem? (i := 619) (by decide +kernel)⟩
theorem lw_p11 : lw_okq (⟨"QuakeBench", "openEvent", "()LQuakeBench$Event;"⟩, 8) := ⟨⟨by decide +kernel, by decide +kernel⟩, List.mem_of_getElem? (i := 32) (by decide +kernel), List.mem_of_getElem? (i := 622) (by decide +kernel), List.mem_of_getElem? (i := 623) (by decide +kernel)⟩
theorem lw_p12 : lw_okq (⟨"QuakeBench$Search", "scan", "(LQuakeBench$Event;IIIIII)V"⟩, 8) := ⟨⟨by decide +kernel, by decide +kernel⟩, List.mem_of_getElem? (i := 102) (by decide +kernel), List.mem_of_getElem? (i := 679) (by decide +kernel), List.mem_of_getElem? (i := 680) (by decide +kernel)⟩
theorem lw_p13 : lw_okq (⟨"QuakeBench$Search", "offer", "(LQuakeBench$Event;III)V"⟩, 8) := ⟨⟨by decide +kernel, by decide +kernel⟩, List.mem_of_getElem? (i := 102) (by decide +kernel), List.mem_of_getElem? (i := 683) (by decide +kernel), List.mem_of_getElem? (i := 684) (by decide +kernel)⟩
theorem lw_p14 : lw_okq (⟨"QuakeBench", "countFound", "()I"⟩, 8) := ⟨⟨by decide +kernel, by decide +kernel⟩, List.mem_of_getElem? (i := 32) (by decide +kernel), List.mem_of_getElem? (i := 723) (by decide +kernel), List.mem_of_getElem? (i := 724) (by decide +kernel)⟩
theorem lw_p15 : lw_okq (⟨"QuakeBench", "countLoose", "()I"⟩, 8) := ⟨⟨by decide +kernel, by decide +kernel⟩, List.mem_of_getElem? (i := 32) (by decide +kernel), List.mem_of_getElem? (i := 727) (by decide +kernel), List.mem_of_getElem? (i := 728) (by decide +kernel)⟩
def lw_privs_1 : List (MethodName × Nat) := [(⟨"QuakeBench", "orderLoosePicks", "()V"⟩, 8), (⟨"java/util/ArrayList", "rangeCheckForAdd", "(I)V"⟩, 3), (⟨"java/lang/Throwable", "fillInStackTrace", "(I)Ljava/lang/Throwable;"⟩, 6), (⟨"java/util/ArrayList", "outOfBoundsMsg", "(I)Ljava/lang/String;"⟩, 3), (⟨"java/util/ArrayList", "grow", "()[Ljava/lang/Object;"⟩, 3), (⟨"java/util/ArrayList", "grow", "(I)[Ljava/lang/Object;"⟩, 3), (⟨"QuakeBench", "hostFor", "(LQuakeBench$Pick;)LQuakeBench$Event;"⟩, 8), (⟨"java/util/ArrayList", "add", "(Ljava/lang/Object;[Ljava/lang/Object;I)V"⟩, 3), (⟨"QuakeBench", "gatherCompanions", "(LQuakeBench$Pick;I)V"⟩, 8), (⟨"QuakeBench", "companyHears", "(LQuakeBench$Station;)Z"⟩, 8), (⟨"QuakeBench", "openEventWithCompanions", "(LQuakeBench$Pick;)LQuakeBench$Event;"⟩, 8), (⟨"QuakeBench", "openEvent", "()LQuakeBench$Event;"⟩, 8), (⟨"QuakeBench$Search", "scan", "(LQuakeBench$Event;IIIIII)V"⟩, 8), (⟨"QuakeBench$Search", "offer", "(LQuakeBench$Event;III)V"⟩, 8), (⟨"QuakeBench", "countFound", "()I"⟩, 8), (⟨"QuakeBench", "countLoose", "()I"⟩, 8)]
theorem lw_r1 : ∀ q ∈ lw_privs_1, lw_okq q := List.forall_mem_cons.mpr ⟨lw_p0, List.forall_mem_cons.mpr ⟨lw_p1, List.forall_mem_cons.mpr ⟨lw_p2, List.forall_mem_cons.mpr ⟨lw_p3, List.forall_mem_cons.mpr ⟨lw_p4, List.forall_mem_cons.mpr ⟨lw_p5, List.forall_mem_cons.mpr ⟨lw_p6, List.forall_mem_cons.mpr ⟨lw_p7, List.forall_mem_cons.mpr ⟨lw_p8, List.forall_mem_cons.mpr ⟨lw_p9, List.forall_mem_cons.mpr ⟨lw_p10, List.forall_mem_cons.mpr ⟨lw_p11, List.forall_mem_cons.mpr ⟨lw_p12, List.forall_mem_cons.mpr ⟨lw_p13, List.forall_mem_cons.mpr ⟨lw_p14, List.forall_mem_cons.mpr ⟨lw_p15, fun _ h => absurd h List.not_mem_nil⟩⟩⟩⟩⟩⟩⟩⟩⟩⟩⟩⟩⟩⟩⟩⟩
theorem lw_p16 : lw_okq (⟨"QuakeBench", "digestEvent", "(JLQuakeBench$Event;)J"⟩, 8) := ⟨⟨by decide +kernel, by decide +kernel⟩, List.mem_of_getElem? (i := 32) (by decide +kernel), List.mem_of_getElem? (i := 741) (by decide +kernel), List.mem_of_getElem? (i := 742) (by decide +kernel)⟩
theorem lw_p17 : lw_okq (⟨"QuakeBench", "gapOf", "(LQuakeBench$Event;)I"⟩, 8) := ⟨⟨by decide +kernel, by decide +kernel⟩, List.mem_of_getElem? (i := 32) (by decide +kernel), List.mem_of_getElem? (i := 745) (by decide +kernel), List.mem_of_getElem? (i := 746) (by decide +kernel)⟩
theorem lw_p18 : lw_okq (⟨"QuakeBench", "magnitudeOf", "(LQuakeBench$Event;)I"⟩, 8) := ⟨⟨by decide +kernel, by decide +kernel⟩, List.mem_of_getElem? (i := 32) (by decide +kernel), List.mem_of_getElem? (i := 759) (by decide +kernel), List.mem_of_getElem? (i := 760) (by decide +kernel)⟩
theorem lw_p19 : lw_okq (⟨"QuakeBench", "stationAt", "(I)LQuakeBench$Station;"⟩, 8) := ⟨⟨by decide +kernel, by decide +kernel⟩, List.mem_of_getElem? (i := 32) (by decide +kernel), List.mem_of_getElem? (i := 828) (by decide +kernel), List.mem_of_getElem? (i := 829) (by decide +kernel)⟩
theorem lw_p20 : lw_okq (⟨"QuakeBench", "pickAt", "(I)LQuakeBench$Pick;"⟩, 8) := ⟨⟨by decide +kernel, by decide +kernel⟩, List.mem_of_getElem? (i := 32) (by decide +kernel), List.mem_of_getElem? (i := 927) (by decide +kernel), List.mem_of_getElem? (i := 928) (by decide +kernel)⟩
theorem lw_p21 : lw_okq (⟨"QuakeBench", "eventAt", "(I)LQuakeBench$Event;"⟩, 8) := ⟨⟨by decide +kernel, by decide +kernel⟩, List.mem_of_getElem? (i := 32) (by decide +kernel), List.mem_of_getElem? (i := 956) (by decide +kernel), List.mem_of_getElem? (i := 957) (by decide +kernel)⟩
theorem lw_p22 : lw_okq (⟨"java/util/ArrayList", "fastRemove", "([Ljava/lang/Object;I)V"⟩, 3) := ⟨⟨by decide +kernel, by decide +kernel⟩, List.mem_of_getElem? (i := 40) (by decide +kernel), List.mem_of_getElem? (i := 970) (by decide +kernel), List.mem_of_getElem? (i := 971) (by decide +kernel)⟩
theorem lw_p23 : lw_okq (⟨"QuakeBench", "labelFamilies", "(II)V"⟩, 8) := ⟨⟨by decide +kernel, by decide +kernel⟩, List.mem_of_getElem? (i := 32) (by decide +kernel), List.mem_of_getElem? (i := 1077) (by decide +kernel), List.mem_of_getElem? (i := 1078) (by decide +kernel)⟩
theorem lw_p24 : lw_okq (⟨"QuakeBench", "joinLabels", "(II)V"⟩, 8) := ⟨⟨by decide +kernel, by decide +kernel⟩, List.mem_of_getElem? (i := 32) (by decide +kernel), List.mem_of_getElem? (i := 1090) (by decide +kernel), List.mem_of_getElem? (i := 1091) (by decide +kernel)⟩
theorem lw_p25 : lw_okq (⟨"QuakeBenchModel", "no", "(I)I"⟩, 19) := ⟨⟨by decide +kernel, by decide +kernel⟩, List.mem_of_getElem? (i := 1111) (by decide +kernel), List.mem_of_getElem? (i := 1187) (by decide +kernel), List.mem_of_getElem? (i := 1188) (by decide +kernel)⟩
theorem lw_p26 : lw_okq (⟨"QuakeBenchModel", "isStation", "(I)Z"⟩, 19) := ⟨⟨by decide +kernel, by decide +kernel⟩, List.mem_of_getElem? (i := 1111) (by decide +kernel), List.mem_of_getElem? (i := 1195) (by decide +kernel), List.mem_of_getElem? (i := 1196) (by decide +kernel)⟩
theorem lw_p27 : lw_okq (⟨"QuakeBenchModel", "wayOf", "(IIII)I"⟩, 19) := ⟨⟨by decide +kernel, by decide +kernel⟩, List.mem_of_getElem? (i := 1111) (by decide +kernel), List.mem_of_getElem? (i := 1210) (by decide +kernel), List.mem_of_getElem? (i := 1211) (by decide +kernel)⟩
theorem lw_p28 : lw_okq (⟨"QuakeBenchModel", "needed", "(IIIIZ)I"⟩, 19) := ⟨⟨by decide +kernel, by decide +kernel⟩, List.mem_of_getElem? (i := 1111) (by decide +kernel), List.mem_of_getElem? (i := 1221) (by decide +kernel), List.mem_of_getElem? (i := 1222) (by decide +kernel)⟩
theorem lw_p29 : lw_okq (⟨"QuakeBenchModel", "isPick", "(I)Z"⟩, 19) := ⟨⟨by decide +kernel, by decide +kernel⟩, List.mem_of_getElem? (i := 1111) (by decide +kernel), List.mem_of_getElem? (i := 1234) (by decide +kernel), List.mem_of_getElem? (i := 1235) (by decide +kernel)⟩
theorem lw_p30 : lw_okq (⟨"QuakeBenchModel", "lose", "(I)V"⟩, 19) := ⟨⟨by decide +kernel, by decide +kernel⟩, List.mem_of_getElem? (i := 1111) (by decide +kernel), List.mem_of_getElem? (i := 1238) (by decide +kernel), List.mem_of_getElem? (i := 1239) (by decide +kernel)⟩
theorem lw_p31 : lw_okq (⟨"QuakeBenchModel", "told", "(II)I"⟩, 19) := ⟨⟨by decide +kernel, by decide +kernel⟩, List.mem_of_getElem? (i := 1111) (by decide +kernel), List.mem_of_getElem? (i := 1246) (by decide +kernel), List.mem_of_getElem? (i := 1247) (by decide +kernel)⟩
def lw_privs_2 : List (MethodName × Nat) := [(⟨"QuakeBench", "digestEvent", "(JLQuakeBench$Event;)J"⟩, 8), (⟨"QuakeBench", "gapOf", "(LQuakeBench$Event;)I"⟩, 8), (⟨"QuakeBench", "magnitudeOf", "(LQuakeBench$Event;)I"⟩, 8), (⟨"QuakeBench", "stationAt", "(I)LQuakeBench$Station;"⟩, 8), (⟨"QuakeBench", "pickAt", "(I)LQuakeBench$Pick;"⟩, 8), (⟨"QuakeBench", "eventAt", "(I)LQuakeBench$Event;"⟩, 8), (⟨"java/util/ArrayList", "fastRemove", "([Ljava/lang/Object;I)V"⟩, 3), (⟨"QuakeBench", "labelFamilies", "(II)V"⟩, 8), (⟨"QuakeBench", "joinLabels", "(II)V"⟩, 8), (⟨"QuakeBenchModel", "no", "(I)I"⟩, 19), (⟨"QuakeBenchModel", "isStation", "(I)Z"⟩, 19), (⟨"QuakeBenchModel", "wayOf", "(IIII)I"⟩, 19), (⟨"QuakeBenchModel", "needed", "(IIIIZ)I"⟩, 19), (⟨"QuakeBenchModel", "isPick", "(I)Z"⟩, 19), (⟨"QuakeBenchModel", "lose", "(I)V"⟩, 19), (⟨"QuakeBenchModel", "told", "(II)I"⟩, 19)]
theorem lw_r2 : ∀ q ∈ lw_privs_2, lw_okq q := List.forall_mem_cons.mpr ⟨lw_p16, List.forall_mem_cons.mpr ⟨lw_p17, List.forall_mem_cons.mpr ⟨lw_p18, List.forall_mem_cons.mpr ⟨lw_p19, List.forall_mem_cons.mpr ⟨lw_p20, List.forall_mem_cons.mpr ⟨lw_p21, List.forall_mem_cons.mpr ⟨lw_p22, List.forall_mem_cons.mpr ⟨lw_p23, List.forall_mem_cons.mpr ⟨lw_p24, List.forall_mem_cons.mpr ⟨lw_p25, List.forall_mem_cons.mpr ⟨lw_p26, List.forall_mem_cons.mpr ⟨lw_p27, List.forall_mem_cons.mpr ⟨lw_p28, List.forall_mem_cons.mpr ⟨lw_p29, List.forall_mem_cons.mpr ⟨lw_p30, List.forall_mem_cons.mpr ⟨lw_p31, fun _ h => absurd h List.not_mem_nil⟩⟩⟩⟩⟩⟩⟩⟩⟩⟩⟩⟩⟩⟩⟩⟩
theorem lw_p32 : lw_okq (⟨"QuakeBenchModel", "isEvent", "(I)Z"⟩, 19) := ⟨⟨by decide +kernel, by decide +kernel⟩, List.mem_of_getElem? (i := 1111) (by decide +kernel), List.mem_of_getElem? (i := 1258) (by decide +kernel), List.mem_of_getElem? (i := 1259) (by decide +kernel)⟩
theorem lw_p33 : lw_okq (⟨"QuakeBenchModel", "hasAlike", "(II)Z"⟩, 19) := ⟨⟨by decide +kernel, by decide +kernel⟩, List.mem_of_getElem? (i := 1111) (by decide +kernel), List.mem_of_getElem? (i := 1262) (by decide +kernel), List.mem_of_getElem? (i := 1263) (by decide +kernel)⟩
theorem lw_p34 : lw_okq (⟨"QuakeBenchModel", "isAhead", "(II)Z"⟩, 19) := ⟨⟨by decide +kernel, by decide +kernel⟩, List.mem_of_getElem? (i := 1111) (by decide +kernel), List.mem_of_getElem? (i := 1270) (by decide +kernel), List.mem_of_getElem? (i := 1271) (by decide +kernel)⟩
theorem lw_p35 : lw_okq (⟨"QuakeBenchModel", "nearestFor", "(I)I"⟩, 19) := ⟨⟨by decide +kernel, by decide +kernel⟩, List.mem_of_getElem? (i := 1111) (by decide +kernel), List.mem_of_getElem? (i := 1274) (by decide +kernel), List.mem_of_getElem? (i := 1275) (by decide +kernel)⟩
theorem lw_p36 : lw_okq (⟨"QuakeBenchModel", "startOf", "(IIII)I"⟩, 19) := ⟨⟨by decide +kernel, by decide +kernel⟩, List.mem_of_getElem? (i := 1111) (by decide +kernel), List.mem_of_getElem? (i := 1278) (by decide +kernel), List.mem_of_getElem? (i := 1279) (by decide +kernel)⟩
theorem lw_p37 : lw_okq (⟨"QuakeBenchModel", "gather", "(I)I"⟩, 19) := ⟨⟨by decide +kernel, by decide +kernel⟩, List.mem_of_getElem? (i := 1111) (by decide +kernel), List.mem_of_getElem? (i := 1283) (by decide +kernel), List.mem_of_getElem? (i := 1284) (by decide +kernel)⟩
theorem lw_p38 : lw_okq (⟨"QuakeBenchModel", "look", "(I)J"⟩, 19) := ⟨⟨by decide +kernel, by decide +kernel⟩, List.mem_of_getElem? (i := 1111) (by decide +kernel), List.mem_of_getElem? (i := 1288) (by decide +kernel), List.mem_of_getElem? (i := 1289) (by decide +kernel)⟩
theorem lw_p39 : lw_okq (⟨"QuakeBenchModel", "misfitAt", "(IIII)J"⟩, 19) := ⟨⟨by decide +kernel, by decide +kernel⟩, List.mem_of_getElem? (i := 1111) (by decide +kernel), List.mem_of_getElem? (i := 1293) (by decide +kernel), List.mem_of_getElem? (i := 1294) (by decide +kernel)⟩
theorem lw_p40 : lw_okq (⟨"QuakeBenchModel", "isMiddle", "(III)Z"⟩, 19) := ⟨⟨by decide +kernel, by decide +kernel⟩, List.mem_of_getElem? (i := 1111) (by decide +kernel), List.mem_of_getElem? (i := 1297) (by decide +kernel), List.mem_of_getElem? (i := 1298) (by decide +kernel)⟩
theorem lw_p41 : lw_okq (⟨"QuakeBenchModel", "counted", "(I)I"⟩, 19) := ⟨⟨by decide +kernel, by decide +kernel⟩, List.mem_of_getElem? (i := 1111) (by decide +kernel), List.mem_of_getElem? (i := 1306) (by decide +kernel), List.mem_of_getElem? (i := 1307) (by decide +kernel)⟩
theorem lw_p42 : lw_okq (⟨"QuakeBenchModel", "foundEvents", "()I"⟩, 19) := ⟨⟨by decide +kernel, by decide +kernel⟩, List.mem_of_getElem? (i := 1111) (by decide +kernel), List.mem_of_getElem? (i := 1310) (by decide +kernel), List.mem_of_getElem? (i := 1311) (by decide +kernel)⟩
theorem lw_p43 : lw_okq (⟨"QuakeBenchModel", "picksOf", "(I)I"⟩, 19) := ⟨⟨by decide +kernel, by decide +kernel⟩, List.mem_of_getElem? (i := 1111) (by decide +kernel), List.mem_of_getElem? (i := 1314) (by decide +kernel), List.mem_of_getElem? (i := 1315) (by decide +kernel)⟩
theorem lw_p44 : lw_okq (⟨"QuakeBenchModel", "stationsOf", "(I)I"⟩, 19) := ⟨⟨by decide +kernel, by decide +kernel⟩, List.mem_of_getElem? (i := 1111) (by decide +kernel), List.mem_of_getElem? (i := 1322) (by decide +kernel), List.mem_of_getElem? (i := 1323) (by decide +kernel)⟩
theorem lw_p45 : lw_okq (⟨"QuakeBenchModel", "hasStation", "(II)Z"⟩, 19) := ⟨⟨by decide +kernel, by decide +kernel⟩, List.mem_of_getElem? (i := 1111) (by decide +kernel), List.mem_of_getElem? (i := 1326) (by decide +kernel), List.mem_of_getElem? (i := 1327) (by decide +kernel)⟩
theorem lw_p46 : lw_okq (⟨"QuakeBenchModel", "residualOf", "(I)I"⟩, 19) := ⟨⟨by decide +kernel, by decide +kernel⟩, List.mem_of_getElem? (i := 1111) (by decide +kernel), List.mem_of_getElem? (i := 1342) (by decide +kernel), List.mem_of_getElem? (i := 1343) (by decide +kernel)⟩
theorem lw_p47 : lw_okq (⟨"QuakeBenchModel", "gapOf", "(I)I"⟩, 19) := ⟨⟨by decide +kernel, by decide +kernel⟩, List.mem_of_getElem? (i := 1111) (by decide +kernel), List.mem_of_getElem? (i := 1358) (by decide +kernel), List.mem_of_getElem? (i := 1359) (by decide +kernel)⟩
def lw_privs_3 : List (MethodName × Nat) := [(⟨"QuakeBenchModel", "isEvent", "(I)Z"⟩, 19), (⟨"QuakeBenchModel", "hasAlike", "(II)Z"⟩, 19), (⟨"QuakeBenchModel", "isAhead", "(II)Z"⟩, 19), (⟨"QuakeBenchModel", "nearestFor", "(I)I"⟩, 19), (⟨"QuakeBenchModel", "startOf", "(IIII)I"⟩, 19), (⟨"QuakeBenchModel", "gather", "(I)I"⟩, 19), (⟨"QuakeBenchModel", "look", "(I)J"⟩, 19), (⟨"QuakeBenchModel", "misfitAt", "(IIII)J"⟩, 19), (⟨"QuakeBenchModel", "isMiddle", "(III)Z"⟩, 19), (⟨"QuakeBenchModel", "counted", "(I)I"⟩, 19), (⟨"QuakeBenchModel", "foundEvents", "()I"⟩, 19), (⟨"QuakeBenchModel", "picksOf", "(I)I"⟩, 19), (⟨"QuakeBenchModel", "stationsOf", "(I)I"⟩, 19), (⟨"QuakeBenchModel", "hasStation", "(II)Z"⟩, 19), (⟨"QuakeBenchModel", "residualOf", "(I)I"⟩, 19), (⟨"QuakeBenchModel", "gapOf", "(I)I"⟩, 19)]
theorem lw_r3 : ∀ q ∈ lw_privs_3, lw_okq q := List.forall_mem_cons.mpr ⟨lw_p32, List.forall_mem_cons.mpr ⟨lw_p33, List.forall_mem_cons.mpr ⟨lw_p34, List.forall_mem_cons.mpr ⟨lw_p35, List.forall_mem_cons.mpr ⟨lw_p36, List.forall_mem_cons.mpr ⟨lw_p37, List.forall_mem_cons.mpr ⟨lw_p38, List.forall_mem_cons.mpr ⟨lw_p39, List.forall_mem_cons.mpr ⟨lw_p40, List.forall_mem_cons.mpr ⟨lw_p41, List.forall_mem_cons.mpr ⟨lw_p42, List.forall_mem_cons.mpr ⟨lw_p43, List.forall_mem_cons.mpr ⟨lw_p44, List.forall_mem_cons.mpr ⟨lw_p45, List.forall_mem_cons.mpr ⟨lw_p46, List.forall_mem_cons.mpr ⟨lw_p47, fun _ h => absurd h List.not_mem_nil⟩⟩⟩⟩⟩⟩⟩⟩⟩⟩⟩⟩⟩⟩⟩⟩
theorem lw_p48 : lw_okq (⟨"QuakeBenchModel", "magnitudeOf", "(I)I"⟩, 19) := ⟨⟨by decide +kernel, by decide +kernel⟩, List.mem_of_getElem? (i := 1111) (by decide +kernel), List.mem_of_getElem? (i := 1375) (by decide +kernel), List.mem_of_getElem? (i := 1376) (by decide +kernel)⟩
theorem lw_p49 : lw_okq (⟨"QuakeBenchModel", "sizeBy", "(I)I"⟩, 19) := ⟨⟨by decide +kernel, by decide +kernel⟩, List.mem_of_getElem? (i := 1111) (by decide +kernel), List.mem_of_getElem? (i := 1379) (by decide +kernel), List.mem_of_getElem? (i := 1380) (by decide +kernel)⟩
theorem lw_p50 : lw_okq (⟨"QuakeBenchModel", "heads", "(II)[I"⟩, 19) := ⟨⟨by decide +kernel, by decide +kernel⟩, List.mem_of_getElem? (i := 1111) (by decide +kernel), List.mem_of_getElem? (i := 1390) (by decide +kernel), List.mem_of_getElem? (i := 1391) (by decide +kernel)⟩
theorem lw_p51 : lw_okq (⟨"QuakeBenchModel", "areRelated", "(IIII)Z"⟩, 19) := ⟨⟨by decide +kernel, by decide +kernel⟩, List.mem_of_getElem? (i := 1111) (by decide +kernel), List.mem_of_getElem? (i := 1394) (by decide +kernel), List.mem_of_getElem? (i := 1395) (by decide +kernel)⟩
theorem lw_p52 : lw_okq (⟨"QuakeBenchModel", "off", "(IIII)I"⟩, 19) := ⟨⟨by decide +kernel, by decide +kernel⟩, List.mem_of_getElem? (i := 1111) (by decide +kernel), List.mem_of_getElem? (i := 1398) (by decide +kernel), List.mem_of_getElem? (i := 1399) (by decide +kernel)⟩
def lw_privs_4 : List (MethodName × Nat) := [(⟨"QuakeBenchModel", "magnitudeOf", "(I)I"⟩, 19), (⟨"QuakeBenchModel", "sizeBy", "(I)I"⟩, 19), (⟨"QuakeBenchModel", "heads", "(II)[I"⟩, 19), (⟨"QuakeBenchModel", "areRelated", "(IIII)Z"⟩, 19), (⟨"QuakeBenchModel", "off", "(IIII)I"⟩, 19)]
theorem lw_r4 : ∀ q ∈ lw_privs_4, lw_okq q := List.forall_mem_cons.mpr ⟨lw_p48, List.forall_mem_cons.mpr ⟨lw_p49, List.forall_mem_cons.mpr ⟨lw_p50, List.forall_mem_cons.mpr ⟨lw_p51, List.forall_mem_cons.mpr ⟨lw_p52, fun _ h => absurd h List.not_mem_nil⟩⟩⟩⟩⟩
def lw_privs : List (MethodName × Nat) := lw_privs_1 ++ (lw_privs_2 ++ (lw_privs_3 ++ (lw_privs_4)))
def lw_tbl : List Cond := k2_sels lw_privs ++ tables_1
theorem lw_privs_ok : ∀ q ∈ lw_privs, lw_okq q := by
  show ∀ q ∈ lw_privs_1 ++ (lw_privs_2 ++ (lw_privs_3 ++ (lw_privs_4))), lw_okq q
  exact List.forall_mem_append.mpr ⟨lw_r1, List.forall_mem_append.mpr ⟨lw_r2, List.forall_mem_append.mpr ⟨lw_r3, lw_r4⟩⟩⟩
/-- the streams that the claim lets the run draw from -/
abbrev lw_cs : List Choice := [Jvm.Choice.named "NaN.bits"]
theorem lw_bits : nanBits ∈ lw_cs := by first | decide | exact List.mem_cons_self | simp [lw_cs, nanBits]
end
section
/-! ===== BEGIN words of one list among another's, by their places ===== -/
theorem goodIn_r {big : List Cond} (ws : List Cond) (ps : List Nat) (hp : ws = ps.filterMap (fun i => big[i]?)) (h : ws.all goodWord = true) : GoodIn big ws := by
  intro w hw
  have h1 := List.all_eq_true.mp h w hw
  rw [hp] at hw
  obtain ⟨i, -, hi⟩ := List.mem_filterMap.mp hw
  have hm : w ∈ big := by first | exact List.mem_of_getElem? hi | exact List.getElem?_mem hi
  exact ⟨hm, good_of_word h1⟩
theorem goodIn_app {big a b : List Cond} (ha : GoodIn big a) (hb : GoodIn big b) : GoodIn big (a ++ b) := fun w h => (List.mem_append.mp h).elim (ha w) (hb w)
theorem goodIn_ca {big a b : List Cond} {c : Cond} (ha : GoodIn big (c :: a)) (hb : GoodIn big b) : GoodIn big (c :: (a ++ b)) := fun w h => (List.mem_cons.mp h).elim (fun e => ha w (List.mem_cons.mpr (Or.inl e))) (fun h => (List.mem_append.mp h).elim (fun h => ha w (List.mem_cons.mpr (Or.inr h))) (hb w))
theorem goodIn_sub {big ws : List Cond} (hm : ∀ w ∈ ws, w ∈ big) (h : ws.all goodWord = true) : GoodIn big ws := fun w hw => ⟨hm w hw, good_of_word (List.all_eq_true.mp h w hw)⟩
/-! ===== END ===== -/

/-! ===== BEGIN exceptions that leave a method, and their catching by the caller (launches without stack traces) ===== -/
section VXA
/-! The laws vx_back, vx_callV, vx_callS, vx_callSW, vx_throw0, vx_throwS follow proofs of the library, with one case more: JvmDerived/Free/Laws.lean (Back.of_free), Shelf42/LK1.lean (callV, callS), Shelf/KitTraced.lean (throwNew0V, throwNewS). -/
/-- where a method has thrown q: the class by its name, the cell, what was written, the world -/
def vx_T (XC : String → State → State → Prop) (st : State) (q : Addr) (t : State) (mc ms : Nat) (free : Addr → Prop) : Prop :=
  ∃ (E : String) (ce : Cell) (L : List Loc), XC E st t ∧ t.heap[q]? = some ce ∧ ce.vm = .none ∧ st.vm.findClass E = some ce.cls ∧ st.WarmedH t.vm ∧ st.sameButNew ({ t with vm := st.vm } : State) L mc ms ∧ ∀ z ∈ L, free z.base
def vx_Q (Qc : Array Value → State → Outcome → State → Prop) (XC : String → State → State → Prop) (mc ms : Nat) (free : Addr → Prop) : Array Value → State → Outcome → State → Prop := fun a st o t =>
  (Qc a st o t ∧ ∃ L, FrameEnd st o t L mc ms ∧ ∀ q ∈ L, free q.base) ∨ ∃ q, o = .threw q ∧ vx_T XC st q t mc ms free
/-- a callee that returns or throws -/
def vx_Met (l : Launch) (y : MethodName) (ws : List Cond) (rm : Room) (Pc : Array Value → State → Prop) (Qc : Array Value → State → Outcome → State → Prop) (XC : String → State → State → Prop) (mc ms : Nat) (free : Addr → Prop) : Prop :=
  MetFree l y (headSpec ws rm) Pc (fun _ _ _ _ _ => True) (vx_Q Qc XC mc ms free)
def vx_Post (XC : String → State → State → Prop) (mc ms : Nat) (free : Addr → Prop) : Pt → Array Value → Addr → Pt → Prop := fun A a q B =>
  ∃ (g : JFrame) (mk : MethodId) (t : State) (L : List Loc) (E : String) (ce : Cell), B.U.heap = t.heap ∧ B.U.vm = t.vm ∧ XC E (A.U.calling g mk a) t ∧ t.heap[q]? = some ce ∧ ce.vm = .none ∧ A.U.vm.findClass E = some ce.cls ∧ B.locs = A.locs ++ L ∧ (∀ z ∈ L, free z.base) ∧ B.cells = A.cells + mc ∧ B.slots = A.slots + ms
def vx_Back (l : Launch) (R : Room) (p : Program) (e : Env) (below : List Frame) (s : State) (sargs : Array Value) (y : MethodName) (len W9 : Nat)
    (Pre : Pt → Array Value → Prop) (Post : Pt → Array Value → Option Value → Pt → Prop) (PostX : Pt → Array Value → Addr → Pt → Prop) : Prop :=
  ∀ (m : MethodId) (meth : Method) (c : Code) (A : Pt) (g : JFrame) (ig : Instr) (mk : MethodId) (a : Array Value),
    Stand p l e R s m sargs below meth c A.U A.locs A.cells A.slots → g.method = m → g.locals.size = c.maxLocals → decode c.code g.pc = .ok (ig, len) →
    2 * g.monitorRoom + (g.stack.map fun v => v.category).sum ≤ W9 → A.U.methodNamed? y = some mk → Pre A a →
    (∃ (v : Option Value) (B : Pt), Stand p l e R s m sargs below meth c B.U B.locs B.cells B.slots ∧ Post A a v B ∧
      Steps p.tables e below (doInvoke e (A.U.setTop g) [] mk a).1 (B.U.setTop { g with pc := g.pc + len, stack := v.toList ++ g.stack })) ∨
    (∃ (q : Addr) (B : Pt), Stand p l e R s m sargs below meth c B.U B.locs B.cells B.slots ∧ PostX A a q B ∧
      Steps p.tables e below (doInvoke e (A.U.setTop g) [] mk a).1 ((B.U.setTop g).pushFrame (.throwing q)))
section Payer
variable {l : Launch} {R : Room} {p : Program} {e : Env} {below : List Frame} {s : State} {sargs : Array Value} {y : MethodName} {len W9 : Nat}
theorem vx_back {ws : List Cond} {rm : Room} {Pc : Array Value → State → Prop} {Qc : Array Value → State → Outcome → State → Prop} {XC : String → State → State → Prop} {mc ms : Nat} {free : Addr → Prop} {bytes : ByteArray} {maxL : Nat} {ret : Option FieldType}
    (hM : vx_Met l y ws rm Pc Qc XC mc ms free) (hblind : FrameBlind Pc) (hrc : rm.cells = mc) (hrs : rm.slots = ms)
    (hframes : rm.frames + 1 ≤ R.frames) (hlocals : W9 + (maxL + 11) + rm.locals ≤ R.locals)
    (hws : ∀ w ∈ ws, ∀ a' U, s.WarmedH U.vm → w.before a' U = true) (hcode : Cond.code y bytes maxL ret ∈ ws) (hinit : ∀ a' U, s.WarmedH U.vm → (Cond.initialized y.cls).before a' U = true) :
    vx_Back l R p e below s sargs y len W9 (PreOf R mc ms Pc) (PostOf Qc mc ms free) (vx_Post XC mc ms free) := by
  intro m meth c A g ig mk a X hg hsize hdg hW hn hp
  have h1 : (headSpec ws rm).pre.before a A.U = true := atoms_intro fun w hw => hws w hw _ _ X.warmed
  have h2 : (Cond.code y bytes maxL ret).before a A.U = true := hws _ hcode _ _ X.warmed
  have h3 : (Cond.initialized y.cls).before a A.U = true := hinit _ _ X.warmed
  have h4 : A.cells + (headSpec ws rm).room.cells ≤ R.cells := by rw [show (headSpec ws rm).room.cells = mc from hrc]; exact hp.1
  have h5 : A.slots + (headSpec ws rm).room.slots ≤ R.slots := by rw [show (headSpec ws rm).room.slots = ms from hrs]; exact hp.2.1
  have hPc : Pc a (A.U.calling g mk a) := hblind _ _ _ _ hp.2.2
  obtain ⟨U, Ls, c0, s0⟩ := A
  dsimp only [Pt.U, Pt.locs, Pt.cells, Pt.slots] at h1 h2 h3 h4 h5 X hn hPc ⊢
  obtain ⟨methY, cY, hmY, hcY, -, hlY, -, -, -, -⟩ := Cond.code_spec hn h2
  obtain ⟨kY, hkY, -⟩ := className_of_methodNamed hn
  have hinitY : kY.init = .initialized := Cond.initialized_spec (findClass_of_methodNamed hn) hkY h3
  have h : At U g.method c below := by rw [hg]; exact X.here
  have hlocals9 : W9 + (maxL + 11) + (headSpec ws rm).room.locals ≤ R.locals := hlocals
  have happ : (headSpec ws rm).appliesLoose y e.platform (U.calling g mk a) = true :=
    Spec.appliesLoose_calling (g := g) h hdg hn hkY hinitY
      (X.room_calling (g := g) (R' := (headSpec ws rm).room) hsize hmY hcY hframes (by rw [hlY]; omega) h4 h5) h1
  obtain ⟨mid, hmid⟩ := h.above
  have hfr : (U.setTop g).frames = (.java g :: mid) ++ below := by rw [State.frames_setTop' g h.top, hmid]; rfl
  obtain ⟨o, s₂, hsteps, -, hend, hq⟩ := Steps.callFree hM p X.admits X.cas X.clock (acts := []) hfr happ hPc trivial
  have hq' : vx_Q Qc XC mc ms free a (U.calling g mk a) o s₂ := hq
  rw [State.frames_setTop' g h.top] at hend
  obtain ⟨g₀, hg0⟩ := Option.isSome_iff_exists.mp h.top
  obtain ⟨r, hr⟩ := State.topJava?_eq_some.mp hg0
  have hr' : (({ U with heap := s₂.heap, slotsUsed := s₂.slotsUsed } : State).setVm s₂.vm).frames = .java g₀ :: r := hr
  rcases hq' with ⟨hqc, L, hfe, hL⟩ | ⟨q, rfl, E, ce, L, hx, hce, hcv, hcl, hW₂, hsm, hL⟩
  · obtain ⟨⟨v, rfl⟩, hW₂, e2, q2, q3, q4, q5, q6⟩ := id hfe
    have e3 : s₂ = ({ (U.calling g mk a).setFrames s₂.frames with heap := s₂.heap, slotsUsed := s₂.slotsUsed } : State).setVm s₂.vm := by
      have : s₂ = ({ s₂ with vm := (U.calling g mk a).vm } : State).setVm s₂.vm := rfl
      rw [e2] at this
      exact this
    obtain ⟨c₂, i₂, len₂, hc₂, hd₂, hf₂⟩ := hend
    have hW' : U.WarmedH s₂.vm := hW₂
    have hcc : c₂ = c := by
      have h1 : s₂.code? g.method = U.code? g.method := by
        rw [State.code?_eq, State.code?_eq, hW'.alike.method?]
      exact Option.some.inj (hc₂.symm.trans (h1.trans h.code))
    subst hcc
    have hlen : len₂ = len := by rw [hdg] at hd₂; cases hd₂; rfl
    subst hlen
    have hs₂ : s₂ = (({ U with heap := s₂.heap, slotsUsed := s₂.slotsUsed } : State).setVm s₂.vm).setTop { g with pc := g.pc + len₂, stack := v.toList ++ g.stack } := by
      refine e3.trans ?_
      rw [hf₂, State.calling_eq h.top, State.setFrames_setFrames, State.setTop_of_frames _ hr', hr]
      rfl
    have hsame : U.sameButNew ({ U with heap := s₂.heap, slotsUsed := s₂.slotsUsed } : State) L mc ms := by
      refine ⟨?_, q2, q3, q4, q5, q6⟩
      obtain ⟨t, ht, -⟩ := State.frames_cons hr
      show ({ U with heap := s₂.heap, slotsUsed := s₂.slotsUsed } : State) = { U.setFrames U.frames with heap := s₂.heap, slotsUsed := s₂.slotsUsed }
      rw [State.setFrames_self ht]
    subst hg
    refine Or.inl ⟨v, ⟨(({ U with heap := s₂.heap, slotsUsed := s₂.slotsUsed } : State).setVm s₂.vm), Ls ++ L, c0 + mc, s0 + ms⟩,
      ⟨X.admits, X.cas, X.clock, X.frames, X.room, X.hears, X.method, X.code, (X.here.setHeapUsed s₂.heap s₂.slotsUsed).setVm hW'.alike, X.tail, State.WarmedH.trans X.warmed hW', X.limits, X.bytes, X.same.trans (hsame.setVm s.vm)⟩,
      ⟨g, mk, s₂, L, rfl, rfl, hqc, rfl, hL, rfl, rfl⟩, ?_⟩
    show Steps p.tables e below _ ((({ U with heap := s₂.heap, slotsUsed := s₂.slotsUsed } : State).setVm s₂.vm).setTop { g with pc := g.pc + len₂, stack := v.toList ++ g.stack })
    rw [← hs₂]
    exact hsteps
  · obtain ⟨e2, q2, q3, q4, q5, q6⟩ := id hsm
    have e3 : s₂ = ({ (U.calling g mk a).setFrames s₂.frames with heap := s₂.heap, slotsUsed := s₂.slotsUsed } : State).setVm s₂.vm := by
      have : s₂ = ({ s₂ with vm := (U.calling g mk a).vm } : State).setVm s₂.vm := rfl
      rw [e2] at this
      exact this
    have hf₂ : s₂.frames = .throwing q :: .java g :: U.frames.tail := hend
    have hW' : U.WarmedH s₂.vm := hW₂
    have hs₂ : s₂ = ((({ U with heap := s₂.heap, slotsUsed := s₂.slotsUsed } : State).setVm s₂.vm).setTop g).pushFrame (.throwing q) := by
      refine e3.trans ?_
      rw [hf₂, State.calling_eq h.top, State.setFrames_setFrames, State.pushFrame, State.frames_setTop _ hr', State.setTop_of_frames _ hr', State.setFrames_setFrames, hr]
      rfl
    have hsame : U.sameButNew ({ U with heap := s₂.heap, slotsUsed := s₂.slotsUsed } : State) L mc ms := by
      refine ⟨?_, q2, q3, q4, q5, q6⟩
      obtain ⟨t, ht, -⟩ := State.frames_cons hr
      show ({ U with heap := s₂.heap, slotsUsed := s₂.slotsUsed } : State) = { U.setFrames U.frames with heap := s₂.heap, slotsUsed := s₂.slotsUsed }
      rw [State.setFrames_self ht]
    subst hg
    refine Or.inr ⟨q, ⟨(({ U with heap := s₂.heap, slotsUsed := s₂.slotsUsed } : State).setVm s₂.vm), Ls ++ L, c0 + mc, s0 + ms⟩,
      ⟨X.admits, X.cas, X.clock, X.frames, X.room, X.hears, X.method, X.code, (X.here.setHeapUsed s₂.heap s₂.slotsUsed).setVm hW'.alike, X.tail, State.WarmedH.trans X.warmed hW', X.limits, X.bytes, X.same.trans (hsame.setVm s.vm)⟩,
      ⟨g, mk, s₂, L, E, ce, rfl, rfl, hx, hce, hcv, hcl, rfl, hL, rfl, rfl⟩, ?_⟩
    show Steps p.tables e below _ (((({ U with heap := s₂.heap, slotsUsed := s₂.slotsUsed } : State).setVm s₂.vm).setTop g).pushFrame (.throwing q))
    rw [← hs₂]
    exact hsteps
end Payer
section Calls
variable {p : Program} {l : Launch} {e : Env} {R : Room} {s : State} {m : MethodId} {args : Array Value} {below : List Frame} {meth : Method} {c : Code} {T : State} {locs : List Loc} {cells slots : Nat}
theorem vx_callV (X : Stand p l e R s m args below meth c T locs cells slots) (hexec : p.tables.exec = Jvm.exec) {own C : String} {index : Nat} {y : MethodName} {bytes : ByteArray} {maxL : Nat} {ret : Option FieldType}
    (hown : s.vm.findClass own = some m.cls) (hlink : (Cond.methodLink own index y).before args s = true) (hinst : (Cond.instanceMethod y).before args s = true) (hsel : (Cond.selects C y y).before args s = true)
    (hcode : (Cond.code y bytes maxL ret).before args s = true) (hy : y.cls ≠ "java/lang/invoke/MethodHandle" ∧ y.cls ≠ "java/lang/invoke/VarHandle")
    {W9 : Nat} {Pre : Pt → Array Value → Prop} {Post : Pt → Array Value → Option Value → Pt → Prop} {PostX : Pt → Array Value → Addr → Pt → Prop} (hK : vx_Back l R p e below s args y 3 W9 Pre Post PostX)
    {b : Addr} {cellB : Cell} (hcell : T.heap[b]? = some cellB) (hobj : cellB.vm.isStatics = false) (hcls : s.vm.findClass C = some cellB.cls)
    {g : JFrame} (hg : g.method = m) (hsize : g.locals.size = c.maxLocals) {argsL rest : List Value} (hlen : ∀ sig, parseMethodDescriptor y.desc = some sig → argsL.length = sig.parameters.length)
    (hstack : g.stack = argsL.reverse ++ .ref b :: rest) (hW : 2 * g.monitorRoom + (rest.map fun v => v.category).sum ≤ W9) (hdg : decode c.code g.pc = .ok (.invokevirtual index, 3))
    (hpre : ∀ vm₁, s.WarmedH vm₁ → Pre ⟨T.setVm vm₁, locs, cells, slots⟩ (Value.ref b :: argsL).toArray) :
    (∃ (v : Option Value) (vm₁ : Vm) (B : Pt), s.WarmedH vm₁ ∧ Stand p l e R s m args below meth c B.U B.locs B.cells B.slots ∧ Post ⟨T.setVm vm₁, locs, cells, slots⟩ (Value.ref b :: argsL).toArray v B ∧
      ∀ target, Steps p.tables e below (B.U.setTop { g with pc := g.pc + 3, stack := v.toList ++ rest }) target → Steps p.tables e below (T.setTop g) target) ∨
    (∃ (q : Addr) (vm₁ : Vm) (B : Pt), s.WarmedH vm₁ ∧ Stand p l e R s m args below meth c B.U B.locs B.cells B.slots ∧ PostX ⟨T.setVm vm₁, locs, cells, slots⟩ (Value.ref b :: argsL).toArray q B ∧
      Steps p.tables e below (T.setTop g) ((B.U.setTop { g with stack := rest }).pushFrame (.throwing q))) := by
  obtain ⟨mk, methM, hnamed, hmethM, hstM, habM⟩ := Cond.instanceMethod_spec hinst
  obtain ⟨methM', cM, hmethM', -, -, -, -, -, -, hsigM⟩ := Cond.code_spec hnamed hcode
  cases hmethM.symm.trans hmethM'
  obtain ⟨c2, r2, m2, q1, q2, q3, q4, kP, hkP, hkPi⟩ := Cond.selects_spec hsel
  cases hcls.symm.trans q1
  cases (State.methodFound?_of_named hnamed hy).symm.trans q2
  cases hnamed.symm.trans q3
  have hselP : selectMethod e.platform s.vm cellB.cls mk = .method mk := by rw [Launch.admits_selectMethod X.admits]; exact q4
  obtain ⟨vm₁, X₁, hstep₁⟩ := X.invokevirtual hexec hown hlink hnamed hmethM hstM hkP hkPi hy (a := b) (cell := cellB) hcell
    (fun z h => by rw [h] at hobj; cases hobj) hselP hmethM habM hkP hkPi (g := g) hg (argsL := argsL) (rest := rest) (hlen _ hsigM) hstack hdg
  rcases hK m meth c ⟨T.setVm vm₁, locs, cells, slots⟩ { g with stack := rest } (.invokevirtual index) mk (Value.ref b :: argsL).toArray X₁ hg hsize hdg hW (X₁.named hnamed) (hpre vm₁ X₁.warmed) with ⟨v, B, X', hpost, hsteps⟩ | ⟨q, B, X', hpost, hsteps⟩
  · exact Or.inl ⟨v, vm₁, B, X₁.warmed, X', hpost, fun target h => hstep₁ _ fun acts => by rw [doInvoke_state]; exact hsteps.trans h⟩
  · exact Or.inr ⟨q, vm₁, B, X₁.warmed, X', hpost, hstep₁ _ fun acts => by rw [doInvoke_state]; exact hsteps⟩
theorem vx_callS (X : Stand p l e R s m args below meth c T locs cells slots) (hexec : p.tables.exec = Jvm.exec) {own : String} {index : Nat} {y : MethodName} {bytes : ByteArray} {maxL : Nat} {ret : Option FieldType}
    (hown : s.vm.findClass own = some m.cls) (hlink : (Cond.methodLink own index y).before args s = true) (hstat : (Cond.static y).before args s = true) (hinit : (Cond.initialized y.cls).before args s = true)
    (hcode : (Cond.code y bytes maxL ret).before args s = true) (hy : y.cls ≠ "java/lang/invoke/MethodHandle" ∧ y.cls ≠ "java/lang/invoke/VarHandle")
    {W9 : Nat} {Pre : Pt → Array Value → Prop} {Post : Pt → Array Value → Option Value → Pt → Prop} {PostX : Pt → Array Value → Addr → Pt → Prop} (hK : vx_Back l R p e below s args y 3 W9 Pre Post PostX)
    {g : JFrame} (hg : g.method = m) (hsize : g.locals.size = c.maxLocals) {argsL rest : List Value} (hlen : ∀ sig, parseMethodDescriptor y.desc = some sig → argsL.length = sig.parameters.length)
    (hstack : g.stack = argsL.reverse ++ rest) (hW : 2 * g.monitorRoom + (rest.map fun v => v.category).sum ≤ W9) (hdg : decode c.code g.pc = .ok (.invokestatic index, 3))
    (hpre : ∀ vm₁, s.WarmedH vm₁ → Pre ⟨T.setVm vm₁, locs, cells, slots⟩ argsL.toArray) :
    (∃ (v : Option Value) (vm₁ : Vm) (B : Pt), s.WarmedH vm₁ ∧ Stand p l e R s m args below meth c B.U B.locs B.cells B.slots ∧ Post ⟨T.setVm vm₁, locs, cells, slots⟩ argsL.toArray v B ∧
      ∀ target, Steps p.tables e below (B.U.setTop { g with pc := g.pc + 3, stack := v.toList ++ rest }) target → Steps p.tables e below (T.setTop g) target) ∨
    (∃ (q : Addr) (vm₁ : Vm) (B : Pt), s.WarmedH vm₁ ∧ Stand p l e R s m args below meth c B.U B.locs B.cells B.slots ∧ PostX ⟨T.setVm vm₁, locs, cells, slots⟩ argsL.toArray q B ∧
      Steps p.tables e below (T.setTop g) ((B.U.setTop { g with stack := rest }).pushFrame (.throwing q))) := by
  obtain ⟨mk, hnamed⟩ := Cond.code_named hcode
  obtain ⟨methM, cM, hmethM, -, -, -, -, -, -, hsigM⟩ := Cond.code_spec hnamed hcode
  have hstatic : methM.isStatic = true := Cond.static_spec hnamed hmethM hstat
  obtain ⟨kP, hkP, -⟩ := className_of_methodNamed hnamed
  have hinitP : kP.init = .initialized := Cond.initialized_spec (findClass_of_methodNamed hnamed) hkP hinit
  obtain ⟨vm₁, X₁, hstep₁⟩ := X.invokestatic hexec hown hlink hnamed hmethM hstatic hkP hinitP hy (g := g) hg (argsL := argsL) (rest := rest) (hlen _ hsigM) hstack hdg
  rcases hK m meth c ⟨T.setVm vm₁, locs, cells, slots⟩ { g with stack := rest } (.invokestatic index) mk argsL.toArray X₁ hg hsize hdg hW (X₁.named hnamed) (hpre vm₁ X₁.warmed) with ⟨v, B, X', hpost, hsteps⟩ | ⟨q, B, X', hpost, hsteps⟩
  · exact Or.inl ⟨v, vm₁, B, X₁.warmed, X', hpost, fun target h => hstep₁ _ fun acts => by rw [doInvoke_state]; exact hsteps.trans h⟩
  · exact Or.inr ⟨q, vm₁, B, X₁.warmed, X', hpost, hstep₁ _ fun acts => by rw [doInvoke_state]; exact hsteps⟩
end Calls
theorem vx_cls {s : State} {T : State} {vm₁ : Vm} {E : String} {k : ClassId} (hW : s.WarmedH vm₁) (h : (T.setVm vm₁).vm.findClass E = some k) : s.vm.findClass E = some k := by
  have h1 : vm₁.findClass E = some k := h
  rw [hW.alike.findClass] at h1
  exact h1
/-- the method's frame g, with q thrown over it -/
def vx_W (p : Program) (l : Launch) (e : Env) (R : Room) (s : State) (m : MethodId) (args : Array Value) (below : List Frame) (meth : Method) (c : Code) (H : Heap) (locs : List Loc) (cells slots : Nat) (Q : State → Prop) (g : JFrame) (q : Addr) : Prop :=
  ∀ T : State, T.heap = H → Stand p l e R s m args below meth c T locs cells slots → ∃ t, Steps p.tables e below ((T.setTop g).pushFrame (.throwing q)) t ∧ Q t
def vx_Run (p : Program) (l : Launch) (e : Env) (R : Room) (s : State) (m : MethodId) (args : Array Value) (below : List Frame) (meth : Method) (c : Code) (H : Heap) (locs : List Loc) (cells slots mc ms : Nat) (g : JFrame) (rest : List Value) (Qa : State → Outcome → State → Prop) (XC : String → State → State → Prop) (free : Addr → Prop) : Prop :=
  ∀ T : State, T.heap = H → Stand p l e R s m args below meth c T locs cells slots →
    (∃ (v : Option Value) (st₀ t T' : State) (L : List Loc), st₀.heap = H ∧ Stand p l e R s m args below meth c T' (locs ++ L) (cells + mc) (slots + ms) ∧ (∀ q ∈ L, free q.base) ∧ T'.heap = t.heap ∧ T'.vm = t.vm ∧ Qa st₀ (.returned v) t ∧
      Goes p e below T g T' { g with pc := g.pc + 3, stack := v.toList ++ rest }) ∨
    (∃ (q : Addr) (st₀ t T' : State) (L : List Loc) (E : String) (ce : Cell), st₀.heap = H ∧ Stand p l e R s m args below meth c T' (locs ++ L) (cells + mc) (slots + ms) ∧ (∀ z ∈ L, free z.base) ∧ T'.heap = t.heap ∧ T'.vm = t.vm ∧ XC E st₀ t ∧ t.heap[q]? = some ce ∧ ce.vm = .none ∧ s.vm.findClass E = some ce.cls ∧
      Steps p.tables e below (T.setTop g) ((T'.setTop { g with stack := rest }).pushFrame (.throwing q)))
def vx_X {S : Type} (px : S → Prop) (B : String → S → State → Prop) (A : Nat → Prop) : String → State → State → Prop := fun E st t => ∃ u : S, px u ∧ B E u t ∧ va_F A st t
section Runs
variable {p : Program} {l : Launch} {e : Env} {R : Room} {s : State} {m : MethodId} {args : Array Value} {below : List Frame} {meth : Method} {c : Code} {H : Heap} {locs : List Loc} {cells slots : Nat}
variable {y : MethodName} {bytes cc : ByteArray} {maxL nL mc ms n index : Nat} {ret : Option FieldType} {ws : List Cond} {rm : Room} {Pc : Array Value → State → Prop} {Qc : Array Value → State → Outcome → State → Prop} {XC : String → State → State → Prop} {free : Addr → Prop} {Ts : List Cond} {own C : String} {b : Addr} {As rest : List Value} {g : JFrame}
theorem vx_callBack (cb : CallB R s args own index y bytes maxL ret ws rm mc ms n) (hM : vx_Met l y ws rm Pc Qc XC mc ms free) (hbl : FrameBlind Pc) : vx_Back l R p e below s args y 3 8 (PreOf R mc ms Pc) (PostOf Qc mc ms free) (vx_Post XC mc ms free) := by
  obtain ⟨hrc, hrs, hfr, hlo, hws, hcw, -, hini, -⟩ := cb
  exact vx_back (bytes := bytes) (maxL := maxL) (ret := ret) hM hbl hrc hrs hfr hlo hws hcw (fun a' U hW => word_at hW (Or.inl (by first | rfl | simp [Cond.onTables, Cond.keeps, Cond.steady])) hini)
theorem vx_runV (S : CallFix p m c cc nL s args Ts own) (hM : vx_Met l y ws rm Pc Qc XC mc ms free) (cw : CallW R s args own C index y bytes maxL ret ws rm mc ms n) (hp : PreV s H C b Pc As)
    (hg : g.method = m) (hn : As.length = n) (hsize : g.locals.size = nL) (hstack : g.stack = As.reverse ++ .ref b :: rest) (hW : 2 * g.monitorRoom + (rest.map fun v => v.category).sum ≤ 8) (hdg : decode cc g.pc = .ok (.invokevirtual index, 3)) (hf : cells + mc ≤ R.cells ∧ slots + ms ≤ R.slots) :
    vx_Run p l e R s m args below meth c H locs cells slots mc ms g rest (Qc (Value.ref b :: As).toArray) XC free := by
  have hK : vx_Back l R p e below s args y 3 8 (PreOf R mc ms Pc) (PostOf Qc mc ms free) (vx_Post XC mc ms free) := vx_callBack cw.1 hM hp.1
  obtain ⟨⟨-, -, -, -, -, -, hcode, -, hy, hlen, hl⟩, hin, hse⟩ := cw
  obtain ⟨hx, hb, hml, ho, -⟩ := S
  obtain ⟨-, ⟨cellB, hcB, hoB, hclB⟩, hPc⟩ := hp
  intro T hT X
  rcases vx_callV X hx (C := C) (bytes := bytes) (maxL := maxL) (ret := ret) ho hl hin hse hcode hy hK (by rw [hT]; exact hcB) hoB hclB hg (hsize.trans hml.symm) (argsL := As) (rest := rest) (fun sig h => hn.trans (hlen sig h)) hstack hW (by rw [hb]; exact hdg)
    (fun vm₁ hW₁ => ⟨hf.1, hf.2, hPc (T.setVm vm₁) hT hW₁⟩) with ⟨v, vm₁, ⟨U', l2, c2, s2⟩, hW₁, X', ⟨g', mk, t, L, e1, e2, hq, h1, hL, h2, h3⟩, st⟩ | ⟨q, vm₁, ⟨U', l2, c2, s2⟩, hW₁, X', ⟨g', mk, t, L, E, ce, e1, e2, hq, hce, hcv, hcl, h1, hL, h2, h3⟩, st⟩
  · dsimp only [Pt.U, Pt.locs, Pt.cells, Pt.slots] at X' e1 e2 h1 h2 h3 st
    subst h1; subst h2; subst h3
    exact Or.inl ⟨v, (T.setVm vm₁).calling g' mk (Value.ref b :: As).toArray, t, U', L, hT, X', hL, e1, e2, hq, st⟩
  · dsimp only [Pt.U, Pt.locs, Pt.cells, Pt.slots] at X' e1 e2 h1 h2 h3 st hcl
    subst h1; subst h2; subst h3
    exact Or.inr ⟨q, (T.setVm vm₁).calling g' mk (Value.ref b :: As).toArray, t, U', L, E, ce, hT, X', hL, e1, e2, hq, hce, hcv, vx_cls hW₁ hcl, st⟩
theorem vx_runS (S : CallFix p m c cc nL s args Ts own) (hM : vx_Met l y ws rm Pc Qc XC mc ms free) (cw : CallB R s args own index y bytes maxL ret ws rm mc ms n ∧ (Cond.static y).before args s = true) (hp : PreS s H Pc As)
    (hg : g.method = m) (hn : As.length = n) (hsize : g.locals.size = nL) (hstack : g.stack = As.reverse ++ rest) (hW : 2 * g.monitorRoom + (rest.map fun v => v.category).sum ≤ 8) (hdg : decode cc g.pc = .ok (.invokestatic index, 3)) (hf : cells + mc ≤ R.cells ∧ slots + ms ≤ R.slots) :
    vx_Run p l e R s m args below meth c H locs cells slots mc ms g rest (Qc As.toArray) XC free := by
  have hK : vx_Back l R p e below s args y 3 8 (PreOf R mc ms Pc) (PostOf Qc mc ms free) (vx_Post XC mc ms free) := vx_callBack cw.1 hM hp.1
  obtain ⟨⟨-, -, -, -, -, -, hcode, hini, hy, hlen, hl⟩, hstt⟩ := cw
  obtain ⟨hx, hb, hml, ho, -⟩ := S
  intro T hT X
  rcases vx_callS X hx (bytes := bytes) (maxL := maxL) (ret := ret) ho hl hstt hini hcode hy hK hg (hsize.trans hml.symm) (argsL := As) (rest := rest) (fun sig h => hn.trans (hlen sig h)) hstack hW (by rw [hb]; exact hdg)
    (fun vm₁ hW₁ => ⟨hf.1, hf.2, hp.2 (T.setVm vm₁) hT hW₁⟩) with ⟨v, vm₁, ⟨U', l2, c2, s2⟩, hW₁, X', ⟨g', mk, t, L, e1, e2, hq, h1, hL, h2, h3⟩, st⟩ | ⟨q, vm₁, ⟨U', l2, c2, s2⟩, hW₁, X', ⟨g', mk, t, L, E, ce, e1, e2, hq, hce, hcv, hcl, h1, hL, h2, h3⟩, st⟩
  · dsimp only [Pt.U, Pt.locs, Pt.cells, Pt.slots] at X' e1 e2 h1 h2 h3 st
    subst h1; subst h2; subst h3
    exact Or.inl ⟨v, (T.setVm vm₁).calling g' mk As.toArray, t, U', L, hT, X', hL, e1, e2, hq, st⟩
  · dsimp only [Pt.U, Pt.locs, Pt.cells, Pt.slots] at X' e1 e2 h1 h2 h3 st hcl
    subst h1; subst h2; subst h3
    exact Or.inr ⟨q, (T.setVm vm₁).calling g' mk As.toArray, t, U', L, E, ce, hT, X', hL, e1, e2, hq, hce, hcv, vx_cls hW₁ hcl, st⟩
end Runs
section Rows
variable {p : Program} {l : Launch} {e : Env} {R : Room} {s : State} {m : MethodId} {args : Array Value} {below : List Frame} {meth : Method} {c : Code} {H : Heap} {locs : List Loc} {cells slots : Nat} {Q : State → Prop}
variable {mc ms : Nat} {free : Addr → Prop} {A0 A1 : Nat → Prop} {H0 : Heap} {a : Array Value} {pc : Nat} {ls : Array Slot} {st0 rest : List Value}
theorem vx_keep {st₀ t T' : State} {L : List Loc} (h0 : st₀.heap = H) (e1 : T'.heap = t.heap) (hS : va_S A0 H0 H locs) (hA : ∀ q, q < H.size → A1 q → A0 q) (hf : ∀ q, free q → A0 q) (hL : ∀ q ∈ L, free q.base) (hF : va_F A1 st₀ t) :
    H.size ≤ T'.heap.size ∧ (∀ q : Nat, q < H.size → ¬ A1 q → T'.heap[q]? = H[q]?) ∧ va_S A0 H0 T'.heap (locs ++ L) := by
  obtain ⟨hz, hk⟩ := hF
  rw [h0] at hz hk
  exact ⟨by rw [e1]; exact hz, fun q h1 h2 => by rw [e1]; exact hk q h1 h2,
    ⟨Nat.le_trans hS.1 (by rw [e1]; exact hz), fun q h1 h2 => by rw [e1, hk q (Nat.lt_of_lt_of_le h1 hS.1) (fun z => h2 (hA q (Nat.lt_of_lt_of_le h1 hS.1) z))]; exact hS.2.1 q h1 h2, fun q hq => by
      rcases List.mem_append.mp hq with h | h
      · exact hS.2.2 q h
      · exact hf _ (hL q h)⟩⟩
theorem vx_calli {S SX : Type} {post : Int32 → S → Prop} {px : SX → Prop} {B : S → State → Prop} {BX : String → SX → State → Prop} {AX : Nat → Prop} (hr : vx_Run p l e R s m args below meth c H locs cells slots mc ms (F0 m pc ls st0) rest (va_Qi post B A1 a) (vx_X px BX AX) free) (hS : va_S A0 H0 H locs) (hA : ∀ q, q < H.size → A1 q → A0 q) (hf : ∀ q, free q → A0 q) (hAX : ∀ q, q < H.size → AX q → A0 q)
    (kx : ∀ (E : String) (ce : Cell) (q9 : Addr) (u : SX) (t : State) (H1 : Heap) (locs1 : List Loc), t.heap = H1 → s.vm.Alike t.vm → px u → BX E u t → H.size ≤ H1.size → (∀ q : Nat, q < H.size → ¬ AX q → H1[q]? = H[q]?) → va_S A0 H0 H1 locs1 → H1[q9]? = some ce → ce.vm = .none → s.vm.findClass E = some ce.cls → vx_W p l e R s m args below meth c H1 locs1 (cells + mc) (slots + ms) Q (F0 m pc ls rest) q9)
    (kk : ∀ (r : Int32) (u : S) (t : State) (H1 : Heap) (locs1 : List Loc), t.heap = H1 → s.vm.Alike t.vm → post r u → B u t → H.size ≤ H1.size → (∀ q : Nat, q < H.size → ¬ A1 q → H1[q]? = H[q]?) → va_S A0 H0 H1 locs1 → W p l e R s m args below meth c H1 locs1 (cells + mc) (slots + ms) Q (F0 m (pc + 3) ls (.int r :: rest))) : W p l e R s m args below meth c H locs cells slots Q (F0 m pc ls st0) := by
  intro T hT X
  rcases hr T hT X with ⟨v, st₀, t, T', L, h0, X', hL, e1, e2, ⟨⟨r, u, hv, hp, hb⟩, hF⟩, st⟩ | ⟨q, st₀, t, T', L, E, ce, h0, X', hL, e1, e2, ⟨u, hp, hb, hF⟩, hce, hcv, hcl, st⟩
  · cases hv
    obtain ⟨k1, k2, k3⟩ := vx_keep h0 e1 hS hA hf hL hF
    obtain ⟨t2, a1, b1⟩ := kk r u t T'.heap (locs ++ L) e1.symm (by rw [← e2]; exact X'.warmed.alike) hp hb k1 k2 k3 T' rfl X'
    exact ⟨t2, st t2 a1, b1⟩
  · obtain ⟨k1, k2, k3⟩ := vx_keep h0 e1 hS hAX hf hL hF
    obtain ⟨t2, a1, b1⟩ := kx E ce q u t T'.heap (locs ++ L) e1.symm (by rw [← e2]; exact X'.warmed.alike) hp hb k1 k2 k3 (by rw [e1]; exact hce) hcv hcl T' rfl X'
    exact ⟨t2, st.trans a1, b1⟩
theorem vx_calll {S SX : Type} {post : Int64 → S → Prop} {px : SX → Prop} {B : S → State → Prop} {BX : String → SX → State → Prop} {AX : Nat → Prop} (hr : vx_Run p l e R s m args below meth c H locs cells slots mc ms (F0 m pc ls st0) rest (va_Ql post B A1 a) (vx_X px BX AX) free) (hS : va_S A0 H0 H locs) (hA : ∀ q, q < H.size → A1 q → A0 q) (hf : ∀ q, free q → A0 q) (hAX : ∀ q, q < H.size → AX q → A0 q)
    (kx : ∀ (E : String) (ce : Cell) (q9 : Addr) (u : SX) (t : State) (H1 : Heap) (locs1 : List Loc), t.heap = H1 → s.vm.Alike t.vm → px u → BX E u t → H.size ≤ H1.size → (∀ q : Nat, q < H.size → ¬ AX q → H1[q]? = H[q]?) → va_S A0 H0 H1 locs1 → H1[q9]? = some ce → ce.vm = .none → s.vm.findClass E = some ce.cls → vx_W p l e R s m args below meth c H1 locs1 (cells + mc) (slots + ms) Q (F0 m pc ls rest) q9)
    (kk : ∀ (r : Int64) (u : S) (t : State) (H1 : Heap) (locs1 : List Loc), t.heap = H1 → s.vm.Alike t.vm → post r u → B u t → H.size ≤ H1.size → (∀ q : Nat, q < H.size → ¬ A1 q → H1[q]? = H[q]?) → va_S A0 H0 H1 locs1 → W p l e R s m args below meth c H1 locs1 (cells + mc) (slots + ms) Q (F0 m (pc + 3) ls (.long r :: rest))) : W p l e R s m args below meth c H locs cells slots Q (F0 m pc ls st0) := by
  intro T hT X
  rcases hr T hT X with ⟨v, st₀, t, T', L, h0, X', hL, e1, e2, ⟨⟨r, u, hv, hp, hb⟩, hF⟩, st⟩ | ⟨q, st₀, t, T', L, E, ce, h0, X', hL, e1, e2, ⟨u, hp, hb, hF⟩, hce, hcv, hcl, st⟩
  · cases hv
    obtain ⟨k1, k2, k3⟩ := vx_keep h0 e1 hS hA hf hL hF
    obtain ⟨t2, a1, b1⟩ := kk r u t T'.heap (locs ++ L) e1.symm (by rw [← e2]; exact X'.warmed.alike) hp hb k1 k2 k3 T' rfl X'
    exact ⟨t2, st t2 a1, b1⟩
  · obtain ⟨k1, k2, k3⟩ := vx_keep h0 e1 hS hAX hf hL hF
    obtain ⟨t2, a1, b1⟩ := kx E ce q u t T'.heap (locs ++ L) e1.symm (by rw [← e2]; exact X'.warmed.alike) hp hb k1 k2 k3 (by rw [e1]; exact hce) hcv hcl T' rfl X'
    exact ⟨t2, st.trans a1, b1⟩
theorem vx_callf {S SX : Type} {post : UInt32 → S → Prop} {px : SX → Prop} {B : S → State → Prop} {BX : String → SX → State → Prop} {AX : Nat → Prop} (hr : vx_Run p l e R s m args below meth c H locs cells slots mc ms (F0 m pc ls st0) rest (va_Qf post B A1 a) (vx_X px BX AX) free) (hS : va_S A0 H0 H locs) (hA : ∀ q, q < H.size → A1 q → A0 q) (hf : ∀ q, free q → A0 q) (hAX : ∀ q, q < H.size → AX q → A0 q)
    (kx : ∀ (E : String) (ce : Cell) (q9 : Addr) (u : SX) (t : State) (H1 : Heap) (locs1 : List Loc), t.heap = H1 → s.vm.Alike t.vm → px u → BX E u t → H.size ≤ H1.size → (∀ q : Nat, q < H.size → ¬ AX q → H1[q]? = H[q]?) → va_S A0 H0 H1 locs1 → H1[q9]? = some ce → ce.vm = .none → s.vm.findClass E = some ce.cls → vx_W p l e R s m args below meth c H1 locs1 (cells + mc) (slots + ms) Q (F0 m pc ls rest) q9)
    (kk : ∀ (r : UInt32) (u : S) (t : State) (H1 : Heap) (locs1 : List Loc), t.heap = H1 → s.vm.Alike t.vm → post r u → B u t → H.size ≤ H1.size → (∀ q : Nat, q < H.size → ¬ A1 q → H1[q]? = H[q]?) → va_S A0 H0 H1 locs1 → W p l e R s m args below meth c H1 locs1 (cells + mc) (slots + ms) Q (F0 m (pc + 3) ls (.float r :: rest))) : W p l e R s m args below meth c H locs cells slots Q (F0 m pc ls st0) := by
  intro T hT X
  rcases hr T hT X with ⟨v, st₀, t, T', L, h0, X', hL, e1, e2, ⟨⟨r, u, hv, hp, hb⟩, hF⟩, st⟩ | ⟨q, st₀, t, T', L, E, ce, h0, X', hL, e1, e2, ⟨u, hp, hb, hF⟩, hce, hcv, hcl, st⟩
  · cases hv
    obtain ⟨k1, k2, k3⟩ := vx_keep h0 e1 hS hA hf hL hF
    obtain ⟨t2, a1, b1⟩ := kk r u t T'.heap (locs ++ L) e1.symm (by rw [← e2]; exact X'.warmed.alike) hp hb k1 k2 k3 T' rfl X'
    exact ⟨t2, st t2 a1, b1⟩
  · obtain ⟨k1, k2, k3⟩ := vx_keep h0 e1 hS hAX hf hL hF
    obtain ⟨t2, a1, b1⟩ := kx E ce q u t T'.heap (locs ++ L) e1.symm (by rw [← e2]; exact X'.warmed.alike) hp hb k1 k2 k3 (by rw [e1]; exact hce) hcv hcl T' rfl X'
    exact ⟨t2, st.trans a1, b1⟩
theorem vx_calld {S SX : Type} {post : UInt64 → S → Prop} {px : SX → Prop} {B : S → State → Prop} {BX : String → SX → State → Prop} {AX : Nat → Prop} (hr : vx_Run p l e R s m args below meth c H locs cells slots mc ms (F0 m pc ls st0) rest (va_Qd post B A1 a) (vx_X px BX AX) free) (hS : va_S A0 H0 H locs) (hA : ∀ q, q < H.size → A1 q → A0 q) (hf : ∀ q, free q → A0 q) (hAX : ∀ q, q < H.size → AX q → A0 q)
    (kx : ∀ (E : String) (ce : Cell) (q9 : Addr) (u : SX) (t : State) (H1 : Heap) (locs1 : List Loc), t.heap = H1 → s.vm.Alike t.vm → px u → BX E u t → H.size ≤ H1.size → (∀ q : Nat, q < H.size → ¬ AX q → H1[q]? = H[q]?) → va_S A0 H0 H1 locs1 → H1[q9]? = some ce → ce.vm = .none → s.vm.findClass E = some ce.cls → vx_W p l e R s m args below meth c H1 locs1 (cells + mc) (slots + ms) Q (F0 m pc ls rest) q9)
    (kk : ∀ (r : UInt64) (u : S) (t : State) (H1 : Heap) (locs1 : List Loc), t.heap = H1 → s.vm.Alike t.vm → post r u → B u t → H.size ≤ H1.size → (∀ q : Nat, q < H.size → ¬ A1 q → H1[q]? = H[q]?) → va_S A0 H0 H1 locs1 → W p l e R s m args below meth c H1 locs1 (cells + mc) (slots + ms) Q (F0 m (pc + 3) ls (.double r :: rest))) : W p l e R s m args below meth c H locs cells slots Q (F0 m pc ls st0) := by
  intro T hT X
  rcases hr T hT X with ⟨v, st₀, t, T', L, h0, X', hL, e1, e2, ⟨⟨r, u, hv, hp, hb⟩, hF⟩, st⟩ | ⟨q, st₀, t, T', L, E, ce, h0, X', hL, e1, e2, ⟨u, hp, hb, hF⟩, hce, hcv, hcl, st⟩
  · cases hv
    obtain ⟨k1, k2, k3⟩ := vx_keep h0 e1 hS hA hf hL hF
    obtain ⟨t2, a1, b1⟩ := kk r u t T'.heap (locs ++ L) e1.symm (by rw [← e2]; exact X'.warmed.alike) hp hb k1 k2 k3 T' rfl X'
    exact ⟨t2, st t2 a1, b1⟩
  · obtain ⟨k1, k2, k3⟩ := vx_keep h0 e1 hS hAX hf hL hF
    obtain ⟨t2, a1, b1⟩ := kx E ce q u t T'.heap (locs ++ L) e1.symm (by rw [← e2]; exact X'.warmed.alike) hp hb k1 k2 k3 (by rw [e1]; exact hce) hcv hcl T' rfl X'
    exact ⟨t2, st.trans a1, b1⟩
theorem vx_callv {S SX : Type} {post : S → Prop} {px : SX → Prop} {B : S → State → Prop} {BX : String → SX → State → Prop} {AX : Nat → Prop} (hr : vx_Run p l e R s m args below meth c H locs cells slots mc ms (F0 m pc ls st0) rest (va_Qv post B A1 a) (vx_X px BX AX) free) (hS : va_S A0 H0 H locs) (hA : ∀ q, q < H.size → A1 q → A0 q) (hf : ∀ q, free q → A0 q) (hAX : ∀ q, q < H.size → AX q → A0 q)
    (kx : ∀ (E : String) (ce : Cell) (q9 : Addr) (u : SX) (t : State) (H1 : Heap) (locs1 : List Loc), t.heap = H1 → s.vm.Alike t.vm → px u → BX E u t → H.size ≤ H1.size → (∀ q : Nat, q < H.size → ¬ AX q → H1[q]? = H[q]?) → va_S A0 H0 H1 locs1 → H1[q9]? = some ce → ce.vm = .none → s.vm.findClass E = some ce.cls → vx_W p l e R s m args below meth c H1 locs1 (cells + mc) (slots + ms) Q (F0 m pc ls rest) q9)
    (kk : ∀ (u : S) (t : State) (H1 : Heap) (locs1 : List Loc), t.heap = H1 → s.vm.Alike t.vm → post u → B u t → H.size ≤ H1.size → (∀ q : Nat, q < H.size → ¬ A1 q → H1[q]? = H[q]?) → va_S A0 H0 H1 locs1 → W p l e R s m args below meth c H1 locs1 (cells + mc) (slots + ms) Q (F0 m (pc + 3) ls (rest))) : W p l e R s m args below meth c H locs cells slots Q (F0 m pc ls st0) := by
  intro T hT X
  rcases hr T hT X with ⟨v, st₀, t, T', L, h0, X', hL, e1, e2, ⟨⟨u, hv, hp, hb⟩, hF⟩, st⟩ | ⟨q, st₀, t, T', L, E, ce, h0, X', hL, e1, e2, ⟨u, hp, hb, hF⟩, hce, hcv, hcl, st⟩
  · cases hv
    obtain ⟨k1, k2, k3⟩ := vx_keep h0 e1 hS hA hf hL hF
    obtain ⟨t2, a1, b1⟩ := kk u t T'.heap (locs ++ L) e1.symm (by rw [← e2]; exact X'.warmed.alike) hp hb k1 k2 k3 T' rfl X'
    exact ⟨t2, st t2 a1, b1⟩
  · obtain ⟨k1, k2, k3⟩ := vx_keep h0 e1 hS hAX hf hL hF
    obtain ⟨t2, a1, b1⟩ := kx E ce q u t T'.heap (locs ++ L) e1.symm (by rw [← e2]; exact X'.warmed.alike) hp hb k1 k2 k3 (by rw [e1]; exact hce) hcv hcl T' rfl X'
    exact ⟨t2, st.trans a1, b1⟩
/-- caught by the row x of this method's table; the rows ahead don't take it -/
theorem vx_catch {own name : String} {E : String} {ce : Cell} {q : Addr} (hown : s.vm.findClass own = some m.cls) (pre : List ExceptionTableEntry) (x : ExceptionTableEntry) (suf : List ExceptionTableEntry) (hsplit : c.exceptionTable.toList = pre ++ x :: suf)
    (hpass : ∀ z ∈ pre, covers z pc = false ∨ (z.catchType ≠ 0 ∧ ∃ nm : String, (Cond.classLink own z.catchType nm).before args s = true ∧ va_Nc E nm s)) (hx : covers x pc = true) (h0 : x.catchType ≠ 0)
    (hlink : (Cond.classLink own x.catchType name).before args s = true) (hcast : (Cond.castable E name).before args s = true) (hcell : H[q]? = some ce) (hv : ce.vm = .none) (hcl : s.vm.findClass E = some ce.cls)
    (kk : W p l e R s m args below meth c H locs cells slots Q (F0 m x.handlerPc ls [.ref q])) : vx_W p l e R s m args below meth c H locs cells slots Q (F0 m pc ls rest) q := by
  intro T hT X
  have hpl : e.platform.magicAccessors = ({} : Platform).magicAccessors := by rw [X.admits.platform]
  obtain ⟨c3, c4, hc3, hc4, hasg⟩ := Cond.castable_spec hcast
  cases Option.some.inj (hc3.symm.trans hcl)
  obtain ⟨c5, hc5, hcl5⟩ := Cond.classLink_spec hown hlink e.platform hpl
  cases Option.some.inj (hc4.symm.trans hc5)
  obtain ⟨vm', X', st⟩ := X.thenCaughtThrough q (g := F0 m pc ls rest) rfl (Steps.refl _) (by rw [hT]; exact hcell) (by rw [hv]; rfl) (by obtain ⟨k9, h9, -⟩ := Vm.findClass_spec hcl; exact ⟨k9, h9⟩) pre x suf hsplit
    (fun z hz => by
      rcases hpass z hz with h | ⟨hz0, nm, hl1, hn1⟩
      · exact Or.inl h
      · obtain ⟨c6, hc6, hcl6⟩ := Cond.classLink_spec hown hl1 e.platform hpl
        obtain ⟨a8, b8, h1, h2, h3⟩ := hn1
        cases Option.some.inj (h1.symm.trans hcl)
        cases Option.some.inj (h2.symm.trans hc6)
        exact Or.inr ⟨hz0, _, hcl6, h3⟩) hx (Or.inr ⟨h0, c4, hcl5, hasg⟩)
  obtain ⟨t, a1, b1⟩ := kk (T.setVm vm') hT X'
  exact ⟨t, st.trans a1, b1⟩
end Rows
section Ends
variable {p : Program} {l : Launch} {e : Env} {R : Room} {s : State} {m : MethodId} {args : Array Value} {below : List Frame} {meth : Method} {c : Code} {H : Heap} {locs : List Loc} {cells slots : Nat} {Q : State → Prop}
variable {mc ms : Nat} {free : Addr → Prop} {A0 A1 : Nat → Prop} {H0 : Heap} {a : Array Value} {ls : Array Slot} {st0 rest : List Value}
variable {Qc : Array Value → State → Outcome → State → Prop} {XC : String → State → State → Prop}
/-- what a body that may throw owes at its end -/
def vx_MQ (below : List Frame) (Qc : Array Value → State → Outcome → State → Prop) (XC : String → State → State → Prop) (a : Array Value) (s : State) (mc ms : Nat) (free : Addr → Prop) : State → Prop := fun t =>
  ∃ o, t.status = .running ∧ Ended t below o ∧ vx_Q Qc XC mc ms free a s o t
theorem vx_ret {g : JFrame} {mc ms : Nat} (k : W p l e R s m args below meth c H locs cells slots (MQ below Qc args s mc ms free) g) : W p l e R s m args below meth c H locs cells slots (vx_MQ below Qc XC args s mc ms free) g := by
  intro T hT X
  obtain ⟨t, a1, o, b1, b2, b3, b4⟩ := k T hT X
  exact ⟨t, a1, o, b1, b2, Or.inl ⟨b3, b4⟩⟩
/-- not caught here: it goes on to the caller -/
theorem vx_widen {g : JFrame} {q : Addr} {k n : Nat} (h1 : cells ≤ k) (h2 : slots ≤ n) (kk : vx_W p l e R s m args below meth c H locs k n Q g q) : vx_W p l e R s m args below meth c H locs cells slots Q g q := fun T hT X => kk T hT (stand_widen X h1 h2)
theorem vx_out {pc : Nat} {E : String} {ce : Cell} {q : Addr} {mc ms : Nat} (hout : ∀ x ∈ c.exceptionTable.toList, covers x pc = false) (hlocks : meth.locks = false) (hcell : H[q]? = some ce) (hv : ce.vm = .none) (hcl : s.vm.findClass E = some ce.cls)
    (hx : ∀ t : State, t.heap = H → s.vm.Alike t.vm → XC E s t) (hf : ∀ z ∈ locs, free z.base) (hc : cells ≤ mc) (hs : slots ≤ ms) :
    vx_W p l e R s m args below meth c H locs cells slots (vx_MQ below Qc XC args s mc ms free) (F0 m pc ls rest) q := by
  intro T hT X
  obtain ⟨st1, hrun, hend, hW, hsm⟩ := X.leaveThrown q (g := F0 m pc ls rest) rfl rfl rfl hout hlocks
  have hcell9 : (T.setFrames (.throwing q :: below)).heap[q]? = some ce := by
    show T.heap[q]? = some ce
    rw [hT]; exact hcell
  exact ⟨_, st1, .threw q, hrun, hend, Or.inr ⟨q, rfl, E, ce, locs, hx _ hT hW.alike, hcell9, hv, hcl, hW, hsm.mono hc hs, hf⟩⟩
theorem vx_frame {U : State} {k n : Nat} (h : s.sameButNew ({ U with vm := s.vm } : State) locs k n) : s.heap.size ≤ U.heap.size ∧ ∀ q : Nat, q < s.heap.size → (∀ z ∈ locs, z.base ≠ q) → U.heap[q]? = s.heap[q]? := by
  obtain ⟨-, h2, -, -, -, h6⟩ := h
  refine ⟨h2, fun q hq hz => ?_⟩
  obtain ⟨c9, e1, e2, e3, e4⟩ := h6 q _ (Array.getElem?_eq_getElem hq)
  have hs : c9.slots = (s.heap[q]).slots := Array.ext_getElem? fun i => e4 i fun hm => hz _ hm rfl
  have h9 : c9 = s.heap[q] := by
    rw [hs] at e2
    exact e2
  have e5 : U.heap[q]? = some c9 := e1
  rw [e5, h9, Array.getElem?_eq_getElem hq]
/-- the words of a throw but the four that speak of the heap -/
def vx_no (w : Cond) : Bool := decide (w ≠ .isRef (.static Bundle.tN "UNASSIGNED_STACK" Bundle.steD)) && decide (w ≠ .isRef (.static Bundle.tN "SUPPRESSED_SENTINEL" Bundle.listD)) && decide (w ≠ .laysStatic Bundle.tN "UNASSIGNED_STACK" Bundle.steD) && decide (w ≠ .laysStatic Bundle.tN "SUPPRESSED_SENTINEL" Bundle.listD)
def vx_at0 (own : String) (ic : Nat) (X : String) (names : List String) : List Cond := (Bundle.ownAtoms0 own ic X names).filter vx_no
def vx_atS (own : String) (ic : Nat) (X : String) (names : List String) : List Cond := (Bundle.ownAtoms own ic X names).filter vx_no
/-- a word that the tables alone decide, or a good one -/
def vx_ot (w : Cond) : Bool := w.onTables || goodWord w
theorem vx_ot_at {args a' : Array Value} {s U : State} {w : Cond} (hW : s.WarmedH U.vm) (hvm : s.vm = U.vm) (hg : vx_ot w = true) (h : w.before args s = true) : w.before a' U = true := by
  simp only [vx_ot, Bool.or_eq_true] at hg
  rcases hg with hg | hg
  · exact va_tabs hg hvm h
  · exact word_at hW (good_of_word hg) h
/-- a list's words: the good ones out of the method's own list, the others by premises of their own -/
theorem vx_hat {args : Array Value} {s : State} {L B : List Cond} (h1 : ∀ w ∈ L.filter goodWord, w.before args s = true) (h2 : ∀ w ∈ L.filter (fun w => !goodWord w), w ∈ B) (h3 : ∀ w ∈ B, w.before args s = true) : ∀ w ∈ L, w.before args s = true := by
  intro w hw
  by_cases g : goodWord w = true
  · exact h1 w (List.mem_filter.mpr ⟨hw, g⟩)
  · refine h3 w (h2 w (List.mem_filter.mpr ⟨hw, ?_⟩))
    show (!goodWord w) = true
    cases hgw : goodWord w
    · rfl
    · exact absurd hgw g
theorem vx_c {args : Array Value} {s : State} {w : Cond} {B : List Cond} (h : w.before args s = true) (t : ∀ w ∈ B, w.before args s = true) : ∀ w' ∈ w :: B, w'.before args s = true := fun w' h' => (List.mem_cons.mp h').elim (fun e => by rw [e]; exact h) (t w')
theorem vx_n {args : Array Value} {s : State} : ∀ w ∈ ([] : List Cond), w.before args s = true := fun _ h => nomatch h
theorem vx_own {args : Array Value} {s : State} {L : List Cond} (h1 : ∀ w ∈ L.filter vx_no, w.before args s = true)
    (hU : (Cond.isRef (.static Bundle.tN "UNASSIGNED_STACK" Bundle.steD)).before args s = true) (hN : (Cond.isRef (.static Bundle.tN "SUPPRESSED_SENTINEL" Bundle.listD)).before args s = true)
    (lU : (Cond.laysStatic Bundle.tN "UNASSIGNED_STACK" Bundle.steD).before args s = true) (lN : (Cond.laysStatic Bundle.tN "SUPPRESSED_SENTINEL" Bundle.listD).before args s = true) : ∀ w ∈ L, w.before args s = true := by
  intro w hw
  by_cases e1 : w = .isRef (.static Bundle.tN "UNASSIGNED_STACK" Bundle.steD)
  · rw [e1]; exact hU
  · by_cases e2 : w = .isRef (.static Bundle.tN "SUPPRESSED_SENTINEL" Bundle.listD)
    · rw [e2]; exact hN
    · by_cases e3 : w = .laysStatic Bundle.tN "UNASSIGNED_STACK" Bundle.steD
      · rw [e3]; exact lU
      · by_cases e4 : w = .laysStatic Bundle.tN "SUPPRESSED_SENTINEL" Bundle.listD
        · rw [e4]; exact lN
        · exact h1 w (List.mem_filter.mpr ⟨hw, by unfold vx_no; rw [decide_eq_true e1, decide_eq_true e2, decide_eq_true e3, decide_eq_true e4]; rfl⟩)
/-- where a static field lies, its class's statics cell in H -/
def vx_L (C n d : String) (A : Nat → Prop) (U : State) (H : Heap) : Prop := ∃ (c : ClassId) (k : Class) (i : Nat) (f : Field) (a : Nat) (cell : Cell), U.vm.findClass C = some c ∧ U.fieldFound? C n d = some (c, k, i, f) ∧ f.isStatic = true ∧ k.statics = some a ∧ H[a]? = some cell ∧ cell.vm.isStatics = true ∧ cell.cls = c ∧ f.slot < cell.slots.size ∧ k.staticTypes[f.slot]? = some f.type ∧ ¬ A a
theorem vx_L.moved {C n d : String} {A : Nat → Prop} {u U : State} {H : Heap} (hvm : u.vm.Alike U.vm) (h : vx_L C n d A u H) : vx_L C n d A U H := by
  obtain ⟨c, k, i, f, a, cell, h1, h2, h3, h4, h5, h6, h7, h8, h9, h10⟩ := h
  obtain ⟨k', hi', he⟩ := State.fieldFound?_setVm hvm h2
  exact ⟨c, k', i, f, a, cell, by rw [hvm.findClass]; exact h1, hi', h3, by rw [he]; exact h4, h5, h6, h7, h8, by rw [he]; exact h9, h10⟩
theorem vx_L.kept {C n d : String} {A : Nat → Prop} {U : State} {H H1 : Heap} (h : vx_L C n d A U H) (hq : ∀ a : Nat, a < H.size → ¬ A a → H1[a]? = H[a]?) : vx_L C n d A U H1 := by
  obtain ⟨c, k, i, f, a, cell, h1, h2, h3, h4, h5, h6, h7, h8, h9, h10⟩ := h
  exact ⟨c, k, i, f, a, cell, h1, h2, h3, h4, by rw [hq a (Array.getElem?_eq_some_iff.mp h5).1 h10]; exact h5, h6, h7, h8, h9, h10⟩
theorem vx_L.narrow {C n d : String} {A B : Nat → Prop} {U : State} {H : Heap} (h : vx_L C n d A U H) (hAB : ∀ q, B q → A q) : vx_L C n d B U H := by
  obtain ⟨c, k, i, f, a, cell, h1, h2, h3, h4, h5, h6, h7, h8, h9, h10⟩ := h
  exact ⟨c, k, i, f, a, cell, h1, h2, h3, h4, h5, h6, h7, h8, h9, fun z => h10 (hAB _ z)⟩
theorem vx_L.word {C n d : String} {A : Nat → Prop} {s : State} {args : Array Value} (h : vx_L C n d A s s.heap) : (Cond.laysStatic C n d).before args s = true := by
  obtain ⟨c, k, i, f, a, cell, h1, h2, h3, h4, h5, h6, h7, h8, h9, -⟩ := h
  show (Cond.laysStatic C n d).holds args s none s [] = true
  exact Cond.laysStatic_of h1 h2 h3 h4 h5 h6 h7 h8 h9
/-- .. and what it holds: null or some reference -/
def vx_Zq (C n d : String) (A : Nat → Prop) (U : State) (H : Heap) : Prop := va_Zq C n d A U H ∧ vx_L C n d A U H
theorem vx_Zq.moved {C n d : String} {A : Nat → Prop} {u U : State} {H : Heap} (hvm : u.vm.Alike U.vm) (h : vx_Zq C n d A u H) : vx_Zq C n d A U H := ⟨va_Zq.moved hvm h.1, vx_L.moved hvm h.2⟩
theorem vx_Zq.kept {C n d : String} {A : Nat → Prop} {U : State} {H H1 : Heap} (h : vx_Zq C n d A U H) (hq : ∀ a : Nat, a < H.size → ¬ A a → H1[a]? = H[a]?) : vx_Zq C n d A U H1 := ⟨va_Zq.kept h.1 hq, vx_L.kept h.2 hq⟩
theorem vx_Zq.narrow {C n d : String} {A B : Nat → Prop} {U : State} {H : Heap} (h : vx_Zq C n d A U H) (hAB : ∀ q, B q → A q) : vx_Zq C n d B U H := ⟨va_Zq.narrow h.1 hAB, vx_L.narrow h.2 hAB⟩
theorem vx_Zqof {args : Array Value} {s : State} {C n d : String} {A : Nat → Prop} (hl : (Cond.laysStatic C n d).before args s = true) (hini : (Cond.initialized C).before args s = true) (h : (Cond.isRef (.static C n d)).before args s = true) (hA : ∀ a : Nat, a < s.heap.size → ¬ A a) : vx_Zq C n d A s s.heap := by
  refine ⟨va_Zqof hl hini h hA, ?_⟩
  obtain ⟨c, k, i, f, a, cell, h1, h2, h3, h4, h5, h6, h7, h8, h9⟩ := Cond.laysStatic_spec hl
  exact ⟨c, k, i, f, a, cell, h1, h2, h3, h4, h5, h6, h7, h8, h9, hA a (Array.getElem?_eq_some_iff.mp h5).1⟩
theorem vx_isRef {C n d : String} {v : Value} {A : Nat → Prop} {s : State} {args : Array Value} (h : va_Z C n d v A s s.heap) (hv : v.isRef = true) : (Cond.isRef (.static C n d)).before args s = true := by
  obtain ⟨cf, kf, fi, f, a, cell, h1, h2, h3, h4, h5, h6, h7, -⟩ := h
  have he : (Term.static C n d).eval args s none [] s = some v := by
    simp [Term.eval, State.fieldNamed?, h1, h2, h4, h5, h6, h7]
  simp only [Cond.before, Cond.holds, Cond.value, he]
  cases v <;> simp_all [Value.isRef]
theorem vx_isRefq {C n d : String} {A : Nat → Prop} {s : State} {args : Array Value} (h : va_Zq C n d A s s.heap) : (Cond.isRef (.static C n d)).before args s = true := by
  rcases h with h | ⟨t, h⟩
  · exact vx_isRef h rfl
  · exact vx_isRef h rfl
/-- the same frame, seen from here: as if the method were called anew in this heap -/
theorem vx_rebase {T : State} (X : Stand p l e R s m args below meth c T locs cells slots) {R' : Room} (hf : R'.frames ≤ R.frames) (hl : R'.locals ≤ R.locals) (hc : cells + R'.cells ≤ R.cells) (hs : slots + R'.slots ≤ R.slots) :
    Stand p l e R' ((T.setVm s.vm).setFrames (.invoking m args :: below)) m args below meth c T [] 0 0 := by
  have htop : (T.setVm s.vm).topJava?.isSome := X.here.top
  have hF : ((T.setVm s.vm).setFrames (.invoking m args :: below)).frames = .invoking m args :: below := State.frames_setFrames _ (State.cur_lt_of_top htop)
  obtain ⟨g₀, hg0⟩ := Option.isSome_iff_exists.mp htop
  obtain ⟨r, hr⟩ := State.topJava?_eq_some.mp hg0
  have hl9 : e.platform.stackLimits (T.setVm s.vm).me = e.platform.stackLimits s.me := X.limits
  have hb9 : (T.setVm s.vm).me.stackBytes = s.me.stackBytes := X.bytes
  refine ⟨X.admits, X.cas, X.clock, hF, ?_, X.hears, X.method, X.code, X.here, X.tail, X.warmed, ?_, ?_, ?_⟩
  · have h := X.room
    have hU : ((T.setVm s.vm).setFrames (.invoking m args :: below)).localsInUse = s.localsInUse := by
      rw [State.localsInUse_invoking hF (meth := meth) (c := c) X.method X.code, State.localsInUse_invoking X.frames X.method X.code]
    simp only [State.hasRoom, Bool.and_eq_true, decide_eq_true_eq] at h ⊢
    obtain ⟨⟨⟨⟨h1, h2, h3, h4, h5, h6⟩, h7⟩, h8⟩, h9⟩ := h
    rw [X.frames, List.length_cons] at h2 h3
    have q1 := X.heapSize
    have q2 := X.used
    simp only [hF, hU, List.length_cons, State.stackLimits_setFrames, State.stackBytes_setFrames, hl9, hb9]
    refine ⟨⟨⟨⟨by omega, by omega, by omega, by omega, by omega, h6⟩, ?_⟩, ?_⟩, X.book⟩
    · show T.heap.size + R'.cells ≤ e.platform.maxCells
      omega
    · show T.slotsUsed + R'.slots ≤ e.platform.maxSlots
      omega
  · rw [State.stackLimits_setFrames]; rfl
  · rw [State.stackBytes_setFrames]; rfl
  · refine ⟨?_, Nat.le_refl _, Nat.le_refl _, ?_, ?_, fun a c9 h9 => ⟨c9, h9, rfl, rfl, fun _ _ => rfl⟩⟩
    · obtain ⟨t, ht, -⟩ := State.frames_cons hr
      show T.setVm s.vm = { ((T.setVm s.vm).setFrames (.invoking m args :: below)).setFrames (T.setVm s.vm).frames with heap := T.heap, slotsUsed := T.slotsUsed }
      rw [State.setFrames_setFrames, State.setFrames_self ht]
      rfl
    · show T.slotsUsed = T.slotsUsed + ((T.heap.toList.drop T.heap.size).map (·.slots.size)).sum
      rw [List.drop_eq_nil_of_le (Nat.le_of_eq Array.length_toList)]
      rfl
    · show ((T.heap.toList.drop T.heap.size).map (·.slots.size)).sum ≤ 0
      rw [List.drop_eq_nil_of_le (Nat.le_of_eq Array.length_toList)]
      exact Nat.le_refl _
/-- 'throw new E()': new; dup; invokespecial; athrow -/
theorem vx_throw0 {cc : ByteArray} {pc : Nat} (hexec : p.tables.exec = Jvm.exec) (hb : c.code = cc) (hl : l.stackTraces = false) {own cls : String} {names : List String} {ik ic mc ms : Nat} {A : Nat → Prop}
    (hown : s.vm.findClass own = some m.cls) (hcls : Bundle.fit cls = true) (hnames : ∀ n ∈ names, Bundle.fit n = true)
    (hk : (Cond.classLink own ik cls).before args s = true) (hini : (Cond.initialized cls).before args s = true) (hat : ∀ w ∈ vx_at0 own ic cls names, w.before args s = true)
    (hgood : ∀ w ∈ Cond.classLink own ik cls :: Cond.initialized cls :: vx_at0 own ic cls names, vx_ot w = true)
    (hU : vx_Zq Bundle.tN "UNASSIGNED_STACK" Bundle.steD A s s.heap) (hN : vx_Zq Bundle.tN "SUPPRESSED_SENTINEL" Bundle.listD A s s.heap) (hS : va_S A s.heap H locs) (hsize : ls.size = c.maxLocals)
    (d0 : decode cc pc = .ok (.new ik, 3)) (d3 : decode cc (pc + 3) = .ok (.dup, 1)) (d4 : decode cc (pc + 4) = .ok (.invokespecial ic, 3)) (d7 : decode cc (pc + 7) = .ok (.athrow, 1))
    (hout : ∀ x ∈ c.exceptionTable.toList, covers x (pc + 7) = false)
    (hRframes : names.length + 3 < R.frames) (hRlocals : (rest.map fun v => v.category).sum + (13 * (names.length + 1) + 42) ≤ R.locals) (hRcells : cells + 1 ≤ R.cells) (hRslots : slots + 6 ≤ R.slots) (hlocks : meth.locks = false)
    (hx : ∀ t : State, s.vm.Alike t.vm → H.size ≤ t.heap.size → (∀ q : Nat, q < H.size → t.heap[q]? = H[q]?) → XC cls s t)
    (hf : ∀ z ∈ locs, free z.base) (hc : cells + 1 ≤ mc) (hs : slots + 6 ≤ ms) :
    W p l e R s m args below meth c H locs cells slots (vx_MQ below Qc XC args s mc ms free) (F0 m pc ls rest) := by
  intro T hT X
  have htr : e.platform.stackTraces = false := (show e.platform.stackTraces = l.stackTraces by rw [X.admits.platform]).trans hl
  have Y := vx_rebase X (R' := { frames := R.frames, locals := R.locals, cells := 1, slots := 6 }) (Nat.le_refl _) (Nat.le_refl _) hRcells hRslots
  obtain ⟨s', hA⟩ : ∃ z, z = (T.setVm s.vm).setFrames (.invoking m args :: below) := ⟨_, rfl⟩
  rw [← hA] at Y
  have hvm : s'.vm = s.vm := by rw [hA]; rfl
  have hhp : s'.heap = H := by rw [hA]; exact hT
  have hW0 : s.WarmedH s'.vm := by rw [hvm]; exact State.WarmedH.refl s
  have hat' : ∀ w ∈ vx_at0 own ic cls names, w.before args s' = true := fun w hw => vx_ot_at hW0 hvm.symm (hgood w (List.mem_cons_of_mem _ (List.mem_cons_of_mem _ hw))) (hat w hw)
  have hk' : (Cond.classLink own ik cls).before args s' = true := vx_ot_at hW0 hvm.symm (hgood _ List.mem_cons_self) hk
  have hini' : (Cond.initialized cls).before args s' = true := vx_ot_at hW0 hvm.symm (hgood _ (List.mem_cons_of_mem _ List.mem_cons_self)) hini
  have hU' : vx_Zq Bundle.tN "UNASSIGNED_STACK" Bundle.steD A s' s'.heap := by rw [hhp]; exact vx_Zq.moved hW0.alike (hU.kept hS.2.1)
  have hN' : vx_Zq Bundle.tN "SUPPRESSED_SENTINEL" Bundle.listD A s' s'.heap := by rw [hhp]; exact vx_Zq.moved hW0.alike (hN.kept hS.2.1)
  have h : ∀ w ∈ Bundle.ownAtoms0 own ic cls names, w.before args s' = true := vx_own hat' (vx_isRefq hU'.1) (vx_isRefq hN'.1) hU'.2.word hN'.2.word
  have hown' : s'.vm.findClass own = some m.cls := by rw [hvm]; exact hown
  have hins : (Cond.instantiable cls 6).before args s' = true := h _ (by simp [Bundle.ownAtoms0])
  obtain ⟨vm₁, cX, kX, hfX, hkX, -, -, X₁, st1⟩ := Y.newCold hexec (own := own) (C := cls) (index := ik) (n := 6) hown' hk' hins hini'
    (g := F0 m pc ls rest) rfl (by rw [hb]; exact d0) (Nat.le_refl _) (Nat.le_refl _)
  generalize hT1 : (T.setVm vm₁).pushCell { cls := cX, slots := kX.instanceTypes.map defaultValue, vm := .none } = T1 at X₁ st1
  have hcat : (Value.ref T.heap.size).category = 1 := rfl
  have hcellA : T1.heap[T.heap.size]? = some (freshCell cX kX) := by rw [← hT1]; exact State.heap_pushCell_size _ _
  have d3' : decode c.code (pc + 3) = .ok (.dup, 1) := by rw [hb]; exact d3
  obtain ⟨U, hsteps, hrun, hend, hW, hsame, ce, hce, hO⟩ := X₁.ctorThrow0 hexec htr (own := own) (cls := cls) (names := names) (ic := ic) hown' hcls hnames h (fun x hx => nomatch hx) hfX hkX hcellA (by rw [hhp, hT]; exact Nat.le_refl _)
    (g := { method := m, pc := pc + 4, locals := ls, stack := .ref T.heap.size :: .ref T.heap.size :: rest, locked := none }) rfl hsize rfl rfl (rest := rest) rfl
    (by rw [hb]; exact d4) (by rw [hb]; exact d7) hout hRframes (by simp only [List.map_cons, List.sum_cons, hcat]; omega) hlocks
  obtain ⟨f1, f2⟩ := vx_frame hsame
  rw [hhp] at f1 f2
  have hWs : s.WarmedH U.vm := State.WarmedH.trans hW0 hW
  have hcl : s.vm.findClass cls = some ce.cls := by
    have h9 := hO.cls
    rw [hvm] at h9
    exact h9
  have hall : s.sameButNew ({ U with vm := s.vm } : State) locs mc ms := by
    subst hA
    obtain ⟨e1, e2⟩ := hsame
    rw [State.setFrames_setFrames] at e1
    have h2 : (T.setVm s.vm).sameButNew ({ U with vm := s.vm } : State) [] (0 + 1) (0 + 6) := ⟨e1, e2⟩
    have h3 := X.same.trans h2
    rw [List.append_nil] at h3
    exact h3.mono hc hs
  refine ⟨U, ?_, .threw T.heap.size, hrun, hend, Or.inr ⟨T.heap.size, rfl, cls, ce, locs, hx U hWs.alike f1 (fun q hq => f2 q hq (fun z hz => nomatch hz)), hce, hO.vm, hcl, hWs, hall, hf⟩⟩
  refine st1 _ ?_
  show Steps p.tables e below (T1.setTop { method := m, pc := pc + 3, locals := ls, stack := .ref T.heap.size :: rest, locked := none }) _
  jvm_step X₁.here [X₁.here.top, hexec, d3', Value.category]
  exact hsteps
/-- 'throw new E("text")': new; dup; ldc; invokespecial; athrow -/
theorem vx_throwS {cc : ByteArray} {pc : Nat} (hexec : p.tables.exec = Jvm.exec) (hb : c.code = cc) (hl : l.stackTraces = false) {own cls text : String} {names : List String} {ik is ic mc ms sa : Nat} {A : Nat → Prop}
    (hown : s.vm.findClass own = some m.cls) (hcls : Bundle.fit cls = true) (hnames : ∀ n ∈ names, Bundle.fit n = true)
    (hk : (Cond.classLink own ik cls).before args s = true) (hini : (Cond.initialized cls).before args s = true) (hstr : vk_R own is text sa s) (hat : ∀ w ∈ vx_atS own ic cls names, w.before args s = true)
    (hgood : ∀ w ∈ Cond.classLink own ik cls :: Cond.initialized cls :: vx_atS own ic cls names, vx_ot w = true)
    (hU : vx_Zq Bundle.tN "UNASSIGNED_STACK" Bundle.steD A s s.heap) (hN : vx_Zq Bundle.tN "SUPPRESSED_SENTINEL" Bundle.listD A s s.heap) (hS : va_S A s.heap H locs) (hsize : ls.size = c.maxLocals)
    (d0 : decode cc pc = .ok (.new ik, 3)) (d3 : decode cc (pc + 3) = .ok (.dup, 1)) (d4 : decode cc (pc + 4) = .ok (.ldc is, 2)) (d6 : decode cc (pc + 6) = .ok (.invokespecial ic, 3)) (d9 : decode cc (pc + 9) = .ok (.athrow, 1))
    (hout : ∀ x ∈ c.exceptionTable.toList, covers x (pc + 9) = false)
    (hRframes : names.length + 3 < R.frames) (hRlocals : (rest.map fun v => v.category).sum + (13 * (names.length + 1) + 43) ≤ R.locals) (hRcells : cells + 1 ≤ R.cells) (hRslots : slots + 6 ≤ R.slots) (hlocks : meth.locks = false)
    (hx : ∀ t : State, s.vm.Alike t.vm → H.size ≤ t.heap.size → (∀ q : Nat, q < H.size → t.heap[q]? = H[q]?) → XC cls s t)
    (hf : ∀ z ∈ locs, free z.base) (hc : cells + 1 ≤ mc) (hs : slots + 6 ≤ ms) :
    W p l e R s m args below meth c H locs cells slots (vx_MQ below Qc XC args s mc ms free) (F0 m pc ls rest) := by
  intro T hT X
  have htr : e.platform.stackTraces = false := (show e.platform.stackTraces = l.stackTraces by rw [X.admits.platform]).trans hl
  have Y := vx_rebase X (R' := { frames := R.frames, locals := R.locals, cells := 1, slots := 6 }) (Nat.le_refl _) (Nat.le_refl _) hRcells hRslots
  obtain ⟨s', hA⟩ : ∃ z, z = (T.setVm s.vm).setFrames (.invoking m args :: below) := ⟨_, rfl⟩
  rw [← hA] at Y
  have hvm : s'.vm = s.vm := by rw [hA]; rfl
  have hhp : s'.heap = H := by rw [hA]; exact hT
  have hW0 : s.WarmedH s'.vm := by rw [hvm]; exact State.WarmedH.refl s
  have hat' : ∀ w ∈ vx_atS own ic cls names, w.before args s' = true := fun w hw => vx_ot_at hW0 hvm.symm (hgood w (List.mem_cons_of_mem _ (List.mem_cons_of_mem _ hw))) (hat w hw)
  have hk' : (Cond.classLink own ik cls).before args s' = true := vx_ot_at hW0 hvm.symm (hgood _ List.mem_cons_self) hk
  have hini' : (Cond.initialized cls).before args s' = true := vx_ot_at hW0 hvm.symm (hgood _ (List.mem_cons_of_mem _ List.mem_cons_self)) hini
  have hU' : vx_Zq Bundle.tN "UNASSIGNED_STACK" Bundle.steD A s' s'.heap := by rw [hhp]; exact vx_Zq.moved hW0.alike (hU.kept hS.2.1)
  have hN' : vx_Zq Bundle.tN "SUPPRESSED_SENTINEL" Bundle.listD A s' s'.heap := by rw [hhp]; exact vx_Zq.moved hW0.alike (hN.kept hS.2.1)
  have h : ∀ w ∈ Bundle.ownAtoms own ic cls names, w.before args s' = true := vx_own hat' (vx_isRefq hU'.1) (vx_isRefq hN'.1) hU'.2.word hN'.2.word
  have hown' : s'.vm.findClass own = some m.cls := by rw [hvm]; exact hown
  have hins : (Cond.instantiable cls 6).before args s' = true := h _ (by simp [Bundle.ownAtoms])
  obtain ⟨vm₁, cX, kX, hfX, hkX, -, -, X₁, st1⟩ := Y.newCold hexec (own := own) (C := cls) (index := ik) (n := 6) hown' hk' hins hini'
    (g := F0 m pc ls rest) rfl (by rw [hb]; exact d0) (Nat.le_refl _) (Nat.le_refl _)
  generalize hT1 : (T.setVm vm₁).pushCell { cls := cX, slots := kX.instanceTypes.map defaultValue, vm := .none } = T1 at X₁ st1
  have hcat : (Value.ref T.heap.size).category = 1 := rfl
  have hcellA : T1.heap[T.heap.size]? = some (freshCell cX kX) := by rw [← hT1]; exact State.heap_pushCell_size _ _
  have d3' : decode c.code (pc + 3) = .ok (.dup, 1) := by rw [hb]; exact d3
  have d4' : decode c.code (pc + 4) = .ok (.ldc is, 2) := by rw [hb]; exact d4
  have hstr' : vk_R own is text sa s' := vk_R.warm hW0 hstr
  obtain ⟨U, hsteps, hrun, hend, hW, hsame, ce, hce, hO⟩ := X₁.ctorThrowS hexec htr (own := own) (cls := cls) (names := names) (ic := ic) hown' hcls hnames h (fun x hx => nomatch hx) hfX hkX hcellA (by rw [hhp, hT]; exact Nat.le_refl _) (msg := .ref sa) rfl
    (g := { method := m, pc := pc + 6, locals := ls, stack := .ref sa :: .ref T.heap.size :: .ref T.heap.size :: rest, locked := none }) rfl hsize rfl rfl (rest := rest) rfl
    (by rw [hb]; exact d6) (by rw [hb]; exact d9) hout hRframes (by simp only [List.map_cons, List.sum_cons, hcat]; omega) hlocks
  obtain ⟨f1, f2⟩ := vx_frame hsame
  rw [hhp] at f1 f2
  have hWs : s.WarmedH U.vm := State.WarmedH.trans hW0 hW
  have hcl : s.vm.findClass cls = some ce.cls := by
    have h9 := hO.cls
    rw [hvm] at h9
    exact h9
  have hall : s.sameButNew ({ U with vm := s.vm } : State) locs mc ms := by
    subst hA
    obtain ⟨e1, e2⟩ := hsame
    rw [State.setFrames_setFrames] at e1
    have h2 : (T.setVm s.vm).sameButNew ({ U with vm := s.vm } : State) [] (0 + 1) (0 + 6) := ⟨e1, e2⟩
    have h3 := X.same.trans h2
    rw [List.append_nil] at h3
    exact h3.mono hc hs
  refine ⟨U, ?_, .threw T.heap.size, hrun, hend, Or.inr ⟨T.heap.size, rfl, cls, ce, locs, hx U hWs.alike f1 (fun q hq => f2 q hq (fun z hz => nomatch hz)), hce, hO.vm, hcl, hWs, hall, hf⟩⟩
  refine st1 _ ?_
  show Steps p.tables e below (T1.setTop { method := m, pc := pc + 3, locals := ls, stack := .ref T.heap.size :: rest, locked := none }) _
  jvm_step X₁.here [X₁.here.top, hexec, d3', Value.category]
  exact X₁.ldcString hexec (own := own) (text := text) (index := is) (a := sa) hown' hstr'.1 hstr'.2
    (g := { method := m, pc := pc + 4, locals := ls, stack := .ref T.heap.size :: .ref T.heap.size :: rest, locked := none }) rfl d4' _ hsteps
/-- 'throw new E("text")', the text by a wide index -/
theorem vx_throwSW {cc : ByteArray} {pc : Nat} (hexec : p.tables.exec = Jvm.exec) (hb : c.code = cc) (hl : l.stackTraces = false) {own cls text : String} {names : List String} {ik is ic mc ms sa : Nat} {A : Nat → Prop}
    (hown : s.vm.findClass own = some m.cls) (hcls : Bundle.fit cls = true) (hnames : ∀ n ∈ names, Bundle.fit n = true)
    (hk : (Cond.classLink own ik cls).before args s = true) (hini : (Cond.initialized cls).before args s = true) (hstr : vk_R own is text sa s) (hat : ∀ w ∈ vx_atS own ic cls names, w.before args s = true)
    (hgood : ∀ w ∈ Cond.classLink own ik cls :: Cond.initialized cls :: vx_atS own ic cls names, vx_ot w = true)
    (hU : vx_Zq Bundle.tN "UNASSIGNED_STACK" Bundle.steD A s s.heap) (hN : vx_Zq Bundle.tN "SUPPRESSED_SENTINEL" Bundle.listD A s s.heap) (hS : va_S A s.heap H locs) (hsize : ls.size = c.maxLocals)
    (d0 : decode cc pc = .ok (.new ik, 3)) (d3 : decode cc (pc + 3) = .ok (.dup, 1)) (d4 : decode cc (pc + 4) = .ok (.ldc_w is, 3)) (d7 : decode cc (pc + 7) = .ok (.invokespecial ic, 3)) (d10 : decode cc (pc + 10) = .ok (.athrow, 1))
    (hout : ∀ x ∈ c.exceptionTable.toList, covers x (pc + 10) = false)
    (hRframes : names.length + 3 < R.frames) (hRlocals : (rest.map fun v => v.category).sum + (13 * (names.length + 1) + 43) ≤ R.locals) (hRcells : cells + 1 ≤ R.cells) (hRslots : slots + 6 ≤ R.slots) (hlocks : meth.locks = false)
    (hx : ∀ t : State, s.vm.Alike t.vm → H.size ≤ t.heap.size → (∀ q : Nat, q < H.size → t.heap[q]? = H[q]?) → XC cls s t)
    (hf : ∀ z ∈ locs, free z.base) (hc : cells + 1 ≤ mc) (hs : slots + 6 ≤ ms) :
    W p l e R s m args below meth c H locs cells slots (vx_MQ below Qc XC args s mc ms free) (F0 m pc ls rest) := by
  intro T hT X
  have htr : e.platform.stackTraces = false := (show e.platform.stackTraces = l.stackTraces by rw [X.admits.platform]).trans hl
  have Y := vx_rebase X (R' := { frames := R.frames, locals := R.locals, cells := 1, slots := 6 }) (Nat.le_refl _) (Nat.le_refl _) hRcells hRslots
  obtain ⟨s', hA⟩ : ∃ z, z = (T.setVm s.vm).setFrames (.invoking m args :: below) := ⟨_, rfl⟩
  rw [← hA] at Y
  have hvm : s'.vm = s.vm := by rw [hA]; rfl
  have hhp : s'.heap = H := by rw [hA]; exact hT
  have hW0 : s.WarmedH s'.vm := by rw [hvm]; exact State.WarmedH.refl s
  have hat' : ∀ w ∈ vx_atS own ic cls names, w.before args s' = true := fun w hw => vx_ot_at hW0 hvm.symm (hgood w (List.mem_cons_of_mem _ (List.mem_cons_of_mem _ hw))) (hat w hw)
  have hk' : (Cond.classLink own ik cls).before args s' = true := vx_ot_at hW0 hvm.symm (hgood _ List.mem_cons_self) hk
  have hini' : (Cond.initialized cls).before args s' = true := vx_ot_at hW0 hvm.symm (hgood _ (List.mem_cons_of_mem _ List.mem_cons_self)) hini
  have hU' : vx_Zq Bundle.tN "UNASSIGNED_STACK" Bundle.steD A s' s'.heap := by rw [hhp]; exact vx_Zq.moved hW0.alike (hU.kept hS.2.1)
  have hN' : vx_Zq Bundle.tN "SUPPRESSED_SENTINEL" Bundle.listD A s' s'.heap := by rw [hhp]; exact vx_Zq.moved hW0.alike (hN.kept hS.2.1)
  have h : ∀ w ∈ Bundle.ownAtoms own ic cls names, w.before args s' = true := vx_own hat' (vx_isRefq hU'.1) (vx_isRefq hN'.1) hU'.2.word hN'.2.word
  have hown' : s'.vm.findClass own = some m.cls := by rw [hvm]; exact hown
  have hins : (Cond.instantiable cls 6).before args s' = true := h _ (by simp [Bundle.ownAtoms])
  obtain ⟨vm₁, cX, kX, hfX, hkX, -, -, X₁, st1⟩ := Y.newCold hexec (own := own) (C := cls) (index := ik) (n := 6) hown' hk' hins hini'
    (g := F0 m pc ls rest) rfl (by rw [hb]; exact d0) (Nat.le_refl _) (Nat.le_refl _)
  generalize hT1 : (T.setVm vm₁).pushCell { cls := cX, slots := kX.instanceTypes.map defaultValue, vm := .none } = T1 at X₁ st1
  have hcat : (Value.ref T.heap.size).category = 1 := rfl
  have hcellA : T1.heap[T.heap.size]? = some (freshCell cX kX) := by rw [← hT1]; exact State.heap_pushCell_size _ _
  have d3' : decode c.code (pc + 3) = .ok (.dup, 1) := by rw [hb]; exact d3
  have d4' : decode c.code (pc + 4) = .ok (.ldc_w is, 3) := by rw [hb]; exact d4
  have hstr' : vk_R own is text sa s' := vk_R.warm hW0 hstr
  obtain ⟨U, hsteps, hrun, hend, hW, hsame, ce, hce, hO⟩ := X₁.ctorThrowS hexec htr (own := own) (cls := cls) (names := names) (ic := ic) hown' hcls hnames h (fun x hx => nomatch hx) hfX hkX hcellA (by rw [hhp, hT]; exact Nat.le_refl _) (msg := .ref sa) rfl
    (g := { method := m, pc := pc + 7, locals := ls, stack := .ref sa :: .ref T.heap.size :: .ref T.heap.size :: rest, locked := none }) rfl hsize rfl rfl (rest := rest) rfl
    (by rw [hb]; exact d7) (by rw [hb]; exact d10) hout hRframes (by simp only [List.map_cons, List.sum_cons, hcat]; omega) hlocks
  obtain ⟨f1, f2⟩ := vx_frame hsame
  rw [hhp] at f1 f2
  have hWs : s.WarmedH U.vm := State.WarmedH.trans hW0 hW
  have hcl : s.vm.findClass cls = some ce.cls := by
    have h9 := hO.cls
    rw [hvm] at h9
    exact h9
  have hall : s.sameButNew ({ U with vm := s.vm } : State) locs mc ms := by
    subst hA
    obtain ⟨e1, e2⟩ := hsame
    rw [State.setFrames_setFrames] at e1
    have h2 : (T.setVm s.vm).sameButNew ({ U with vm := s.vm } : State) [] (0 + 1) (0 + 6) := ⟨e1, e2⟩
    have h3 := X.same.trans h2
    rw [List.append_nil] at h3
    exact h3.mono hc hs
  refine ⟨U, ?_, .threw T.heap.size, hrun, hend, Or.inr ⟨T.heap.size, rfl, cls, ce, locs, hx U hWs.alike f1 (fun q hq => f2 q hq (fun z hz => nomatch hz)), hce, hO.vm, hcl, hWs, hall, hf⟩⟩
  refine st1 _ ?_
  show Steps p.tables e below (T1.setTop { method := m, pc := pc + 3, locals := ls, stack := .ref T.heap.size :: rest, locked := none }) _
  jvm_step X₁.here [X₁.here.top, hexec, d3', Value.category]
  exact X₁.ldcStringW hexec (own := own) (text := text) (index := is) (a := sa) hown' hstr'.1 hstr'.2
    (g := { method := m, pc := pc + 4, locals := ls, stack := .ref T.heap.size :: .ref T.heap.size :: rest, locked := none }) rfl d4' _ hsteps
end Ends
section Bodies
variable {l : Launch}
theorem vx_ofW {y : MethodName} {ws ws' : List Cond} {rm : Room} {Pc : Array Value → State → Prop} {Qc : Array Value → State → Outcome → State → Prop} {XC : String → State → State → Prop} {mc ms : Nat} {free : Addr → Prop} {cc : ByteArray} {maxL : Nat} {ret : Option FieldType}
    (hy : plainName y.cls = true) (hw : ws = Cond.code y cc maxL ret :: ws')
    (body : ∀ p e s m args below meth c s₁, BodyLoose p l y (headSpec ws rm) cc maxL ret e s m args below meth c s₁ → c.maxLocals = maxL → (∀ x ∈ c.exceptionTable.toList, False) → Pc args s →
      W p l e (headSpec ws rm).room s m args below meth c s.heap [] 0 0 (vx_MQ below Qc XC args s mc ms free) (entryFrame m args maxL)) : vx_Met l y ws rm Pc Qc XC mc ms free := by
  refine MetFree.of_bodyS (code := cc) (maxLocals := maxL) (ret := ret) hy ?_ ?_
  · intro args s m h hn
    obtain ⟨meth, c, h1, h2, h3, h4, h5, h6, -, -⟩ := Cond.code_spec hn (atoms_spec (ws := ws) h _ (by rw [hw]; exact List.mem_cons_self))
    exact ⟨meth, c, h1, h2, h3, h4, h5, h6⟩
  · intro p e s m args below meth c s₁ B hml hP _
    have hh0 : s₁.heap = s.heap := by rw [B.state]; rfl
    have ht : ∀ x ∈ c.exceptionTable.toList, False := by
      obtain ⟨meth9, c9, h1, h2, -, -, -, -, h7, -⟩ := Cond.code_spec B.named (atoms_spec (ws := ws) B.pre _ (by rw [hw]; exact List.mem_cons_self))
      cases Option.some.inj (h1.symm.trans B.method)
      cases Option.some.inj (h2.symm.trans (Stand.of_body B).code)
      intro x hx
      rw [Array.isEmpty_iff.mp h7] at hx
      cases hx
    obtain ⟨t, a1, o, b1, b2, b3⟩ := body p e s m args below meth c s₁ B hml ht hP s₁ hh0 (Stand.of_body B)
    exact ⟨t, o, a1, b1, b2, b3⟩
/-- the table of a body with handlers -/
theorem vx_table {p : Program} {x y : MethodName} {S : Spec} {cc bytes : ByteArray} {maxL maxL' : Nat} {ret ret' : Option FieldType} {e : Env} {s s₁ : State} {m : MethodId} {args : Array Value} {below : List Frame} {meth : Method} {c : Code} {hh : List (Nat × Nat × Nat × Nat)}
    (B : BodyLoose p l y S cc maxL ret e s m args below meth c s₁) (h : (Cond.codeWith y bytes maxL' ret' hh).before args s = true) : c.exceptionTable.toList = tableOf hh := by
  obtain ⟨m9, meth9, c9, hn9, h1, h2, -, -, h6, -⟩ := Cond.codeWith_spec h
  cases Option.some.inj (hn9.symm.trans B.named)
  cases Option.some.inj (h1.symm.trans B.method)
  cases Option.some.inj (h2.symm.trans (Stand.of_body B).code)
  rw [← h6, table_eq]
end Bodies
end VXA
/-! ===== END ===== -/
/-! ===== BEGIN a static call of a method with an exception table ===== -/
section VXS
variable {p : Program} {l : Launch} {e : Env} {R : Room} {s : State} {m : MethodId} {args : Array Value} {below : List Frame} {meth : Method} {c : Code} {T : State} {H : Heap} {locs : List Loc} {cells slots : Nat}
abbrev vx_CSW (R : Room) (s : State) (args : Array Value) (own : String) (index : Nat) (y : MethodName) (bytes : ByteArray) (maxL : Nat) (ret : Option FieldType) (hh : List (Nat × Nat × Nat × Nat)) (ws : List Cond) (rm : Room) (mc ms n : Nat) : Prop :=
  (rm.cells = mc ∧ rm.slots = ms ∧ rm.frames + 1 ≤ R.frames ∧ 8 + (maxL + 11) + rm.locals ≤ R.locals ∧ (∀ w ∈ ws, ∀ (a' : Array Value) (U : State), s.WarmedH U.vm → w.before a' U = true) ∧ Cond.codeWith y bytes maxL ret hh ∈ ws) ∧
  (Cond.codeWith y bytes maxL ret hh).before args s = true ∧ (Cond.initialized y.cls).before args s = true ∧ (y.cls ≠ "java/lang/invoke/MethodHandle" ∧ y.cls ≠ "java/lang/invoke/VarHandle") ∧
  (∀ sig, parseMethodDescriptor y.desc = some sig → n = sig.parameters.length) ∧ (Cond.methodLink own index y).before args s = true ∧ (Cond.static y).before args s = true
theorem vx_cwSW {own : String} {index maxL mc ms : Nat} {y : MethodName} {bytes : ByteArray} {ret : Option FieldType} {hh : List (Nat × Nat × Nat × Nat)} {Ts ws ws' : List Cond} {rm : Room} (n : Nat) (ht : ∀ w ∈ Ts, w.before args s = true) (hT : GoodIn Ts (va_wsS own index y ws)) (hw : ws = Cond.codeWith y bytes maxL ret hh :: ws') (hrc : rm.cells = mc) (hrs : rm.slots = ms)
    (hd : y.cls ≠ "java/lang/invoke/MethodHandle" ∧ y.cls ≠ "java/lang/invoke/VarHandle" ∧ (parseMethodDescriptor y.desc).map (fun d => d.parameters.length) = some n) (hR : rm.frames + 1 ≤ R.frames ∧ 8 + (maxL + 11) + rm.locals ≤ R.locals) :
    vx_CSW R s args own index y bytes maxL ret hh ws rm mc ms n := by
  have ok : ∀ w ∈ va_wsS own index y ws, w.before args s = true := fun w h => ht w (hT w h).1
  have hG : GoodIn Ts ws := fun w h => hT w (by unfold va_wsS; exact List.mem_append_right _ h)
  have hc : Cond.codeWith y bytes maxL ret hh ∈ ws := by rw [hw]; exact List.mem_cons_self
  refine ⟨⟨hrc, hrs, hR.1, hR.2, pay_in ht hG, hc⟩, ht _ (hG _ hc).1, ok _ (by simp [va_wsS]), ⟨hd.1, hd.2.1⟩, fun sig h => ?_, ok _ (by simp [va_wsS]), ok _ (by simp [va_wsS])⟩
  have h2 := hd.2.2
  rw [h] at h2
  exact (Option.some.inj h2).symm
theorem vx_callSW (X : Stand p l e R s m args below meth c T locs cells slots) (hexec : p.tables.exec = Jvm.exec) {own : String} {index : Nat} {y : MethodName} {bytes : ByteArray} {maxL : Nat} {ret : Option FieldType} {hh : List (Nat × Nat × Nat × Nat)}
    (hown : s.vm.findClass own = some m.cls) (hlink : (Cond.methodLink own index y).before args s = true) (hstat : (Cond.static y).before args s = true) (hinit : (Cond.initialized y.cls).before args s = true)
    (hcode : (Cond.codeWith y bytes maxL ret hh).before args s = true) (hy : y.cls ≠ "java/lang/invoke/MethodHandle" ∧ y.cls ≠ "java/lang/invoke/VarHandle")
    {W9 : Nat} {Pre : Pt → Array Value → Prop} {Post : Pt → Array Value → Option Value → Pt → Prop} (hK : Back l R p e below s args y 3 W9 Pre Post)
    {g : JFrame} (hg : g.method = m) (hsize : g.locals.size = c.maxLocals) {argsL rest : List Value} (hlen : ∀ sig, parseMethodDescriptor y.desc = some sig → argsL.length = sig.parameters.length)
    (hstack : g.stack = argsL.reverse ++ rest) (hW : 2 * g.monitorRoom + (rest.map fun v => v.category).sum ≤ W9) (hdg : decode c.code g.pc = .ok (.invokestatic index, 3))
    (hpre : ∀ vm₁, s.WarmedH vm₁ → Pre ⟨T.setVm vm₁, locs, cells, slots⟩ argsL.toArray) :
    ∃ (v : Option Value) (vm₁ : Vm) (B : Pt), s.WarmedH vm₁ ∧ Stand p l e R s m args below meth c B.U B.locs B.cells B.slots ∧ Post ⟨T.setVm vm₁, locs, cells, slots⟩ argsL.toArray v B ∧
      ∀ target, Steps p.tables e below (B.U.setTop { g with pc := g.pc + 3, stack := v.toList ++ rest }) target → Steps p.tables e below (T.setTop g) target := by
  obtain ⟨mk, methM, cM, hnamed, hmethM, -, -, -, -, -, -, hsigM⟩ := Cond.codeWith_spec hcode
  have hstatic : methM.isStatic = true := Cond.static_spec hnamed hmethM hstat
  obtain ⟨kP, hkP, -⟩ := className_of_methodNamed hnamed
  have hinitP : kP.init = .initialized := Cond.initialized_spec (findClass_of_methodNamed hnamed) hkP hinit
  obtain ⟨vm₁, X₁, hstep₁⟩ := X.invokestatic hexec hown hlink hnamed hmethM hstatic hkP hinitP hy (g := g) hg (argsL := argsL) (rest := rest) (hlen _ hsigM) hstack hdg
  obtain ⟨v, B, X', hpost, hsteps⟩ := hK m meth c ⟨T.setVm vm₁, locs, cells, slots⟩ { g with stack := rest } (.invokestatic index) mk argsL.toArray X₁ hg hsize hdg hW (X₁.named hnamed) (hpre vm₁ X₁.warmed)
  exact ⟨v, vm₁, B, X₁.warmed, X', hpost, fun target h => hstep₁ _ fun acts => by rw [doInvoke_state]; exact hsteps.trans h⟩
theorem vx_runSW {y : MethodName} {bytes cc : ByteArray} {maxL nL mc ms n index : Nat} {ret : Option FieldType} {hh : List (Nat × Nat × Nat × Nat)} {ws : List Cond} {rm : Room} {Pc : Array Value → State → Prop} {Qc : Array Value → State → Outcome → State → Prop} {free : Addr → Prop} {Ts : List Cond} {own : String} {As rest : List Value} {g : JFrame}
    (S : CallFix p m c cc nL s args Ts own) (hM : Met l y ws rm Pc Qc mc ms free) (cw : vx_CSW R s args own index y bytes maxL ret hh ws rm mc ms n) (hp : PreS s H Pc As)
    (hg : g.method = m) (hn : As.length = n) (hsize : g.locals.size = nL) (hstack : g.stack = As.reverse ++ rest) (hW : 2 * g.monitorRoom + (rest.map fun v => v.category).sum ≤ 8) (hdg : decode cc g.pc = .ok (.invokestatic index, 3)) (hf : cells + mc ≤ R.cells ∧ slots + ms ≤ R.slots) :
    va_Run p l e R s m args below meth c H locs cells slots mc ms g rest (Qc As.toArray) (free) := by
  obtain ⟨⟨hrc, hrs, hfr, hlo, hws, hcw⟩, hcode, hini, hy, hlen, hl, hstt⟩ := cw
  have hK : Back l R p e below s args y 3 8 (PreOf R mc ms Pc) (PostOf Qc mc ms free) := va_backW (hh := hh) (bytes := bytes) (maxL := maxL) (ret := ret) hM hp.1 hrc hrs hfr hlo hws hcw (fun a' U hW => word_at hW (Or.inl (by first | rfl | simp [Cond.onTables, Cond.keeps, Cond.steady])) hini)
  obtain ⟨hx, hb, hml, ho, -⟩ := S
  intro T hT X
  obtain ⟨v, vm₁, ⟨U', l2, c2, s2⟩, hW₁, X', ⟨g', mk, t, L, e1, e2, hq, h1, hL, h2, h3⟩, st⟩ := vx_callSW X hx (hh := hh) (bytes := bytes) (maxL := maxL) (ret := ret) ho hl hstt hini hcode hy hK hg (hsize.trans hml.symm) (argsL := As) (rest := rest) (fun sig h => hn.trans (hlen sig h)) hstack hW (by rw [hb]; exact hdg)
    (fun vm₁ hW₁ => ⟨hf.1, hf.2, hp.2 (T.setVm vm₁) hT hW₁⟩)
  dsimp only [Pt.U, Pt.locs, Pt.cells, Pt.slots] at X' e1 e2 h1 h2 h3 st
  subst h1; subst h2; subst h3
  exact ⟨v, (T.setVm vm₁).calling g' mk As.toArray, t, U', L, hT, X', hL, e1, e2, hq, st⟩
/-- not caught here, past rows that name other classes: it goes on to the caller -/
theorem vx_outP {p : Program} {l : Launch} {e : Env} {R : Room} {s : State} {m : MethodId} {args : Array Value} {below : List Frame} {meth : Method} {c : Code} {H : Heap} {locs : List Loc} {cells slots : Nat} {free : Addr → Prop} {ls : Array Slot} {rest : List Value} {Qc : Array Value → State → Outcome → State → Prop} {XC : String → State → State → Prop}
    {pc : Nat} {own E : String} {ce : Cell} {q : Addr} {mc ms : Nat} (hown : s.vm.findClass own = some m.cls) (hlocks : meth.locks = false)
    (hpass : ∀ z ∈ c.exceptionTable.toList, covers z pc = false ∨ (z.catchType ≠ 0 ∧ ∃ nm : String, (Cond.classLink own z.catchType nm).before args s = true ∧ va_Nc E nm s)) (hcell : H[q]? = some ce) (hv : ce.vm = .none) (hcl : s.vm.findClass E = some ce.cls)
    (hx : ∀ t : State, t.heap = H → s.vm.Alike t.vm → XC E s t) (hf : ∀ z ∈ locs, free z.base) (hc : cells ≤ mc) (hs : slots ≤ ms) :
    vx_W p l e R s m args below meth c H locs cells slots (vx_MQ below Qc XC args s mc ms free) (F0 m pc ls rest) q := by
  intro T hT X
  have hpl : e.platform.magicAccessors = ({} : Platform).magicAccessors := by rw [X.admits.platform]
  obtain ⟨vm', hW', X', st⟩ := X.outThrough hlocks q (g := F0 m pc ls rest) rfl rfl rfl (cell := ce) (by rw [hT]; exact hcell) (by rw [hv]; rfl)
    (by obtain ⟨k9, h9, -⟩ := Vm.findClass_spec hcl; exact ⟨k9, h9⟩) (fun z hz => by
      rcases hpass z hz with h | ⟨hz0, nm, hl1, hn1⟩
      · exact Or.inl h
      · obtain ⟨c6, hc6, hcl6⟩ := Cond.classLink_spec hown hl1 e.platform hpl
        obtain ⟨a8, b8, h1, h2, h3⟩ := hn1
        cases Option.some.inj (h1.symm.trans hcl)
        cases Option.some.inj (h2.symm.trans hc6)
        exact Or.inr ⟨hz0, _, hcl6, h3⟩)
  obtain ⟨g₀, hfr⟩ := X'.frames_eq
  have hcell9 : ((T.setVm vm').setFrames (.throwing q :: below)).heap[q]? = some ce := by
    show T.heap[q]? = some ce
    rw [hT]; exact hcell
  have hend : Ended ((T.setVm vm').setFrames (.throwing q :: below)) below (.threw q) := State.frames_setFrames _ (State.cur_lt_of_frames hfr)
  refine ⟨(T.setVm vm').setFrames (.throwing q :: below), ?_, .threw q, X'.here.running, hend, Or.inr ⟨q, rfl, E, ce, locs, hx _ hT (X'.ends _).1.alike, hcell9, hv, hcl, (X'.ends _).1, (X'.ends _).2.mono hc hs, hf⟩⟩
  rw [X.pushThrowing_eq]
  exact st
/-- a thing of a world lies in the heap -/
theorem vx_lt {D : va_G} {cl : List vw_C} {ws : va_W} {H1 : Heap} (h : va_P D cl ws H1) {k : Nat} {q : Nat × va_E} (hk : ws[k]? = some q) : q.1 < H1.size := (h k q hk).lt
end VXS
/-! ===== END ===== -/
/-! ===== BEGIN methods with a table of their own: called by a name, returning or throwing ===== -/
section VXH
/-! vx_backW, vx_callVX, vx_callSX, vx_callVW, vx_runVW, vx_runVX, vx_runSX, vx_ofWH follow the same proofs as their sisters above (Free/Laws.lean, Shelf42/LK1.lean); vx_outP calls Shelf42/NT130.lean (outThrough). -/
section
variable {l : Launch} {R : Room} {p : Program} {e : Env} {below : List Frame} {s : State} {sargs : Array Value} {y : MethodName} {len W9 : Nat}
theorem vx_backW {ws : List Cond} {rm : Room} {Pc : Array Value → State → Prop} {Qc : Array Value → State → Outcome → State → Prop} {XC : String → State → State → Prop} {mc ms : Nat} {free : Addr → Prop} {bytes : ByteArray} {maxL : Nat} {ret : Option FieldType} {hh : List (Nat × Nat × Nat × Nat)}
    (hM : vx_Met l y ws rm Pc Qc XC mc ms free) (hblind : FrameBlind Pc) (hrc : rm.cells = mc) (hrs : rm.slots = ms)
    (hframes : rm.frames + 1 ≤ R.frames) (hlocals : W9 + (maxL + 11) + rm.locals ≤ R.locals)
    (hws : ∀ w ∈ ws, ∀ a' U, s.WarmedH U.vm → w.before a' U = true) (hcode : Cond.codeWith y bytes maxL ret hh ∈ ws) (hinit : ∀ a' U, s.WarmedH U.vm → (Cond.initialized y.cls).before a' U = true) :
    vx_Back l R p e below s sargs y len W9 (PreOf R mc ms Pc) (PostOf Qc mc ms free) (vx_Post XC mc ms free) := by
  intro m meth c A g ig mk a X hg hsize hdg hW hn hp
  have h1 : (headSpec ws rm).pre.before a A.U = true := atoms_intro fun w hw => hws w hw _ _ X.warmed
  have h2 : (Cond.codeWith y bytes maxL ret hh).before a A.U = true := hws _ hcode _ _ X.warmed
  have h3 : (Cond.initialized y.cls).before a A.U = true := hinit _ _ X.warmed
  have h4 : A.cells + (headSpec ws rm).room.cells ≤ R.cells := by rw [show (headSpec ws rm).room.cells = mc from hrc]; exact hp.1
  have h5 : A.slots + (headSpec ws rm).room.slots ≤ R.slots := by rw [show (headSpec ws rm).room.slots = ms from hrs]; exact hp.2.1
  have hPc : Pc a (A.U.calling g mk a) := hblind _ _ _ _ hp.2.2
  obtain ⟨U, Ls, c0, s0⟩ := A
  dsimp only [Pt.U, Pt.locs, Pt.cells, Pt.slots] at h1 h2 h3 h4 h5 X hn hPc ⊢
  obtain ⟨m9, methY, cY, hn9, hmY, hcY, -, hlY, -⟩ := Cond.codeWith_spec h2
  cases Option.some.inj (hn9.symm.trans hn)
  obtain ⟨kY, hkY, -⟩ := className_of_methodNamed hn
  have hinitY : kY.init = .initialized := Cond.initialized_spec (findClass_of_methodNamed hn) hkY h3
  have h : At U g.method c below := by rw [hg]; exact X.here
  have hlocals9 : W9 + (maxL + 11) + (headSpec ws rm).room.locals ≤ R.locals := hlocals
  have happ : (headSpec ws rm).appliesLoose y e.platform (U.calling g mk a) = true :=
    Spec.appliesLoose_calling (g := g) h hdg hn hkY hinitY
      (X.room_calling (g := g) (R' := (headSpec ws rm).room) hsize hmY hcY hframes (by rw [hlY]; omega) h4 h5) h1
  obtain ⟨mid, hmid⟩ := h.above
  have hfr : (U.setTop g).frames = (.java g :: mid) ++ below := by rw [State.frames_setTop' g h.top, hmid]; rfl
  obtain ⟨o, s₂, hsteps, -, hend, hq⟩ := Steps.callFree hM p X.admits X.cas X.clock (acts := []) hfr happ hPc trivial
  have hq' : vx_Q Qc XC mc ms free a (U.calling g mk a) o s₂ := hq
  rw [State.frames_setTop' g h.top] at hend
  obtain ⟨g₀, hg0⟩ := Option.isSome_iff_exists.mp h.top
  obtain ⟨r, hr⟩ := State.topJava?_eq_some.mp hg0
  have hr' : (({ U with heap := s₂.heap, slotsUsed := s₂.slotsUsed } : State).setVm s₂.vm).frames = .java g₀ :: r := hr
  rcases hq' with ⟨hqc, L, hfe, hL⟩ | ⟨q, rfl, E, ce, L, hx, hce, hcv, hcl, hW₂, hsm, hL⟩
  · obtain ⟨⟨v, rfl⟩, hW₂, e2, q2, q3, q4, q5, q6⟩ := id hfe
    have e3 : s₂ = ({ (U.calling g mk a).setFrames s₂.frames with heap := s₂.heap, slotsUsed := s₂.slotsUsed } : State).setVm s₂.vm := by
      have : s₂ = ({ s₂ with vm := (U.calling g mk a).vm } : State).setVm s₂.vm := rfl
      rw [e2] at this
      exact this
    obtain ⟨c₂, i₂, len₂, hc₂, hd₂, hf₂⟩ := hend
    have hW' : U.WarmedH s₂.vm := hW₂
    have hcc : c₂ = c := by
      have h1 : s₂.code? g.method = U.code? g.method := by
        rw [State.code?_eq, State.code?_eq, hW'.alike.method?]
      exact Option.some.inj (hc₂.symm.trans (h1.trans h.code))
    subst hcc
    have hlen : len₂ = len := by rw [hdg] at hd₂; cases hd₂; rfl
    subst hlen
    have hs₂ : s₂ = (({ U with heap := s₂.heap, slotsUsed := s₂.slotsUsed } : State).setVm s₂.vm).setTop { g with pc := g.pc + len₂, stack := v.toList ++ g.stack } := by
      refine e3.trans ?_
      rw [hf₂, State.calling_eq h.top, State.setFrames_setFrames, State.setTop_of_frames _ hr', hr]
      rfl
    have hsame : U.sameButNew ({ U with heap := s₂.heap, slotsUsed := s₂.slotsUsed } : State) L mc ms := by
      refine ⟨?_, q2, q3, q4, q5, q6⟩
      obtain ⟨t, ht, -⟩ := State.frames_cons hr
      show ({ U with heap := s₂.heap, slotsUsed := s₂.slotsUsed } : State) = { U.setFrames U.frames with heap := s₂.heap, slotsUsed := s₂.slotsUsed }
      rw [State.setFrames_self ht]
    subst hg
    refine Or.inl ⟨v, ⟨(({ U with heap := s₂.heap, slotsUsed := s₂.slotsUsed } : State).setVm s₂.vm), Ls ++ L, c0 + mc, s0 + ms⟩,
      ⟨X.admits, X.cas, X.clock, X.frames, X.room, X.hears, X.method, X.code, (X.here.setHeapUsed s₂.heap s₂.slotsUsed).setVm hW'.alike, X.tail, State.WarmedH.trans X.warmed hW', X.limits, X.bytes, X.same.trans (hsame.setVm s.vm)⟩,
      ⟨g, mk, s₂, L, rfl, rfl, hqc, rfl, hL, rfl, rfl⟩, ?_⟩
    show Steps p.tables e below _ ((({ U with heap := s₂.heap, slotsUsed := s₂.slotsUsed } : State).setVm s₂.vm).setTop { g with pc := g.pc + len₂, stack := v.toList ++ g.stack })
    rw [← hs₂]
    exact hsteps
  · obtain ⟨e2, q2, q3, q4, q5, q6⟩ := id hsm
    have e3 : s₂ = ({ (U.calling g mk a).setFrames s₂.frames with heap := s₂.heap, slotsUsed := s₂.slotsUsed } : State).setVm s₂.vm := by
      have : s₂ = ({ s₂ with vm := (U.calling g mk a).vm } : State).setVm s₂.vm := rfl
      rw [e2] at this
      exact this
    have hf₂ : s₂.frames = .throwing q :: .java g :: U.frames.tail := hend
    have hW' : U.WarmedH s₂.vm := hW₂
    have hs₂ : s₂ = ((({ U with heap := s₂.heap, slotsUsed := s₂.slotsUsed } : State).setVm s₂.vm).setTop g).pushFrame (.throwing q) := by
      refine e3.trans ?_
      rw [hf₂, State.calling_eq h.top, State.setFrames_setFrames, State.pushFrame, State.frames_setTop _ hr', State.setTop_of_frames _ hr', State.setFrames_setFrames, hr]
      rfl
    have hsame : U.sameButNew ({ U with heap := s₂.heap, slotsUsed := s₂.slotsUsed } : State) L mc ms := by
      refine ⟨?_, q2, q3, q4, q5, q6⟩
      obtain ⟨t, ht, -⟩ := State.frames_cons hr
      show ({ U with heap := s₂.heap, slotsUsed := s₂.slotsUsed } : State) = { U.setFrames U.frames with heap := s₂.heap, slotsUsed := s₂.slotsUsed }
      rw [State.setFrames_self ht]
    subst hg
    refine Or.inr ⟨q, ⟨(({ U with heap := s₂.heap, slotsUsed := s₂.slotsUsed } : State).setVm s₂.vm), Ls ++ L, c0 + mc, s0 + ms⟩,
      ⟨X.admits, X.cas, X.clock, X.frames, X.room, X.hears, X.method, X.code, (X.here.setHeapUsed s₂.heap s₂.slotsUsed).setVm hW'.alike, X.tail, State.WarmedH.trans X.warmed hW', X.limits, X.bytes, X.same.trans (hsame.setVm s.vm)⟩,
      ⟨g, mk, s₂, L, E, ce, rfl, rfl, hx, hce, hcv, hcl, rfl, hL, rfl, rfl⟩, ?_⟩
    show Steps p.tables e below _ (((({ U with heap := s₂.heap, slotsUsed := s₂.slotsUsed } : State).setVm s₂.vm).setTop g).pushFrame (.throwing q))
    rw [← hs₂]
    exact hsteps
end
variable {p : Program} {l : Launch} {e : Env} {R : Room} {s : State} {m : MethodId} {args : Array Value} {below : List Frame} {meth : Method} {c : Code} {T : State} {H : Heap} {locs : List Loc} {cells slots : Nat}
theorem vx_callVX (X : Stand p l e R s m args below meth c T locs cells slots) (hexec : p.tables.exec = Jvm.exec) {own C : String} {index : Nat} {y : MethodName} {bytes : ByteArray} {maxL : Nat} {ret : Option FieldType} {hh : List (Nat × Nat × Nat × Nat)}
    (hown : s.vm.findClass own = some m.cls) (hlink : (Cond.methodLink own index y).before args s = true) (hinst : (Cond.instanceMethod y).before args s = true) (hsel : (Cond.selects C y y).before args s = true)
    (hcode : (Cond.codeWith y bytes maxL ret hh).before args s = true) (hy : y.cls ≠ "java/lang/invoke/MethodHandle" ∧ y.cls ≠ "java/lang/invoke/VarHandle")
    {W9 : Nat} {Pre : Pt → Array Value → Prop} {Post : Pt → Array Value → Option Value → Pt → Prop} {PostX : Pt → Array Value → Addr → Pt → Prop} (hK : vx_Back l R p e below s args y 3 W9 Pre Post PostX)
    {b : Addr} {cellB : Cell} (hcell : T.heap[b]? = some cellB) (hobj : cellB.vm.isStatics = false) (hcls : s.vm.findClass C = some cellB.cls)
    {g : JFrame} (hg : g.method = m) (hsize : g.locals.size = c.maxLocals) {argsL rest : List Value} (hlen : ∀ sig, parseMethodDescriptor y.desc = some sig → argsL.length = sig.parameters.length)
    (hstack : g.stack = argsL.reverse ++ .ref b :: rest) (hW : 2 * g.monitorRoom + (rest.map fun v => v.category).sum ≤ W9) (hdg : decode c.code g.pc = .ok (.invokevirtual index, 3))
    (hpre : ∀ vm₁, s.WarmedH vm₁ → Pre ⟨T.setVm vm₁, locs, cells, slots⟩ (Value.ref b :: argsL).toArray) :
    (∃ (v : Option Value) (vm₁ : Vm) (B : Pt), s.WarmedH vm₁ ∧ Stand p l e R s m args below meth c B.U B.locs B.cells B.slots ∧ Post ⟨T.setVm vm₁, locs, cells, slots⟩ (Value.ref b :: argsL).toArray v B ∧
      ∀ target, Steps p.tables e below (B.U.setTop { g with pc := g.pc + 3, stack := v.toList ++ rest }) target → Steps p.tables e below (T.setTop g) target) ∨
    (∃ (q : Addr) (vm₁ : Vm) (B : Pt), s.WarmedH vm₁ ∧ Stand p l e R s m args below meth c B.U B.locs B.cells B.slots ∧ PostX ⟨T.setVm vm₁, locs, cells, slots⟩ (Value.ref b :: argsL).toArray q B ∧
      Steps p.tables e below (T.setTop g) ((B.U.setTop { g with stack := rest }).pushFrame (.throwing q))) := by
  obtain ⟨mk, methM, hnamed, hmethM, hstM, habM⟩ := Cond.instanceMethod_spec hinst
  obtain ⟨m8, methM', cM, hn8, hmethM', -, -, -, -, -, -, hsigM⟩ := Cond.codeWith_spec hcode
  cases Option.some.inj (hn8.symm.trans hnamed)
  cases hmethM.symm.trans hmethM'
  obtain ⟨c2, r2, m2, q1, q2, q3, q4, kP, hkP, hkPi⟩ := Cond.selects_spec hsel
  cases hcls.symm.trans q1
  cases (State.methodFound?_of_named hnamed hy).symm.trans q2
  cases hnamed.symm.trans q3
  have hselP : selectMethod e.platform s.vm cellB.cls mk = .method mk := by rw [Launch.admits_selectMethod X.admits]; exact q4
  obtain ⟨vm₁, X₁, hstep₁⟩ := X.invokevirtual hexec hown hlink hnamed hmethM hstM hkP hkPi hy (a := b) (cell := cellB) hcell
    (fun z h => by rw [h] at hobj; cases hobj) hselP hmethM habM hkP hkPi (g := g) hg (argsL := argsL) (rest := rest) (hlen _ hsigM) hstack hdg
  rcases hK m meth c ⟨T.setVm vm₁, locs, cells, slots⟩ { g with stack := rest } (.invokevirtual index) mk (Value.ref b :: argsL).toArray X₁ hg hsize hdg hW (X₁.named hnamed) (hpre vm₁ X₁.warmed) with ⟨v, B, X', hpost, hsteps⟩ | ⟨q, B, X', hpost, hsteps⟩
  · exact Or.inl ⟨v, vm₁, B, X₁.warmed, X', hpost, fun target h => hstep₁ _ fun acts => by rw [doInvoke_state]; exact hsteps.trans h⟩
  · exact Or.inr ⟨q, vm₁, B, X₁.warmed, X', hpost, hstep₁ _ fun acts => by rw [doInvoke_state]; exact hsteps⟩
theorem vx_callSX (X : Stand p l e R s m args below meth c T locs cells slots) (hexec : p.tables.exec = Jvm.exec) {own : String} {index : Nat} {y : MethodName} {bytes : ByteArray} {maxL : Nat} {ret : Option FieldType} {hh : List (Nat × Nat × Nat × Nat)}
    (hown : s.vm.findClass own = some m.cls) (hlink : (Cond.methodLink own index y).before args s = true) (hstat : (Cond.static y).before args s = true) (hinit : (Cond.initialized y.cls).before args s = true)
    (hcode : (Cond.codeWith y bytes maxL ret hh).before args s = true) (hy : y.cls ≠ "java/lang/invoke/MethodHandle" ∧ y.cls ≠ "java/lang/invoke/VarHandle")
    {W9 : Nat} {Pre : Pt → Array Value → Prop} {Post : Pt → Array Value → Option Value → Pt → Prop} {PostX : Pt → Array Value → Addr → Pt → Prop} (hK : vx_Back l R p e below s args y 3 W9 Pre Post PostX)
    {g : JFrame} (hg : g.method = m) (hsize : g.locals.size = c.maxLocals) {argsL rest : List Value} (hlen : ∀ sig, parseMethodDescriptor y.desc = some sig → argsL.length = sig.parameters.length)
    (hstack : g.stack = argsL.reverse ++ rest) (hW : 2 * g.monitorRoom + (rest.map fun v => v.category).sum ≤ W9) (hdg : decode c.code g.pc = .ok (.invokestatic index, 3))
    (hpre : ∀ vm₁, s.WarmedH vm₁ → Pre ⟨T.setVm vm₁, locs, cells, slots⟩ argsL.toArray) :
    (∃ (v : Option Value) (vm₁ : Vm) (B : Pt), s.WarmedH vm₁ ∧ Stand p l e R s m args below meth c B.U B.locs B.cells B.slots ∧ Post ⟨T.setVm vm₁, locs, cells, slots⟩ argsL.toArray v B ∧
      ∀ target, Steps p.tables e below (B.U.setTop { g with pc := g.pc + 3, stack := v.toList ++ rest }) target → Steps p.tables e below (T.setTop g) target) ∨
    (∃ (q : Addr) (vm₁ : Vm) (B : Pt), s.WarmedH vm₁ ∧ Stand p l e R s m args below meth c B.U B.locs B.cells B.slots ∧ PostX ⟨T.setVm vm₁, locs, cells, slots⟩ argsL.toArray q B ∧
      Steps p.tables e below (T.setTop g) ((B.U.setTop { g with stack := rest }).pushFrame (.throwing q))) := by
  obtain ⟨mk, methM, cM, hnamed, hmethM, -, -, -, -, -, -, hsigM⟩ := Cond.codeWith_spec hcode
  have hstatic : methM.isStatic = true := Cond.static_spec hnamed hmethM hstat
  obtain ⟨kP, hkP, -⟩ := className_of_methodNamed hnamed
  have hinitP : kP.init = .initialized := Cond.initialized_spec (findClass_of_methodNamed hnamed) hkP hinit
  obtain ⟨vm₁, X₁, hstep₁⟩ := X.invokestatic hexec hown hlink hnamed hmethM hstatic hkP hinitP hy (g := g) hg (argsL := argsL) (rest := rest) (hlen _ hsigM) hstack hdg
  rcases hK m meth c ⟨T.setVm vm₁, locs, cells, slots⟩ { g with stack := rest } (.invokestatic index) mk argsL.toArray X₁ hg hsize hdg hW (X₁.named hnamed) (hpre vm₁ X₁.warmed) with ⟨v, B, X', hpost, hsteps⟩ | ⟨q, B, X', hpost, hsteps⟩
  · exact Or.inl ⟨v, vm₁, B, X₁.warmed, X', hpost, fun target h => hstep₁ _ fun acts => by rw [doInvoke_state]; exact hsteps.trans h⟩
  · exact Or.inr ⟨q, vm₁, B, X₁.warmed, X', hpost, hstep₁ _ fun acts => by rw [doInvoke_state]; exact hsteps⟩
theorem vx_callVW (X : Stand p l e R s m args below meth c T locs cells slots) (hexec : p.tables.exec = Jvm.exec) {own C : String} {index : Nat} {y : MethodName} {bytes : ByteArray} {maxL : Nat} {ret : Option FieldType} {hh : List (Nat × Nat × Nat × Nat)}
    (hown : s.vm.findClass own = some m.cls) (hlink : (Cond.methodLink own index y).before args s = true) (hinst : (Cond.instanceMethod y).before args s = true) (hsel : (Cond.selects C y y).before args s = true)
    (hcode : (Cond.codeWith y bytes maxL ret hh).before args s = true) (hy : y.cls ≠ "java/lang/invoke/MethodHandle" ∧ y.cls ≠ "java/lang/invoke/VarHandle")
    {W9 : Nat} {Pre : Pt → Array Value → Prop} {Post : Pt → Array Value → Option Value → Pt → Prop} (hK : Back l R p e below s args y 3 W9 Pre Post)
    {b : Addr} {cellB : Cell} (hcell : T.heap[b]? = some cellB) (hobj : cellB.vm.isStatics = false) (hcls : s.vm.findClass C = some cellB.cls)
    {g : JFrame} (hg : g.method = m) (hsize : g.locals.size = c.maxLocals) {argsL rest : List Value} (hlen : ∀ sig, parseMethodDescriptor y.desc = some sig → argsL.length = sig.parameters.length)
    (hstack : g.stack = argsL.reverse ++ .ref b :: rest) (hW : 2 * g.monitorRoom + (rest.map fun v => v.category).sum ≤ W9) (hdg : decode c.code g.pc = .ok (.invokevirtual index, 3))
    (hpre : ∀ vm₁, s.WarmedH vm₁ → Pre ⟨T.setVm vm₁, locs, cells, slots⟩ (Value.ref b :: argsL).toArray) :
    ∃ (v : Option Value) (vm₁ : Vm) (B : Pt), s.WarmedH vm₁ ∧ Stand p l e R s m args below meth c B.U B.locs B.cells B.slots ∧ Post ⟨T.setVm vm₁, locs, cells, slots⟩ (Value.ref b :: argsL).toArray v B ∧
      ∀ target, Steps p.tables e below (B.U.setTop { g with pc := g.pc + 3, stack := v.toList ++ rest }) target → Steps p.tables e below (T.setTop g) target := by
  obtain ⟨mk, methM, hnamed, hmethM, hstM, habM⟩ := Cond.instanceMethod_spec hinst
  obtain ⟨m8, methM', cM, hn8, hmethM', -, -, -, -, -, -, hsigM⟩ := Cond.codeWith_spec hcode
  cases Option.some.inj (hn8.symm.trans hnamed)
  cases hmethM.symm.trans hmethM'
  obtain ⟨c2, r2, m2, q1, q2, q3, q4, kP, hkP, hkPi⟩ := Cond.selects_spec hsel
  cases hcls.symm.trans q1
  cases (State.methodFound?_of_named hnamed hy).symm.trans q2
  cases hnamed.symm.trans q3
  have hselP : selectMethod e.platform s.vm cellB.cls mk = .method mk := by rw [Launch.admits_selectMethod X.admits]; exact q4
  obtain ⟨vm₁, X₁, hstep₁⟩ := X.invokevirtual hexec hown hlink hnamed hmethM hstM hkP hkPi hy (a := b) (cell := cellB) hcell
    (fun z h => by rw [h] at hobj; cases hobj) hselP hmethM habM hkP hkPi (g := g) hg (argsL := argsL) (rest := rest) (hlen _ hsigM) hstack hdg
  obtain ⟨v, B, X', hpost, hsteps⟩ := hK m meth c ⟨T.setVm vm₁, locs, cells, slots⟩ { g with stack := rest } (.invokevirtual index) mk (Value.ref b :: argsL).toArray X₁ hg hsize hdg hW (X₁.named hnamed) (hpre vm₁ X₁.warmed)
  exact ⟨v, vm₁, B, X₁.warmed, X', hpost, fun target h => hstep₁ _ fun acts => by rw [doInvoke_state]; exact hsteps.trans h⟩
abbrev vx_CVW (R : Room) (s : State) (args : Array Value) (own C : String) (index : Nat) (y : MethodName) (bytes : ByteArray) (maxL : Nat) (ret : Option FieldType) (hh : List (Nat × Nat × Nat × Nat)) (ws : List Cond) (rm : Room) (mc ms n : Nat) : Prop :=
  (rm.cells = mc ∧ rm.slots = ms ∧ rm.frames + 1 ≤ R.frames ∧ 8 + (maxL + 11) + rm.locals ≤ R.locals ∧ (∀ w ∈ ws, ∀ (a' : Array Value) (U : State), s.WarmedH U.vm → w.before a' U = true) ∧ Cond.codeWith y bytes maxL ret hh ∈ ws) ∧
  (Cond.codeWith y bytes maxL ret hh).before args s = true ∧ (Cond.initialized y.cls).before args s = true ∧ (y.cls ≠ "java/lang/invoke/MethodHandle" ∧ y.cls ≠ "java/lang/invoke/VarHandle") ∧
  (∀ sig, parseMethodDescriptor y.desc = some sig → n = sig.parameters.length) ∧ (Cond.methodLink own index y).before args s = true ∧ (Cond.instanceMethod y).before args s = true ∧ (Cond.selects C y y).before args s = true
theorem vx_cwVW {own C : String} {index maxL mc ms : Nat} {y : MethodName} {bytes : ByteArray} {ret : Option FieldType} {hh : List (Nat × Nat × Nat × Nat)} {Ts ws ws' : List Cond} {rm : Room} (n : Nat) (ht : ∀ w ∈ Ts, w.before args s = true) (hT : GoodIn Ts (wsV own index C y ws)) (hw : ws = Cond.codeWith y bytes maxL ret hh :: ws') (hrc : rm.cells = mc) (hrs : rm.slots = ms)
    (hd : y.cls = C ∧ y.cls ≠ "java/lang/invoke/MethodHandle" ∧ y.cls ≠ "java/lang/invoke/VarHandle" ∧ (parseMethodDescriptor y.desc).map (fun d => d.parameters.length) = some n) (hR : rm.frames + 1 ≤ R.frames ∧ 8 + (maxL + 11) + rm.locals ≤ R.locals) :
    vx_CVW R s args own C index y bytes maxL ret hh ws rm mc ms n := by
  obtain ⟨hC, hd⟩ := hd
  subst hC
  have ok : ∀ w ∈ wsV own index y.cls y ws, w.before args s = true := fun w h => ht w (hT w h).1
  have hG : GoodIn Ts ws := fun w h => hT w (by unfold wsV; exact List.mem_append_right _ h)
  have hc : Cond.codeWith y bytes maxL ret hh ∈ ws := by rw [hw]; exact List.mem_cons_self
  refine ⟨⟨hrc, hrs, hR.1, hR.2, pay_in ht hG, hc⟩, ht _ (hG _ hc).1, ok _ (by simp [wsV]), ⟨hd.1, hd.2.1⟩, fun sig h => ?_, ok _ (by simp [wsV]), ok _ (by simp [wsV]), ok _ (by simp [wsV])⟩
  have h2 := hd.2.2
  rw [h] at h2
  exact (Option.some.inj h2).symm
theorem vx_runVW {y : MethodName} {bytes cc : ByteArray} {maxL nL mc ms n index : Nat} {ret : Option FieldType} {hh : List (Nat × Nat × Nat × Nat)} {ws : List Cond} {rm : Room} {Pc : Array Value → State → Prop} {Qc : Array Value → State → Outcome → State → Prop} {free : Addr → Prop} {Ts : List Cond} {own C : String} {b : Addr} {As rest : List Value} {g : JFrame}
    (S : CallFix p m c cc nL s args Ts own) (hM : Met l y ws rm Pc Qc mc ms free) (cw : vx_CVW R s args own C index y bytes maxL ret hh ws rm mc ms n) (hp : PreV s H C b Pc As)
    (hg : g.method = m) (hn : As.length = n) (hsize : g.locals.size = nL) (hstack : g.stack = As.reverse ++ .ref b :: rest) (hW : 2 * g.monitorRoom + (rest.map fun v => v.category).sum ≤ 8) (hdg : decode cc g.pc = .ok (.invokevirtual index, 3)) (hf : cells + mc ≤ R.cells ∧ slots + ms ≤ R.slots) :
    va_Run p l e R s m args below meth c H locs cells slots mc ms g rest (Qc (Value.ref b :: As).toArray) free := by
  obtain ⟨⟨hrc, hrs, hfr, hlo, hws, hcw⟩, hcode, hini, hy, hlen, hl, hin, hse⟩ := cw
  have hK : Back l R p e below s args y 3 8 (PreOf R mc ms Pc) (PostOf Qc mc ms free) := va_backW (hh := hh) (bytes := bytes) (maxL := maxL) (ret := ret) hM hp.1 hrc hrs hfr hlo hws hcw (fun a' U hW => word_at hW (Or.inl (by first | rfl | simp [Cond.onTables, Cond.keeps, Cond.steady])) hini)
  obtain ⟨hx, hb, hml, ho, -⟩ := S
  obtain ⟨-, ⟨cellB, hcB, hoB, hclB⟩, hPc⟩ := hp
  intro T hT X
  obtain ⟨v, vm₁, ⟨U', l2, c2, s2⟩, hW₁, X', ⟨g', mk, t, L, e1, e2, hq, h1, hL, h2, h3⟩, st⟩ := vx_callVW X hx (C := C) (hh := hh) (bytes := bytes) (maxL := maxL) (ret := ret) ho hl hin hse hcode hy hK (by rw [hT]; exact hcB) hoB hclB hg (hsize.trans hml.symm) (argsL := As) (rest := rest) (fun sig h => hn.trans (hlen sig h)) hstack hW (by rw [hb]; exact hdg)
    (fun vm₁ hW₁ => ⟨hf.1, hf.2, hPc (T.setVm vm₁) hT hW₁⟩)
  dsimp only [Pt.U, Pt.locs, Pt.cells, Pt.slots] at X' e1 e2 h1 h2 h3 st
  subst h1; subst h2; subst h3
  exact ⟨v, (T.setVm vm₁).calling g' mk (Value.ref b :: As).toArray, t, U', L, hT, X', hL, e1, e2, hq, st⟩
section
variable {y : MethodName} {bytes cc : ByteArray} {maxL nL mc ms n index : Nat} {ret : Option FieldType} {ws : List Cond} {rm : Room} {Pc : Array Value → State → Prop} {Qc : Array Value → State → Outcome → State → Prop} {XC : String → State → State → Prop} {free : Addr → Prop} {Ts : List Cond} {own C : String} {b : Addr} {As rest : List Value} {g : JFrame}
theorem vx_runVX {hh : List (Nat × Nat × Nat × Nat)} (S : CallFix p m c cc nL s args Ts own) (hM : vx_Met l y ws rm Pc Qc XC mc ms free) (cw : vx_CVW R s args own C index y bytes maxL ret hh ws rm mc ms n) (hp : PreV s H C b Pc As)
    (hg : g.method = m) (hn : As.length = n) (hsize : g.locals.size = nL) (hstack : g.stack = As.reverse ++ .ref b :: rest) (hW : 2 * g.monitorRoom + (rest.map fun v => v.category).sum ≤ 8) (hdg : decode cc g.pc = .ok (.invokevirtual index, 3)) (hf : cells + mc ≤ R.cells ∧ slots + ms ≤ R.slots) :
    vx_Run p l e R s m args below meth c H locs cells slots mc ms g rest (Qc (Value.ref b :: As).toArray) XC free := by
  obtain ⟨⟨hrc, hrs, hfr, hlo, hws, hcw⟩, hcode, hini, hy, hlen, hl, hin, hse⟩ := cw
  have hK : vx_Back l R p e below s args y 3 8 (PreOf R mc ms Pc) (PostOf Qc mc ms free) (vx_Post XC mc ms free) := vx_backW (hh := hh) (bytes := bytes) (maxL := maxL) (ret := ret) hM hp.1 hrc hrs hfr hlo hws hcw (fun a' U hW => word_at hW (Or.inl (by first | rfl | simp [Cond.onTables, Cond.keeps, Cond.steady])) hini)
  obtain ⟨hx, hb, hml, ho, -⟩ := S
  obtain ⟨-, ⟨cellB, hcB, hoB, hclB⟩, hPc⟩ := hp
  intro T hT X
  rcases vx_callVX X hx (C := C) (hh := hh) (bytes := bytes) (maxL := maxL) (ret := ret) ho hl hin hse hcode hy hK (by rw [hT]; exact hcB) hoB hclB hg (hsize.trans hml.symm) (argsL := As) (rest := rest) (fun sig h => hn.trans (hlen sig h)) hstack hW (by rw [hb]; exact hdg)
    (fun vm₁ hW₁ => ⟨hf.1, hf.2, hPc (T.setVm vm₁) hT hW₁⟩) with ⟨v, vm₁, ⟨U', l2, c2, s2⟩, hW₁, X', ⟨g', mk, t, L, e1, e2, hq, h1, hL, h2, h3⟩, st⟩ | ⟨q, vm₁, ⟨U', l2, c2, s2⟩, hW₁, X', ⟨g', mk, t, L, E, ce, e1, e2, hq, hce, hcv, hcl, h1, hL, h2, h3⟩, st⟩
  · dsimp only [Pt.U, Pt.locs, Pt.cells, Pt.slots] at X' e1 e2 h1 h2 h3 st
    subst h1; subst h2; subst h3
    exact Or.inl ⟨v, (T.setVm vm₁).calling g' mk (Value.ref b :: As).toArray, t, U', L, hT, X', hL, e1, e2, hq, st⟩
  · dsimp only [Pt.U, Pt.locs, Pt.cells, Pt.slots] at X' e1 e2 h1 h2 h3 st hcl
    subst h1; subst h2; subst h3
    exact Or.inr ⟨q, (T.setVm vm₁).calling g' mk (Value.ref b :: As).toArray, t, U', L, E, ce, hT, X', hL, e1, e2, hq, hce, hcv, vx_cls hW₁ hcl, st⟩
theorem vx_runSX {hh : List (Nat × Nat × Nat × Nat)} (S : CallFix p m c cc nL s args Ts own) (hM : vx_Met l y ws rm Pc Qc XC mc ms free) (cw : vx_CSW R s args own index y bytes maxL ret hh ws rm mc ms n) (hp : PreS s H Pc As)
    (hg : g.method = m) (hn : As.length = n) (hsize : g.locals.size = nL) (hstack : g.stack = As.reverse ++ rest) (hW : 2 * g.monitorRoom + (rest.map fun v => v.category).sum ≤ 8) (hdg : decode cc g.pc = .ok (.invokestatic index, 3)) (hf : cells + mc ≤ R.cells ∧ slots + ms ≤ R.slots) :
    vx_Run p l e R s m args below meth c H locs cells slots mc ms g rest (Qc As.toArray) XC free := by
  obtain ⟨⟨hrc, hrs, hfr, hlo, hws, hcw⟩, hcode, hini, hy, hlen, hl, hstt⟩ := cw
  have hK : vx_Back l R p e below s args y 3 8 (PreOf R mc ms Pc) (PostOf Qc mc ms free) (vx_Post XC mc ms free) := vx_backW (hh := hh) (bytes := bytes) (maxL := maxL) (ret := ret) hM hp.1 hrc hrs hfr hlo hws hcw (fun a' U hW => word_at hW (Or.inl (by first | rfl | simp [Cond.onTables, Cond.keeps, Cond.steady])) hini)
  obtain ⟨hx, hb, hml, ho, -⟩ := S
  intro T hT X
  rcases vx_callSX X hx (hh := hh) (bytes := bytes) (maxL := maxL) (ret := ret) ho hl hstt hini hcode hy hK hg (hsize.trans hml.symm) (argsL := As) (rest := rest) (fun sig h => hn.trans (hlen sig h)) hstack hW (by rw [hb]; exact hdg)
    (fun vm₁ hW₁ => ⟨hf.1, hf.2, hp.2 (T.setVm vm₁) hT hW₁⟩) with ⟨v, vm₁, ⟨U', l2, c2, s2⟩, hW₁, X', ⟨g', mk, t, L, e1, e2, hq, h1, hL, h2, h3⟩, st⟩ | ⟨q, vm₁, ⟨U', l2, c2, s2⟩, hW₁, X', ⟨g', mk, t, L, E, ce, e1, e2, hq, hce, hcv, hcl, h1, hL, h2, h3⟩, st⟩
  · dsimp only [Pt.U, Pt.locs, Pt.cells, Pt.slots] at X' e1 e2 h1 h2 h3 st
    subst h1; subst h2; subst h3
    exact Or.inl ⟨v, (T.setVm vm₁).calling g' mk As.toArray, t, U', L, hT, X', hL, e1, e2, hq, st⟩
  · dsimp only [Pt.U, Pt.locs, Pt.cells, Pt.slots] at X' e1 e2 h1 h2 h3 st hcl
    subst h1; subst h2; subst h3
    exact Or.inr ⟨q, (T.setVm vm₁).calling g' mk As.toArray, t, U', L, E, ce, hT, X', hL, e1, e2, hq, hce, hcv, vx_cls hW₁ hcl, st⟩
end
end VXH
theorem vx_ofWH {l : Launch} {y : MethodName} {ws ws' : List Cond} {rm : Room} {Pc : Array Value → State → Prop} {Qc : Array Value → State → Outcome → State → Prop} {XC : String → State → State → Prop} {mc ms : Nat} {free : Addr → Prop} {cc : ByteArray} {maxL : Nat} {ret : Option FieldType} {hh : List (Nat × Nat × Nat × Nat)}
    (hy : plainName y.cls = true) (hw : ws = Cond.codeWith y cc maxL ret hh :: ws')
    (body : ∀ p e s m args below meth c s₁, BodyLoose p l y (headSpec ws rm) cc maxL ret e s m args below meth c s₁ → c.maxLocals = maxL → Pc args s →
      W p l e (headSpec ws rm).room s m args below meth c s.heap [] 0 0 (vx_MQ below Qc XC args s mc ms free) (entryFrame m args maxL)) : vx_Met l y ws rm Pc Qc XC mc ms free := by
  refine MetFree.of_bodyS (code := cc) (maxLocals := maxL) (ret := ret) hy ?_ ?_
  · intro args s m h hn
    obtain ⟨m9, meth, c, hn9, h1, h2, h3, h4, -, h5, h6, -⟩ := Cond.codeWith_spec (atoms_spec (ws := ws) h _ (by rw [hw]; exact List.mem_cons_self))
    cases hn.symm.trans hn9
    exact ⟨meth, c, h1, h2, h3, h4, h5, h6⟩
  · intro p e s m args below meth c s₁ B hml hP _
    have hh0 : s₁.heap = s.heap := by rw [B.state]; rfl
    obtain ⟨t, a1, o, b1, b2, b3⟩ := body p e s m args below meth c s₁ B hml hP s₁ hh0 (Stand.of_body B)
    exact ⟨t, o, a1, b1, b2, b3⟩
/-! ===== END ===== -/
end
section
/-! names, taken from the claim's printed names; own lists behind them -/
def RX0 : String := "QuakeBench$Event"
def RX1 : String := "QuakeBench$Pick"
def RX2 : String := "QuakeBench$Row"
def RX3 : String := "QuakeBench$Search"
def RX4 : String := "QuakeBench$Station"
def RX5 : String := "QuakeBench$Waves"
def RX6 : String := "QuakeBench"
def RX7 : String := "QuakeBenchModel"
def RJx145de : String := "java/io/Serializable"
def RJ5 : String := "java/lang/AbstractStringBuilder"
def RJx2cfe8 : String := "java/lang/Appendable"
def RJx9f9b0 : String := "java/lang/CharSequence"
def RJx8e188 : String := "java/lang/Cloneable"
def RJxb160c : String := "java/lang/Comparable"
def RJ6 : String := "java/lang/Integer"
def RJxab1ab : String := "java/lang/Iterable"
def RJ9 : String := "java/lang/Math"
def RJxd2413 : String := "java/lang/Number"
def RJ0 : String := "java/lang/String"
def RJ4 : String := "java/lang/StringBuilder"
def RJ1 : String := "java/lang/StringLatin1"
def RJ2 : String := "java/lang/StringUTF16"
def RJ10 : String := "java/lang/System"
def RJxfd54e : String := "java/lang/constant/Constable"
def RJx3cf43 : String := "java/lang/constant/ConstantDesc"
def RJxa1e45 : String := "java/util/AbstractCollection"
def RJxc12de : String := "java/util/AbstractList"
def RJx4a65c : String := "java/util/ArrayList"
def RJ7 : String := "java/util/Arrays"
def RJx5ef63 : String := "java/util/Collection"
def RJxbd725 : String := "java/util/List"
def RJ15 : String := "java/util/Objects"
def RJxf0a74 : String := "java/util/RandomAccess"
def RJxa66e6 : String := "java/util/SequencedCollection"
def RJ8 : String := "jdk/internal/util/ArraysSupport"
def RJ3 : String := "jdk/internal/util/Preconditions"
def RL : String := "QuakeBenchLaw"
def TX6 : u_T := fun k => match k with
  | 0 => ("QuakeBench", "stations", "Ljava/util/ArrayList;", true)
  | 1 => ("QuakeBench", "picks", "Ljava/util/ArrayList;", true)
  | 2 => ("QuakeBench", "events", "Ljava/util/ArrayList;", true)
  | 3 => ("QuakeBench", "waves", "LQuakeBench$Waves;", true)
  | 4 => ("QuakeBench", "row", "LQuakeBench$Row;", true)
  | 5 => ("QuakeBench", "search", "LQuakeBench$Search;", true)
  | 6 => ("QuakeBench", "loose", "Ljava/util/ArrayList;", true)
  | _ => ("QuakeBench", "companions", "Ljava/util/ArrayList;", true)
def tyX6 : Nat → FieldType := fun k => match k with
  | 0 => .object "java/util/ArrayList"
  | 1 => .object "java/util/ArrayList"
  | 2 => .object "java/util/ArrayList"
  | 3 => .object "QuakeBench$Waves"
  | 4 => .object "QuakeBench$Row"
  | 5 => .object "QuakeBench$Search"
  | 6 => .object "java/util/ArrayList"
  | _ => .object "java/util/ArrayList"
theorem nmX6 : ∀ a, a < 8 → ∀ b, b < 8 → a ≠ b → (TX6 a).2.1 ≠ (TX6 b).2.1 := by decide +kernel
theorem tyX6_ok : ∀ k, k < 8 → parseFieldDescriptor (TX6 k).2.2.1 = some (tyX6 k) := by decide +kernel
def TX0 : u_T := fun k => match k with
  | 0 => ("QuakeBench$Event", "number", "I", true)
  | 1 => ("QuakeBench$Event", "members", "Ljava/util/ArrayList;", true)
  | 2 => ("QuakeBench$Event", "found", "Z", false)
  | 3 => ("QuakeBench$Event", "x", "I", false)
  | 4 => ("QuakeBench$Event", "y", "I", false)
  | 5 => ("QuakeBench$Event", "z", "I", false)
  | 6 => ("QuakeBench$Event", "time", "I", false)
  | _ => ("QuakeBench$Event", "label", "I", false)
def tyX0 : Nat → FieldType := fun k => match k with
  | 0 => .int
  | 1 => .object "java/util/ArrayList"
  | 2 => .boolean
  | 3 => .int
  | 4 => .int
  | 5 => .int
  | 6 => .int
  | _ => .int
theorem nmX0 : ∀ a, a < 8 → ∀ b, b < 8 → a ≠ b → (TX0 a).2.1 ≠ (TX0 b).2.1 := by decide +kernel
theorem tyX0_ok : ∀ k, k < 8 → parseFieldDescriptor (TX0 k).2.2.1 = some (tyX0 k) := by decide +kernel
def TX1 : u_T := fun k => match k with
  | 0 => ("QuakeBench$Pick", "number", "I", true)
  | 1 => ("QuakeBench$Pick", "station", "LQuakeBench$Station;", true)
  | 2 => ("QuakeBench$Pick", "isS", "Z", true)
  | 3 => ("QuakeBench$Pick", "time", "I", true)
  | 4 => ("QuakeBench$Pick", "weight", "I", false)
  | 5 => ("QuakeBench$Pick", "amplitude", "I", false)
  | _ => ("QuakeBench$Pick", "event", "LQuakeBench$Event;", false)
def tyX1 : Nat → FieldType := fun k => match k with
  | 0 => .int
  | 1 => .object "QuakeBench$Station"
  | 2 => .boolean
  | 3 => .int
  | 4 => .int
  | 5 => .int
  | _ => .object "QuakeBench$Event"
theorem nmX1 : ∀ a, a < 7 → ∀ b, b < 7 → a ≠ b → (TX1 a).2.1 ≠ (TX1 b).2.1 := by decide +kernel
theorem tyX1_ok : ∀ k, k < 7 → parseFieldDescriptor (TX1 k).2.2.1 = some (tyX1 k) := by decide +kernel
def TX2 : u_T := fun k => match k with
  | 0 => ("QuakeBench$Row", "numbers", "[I", true)
  | 1 => ("QuakeBench$Row", "weights", "[I", true)
  | 2 => ("QuakeBench$Row", "size", "I", false)
  | _ => ("QuakeBench$Row", "total", "I", false)
def tyX2 : Nat → FieldType := fun k => match k with
  | 0 => .array .int
  | 1 => .array .int
  | 2 => .int
  | _ => .int
theorem nmX2 : ∀ a, a < 4 → ∀ b, b < 4 → a ≠ b → (TX2 a).2.1 ≠ (TX2 b).2.1 := by decide +kernel
theorem tyX2_ok : ∀ k, k < 4 → parseFieldDescriptor (TX2 k).2.2.1 = some (tyX2 k) := by decide +kernel
def TX3 : u_T := fun k => match k with
  | 0 => ("QuakeBench$Search", "waves", "LQuakeBench$Waves;", true)
  | 1 => ("QuakeBench$Search", "row", "LQuakeBench$Row;", true)
  | 2 => ("QuakeBench$Search", "hasBest", "Z", false)
  | 3 => ("QuakeBench$Search", "bestX", "I", false)
  | 4 => ("QuakeBench$Search", "bestY", "I", false)
  | 5 => ("QuakeBench$Search", "bestZ", "I", false)
  | 6 => ("QuakeBench$Search", "bestBegin", "I", false)
  | _ => ("QuakeBench$Search", "leastMisfit", "J", false)
def tyX3 : Nat → FieldType := fun k => match k with
  | 0 => .object "QuakeBench$Waves"
  | 1 => .object "QuakeBench$Row"
  | 2 => .boolean
  | 3 => .int
  | 4 => .int
  | 5 => .int
  | 6 => .int
  | _ => .long
theorem nmX3 : ∀ a, a < 8 → ∀ b, b < 8 → a ≠ b → (TX3 a).2.1 ≠ (TX3 b).2.1 := by decide +kernel
theorem tyX3_ok : ∀ k, k < 8 → parseFieldDescriptor (TX3 k).2.2.1 = some (tyX3 k) := by decide +kernel
def TX4 : u_T := fun k => match k with
  | 0 => ("QuakeBench$Station", "number", "I", true)
  | 1 => ("QuakeBench$Station", "x", "I", true)
  | 2 => ("QuakeBench$Station", "y", "I", true)
  | _ => ("QuakeBench$Station", "delay", "I", false)
def tyX4 : Nat → FieldType := fun k => match k with
  | 0 => .int
  | 1 => .int
  | 2 => .int
  | _ => .int
theorem nmX4 : ∀ a, a < 4 → ∀ b, b < 4 → a ≠ b → (TX4 a).2.1 ≠ (TX4 b).2.1 := by decide +kernel
theorem tyX4_ok : ∀ k, k < 4 → parseFieldDescriptor (TX4 k).2.2.1 = some (tyX4 k) := by decide +kernel
def TX5 : u_T := fun k => match k with
  | 0 => ("QuakeBench$Waves", "speedOfP", "I", false)
  | _ => ("QuakeBench$Waves", "speedOfS", "I", false)
def tyX5 : Nat → FieldType := fun k => match k with
  | 0 => .int
  | _ => .int
theorem nmX5 : ∀ a, a < 2 → ∀ b, b < 2 → a ≠ b → (TX5 a).2.1 ≠ (TX5 b).2.1 := by decide +kernel
theorem tyX5_ok : ∀ k, k < 2 → parseFieldDescriptor (TX5 k).2.2.1 = some (tyX5 k) := by decide +kernel
def TJx4a65c : u_T := fun k => match k with
  | 0 => ("java/util/AbstractList", "modCount", "I", false)
  | 1 => ("java/util/ArrayList", "elementData", "[Ljava/lang/Object;", false)
  | _ => ("java/util/ArrayList", "size", "I", false)
def tyJx4a65c : Nat → FieldType := fun k => match k with
  | 0 => .int
  | 1 => .array (.object "java/lang/Object")
  | _ => .int
theorem nmJx4a65c : ∀ a, a < 3 → ∀ b, b < 3 → a ≠ b → (TJx4a65c a).2.1 ≠ (TJx4a65c b).2.1 := by decide +kernel
theorem tyJx4a65c_ok : ∀ k, k < 3 → parseFieldDescriptor (TJx4a65c k).2.2.1 = some (tyJx4a65c k) := by decide +kernel
def TX7 : u_T := fun k => match k with
  | 0 => ("QuakeBenchModel", "thrown", "I", false)
  | 1 => ("QuakeBenchModel", "speedP", "I", false)
  | 2 => ("QuakeBenchModel", "speedS", "I", false)
  | 3 => ("QuakeBenchModel", "stations", "I", false)
  | 4 => ("QuakeBenchModel", "xs", "[I", true)
  | 5 => ("QuakeBenchModel", "ys", "[I", true)
  | 6 => ("QuakeBenchModel", "delays", "[I", true)
  | 7 => ("QuakeBenchModel", "picks", "I", false)
  | 8 => ("QuakeBenchModel", "stationOf", "[I", true)
  | 9 => ("QuakeBenchModel", "areS", "[Z", true)
  | 10 => ("QuakeBenchModel", "times", "[I", true)
  | 11 => ("QuakeBenchModel", "weights", "[I", true)
  | 12 => ("QuakeBenchModel", "eventOf", "[I", true)
  | 13 => ("QuakeBenchModel", "amplitudes", "[I", true)
  | 14 => ("QuakeBenchModel", "events", "I", false)
  | 15 => ("QuakeBenchModel", "areFound", "[Z", true)
  | 16 => ("QuakeBenchModel", "found", "[I", true)
  | 17 => ("QuakeBenchModel", "starts", "[I", true)
  | _ => ("QuakeBenchModel", "begin", "I", false)
def tyX7 : Nat → FieldType := fun k => match k with
  | 0 => .int
  | 1 => .int
  | 2 => .int
  | 3 => .int
  | 4 => .array .int
  | 5 => .array .int
  | 6 => .array .int
  | 7 => .int
  | 8 => .array .int
  | 9 => .array .boolean
  | 10 => .array .int
  | 11 => .array .int
  | 12 => .array .int
  | 13 => .array .int
  | 14 => .int
  | 15 => .array .boolean
  | 16 => .array .int
  | 17 => .array .int
  | _ => .int
theorem nmX7 : ∀ a, a < 19 → ∀ b, b < 19 → a ≠ b → (TX7 a).2.1 ≠ (TX7 b).2.1 := by decide +kernel
theorem tyX7_ok : ∀ k, k < 19 → parseFieldDescriptor (TX7 k).2.2.1 = some (tyX7 k) := by decide +kernel
abbrev cX0_init : ByteArray := prog_2_method_1_code
def yX0_init : MethodName := ⟨RX0, "<init>", "(I)V"⟩
abbrev cX0_take : ByteArray := prog_2_method_2_code
def yX0_take : MethodName := ⟨RX0, "take", "(LQuakeBench$Pick;)V"⟩
abbrev cX0_drop : ByteArray := prog_2_method_3_code
def yX0_drop : MethodName := ⟨RX0, "drop", "(LQuakeBench$Pick;)V"⟩
abbrev cX0_hears : ByteArray := prog_2_method_4_code
def yX0_hears : MethodName := ⟨RX0, "hears", "(LQuakeBench$Station;)Z"⟩
abbrev cX0_hasAnotherLike : ByteArray := prog_2_method_5_code
def yX0_hasAnotherLike : MethodName := ⟨RX0, "hasAnotherLike", "(LQuakeBench$Pick;)Z"⟩
abbrev cX0_countStations : ByteArray := prog_2_method_6_code
def yX0_countStations : MethodName := ⟨RX0, "countStations", "()I"⟩
abbrev cX0_distanceTo : ByteArray := prog_2_method_7_code
def yX0_distanceTo : MethodName := ⟨RX0, "distanceTo", "(III)I"⟩
abbrev cX0_isRelated : ByteArray := prog_2_method_8_code
def yX0_isRelated : MethodName := ⟨RX0, "isRelated", "(LQuakeBench$Event;II)Z"⟩
abbrev cX1_init : ByteArray := prog_3_method_1_code
def yX1_init : MethodName := ⟨RX1, "<init>", "(ILQuakeBench$Station;ZI)V"⟩
abbrev cX2_init : ByteArray := prog_4_method_1_code
def yX2_init : MethodName := ⟨RX2, "<init>", "()V"⟩
abbrev cX2_empty : ByteArray := prog_4_method_2_code
def yX2_empty : MethodName := ⟨RX2, "empty", "()V"⟩
abbrev cX2_put : ByteArray := prog_4_method_3_code
def yX2_put : MethodName := ⟨RX2, "put", "(II)V"⟩
abbrev cX2_middle : ByteArray := prog_4_method_4_code
def yX2_middle : MethodName := ⟨RX2, "middle", "()I"⟩
abbrev cX2_distanceFrom : ByteArray := prog_4_method_5_code
def yX2_distanceFrom : MethodName := ⟨RX2, "distanceFrom", "(I)J"⟩
abbrev cX2_widestGap : ByteArray := prog_4_method_6_code
def yX2_widestGap : MethodName := ⟨RX2, "widestGap", "()I"⟩
abbrev cX3_init : ByteArray := prog_5_method_1_code
def yX3_init : MethodName := ⟨RX3, "<init>", "(LQuakeBench$Waves;LQuakeBench$Row;)V"⟩
abbrev cX3_locate : ByteArray := prog_5_method_2_code
def yX3_locate : MethodName := ⟨RX3, "locate", "(LQuakeBench$Event;)J"⟩
abbrev cX3_scan : ByteArray := prog_5_method_3_code
def yX3_scan : MethodName := ⟨RX3, "scan", "(LQuakeBench$Event;IIIIII)V"⟩
abbrev cX3_offer : ByteArray := prog_5_method_4_code
def yX3_offer : MethodName := ⟨RX3, "offer", "(LQuakeBench$Event;III)V"⟩
abbrev cX3_fillWithStarts : ByteArray := prog_5_method_5_code
def yX3_fillWithStarts : MethodName := ⟨RX3, "fillWithStarts", "(LQuakeBench$Event;III)V"⟩
abbrev cX4_init : ByteArray := prog_6_method_1_code
def yX4_init : MethodName := ⟨RX4, "<init>", "(III)V"⟩
abbrev cX4_wayTo : ByteArray := prog_6_method_2_code
def yX4_wayTo : MethodName := ⟨RX4, "wayTo", "(III)I"⟩
abbrev cX5_init : ByteArray := prog_7_method_1_code
def yX5_init : MethodName := ⟨RX5, "<init>", "()V"⟩
abbrev cX5_travel : ByteArray := prog_7_method_2_code
def yX5_travel : MethodName := ⟨RX5, "travel", "(LQuakeBench$Station;IIIZ)I"⟩
abbrev cX5_lateness : ByteArray := prog_7_method_3_code
def yX5_lateness : MethodName := ⟨RX5, "lateness", "(LQuakeBench$Pick;LQuakeBench$Event;)I"⟩
abbrev cX6_init : ByteArray := prog_1_method_1_code
def yX6_init : MethodName := ⟨RX6, "<init>", "()V"⟩
abbrev cX6_addStation : ByteArray := prog_1_method_2_code
def yX6_addStation : MethodName := ⟨RX6, "addStation", "(II)I"⟩
abbrev cX6_setDelay : ByteArray := prog_1_method_3_code
def yX6_setDelay : MethodName := ⟨RX6, "setDelay", "(II)I"⟩
abbrev cX6_setSpeeds : ByteArray := prog_1_method_4_code
def yX6_setSpeeds : MethodName := ⟨RX6, "setSpeeds", "(II)I"⟩
abbrev cX6_way : ByteArray := prog_1_method_5_code
def yX6_way : MethodName := ⟨RX6, "way", "(IIII)I"⟩
abbrev cX6_needs : ByteArray := prog_1_method_6_code
def yX6_needs : MethodName := ⟨RX6, "needs", "(IIIIZ)I"⟩
abbrev cX6_addPick : ByteArray := prog_1_method_7_code
def yX6_addPick : MethodName := ⟨RX6, "addPick", "(IZI)I"⟩
abbrev cX6_setWeight : ByteArray := prog_1_method_8_code
def yX6_setWeight : MethodName := ⟨RX6, "setWeight", "(II)I"⟩
abbrev cX6_pick : ByteArray := prog_1_method_9_code
def yX6_pick : MethodName := ⟨RX6, "pick", "(II)I"⟩
abbrev cX6_addEvent : ByteArray := prog_1_method_10_code
def yX6_addEvent : MethodName := ⟨RX6, "addEvent", "()I"⟩
abbrev cX6_give : ByteArray := prog_1_method_11_code
def yX6_give : MethodName := ⟨RX6, "give", "(II)I"⟩
abbrev cX6_associate : ByteArray := prog_1_method_12_code
def yX6_associate : MethodName := ⟨RX6, "associate", "()I"⟩
abbrev cX6_count : ByteArray := prog_1_method_13_code
def yX6_count : MethodName := ⟨RX6, "count", "(I)I"⟩
abbrev cX6_seek : ByteArray := prog_1_method_14_code
def yX6_seek : MethodName := ⟨RX6, "seek", "(I)J"⟩
abbrev cX6_event : ByteArray := prog_1_method_15_code
def yX6_event : MethodName := ⟨RX6, "event", "(II)I"⟩
abbrev cX6_misfit : ByteArray := prog_1_method_16_code
def yX6_misfit : MethodName := ⟨RX6, "misfit", "(IIII)J"⟩
abbrev cX6_residual : ByteArray := prog_1_method_17_code
def yX6_residual : MethodName := ⟨RX6, "residual", "(I)I"⟩
abbrev cX6_worst : ByteArray := prog_1_method_18_code
def yX6_worst : MethodName := ⟨RX6, "worst", "(I)I"⟩
abbrev cX6_spread : ByteArray := prog_1_method_19_code
def yX6_spread : MethodName := ⟨RX6, "spread", "(I)D"⟩
abbrev cX6_gap : ByteArray := prog_1_method_20_code
def yX6_gap : MethodName := ⟨RX6, "gap", "(I)I"⟩
abbrev cX6_setAmplitude : ByteArray := prog_1_method_21_code
def yX6_setAmplitude : MethodName := ⟨RX6, "setAmplitude", "(II)I"⟩
abbrev cX6_magnitude : ByteArray := prog_1_method_22_code
def yX6_magnitude : MethodName := ⟨RX6, "magnitude", "(I)I"⟩
abbrev cX6_families : ByteArray := prog_1_method_23_code
def yX6_families : MethodName := ⟨RX6, "families", "(II)I"⟩
abbrev cX6_family : ByteArray := prog_1_method_24_code
def yX6_family : MethodName := ⟨RX6, "family", "(III)I"⟩
abbrev cX6_nearest : ByteArray := prog_1_method_25_code
def yX6_nearest : MethodName := ⟨RX6, "nearest", "(III)I"⟩
abbrev cX6_digest : ByteArray := prog_1_method_26_code
def yX6_digest : MethodName := ⟨RX6, "digest", "()J"⟩
abbrev cX6_isPlace : ByteArray := prog_1_method_27_code
def yX6_isPlace : MethodName := ⟨RX6, "isPlace", "(III)Z"⟩
abbrev cX6_requirePlace : ByteArray := prog_1_method_28_code
def yX6_requirePlace : MethodName := ⟨RX6, "requirePlace", "(III)V"⟩
abbrev cX6_requireFound : ByteArray := prog_1_method_29_code
def yX6_requireFound : MethodName := ⟨RX6, "requireFound", "(LQuakeBench$Event;)V"⟩
abbrev cX6_requireLimits : ByteArray := prog_1_method_30_code
def yX6_requireLimits : MethodName := ⟨RX6, "requireLimits", "(II)V"⟩
abbrev cX6_stationAt : ByteArray := prog_1_method_31_code
def yX6_stationAt : MethodName := ⟨RX6, "stationAt", "(I)LQuakeBench$Station;"⟩
abbrev cX6_pickAt : ByteArray := prog_1_method_32_code
def yX6_pickAt : MethodName := ⟨RX6, "pickAt", "(I)LQuakeBench$Pick;"⟩
abbrev cX6_eventAt : ByteArray := prog_1_method_33_code
def yX6_eventAt : MethodName := ⟨RX6, "eventAt", "(I)LQuakeBench$Event;"⟩
abbrev cX6_numberOf : ByteArray := prog_1_method_34_code
def yX6_numberOf : MethodName := ⟨RX6, "numberOf", "(LQuakeBench$Event;)I"⟩
abbrev cX6_countFound : ByteArray := prog_1_method_35_code
def yX6_countFound : MethodName := ⟨RX6, "countFound", "()I"⟩
abbrev cX6_countLoose : ByteArray := prog_1_method_36_code
def yX6_countLoose : MethodName := ⟨RX6, "countLoose", "()I"⟩
abbrev cX6_openEvent : ByteArray := prog_1_method_37_code
def yX6_openEvent : MethodName := ⟨RX6, "openEvent", "()LQuakeBench$Event;"⟩
abbrev cX6_orderLoosePicks : ByteArray := prog_1_method_38_code
def yX6_orderLoosePicks : MethodName := ⟨RX6, "orderLoosePicks", "()V"⟩
abbrev cX6_hostFor : ByteArray := prog_1_method_39_code
def yX6_hostFor : MethodName := ⟨RX6, "hostFor", "(LQuakeBench$Pick;)LQuakeBench$Event;"⟩
abbrev cX6_gatherCompanions : ByteArray := prog_1_method_40_code
def yX6_gatherCompanions : MethodName := ⟨RX6, "gatherCompanions", "(LQuakeBench$Pick;I)V"⟩
abbrev cX6_companyHears : ByteArray := prog_1_method_41_code
def yX6_companyHears : MethodName := ⟨RX6, "companyHears", "(LQuakeBench$Station;)Z"⟩
abbrev cX6_openEventWithCompanions : ByteArray := prog_1_method_42_code
def yX6_openEventWithCompanions : MethodName := ⟨RX6, "openEventWithCompanions", "(LQuakeBench$Pick;)LQuakeBench$Event;"⟩
abbrev cX6_gapOf : ByteArray := prog_1_method_43_code
def yX6_gapOf : MethodName := ⟨RX6, "gapOf", "(LQuakeBench$Event;)I"⟩
abbrev cX6_bearing : ByteArray := prog_1_method_44_code
def yX6_bearing : MethodName := ⟨RX6, "bearing", "(II)I"⟩
abbrev cX6_magnitudeOf : ByteArray := prog_1_method_45_code
def yX6_magnitudeOf : MethodName := ⟨RX6, "magnitudeOf", "(LQuakeBench$Event;)I"⟩
abbrev cX6_binaryDigits : ByteArray := prog_1_method_46_code
def yX6_binaryDigits : MethodName := ⟨RX6, "binaryDigits", "(I)I"⟩
abbrev cX6_labelFamilies : ByteArray := prog_1_method_47_code
def yX6_labelFamilies : MethodName := ⟨RX6, "labelFamilies", "(II)V"⟩
abbrev cX6_joinLabels : ByteArray := prog_1_method_48_code
def yX6_joinLabels : MethodName := ⟨RX6, "joinLabels", "(II)V"⟩
abbrev cX6_digestStation : ByteArray := prog_1_method_49_code
def yX6_digestStation : MethodName := ⟨RX6, "digestStation", "(JLQuakeBench$Station;)J"⟩
abbrev cX6_digestPick : ByteArray := prog_1_method_50_code
def yX6_digestPick : MethodName := ⟨RX6, "digestPick", "(JLQuakeBench$Pick;)J"⟩
abbrev cX6_digestEvent : ByteArray := prog_1_method_51_code
def yX6_digestEvent : MethodName := ⟨RX6, "digestEvent", "(JLQuakeBench$Event;)J"⟩
abbrev cX7_init : ByteArray := prog_9_method_1_code
def yX7_init : MethodName := ⟨RX7, "<init>", "()V"⟩
abbrev cX7_thrown : ByteArray := prog_9_method_2_code
def yX7_thrown : MethodName := ⟨RX7, "thrown", "()I"⟩
abbrev cX7_no : ByteArray := prog_9_method_3_code
def yX7_no : MethodName := ⟨RX7, "no", "(I)I"⟩
abbrev cX7_isIn : ByteArray := prog_9_method_4_code
def yX7_isIn : MethodName := ⟨RX7, "isIn", "(III)Z"⟩
abbrev cX7_isStation : ByteArray := prog_9_method_5_code
def yX7_isStation : MethodName := ⟨RX7, "isStation", "(I)Z"⟩
abbrev cX7_isPick : ByteArray := prog_9_method_6_code
def yX7_isPick : MethodName := ⟨RX7, "isPick", "(I)Z"⟩
abbrev cX7_isEvent : ByteArray := prog_9_method_7_code
def yX7_isEvent : MethodName := ⟨RX7, "isEvent", "(I)Z"⟩
abbrev cX7_isPlace : ByteArray := prog_9_method_8_code
def yX7_isPlace : MethodName := ⟨RX7, "isPlace", "(III)Z"⟩
abbrev cX7_addStation : ByteArray := prog_9_method_9_code
def yX7_addStation : MethodName := ⟨RX7, "addStation", "(II)I"⟩
abbrev cX7_setDelay : ByteArray := prog_9_method_10_code
def yX7_setDelay : MethodName := ⟨RX7, "setDelay", "(II)I"⟩
abbrev cX7_setSpeeds : ByteArray := prog_9_method_11_code
def yX7_setSpeeds : MethodName := ⟨RX7, "setSpeeds", "(II)I"⟩
abbrev cX7_wayOf : ByteArray := prog_9_method_12_code
def yX7_wayOf : MethodName := ⟨RX7, "wayOf", "(IIII)I"⟩
abbrev cX7_needed : ByteArray := prog_9_method_13_code
def yX7_needed : MethodName := ⟨RX7, "needed", "(IIIIZ)I"⟩
abbrev cX7_way : ByteArray := prog_9_method_14_code
def yX7_way : MethodName := ⟨RX7, "way", "(IIII)I"⟩
abbrev cX7_needs : ByteArray := prog_9_method_15_code
def yX7_needs : MethodName := ⟨RX7, "needs", "(IIIIZ)I"⟩
abbrev cX7_addPick : ByteArray := prog_9_method_16_code
def yX7_addPick : MethodName := ⟨RX7, "addPick", "(IZI)I"⟩
abbrev cX7_lose : ByteArray := prog_9_method_17_code
def yX7_lose : MethodName := ⟨RX7, "lose", "(I)V"⟩
abbrev cX7_setWeight : ByteArray := prog_9_method_18_code
def yX7_setWeight : MethodName := ⟨RX7, "setWeight", "(II)I"⟩
abbrev cX7_told : ByteArray := prog_9_method_19_code
def yX7_told : MethodName := ⟨RX7, "told", "(II)I"⟩
abbrev cX7_pick : ByteArray := prog_9_method_20_code
def yX7_pick : MethodName := ⟨RX7, "pick", "(II)I"⟩
abbrev cX7_addEvent : ByteArray := prog_9_method_21_code
def yX7_addEvent : MethodName := ⟨RX7, "addEvent", "()I"⟩
abbrev cX7_hasAlike : ByteArray := prog_9_method_22_code
def yX7_hasAlike : MethodName := ⟨RX7, "hasAlike", "(II)Z"⟩
abbrev cX7_give : ByteArray := prog_9_method_23_code
def yX7_give : MethodName := ⟨RX7, "give", "(II)I"⟩
abbrev cX7_isAhead : ByteArray := prog_9_method_24_code
def yX7_isAhead : MethodName := ⟨RX7, "isAhead", "(II)Z"⟩
abbrev cX7_startOf : ByteArray := prog_9_method_25_code
def yX7_startOf : MethodName := ⟨RX7, "startOf", "(IIII)I"⟩
abbrev cX7_nearestFor : ByteArray := prog_9_method_26_code
def yX7_nearestFor : MethodName := ⟨RX7, "nearestFor", "(I)I"⟩
abbrev cX7_gather : ByteArray := prog_9_method_27_code
def yX7_gather : MethodName := ⟨RX7, "gather", "(I)I"⟩
abbrev cX7_associate : ByteArray := prog_9_method_28_code
def yX7_associate : MethodName := ⟨RX7, "associate", "()I"⟩
abbrev cX7_foundEvents : ByteArray := prog_9_method_29_code
def yX7_foundEvents : MethodName := ⟨RX7, "foundEvents", "()I"⟩
abbrev cX7_counted : ByteArray := prog_9_method_30_code
def yX7_counted : MethodName := ⟨RX7, "counted", "(I)I"⟩
abbrev cX7_count : ByteArray := prog_9_method_31_code
def yX7_count : MethodName := ⟨RX7, "count", "(I)I"⟩
abbrev cX7_picksOf : ByteArray := prog_9_method_32_code
def yX7_picksOf : MethodName := ⟨RX7, "picksOf", "(I)I"⟩
abbrev cX7_hasStation : ByteArray := prog_9_method_33_code
def yX7_hasStation : MethodName := ⟨RX7, "hasStation", "(II)Z"⟩
abbrev cX7_stationsOf : ByteArray := prog_9_method_34_code
def yX7_stationsOf : MethodName := ⟨RX7, "stationsOf", "(I)I"⟩
abbrev cX7_isMiddle : ByteArray := prog_9_method_35_code
def yX7_isMiddle : MethodName := ⟨RX7, "isMiddle", "(III)Z"⟩
abbrev cX7_misfitAt : ByteArray := prog_9_method_36_code
def yX7_misfitAt : MethodName := ⟨RX7, "misfitAt", "(IIII)J"⟩
abbrev cX7_look : ByteArray := prog_9_method_37_code
def yX7_look : MethodName := ⟨RX7, "look", "(I)J"⟩
abbrev cX7_seek : ByteArray := prog_9_method_38_code
def yX7_seek : MethodName := ⟨RX7, "seek", "(I)J"⟩
abbrev cX7_event : ByteArray := prog_9_method_39_code
def yX7_event : MethodName := ⟨RX7, "event", "(II)I"⟩
abbrev cX7_misfit : ByteArray := prog_9_method_40_code
def yX7_misfit : MethodName := ⟨RX7, "misfit", "(IIII)J"⟩
abbrev cX7_residualOf : ByteArray := prog_9_method_41_code
def yX7_residualOf : MethodName := ⟨RX7, "residualOf", "(I)I"⟩
abbrev cX7_residual : ByteArray := prog_9_method_42_code
def yX7_residual : MethodName := ⟨RX7, "residual", "(I)I"⟩
abbrev cX7_worst : ByteArray := prog_9_method_43_code
def yX7_worst : MethodName := ⟨RX7, "worst", "(I)I"⟩
abbrev cX7_spread : ByteArray := prog_9_method_44_code
def yX7_spread : MethodName := ⟨RX7, "spread", "(I)D"⟩
abbrev cX7_bearing : ByteArray := prog_9_method_45_code
def yX7_bearing : MethodName := ⟨RX7, "bearing", "(II)I"⟩
abbrev cX7_gapOf : ByteArray := prog_9_method_46_code
def yX7_gapOf : MethodName := ⟨RX7, "gapOf", "(I)I"⟩
abbrev cX7_gap : ByteArray := prog_9_method_47_code
def yX7_gap : MethodName := ⟨RX7, "gap", "(I)I"⟩
abbrev cX7_setAmplitude : ByteArray := prog_9_method_48_code
def yX7_setAmplitude : MethodName := ⟨RX7, "setAmplitude", "(II)I"⟩
abbrev cX7_sizeBy : ByteArray := prog_9_method_49_code
def yX7_sizeBy : MethodName := ⟨RX7, "sizeBy", "(I)I"⟩
abbrev cX7_magnitudeOf : ByteArray := prog_9_method_50_code
def yX7_magnitudeOf : MethodName := ⟨RX7, "magnitudeOf", "(I)I"⟩
abbrev cX7_magnitude : ByteArray := prog_9_method_51_code
def yX7_magnitude : MethodName := ⟨RX7, "magnitude", "(I)I"⟩
abbrev cX7_isRange : ByteArray := prog_9_method_52_code
def yX7_isRange : MethodName := ⟨RX7, "isRange", "(II)Z"⟩
abbrev cX7_off : ByteArray := prog_9_method_53_code
def yX7_off : MethodName := ⟨RX7, "off", "(IIII)I"⟩
abbrev cX7_areRelated : ByteArray := prog_9_method_54_code
def yX7_areRelated : MethodName := ⟨RX7, "areRelated", "(IIII)Z"⟩
abbrev cX7_heads : ByteArray := prog_9_method_55_code
def yX7_heads : MethodName := ⟨RX7, "heads", "(II)[I"⟩
abbrev cX7_families : ByteArray := prog_9_method_56_code
def yX7_families : MethodName := ⟨RX7, "families", "(II)I"⟩
abbrev cX7_family : ByteArray := prog_9_method_57_code
def yX7_family : MethodName := ⟨RX7, "family", "(III)I"⟩
abbrev cX7_nearest : ByteArray := prog_9_method_58_code
def yX7_nearest : MethodName := ⟨RX7, "nearest", "(III)I"⟩
abbrev cX7_digest : ByteArray := prog_9_method_59_code
def yX7_digest : MethodName := ⟨RX7, "digest", "()J"⟩
abbrev cJ5_init_d00df : ByteArray := prog_11_method_2_code
def yJ5_init_d00df : MethodName := ⟨RJ5, "<init>", "(I)V"⟩
abbrev cJ5_length_8abf5 : ByteArray := prog_11_method_6_code
def yJ5_length_8abf5 : MethodName := ⟨RJ5, "length", "()I"⟩
abbrev cJ5_ensureCapacityInternal_d00df : ByteArray := prog_11_method_9_code
def yJ5_ensureCapacityInternal_d00df : MethodName := ⟨RJ5, "ensureCapacityInternal", "(I)V"⟩
abbrev cJ5_newCapacity_0f7a4 : ByteArray := prog_11_method_10_code
def yJ5_newCapacity_0f7a4 : MethodName := ⟨RJ5, "newCapacity", "(I)I"⟩
abbrev cJ5_inflate_da8c8 : ByteArray := prog_11_method_11_code
def yJ5_inflate_da8c8 : MethodName := ⟨RJ5, "inflate", "()V"⟩
abbrev cJ5_append_cf1ce : ByteArray := prog_11_method_22_code
def yJ5_append_cf1ce : MethodName := ⟨RJ5, "append", "(Ljava/lang/String;)Ljava/lang/AbstractStringBuilder;"⟩
abbrev cJ5_appendNull_278bc : ByteArray := prog_11_method_26_code
def yJ5_appendNull_278bc : MethodName := ⟨RJ5, "appendNull", "()Ljava/lang/AbstractStringBuilder;"⟩
abbrev cJ5_append_c97b9 : ByteArray := prog_11_method_32_code
def yJ5_append_c97b9 : MethodName := ⟨RJ5, "append", "(I)Ljava/lang/AbstractStringBuilder;"⟩
abbrev cJ5_getValue_6d5f1 : ByteArray := prog_11_method_64_code
def yJ5_getValue_6d5f1 : MethodName := ⟨RJ5, "getValue", "()[B"⟩
abbrev cJ5_isLatin1_aae02 : ByteArray := prog_11_method_68_code
def yJ5_isLatin1_aae02 : MethodName := ⟨RJ5, "isLatin1", "()Z"⟩
abbrev cJ5_inflateIfNeededFor_a7421 : ByteArray := prog_11_method_71_code
def yJ5_inflateIfNeededFor_a7421 : MethodName := ⟨RJ5, "inflateIfNeededFor", "(Ljava/lang/String;)V"⟩
abbrev cJ5_putStringAt_47b60 : ByteArray := prog_11_method_73_code
def yJ5_putStringAt_47b60 : MethodName := ⟨RJ5, "putStringAt", "(ILjava/lang/String;)V"⟩
abbrev cJ6_getChars_ba4f3 : ByteArray := prog_20_method_12_code
def yJ6_getChars_ba4f3 : MethodName := ⟨RJ6, "getChars", "(II[B)I"⟩
abbrev cJ6_stringSize_0f7a4 : ByteArray := prog_20_method_13_code
def yJ6_stringSize_0f7a4 : MethodName := ⟨RJ6, "stringSize", "(I)I"⟩
abbrev cJ6_bitCount_0f7a4 : ByteArray := prog_20_method_49_code
def yJ6_bitCount_0f7a4 : MethodName := ⟨RJ6, "bitCount", "(I)I"⟩
abbrev cJ9_abs_0f7a4 : ByteArray := prog_22_method_59_code
def yJ9_abs_0f7a4 : MethodName := ⟨RJ9, "abs", "(I)I"⟩
abbrev cJ9_max_7cf53 : ByteArray := prog_22_method_65_code
def yJ9_max_7cf53 : MethodName := ⟨RJ9, "max", "(II)I"⟩
abbrev cJ9_min_7cf53 : ByteArray := prog_22_method_69_code
def yJ9_min_7cf53 : MethodName := ⟨RJ9, "min", "(II)I"⟩
abbrev cJ0_init_81219 : ByteArray := prog_25_method_53_code
def yJ0_init_81219 : MethodName := ⟨RJ0, "<init>", "(Ljava/lang/StringBuilder;)V"⟩
abbrev cJ0_length_8abf5 : ByteArray := prog_25_method_54_code
def yJ0_length_8abf5 : MethodName := ⟨RJ0, "length", "()I"⟩
abbrev cJ0_getBytes_840e7 : ByteArray := prog_25_method_147_code
def yJ0_getBytes_840e7 : MethodName := ⟨RJ0, "getBytes", "([BIB)V"⟩
abbrev cJ0_init_db425 : ByteArray := prog_25_method_150_code
def yJ0_init_db425 : MethodName := ⟨RJ0, "<init>", "(Ljava/lang/AbstractStringBuilder;Ljava/lang/Void;)V"⟩
abbrev cJ0_coder_7d493 : ByteArray := prog_25_method_152_code
def yJ0_coder_7d493 : MethodName := ⟨RJ0, "coder", "()B"⟩
abbrev cJ0_checkBoundsOffCount_cabcc : ByteArray := prog_25_method_157_code
def yJ0_checkBoundsOffCount_cabcc : MethodName := ⟨RJ0, "checkBoundsOffCount", "(III)I"⟩
abbrev cJ0_checkBoundsBeginEnd_23922 : ByteArray := prog_25_method_158_code
def yJ0_checkBoundsBeginEnd_23922 : MethodName := ⟨RJ0, "checkBoundsBeginEnd", "(III)V"⟩
abbrev cJ4_init_da8c8 : ByteArray := prog_26_method_1_code
def yJ4_init_da8c8 : MethodName := ⟨RJ4, "<init>", "()V"⟩
abbrev cJ4_append_15ec4 : ByteArray := prog_26_method_7_code
def yJ4_append_15ec4 : MethodName := ⟨RJ4, "append", "(Ljava/lang/String;)Ljava/lang/StringBuilder;"⟩
abbrev cJ4_append_bf812 : ByteArray := prog_26_method_15_code
def yJ4_append_bf812 : MethodName := ⟨RJ4, "append", "(I)Ljava/lang/StringBuilder;"⟩
abbrev cJ4_toString_0e30d : ByteArray := prog_26_method_42_code
def yJ4_toString_0e30d : MethodName := ⟨RJ4, "toString", "()Ljava/lang/String;"⟩
abbrev cJ4_length_8abf5 : ByteArray := prog_26_method_93_code
def yJ4_length_8abf5 : MethodName := ⟨RJ4, "length", "()I"⟩
abbrev cJ1_inflate_0e8fd : ByteArray := prog_27_method_50_code
def yJ1_inflate_0e8fd : MethodName := ⟨RJ1, "inflate", "([BI[BII)V"⟩
abbrev cJ2_newBytesFor_77867 : ByteArray := prog_28_method_2_code
def yJ2_newBytesFor_77867 : MethodName := ⟨RJ2, "newBytesFor", "(I)[B"⟩
abbrev cJ2_newBytesLength_0f7a4 : ByteArray := prog_28_method_3_code
def yJ2_newBytesLength_0f7a4 : MethodName := ⟨RJ2, "newBytesLength", "(I)I"⟩
abbrev cJ2_putChar_b72d1 : ByteArray := prog_28_method_4_code
def yJ2_putChar_b72d1 : MethodName := ⟨RJ2, "putChar", "([BII)V"⟩
abbrev cJ2_getChar_3b067 : ByteArray := prog_28_method_5_code
def yJ2_getChar_3b067 : MethodName := ⟨RJ2, "getChar", "([BI)C"⟩
abbrev cJ2_length_9d52b : ByteArray := prog_28_method_6_code
def yJ2_length_9d52b : MethodName := ⟨RJ2, "length", "([B)I"⟩
abbrev cJ2_coderFromArrayLen_85cad : ByteArray := prog_28_method_15_code
def yJ2_coderFromArrayLen_85cad : MethodName := ⟨RJ2, "coderFromArrayLen", "([BI)B"⟩
abbrev cJ2_compress_39247 : ByteArray := prog_28_method_17_code
def yJ2_compress_39247 : MethodName := ⟨RJ2, "compress", "([BII)[B"⟩
abbrev cJ2_compress_5af95 : ByteArray := prog_28_method_22_code
def yJ2_compress_5af95 : MethodName := ⟨RJ2, "compress", "([BI[BII)I"⟩
abbrev cJ2_getChars_46870 : ByteArray := prog_28_method_77_code
def yJ2_getChars_46870 : MethodName := ⟨RJ2, "getChars", "(III[B)I"⟩
abbrev cJ2_putCharsAt_cd4e5 : ByteArray := prog_28_method_81_code
def yJ2_putCharsAt_cd4e5 : MethodName := ⟨RJ2, "putCharsAt", "([BICCCC)I"⟩
abbrev cJ2_inflate_0e8fd : ByteArray := prog_28_method_86_code
def yJ2_inflate_0e8fd : MethodName := ⟨RJ2, "inflate", "([BI[BII)V"⟩
abbrev cJ2_getChars_ba4f3 : ByteArray := prog_28_method_89_code
def yJ2_getChars_ba4f3 : MethodName := ⟨RJ2, "getChars", "(II[B)I"⟩
abbrev cJ2_checkBoundsBeginEnd_d044e : ByteArray := prog_28_method_93_code
def yJ2_checkBoundsBeginEnd_d044e : MethodName := ⟨RJ2, "checkBoundsBeginEnd", "(II[B)V"⟩
abbrev cJ2_checkBoundsOffCount_d044e : ByteArray := prog_28_method_94_code
def yJ2_checkBoundsOffCount_d044e : MethodName := ⟨RJ2, "checkBoundsOffCount", "(II[B)V"⟩
abbrev cJxa1e45_init_da8c8 : ByteArray := prog_33_method_1_code
def yJxa1e45_init_da8c8 : MethodName := ⟨RJxa1e45, "<init>", "()V"⟩
abbrev cJxc12de_init_da8c8 : ByteArray := prog_34_method_1_code
def yJxc12de_init_da8c8 : MethodName := ⟨RJxc12de, "<init>", "()V"⟩
abbrev cJx4a65c_init_da8c8 : ByteArray := prog_35_method_2_code
def yJx4a65c_init_da8c8 : MethodName := ⟨RJx4a65c, "<init>", "()V"⟩
abbrev cJx4a65c_grow_92f84 : ByteArray := prog_35_method_6_code
def yJx4a65c_grow_92f84 : MethodName := ⟨RJx4a65c, "grow", "(I)[Ljava/lang/Object;"⟩
abbrev cJx4a65c_grow_d5877 : ByteArray := prog_35_method_7_code
def yJx4a65c_grow_d5877 : MethodName := ⟨RJx4a65c, "grow", "()[Ljava/lang/Object;"⟩
abbrev cJx4a65c_size_8abf5 : ByteArray := prog_35_method_8_code
def yJx4a65c_size_8abf5 : MethodName := ⟨RJx4a65c, "size", "()I"⟩
abbrev cJx4a65c_elementData_915e3 : ByteArray := prog_35_method_18_code
def yJx4a65c_elementData_915e3 : MethodName := ⟨RJx4a65c, "elementData", "(I)Ljava/lang/Object;"⟩
abbrev cJx4a65c_get_915e3 : ByteArray := prog_35_method_20_code
def yJx4a65c_get_915e3 : MethodName := ⟨RJx4a65c, "get", "(I)Ljava/lang/Object;"⟩
abbrev cJx4a65c_add_72be8 : ByteArray := prog_35_method_24_code
def yJx4a65c_add_72be8 : MethodName := ⟨RJx4a65c, "add", "(Ljava/lang/Object;[Ljava/lang/Object;I)V"⟩
abbrev cJx4a65c_add_9ea2d : ByteArray := prog_35_method_25_code
def yJx4a65c_add_9ea2d : MethodName := ⟨RJx4a65c, "add", "(Ljava/lang/Object;)Z"⟩
abbrev cJx4a65c_add_7a177 : ByteArray := prog_35_method_26_code
def yJx4a65c_add_7a177 : MethodName := ⟨RJx4a65c, "add", "(ILjava/lang/Object;)V"⟩
abbrev cJx4a65c_remove_915e3 : ByteArray := prog_35_method_29_code
def yJx4a65c_remove_915e3 : MethodName := ⟨RJx4a65c, "remove", "(I)Ljava/lang/Object;"⟩
abbrev cJx4a65c_fastRemove_b59b0 : ByteArray := prog_35_method_39_code
def yJx4a65c_fastRemove_b59b0 : MethodName := ⟨RJx4a65c, "fastRemove", "([Ljava/lang/Object;I)V"⟩
abbrev cJx4a65c_clear_da8c8 : ByteArray := prog_35_method_40_code
def yJx4a65c_clear_da8c8 : MethodName := ⟨RJx4a65c, "clear", "()V"⟩
abbrev cJx4a65c_rangeCheckForAdd_d00df : ByteArray := prog_35_method_45_code
def yJx4a65c_rangeCheckForAdd_d00df : MethodName := ⟨RJx4a65c, "rangeCheckForAdd", "(I)V"⟩
abbrev cJx4a65c_outOfBoundsMsg_b52d3 : ByteArray := prog_35_method_46_code
def yJx4a65c_outOfBoundsMsg_b52d3 : MethodName := ⟨RJx4a65c, "outOfBoundsMsg", "(I)Ljava/lang/String;"⟩
abbrev cJ7_copyOf_1904c : ByteArray := prog_36_method_119_code
def yJ7_copyOf_1904c : MethodName := ⟨RJ7, "copyOf", "([Ljava/lang/Object;I)[Ljava/lang/Object;"⟩
abbrev cJ7_copyOf_6403c : ByteArray := prog_36_method_120_code
def yJ7_copyOf_6403c : MethodName := ⟨RJ7, "copyOf", "([Ljava/lang/Object;ILjava/lang/Class;)[Ljava/lang/Object;"⟩
abbrev cJ7_copyOf_9075b : ByteArray := prog_36_method_121_code
def yJ7_copyOf_9075b : MethodName := ⟨RJ7, "copyOf", "([BI)[B"⟩
abbrev cJ7_checkLength_df160 : ByteArray := prog_36_method_131_code
def yJ7_checkLength_df160 : MethodName := ⟨RJ7, "checkLength", "(II)V"⟩
abbrev cJ7_copyOfRange_39247 : ByteArray := prog_36_method_132_code
def yJ7_copyOfRange_39247 : MethodName := ⟨RJ7, "copyOfRange", "([BII)[B"⟩
abbrev cJ7_copyOfRangeByte_39247 : ByteArray := prog_36_method_133_code
def yJ7_copyOfRangeByte_39247 : MethodName := ⟨RJ7, "copyOfRangeByte", "([BII)[B"⟩
abbrev cJ15_checkIndex_7cf53 : ByteArray := prog_39_method_17_code
def yJ15_checkIndex_7cf53 : MethodName := ⟨RJ15, "checkIndex", "(II)I"⟩
abbrev cJ8_newLength_cabcc : ByteArray := prog_42_method_27_code
def yJ8_newLength_cabcc : MethodName := ⟨RJ8, "newLength", "(III)I"⟩
abbrev cJ8_hugeLength_7cf53 : ByteArray := prog_42_method_28_code
def yJ8_hugeLength_7cf53 : MethodName := ⟨RJ8, "hugeLength", "(II)I"⟩
abbrev cJ3_checkIndex_8e157 : ByteArray := prog_43_method_11_code
def yJ3_checkIndex_8e157 : MethodName := ⟨RJ3, "checkIndex", "(IILjava/util/function/BiFunction;)I"⟩
abbrev cJ3_checkFromToIndex_8c36e : ByteArray := prog_43_method_12_code
def yJ3_checkFromToIndex_8c36e : MethodName := ⟨RJ3, "checkFromToIndex", "(IIILjava/util/function/BiFunction;)I"⟩
abbrev cJ3_checkFromIndexSize_8c36e : ByteArray := prog_43_method_13_code
def yJ3_checkFromIndexSize_8c36e : MethodName := ⟨RJ3, "checkFromIndexSize", "(IIILjava/util/function/BiFunction;)I"⟩
abbrev cL_addStation : ByteArray := method_3_code
def yL_addStation : MethodName := ⟨RL, "addStation", "(LQuakeBench;II[J)I"⟩
abbrev cL_setDelay : ByteArray := method_4_code
def yL_setDelay : MethodName := ⟨RL, "setDelay", "(LQuakeBench;II[J)I"⟩
abbrev cL_setSpeeds : ByteArray := method_5_code
def yL_setSpeeds : MethodName := ⟨RL, "setSpeeds", "(LQuakeBench;II[J)I"⟩
abbrev cL_way : ByteArray := method_6_code
def yL_way : MethodName := ⟨RL, "way", "(LQuakeBench;IIII[J)I"⟩
abbrev cL_needs : ByteArray := method_7_code
def yL_needs : MethodName := ⟨RL, "needs", "(LQuakeBench;IIIIZ[J)I"⟩
abbrev cL_addPick : ByteArray := method_8_code
def yL_addPick : MethodName := ⟨RL, "addPick", "(LQuakeBench;IZI[J)I"⟩
abbrev cL_setWeight : ByteArray := method_9_code
def yL_setWeight : MethodName := ⟨RL, "setWeight", "(LQuakeBench;II[J)I"⟩
abbrev cL_pick : ByteArray := method_10_code
def yL_pick : MethodName := ⟨RL, "pick", "(LQuakeBench;II[J)I"⟩
abbrev cL_addEvent : ByteArray := method_11_code
def yL_addEvent : MethodName := ⟨RL, "addEvent", "(LQuakeBench;[J)I"⟩
abbrev cL_give : ByteArray := method_12_code
def yL_give : MethodName := ⟨RL, "give", "(LQuakeBench;II[J)I"⟩
abbrev cL_count : ByteArray := method_13_code
def yL_count : MethodName := ⟨RL, "count", "(LQuakeBench;I[J)I"⟩
abbrev cL_seek : ByteArray := method_14_code
def yL_seek : MethodName := ⟨RL, "seek", "(LQuakeBench;I[J)I"⟩
abbrev cL_event : ByteArray := method_15_code
def yL_event : MethodName := ⟨RL, "event", "(LQuakeBench;II[J)I"⟩
abbrev cL_misfit : ByteArray := method_16_code
def yL_misfit : MethodName := ⟨RL, "misfit", "(LQuakeBench;IIII[J)I"⟩
abbrev cL_residual : ByteArray := method_17_code
def yL_residual : MethodName := ⟨RL, "residual", "(LQuakeBench;I[J)I"⟩
abbrev cL_worst : ByteArray := method_18_code
def yL_worst : MethodName := ⟨RL, "worst", "(LQuakeBench;I[J)I"⟩
abbrev cL_spread : ByteArray := method_19_code
def yL_spread : MethodName := ⟨RL, "spread", "(LQuakeBench;I[D)I"⟩
abbrev cL_gap : ByteArray := method_20_code
def yL_gap : MethodName := ⟨RL, "gap", "(LQuakeBench;I[J)I"⟩
abbrev cL_setAmplitude : ByteArray := method_21_code
def yL_setAmplitude : MethodName := ⟨RL, "setAmplitude", "(LQuakeBench;II[J)I"⟩
abbrev cL_magnitude : ByteArray := method_22_code
def yL_magnitude : MethodName := ⟨RL, "magnitude", "(LQuakeBench;I[J)I"⟩
abbrev cL_families : ByteArray := method_23_code
def yL_families : MethodName := ⟨RL, "families", "(LQuakeBench;II[J)I"⟩
abbrev cL_family : ByteArray := method_24_code
def yL_family : MethodName := ⟨RL, "family", "(LQuakeBench;III[J)I"⟩
abbrev cL_nearest : ByteArray := method_25_code
def yL_nearest : MethodName := ⟨RL, "nearest", "(LQuakeBench;III[J)I"⟩
abbrev cL_law : ByteArray := code
def yL_law : MethodName := ⟨RL, "law", "([I)Z"⟩
abbrev lw_all : List Cond := lw_tbl.filter goodWord
theorem zin {ws : List Cond} (ps : List Nat) (h : (decide (ps.map (fun i => lw_tbl[i]?) = ws.map some) && ws.all goodWord) = true) : ∀ w ∈ ws, w ∈ lw_all := by
  rw [Bool.and_eq_true, decide_eq_true_eq] at h
  intro w hw
  refine List.mem_filter.mpr ⟨?_, List.all_eq_true.mp h.2 w hw⟩
  have h1 : some w ∈ ws.map some := List.mem_map.mpr ⟨w, hw, rfl⟩
  rw [← h.1] at h1
  obtain ⟨i, -, hi⟩ := List.mem_map.mp h1
  exact List.mem_of_getElem? hi
theorem zin1 {w : Cond} (i : Nat) (h : (decide (lw_tbl[i]? = some w) && goodWord w) = true) : w ∈ lw_all := by
  rw [Bool.and_eq_true, decide_eq_true_eq] at h
  exact List.mem_filter.mpr ⟨List.mem_of_getElem? h.1, h.2⟩
abbrev zCl : List vw_C := [(RX6, TX6, 8), (RX0, TX0, 8), (RX1, TX1, 7), (RX2, TX2, 4), (RX3, TX3, 8), (RX4, TX4, 4), (RX5, TX5, 2), (RJx4a65c, TJx4a65c, 3), (RX7, TX7, 19)]
theorem zin_c0 : ∀ w ∈ u_ws RX6 TX6 8, w ∈ lw_all := zin [193, 195, 197, 199, 201, 203, 205, 207] (by decide +kernel)
theorem zin_c1 : ∀ w ∈ u_ws RX0 TX0 8, w ∈ lw_all := zin [710, 712, 714, 716, 718, 720, 722, 724] (by decide +kernel)
theorem zin_c2 : ∀ w ∈ u_ws RX1 TX1 7, w ∈ lw_all := zin [957, 959, 961, 963, 965, 967, 969] (by decide +kernel)
theorem zin_c3 : ∀ w ∈ u_ws RX2 TX2 4, w ∈ lw_all := zin [144, 146, 148, 150] (by decide +kernel)
theorem zin_c4 : ∀ w ∈ u_ws RX3 TX3 8, w ∈ lw_all := zin [168, 170, 172, 174, 176, 178, 180, 182] (by decide +kernel)
theorem zin_c5 : ∀ w ∈ u_ws RX4 TX4 4, w ∈ lw_all := zin [863, 865, 867, 869] (by decide +kernel)
theorem zin_c6 : ∀ w ∈ u_ws RX5 TX5 2, w ∈ lw_all := zin [128, 130] (by decide +kernel)
theorem zin_c7 : ∀ w ∈ u_ws RJx4a65c TJx4a65c 3, w ∈ lw_all := zin [115, 111, 113] (by decide +kernel)
theorem zin_c8 : ∀ w ∈ u_ws RX7 TX7 19, w ∈ lw_all := zin [1188, 1190, 1192, 1194, 1196, 1198, 1200, 1202, 1204, 1206, 1208, 1210, 1212, 1214, 1216, 1218, 1220, 1222, 1224] (by decide +kernel)
theorem zCl_in {ci N : Nat} {Cn : String} {T : u_T} (h : zCl[ci]? = some (Cn, T, N)) : ∀ w ∈ u_ws Cn T N, w ∈ lw_all := by
  match ci, h with
  | 0, h => cases h; exact zin_c0
  | 1, h => cases h; exact zin_c1
  | 2, h => cases h; exact zin_c2
  | 3, h => cases h; exact zin_c3
  | 4, h => cases h; exact zin_c4
  | 5, h => cases h; exact zin_c5
  | 6, h => cases h; exact zin_c6
  | 7, h => cases h; exact zin_c7
  | 8, h => cases h; exact zin_c8
  | k + 9, h => simp [zCl] at h
theorem zCl_ty {ci N : Nat} {Cn : String} {T : u_T} (h : zCl[ci]? = some (Cn, T, N)) : ∃ ty : Nat → FieldType, ∀ k, k < N → parseFieldDescriptor (T k).2.2.1 = some (ty k) := by
  match ci, h with
  | 0, h => cases h; exact ⟨tyX6, tyX6_ok⟩
  | 1, h => cases h; exact ⟨tyX0, tyX0_ok⟩
  | 2, h => cases h; exact ⟨tyX1, tyX1_ok⟩
  | 3, h => cases h; exact ⟨tyX2, tyX2_ok⟩
  | 4, h => cases h; exact ⟨tyX3, tyX3_ok⟩
  | 5, h => cases h; exact ⟨tyX4, tyX4_ok⟩
  | 6, h => cases h; exact ⟨tyX5, tyX5_ok⟩
  | 7, h => cases h; exact ⟨tyJx4a65c, tyJx4a65c_ok⟩
  | 8, h => cases h; exact ⟨tyX7, tyX7_ok⟩
  | k + 9, h => simp [zCl] at h
theorem zCl_nm {ci N : Nat} {Cn : String} {T : u_T} (h : zCl[ci]? = some (Cn, T, N)) : ∀ a, a < N → ∀ b, b < N → a ≠ b → (T a).2.1 ≠ (T b).2.1 := by
  match ci, h with
  | 0, h => cases h; exact nmX6
  | 1, h => cases h; exact nmX0
  | 2, h => cases h; exact nmX1
  | 3, h => cases h; exact nmX2
  | 4, h => cases h; exact nmX3
  | 5, h => cases h; exact nmX4
  | 6, h => cases h; exact nmX5
  | 7, h => cases h; exact nmJx4a65c
  | 8, h => cases h; exact nmX7
  | k + 9, h => simp [zCl] at h
abbrev zT (cy : Nat → ClassId) : List (ClassId × FieldType) := [(cy 0, .int), (cy 1, .object "java/lang/Object"), (cy 2, .boolean), (cy 3, .long), (cy 4, .double)]
def lw_nest : List Cond := [Cond.methodLinkNest "QuakeBench" 24 yX5_init "QuakeBench", Cond.methodLinkNest "QuakeBench" 31 yX2_init "QuakeBench", Cond.fieldLinkNest "QuakeBench" 266 "QuakeBench$Row" "total" "I" "QuakeBench", Cond.methodLinkNest "QuakeBench$Search" 69 yX6_isPlace "QuakeBench", Cond.castable "QuakeBench" "java/lang/Object", Cond.castable "QuakeBench$Event" "java/lang/Object", Cond.castable "QuakeBench$Pick" "java/lang/Object", Cond.castable "QuakeBench$Row" "java/lang/Object", Cond.castable "QuakeBench$Search" "java/lang/Object", Cond.castable "QuakeBench$Station" "java/lang/Object", Cond.castable "QuakeBench$Waves" "java/lang/Object", Cond.castable "java/util/ArrayList" "java/lang/Object", Cond.castable "QuakeBenchModel" "java/lang/Object", Cond.castable "java/lang/IndexOutOfBoundsException" "java/lang/IndexOutOfBoundsException", Cond.castable "java/lang/IllegalArgumentException" "java/lang/IllegalArgumentException", Cond.castable "java/lang/IllegalStateException" "java/lang/IllegalStateException", Cond.declares ⟨"java/lang/RuntimeException", "<init>", "(Ljava/lang/String;)V"⟩, Cond.declares ⟨"java/lang/Exception", "<init>", "(Ljava/lang/String;)V"⟩, Cond.declares ⟨"java/lang/Throwable", "<init>", "(Ljava/lang/String;)V"⟩]
def zis_nest : Cond → Bool
  | .fieldLinkNest .. => true
  | .methodLinkNest .. => true
  | .castable .. => true
  | .declares .. => true
  | _ => false
theorem lw_nest_ok : ∀ w ∈ lw_nest, zis_nest w = true := by decide +kernel
theorem zob_0 : Cond.castable RX6 "java/lang/Object" ∈ lw_nest := by decide +kernel
theorem zob_1 : Cond.castable RX0 "java/lang/Object" ∈ lw_nest := by decide +kernel
theorem zob_2 : Cond.castable RX1 "java/lang/Object" ∈ lw_nest := by decide +kernel
theorem zob_3 : Cond.castable RX2 "java/lang/Object" ∈ lw_nest := by decide +kernel
theorem zob_4 : Cond.castable RX3 "java/lang/Object" ∈ lw_nest := by decide +kernel
theorem zob_5 : Cond.castable RX4 "java/lang/Object" ∈ lw_nest := by decide +kernel
theorem zob_6 : Cond.castable RX5 "java/lang/Object" ∈ lw_nest := by decide +kernel
theorem zob_7 : Cond.castable RJx4a65c "java/lang/Object" ∈ lw_nest := by decide +kernel
theorem zob_8 : Cond.castable RX7 "java/lang/Object" ∈ lw_nest := by decide +kernel
theorem zCl_obj {ci N : Nat} {Cn : String} {T : u_T} (h : zCl[ci]? = some (Cn, T, N)) : Cond.castable Cn "java/lang/Object" ∈ lw_nest := by
  match ci, h with
  | 0, h => cases h; exact zob_0
  | 1, h => cases h; exact zob_1
  | 2, h => cases h; exact zob_2
  | 3, h => cases h; exact zob_3
  | 4, h => cases h; exact zob_4
  | 5, h => cases h; exact zob_5
  | 6, h => cases h; exact zob_6
  | 7, h => cases h; exact zob_7
  | 8, h => cases h; exact zob_8
  | k + 9, h => simp [zCl] at h
def lw_strs : List (String × Nat × String) := [("QuakeBench", 57, "x or y is outside"), ("QuakeBench", 68, "no more stations"), ("QuakeBench", 318, "no such station"), ("QuakeBench", 84, "delay is outside"), ("QuakeBench", 104, "v is outside"), ("QuakeBench", 106, "r is outside"), ("QuakeBench", 310, "no place"), ("QuakeBench", 126, "time is outside"), ("QuakeBench", 128, "no more picks"), ("QuakeBench", 320, "no such pick"), ("QuakeBench", 139, "weight is outside"), ("QuakeBench", 167, "what is not 0 to 4"), ("QuakeBench", 170, "no more events"), ("QuakeBench", 322, "no such event"), ("QuakeBench", 185, "the event has such a pick"), ("QuakeBench", 221, "picks of too few stations"), ("QuakeBench", 223, "what is not 0 to 5"), ("QuakeBench", 312, "the event is not found"), ("QuakeBench", 253, "the pick has no event"), ("QuakeBench", 273, "amplitude is outside"), ("QuakeBench", 314, "near is outside"), ("QuakeBench", 316, "soon is outside")]
end
section
/-! OWN ROWS: the walk over a world that is a function from addresses to cells -/
abbrev zG : Type := Nat → Option va_E
abbrev zws (y : MethodName) (cb : ByteArray) (n : Nat) (ret : Option FieldType) : List Cond := Cond.code y cb n ret :: lw_all
def zU (G : zG) (a : Nat) (e : va_E) : zG := fun q => if q = a then some e else G q
def zR (G : zG) (ws : va_W) : Prop := ∀ q e, G q = some e ↔ (q, e) ∈ ws
def zA (G : zG) (sz : Nat) : Nat → Prop := fun q => (∃ e, G q = some e) ∨ sz ≤ q
theorem zU_same (G : zG) (a : Nat) (e : va_E) : zU G a e a = some e := if_pos rfl
theorem zU_ne {G : zG} {a b : Nat} {e : va_E} (h : b ≠ a) : zU G a e b = G b := if_neg h
theorem zU_get {G : zG} {a b : Nat} {e x y : va_E} (hb : G b = some x) (ha : G a = some y) (h : x ≠ y) : zU G a e b = some x := by
  rw [zU_ne (fun z => h (by rw [z, ha] at hb; exact (Option.some.inj hb).symm))]; exact hb
theorem zU_new {G : zG} {a b : Nat} {e x : va_E} (hb : G b = some x) (ha : G a = none) : zU G a e b = some x := by
  rw [zU_ne (fun z => by rw [z, ha] at hb; cases hb)]; exact hb
theorem zU_zU (G : zG) (a : Nat) (e x : va_E) : zU (zU G a e) a x = zU G a x := by
  funext q
  unfold zU
  by_cases h : q = a
  · rw [if_pos h, if_pos h]
  · rw [if_neg h, if_neg h, if_neg h]
theorem zU_id {G : zG} {a : Nat} {e : va_E} (h : G a = some e) : zU G a e = G := by
  funext q
  unfold zU
  by_cases hq : q = a
  · rw [if_pos hq, hq, h]
  · rw [if_neg hq]
theorem zU_sw (G : zG) {a b : Nat} (e x : va_E) (h : a ≠ b) : zU (zU G a e) b x = zU (zU G b x) a e := by
  funext q
  unfold zU
  by_cases h1 : q = b
  · rw [if_pos h1, if_neg (fun z => h (z.symm.trans h1)), if_pos h1]
  · rw [if_neg h1]
    by_cases h2 : q = a
    · rw [if_pos h2, if_pos h2]
    · rw [if_neg h2, if_neg h2, if_neg h1]
/-- locals by their places -/
def zg : List (Option Value) → Nat → Option Value
  | [], _ => none
  | x :: _, 0 => x
  | _ :: r, i + 1 => zg r i
def zc : Option Value → Option Value
  | some u => if u.category = 2 then none else some u
  | none => none
def zst (i : Nat) (v : Value) (w : Bool) : Nat → List (Option Value) → List (Option Value)
  | _, [] => []
  | j, x :: r => (if j = i then some v else if j + 1 = i then zc x else if (w && decide (j = i + 1)) = true then none else x) :: zst i v w (j + 1) r
abbrev zs1 (i : Nat) (v : Value) (lv : List (Option Value)) : List (Option Value) := zst i v false 0 lv
abbrev zs2 (i : Nat) (v : Value) (lv : List (Option Value)) : List (Option Value) := zst i v true 0 lv
def zp : Nat → List (Option Value) → List (Nat × Value)
  | _, [] => []
  | j, some v :: r => (j, v) :: zp (j + 1) r
  | j, none :: r => zp (j + 1) r
theorem zp_mem : ∀ (lv : List (Option Value)) (j i : Nat) (v : Value), (i, v) ∈ zp j lv ↔ j ≤ i ∧ zg lv (i - j) = some v
  | [], j, i, v => by simp [zp, zg]
  | x :: r, j, i, v => by
    have ih := zp_mem r (j + 1) i v
    have key : (j + 1 ≤ i ∧ zg r (i - (j + 1)) = some v) ↔ (j ≤ i ∧ i ≠ j ∧ zg (x :: r) (i - j) = some v) := by
      constructor
      · rintro ⟨h1, h2⟩
        refine ⟨by omega, by omega, ?_⟩
        rw [show i - j = (i - (j + 1)) + 1 by omega]
        exact h2
      · rintro ⟨h1, h2, h3⟩
        refine ⟨by omega, ?_⟩
        rw [show i - j = (i - (j + 1)) + 1 by omega] at h3
        exact h3
    cases x with
    | none =>
      rw [zp, ih, key]
      constructor
      · rintro ⟨h1, -, h3⟩; exact ⟨h1, h3⟩
      · rintro ⟨h1, h3⟩
        refine ⟨h1, fun e => ?_, h3⟩
        subst e
        rw [Nat.sub_self] at h3
        cases h3
    | some u =>
      rw [zp, List.mem_cons, ih, key]
      constructor
      · rintro (h | ⟨h1, -, h3⟩)
        · cases h
          exact ⟨Nat.le_refl _, by rw [Nat.sub_self]; rfl⟩
        · exact ⟨h1, h3⟩
      · rintro ⟨h1, h3⟩
        by_cases e : i = j
        · subst e
          rw [Nat.sub_self] at h3
          have : u = v := Option.some.inj h3
          subst this
          exact Or.inl rfl
        · exact Or.inr ⟨h1, e, h3⟩
def zL (ls : Array Slot) (nL : Nat) (lv : List (Option Value)) : Prop := lv_has ls nL (zp 0 lv)
theorem zL.at {ls : Array Slot} {nL : Nat} {lv : List (Option Value)} {i : Nat} {v : Value} (h : zL ls nL lv) (hv : zg lv i = some v) : ls[i]? = some (.val v) :=
  h.2.2 (i, v) ((zp_mem lv 0 i v).mpr ⟨Nat.zero_le _, hv⟩)
theorem zst_get (i : Nat) (v : Value) (w : Bool) : ∀ (lv : List (Option Value)) (j q : Nat) (u : Value), zg (zst i v w j lv) q = some u → (j + q = i ∧ u = v) ∨ (j + q ≠ i ∧ zg lv q = some u ∧ ¬ (j + q + 1 = i ∧ u.category = 2) ∧ ¬ (w = true ∧ j + q = i + 1))
  | [], j, q, u, h => by simp [zst, zg] at h
  | x :: r, j, 0, u, h => by
    rw [zst, zg] at h
    by_cases h1 : j = i
    · rw [if_pos h1] at h
      exact Or.inl ⟨h1, (Option.some.inj h).symm⟩
    · rw [if_neg h1] at h
      by_cases h2 : j + 1 = i
      · rw [if_pos h2] at h
        cases x with
        | none => cases h
        | some y =>
          change (if y.category = 2 then none else some y) = some u at h
          by_cases h3 : y.category = 2
          · simp [h3] at h
          · rw [if_neg h3] at h
            have e := Option.some.inj h
            subst e
            exact Or.inr ⟨h1, rfl, fun z => h3 z.2, fun z => by omega⟩
      · rw [if_neg h2] at h
        by_cases h3 : (w && decide (j = i + 1)) = true
        · rw [if_pos h3] at h; cases h
        · rw [if_neg h3] at h
          refine Or.inr ⟨h1, h, fun z => h2 z.1, fun z => h3 ?_⟩
          rw [z.1, Bool.true_and, decide_eq_true_eq]
          exact z.2
  | x :: r, j, q + 1, u, h => by
    rw [zst, zg] at h
    have ih := zst_get i v w r (j + 1) q u h
    rw [show j + 1 + q = j + (q + 1) by omega] at ih
    exact ih
theorem zL.of {ls : Array Slot} {nL : Nat} {l : List (Nat × Value)} {lv : List (Option Value)} (h : lv_has ls nL l) (hm : ∀ q ∈ zp 0 lv, q ∈ l) : zL ls nL lv :=
  ⟨h.1, h.2.1, fun q hq => h.2.2 q (hm q hq)⟩
theorem zL.st1 {ls : Array Slot} {nL : Nat} {lv : List (Option Value)} {i : Nat} {v : Value} (h : lv_has ls nL ((i, v) :: (zp 0 lv).filter (fun q => !(q.1 == i) && !(q.1 + 1 == i && q.2.category == 2)))) : zL ls nL (zs1 i v lv) := by
  refine zL.of h (fun q hq => ?_)
  obtain ⟨k, u⟩ := q
  rw [zp_mem] at hq
  rcases zst_get i v false lv 0 k u (by simpa using hq.2) with ⟨e, e2⟩ | ⟨e, e2, e3, -⟩
  · rw [Nat.zero_add] at e
    subst e; subst e2
    exact List.mem_cons_self
  · rw [Nat.zero_add] at e e3
    refine List.mem_cons_of_mem _ (List.mem_filter.mpr ⟨(zp_mem lv 0 k u).mpr ⟨Nat.zero_le _, e2⟩, ?_⟩)
    by_cases h1 : k + 1 = i
    · simp [e]
      exact Or.inr (fun z => e3 ⟨h1, z⟩)
    · simp [e, h1]
theorem zL.st2 {ls : Array Slot} {nL : Nat} {lv : List (Option Value)} {i : Nat} {v : Value} (h : lv_has ls nL ((i, v) :: (zp 0 lv).filter (fun q => !(q.1 == i) && (!(q.1 == i + 1) && !(q.1 + 1 == i && q.2.category == 2))))) : zL ls nL (zs2 i v lv) := by
  refine zL.of h (fun q hq => ?_)
  obtain ⟨k, u⟩ := q
  rw [zp_mem] at hq
  rcases zst_get i v true lv 0 k u (by simpa using hq.2) with ⟨e, e2⟩ | ⟨e, e2, e3, e4⟩
  · rw [Nat.zero_add] at e
    subst e; subst e2
    exact List.mem_cons_self
  · rw [Nat.zero_add] at e e3 e4
    have e5 : k ≠ i + 1 := fun z => e4 ⟨rfl, z⟩
    refine List.mem_cons_of_mem _ (List.mem_filter.mpr ⟨(zp_mem lv 0 k u).mpr ⟨Nat.zero_le _, e2⟩, ?_⟩)
    by_cases h1 : k + 1 = i
    · simp [e, e5]
      exact Or.inr (fun z => e3 ⟨h1, z⟩)
    · simp [e, e5, h1]
/-- the world as a list, and what a change of the list is to the function -/
theorem zR.mem {G : zG} {ws : va_W} {a : Nat} {e : va_E} (h : zR G ws) (hG : G a = some e) : ∃ k : Nat, ws[k]? = some (a, e) := List.getElem?_of_mem ((h a e).mp hG)
theorem zR.set {G : zG} {ws : va_W} {A : Nat → Prop} {a k : Nat} {e0 e : va_E} (h : zR G ws) (hD : va_D A ws) (hk : ws[k]? = some (a, e0)) : zR (zU G a e) (ws.set k (a, e)) := by
  have hl := (List.getElem?_eq_some_iff.mp hk).1
  intro q x
  constructor
  · intro hx
    unfold zU at hx
    by_cases hq : q = a
    · rw [if_pos hq] at hx
      cases hx
      subst hq
      exact List.mem_of_getElem? (List.getElem?_set_self hl)
    · rw [if_neg hq] at hx
      obtain ⟨i, hi⟩ := h.mem hx
      have hik : k ≠ i := fun z => by subst z; rw [hk] at hi; cases hi; exact hq rfl
      exact List.mem_of_getElem? ((List.getElem?_set_ne hik).trans hi)
  · intro hx
    obtain ⟨i, hi⟩ := List.getElem?_of_mem hx
    by_cases hik : k = i
    · subst hik
      rw [List.getElem?_set_self hl] at hi
      cases hi
      exact zU_same G a e
    · rw [List.getElem?_set_ne hik] at hi
      have hq : q ≠ a := fun z => hik (hD.1 k i (a, e0) (q, x) hk hi z.symm)
      rw [zU_ne hq]
      exact (h q x).mpr (List.mem_of_getElem? hi)
theorem zR.push {G : zG} {ws : va_W} {a : Nat} {e : va_E} (h : zR G ws) (hn : G a = none) : zR (zU G a e) (ws ++ [(a, e)]) := by
  intro q x
  rw [List.mem_append, List.mem_singleton]
  unfold zU
  by_cases hq : q = a
  · rw [if_pos hq]
    subst hq
    constructor
    · intro hx; cases hx; exact Or.inr rfl
    · rintro (hx | hx)
      · rw [(h q x).mpr hx] at hn; cases hn
      · cases hx; rfl
  · rw [if_neg hq]
    constructor
    · intro hx; exact Or.inl ((h q x).mp hx)
    · rintro (hx | hx)
      · exact (h q x).mpr hx
      · cases hx; exact absurd rfl hq
theorem zR.lt {G : zG} {ws : va_W} {D : va_G} {cl : List vw_C} {H : Heap} {a : Nat} {e : va_E} (h : zR G ws) (hP : va_P D cl ws H) (hG : G a = some e) : a < H.size := by
  obtain ⟨k, hk⟩ := h.mem hG
  exact (hP k _ hk).lt
/-- a new cell's address is none of the world's -/
theorem zR.fresh {G : zG} {ws : va_W} {A : Nat → Prop} {a : Nat} {e : va_E} (h : zR G ws) (hD : va_D A (ws ++ [(a, e)])) : G a = none := by
  cases hg : G a with
  | none => rfl
  | some x =>
    obtain ⟨k, hk⟩ := h.mem hg
    have hl := (List.getElem?_eq_some_iff.mp hk).1
    have h1 : (ws ++ [(a, e)])[k]? = some (a, x) := (List.getElem?_append_left hl).trans hk
    have h2 : (ws ++ [(a, e)])[ws.length]? = some (a, e) := by rw [List.getElem?_append_right (Nat.le_refl _), Nat.sub_self]; rfl
    have := hD.1 k ws.length _ _ h1 h2 rfl
    omega
end
section
/-! OWN ROWS, second part: contracts over such a world, and a row an instruction -/
abbrev zY : Type := va_G × (Nat → ClassId) × (Nat → Nat)
/-- cells outside the world that its code reads: ArrayList's empty array, the search's steps; and what a throw needs -/
def zE (tt : Nat → Nat) (A : Nat → Prop) (U : State) : Prop :=
  va_Z "java/util/ArrayList" "DEFAULTCAPACITY_EMPTY_ELEMENTDATA" "[Ljava/lang/Object;" (.ref (tt 0)) A U U.heap ∧ va_T (.object "java/lang/Object") (tt 0) 0 (fun _ => .null) A U U.heap ∧
  va_Z "QuakeBench$Search" "FINER_STEPS" "[I" (.ref (tt 1)) A U U.heap ∧ va_T .int (tt 1) 4 (fun j => .int (if j = 0 then 10 else if j = 1 then 5 else if j = 2 then 2 else 1)) A U U.heap ∧
  vx_Zq Bundle.tN "UNASSIGNED_STACK" Bundle.steD A U U.heap ∧ vx_Zq Bundle.tN "SUPPRESSED_SENTINEL" Bundle.listD A U U.heap
theorem zE.call {tt : Nat → Nat} {A B : Nat → Prop} {s U : State} {H : Heap} {locs : List Loc} (h : zE tt A s) (hvm : s.vm.Alike U.vm) (hS : va_S A s.heap H locs) (hH : U.heap = H) (hB : ∀ q, B q → A q) : zE tt B U := by
  subst hH
  obtain ⟨h1, h2, h3, h4, h5, h6⟩ := h
  exact ⟨((h1.kept hS.2.1).moved hvm).narrow hB, ((h2.kept hS.2.1).moved hvm).narrow hB, ((h3.kept hS.2.1).moved hvm).narrow hB, ((h4.kept hS.2.1).moved hvm).narrow hB, ((h5.kept hS.2.1).moved hvm).narrow hB, ((h6.kept hS.2.1).moved hvm).narrow hB⟩
/-- what is kept of the tables beside the words: links across the nest, the texts, Object's arrays -/
def zN (tt : Nat → Nat) (U : State) : Prop := (∀ w ∈ lw_nest, va_Nw w U) ∧ (∀ q ∈ lw_strs, ∃ a, vk_R q.1 q.2.1 q.2.2 a U) ∧ va_AO "java/lang/Object" U ∧ va_Mi "[Ljava/lang/Object;" (tt 2) U ∧ va_Dc U
theorem zN.warm {tt : Nat → Nat} {s U : State} (hW : s.WarmedH U.vm) (h : zN tt s) : zN tt U := by
  refine ⟨fun w hw => ?_, fun q hq => ?_, h.2.2.1.moved hW.alike, h.2.2.2.1.moved hW.alike, h.2.2.2.2.moved hW.alike⟩
  · have h1 := h.1 w hw
    have h2 := lw_nest_ok w hw
    cases w <;> first | exact va_Nw.warmF hW h1 | exact va_Nw.warmM hW h1 | exact va_Nw.warmC hW h1 | exact va_Nw.warmD hW h1 | (cases h2; done)
  · obtain ⟨a, ha⟩ := h.2.1 q hq
    exact ⟨a, ha.warm hW⟩
theorem zN.same {tt : Nat → Nat} {s U : State} (hv : U.vm = s.vm) (h : zN tt s) : zN tt U := by
  refine ⟨fun w hw => ?_, fun q hq => ?_, h.2.2.1.moved (by rw [hv]; exact Vm.Alike.refl s.vm), h.2.2.2.1.moved (by rw [hv]; exact Vm.Alike.refl s.vm), h.2.2.2.2.moved (by rw [hv]; exact Vm.Alike.refl s.vm)⟩
  · have h1 := h.1 w hw
    have h2 := lw_nest_ok w hw
    cases w <;> first | exact va_Nw.same rfl hv.symm h1 | (cases h2; done)
  · obtain ⟨a, ha⟩ := h.2.1 q hq
    exact ⟨a, ha.same hv⟩
def zB (Γ : zY) (G : zG) (sz : Nat) : State → Prop := fun U =>
  U.heap.size = sz ∧ (∃ ws, zR G ws ∧ va_P Γ.1 zCl ws U.heap ∧ va_D (fun _ => True) ws) ∧ va_K Γ.1 zCl (zT Γ.2.1) U ∧ zE Γ.2.2 (zA G sz) U ∧ zN Γ.2.2 U
theorem zB.blind {av : List Value} {Γ : zY} {G : zG} {sz : Nat} : FrameBlind (va_Pc av (zB Γ G sz)) := by
  intro a U g mk h
  obtain ⟨h1, h2, h3, h4, h5, h6⟩ := h
  exact ⟨h1, h2, h3, va_K.moved (u := U) (U := U.calling g mk a) (Vm.Alike.refl U.vm) h4, h5.call (U := U.calling g mk a) (Vm.Alike.refl U.vm) (va_S.rf (A := zA G sz) (H0 := U.heap)) rfl (fun _ h => h), zN.same (s := U) (U := U.calling g mk a) rfl h6⟩
def zQ (post : Option Value → zG → Prop) (Γ : zY) (G : zG) (sz : Nat) : Array Value → State → Outcome → State → Prop := fun _ st oc t =>
  (∃ (v : Option Value) (G' : zG) (ws' : va_W), oc = .returned v ∧ post v G' ∧ zR G' ws' ∧ va_P Γ.1 zCl ws' t.heap ∧ va_D (zA G sz) ws') ∧ va_F (zA G sz) st t
/-- a method's contract: on these arguments and this world it returns, and 'post' holds of the answer and the world then -/
def ZM (l : Launch) (y : MethodName) (cb : ByteArray) (n : Nat) (ret : Option FieldType) (rm : Room) (Γ : zY) (av : List Value) (G : zG) (post : Option Value → zG → Prop) : Prop :=
  ∀ sz : Nat, Met l y (zws y cb n ret) rm (va_Pc av (zB Γ G sz)) (zQ post Γ G sz) rm.cells rm.slots (zA G sz)
theorem ZM.mono {l : Launch} {y : MethodName} {cb : ByteArray} {n : Nat} {ret : Option FieldType} {rm : Room} {Γ : zY} {av : List Value} {G : zG} {post post' : Option Value → zG → Prop} (h : ZM l y cb n ret rm Γ av G post) (hp : ∀ v G', post v G' → post' v G') : ZM l y cb n ret rm Γ av G post' := by
  intro sz
  refine MetFree.mono (h sz) (fun _ _ q => q) (fun _ _ _ _ _ q => q) ?_
  intro a st o t _ hq
  obtain ⟨⟨⟨v, G', ws', h1, h2, h3⟩, h4⟩, h5⟩ := hq
  exact ⟨⟨⟨v, G', ws', h1, hp v G' h2, h3⟩, h4⟩, h5⟩
/-- what holds all along a walk -/
def zC (p : Program) (s : State) (m : MethodId) (args : Array Value) (meth : Method) (c : Code) (cc : ByteArray) (own : String) (nL : Nat) (Γ : zY) (A : Nat → Prop) : Prop :=
  p.tables.exec = Jvm.exec ∧ c.code = cc ∧ c.maxLocals = nL ∧ s.vm.findClass own = some m.cls ∧ (∀ w ∈ lw_all, w.before args s = true) ∧ va_K Γ.1 zCl (zT Γ.2.1) s ∧ meth.locks = false ∧ (∀ q, s.heap.size ≤ q → A q) ∧ zE Γ.2.2 A s ∧ zN Γ.2.2 s
/-- the walk: at pc, with these locals and this stack, in this world -/
def Z (p : Program) (l : Launch) (e : Env) (R : Room) (s : State) (m : MethodId) (args : Array Value) (below : List Frame) (meth : Method) (c : Code) (Q : State → Prop) (nL : Nat) (Γ : zY) (A : Nat → Prop) (G : zG) (k n pc : Nat) (lv : List (Option Value)) (st : List Value) : Prop :=
  ∀ (H : Heap) (locs : List Loc) (ls : Array Slot) (ws : va_W), zR G ws → va_P Γ.1 zCl ws H → va_D A ws → va_S A s.heap H locs → zL ls nL lv → W p l e R s m args below meth c H locs k n Q (F0 m pc ls st)
section ZZ
variable {p : Program} {l : Launch} {e : Env} {R : Room} {s : State} {m : MethodId} {args : Array Value} {below : List Frame} {meth : Method} {c : Code} {Q : State → Prop} {nL : Nat} {Γ : zY} {A : Nat → Prop} {G : zG} {k n pc : Nat} {lv : List (Option Value)} {st : List Value} {cc : ByteArray} {own : String}
theorem z_widen {k' n' : Nat} (h1 : k ≤ k') (h2 : n ≤ n') (kk : Z p l e R s m args below meth c Q nL Γ A G k' n' pc lv st) : Z p l e R s m args below meth c Q nL Γ A G k n pc lv st :=
  fun H locs ls ws hR hP hD hS hL => W.widen h1 h2 (kk H locs ls ws hR hP hD hS hL)
theorem z_iconst (C : zC p s m args meth c cc own nL Γ A) {i : Int} {v : Int32} (hd : decode cc pc = .ok (.iconst i, 1)) (hv : Int32.ofInt i = v) (kk : Z p l e R s m args below meth c Q nL Γ A G k n (pc + 1) lv (.int v :: st)) : Z p l e R s m args below meth c Q nL Γ A G k n pc lv st :=
  fun H locs ls ws hR hP hD hS hL => lv_iconst C.1 C.2.1 hd hv (kk H locs ls ws hR hP hD hS hL)
theorem z_bipush (C : zC p s m args meth c cc own nL Γ A) {i : Int} {v : Int32} (hd : decode cc pc = .ok (.bipush i, 2)) (hv : (Int8.ofInt i).toInt32 = v) (kk : Z p l e R s m args below meth c Q nL Γ A G k n (pc + 2) lv (.int v :: st)) : Z p l e R s m args below meth c Q nL Γ A G k n pc lv st :=
  fun H locs ls ws hR hP hD hS hL => lv_bipush C.1 C.2.1 hd hv (kk H locs ls ws hR hP hD hS hL)
theorem z_sipush (C : zC p s m args meth c cc own nL Γ A) {i : Int} {v : Int32} (hd : decode cc pc = .ok (.sipush i, 3)) (hv : (Int16.ofInt i).toInt32 = v) (kk : Z p l e R s m args below meth c Q nL Γ A G k n (pc + 3) lv (.int v :: st)) : Z p l e R s m args below meth c Q nL Γ A G k n pc lv st :=
  fun H locs ls ws hR hP hD hS hL => lv_sipush C.1 C.2.1 hd hv (kk H locs ls ws hR hP hD hS hL)
theorem z_lconst (C : zC p s m args meth c cc own nL Γ A) {i : Fin 2} {v : Int64} (hd : decode cc pc = .ok (.lconst i, 1)) (hv : Int64.ofNat (i : Nat) = v) (kk : Z p l e R s m args below meth c Q nL Γ A G k n (pc + 1) lv (.long v :: st)) : Z p l e R s m args below meth c Q nL Γ A G k n pc lv st :=
  fun H locs ls ws hR hP hD hS hL => lv_lconst C.1 C.2.1 hd hv (kk H locs ls ws hR hP hD hS hL)
theorem z_ldc (C : zC p s m args meth c cc own nL Γ A) {ix : Nat} {v : Int32} (hw : Cond.constant own ix v ∈ lw_all) (hd : decode cc pc = .ok (.ldc ix, 2)) (kk : Z p l e R s m args below meth c Q nL Γ A G k n (pc + 2) lv (.int v :: st)) : Z p l e R s m args below meth c Q nL Γ A G k n pc lv st :=
  fun H locs ls ws hR hP hD hS hL => lv_ldc C.1 C.2.1 C.2.2.2.1 (C.2.2.2.2.1 _ hw) hd (kk H locs ls ws hR hP hD hS hL)
theorem z_ldc2 (C : zC p s m args meth c cc own nL Γ A) {ix : Nat} {v : Int64} (hw : Cond.constantLong own ix v ∈ lw_all) (hd : decode cc pc = .ok (.ldc2_w ix, 3)) (kk : Z p l e R s m args below meth c Q nL Γ A G k n (pc + 3) lv (.long v :: st)) : Z p l e R s m args below meth c Q nL Γ A G k n pc lv st :=
  fun H locs ls ws hR hP hD hS hL => lv_ldc2 C.1 C.2.1 C.2.2.2.1 (C.2.2.2.2.1 _ hw) hd (kk H locs ls ws hR hP hD hS hL)
theorem z_iload_n (C : zC p s m args meth c cc own nL Γ A) {i : Fin 4} {x : Int32} (hd : decode cc pc = .ok (.iload_n i, 1)) (hl : zg lv (i : Nat) = some (.int x)) (kk : Z p l e R s m args below meth c Q nL Γ A G k n (pc + 1) lv (.int x :: st)) : Z p l e R s m args below meth c Q nL Γ A G k n pc lv st :=
  fun H locs ls ws hR hP hD hS hL => lv_iload_n C.1 C.2.1 hd rfl (hL.at hl) (kk H locs ls ws hR hP hD hS hL)
theorem z_iload (C : zC p s m args meth c cc own nL Γ A) {i : Nat} {x : Int32} (hd : decode cc pc = .ok (.iload i, 2)) (hl : zg lv i = some (.int x)) (kk : Z p l e R s m args below meth c Q nL Γ A G k n (pc + 2) lv (.int x :: st)) : Z p l e R s m args below meth c Q nL Γ A G k n pc lv st :=
  fun H locs ls ws hR hP hD hS hL => lv_iload C.1 C.2.1 hd (hL.at hl) (kk H locs ls ws hR hP hD hS hL)
theorem z_lload_n (C : zC p s m args meth c cc own nL Γ A) {i : Fin 4} {x : Int64} (hd : decode cc pc = .ok (.lload_n i, 1)) (hl : zg lv (i : Nat) = some (.long x)) (kk : Z p l e R s m args below meth c Q nL Γ A G k n (pc + 1) lv (.long x :: st)) : Z p l e R s m args below meth c Q nL Γ A G k n pc lv st :=
  fun H locs ls ws hR hP hD hS hL => lv_lload_n C.1 C.2.1 hd rfl (hL.at hl) (kk H locs ls ws hR hP hD hS hL)
theorem z_lload (C : zC p s m args meth c cc own nL Γ A) {i : Nat} {x : Int64} (hd : decode cc pc = .ok (.lload i, 2)) (hl : zg lv i = some (.long x)) (kk : Z p l e R s m args below meth c Q nL Γ A G k n (pc + 2) lv (.long x :: st)) : Z p l e R s m args below meth c Q nL Γ A G k n pc lv st :=
  fun H locs ls ws hR hP hD hS hL => lv_lload C.1 C.2.1 hd (hL.at hl) (kk H locs ls ws hR hP hD hS hL)
theorem z_dload (C : zC p s m args meth c cc own nL Γ A) {i : Nat} {x : UInt64} (hd : decode cc pc = .ok (.dload i, 2)) (hl : zg lv i = some (.double x)) (kk : Z p l e R s m args below meth c Q nL Γ A G k n (pc + 2) lv (.double x :: st)) : Z p l e R s m args below meth c Q nL Γ A G k n pc lv st :=
  fun H locs ls ws hR hP hD hS hL => lv_dload C.1 C.2.1 hd (hL.at hl) (kk H locs ls ws hR hP hD hS hL)
theorem z_aload_n (C : zC p s m args meth c cc own nL Γ A) {i : Fin 4} {x : Option Nat} (hd : decode cc pc = .ok (.aload_n i, 1)) (hl : zg lv (i : Nat) = some (va_rf x)) (kk : Z p l e R s m args below meth c Q nL Γ A G k n (pc + 1) lv (va_rf x :: st)) : Z p l e R s m args below meth c Q nL Γ A G k n pc lv st := by
  intro H locs ls ws hR hP hD hS hL
  cases x with
  | none => exact lv_aload_nN C.1 C.2.1 hd rfl (hL.at hl) (kk H locs ls ws hR hP hD hS hL)
  | some a => exact lv_aload_n C.1 C.2.1 hd rfl (hL.at hl) (kk H locs ls ws hR hP hD hS hL)
theorem z_aload (C : zC p s m args meth c cc own nL Γ A) {i : Nat} {x : Option Nat} (hd : decode cc pc = .ok (.aload i, 2)) (hl : zg lv i = some (va_rf x)) (kk : Z p l e R s m args below meth c Q nL Γ A G k n (pc + 2) lv (va_rf x :: st)) : Z p l e R s m args below meth c Q nL Γ A G k n pc lv st := by
  intro H locs ls ws hR hP hD hS hL
  cases x with
  | none => exact lv_aloadN C.1 C.2.1 hd (hL.at hl) (kk H locs ls ws hR hP hD hS hL)
  | some a => exact lv_aload C.1 C.2.1 hd (hL.at hl) (kk H locs ls ws hR hP hD hS hL)
/-- a reference from a local: not null -/
theorem z_rload_n (C : zC p s m args meth c cc own nL Γ A) {i : Fin 4} {x : Nat} (hd : decode cc pc = .ok (.aload_n i, 1)) (hl : zg lv (i : Nat) = some (.ref x)) (kk : Z p l e R s m args below meth c Q nL Γ A G k n (pc + 1) lv (.ref x :: st)) : Z p l e R s m args below meth c Q nL Γ A G k n pc lv st :=
  fun H locs ls ws hR hP hD hS hL => lv_aload_n C.1 C.2.1 hd rfl (hL.at hl) (kk H locs ls ws hR hP hD hS hL)
theorem z_rload (C : zC p s m args meth c cc own nL Γ A) {i : Nat} {x : Nat} (hd : decode cc pc = .ok (.aload i, 2)) (hl : zg lv i = some (.ref x)) (kk : Z p l e R s m args below meth c Q nL Γ A G k n (pc + 2) lv (.ref x :: st)) : Z p l e R s m args below meth c Q nL Γ A G k n pc lv st :=
  fun H locs ls ws hR hP hD hS hL => lv_aload C.1 C.2.1 hd (hL.at hl) (kk H locs ls ws hR hP hD hS hL)
theorem z_nload_n (C : zC p s m args meth c cc own nL Γ A) {i : Fin 4} (hd : decode cc pc = .ok (.aload_n i, 1)) (hl : zg lv (i : Nat) = some .null) (kk : Z p l e R s m args below meth c Q nL Γ A G k n (pc + 1) lv (.null :: st)) : Z p l e R s m args below meth c Q nL Γ A G k n pc lv st :=
  fun H locs ls ws hR hP hD hS hL => lv_aload_nN C.1 C.2.1 hd rfl (hL.at hl) (kk H locs ls ws hR hP hD hS hL)
theorem z_istore_n (C : zC p s m args meth c cc own nL Γ A) {i : Fin 4} {x : Int32} (hd : decode cc pc = .ok (.istore_n i, 1)) (hi : (i : Nat) < nL) (kk : Z p l e R s m args below meth c Q nL Γ A G k n (pc + 1) (zs1 (i : Nat) (.int x) lv) st) : Z p l e R s m args below meth c Q nL Γ A G k n pc lv (.int x :: st) :=
  fun H locs ls ws hR hP hD hS hL => lv_istore_n C.1 C.2.1 hd rfl hL hi rfl (fun ls' h' => kk H locs ls' ws hR hP hD hS (zL.st1 h'))
theorem z_istore (C : zC p s m args meth c cc own nL Γ A) {i : Nat} {x : Int32} (hd : decode cc pc = .ok (.istore i, 2)) (hi : i < nL) (kk : Z p l e R s m args below meth c Q nL Γ A G k n (pc + 2) (zs1 i (.int x) lv) st) : Z p l e R s m args below meth c Q nL Γ A G k n pc lv (.int x :: st) :=
  fun H locs ls ws hR hP hD hS hL => lv_istore C.1 C.2.1 hd hL hi rfl (fun ls' h' => kk H locs ls' ws hR hP hD hS (zL.st1 h'))
theorem z_lstore_n (C : zC p s m args meth c cc own nL Γ A) {i : Fin 4} {x : Int64} (hd : decode cc pc = .ok (.lstore_n i, 1)) (hi : (i : Nat) + 1 < nL) (kk : Z p l e R s m args below meth c Q nL Γ A G k n (pc + 1) (zs2 (i : Nat) (.long x) lv) st) : Z p l e R s m args below meth c Q nL Γ A G k n pc lv (.long x :: st) :=
  fun H locs ls ws hR hP hD hS hL => lv_lstore_n C.1 C.2.1 hd rfl hL hi rfl (fun ls' h' => kk H locs ls' ws hR hP hD hS (zL.st2 h'))
theorem z_lstore (C : zC p s m args meth c cc own nL Γ A) {i : Nat} {x : Int64} (hd : decode cc pc = .ok (.lstore i, 2)) (hi : i + 1 < nL) (kk : Z p l e R s m args below meth c Q nL Γ A G k n (pc + 2) (zs2 i (.long x) lv) st) : Z p l e R s m args below meth c Q nL Γ A G k n pc lv (.long x :: st) :=
  fun H locs ls ws hR hP hD hS hL => lv_lstore C.1 C.2.1 hd hL hi rfl (fun ls' h' => kk H locs ls' ws hR hP hD hS (zL.st2 h'))
theorem z_dstore (C : zC p s m args meth c cc own nL Γ A) {i : Nat} {x : UInt64} (hd : decode cc pc = .ok (.dstore i, 2)) (hi : i + 1 < nL) (kk : Z p l e R s m args below meth c Q nL Γ A G k n (pc + 2) (zs2 i (.double x) lv) st) : Z p l e R s m args below meth c Q nL Γ A G k n pc lv (.double x :: st) :=
  fun H locs ls ws hR hP hD hS hL => lv_dstore C.1 C.2.1 hd hL hi rfl (fun ls' h' => kk H locs ls' ws hR hP hD hS (zL.st2 h'))
theorem z_astore_n (C : zC p s m args meth c cc own nL Γ A) {i : Fin 4} {x : Option Nat} (hd : decode cc pc = .ok (.astore_n i, 1)) (hi : (i : Nat) < nL) (kk : Z p l e R s m args below meth c Q nL Γ A G k n (pc + 1) (zs1 (i : Nat) (va_rf x) lv) st) : Z p l e R s m args below meth c Q nL Γ A G k n pc lv (va_rf x :: st) := by
  intro H locs ls ws hR hP hD hS hL
  cases x with
  | none => exact lv_astore_nN C.1 C.2.1 hd rfl hL hi rfl (fun ls' h' => kk H locs ls' ws hR hP hD hS (zL.st1 h'))
  | some a => exact lv_astore_n C.1 C.2.1 hd rfl hL hi rfl (fun ls' h' => kk H locs ls' ws hR hP hD hS (zL.st1 h'))
theorem z_astore (C : zC p s m args meth c cc own nL Γ A) {i : Nat} {x : Option Nat} (hd : decode cc pc = .ok (.astore i, 2)) (hi : i < nL) (kk : Z p l e R s m args below meth c Q nL Γ A G k n (pc + 2) (zs1 i (va_rf x) lv) st) : Z p l e R s m args below meth c Q nL Γ A G k n pc lv (va_rf x :: st) := by
  intro H locs ls ws hR hP hD hS hL
  cases x with
  | none => exact lv_astoreN C.1 C.2.1 hd hL hi rfl (fun ls' h' => kk H locs ls' ws hR hP hD hS (zL.st1 h'))
  | some a => exact lv_astore C.1 C.2.1 hd hL hi rfl (fun ls' h' => kk H locs ls' ws hR hP hD hS (zL.st1 h'))
theorem z_rstore_n (C : zC p s m args meth c cc own nL Γ A) {i : Fin 4} {x : Nat} (hd : decode cc pc = .ok (.astore_n i, 1)) (hi : (i : Nat) < nL) (kk : Z p l e R s m args below meth c Q nL Γ A G k n (pc + 1) (zs1 (i : Nat) (.ref x) lv) st) : Z p l e R s m args below meth c Q nL Γ A G k n pc lv (.ref x :: st) :=
  fun H locs ls ws hR hP hD hS hL => lv_astore_n C.1 C.2.1 hd rfl hL hi rfl (fun ls' h' => kk H locs ls' ws hR hP hD hS (zL.st1 h'))
theorem z_rstore (C : zC p s m args meth c cc own nL Γ A) {i : Nat} {x : Nat} (hd : decode cc pc = .ok (.astore i, 2)) (hi : i < nL) (kk : Z p l e R s m args below meth c Q nL Γ A G k n (pc + 2) (zs1 i (.ref x) lv) st) : Z p l e R s m args below meth c Q nL Γ A G k n pc lv (.ref x :: st) :=
  fun H locs ls ws hR hP hD hS hL => lv_astore C.1 C.2.1 hd hL hi rfl (fun ls' h' => kk H locs ls' ws hR hP hD hS (zL.st1 h'))
theorem z_nstore_n (C : zC p s m args meth c cc own nL Γ A) {i : Fin 4} (hd : decode cc pc = .ok (.astore_n i, 1)) (hi : (i : Nat) < nL) (kk : Z p l e R s m args below meth c Q nL Γ A G k n (pc + 1) (zs1 (i : Nat) .null lv) st) : Z p l e R s m args below meth c Q nL Γ A G k n pc lv (.null :: st) :=
  fun H locs ls ws hR hP hD hS hL => lv_astore_nN C.1 C.2.1 hd rfl hL hi rfl (fun ls' h' => kk H locs ls' ws hR hP hD hS (zL.st1 h'))
theorem z_iinc (C : zC p s m args meth c cc own nL Γ A) {i : Nat} {j : Int} {x w : Int32} (hd : decode cc pc = .ok (.iinc i j, 3)) (hl : zg lv i = some (.int x)) (hw : Int32.ofInt j = w) (hi : i < nL) (kk : Z p l e R s m args below meth c Q nL Γ A G k n (pc + 3) (zs1 i (.int (x + w)) lv) st) : Z p l e R s m args below meth c Q nL Γ A G k n pc lv st := by
  intro H locs ls ws hR hP hD hS hL
  obtain ⟨q, hq⟩ := List.getElem?_of_mem ((zp_mem lv 0 i (.int x)).mpr ⟨Nat.zero_le _, hl⟩)
  exact lv_iinc C.1 C.2.1 hd hL hq (by rw [hw]) hi rfl (fun ls' h' => kk H locs ls' ws hR hP hD hS (zL.st1 h'))
theorem z_iadd (C : zC p s m args meth c cc own nL Γ A) {x y : Int32} (hd : decode cc pc = .ok (.iadd, 1)) (kk : Z p l e R s m args below meth c Q nL Γ A G k n (pc + 1) lv (.int (x + y) :: st)) : Z p l e R s m args below meth c Q nL Γ A G k n pc lv (.int y :: .int x :: st) :=
  fun H locs ls ws hR hP hD hS hL => lv_iadd C.1 C.2.1 hd (kk H locs ls ws hR hP hD hS hL)
theorem z_isub (C : zC p s m args meth c cc own nL Γ A) {x y : Int32} (hd : decode cc pc = .ok (.isub, 1)) (kk : Z p l e R s m args below meth c Q nL Γ A G k n (pc + 1) lv (.int (x - y) :: st)) : Z p l e R s m args below meth c Q nL Γ A G k n pc lv (.int y :: .int x :: st) :=
  fun H locs ls ws hR hP hD hS hL => lv_isub C.1 C.2.1 hd (kk H locs ls ws hR hP hD hS hL)
theorem z_imul (C : zC p s m args meth c cc own nL Γ A) {x y : Int32} (hd : decode cc pc = .ok (.imul, 1)) (kk : Z p l e R s m args below meth c Q nL Γ A G k n (pc + 1) lv (.int (x * y) :: st)) : Z p l e R s m args below meth c Q nL Γ A G k n pc lv (.int y :: .int x :: st) :=
  fun H locs ls ws hR hP hD hS hL => lv_imul C.1 C.2.1 hd (kk H locs ls ws hR hP hD hS hL)
theorem z_idiv (C : zC p s m args meth c cc own nL Γ A) {x y : Int32} (hne : ¬ y = 0) (hd : decode cc pc = .ok (.idiv, 1)) (kk : Z p l e R s m args below meth c Q nL Γ A G k n (pc + 1) lv (.int (x / y) :: st)) : Z p l e R s m args below meth c Q nL Γ A G k n pc lv (.int y :: .int x :: st) :=
  fun H locs ls ws hR hP hD hS hL => lv_idiv C.1 C.2.1 hd hne (kk H locs ls ws hR hP hD hS hL)
theorem z_irem (C : zC p s m args meth c cc own nL Γ A) {x y : Int32} (hne : ¬ y = 0) (hd : decode cc pc = .ok (.irem, 1)) (kk : Z p l e R s m args below meth c Q nL Γ A G k n (pc + 1) lv (.int (x - x / y * y) :: st)) : Z p l e R s m args below meth c Q nL Γ A G k n pc lv (.int y :: .int x :: st) :=
  fun H locs ls ws hR hP hD hS hL => lv_irem C.1 C.2.1 hd hne (kk H locs ls ws hR hP hD hS hL)
theorem z_iand (C : zC p s m args meth c cc own nL Γ A) {x y : Int32} (hd : decode cc pc = .ok (.iand, 1)) (kk : Z p l e R s m args below meth c Q nL Γ A G k n (pc + 1) lv (.int (x &&& y) :: st)) : Z p l e R s m args below meth c Q nL Γ A G k n pc lv (.int y :: .int x :: st) :=
  fun H locs ls ws hR hP hD hS hL => lv_iand C.1 C.2.1 hd (kk H locs ls ws hR hP hD hS hL)
theorem z_ior (C : zC p s m args meth c cc own nL Γ A) {x y : Int32} (hd : decode cc pc = .ok (.ior, 1)) (kk : Z p l e R s m args below meth c Q nL Γ A G k n (pc + 1) lv (.int (x ||| y) :: st)) : Z p l e R s m args below meth c Q nL Γ A G k n pc lv (.int y :: .int x :: st) :=
  fun H locs ls ws hR hP hD hS hL => lv_ior C.1 C.2.1 hd (kk H locs ls ws hR hP hD hS hL)
theorem z_ixor (C : zC p s m args meth c cc own nL Γ A) {x y : Int32} (hd : decode cc pc = .ok (.ixor, 1)) (kk : Z p l e R s m args below meth c Q nL Γ A G k n (pc + 1) lv (.int (x ^^^ y) :: st)) : Z p l e R s m args below meth c Q nL Γ A G k n pc lv (.int y :: .int x :: st) :=
  fun H locs ls ws hR hP hD hS hL => lv_ixor C.1 C.2.1 hd (kk H locs ls ws hR hP hD hS hL)
theorem z_ladd (C : zC p s m args meth c cc own nL Γ A) {x y : Int64} (hd : decode cc pc = .ok (.ladd, 1)) (kk : Z p l e R s m args below meth c Q nL Γ A G k n (pc + 1) lv (.long (x + y) :: st)) : Z p l e R s m args below meth c Q nL Γ A G k n pc lv (.long y :: .long x :: st) :=
  fun H locs ls ws hR hP hD hS hL => lv_ladd C.1 C.2.1 hd (kk H locs ls ws hR hP hD hS hL)
theorem z_lmul (C : zC p s m args meth c cc own nL Γ A) {x y : Int64} (hd : decode cc pc = .ok (.lmul, 1)) (kk : Z p l e R s m args below meth c Q nL Γ A G k n (pc + 1) lv (.long (x * y) :: st)) : Z p l e R s m args below meth c Q nL Γ A G k n pc lv (.long y :: .long x :: st) :=
  fun H locs ls ws hR hP hD hS hL => lv_lmul C.1 C.2.1 hd (kk H locs ls ws hR hP hD hS hL)
theorem z_ldiv (C : zC p s m args meth c cc own nL Γ A) {x y : Int64} (hne : ¬ y = 0) (hd : decode cc pc = .ok (.ldiv, 1)) (kk : Z p l e R s m args below meth c Q nL Γ A G k n (pc + 1) lv (.long (x / y) :: st)) : Z p l e R s m args below meth c Q nL Γ A G k n pc lv (.long y :: .long x :: st) :=
  fun H locs ls ws hR hP hD hS hL => lv_ldiv C.1 C.2.1 hd hne (kk H locs ls ws hR hP hD hS hL)
theorem z_ishl (C : zC p s m args meth c cc own nL Γ A) {x y v : Int32} (hv : x <<< (y &&& 31) = v) (hd : decode cc pc = .ok (.ishl, 1)) (kk : Z p l e R s m args below meth c Q nL Γ A G k n (pc + 1) lv (.int v :: st)) : Z p l e R s m args below meth c Q nL Γ A G k n pc lv (.int y :: .int x :: st) := by
  subst hv
  exact fun H locs ls ws hR hP hD hS hL => lv_ishl C.1 C.2.1 hd (kk H locs ls ws hR hP hD hS hL)
theorem z_ishr (C : zC p s m args meth c cc own nL Γ A) {x y v : Int32} (hv : x >>> (y &&& 31) = v) (hd : decode cc pc = .ok (.ishr, 1)) (kk : Z p l e R s m args below meth c Q nL Γ A G k n (pc + 1) lv (.int v :: st)) : Z p l e R s m args below meth c Q nL Γ A G k n pc lv (.int y :: .int x :: st) := by
  subst hv
  exact fun H locs ls ws hR hP hD hS hL => lv_ishr C.1 C.2.1 hd (kk H locs ls ws hR hP hD hS hL)
theorem z_iushr (C : zC p s m args meth c cc own nL Γ A) {x y v : Int32} (hv : (x.toUInt32 >>> (y.toUInt32 &&& Int32.toUInt32 31)).toInt32 = v) (hd : decode cc pc = .ok (.iushr, 1)) (kk : Z p l e R s m args below meth c Q nL Γ A G k n (pc + 1) lv (.int v :: st)) : Z p l e R s m args below meth c Q nL Γ A G k n pc lv (.int y :: .int x :: st) :=
  fun H locs ls ws hR hP hD hS hL => lv_iushr C.1 C.2.1 hd hv (kk H locs ls ws hR hP hD hS hL)
theorem z_i2l (C : zC p s m args meth c cc own nL Γ A) {x : Int32} (hd : decode cc pc = .ok (.i2l, 1)) (kk : Z p l e R s m args below meth c Q nL Γ A G k n (pc + 1) lv (.long x.toInt64 :: st)) : Z p l e R s m args below meth c Q nL Γ A G k n pc lv (.int x :: st) :=
  fun H locs ls ws hR hP hD hS hL => lv_i2l C.1 C.2.1 hd rfl (kk H locs ls ws hR hP hD hS hL)
theorem z_l2i (C : zC p s m args meth c cc own nL Γ A) {x : Int64} (hd : decode cc pc = .ok (.l2i, 1)) (kk : Z p l e R s m args below meth c Q nL Γ A G k n (pc + 1) lv (.int x.toInt32 :: st)) : Z p l e R s m args below meth c Q nL Γ A G k n pc lv (.long x :: st) :=
  fun H locs ls ws hR hP hD hS hL => lv_l2i C.1 C.2.1 hd rfl (kk H locs ls ws hR hP hD hS hL)
theorem z_i2d (C : zC p s m args meth c cc own nL Γ A) {x : Int32} (hd : decode cc pc = .ok (.i2d, 1)) (kk : Z p l e R s m args below meth c Q nL Γ A G k n (pc + 1) lv (.double (FP.i2d x) :: st)) : Z p l e R s m args below meth c Q nL Γ A G k n pc lv (.int x :: st) :=
  fun H locs ls ws hR hP hD hS hL => lv_i2d C.1 C.2.1 hd (kk H locs ls ws hR hP hD hS hL)
theorem z_l2d (C : zC p s m args meth c cc own nL Γ A) {x : Int64} (hd : decode cc pc = .ok (.l2d, 1)) (kk : Z p l e R s m args below meth c Q nL Γ A G k n (pc + 1) lv (.double (FP.l2d x) :: st)) : Z p l e R s m args below meth c Q nL Γ A G k n pc lv (.long x :: st) :=
  fun H locs ls ws hR hP hD hS hL => lv_l2d C.1 C.2.1 hd (kk H locs ls ws hR hP hD hS hL)
theorem z_ddiv (C : zC p s m args meth c cc own nL Γ A) {x y : UInt64} (hne : vf_n64 (FP.ddiv x y)) (hd : decode cc pc = .ok (.ddiv, 1)) (kk : Z p l e R s m args below meth c Q nL Γ A G k n (pc + 1) lv (.double (FP.ddiv x y) :: st)) : Z p l e R s m args below meth c Q nL Γ A G k n pc lv (.double y :: .double x :: st) :=
  fun H locs ls ws hR hP hD hS hL => lv_ddiv C.1 C.2.1 hd hne (kk H locs ls ws hR hP hD hS hL)
theorem z_dcmp (C : zC p s m args meth c cc own nL Γ A) {x y : UInt64} {op : CmpOp} (hd : decode cc pc = .ok (.dcmp op, 1)) (kk : Z p l e R s m args below meth c Q nL Γ A G k n (pc + 1) lv (.int (Op.cmpValue (FP.dcmp x y) op) :: st)) : Z p l e R s m args below meth c Q nL Γ A G k n pc lv (.double y :: .double x :: st) :=
  fun H locs ls ws hR hP hD hS hL => lv_dcmp C.1 C.2.1 hd (kk H locs ls ws hR hP hD hS hL)
theorem z_dup (C : zC p s m args meth c cc own nL Γ A) {x : Value} (hc : x.category = 1) (hd : decode cc pc = .ok (.dup, 1)) (kk : Z p l e R s m args below meth c Q nL Γ A G k n (pc + 1) lv (x :: x :: st)) : Z p l e R s m args below meth c Q nL Γ A G k n pc lv (x :: st) :=
  fun H locs ls ws hR hP hD hS hL => lv_dup C.1 C.2.1 hd hc (kk H locs ls ws hR hP hD hS hL)
theorem z_pop (C : zC p s m args meth c cc own nL Γ A) {x : Value} (hc : x.category = 1) (hd : decode cc pc = .ok (.pop, 1)) (kk : Z p l e R s m args below meth c Q nL Γ A G k n (pc + 1) lv st) : Z p l e R s m args below meth c Q nL Γ A G k n pc lv (x :: st) :=
  fun H locs ls ws hR hP hD hS hL => lv_pop C.1 C.2.1 hd hc (kk H locs ls ws hR hP hD hS hL)
theorem z_pop2 (C : zC p s m args meth c cc own nL Γ A) {x : Value} (hc : x.category = 2) (hd : decode cc pc = .ok (.pop2, 1)) (kk : Z p l e R s m args below meth c Q nL Γ A G k n (pc + 1) lv st) : Z p l e R s m args below meth c Q nL Γ A G k n pc lv (x :: st) :=
  fun H locs ls ws hR hP hD hS hL => lv_pop2_2 C.1 C.2.1 hd hc (kk H locs ls ws hR hP hD hS hL)
theorem z_dup_x1 (C : zC p s m args meth c cc own nL Γ A) {x y : Value} (hc : x.category = 1) (hc2 : y.category = 1) (hd : decode cc pc = .ok (.dup_x1, 1)) (kk : Z p l e R s m args below meth c Q nL Γ A G k n (pc + 1) lv (x :: y :: x :: st)) : Z p l e R s m args below meth c Q nL Γ A G k n pc lv (x :: y :: st) :=
  fun H locs ls ws hR hP hD hS hL => lv_dup_x1 C.1 C.2.1 hd hc hc2 (kk H locs ls ws hR hP hD hS hL)
theorem z_dup2 (C : zC p s m args meth c cc own nL Γ A) {x y : Value} (hc : x.category = 1) (hc2 : y.category = 1) (hd : decode cc pc = .ok (.dup2, 1)) (kk : Z p l e R s m args below meth c Q nL Γ A G k n (pc + 1) lv (x :: y :: x :: y :: st)) : Z p l e R s m args below meth c Q nL Γ A G k n pc lv (x :: y :: st) :=
  fun H locs ls ws hR hP hD hS hL => lv_dup2_11 C.1 C.2.1 hd hc hc2 (kk H locs ls ws hR hP hD hS hL)
theorem z_null (C : zC p s m args meth c cc own nL Γ A) (hd : decode cc pc = .ok (.aconst_null, 1)) (kk : Z p l e R s m args below meth c Q nL Γ A G k n (pc + 1) lv (.null :: st)) : Z p l e R s m args below meth c Q nL Γ A G k n pc lv st :=
  fun H locs ls ws hR hP hD hS hL => lv_null C.1 C.2.1 hd (kk H locs ls ws hR hP hD hS hL)
theorem z_goto (C : zC p s m args meth c cc own nL Γ A) {off : Int} {tgt : Nat} (hd : decode cc pc = .ok (.goto off, 3)) (ht : (pc : Int) + off = (tgt : Int)) (kk : Z p l e R s m args below meth c Q nL Γ A G k n tgt lv st) : Z p l e R s m args below meth c Q nL Γ A G k n pc lv st :=
  fun H locs ls ws hR hP hD hS hL => lv_goto C.1 C.2.1 hd ht (kk H locs ls ws hR hP hD hS hL)
/-- a reference is null or not -/
theorem z_ifnull (C : zC p s m args meth c cc own nL Γ A) {x : Option Nat} {off : Int} {tgt : Nat} (hd : decode cc pc = .ok (.ifnull off, 3)) (ht : (pc : Int) + off = (tgt : Int)) (k1 : x = none → Z p l e R s m args below meth c Q nL Γ A G k n tgt lv st) (k2 : ∀ a, x = some a → Z p l e R s m args below meth c Q nL Γ A G k n (pc + 3) lv st) : Z p l e R s m args below meth c Q nL Γ A G k n pc lv (va_rf x :: st) := by
  intro H locs ls ws hR hP hD hS hL
  cases x with
  | none => exact lv_ifnullN C.1 C.2.1 hd ht (k1 rfl H locs ls ws hR hP hD hS hL)
  | some a => exact lv_ifnull C.1 C.2.1 hd (k2 a rfl H locs ls ws hR hP hD hS hL)
theorem z_ifnonnull (C : zC p s m args meth c cc own nL Γ A) {x : Option Nat} {off : Int} {tgt : Nat} (hd : decode cc pc = .ok (.ifnonnull off, 3)) (ht : (pc : Int) + off = (tgt : Int)) (k1 : ∀ a, x = some a → Z p l e R s m args below meth c Q nL Γ A G k n tgt lv st) (k2 : x = none → Z p l e R s m args below meth c Q nL Γ A G k n (pc + 3) lv st) : Z p l e R s m args below meth c Q nL Γ A G k n pc lv (va_rf x :: st) := by
  intro H locs ls ws hR hP hD hS hL
  cases x with
  | none => exact lv_ifnonnullN C.1 C.2.1 hd (k2 rfl H locs ls ws hR hP hD hS hL)
  | some a => exact lv_ifnonnull C.1 C.2.1 hd ht (k1 a rfl H locs ls ws hR hP hD hS hL)
theorem z_acmp_eq (C : zC p s m args meth c cc own nL Γ A) {x y : Nat} {off : Int} {tgt : Nat} (hd : decode cc pc = .ok (.if_acmp .eq off, 3)) (ht : (pc : Int) + off = (tgt : Int)) (k1 : x = y → Z p l e R s m args below meth c Q nL Γ A G k n tgt lv st) (k2 : ¬ x = y → Z p l e R s m args below meth c Q nL Γ A G k n (pc + 3) lv st) : Z p l e R s m args below meth c Q nL Γ A G k n pc lv (.ref y :: .ref x :: st) :=
  fun H locs ls ws hR hP hD hS hL => lv_acmp_eq (rx := some x) (ry := some y) C.1 C.2.1 hd ht (fun h => k1 (Option.some.inj h) H locs ls ws hR hP hD hS hL) (fun h => k2 (fun z => h (congrArg some z)) H locs ls ws hR hP hD hS hL)
theorem z_acmp_ne (C : zC p s m args meth c cc own nL Γ A) {x y : Nat} {off : Int} {tgt : Nat} (hd : decode cc pc = .ok (.if_acmp .ne off, 3)) (ht : (pc : Int) + off = (tgt : Int)) (k1 : ¬ x = y → Z p l e R s m args below meth c Q nL Γ A G k n tgt lv st) (k2 : x = y → Z p l e R s m args below meth c Q nL Γ A G k n (pc + 3) lv st) : Z p l e R s m args below meth c Q nL Γ A G k n pc lv (.ref y :: .ref x :: st) :=
  fun H locs ls ws hR hP hD hS hL => lv_acmp_ne (rx := some x) (ry := some y) C.1 C.2.1 hd ht (fun h => k1 (fun z => h (congrArg some z)) H locs ls ws hR hP hD hS hL) (fun h => k2 (Option.some.inj h) H locs ls ws hR hP hD hS hL)
theorem z_if_eq (C : zC p s m args meth c cc own nL Γ A) {x : Int32} {off : Int} {tgt : Nat} (hd : decode cc pc = .ok (.ifCond .eq off, 3)) (ht : (pc : Int) + off = (tgt : Int)) (k1 : x = 0 → Z p l e R s m args below meth c Q nL Γ A G k n tgt lv st) (k2 : ¬ x = 0 → Z p l e R s m args below meth c Q nL Γ A G k n (pc + 3) lv st) : Z p l e R s m args below meth c Q nL Γ A G k n pc lv (.int x :: st) :=
  fun H locs ls ws hR hP hD hS hL => lv_if_eq C.1 C.2.1 hd ht (fun h => k1 h H locs ls ws hR hP hD hS hL) (fun h => k2 h H locs ls ws hR hP hD hS hL)
theorem z_icmp_eq (C : zC p s m args meth c cc own nL Γ A) {x y : Int32} {off : Int} {tgt : Nat} (hd : decode cc pc = .ok (.if_icmp .eq off, 3)) (ht : (pc : Int) + off = (tgt : Int)) (k1 : x = y → Z p l e R s m args below meth c Q nL Γ A G k n tgt lv st) (k2 : ¬ x = y → Z p l e R s m args below meth c Q nL Γ A G k n (pc + 3) lv st) : Z p l e R s m args below meth c Q nL Γ A G k n pc lv (.int y :: .int x :: st) :=
  fun H locs ls ws hR hP hD hS hL => lv_icmp_eq C.1 C.2.1 hd ht (fun h => k1 h H locs ls ws hR hP hD hS hL) (fun h => k2 h H locs ls ws hR hP hD hS hL)
theorem z_if_ne (C : zC p s m args meth c cc own nL Γ A) {x : Int32} {off : Int} {tgt : Nat} (hd : decode cc pc = .ok (.ifCond .ne off, 3)) (ht : (pc : Int) + off = (tgt : Int)) (k1 : ¬ x = 0 → Z p l e R s m args below meth c Q nL Γ A G k n tgt lv st) (k2 : x = 0 → Z p l e R s m args below meth c Q nL Γ A G k n (pc + 3) lv st) : Z p l e R s m args below meth c Q nL Γ A G k n pc lv (.int x :: st) :=
  fun H locs ls ws hR hP hD hS hL => lv_if_ne C.1 C.2.1 hd ht (fun h => k1 h H locs ls ws hR hP hD hS hL) (fun h => k2 h H locs ls ws hR hP hD hS hL)
theorem z_icmp_ne (C : zC p s m args meth c cc own nL Γ A) {x y : Int32} {off : Int} {tgt : Nat} (hd : decode cc pc = .ok (.if_icmp .ne off, 3)) (ht : (pc : Int) + off = (tgt : Int)) (k1 : ¬ x = y → Z p l e R s m args below meth c Q nL Γ A G k n tgt lv st) (k2 : x = y → Z p l e R s m args below meth c Q nL Γ A G k n (pc + 3) lv st) : Z p l e R s m args below meth c Q nL Γ A G k n pc lv (.int y :: .int x :: st) :=
  fun H locs ls ws hR hP hD hS hL => lv_icmp_ne C.1 C.2.1 hd ht (fun h => k1 h H locs ls ws hR hP hD hS hL) (fun h => k2 h H locs ls ws hR hP hD hS hL)
theorem z_if_lt (C : zC p s m args meth c cc own nL Γ A) {x : Int32} {off : Int} {tgt : Nat} (hd : decode cc pc = .ok (.ifCond .lt off, 3)) (ht : (pc : Int) + off = (tgt : Int)) (k1 : x < 0 → Z p l e R s m args below meth c Q nL Γ A G k n tgt lv st) (k2 : ¬ x < 0 → Z p l e R s m args below meth c Q nL Γ A G k n (pc + 3) lv st) : Z p l e R s m args below meth c Q nL Γ A G k n pc lv (.int x :: st) :=
  fun H locs ls ws hR hP hD hS hL => lv_if_lt C.1 C.2.1 hd ht (fun h => k1 h H locs ls ws hR hP hD hS hL) (fun h => k2 h H locs ls ws hR hP hD hS hL)
theorem z_icmp_lt (C : zC p s m args meth c cc own nL Γ A) {x y : Int32} {off : Int} {tgt : Nat} (hd : decode cc pc = .ok (.if_icmp .lt off, 3)) (ht : (pc : Int) + off = (tgt : Int)) (k1 : x < y → Z p l e R s m args below meth c Q nL Γ A G k n tgt lv st) (k2 : ¬ x < y → Z p l e R s m args below meth c Q nL Γ A G k n (pc + 3) lv st) : Z p l e R s m args below meth c Q nL Γ A G k n pc lv (.int y :: .int x :: st) :=
  fun H locs ls ws hR hP hD hS hL => lv_icmp_lt C.1 C.2.1 hd ht (fun h => k1 h H locs ls ws hR hP hD hS hL) (fun h => k2 h H locs ls ws hR hP hD hS hL)
theorem z_if_ge (C : zC p s m args meth c cc own nL Γ A) {x : Int32} {off : Int} {tgt : Nat} (hd : decode cc pc = .ok (.ifCond .ge off, 3)) (ht : (pc : Int) + off = (tgt : Int)) (k1 : 0 ≤ x → Z p l e R s m args below meth c Q nL Γ A G k n tgt lv st) (k2 : ¬ 0 ≤ x → Z p l e R s m args below meth c Q nL Γ A G k n (pc + 3) lv st) : Z p l e R s m args below meth c Q nL Γ A G k n pc lv (.int x :: st) :=
  fun H locs ls ws hR hP hD hS hL => lv_if_ge C.1 C.2.1 hd ht (fun h => k1 h H locs ls ws hR hP hD hS hL) (fun h => k2 h H locs ls ws hR hP hD hS hL)
theorem z_icmp_ge (C : zC p s m args meth c cc own nL Γ A) {x y : Int32} {off : Int} {tgt : Nat} (hd : decode cc pc = .ok (.if_icmp .ge off, 3)) (ht : (pc : Int) + off = (tgt : Int)) (k1 : y ≤ x → Z p l e R s m args below meth c Q nL Γ A G k n tgt lv st) (k2 : ¬ y ≤ x → Z p l e R s m args below meth c Q nL Γ A G k n (pc + 3) lv st) : Z p l e R s m args below meth c Q nL Γ A G k n pc lv (.int y :: .int x :: st) :=
  fun H locs ls ws hR hP hD hS hL => lv_icmp_ge C.1 C.2.1 hd ht (fun h => k1 h H locs ls ws hR hP hD hS hL) (fun h => k2 h H locs ls ws hR hP hD hS hL)
theorem z_if_gt (C : zC p s m args meth c cc own nL Γ A) {x : Int32} {off : Int} {tgt : Nat} (hd : decode cc pc = .ok (.ifCond .gt off, 3)) (ht : (pc : Int) + off = (tgt : Int)) (k1 : 0 < x → Z p l e R s m args below meth c Q nL Γ A G k n tgt lv st) (k2 : ¬ 0 < x → Z p l e R s m args below meth c Q nL Γ A G k n (pc + 3) lv st) : Z p l e R s m args below meth c Q nL Γ A G k n pc lv (.int x :: st) :=
  fun H locs ls ws hR hP hD hS hL => lv_if_gt C.1 C.2.1 hd ht (fun h => k1 h H locs ls ws hR hP hD hS hL) (fun h => k2 h H locs ls ws hR hP hD hS hL)
theorem z_icmp_gt (C : zC p s m args meth c cc own nL Γ A) {x y : Int32} {off : Int} {tgt : Nat} (hd : decode cc pc = .ok (.if_icmp .gt off, 3)) (ht : (pc : Int) + off = (tgt : Int)) (k1 : y < x → Z p l e R s m args below meth c Q nL Γ A G k n tgt lv st) (k2 : ¬ y < x → Z p l e R s m args below meth c Q nL Γ A G k n (pc + 3) lv st) : Z p l e R s m args below meth c Q nL Γ A G k n pc lv (.int y :: .int x :: st) :=
  fun H locs ls ws hR hP hD hS hL => lv_icmp_gt C.1 C.2.1 hd ht (fun h => k1 h H locs ls ws hR hP hD hS hL) (fun h => k2 h H locs ls ws hR hP hD hS hL)
theorem z_if_le (C : zC p s m args meth c cc own nL Γ A) {x : Int32} {off : Int} {tgt : Nat} (hd : decode cc pc = .ok (.ifCond .le off, 3)) (ht : (pc : Int) + off = (tgt : Int)) (k1 : x ≤ 0 → Z p l e R s m args below meth c Q nL Γ A G k n tgt lv st) (k2 : ¬ x ≤ 0 → Z p l e R s m args below meth c Q nL Γ A G k n (pc + 3) lv st) : Z p l e R s m args below meth c Q nL Γ A G k n pc lv (.int x :: st) :=
  fun H locs ls ws hR hP hD hS hL => lv_if_le C.1 C.2.1 hd ht (fun h => k1 h H locs ls ws hR hP hD hS hL) (fun h => k2 h H locs ls ws hR hP hD hS hL)
theorem z_icmp_le (C : zC p s m args meth c cc own nL Γ A) {x y : Int32} {off : Int} {tgt : Nat} (hd : decode cc pc = .ok (.if_icmp .le off, 3)) (ht : (pc : Int) + off = (tgt : Int)) (k1 : x ≤ y → Z p l e R s m args below meth c Q nL Γ A G k n tgt lv st) (k2 : ¬ x ≤ y → Z p l e R s m args below meth c Q nL Γ A G k n (pc + 3) lv st) : Z p l e R s m args below meth c Q nL Γ A G k n pc lv (.int y :: .int x :: st) :=
  fun H locs ls ws hR hP hD hS hL => lv_icmp_le C.1 C.2.1 hd ht (fun h => k1 h H locs ls ws hR hP hD hS hL) (fun h => k2 h H locs ls ws hR hP hD hS hL)
theorem z_lcmp (C : zC p s m args meth c cc own nL Γ A) {x y : Int64} (hd : decode cc pc = .ok (.lcmp, 1)) (kk : Z p l e R s m args below meth c Q nL Γ A G k n (pc + 1) lv (.int (lg_cmp x y) :: st)) : Z p l e R s m args below meth c Q nL Γ A G k n pc lv (.long y :: .long x :: st) :=
  fun H locs ls ws hR hP hD hS hL => W.lcmp C.1 C.2.1 hd (kk H locs ls ws hR hP hD hS hL)
end ZZ
end
section
/-! OWN ROWS, third part: entry, ends, objects, arrays, calls -/
abbrev zI (Γ : zY) (n : Nat) (f : Nat → Int32) : va_E := .inl (Γ.2.1 0, n, .inl f)
abbrev zO (Γ : zY) (n : Nat) (f : Nat → Option Nat) : va_E := .inl (Γ.2.1 1, n, .inr (.inr (.inr (.inr f))))
theorem z_good : GoodIn lw_all lw_all := fun w hw => ⟨hw, good_of_word (List.mem_filter.mp hw).2⟩
theorem z_goods {ws : List Cond} (h : ∀ w ∈ ws, w ∈ lw_all) : GoodIn lw_all ws := fun w hw => ⟨h w hw, good_of_word (List.mem_filter.mp (h w hw)).2⟩
def zF (post : Option Value → zG → Prop) (Γ : zY) (G0 : zG) (Q : State → Prop) (A : Nat → Prop) (below : List Frame) (args : Array Value) (s : State) (mc ms : Nat) : Prop :=
  Q = MQ below (zQ post Γ G0 s.heap.size) args s mc ms (zA G0 s.heap.size) ∧ A = zA G0 s.heap.size
/-- a method's proof begins -/
theorem z_start {l : Launch} {y : MethodName} {cb : ByteArray} {n : Nat} {ret : Option FieldType} {rm : Room} {Γ : zY} {av : List Value} {G : zG} {post : Option Value → zG → Prop} (hy : plainName y.cls = true) (lv0 : List (Option Value)) (hlv : zp 0 lv0 = lv_args 0 av) (hlen : (lg_sl av).length ≤ n)
    (kk : ∀ (p : Program) (e : Env) (s : State) (m : MethodId) (args : Array Value) (below : List Frame) (meth : Method) (c : Code) (Q : State → Prop) (A : Nat → Prop), zC p s m args meth c cb y.cls n Γ A → zF post Γ G Q A below args s rm.cells rm.slots → meth.sig.returnType = ret → meth.name = y.name →
      Z p l e rm s m args below meth c Q n Γ A G 0 0 0 lv0 []) : ZM l y cb n ret rm Γ av G post := by
  intro sz
  refine Met.ofW (cc := cb) (maxL := n) (ret := ret) hy rfl ?_
  intro p e s m args below meth c s₁ B hml hv
  obtain ⟨rfl, rfl, ⟨ws, hR, hP, hD⟩, hK, hE, hN⟩ := hv
  have hts := atoms_spec (ws := zws y cb n ret) B.pre
  have hl := lv_entry av (n := n) hlen
  rw [lg_entry_eq]
  generalize (lg_sl av ++ List.replicate (n - (lg_sl av).length) Slot.unset).toArray = ls at hl ⊢
  exact kk p e s m av.toArray below meth c _ (zA G s.heap.size) ⟨B.exec, B.bytes, hml, findClass_of_methodNamed B.named, fun w h => hts w (List.mem_cons_of_mem _ h), hK, B.notSynchronized, fun q h => Or.inr h, hE, hN⟩ ⟨rfl, rfl⟩ B.returns (name_of_methodNamed B.named B.method).1
    s.heap [] ls ws hR hP (hD.weaken (fun k q hk _ => Or.inl ⟨q.2, (hR q.1 q.2).mpr (List.mem_of_getElem? hk)⟩)) va_S.rf (by unfold zL; rw [hlv]; exact hl)
section ZE
variable {p : Program} {l : Launch} {e : Env} {R : Room} {s : State} {m : MethodId} {args : Array Value} {below : List Frame} {meth : Method} {c : Code} {Q : State → Prop} {A : Nat → Prop} {nL : Nat} {Γ : zY} {G G0 : zG} {k n pc mc ms : Nat} {lv : List (Option Value)} {cc : ByteArray} {own : String} {post : Option Value → zG → Prop}
theorem z_iret (C : zC p s m args meth c cc own nL Γ A) (F : zF post Γ G0 Q A below args s mc ms) (hr : meth.sig.returnType = some .int) {v : Int32} (hk : k ≤ mc) (hn : n ≤ ms) (hp : post (some (.int v)) G) (hd : decode cc pc = .ok (.ireturn, 1)) :
    Z p l e R s m args below meth c Q nL Γ A G k n pc lv [.int v] := by
  obtain ⟨rfl, rfl⟩ := F
  exact fun _ _ _ ws hR hP hD hS _ => W.widen hk hn (W.iret C.1 C.2.1 hr (fun t ht _ => ⟨⟨_, G, ws, rfl, hp, hR, by rw [ht]; exact hP, hD⟩, hS.F ht⟩) hS.2.2 hd C.2.2.2.2.2.2.1)
theorem z_bret (C : zC p s m args meth c cc own nL Γ A) (F : zF post Γ G0 Q A below args s mc ms) (hr : meth.sig.returnType = some .boolean) {v : Int32} (hb : narrow .boolean (.int v) = .int v) (hk : k ≤ mc) (hn : n ≤ ms) (hp : post (some (.int v)) G) (hd : decode cc pc = .ok (.ireturn, 1)) :
    Z p l e R s m args below meth c Q nL Γ A G k n pc lv [.int v] := by
  obtain ⟨rfl, rfl⟩ := F
  exact fun _ _ _ ws hR hP hD hS _ => W.widen hk hn (W.zret C.1 C.2.1 hr hb (fun t ht _ => ⟨⟨_, G, ws, rfl, hp, hR, by rw [ht]; exact hP, hD⟩, hS.F ht⟩) hS.2.2 hd C.2.2.2.2.2.2.1)
theorem z_lret (C : zC p s m args meth c cc own nL Γ A) (F : zF post Γ G0 Q A below args s mc ms) (hr : meth.sig.returnType = some .long) {v : Int64} (hk : k ≤ mc) (hn : n ≤ ms) (hp : post (some (.long v)) G) (hd : decode cc pc = .ok (.lreturn, 1)) :
    Z p l e R s m args below meth c Q nL Γ A G k n pc lv [.long v] := by
  obtain ⟨rfl, rfl⟩ := F
  exact fun _ _ _ ws hR hP hD hS _ => W.widen hk hn (W.lret C.1 C.2.1 hr (fun t ht _ => ⟨⟨_, G, ws, rfl, hp, hR, by rw [ht]; exact hP, hD⟩, hS.F ht⟩) hS.2.2 hd C.2.2.2.2.2.2.1)
theorem z_dret (C : zC p s m args meth c cc own nL Γ A) (F : zF post Γ G0 Q A below args s mc ms) (hr : meth.sig.returnType = some .double) {v : UInt64} (hk : k ≤ mc) (hn : n ≤ ms) (hp : post (some (.double v)) G) (hd : decode cc pc = .ok (.dreturn, 1)) :
    Z p l e R s m args below meth c Q nL Γ A G k n pc lv [.double v] := by
  obtain ⟨rfl, rfl⟩ := F
  exact fun _ _ _ ws hR hP hD hS _ => W.widen hk hn (W.dret C.1 C.2.1 hr (fun t ht _ => ⟨⟨_, G, ws, rfl, hp, hR, by rw [ht]; exact hP, hD⟩, hS.F ht⟩) hS.2.2 hd C.2.2.2.2.2.2.1)
theorem z_vret (C : zC p s m args meth c cc own nL Γ A) (F : zF post Γ G0 Q A below args s mc ms) (hr : meth.sig.returnType = none) (hk : k ≤ mc) (hn : n ≤ ms) (hp : post (none) G) (hd : decode cc pc = .ok (.return_, 1)) :
    Z p l e R s m args below meth c Q nL Γ A G k n pc lv [] := by
  obtain ⟨rfl, rfl⟩ := F
  exact fun _ _ _ ws hR hP hD hS _ => W.widen hk hn (W.vret C.1 C.2.1 hr (fun t ht _ => ⟨⟨_, G, ws, rfl, hp, hR, by rw [ht]; exact hP, hD⟩, hS.F ht⟩) hS.2.2 hd C.2.2.2.2.2.2.1)
theorem z_aret (C : zC p s m args meth c cc own nL Γ A) (F : zF post Γ G0 Q A below args s mc ms) {rt : FieldType} (hr : meth.sig.returnType = some rt) (hrt : (∃ n, rt = .object n) ∨ ∃ t, rt = .array t) {x : Option Nat} (hk : k ≤ mc) (hn : n ≤ ms) (hp : post (some (va_rf x)) G) (hd : decode cc pc = .ok (.areturn, 1)) :
    Z p l e R s m args below meth c Q nL Γ A G k n pc lv [va_rf x] := by
  obtain ⟨rfl, rfl⟩ := F
  exact fun _ _ _ ws hR hP hD hS _ => W.widen hk hn (W.aret C.1 C.2.1 hr hrt (by cases x with | none => exact Or.inl rfl | some a => exact Or.inr ⟨a, rfl⟩) (fun t ht _ => ⟨⟨_, G, ws, rfl, hp, hR, by rw [ht]; exact hP, hD⟩, hS.F ht⟩) hS.2.2 hd C.2.2.2.2.2.2.1)
theorem z_rret (C : zC p s m args meth c cc own nL Γ A) (F : zF post Γ G0 Q A below args s mc ms) {rt : FieldType} (hr : meth.sig.returnType = some rt) (hrt : (∃ n, rt = .object n) ∨ ∃ t, rt = .array t) {x : Nat} (hk : k ≤ mc) (hn : n ≤ ms) (hp : post (some (.ref x)) G) (hd : decode cc pc = .ok (.areturn, 1)) :
    Z p l e R s m args below meth c Q nL Γ A G k n pc lv [.ref x] := by
  obtain ⟨rfl, rfl⟩ := F
  exact fun _ _ _ ws hR hP hD hS _ => W.widen hk hn (W.aret C.1 C.2.1 hr hrt (Or.inr ⟨x, rfl⟩) (fun t ht _ => ⟨⟨_, G, ws, rfl, hp, hR, by rw [ht]; exact hP, hD⟩, hS.F ht⟩) hS.2.2 hd C.2.2.2.2.2.2.1)
end ZE
theorem zpos {n : Nat} (h : 0 < n) (hn : n < 2 ^ 31) : (0 : Int32) < nI n := nI_lt (a := 0) h hn
/-- Math.abs -/
def z_abs1 (x : Int32) : Int32 := if 0 ≤ x then x else 0 - x
section ZO
variable {p : Program} {l : Launch} {e : Env} {R : Room} {s : State} {m : MethodId} {args : Array Value} {below : List Frame} {meth : Method} {c : Code} {Q : State → Prop} {nL : Nat} {Γ : zY} {A : Nat → Prop} {G : zG} {k n pc : Nat} {lv : List (Option Value)} {st : List Value} {cc : ByteArray} {own : String}
theorem z_same {args : Array Value} {s : State} {ref owner name desc : String} (hts : ∀ w ∈ lw_all, w.before args s = true) (h : ref = owner ∨ Cond.sameField ref owner name desc ∈ lw_all) : ∀ x, s.fieldFound? owner name desc = some x → s.fieldFound? ref name desc = some x := by
  rcases h with h | h
  · intro x hx; rw [h]; exact hx
  · exact u_same (hts _ h)
theorem z_getf (C : zC p s m args meth c cc own nL Γ A) {ref Cn : String} {T : u_T} {ci ix N a : Nat} {fs : List Value} (hG : G a = some (.inr (ci, fs))) (hc : zCl[ci]? = some (Cn, T, N)) (q : Nat) (hq : q < N) (hw : Cond.fieldLink own ix ref (T q).2.1 (T q).2.2.1 ∈ lw_all) (hs : ref = (T q).1 ∨ Cond.sameField ref (T q).1 (T q).2.1 (T q).2.2.1 ∈ lw_all) {v : Value} (hv : fs[q]? = some v) (hd : decode cc pc = .ok (.getfield ix, 3))
    (kk : Z p l e R s m args below meth c Q nL Γ A G k n (pc + 3) lv (v :: st)) : Z p l e R s m args below meth c Q nL Γ A G k n pc lv (.ref a :: st) := by
  intro H locs ls ws hR hP hD hS hL
  obtain ⟨k0, hk0⟩ := hR.mem hG
  exact va_get C.1 C.2.1 C.2.2.2.2.1 (zCl_in hc) C.2.2.2.1 C.2.2.2.2.2.1 hP k0 hk0 hc q hq (C.2.2.2.2.1 _ hw) (z_same C.2.2.2.2.1 hs) hv hd (kk H locs ls ws hR hP hD hS hL)
theorem z_getfN (C : zC p s m args meth c cc own nL Γ A) {ref Cn host : String} {T : u_T} {ci ix N a : Nat} {fs : List Value} (hG : G a = some (.inr (ci, fs))) (hc : zCl[ci]? = some (Cn, T, N)) (q : Nat) (hq : q < N) (hw : Cond.fieldLinkNest own ix ref (T q).2.1 (T q).2.2.1 host ∈ lw_nest) (hs : ref = (T q).1) {v : Value} (hv : fs[q]? = some v) (hd : decode cc pc = .ok (.getfield ix, 3))
    (kk : Z p l e R s m args below meth c Q nL Γ A G k n (pc + 3) lv (v :: st)) : Z p l e R s m args below meth c Q nL Γ A G k n pc lv (.ref a :: st) := by
  intro H locs ls ws hR hP hD hS hL
  obtain ⟨k0, hk0⟩ := hR.mem hG
  exact va_getN C.1 C.2.1 C.2.2.2.2.1 (zCl_in hc) C.2.2.2.1 C.2.2.2.2.2.1 hP k0 hk0 hc q hq (va_Nw.use rfl (C.2.2.2.2.2.2.2.2.2.1 _ hw)) (z_same C.2.2.2.2.1 (Or.inl hs)) hv hd (kk H locs ls ws hR hP hD hS hL)
theorem z_putf (C : zC p s m args meth c cc own nL Γ A) {ref Cn : String} {T : u_T} {ci ix N a : Nat} {fs : List Value} (hG : G a = some (.inr (ci, fs))) (hc : zCl[ci]? = some (Cn, T, N)) (q : Nat) (hq : q < N) (hw : Cond.fieldLink own ix ref (T q).2.1 (T q).2.2.1 ∈ lw_all) (hs : ref = (T q).1 ∨ Cond.sameField ref (T q).1 (T q).2.1 (T q).2.2.1 ∈ lw_all) (hfin : (T q).2.2.2 = false) {ty : FieldType} {v : Value} (ht : parseFieldDescriptor (T q).2.2.1 = some ty) (hn : narrow ty v = v) (hf : fits ty v = true) (hl : q < fs.length) (hd : decode cc pc = .ok (.putfield ix, 3))
    (kk : Z p l e R s m args below meth c Q nL Γ A (zU G a (.inr (ci, fs.set q v))) k n (pc + 3) lv st) : Z p l e R s m args below meth c Q nL Γ A G k n pc lv (v :: .ref a :: st) := by
  intro H locs ls ws hR hP hD hS hL
  obtain ⟨k0, hk0⟩ := hR.mem hG
  obtain ⟨ty0, hty⟩ := zCl_ty hc
  exact va_put C.1 C.2.1 C.2.2.2.2.1 (zCl_in hc) ty0 hty (zCl_nm hc) C.2.2.2.1 C.2.2.2.2.2.1 hP hD hS k0 hk0 hc q hq (C.2.2.2.2.1 _ hw) (z_same C.2.2.2.2.1 hs) hfin ht hn hf hl hd (fun H1 locs1 hP1 hD1 hS1 => kk H1 locs1 ls _ (hR.set hD hk0) hP1 hD1 hS1 hL)
theorem z_putF (C : zC p s m args meth c cc own nL Γ A) {ref Cn : String} {T : u_T} {ci ix N a : Nat} {fs : List Value} (hG : G a = some (.inr (ci, fs))) (hc : zCl[ci]? = some (Cn, T, N)) (q : Nat) (hq : q < N) (hw : Cond.fieldLink own ix ref (T q).2.1 (T q).2.2.1 ∈ lw_all) (hs : ref = (T q).1 ∨ Cond.sameField ref (T q).1 (T q).2.1 (T q).2.2.1 ∈ lw_all) (hfin : (T q).2.2.2 = true) (hi : meth.name = "<init>") (hdc : (T q).1 = own) {ty : FieldType} {v : Value} (ht : parseFieldDescriptor (T q).2.2.1 = some ty) (hn : narrow ty v = v) (hf : fits ty v = true) (hl : q < fs.length) (hd : decode cc pc = .ok (.putfield ix, 3))
    (kk : Z p l e R s m args below meth c Q nL Γ A (zU G a (.inr (ci, fs.set q v))) k n (pc + 3) lv st) : Z p l e R s m args below meth c Q nL Γ A G k n pc lv (v :: .ref a :: st) := by
  intro H locs ls ws hR hP hD hS hL
  obtain ⟨k0, hk0⟩ := hR.mem hG
  obtain ⟨ty0, hty⟩ := zCl_ty hc
  exact va_putF C.1 C.2.1 C.2.2.2.2.1 (zCl_in hc) ty0 hty (zCl_nm hc) C.2.2.2.1 C.2.2.2.2.2.1 hP hD hS k0 hk0 hc q hq (C.2.2.2.2.1 _ hw) (z_same C.2.2.2.2.1 hs) hfin hi hdc ht hn hf hl hd (fun H1 locs1 hP1 hD1 hS1 => kk H1 locs1 ls _ (hR.set hD hk0) hP1 hD1 hS1 hL)
theorem z_iald (C : zC p s m args meth c cc own nL Γ A) {a N : Nat} {f : Nat → Int32} (hG : G a = some (zI Γ N f)) {i : Int32} (hi : vp_in i N) (hd : decode cc pc = .ok (.iaload, 1))
    (kk : Z p l e R s m args below meth c Q nL Γ A G k n (pc + 1) lv (.int (f i.toNatClampNeg) :: st)) : Z p l e R s m args below meth c Q nL Γ A G k n pc lv (.int i :: .ref a :: st) := by
  intro H locs ls ws hR hP hD hS hL
  obtain ⟨k0, hk0⟩ := hR.mem hG
  exact va_iald C.1 C.2.1 C.2.2.2.2.2.1 hP k0 0 hk0 rfl hi hd (kk H locs ls ws hR hP hD hS hL)
theorem z_iast (C : zC p s m args meth c cc own nL Γ A) {a N : Nat} {f : Nat → Int32} (hG : G a = some (zI Γ N f)) {i x : Int32} (hi : vp_in i N) (hd : decode cc pc = .ok (.iastore, 1))
    (kk : Z p l e R s m args below meth c Q nL Γ A (zU G a (zI Γ N (upd f i.toNatClampNeg x))) k n (pc + 1) lv st) : Z p l e R s m args below meth c Q nL Γ A G k n pc lv (.int x :: .int i :: .ref a :: st) := by
  intro H locs ls ws hR hP hD hS hL
  obtain ⟨k0, hk0⟩ := hR.mem hG
  exact va_iast C.1 C.2.1 C.2.2.2.2.2.1 hP hD hS k0 0 hk0 rfl hi hd (fun H1 locs1 hP1 hD1 hS1 => kk H1 locs1 ls _ (hR.set hD hk0) hP1 hD1 hS1 hL)
theorem z_aald (C : zC p s m args meth c cc own nL Γ A) {a N : Nat} {f : Nat → Option Nat} (hG : G a = some (zO Γ N f)) {i : Int32} (hi : vp_in i N) {r : Option Nat} (hr : f i.toNatClampNeg = r) (hd : decode cc pc = .ok (.aaload, 1))
    (kk : Z p l e R s m args below meth c Q nL Γ A G k n (pc + 1) lv (va_rf r :: st)) : Z p l e R s m args below meth c Q nL Γ A G k n pc lv (.int i :: .ref a :: st) := by
  intro H locs ls ws hR hP hD hS hL
  obtain ⟨k0, hk0⟩ := hR.mem hG
  subst hr
  exact va_aldq C.1 C.2.1 C.2.2.2.2.2.1 hP k0 1 hk0 rfl hi hd (kk H locs ls ws hR hP hD hS hL)
theorem z_aast (C : zC p s m args meth c cc own nL Γ A) {a N b ci : Nat} {f : Nat → Option Nat} {fs : List Value} {q : vw_C} (hG : G a = some (zO Γ N f)) (hb : G b = some (.inr (ci, fs))) (hc : zCl[ci]? = some q) {i : Int32} (hi : vp_in i N) (hd : decode cc pc = .ok (.aastore, 1))
    (kk : Z p l e R s m args below meth c Q nL Γ A (zU G a (zO Γ N (va_up f i.toNatClampNeg (some b)))) k n (pc + 1) lv st) : Z p l e R s m args below meth c Q nL Γ A G k n pc lv (.ref b :: .int i :: .ref a :: st) := by
  intro H locs ls ws hR hP hD hS hL
  obtain ⟨k0, hk0⟩ := hR.mem hG
  obtain ⟨k1, hk1⟩ := hR.mem hb
  exact va_astqO C.1 C.2.1 C.2.2.2.2.2.1 hP hD hS k0 1 k1 ci hk0 rfl (C.2.2.2.2.2.2.2.2.2.1 _ (zCl_obj hc)) hk1 hc hi hd (fun H1 locs1 hP1 hD1 hS1 => kk H1 locs1 ls _ (hR.set hD hk0) hP1 hD1 hS1 hL)
theorem z_aastN (C : zC p s m args meth c cc own nL Γ A) {a N : Nat} {f : Nat → Option Nat} (hG : G a = some (zO Γ N f)) {i : Int32} (hi : vp_in i N) (hd : decode cc pc = .ok (.aastore, 1))
    (kk : Z p l e R s m args below meth c Q nL Γ A (zU G a (zO Γ N (va_up f i.toNatClampNeg none))) k n (pc + 1) lv st) : Z p l e R s m args below meth c Q nL Γ A G k n pc lv (.null :: .int i :: .ref a :: st) := by
  intro H locs ls ws hR hP hD hS hL
  obtain ⟨k0, hk0⟩ := hR.mem hG
  exact va_astqN C.1 C.2.1 C.2.2.2.2.2.1 hP hD hS k0 1 hk0 rfl hi hd (fun H1 locs1 hP1 hD1 hS1 => kk H1 locs1 ls _ (hR.set hD hk0) hP1 hD1 hS1 hL)
theorem z_ilen (C : zC p s m args meth c cc own nL Γ A) {a N : Nat} {f : Nat → Int32} (hG : G a = some (zI Γ N f)) (hd : decode cc pc = .ok (.arraylength, 1))
    (kk : Z p l e R s m args below meth c Q nL Γ A G k n (pc + 1) lv (.int (nI N) :: st)) : Z p l e R s m args below meth c Q nL Γ A G k n pc lv (.ref a :: st) := by
  intro H locs ls ws hR hP hD hS hL
  obtain ⟨k0, hk0⟩ := hR.mem hG
  exact va_alen C.1 C.2.1 C.2.2.2.2.2.1 hP k0 0 hk0 rfl rfl hd (kk H locs ls ws hR hP hD hS hL)
theorem z_olen (C : zC p s m args meth c cc own nL Γ A) {a N : Nat} {f : Nat → Option Nat} (hG : G a = some (zO Γ N f)) (hd : decode cc pc = .ok (.arraylength, 1))
    (kk : Z p l e R s m args below meth c Q nL Γ A G k n (pc + 1) lv (.int (nI N) :: st)) : Z p l e R s m args below meth c Q nL Γ A G k n pc lv (.ref a :: st) := by
  intro H locs ls ws hR hP hD hS hL
  obtain ⟨k0, hk0⟩ := hR.mem hG
  exact va_alen C.1 C.2.1 C.2.2.2.2.2.1 hP k0 1 hk0 rfl rfl hd (kk H locs ls ws hR hP hD hS hL)
/-- ArrayList's own empty array: its length, its reference -/
theorem z_elen (C : zC p s m args meth c cc own nL Γ A) (hd : decode cc pc = .ok (.arraylength, 1))
    (kk : Z p l e R s m args below meth c Q nL Γ A G k n (pc + 1) lv (.int 0 :: st)) : Z p l e R s m args below meth c Q nL Γ A G k n pc lv (.ref (Γ.2.2 0) :: st) :=
  fun H locs ls ws hR hP hD hS hL => va_tlen C.1 C.2.1 C.2.2.2.2.2.2.2.2.1.2.1 hS rfl hd (kk H locs ls ws hR hP hD hS hL)
theorem z_gete (C : zC p s m args meth c cc own nL Γ A) {ix : Nat} (hw : Cond.fieldLink own ix "java/util/ArrayList" "DEFAULTCAPACITY_EMPTY_ELEMENTDATA" "[Ljava/lang/Object;" ∈ lw_all) (hd : decode cc pc = .ok (.getstatic ix, 3))
    (kk : Z p l e R s m args below meth c Q nL Γ A G k n (pc + 3) lv (.ref (Γ.2.2 0) :: st)) : Z p l e R s m args below meth c Q nL Γ A G k n pc lv st :=
  fun H locs ls ws hR hP hD hS hL => va_gets C.1 C.2.1 C.2.2.2.2.2.2.2.2.1.1 hS C.2.2.2.1 (C.2.2.2.2.1 _ hw) (fun _ h => h) hd (kk H locs ls ws hR hP hD hS hL)
theorem z_getsteps (C : zC p s m args meth c cc own nL Γ A) {ix : Nat} (hw : Cond.fieldLink own ix "QuakeBench$Search" "FINER_STEPS" "[I" ∈ lw_all) (hd : decode cc pc = .ok (.getstatic ix, 3))
    (kk : Z p l e R s m args below meth c Q nL Γ A G k n (pc + 3) lv (.ref (Γ.2.2 1) :: st)) : Z p l e R s m args below meth c Q nL Γ A G k n pc lv st :=
  fun H locs ls ws hR hP hD hS hL => va_gets C.1 C.2.1 C.2.2.2.2.2.2.2.2.1.2.2.1 hS C.2.2.2.1 (C.2.2.2.2.1 _ hw) (fun _ h => h) hd (kk H locs ls ws hR hP hD hS hL)
theorem z_stepslen (C : zC p s m args meth c cc own nL Γ A) (hd : decode cc pc = .ok (.arraylength, 1))
    (kk : Z p l e R s m args below meth c Q nL Γ A G k n (pc + 1) lv (.int 4 :: st)) : Z p l e R s m args below meth c Q nL Γ A G k n pc lv (.ref (Γ.2.2 1) :: st) :=
  fun H locs ls ws hR hP hD hS hL => va_tlen C.1 C.2.1 C.2.2.2.2.2.2.2.2.1.2.2.2.1 hS rfl hd (kk H locs ls ws hR hP hD hS hL)
theorem z_stepsld (C : zC p s m args meth c cc own nL Γ A) {i v : Int32} (hi : vp_in i 4) (hv : (if i.toNatClampNeg = 0 then 10 else if i.toNatClampNeg = 1 then 5 else if i.toNatClampNeg = 2 then 2 else 1) = v) (hd : decode cc pc = .ok (.iaload, 1))
    (kk : Z p l e R s m args below meth c Q nL Γ A G k n (pc + 1) lv (.int v :: st)) : Z p l e R s m args below meth c Q nL Γ A G k n pc lv (.int i :: .ref (Γ.2.2 1) :: st) :=
  fun H locs ls ws hR hP hD hS hL => va_ti C.1 C.2.1 C.2.2.2.2.2.2.2.2.1.2.2.2.1 hS hi (congrArg Value.int hv) hd (kk H locs ls ws hR hP hD hS hL)
theorem z_new (C : zC p s m args meth c cc own nL Γ A) {Cn : String} {T : u_T} {ci ix N : Nat} {fs : List Value} (hw : ∀ w ∈ ([Cond.classLink own ix Cn, Cond.instantiable Cn N, Cond.initialized Cn] : List Cond), w ∈ lw_all) (hc : zCl[ci]? = some (Cn, T, N)) (ty : Nat → FieldType) (hty : ∀ q, q < N → parseFieldDescriptor (T q).2.2.1 = some (ty q)) (hfs : ∀ j, j < N → defaultValue (ty j) = vp_V fs j) (hk : k + 1 ≤ R.cells) (hn : n + N ≤ R.slots) (hd : decode cc pc = .ok (.new ix, 3))
    (kk : ∀ a, G a = none → Z p l e R s m args below meth c Q nL Γ A (zU G a (.inr (ci, fs))) (k + 1) (n + N) (pc + 3) lv (.ref a :: st)) : Z p l e R s m args below meth c Q nL Γ A G k n pc lv st :=
  fun H locs ls ws hR hP hD hS hL => va_new C.1 C.2.1 C.2.2.2.2.1 (zCl_in hc) ty hty C.2.2.2.1 (C.2.2.2.2.1 _ (hw _ (by simp))) (C.2.2.2.2.1 _ (hw _ (by simp))) (C.2.2.2.2.1 _ (hw _ (by simp))) C.2.2.2.2.2.1 hP hD hS C.2.2.2.2.2.2.2.1 hc hfs hk hn hd
    (fun a H1 hP1 hD1 hS1 => kk a (hR.fresh hD1) H1 locs ls _ (hR.push (hR.fresh hD1)) hP1 hD1 hS1 hL)
theorem z_newi (C : zC p s m args meth c cc own nL Γ A) {x : Int32} {N : Nat} (hw : Cond.arrayClass .int ∈ lw_all) (hx : ¬ x < 0) (hN : x.toNatClampNeg = N) (hb : N * 4 ≤ 536870912) (hk : k + 1 ≤ R.cells) (hn : n + N ≤ R.slots) (hd : decode cc pc = .ok (.newarray .int, 2))
    (kk : ∀ a, G a = none → Z p l e R s m args below meth c Q nL Γ A (zU G a (zI Γ N (fun _ => 0))) (k + 1) (n + N) (pc + 2) lv (.ref a :: st)) : Z p l e R s m args below meth c Q nL Γ A G k n pc lv (.int x :: st) := by
  intro H locs ls ws hR hP hD hS hL
  refine va_newa (atype := .int) (ty := .int) (a0 := (N, .inl (fun _ => 0))) C.1 C.2.1 (C.2.2.2.2.1 _ hw) rfl C.2.2.2.2.2.1 hP hD hS C.2.2.2.2.2.2.2.1 (fun _ => rfl) hx hN hb hk hn hd (fun a cA H1 hK1 hP1 hD1 hS1 => ?_)
  have e1 := (C.2.2.2.2.2.1.2 0 _ (rfl : (zT Γ.2.1)[0]? = some (Γ.2.1 0, .int))).2
  have e2 := (hK1.2 (zT Γ.2.1).length (cA, .int) (by rw [List.getElem?_append_right (Nat.le_refl _), Nat.sub_self]; rfl)).2
  have e3 : cA = Γ.2.1 0 := Option.some.inj ((show s.vm.findClass ("[" ++ FieldType.int.toString) = some cA from e2).symm.trans (show s.vm.findClass ("[" ++ FieldType.int.toString) = some (Γ.2.1 0) from e1))
  subst e3
  exact kk a (hR.fresh hD1) H1 locs ls _ (hR.push (hR.fresh hD1)) hP1 hD1 hS1 hL
theorem z_newo (C : zC p s m args meth c cc own nL Γ A) {x : Int32} {N ix : Nat} (hw : Cond.classLink own ix "java/lang/Object" ∈ lw_all) (hx : ¬ x < 0) (hN : x.toNatClampNeg = N) (hb : N * 4 ≤ 536870912) (hk : k + 1 ≤ R.cells) (hn : n + N ≤ R.slots) (hd : decode cc pc = .ok (.anewarray ix, 3))
    (kk : ∀ a, G a = none → Z p l e R s m args below meth c Q nL Γ A (zU G a (zO Γ N (fun _ => none))) (k + 1) (n + N) (pc + 3) lv (.ref a :: st)) : Z p l e R s m args below meth c Q nL Γ A G k n pc lv (.int x :: st) := by
  intro H locs ls ws hR hP hD hS hL
  refine va_newq C.1 C.2.1 C.2.2.2.1 (C.2.2.2.2.1 _ hw) C.2.2.2.2.2.2.2.2.2.2.2.1 C.2.2.2.2.2.1 hP hD hS C.2.2.2.2.2.2.2.1 hx hN hb hk hn hd (fun a cA H1 hK1 hP1 hD1 hS1 => ?_)
  obtain ⟨_, _, -, -, -, e1⟩ := (C.2.2.2.2.2.1.2 1 _ (rfl : (zT Γ.2.1)[1]? = some (Γ.2.1 1, .object "java/lang/Object"))).2
  obtain ⟨_, _, -, -, -, e2⟩ := (hK1.2 (zT Γ.2.1).length (cA, .object "java/lang/Object") (by rw [List.getElem?_append_right (Nat.le_refl _), Nat.sub_self]; rfl)).2
  have e3 : cA = Γ.2.1 1 := Option.some.inj (e2.symm.trans e1)
  subst e3
  exact kk a (hR.fresh hD1) H1 locs ls _ (hR.push (hR.fresh hD1)) hP1 hD1 hS1 hL
/-- behind a call -/
theorem z_back {H : Heap} {locs : List Loc} {ls : Array Slot} {st0 : List Value} {mc ms : Nat} {a : Array Value} {post : Option Value → zG → Prop} (hr : va_Run p l e R s m args below meth c H locs k n mc ms (F0 m pc ls st0) st ((zQ post Γ G H.size) a) (zA G H.size)) (hS : va_S A s.heap H locs) (hA : ∀ q, zA G H.size q → A q)
    (kk : ∀ (v : Option Value) (G' : zG) (H1 : Heap) (locs1 : List Loc) (ws' : va_W), post v G' → zR G' ws' → va_P Γ.1 zCl ws' H1 → va_D A ws' → va_S A s.heap H1 locs1 → W p l e R s m args below meth c H1 locs1 (k + mc) (n + ms) Q (F0 m (pc + 3) ls (v.toList ++ st))) : W p l e R s m args below meth c H locs k n Q (F0 m pc ls st0) := by
  intro T hT X
  obtain ⟨v, st₀, t, T', L, h0, X', hL, e1, e2, ⟨⟨v', G', ws', hv, hp, hR', hP', hD'⟩, hz, hk⟩, sp⟩ := hr T hT X
  cases hv
  rw [h0] at hz hk
  obtain ⟨t2, a1, b1⟩ := kk v G' T'.heap (locs ++ L) ws' hp hR' (by rw [e1]; exact hP') (hD'.weaken (fun _ q _ h => hA q.1 h))
    ⟨Nat.le_trans hS.1 (by rw [e1]; exact hz), fun q h1 h2 => by rw [e1, hk q (Nat.lt_of_lt_of_le h1 hS.1) (fun z => h2 (hA q z))]; exact hS.2.1 q h1 h2, fun q hq => by
      rcases List.mem_append.mp hq with h | h
      · exact hS.2.2 q h
      · exact hA _ (hL q h)⟩ T' rfl X'
  exact ⟨t2, sp t2 a1, b1⟩
theorem z_zA (C : zC p s m args meth c cc own nL Γ A) {H : Heap} {locs : List Loc} {ws : va_W} (hR : zR G ws) (hD : va_D A ws) (hS : va_S A s.heap H locs) : ∀ q, zA G H.size q → A q := by
  rintro q (⟨x, hx⟩ | h)
  · obtain ⟨k0, hk0⟩ := hR.mem hx
    exact hD.2 k0 _ hk0
  · exact C.2.2.2.2.2.2.2.1 q (Nat.le_trans hS.1 h)
theorem z_pre (C : zC p s m args meth c cc own nL Γ A) {H : Heap} {locs : List Loc} {ws : va_W} (hR : zR G ws) (hP : va_P Γ.1 zCl ws H) (hD : va_D A ws) (hS : va_S A s.heap H locs) {av : List Value} : ∀ U : State, U.heap = H → s.WarmedH U.vm → va_Pc av (zB Γ G H.size) av.toArray U :=
  fun U hU hW => ⟨rfl, by rw [hU], ⟨ws, hR, by rw [hU]; exact hP, hD.weaken (fun _ _ _ _ => trivial)⟩, va_K.moved hW.alike C.2.2.2.2.2.1, C.2.2.2.2.2.2.2.2.1.call hW.alike hS hU (z_zA C hR hD hS), zN.warm hW C.2.2.2.2.2.2.2.2.2⟩
theorem z_callV (C : zC p s m args meth c cc own nL Γ A) {y : MethodName} {cb : ByteArray} {mL ix b ci : Nat} {ret : Option FieldType} {rm : Room} {As : List Value} {post : Option Value → zG → Prop} {fs : List Value} {q : vw_C} {stk : List Value} (hM : ZM l y cb mL ret rm Γ (.ref b :: As) G post)
    (hw : ∀ w ∈ ([Cond.methodLink own ix y, Cond.instanceMethod y, Cond.selects q.1 y y, Cond.initialized q.1, Cond.code y cb mL ret] : List Cond), w ∈ lw_all) (hG : G b = some (.inr (ci, fs))) (hc : zCl[ci]? = some q) (hst : stk = As.reverse ++ .ref b :: st)
    {nA : Nat} (hA : As.length = nA) (hyq : y.cls = q.1) (hy : y.cls ≠ "java/lang/invoke/MethodHandle" ∧ y.cls ≠ "java/lang/invoke/VarHandle" ∧ (parseMethodDescriptor y.desc).map (fun d => d.parameters.length) = some nA) (hrm : rm.frames + 1 ≤ R.frames ∧ 8 + (mL + 11) + rm.locals ≤ R.locals) (hsum : (st.map fun v => v.category).sum ≤ 8) (hroom : k + rm.cells ≤ R.cells ∧ n + rm.slots ≤ R.slots) (hd : decode cc pc = .ok (.invokevirtual ix, 3))
    (kk : ∀ v G', post v G' → Z p l e R s m args below meth c Q nL Γ A G' (k + rm.cells) (n + rm.slots) (pc + 3) lv (v.toList ++ st)) : Z p l e R s m args below meth c Q nL Γ A G k n pc lv stk := by
  intro H locs ls ws hR hP hD hS hL
  obtain ⟨k0, hk0⟩ := hR.mem hG
  have g : GoodIn lw_all (wsV own ix q.1 y (zws y cb mL ret)) := by
    intro w h
    unfold wsV at h
    rcases List.mem_append.mp h with h | h
    · exact z_goods hw w (by simp only [List.mem_cons, List.not_mem_nil, or_false] at h ⊢; rcases h with h | h | h | h <;> simp [h])
    · rcases List.mem_cons.mp h with h | h
      · exact z_goods hw w (by simp [h])
      · exact z_good w h
  exact z_back (va_runV (As := As) (rest := st) ⟨C.1, C.2.1, C.2.2.1, C.2.2.2.1, C.2.2.2.2.1⟩ (hM H.size) (cwV nA C.2.2.2.2.1 g rfl rfl rfl ⟨hyq, hy⟩ hrm) ⟨zB.blind, va_recv C.2.2.2.2.2.1 hP hc hk0, z_pre C hR hP hD hS⟩ rfl hA hL.1 hst (lv_room hsum) hd hroom) hS (z_zA C hR hD hS)
    (fun v G' H1 locs1 ws' hp hR' hP' hD' hS' => kk v G' hp H1 locs1 ls ws' hR' hP' hD' hS' hL)
theorem z_callS (C : zC p s m args meth c cc own nL Γ A) {y : MethodName} {cb : ByteArray} {mL ix : Nat} {ret : Option FieldType} {rm : Room} {As : List Value} {post : Option Value → zG → Prop} {stk : List Value} (hM : ZM l y cb mL ret rm Γ As G post)
    (hw : ∀ w ∈ ([Cond.methodLink own ix y, Cond.static y, Cond.initialized y.cls, Cond.code y cb mL ret] : List Cond), w ∈ lw_all) (hst : stk = As.reverse ++ st)
    {nA : Nat} (hA : As.length = nA) (hy : y.cls ≠ "java/lang/invoke/MethodHandle" ∧ y.cls ≠ "java/lang/invoke/VarHandle" ∧ (parseMethodDescriptor y.desc).map (fun d => d.parameters.length) = some nA) (hrm : rm.frames + 1 ≤ R.frames ∧ 8 + (mL + 11) + rm.locals ≤ R.locals) (hsum : (st.map fun v => v.category).sum ≤ 8) (hroom : k + rm.cells ≤ R.cells ∧ n + rm.slots ≤ R.slots) (hd : decode cc pc = .ok (.invokestatic ix, 3))
    (kk : ∀ v G', post v G' → Z p l e R s m args below meth c Q nL Γ A G' (k + rm.cells) (n + rm.slots) (pc + 3) lv (v.toList ++ st)) : Z p l e R s m args below meth c Q nL Γ A G k n pc lv stk := by
  intro H locs ls ws hR hP hD hS hL
  have g : GoodIn lw_all (va_wsS own ix y (zws y cb mL ret)) := by
    intro w h
    unfold va_wsS at h
    rcases List.mem_append.mp h with h | h
    · exact z_goods hw w (by simp only [List.mem_cons, List.not_mem_nil, or_false] at h ⊢; rcases h with h | h | h <;> simp [h])
    · rcases List.mem_cons.mp h with h | h
      · exact z_goods hw w (by simp [h])
      · exact z_good w h
  exact z_back (va_runS (As := As) (rest := st) ⟨C.1, C.2.1, C.2.2.1, C.2.2.2.1, C.2.2.2.2.1⟩ (hM H.size) (va_cwS nA C.2.2.2.2.1 g rfl rfl rfl hy hrm) ⟨zB.blind, z_pre C hR hP hD hS⟩ rfl hA hL.1 hst (lv_room hsum) hd hroom) hS (z_zA C hR hD hS)
    (fun v G' H1 locs1 ws' hp hR' hP' hD' hS' => kk v G' hp H1 locs1 ls ws' hR' hP' hD' hS' hL)
theorem z_callI (C : zC p s m args meth c cc own nL Γ A) {y : MethodName} {cb : ByteArray} {mL ix b : Nat} {rm : Room} {As : List Value} {post : Option Value → zG → Prop} {stk : List Value} (hM : ZM l y cb mL none rm Γ (.ref b :: As) G post)
    (hw : ∀ w ∈ ([Cond.methodLink own ix y, Cond.instanceMethod y, Cond.initialized y.cls, Cond.code y cb mL none] : List Cond), w ∈ lw_all) (hst : stk = As.reverse ++ .ref b :: st) (hyi : y.name = "<init>")
    {nA : Nat} (hA : As.length = nA) (hy : y.cls ≠ "java/lang/invoke/MethodHandle" ∧ y.cls ≠ "java/lang/invoke/VarHandle" ∧ (parseMethodDescriptor y.desc).map (fun d => d.parameters.length) = some nA) (hrm : rm.frames + 1 ≤ R.frames ∧ 8 + (mL + 11) + rm.locals ≤ R.locals) (hsum : (st.map fun v => v.category).sum ≤ 8) (hroom : k + rm.cells ≤ R.cells ∧ n + rm.slots ≤ R.slots) (hd : decode cc pc = .ok (.invokespecial ix, 3))
    (kk : ∀ v G', post v G' → Z p l e R s m args below meth c Q nL Γ A G' (k + rm.cells) (n + rm.slots) (pc + 3) lv (v.toList ++ st)) : Z p l e R s m args below meth c Q nL Γ A G k n pc lv stk := by
  intro H locs ls ws hR hP hD hS hL
  have g : GoodIn lw_all (zws y cb mL none) := by
    intro w h
    rcases List.mem_cons.mp h with h | h
    · exact z_goods hw w (by simp [h])
    · exact z_good w h
  exact z_back (va_runI (As := As) (rest := st) ⟨C.1, C.2.1, C.2.2.1, C.2.2.2.1, C.2.2.2.2.1⟩ (hM H.size) (cwI nA C.2.2.2.2.1 g rfl rfl rfl (C.2.2.2.2.1 _ (hw _ (by simp))) (C.2.2.2.2.1 _ (hw _ (by simp))) (C.2.2.2.2.1 _ (hw _ (by simp))) hyi hy hrm) ⟨zB.blind, z_pre C hR hP hD hS⟩ rfl hA hL.1 hst (lv_room hsum) hd hroom) hS (z_zA C hR hD hS)
    (fun v G' H1 locs1 ws' hp hR' hP' hD' hS' => kk v G' hp H1 locs1 ls ws' hR' hP' hD' hS' hL)
theorem z_callIN (C : zC p s m args meth c cc own nL Γ A) {y : MethodName} {host : String} {cb : ByteArray} {mL ix b : Nat} {rm : Room} {As : List Value} {post : Option Value → zG → Prop} {stk : List Value} (hM : ZM l y cb mL none rm Γ (.ref b :: As) G post) (hwn : Cond.methodLinkNest own ix y host ∈ lw_nest)
    (hw : ∀ w ∈ ([Cond.instanceMethod y, Cond.initialized y.cls, Cond.code y cb mL none] : List Cond), w ∈ lw_all) (hst : stk = As.reverse ++ .ref b :: st) (hyi : y.name = "<init>")
    {nA : Nat} (hA : As.length = nA) (hy : y.cls ≠ "java/lang/invoke/MethodHandle" ∧ y.cls ≠ "java/lang/invoke/VarHandle" ∧ (parseMethodDescriptor y.desc).map (fun d => d.parameters.length) = some nA) (hrm : rm.frames + 1 ≤ R.frames ∧ 8 + (mL + 11) + rm.locals ≤ R.locals) (hsum : (st.map fun v => v.category).sum ≤ 8) (hroom : k + rm.cells ≤ R.cells ∧ n + rm.slots ≤ R.slots) (hd : decode cc pc = .ok (.invokespecial ix, 3))
    (kk : ∀ v G', post v G' → Z p l e R s m args below meth c Q nL Γ A G' (k + rm.cells) (n + rm.slots) (pc + 3) lv (v.toList ++ st)) : Z p l e R s m args below meth c Q nL Γ A G k n pc lv stk := by
  intro H locs ls ws hR hP hD hS hL
  have g : GoodIn lw_all (zws y cb mL none) := by
    intro w h
    rcases List.mem_cons.mp h with h | h
    · exact z_goods hw w (by simp [h])
    · exact z_good w h
  exact z_back (va_runIN (As := As) (rest := st) ⟨C.1, C.2.1, C.2.2.1, C.2.2.2.1, C.2.2.2.2.1⟩ (hM H.size) ⟨va_cnB nA C.2.2.2.2.1 g rfl rfl rfl (C.2.2.2.2.2.2.2.2.2.1 _ hwn) (C.2.2.2.2.1 _ (hw _ (by simp))) hy hrm, hyi, C.2.2.2.2.1 _ (hw _ (by simp))⟩ ⟨zB.blind, z_pre C hR hP hD hS⟩ rfl hA hL.1 hst (lv_room hsum) hd hroom) hS (z_zA C hR hD hS)
    (fun v G' H1 locs1 ws' hp hR' hP' hD' hS' => kk v G' hp H1 locs1 ls ws' hR' hP' hD' hS' hL)
/-- Object's constructor -/
theorem z_obj (C : zC p s m args meth c cc own nL Γ A) {ix a : Nat} (hw : ∀ w ∈ ([Cond.methodLink own ix objectInit, Cond.instanceMethod objectInit, Cond.code objectInit ⟨#[0xb1]⟩ 1 none] : List Cond), w ∈ lw_all) (hf : 1 ≤ R.frames) (hlo : (st.map fun v => v.category).sum + 12 ≤ R.locals) (hk : k ≤ R.cells) (hn : n ≤ R.slots) (hd : decode cc pc = .ok (.invokespecial ix, 3))
    (kk : Z p l e R s m args below meth c Q nL Γ A G k n (pc + 3) lv st) : Z p l e R s m args below meth c Q nL Γ A G k n pc lv (.ref a :: st) := by
  intro H locs ls ws hR hP hD hS hL
  exact W.objInit C.1 C.2.1 C.2.2.2.1 (C.2.2.2.2.1 _ (hw _ (by simp))) (C.2.2.2.2.1 _ (hw _ (by simp))) (C.2.2.2.2.1 _ (hw _ (by simp))) rfl (hL.1.trans C.2.2.1.symm) rfl hd hf (by show 2 * 0 + _ + 12 ≤ _; omega) (kk H locs ls ws hR hP hD hS hL)
theorem z_abs (C : zC p s m args meth c cc own nL Γ A) {ix : Nat} {x : Int32} (hw : ∀ w ∈ ([Cond.methodLink own ix Lib.Math.abs.name, Cond.static Lib.Math.abs.name, Cond.initialized "java/lang/Math", Cond.code Lib.Math.abs.name Lib.Math.abs.code 1 (some .int)] : List Cond), w ∈ lw_all) (hf : 1 ≤ R.frames) (hlo : (st.map fun v => v.category).sum + 13 ≤ R.locals) (hk : k ≤ R.cells) (hn : n ≤ R.slots) (hd : decode cc pc = .ok (.invokestatic ix, 3))
    (kk : Z p l e R s m args below meth c Q nL Γ A G k n (pc + 3) lv (.int (z_abs1 x) :: st)) : Z p l e R s m args below meth c Q nL Γ A G k n pc lv (.int x :: st) := by
  intro H locs ls ws hR hP hD hS hL
  exact va_mabs C.1 C.2.1 (C.2.2.1.trans hL.1.symm) C.2.2.2.1 (C.2.2.2.2.1 _ (hw _ (by simp))) (C.2.2.2.2.1 _ (hw _ (by simp))) (C.2.2.2.2.1 _ (hw _ (by simp))) (C.2.2.2.2.1 _ (hw _ (by simp))) hf hlo hk hn hd (kk H locs ls ws hR hP hD hS hL)
theorem z_max (C : zC p s m args meth c cc own nL Γ A) {ix : Nat} {x y : Int32} (hw : ∀ w ∈ ([Cond.methodLink own ix Lib.Math.max.name, Cond.static Lib.Math.max.name, Cond.initialized "java/lang/Math", Cond.code Lib.Math.max.name Lib.Math.max.code 2 (some .int)] : List Cond), w ∈ lw_all) (hf : 1 ≤ R.frames) (hlo : (st.map fun v => v.category).sum + 13 ≤ R.locals) (hk : k ≤ R.cells) (hn : n ≤ R.slots) (hd : decode cc pc = .ok (.invokestatic ix, 3))
    (kk : Z p l e R s m args below meth c Q nL Γ A G k n (pc + 3) lv (.int (if x < y then y else x) :: st)) : Z p l e R s m args below meth c Q nL Γ A G k n pc lv (.int y :: .int x :: st) := by
  intro H locs ls ws hR hP hD hS hL
  exact va_mmax C.1 C.2.1 (C.2.2.1.trans hL.1.symm) C.2.2.2.1 (C.2.2.2.2.1 _ (hw _ (by simp))) (C.2.2.2.2.1 _ (hw _ (by simp))) (C.2.2.2.2.1 _ (hw _ (by simp))) (C.2.2.2.2.1 _ (hw _ (by simp))) hf hlo hk hn hd (kk H locs ls ws hR hP hD hS hL)
theorem z_cast (C : zC p s m args meth c cc own nL Γ A) {ix a ci : Nat} {fs : List Value} {q : vw_C} (hw : Cond.classLink own ix q.1 ∈ lw_all) (hG : G a = some (.inr (ci, fs))) (hc : zCl[ci]? = some q) (hd : decode cc pc = .ok (.checkcast ix, 3))
    (kk : Z p l e R s m args below meth c Q nL Γ A G k n (pc + 3) lv (.ref a :: st)) : Z p l e R s m args below meth c Q nL Γ A G k n pc lv (.ref a :: st) := by
  intro H locs ls ws hR hP hD hS hL
  obtain ⟨k0, hk0⟩ := hR.mem hG
  exact va_castS C.1 C.2.1 C.2.2.2.1 (C.2.2.2.2.1 _ hw) (C.2.2.2.2.2.1.1 ci q hc).2 (va_recv C.2.2.2.2.2.1 hP hc hk0) hd (kk H locs ls ws hR hP hD hS hL)
theorem z_ldcw (C : zC p s m args meth c cc own nL Γ A) {ix : Nat} {v : Int32} (hw : Cond.constant own ix v ∈ lw_all) (hd : decode cc pc = .ok (.ldc_w ix, 3)) (kk : Z p l e R s m args below meth c Q nL Γ A G k n (pc + 3) lv (.int v :: st)) : Z p l e R s m args below meth c Q nL Γ A G k n pc lv st :=
  fun H locs ls ws hR hP hD hS hL => lv_ldcw C.1 C.2.1 C.2.2.2.1 (C.2.2.2.2.1 _ hw) hd (kk H locs ls ws hR hP hD hS hL)
theorem z_min (C : zC p s m args meth c cc own nL Γ A) {ix : Nat} {x y : Int32} (hw : ∀ w ∈ ([Cond.methodLink own ix Lib.Math.min.name, Cond.static Lib.Math.min.name, Cond.initialized "java/lang/Math", Cond.code Lib.Math.min.name Lib.Math.min.code 2 (some .int)] : List Cond), w ∈ lw_all) (hf : 1 ≤ R.frames) (hlo : (st.map fun v => v.category).sum + 13 ≤ R.locals) (hk : k ≤ R.cells) (hn : n ≤ R.slots) (hd : decode cc pc = .ok (.invokestatic ix, 3))
    (kk : Z p l e R s m args below meth c Q nL Γ A G k n (pc + 3) lv (.int (if y < x then y else x) :: st)) : Z p l e R s m args below meth c Q nL Γ A G k n pc lv (.int y :: .int x :: st) := by
  intro H locs ls ws hR hP hD hS hL
  exact va_mmin C.1 C.2.1 (C.2.2.1.trans hL.1.symm) C.2.2.2.1 (C.2.2.2.2.1 _ (hw _ (by simp))) (C.2.2.2.2.1 _ (hw _ (by simp))) (C.2.2.2.2.1 _ (hw _ (by simp))) (C.2.2.2.2.1 _ (hw _ (by simp))) hf hlo hk hn hd (kk H locs ls ws hR hP hD hS hL)
/-- getClass of an array of objects, and the class constant, are one object -/
theorem z_getC (C : zC p s m args meth c cc own nL Γ A) {ix a N mi : Nat} {f : Nat → Option Nat} (hG : G a = some (zO Γ N f)) (hM : va_Mi "[Ljava/lang/Object;" mi s)
    (hw : ∀ w ∈ ([Cond.methodLink own ix ⟨"java/lang/Object", "getClass", "()Ljava/lang/Class;"⟩, Cond.selects "[Ljava/lang/Object;" ⟨"java/lang/Object", "getClass", "()Ljava/lang/Class;"⟩ ⟨"java/lang/Object", "getClass", "()Ljava/lang/Class;"⟩, Cond.instanceMethod ⟨"java/lang/Object", "getClass", "()Ljava/lang/Class;"⟩, Cond.native ⟨"java/lang/Object", "getClass", "()Ljava/lang/Class;"⟩] : List Cond), w ∈ lw_all) (hf : 1 ≤ R.frames) (hlo : (st.map fun v => v.category).sum + 14 ≤ R.locals) (hd : decode cc pc = .ok (.invokevirtual ix, 3))
    (kk : Z p l e R s m args below meth c Q nL Γ A G k n (pc + 3) lv (.ref mi :: st)) : Z p l e R s m args below meth c Q nL Γ A G k n pc lv (.ref a :: st) := by
  intro H locs ls ws hR hP hD hS hL
  obtain ⟨k0, hk0⟩ := hR.mem hG
  exact va_getC C.1 C.2.1 (C.2.2.1.trans hL.1.symm) C.2.2.2.1 (C.2.2.2.2.1 _ (hw _ (by simp))) C.2.2.2.2.2.2.2.2.2.2.2.2.2.use (C.2.2.2.2.1 _ (hw _ (by simp))) (C.2.2.2.2.1 _ (hw _ (by simp))) (C.2.2.2.2.1 _ (hw _ (by simp))) hM
    ⟨_, hP k0 _ hk0, rfl, va_nmO (C.2.2.2.2.2.1.2 1 _ (rfl : (zT Γ.2.1)[1]? = some (Γ.2.1 1, .object "java/lang/Object"))).2 (by decide)⟩ hf hlo hd (kk H locs ls ws hR hP hD hS hL)
theorem z_ldcM (C : zC p s m args meth c cc own nL Γ A) {ix mi : Nat} (hM : va_Mi "[Ljava/lang/Object;" mi s) (hw : Cond.classLink own ix "[Ljava/lang/Object;" ∈ lw_all) (hd : decode cc pc = .ok (.ldc ix, 2)) (kk : Z p l e R s m args below meth c Q nL Γ A G k n (pc + 2) lv (.ref mi :: st)) : Z p l e R s m args below meth c Q nL Γ A G k n pc lv st :=
  fun H locs ls ws hR hP hD hS hL => va_ldcM C.1 C.2.1 C.2.2.2.1 (C.2.2.2.2.1 _ hw) hM hd (kk H locs ls ws hR hP hD hS hL)
theorem z_mi (C : zC p s m args meth c cc own nL Γ A) : va_Mi "[Ljava/lang/Object;" (Γ.2.2 2) s := C.2.2.2.2.2.2.2.2.2.2.2.2.1
theorem z_copy (C : zC p s m args meth c cc own nL Γ A) {ix a0 a n0 n1 : Nat} {f g : Nat → Option Nat} (h0 : G a0 = some (zO Γ n0 f)) (h1 : G a = some (zO Γ n1 g))
    (hw : ∀ w ∈ ([Cond.methodLink own ix arraycopyName, Cond.native arraycopyName, Cond.static arraycopyName, Cond.initialized "java/lang/System"] : List Cond), w ∈ lw_all) {sp dp x : Int32} (sp' dp' x' : Nat) (es : sp = nI sp') (ed : dp = nI dp') (ex : x = nI x') (hb : sp' < 2 ^ 31 ∧ dp' < 2 ^ 31 ∧ x' < 2 ^ 31) (h4 : sp' + x' ≤ n0) (h5 : dp' + x' ≤ n1)
    (hel : ∀ i : Nat, i < x' → ∀ y : Nat, f (sp' + i) = some y → ∃ (ci : Nat) (fs : List Value) (q : vw_C), G y = some (.inr (ci, fs)) ∧ zCl[ci]? = some q) (hf : 1 ≤ R.frames) (hlo : (st.map fun v => v.category).sum + (nativeFrameWords "java/lang/System" "arraycopy" 5 + 11) ≤ R.locals) (hd : decode cc pc = .ok (.invokestatic ix, 3))
    (kk : Z p l e R s m args below meth c Q nL Γ A (zU G a (zO Γ n1 (va_cpy f g sp' dp' x'))) k n (pc + 3) lv st) : Z p l e R s m args below meth c Q nL Γ A G k n pc lv (.int x :: .int dp :: .ref a :: .int sp :: .ref a0 :: st) := by
  intro H locs ls ws hR hP hD hS hL
  obtain ⟨k0, hk0⟩ := hR.mem h0
  obtain ⟨k1, hk1⟩ := hR.mem h1
  subst es ed ex
  obtain ⟨b1, b2, b3⟩ := hb
  refine va_copyM C.1 C.2.1 (C.2.2.1.trans hL.1.symm) C.2.2.2.1 (C.2.2.2.2.1 _ (hw _ (by simp))) (C.2.2.2.2.1 _ (hw _ (by simp))) (C.2.2.2.2.1 _ (hw _ (by simp))) (C.2.2.2.2.1 _ (hw _ (by simp))) C.2.2.2.2.2.1 hP hD hS k0 k1 1 1 hk0 hk1 rfl rfl (nI_pos b1) (nI_pos b2) (nI_pos b3) (by rw [nI_clamp b1, nI_clamp b3]; exact h4) (by rw [nI_clamp b2, nI_clamp b3]; exact h5) (fun i hi y hy => ?_) hf hlo hd (fun H1 locs1 hP1 hD1 hS1 => ?_)
  · rw [nI_clamp b3] at hi
    rw [nI_clamp b1] at hy
    obtain ⟨ci, fs, q, h6, h7⟩ := hel i hi y hy
    obtain ⟨k2, hk2⟩ := hR.mem h6
    exact va_rAny C.2.2.2.2.2.1 hP hk2 h7 (vb_asgC (C.2.2.2.2.2.2.2.2.2.1 _ (zCl_obj h7)))
  · rw [nI_clamp b1, nI_clamp b2, nI_clamp b3] at hP1 hD1
    exact kk H1 locs1 ls _ (hR.set hD hk1) hP1 hD1 hS1 hL
theorem z_callSN (C : zC p s m args meth c cc own nL Γ A) {y : MethodName} {host : String} {cb : ByteArray} {mL ix : Nat} {ret : Option FieldType} {rm : Room} {As : List Value} {post : Option Value → zG → Prop} {stk : List Value} (hM : ZM l y cb mL ret rm Γ As G post) (hwn : Cond.methodLinkNest own ix y host ∈ lw_nest)
    (hw : ∀ w ∈ ([Cond.static y, Cond.initialized y.cls, Cond.code y cb mL ret] : List Cond), w ∈ lw_all) (hst : stk = As.reverse ++ st)
    {nA : Nat} (hA : As.length = nA) (hy : y.cls ≠ "java/lang/invoke/MethodHandle" ∧ y.cls ≠ "java/lang/invoke/VarHandle" ∧ (parseMethodDescriptor y.desc).map (fun d => d.parameters.length) = some nA) (hrm : rm.frames + 1 ≤ R.frames ∧ 8 + (mL + 11) + rm.locals ≤ R.locals) (hsum : (st.map fun v => v.category).sum ≤ 8) (hroom : k + rm.cells ≤ R.cells ∧ n + rm.slots ≤ R.slots) (hd : decode cc pc = .ok (.invokestatic ix, 3))
    (kk : ∀ v G', post v G' → Z p l e R s m args below meth c Q nL Γ A G' (k + rm.cells) (n + rm.slots) (pc + 3) lv (v.toList ++ st)) : Z p l e R s m args below meth c Q nL Γ A G k n pc lv stk := by
  intro H locs ls ws hR hP hD hS hL
  have g : GoodIn lw_all (zws y cb mL ret) := by
    intro w h
    rcases List.mem_cons.mp h with h | h
    · exact z_goods hw w (by simp [h])
    · exact z_good w h
  exact z_back (va_runSN (As := As) (rest := st) ⟨C.1, C.2.1, C.2.2.1, C.2.2.2.1, C.2.2.2.2.1⟩ (hM H.size) ⟨va_cnB nA C.2.2.2.2.1 g rfl rfl rfl (C.2.2.2.2.2.2.2.2.2.1 _ hwn) (C.2.2.2.2.1 _ (hw _ (by simp))) hy hrm, C.2.2.2.2.1 _ (hw _ (by simp)), trivial⟩ ⟨zB.blind, z_pre C hR hP hD hS⟩ rfl hA hL.1 hst (lv_room hsum) hd hroom) hS (z_zA C hR hD hS)
    (fun v G' H1 locs1 ws' hp hR' hP' hD' hS' => kk v G' hp H1 locs1 ls ws' hR' hP' hD' hS' hL)
/-- the empty array is none of the world's cells -/
theorem z_et (C : zC p s m args meth c cc own nL Γ A) (kk : G (Γ.2.2 0) = none → Z p l e R s m args below meth c Q nL Γ A G k n pc lv st) : Z p l e R s m args below meth c Q nL Γ A G k n pc lv st := by
  intro H locs ls ws hR hP hD hS hL
  refine kk ?_ H locs ls ws hR hP hD hS hL
  cases hg : G (Γ.2.2 0) with
  | none => rfl
  | some x =>
    obtain ⟨k0, hk0⟩ := hR.mem hg
    exact absurd (hD.2 k0 _ hk0) C.2.2.2.2.2.2.2.2.1.2.1.out
theorem z_gen (kk : ∀ G1 : zG, (∀ q, G1 q = G q) → Z p l e R s m args below meth c Q nL Γ A G1 k n pc lv st) : Z p l e R s m args below meth c Q nL Γ A G k n pc lv st := kk G (fun _ => rfl)
end ZO
end
section
/-! OWN ROWS, fourth part: methods that return or throw, and the catching of what they throw -/
def zXC (px : String → zG → Prop) (Γ : zY) (G : zG) (sz : Nat) : String → State → State → Prop := fun E st t =>
  (∃ (G' : zG) (ws' : va_W), px E G' ∧ zR G' ws' ∧ va_P Γ.1 zCl ws' t.heap ∧ va_D (zA G sz) ws') ∧ va_F (zA G sz) st t
/-- a contract with throws -/
def ZX (l : Launch) (y : MethodName) (cb : ByteArray) (n : Nat) (ret : Option FieldType) (rm : Room) (Γ : zY) (av : List Value) (G : zG) (post : Option Value → zG → Prop) (px : String → zG → Prop) : Prop :=
  ∀ sz : Nat, vx_Met l y (zws y cb n ret) rm (va_Pc av (zB Γ G sz)) (zQ post Γ G sz) (zXC px Γ G sz) rm.cells rm.slots (zA G sz)
def zFX (post : Option Value → zG → Prop) (px : String → zG → Prop) (Γ : zY) (G0 : zG) (Q : State → Prop) (A : Nat → Prop) (below : List Frame) (args : Array Value) (s : State) (mc ms : Nat) : Prop :=
  Q = vx_MQ below (zQ post Γ G0 s.heap.size) (zXC px Γ G0 s.heap.size) args s mc ms (zA G0 s.heap.size) ∧ A = zA G0 s.heap.size
theorem z_startX {l : Launch} {y : MethodName} {cb : ByteArray} {n : Nat} {ret : Option FieldType} {rm : Room} {Γ : zY} {av : List Value} {G : zG} {post : Option Value → zG → Prop} {px : String → zG → Prop} (hy : plainName y.cls = true) (lv0 : List (Option Value)) (hlv : zp 0 lv0 = lv_args 0 av) (hlen : (lg_sl av).length ≤ n)
    (kk : ∀ (p : Program) (e : Env) (s : State) (m : MethodId) (args : Array Value) (below : List Frame) (meth : Method) (c : Code) (Q : State → Prop) (A : Nat → Prop), zC p s m args meth c cb y.cls n Γ A → zFX post px Γ G Q A below args s rm.cells rm.slots → (∀ x ∈ c.exceptionTable.toList, False) → meth.sig.returnType = ret → meth.name = y.name →
      Z p l e rm s m args below meth c Q n Γ A G 0 0 0 lv0 []) : ZX l y cb n ret rm Γ av G post px := by
  intro sz
  refine vx_ofW (cc := cb) (maxL := n) (ret := ret) hy rfl ?_
  intro p e s m args below meth c s₁ B hml ht hv
  obtain ⟨rfl, rfl, ⟨ws, hR, hP, hD⟩, hK, hE, hN⟩ := hv
  have hts := atoms_spec (ws := zws y cb n ret) B.pre
  have hl := lv_entry av (n := n) hlen
  rw [lg_entry_eq]
  generalize (lg_sl av ++ List.replicate (n - (lg_sl av).length) Slot.unset).toArray = ls at hl ⊢
  exact kk p e s m av.toArray below meth c _ (zA G s.heap.size) ⟨B.exec, B.bytes, hml, findClass_of_methodNamed B.named, fun w h => hts w (List.mem_cons_of_mem _ h), hK, B.notSynchronized, fun q h => Or.inr h, hE, hN⟩ ⟨rfl, rfl⟩ ht B.returns (name_of_methodNamed B.named B.method).1
    s.heap [] ls ws hR hP (hD.weaken (fun k q hk _ => Or.inl ⟨q.2, (hR q.1 q.2).mpr (List.mem_of_getElem? hk)⟩)) va_S.rf (by unfold zL; rw [hlv]; exact hl)
section ZXX
variable {p : Program} {l : Launch} {e : Env} {R : Room} {s : State} {m : MethodId} {args : Array Value} {below : List Frame} {meth : Method} {c : Code} {Q : State → Prop} {A : Nat → Prop} {nL : Nat} {Γ : zY} {G G0 : zG} {k n pc mc ms : Nat} {lv : List (Option Value)} {st : List Value} {cc : ByteArray} {own : String} {post : Option Value → zG → Prop} {px : String → zG → Prop}
/-- from here on it returns -/
theorem z_x (F : zFX post px Γ G0 Q A below args s mc ms) (kk : ∀ Q', zF post Γ G0 Q' A below args s mc ms → Z p l e R s m args below meth c Q' nL Γ A G k n pc lv st) : Z p l e R s m args below meth c Q nL Γ A G k n pc lv st := by
  obtain ⟨rfl, rfl⟩ := F
  exact fun H locs ls ws hR hP hD hS hL => vx_ret (kk _ ⟨rfl, rfl⟩ H locs ls ws hR hP hD hS hL)
/-- the words of a throw -/
def zThrow (own cls text : String) (names : List String) (ik is ic : Nat) : Prop :=
  Bundle.fit cls = true ∧ (∀ n ∈ names, Bundle.fit n = true) ∧ (∀ w ∈ Cond.classLink own ik cls :: Cond.initialized cls :: vx_atS own ic cls names, vx_ot w = true) ∧ (own, is, text) ∈ lw_strs ∧
  (∀ w ∈ (Cond.classLink own ik cls :: Cond.initialized cls :: vx_atS own ic cls names).filter goodWord, w ∈ lw_all) ∧ (∀ w ∈ (Cond.classLink own ik cls :: Cond.initialized cls :: vx_atS own ic cls names).filter (fun w => !goodWord w), w ∈ lw_nest)
theorem z_throw (C : zC p s m args meth c cc own nL Γ A) (F : zFX post px Γ G0 Q A below args s mc ms) (hT : ∀ x ∈ c.exceptionTable.toList, False) (hl : l.stackTraces = false) {cls text : String} {names : List String} {ik is ic : Nat} (hw : zThrow own cls text names ik is ic)
    (d0 : decode cc pc = .ok (.new ik, 3)) (d3 : decode cc (pc + 3) = .ok (.dup, 1)) (d4 : decode cc (pc + 4) = .ok (.ldc is, 2)) (d6 : decode cc (pc + 6) = .ok (.invokespecial ic, 3)) (d9 : decode cc (pc + 9) = .ok (.athrow, 1))
    (hfr : names.length + 3 < R.frames) (hlo : (st.map fun v => v.category).sum + (13 * (names.length + 1) + 43) ≤ R.locals) (hk : k + 1 ≤ R.cells) (hn : n + 6 ≤ R.slots) (hc : k + 1 ≤ mc) (hs : n + 6 ≤ ms) (hp : px cls G) :
    Z p l e R s m args below meth c Q nL Γ A G k n pc lv st := by
  obtain ⟨rfl, rfl⟩ := F
  obtain ⟨w1, w2, w3, w4, w5, w6⟩ := hw
  intro H locs ls ws hR hP hD hS hL
  obtain ⟨sa, hsa⟩ := C.2.2.2.2.2.2.2.2.2.2.1 _ w4
  have hall : ∀ w ∈ Cond.classLink own ik cls :: Cond.initialized cls :: vx_atS own ic cls names, w.before args s = true := by
    intro w hw
    by_cases g : goodWord w = true
    · exact C.2.2.2.2.1 _ (w5 w (List.mem_filter.mpr ⟨hw, g⟩))
    · have h1 := w6 w (List.mem_filter.mpr ⟨hw, by simpa using g⟩)
      have h2 := lw_nest_ok w h1
      have h3 := C.2.2.2.2.2.2.2.2.2.1 w h1
      cases w <;> first | exact va_Nw.use rfl h3 | (cases h2; done)
  refine vx_throwS C.1 C.2.1 hl C.2.2.2.1 w1 w2 (hall _ List.mem_cons_self) (hall _ (List.mem_cons_of_mem _ List.mem_cons_self)) hsa (fun w h => hall w (List.mem_cons_of_mem _ (List.mem_cons_of_mem _ h))) w3
    C.2.2.2.2.2.2.2.2.1.2.2.2.2.1 C.2.2.2.2.2.2.2.2.1.2.2.2.2.2 hS (hL.1.trans C.2.2.1.symm) d0 d3 d4 d6 d9 (fun x hx => (hT x hx).elim) hfr hlo hk hn C.2.2.2.2.2.2.1 ?_ hS.2.2 hc hs
  intro t hA hz hkp
  refine ⟨⟨G, ws, hp, hR, hP.kept (fun k0 q0 hk0 => hkp q0.1 (hP k0 q0 hk0).lt), hD⟩, Nat.le_trans hS.1 hz, fun q h1 h2 => ?_⟩
  rw [hkp q (Nat.lt_of_lt_of_le h1 hS.1)]
  exact hS.2.1 q h1 h2
/-- an exception of the class E stands over this frame, at pc -/
def ZT (p : Program) (l : Launch) (e : Env) (R : Room) (s : State) (m : MethodId) (args : Array Value) (below : List Frame) (meth : Method) (c : Code) (Q : State → Prop) (nL : Nat) (Γ : zY) (A : Nat → Prop) (G : zG) (k n pc : Nat) (lv : List (Option Value)) (st : List Value) (E : String) : Prop :=
  ∀ (H : Heap) (locs : List Loc) (ls : Array Slot) (ws : va_W) (q : Addr) (ce : Cell), zR G ws → va_P Γ.1 zCl ws H → va_D A ws → va_S A s.heap H locs → zL ls nL lv → H[q]? = some ce → ce.vm = .none → s.vm.findClass E = some ce.cls → vx_W p l e R s m args below meth c H locs k n Q (F0 m pc ls st) q
theorem z_out (C : zC p s m args meth c cc own nL Γ A) (F : zFX post px Γ G0 Q A below args s mc ms) (hT : ∀ x ∈ c.exceptionTable.toList, False) {E : String} (hk : k ≤ mc) (hn : n ≤ ms) (hp : px E G) : ZT p l e R s m args below meth c Q nL Γ A G k n pc lv st E := by
  obtain ⟨rfl, rfl⟩ := F
  intro H locs ls ws q ce hR hP hD hS hL hq hv hcl
  exact vx_out (fun x hx => (hT x hx).elim) C.2.2.2.2.2.2.1 hq hv hcl (fun t ht _ => ⟨⟨G, ws, hp, hR, by rw [ht]; exact hP, hD⟩, hS.F ht⟩) hS.2.2 hk hn
/-- behind a call that returns or throws -/
theorem z_backX {H : Heap} {locs : List Loc} {ls : Array Slot} {st0 : List Value} {mc ms : Nat} {a : Array Value} {post : Option Value → zG → Prop} {px : String → zG → Prop} (hr : vx_Run p l e R s m args below meth c H locs k n mc ms (F0 m pc ls st0) st ((zQ post Γ G H.size) a) (zXC px Γ G H.size) (zA G H.size)) (hS : va_S A s.heap H locs) (hA : ∀ q, zA G H.size q → A q)
    (kx : ∀ (E : String) (G' : zG) (H1 : Heap) (locs1 : List Loc) (ws' : va_W) (q : Addr) (ce : Cell), px E G' → zR G' ws' → va_P Γ.1 zCl ws' H1 → va_D A ws' → va_S A s.heap H1 locs1 → H1[q]? = some ce → ce.vm = .none → s.vm.findClass E = some ce.cls → vx_W p l e R s m args below meth c H1 locs1 (k + mc) (n + ms) Q (F0 m pc ls st) q)
    (kk : ∀ (v : Option Value) (G' : zG) (H1 : Heap) (locs1 : List Loc) (ws' : va_W), post v G' → zR G' ws' → va_P Γ.1 zCl ws' H1 → va_D A ws' → va_S A s.heap H1 locs1 → W p l e R s m args below meth c H1 locs1 (k + mc) (n + ms) Q (F0 m (pc + 3) ls (v.toList ++ st))) : W p l e R s m args below meth c H locs k n Q (F0 m pc ls st0) := by
  intro T hT X
  rcases hr T hT X with ⟨v, st₀, t, T', L, h0, X', hL, e1, e2, ⟨⟨v', G', ws', hv, hp, hR', hP', hD'⟩, hz, hk⟩, sp⟩ | ⟨q, st₀, t, T', L, E, ce, h0, X', hL, e1, e2, ⟨⟨G', ws', hp, hR', hP', hD'⟩, hz, hk⟩, hce, hcv, hcl, sp⟩
  · cases hv
    rw [h0] at hz hk
    obtain ⟨t2, a1, b1⟩ := kk v G' T'.heap (locs ++ L) ws' hp hR' (by rw [e1]; exact hP') (hD'.weaken (fun _ q _ h => hA q.1 h))
      ⟨Nat.le_trans hS.1 (by rw [e1]; exact hz), fun q h1 h2 => by rw [e1, hk q (Nat.lt_of_lt_of_le h1 hS.1) (fun z => h2 (hA q z))]; exact hS.2.1 q h1 h2, fun q hq => by
        rcases List.mem_append.mp hq with h | h
        · exact hS.2.2 q h
        · exact hA _ (hL q h)⟩ T' rfl X'
    exact ⟨t2, sp t2 a1, b1⟩
  · rw [h0] at hz hk
    obtain ⟨t2, a1, b1⟩ := kx E G' T'.heap (locs ++ L) ws' q ce hp hR' (by rw [e1]; exact hP') (hD'.weaken (fun _ q _ h => hA q.1 h))
      ⟨Nat.le_trans hS.1 (by rw [e1]; exact hz), fun q h1 h2 => by rw [e1, hk q (Nat.lt_of_lt_of_le h1 hS.1) (fun z => h2 (hA q z))]; exact hS.2.1 q h1 h2, fun q hq => by
        rcases List.mem_append.mp hq with h | h
        · exact hS.2.2 q h
        · exact hA _ (hL q h)⟩ (by rw [e1]; exact hce) hcv hcl T' rfl X'
    exact ⟨t2, sp.trans a1, b1⟩
theorem z_callVX (C : zC p s m args meth c cc own nL Γ A) {y : MethodName} {cb : ByteArray} {mL ix b ci : Nat} {ret : Option FieldType} {rm : Room} {As : List Value} {post : Option Value → zG → Prop} {px : String → zG → Prop} {fs : List Value} {q : vw_C} {stk : List Value} (hM : ZX l y cb mL ret rm Γ (.ref b :: As) G post px)
    (hw : ∀ w ∈ ([Cond.methodLink own ix y, Cond.instanceMethod y, Cond.selects q.1 y y, Cond.initialized q.1, Cond.code y cb mL ret] : List Cond), w ∈ lw_all) (hG : G b = some (.inr (ci, fs))) (hc : zCl[ci]? = some q) (hst : stk = As.reverse ++ .ref b :: st)
    {nA : Nat} (hA : As.length = nA) (hyq : y.cls = q.1) (hy : y.cls ≠ "java/lang/invoke/MethodHandle" ∧ y.cls ≠ "java/lang/invoke/VarHandle" ∧ (parseMethodDescriptor y.desc).map (fun d => d.parameters.length) = some nA) (hrm : rm.frames + 1 ≤ R.frames ∧ 8 + (mL + 11) + rm.locals ≤ R.locals) (hsum : (st.map fun v => v.category).sum ≤ 8) (hroom : k + rm.cells ≤ R.cells ∧ n + rm.slots ≤ R.slots) (hd : decode cc pc = .ok (.invokevirtual ix, 3))
    (kx : ∀ E G', px E G' → ZT p l e R s m args below meth c Q nL Γ A G' (k + rm.cells) (n + rm.slots) pc lv st E)
    (kk : ∀ v G', post v G' → Z p l e R s m args below meth c Q nL Γ A G' (k + rm.cells) (n + rm.slots) (pc + 3) lv (v.toList ++ st)) : Z p l e R s m args below meth c Q nL Γ A G k n pc lv stk := by
  intro H locs ls ws hR hP hD hS hL
  obtain ⟨k0, hk0⟩ := hR.mem hG
  have g : GoodIn lw_all (wsV own ix q.1 y (zws y cb mL ret)) := by
    intro w h
    unfold wsV at h
    rcases List.mem_append.mp h with h | h
    · exact z_goods hw w (by simp only [List.mem_cons, List.not_mem_nil, or_false] at h ⊢; rcases h with h | h | h | h <;> simp [h])
    · rcases List.mem_cons.mp h with h | h
      · exact z_goods hw w (by simp [h])
      · exact z_good w h
  exact z_backX (vx_runV (As := As) (rest := st) ⟨C.1, C.2.1, C.2.2.1, C.2.2.2.1, C.2.2.2.2.1⟩ (hM H.size) (cwV nA C.2.2.2.2.1 g rfl rfl rfl ⟨hyq, hy⟩ hrm) ⟨zB.blind, va_recv C.2.2.2.2.2.1 hP hc hk0, z_pre C hR hP hD hS⟩ rfl hA hL.1 hst (lv_room hsum) hd hroom) hS (z_zA C hR hD hS)
    (fun E G' H1 locs1 ws' q' ce hp hR' hP' hD' hS' hq hv hcl => kx E G' hp H1 locs1 ls ws' q' ce hR' hP' hD' hS' hL hq hv hcl)
    (fun v G' H1 locs1 ws' hp hR' hP' hD' hS' => kk v G' hp H1 locs1 ls ws' hR' hP' hD' hS' hL)
theorem z_callSX (C : zC p s m args meth c cc own nL Γ A) {y : MethodName} {cb : ByteArray} {mL ix : Nat} {ret : Option FieldType} {rm : Room} {As : List Value} {post : Option Value → zG → Prop} {px : String → zG → Prop} {stk : List Value} (hM : ZX l y cb mL ret rm Γ As G post px)
    (hw : ∀ w ∈ ([Cond.methodLink own ix y, Cond.static y, Cond.initialized y.cls, Cond.code y cb mL ret] : List Cond), w ∈ lw_all) (hst : stk = As.reverse ++ st)
    {nA : Nat} (hA : As.length = nA) (hy : y.cls ≠ "java/lang/invoke/MethodHandle" ∧ y.cls ≠ "java/lang/invoke/VarHandle" ∧ (parseMethodDescriptor y.desc).map (fun d => d.parameters.length) = some nA) (hrm : rm.frames + 1 ≤ R.frames ∧ 8 + (mL + 11) + rm.locals ≤ R.locals) (hsum : (st.map fun v => v.category).sum ≤ 8) (hroom : k + rm.cells ≤ R.cells ∧ n + rm.slots ≤ R.slots) (hd : decode cc pc = .ok (.invokestatic ix, 3))
    (kx : ∀ E G', px E G' → ZT p l e R s m args below meth c Q nL Γ A G' (k + rm.cells) (n + rm.slots) pc lv st E)
    (kk : ∀ v G', post v G' → Z p l e R s m args below meth c Q nL Γ A G' (k + rm.cells) (n + rm.slots) (pc + 3) lv (v.toList ++ st)) : Z p l e R s m args below meth c Q nL Γ A G k n pc lv stk := by
  intro H locs ls ws hR hP hD hS hL
  have g : GoodIn lw_all (va_wsS own ix y (zws y cb mL ret)) := by
    intro w h
    unfold va_wsS at h
    rcases List.mem_append.mp h with h | h
    · exact z_goods hw w (by simp only [List.mem_cons, List.not_mem_nil, or_false] at h ⊢; rcases h with h | h | h <;> simp [h])
    · rcases List.mem_cons.mp h with h | h
      · exact z_goods hw w (by simp [h])
      · exact z_good w h
  exact z_backX (vx_runS (As := As) (rest := st) ⟨C.1, C.2.1, C.2.2.1, C.2.2.2.1, C.2.2.2.2.1⟩ (hM H.size) (va_cwS nA C.2.2.2.2.1 g rfl rfl rfl hy hrm) ⟨zB.blind, z_pre C hR hP hD hS⟩ rfl hA hL.1 hst (lv_room hsum) hd hroom) hS (z_zA C hR hD hS)
    (fun E G' H1 locs1 ws' q' ce hp hR' hP' hD' hS' hq hv hcl => kx E G' hp H1 locs1 ls ws' q' ce hR' hP' hD' hS' hL hq hv hcl)
    (fun v G' H1 locs1 ws' hp hR' hP' hD' hS' => kk v G' hp H1 locs1 ls ws' hR' hP' hD' hS' hL)
end ZXX
theorem zt_iae : zThrow "QuakeBench" "java/lang/IllegalArgumentException" "x or y is outside" ["java/lang/RuntimeException", "java/lang/Exception"] 55 57 59 := by
  refine ⟨by decide +kernel, by decide +kernel, by decide +kernel, by decide +kernel, by decide +kernel, by decide +kernel⟩
end
