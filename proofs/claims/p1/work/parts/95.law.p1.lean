theorem ky_L_addStation : yL_addStation.cls ≠ "java/lang/invoke/MethodHandle" ∧ yL_addStation.cls ≠ "java/lang/invoke/VarHandle" ∧ (parseMethodDescriptor yL_addStation.desc).map (fun d => d.parameters.length) = some 4 := by decide +kernel
theorem kc_L_law_174 : ∀ w ∈ ([Cond.methodLink "QuakeBenchLaw" 98 yL_addStation, Cond.static yL_addStation, Cond.initialized "QuakeBenchLaw", Cond.codeWith yL_addStation method_3_code 5 (Option.some Jvm.ClassFile.FieldType.int) [((0 : Nat), (10 : Nat), (13 : Nat), (13 : Nat)), ((0 : Nat), (10 : Nat), (17 : Nat), (15 : Nat))]] : List Cond), w ∈ lw_all := zin [819, 820, 53, 821] (by decide +kernel)
theorem ky_X7_addStation : yX7_addStation.cls ≠ "java/lang/invoke/MethodHandle" ∧ yX7_addStation.cls ≠ "java/lang/invoke/VarHandle" ∧ (parseMethodDescriptor yX7_addStation.desc).map (fun d => d.parameters.length) = some 2 := by decide +kernel
theorem kc_L_law_192 : ∀ w ∈ ([Cond.methodLink "QuakeBenchLaw" 103 yX7_addStation, Cond.instanceMethod yX7_addStation, Cond.selects "QuakeBenchModel" yX7_addStation yX7_addStation, Cond.initialized "QuakeBenchModel", Cond.code yX7_addStation prog_9_method_9_code 3 (Option.some Jvm.ClassFile.FieldType.int)] : List Cond), w ∈ lw_all := zin [1231, 1232, 1233, 61, 1234] (by decide +kernel)
theorem ky_X7_thrown : yX7_thrown.cls ≠ "java/lang/invoke/MethodHandle" ∧ yX7_thrown.cls ≠ "java/lang/invoke/VarHandle" ∧ (parseMethodDescriptor yX7_thrown.desc).map (fun d => d.parameters.length) = some 0 := by decide +kernel
theorem kc_L_law_198 : ∀ w ∈ ([Cond.methodLink "QuakeBenchLaw" 104 yX7_thrown, Cond.instanceMethod yX7_thrown, Cond.selects "QuakeBenchModel" yX7_thrown yX7_thrown, Cond.initialized "QuakeBenchModel", Cond.code yX7_thrown prog_9_method_2_code 1 (Option.some Jvm.ClassFile.FieldType.int)] : List Cond), w ∈ lw_all := zin [1227, 1228, 1229, 61, 1230] (by decide +kernel)
theorem ky_L_setDelay : yL_setDelay.cls ≠ "java/lang/invoke/MethodHandle" ∧ yL_setDelay.cls ≠ "java/lang/invoke/VarHandle" ∧ (parseMethodDescriptor yL_setDelay.desc).map (fun d => d.parameters.length) = some 4 := by decide +kernel
theorem kc_L_law_242 : ∀ w ∈ ([Cond.methodLink "QuakeBenchLaw" 107 yL_setDelay, Cond.static yL_setDelay, Cond.initialized "QuakeBenchLaw", Cond.codeWith yL_setDelay method_4_code 5 (Option.some Jvm.ClassFile.FieldType.int) [((0 : Nat), (10 : Nat), (13 : Nat), (20 : Nat)), ((0 : Nat), (10 : Nat), (17 : Nat), (13 : Nat))]] : List Cond), w ∈ lw_all := zin [871, 872, 53, 873] (by decide +kernel)
theorem ky_X7_setDelay : yX7_setDelay.cls ≠ "java/lang/invoke/MethodHandle" ∧ yX7_setDelay.cls ≠ "java/lang/invoke/VarHandle" ∧ (parseMethodDescriptor yX7_setDelay.desc).map (fun d => d.parameters.length) = some 2 := by decide +kernel
theorem kc_L_law_260 : ∀ w ∈ ([Cond.methodLink "QuakeBenchLaw" 109 yX7_setDelay, Cond.instanceMethod yX7_setDelay, Cond.selects "QuakeBenchModel" yX7_setDelay yX7_setDelay, Cond.initialized "QuakeBenchModel", Cond.code yX7_setDelay prog_9_method_10_code 5 (Option.some Jvm.ClassFile.FieldType.int)] : List Cond), w ∈ lw_all := zin [1242, 1243, 1244, 61, 1245] (by decide +kernel)
theorem kc_L_law_266 : ∀ w ∈ ([Cond.methodLink "QuakeBenchLaw" 104 yX7_thrown, Cond.instanceMethod yX7_thrown, Cond.selects "QuakeBenchModel" yX7_thrown yX7_thrown, Cond.initialized "QuakeBenchModel", Cond.code yX7_thrown prog_9_method_2_code 1 (Option.some Jvm.ClassFile.FieldType.int)] : List Cond), w ∈ lw_all := zin [1227, 1228, 1229, 61, 1230] (by decide +kernel)
theorem ky_L_setSpeeds : yL_setSpeeds.cls ≠ "java/lang/invoke/MethodHandle" ∧ yL_setSpeeds.cls ≠ "java/lang/invoke/VarHandle" ∧ (parseMethodDescriptor yL_setSpeeds.desc).map (fun d => d.parameters.length) = some 4 := by decide +kernel
theorem kc_L_law_310 : ∀ w ∈ ([Cond.methodLink "QuakeBenchLaw" 110 yL_setSpeeds, Cond.static yL_setSpeeds, Cond.initialized "QuakeBenchLaw", Cond.codeWith yL_setSpeeds method_5_code 5 (Option.some Jvm.ClassFile.FieldType.int) [((0 : Nat), (10 : Nat), (13 : Nat), (13 : Nat))]] : List Cond), w ∈ lw_all := zin [891, 892, 53, 893] (by decide +kernel)
theorem ky_X7_setSpeeds : yX7_setSpeeds.cls ≠ "java/lang/invoke/MethodHandle" ∧ yX7_setSpeeds.cls ≠ "java/lang/invoke/VarHandle" ∧ (parseMethodDescriptor yX7_setSpeeds.desc).map (fun d => d.parameters.length) = some 2 := by decide +kernel
theorem kc_L_law_328 : ∀ w ∈ ([Cond.methodLink "QuakeBenchLaw" 112 yX7_setSpeeds, Cond.instanceMethod yX7_setSpeeds, Cond.selects "QuakeBenchModel" yX7_setSpeeds yX7_setSpeeds, Cond.initialized "QuakeBenchModel", Cond.code yX7_setSpeeds prog_9_method_11_code 4 (Option.some Jvm.ClassFile.FieldType.int)] : List Cond), w ∈ lw_all := zin [1250, 1251, 1252, 61, 1253] (by decide +kernel)
theorem kc_L_law_334 : ∀ w ∈ ([Cond.methodLink "QuakeBenchLaw" 104 yX7_thrown, Cond.instanceMethod yX7_thrown, Cond.selects "QuakeBenchModel" yX7_thrown yX7_thrown, Cond.initialized "QuakeBenchModel", Cond.code yX7_thrown prog_9_method_2_code 1 (Option.some Jvm.ClassFile.FieldType.int)] : List Cond), w ∈ lw_all := zin [1227, 1228, 1229, 61, 1230] (by decide +kernel)
theorem ky_L_way : yL_way.cls ≠ "java/lang/invoke/MethodHandle" ∧ yL_way.cls ≠ "java/lang/invoke/VarHandle" ∧ (parseMethodDescriptor yL_way.desc).map (fun d => d.parameters.length) = some 6 := by decide +kernel
theorem kc_L_law_390 : ∀ w ∈ ([Cond.methodLink "QuakeBenchLaw" 113 yL_way, Cond.static yL_way, Cond.initialized "QuakeBenchLaw", Cond.codeWith yL_way method_6_code 7 (Option.some Jvm.ClassFile.FieldType.int) [((0 : Nat), (14 : Nat), (17 : Nat), (20 : Nat)), ((0 : Nat), (14 : Nat), (21 : Nat), (13 : Nat))]] : List Cond), w ∈ lw_all := zin [900, 901, 53, 902] (by decide +kernel)
theorem ky_X7_way : yX7_way.cls ≠ "java/lang/invoke/MethodHandle" ∧ yX7_way.cls ≠ "java/lang/invoke/VarHandle" ∧ (parseMethodDescriptor yX7_way.desc).map (fun d => d.parameters.length) = some 4 := by decide +kernel
theorem kc_L_law_420 : ∀ w ∈ ([Cond.methodLink "QuakeBenchLaw" 116 yX7_way, Cond.instanceMethod yX7_way, Cond.selects "QuakeBenchModel" yX7_way yX7_way, Cond.initialized "QuakeBenchModel", Cond.code yX7_way prog_9_method_14_code 5 (Option.some Jvm.ClassFile.FieldType.int)] : List Cond), w ∈ lw_all := zin [1254, 1255, 1256, 61, 1257] (by decide +kernel)
theorem kc_L_law_426 : ∀ w ∈ ([Cond.methodLink "QuakeBenchLaw" 104 yX7_thrown, Cond.instanceMethod yX7_thrown, Cond.selects "QuakeBenchModel" yX7_thrown yX7_thrown, Cond.initialized "QuakeBenchModel", Cond.code yX7_thrown prog_9_method_2_code 1 (Option.some Jvm.ClassFile.FieldType.int)] : List Cond), w ∈ lw_all := zin [1227, 1228, 1229, 61, 1230] (by decide +kernel)
theorem ky_L_needs : yL_needs.cls ≠ "java/lang/invoke/MethodHandle" ∧ yL_needs.cls ≠ "java/lang/invoke/VarHandle" ∧ (parseMethodDescriptor yL_needs.desc).map (fun d => d.parameters.length) = some 7 := by decide +kernel
theorem kc_L_law_496 : ∀ w ∈ ([Cond.methodLink "QuakeBenchLaw" 117 yL_needs, Cond.static yL_needs, Cond.initialized "QuakeBenchLaw", Cond.codeWith yL_needs method_7_code 8 (Option.some Jvm.ClassFile.FieldType.int) [((0 : Nat), (16 : Nat), (19 : Nat), (20 : Nat)), ((0 : Nat), (16 : Nat), (23 : Nat), (13 : Nat))]] : List Cond), w ∈ lw_all := zin [911, 912, 53, 913] (by decide +kernel)
theorem ky_X7_needs : yX7_needs.cls ≠ "java/lang/invoke/MethodHandle" ∧ yX7_needs.cls ≠ "java/lang/invoke/VarHandle" ∧ (parseMethodDescriptor yX7_needs.desc).map (fun d => d.parameters.length) = some 5 := by decide +kernel
theorem kc_L_law_540 : ∀ w ∈ ([Cond.methodLink "QuakeBenchLaw" 120 yX7_needs, Cond.instanceMethod yX7_needs, Cond.selects "QuakeBenchModel" yX7_needs yX7_needs, Cond.initialized "QuakeBenchModel", Cond.code yX7_needs prog_9_method_15_code 6 (Option.some Jvm.ClassFile.FieldType.int)] : List Cond), w ∈ lw_all := zin [1268, 1269, 1270, 61, 1271] (by decide +kernel)
theorem kc_L_law_546 : ∀ w ∈ ([Cond.methodLink "QuakeBenchLaw" 104 yX7_thrown, Cond.instanceMethod yX7_thrown, Cond.selects "QuakeBenchModel" yX7_thrown yX7_thrown, Cond.initialized "QuakeBenchModel", Cond.code yX7_thrown prog_9_method_2_code 1 (Option.some Jvm.ClassFile.FieldType.int)] : List Cond), w ∈ lw_all := zin [1227, 1228, 1229, 61, 1230] (by decide +kernel)
theorem ky_L_addPick : yL_addPick.cls ≠ "java/lang/invoke/MethodHandle" ∧ yL_addPick.cls ≠ "java/lang/invoke/VarHandle" ∧ (parseMethodDescriptor yL_addPick.desc).map (fun d => d.parameters.length) = some 5 := by decide +kernel
theorem kc_L_law_604 : ∀ w ∈ ([Cond.methodLink "QuakeBenchLaw" 121 yL_addPick, Cond.static yL_addPick, Cond.initialized "QuakeBenchLaw", Cond.codeWith yL_addPick method_8_code 6 (Option.some Jvm.ClassFile.FieldType.int) [((0 : Nat), (12 : Nat), (15 : Nat), (20 : Nat)), ((0 : Nat), (12 : Nat), (19 : Nat), (13 : Nat)), ((0 : Nat), (12 : Nat), (23 : Nat), (15 : Nat))]] : List Cond), w ∈ lw_all := zin [919, 920, 53, 921] (by decide +kernel)
theorem ky_X7_addPick : yX7_addPick.cls ≠ "java/lang/invoke/MethodHandle" ∧ yX7_addPick.cls ≠ "java/lang/invoke/VarHandle" ∧ (parseMethodDescriptor yX7_addPick.desc).map (fun d => d.parameters.length) = some 3 := by decide +kernel
theorem kc_L_law_636 : ∀ w ∈ ([Cond.methodLink "QuakeBenchLaw" 124 yX7_addPick, Cond.instanceMethod yX7_addPick, Cond.selects "QuakeBenchModel" yX7_addPick yX7_addPick, Cond.initialized "QuakeBenchModel", Cond.code yX7_addPick prog_9_method_16_code 4 (Option.some Jvm.ClassFile.FieldType.int)] : List Cond), w ∈ lw_all := zin [1276, 1277, 1278, 61, 1279] (by decide +kernel)
theorem kc_L_law_642 : ∀ w ∈ ([Cond.methodLink "QuakeBenchLaw" 104 yX7_thrown, Cond.instanceMethod yX7_thrown, Cond.selects "QuakeBenchModel" yX7_thrown yX7_thrown, Cond.initialized "QuakeBenchModel", Cond.code yX7_thrown prog_9_method_2_code 1 (Option.some Jvm.ClassFile.FieldType.int)] : List Cond), w ∈ lw_all := zin [1227, 1228, 1229, 61, 1230] (by decide +kernel)
theorem ky_L_setWeight : yL_setWeight.cls ≠ "java/lang/invoke/MethodHandle" ∧ yL_setWeight.cls ≠ "java/lang/invoke/VarHandle" ∧ (parseMethodDescriptor yL_setWeight.desc).map (fun d => d.parameters.length) = some 4 := by decide +kernel
theorem kc_L_law_686 : ∀ w ∈ ([Cond.methodLink "QuakeBenchLaw" 125 yL_setWeight, Cond.static yL_setWeight, Cond.initialized "QuakeBenchLaw", Cond.codeWith yL_setWeight method_9_code 5 (Option.some Jvm.ClassFile.FieldType.int) [((0 : Nat), (10 : Nat), (13 : Nat), (20 : Nat)), ((0 : Nat), (10 : Nat), (17 : Nat), (13 : Nat))]] : List Cond), w ∈ lw_all := zin [971, 972, 53, 973] (by decide +kernel)
theorem ky_X7_setWeight : yX7_setWeight.cls ≠ "java/lang/invoke/MethodHandle" ∧ yX7_setWeight.cls ≠ "java/lang/invoke/VarHandle" ∧ (parseMethodDescriptor yX7_setWeight.desc).map (fun d => d.parameters.length) = some 2 := by decide +kernel
theorem kc_L_law_704 : ∀ w ∈ ([Cond.methodLink "QuakeBenchLaw" 127 yX7_setWeight, Cond.instanceMethod yX7_setWeight, Cond.selects "QuakeBenchModel" yX7_setWeight yX7_setWeight, Cond.initialized "QuakeBenchModel", Cond.code yX7_setWeight prog_9_method_18_code 4 (Option.some Jvm.ClassFile.FieldType.int)] : List Cond), w ∈ lw_all := zin [1281, 1282, 1283, 61, 1284] (by decide +kernel)
theorem kc_L_law_710 : ∀ w ∈ ([Cond.methodLink "QuakeBenchLaw" 104 yX7_thrown, Cond.instanceMethod yX7_thrown, Cond.selects "QuakeBenchModel" yX7_thrown yX7_thrown, Cond.initialized "QuakeBenchModel", Cond.code yX7_thrown prog_9_method_2_code 1 (Option.some Jvm.ClassFile.FieldType.int)] : List Cond), w ∈ lw_all := zin [1227, 1228, 1229, 61, 1230] (by decide +kernel)
theorem ky_L_pick : yL_pick.cls ≠ "java/lang/invoke/MethodHandle" ∧ yL_pick.cls ≠ "java/lang/invoke/VarHandle" ∧ (parseMethodDescriptor yL_pick.desc).map (fun d => d.parameters.length) = some 4 := by decide +kernel
theorem kc_L_law_754 : ∀ w ∈ ([Cond.methodLink "QuakeBenchLaw" 128 yL_pick, Cond.static yL_pick, Cond.initialized "QuakeBenchLaw", Cond.codeWith yL_pick method_10_code 5 (Option.some Jvm.ClassFile.FieldType.int) [((0 : Nat), (10 : Nat), (13 : Nat), (20 : Nat))]] : List Cond), w ∈ lw_all := zin [984, 985, 53, 986] (by decide +kernel)
theorem ky_X7_pick : yX7_pick.cls ≠ "java/lang/invoke/MethodHandle" ∧ yX7_pick.cls ≠ "java/lang/invoke/VarHandle" ∧ (parseMethodDescriptor yX7_pick.desc).map (fun d => d.parameters.length) = some 2 := by decide +kernel
theorem kc_L_law_772 : ∀ w ∈ ([Cond.methodLink "QuakeBenchLaw" 130 yX7_pick, Cond.instanceMethod yX7_pick, Cond.selects "QuakeBenchModel" yX7_pick yX7_pick, Cond.initialized "QuakeBenchModel", Cond.code yX7_pick prog_9_method_20_code 3 (Option.some Jvm.ClassFile.FieldType.int)] : List Cond), w ∈ lw_all := zin [1293, 1294, 1295, 61, 1296] (by decide +kernel)
theorem kc_L_law_778 : ∀ w ∈ ([Cond.methodLink "QuakeBenchLaw" 104 yX7_thrown, Cond.instanceMethod yX7_thrown, Cond.selects "QuakeBenchModel" yX7_thrown yX7_thrown, Cond.initialized "QuakeBenchModel", Cond.code yX7_thrown prog_9_method_2_code 1 (Option.some Jvm.ClassFile.FieldType.int)] : List Cond), w ∈ lw_all := zin [1227, 1228, 1229, 61, 1230] (by decide +kernel)
theorem ky_L_addEvent : yL_addEvent.cls ≠ "java/lang/invoke/MethodHandle" ∧ yL_addEvent.cls ≠ "java/lang/invoke/VarHandle" ∧ (parseMethodDescriptor yL_addEvent.desc).map (fun d => d.parameters.length) = some 2 := by decide +kernel
theorem kc_L_law_810 : ∀ w ∈ ([Cond.methodLink "QuakeBenchLaw" 131 yL_addEvent, Cond.static yL_addEvent, Cond.initialized "QuakeBenchLaw", Cond.codeWith yL_addEvent method_11_code 3 (Option.some Jvm.ClassFile.FieldType.int) [((0 : Nat), (8 : Nat), (11 : Nat), (15 : Nat))]] : List Cond), w ∈ lw_all := zin [992, 993, 53, 994] (by decide +kernel)
theorem ky_X7_addEvent : yX7_addEvent.cls ≠ "java/lang/invoke/MethodHandle" ∧ yX7_addEvent.cls ≠ "java/lang/invoke/VarHandle" ∧ (parseMethodDescriptor yX7_addEvent.desc).map (fun d => d.parameters.length) = some 0 := by decide +kernel
theorem kc_L_law_816 : ∀ w ∈ ([Cond.methodLink "QuakeBenchLaw" 134 yX7_addEvent, Cond.instanceMethod yX7_addEvent, Cond.selects "QuakeBenchModel" yX7_addEvent yX7_addEvent, Cond.initialized "QuakeBenchModel", Cond.code yX7_addEvent prog_9_method_21_code 1 (Option.some Jvm.ClassFile.FieldType.int)] : List Cond), w ∈ lw_all := zin [1301, 1302, 1303, 61, 1304] (by decide +kernel)
theorem kc_L_law_822 : ∀ w ∈ ([Cond.methodLink "QuakeBenchLaw" 104 yX7_thrown, Cond.instanceMethod yX7_thrown, Cond.selects "QuakeBenchModel" yX7_thrown yX7_thrown, Cond.initialized "QuakeBenchModel", Cond.code yX7_thrown prog_9_method_2_code 1 (Option.some Jvm.ClassFile.FieldType.int)] : List Cond), w ∈ lw_all := zin [1227, 1228, 1229, 61, 1230] (by decide +kernel)
theorem ky_L_give : yL_give.cls ≠ "java/lang/invoke/MethodHandle" ∧ yL_give.cls ≠ "java/lang/invoke/VarHandle" ∧ (parseMethodDescriptor yL_give.desc).map (fun d => d.parameters.length) = some 4 := by decide +kernel
theorem kc_L_law_866 : ∀ w ∈ ([Cond.methodLink "QuakeBenchLaw" 135 yL_give, Cond.static yL_give, Cond.initialized "QuakeBenchLaw", Cond.codeWith yL_give method_12_code 5 (Option.some Jvm.ClassFile.FieldType.int) [((0 : Nat), (10 : Nat), (13 : Nat), (20 : Nat)), ((0 : Nat), (10 : Nat), (17 : Nat), (15 : Nat))]] : List Cond), w ∈ lw_all := zin [1000, 1001, 53, 1002] (by decide +kernel)
theorem ky_X7_give : yX7_give.cls ≠ "java/lang/invoke/MethodHandle" ∧ yX7_give.cls ≠ "java/lang/invoke/VarHandle" ∧ (parseMethodDescriptor yX7_give.desc).map (fun d => d.parameters.length) = some 2 := by decide +kernel
theorem kc_L_law_884 : ∀ w ∈ ([Cond.methodLink "QuakeBenchLaw" 137 yX7_give, Cond.instanceMethod yX7_give, Cond.selects "QuakeBenchModel" yX7_give yX7_give, Cond.initialized "QuakeBenchModel", Cond.code yX7_give prog_9_method_23_code 4 (Option.some Jvm.ClassFile.FieldType.int)] : List Cond), w ∈ lw_all := zin [1305, 1306, 1307, 61, 1308] (by decide +kernel)
theorem kc_L_law_890 : ∀ w ∈ ([Cond.methodLink "QuakeBenchLaw" 104 yX7_thrown, Cond.instanceMethod yX7_thrown, Cond.selects "QuakeBenchModel" yX7_thrown yX7_thrown, Cond.initialized "QuakeBenchModel", Cond.code yX7_thrown prog_9_method_2_code 1 (Option.some Jvm.ClassFile.FieldType.int)] : List Cond), w ∈ lw_all := zin [1227, 1228, 1229, 61, 1230] (by decide +kernel)
theorem ky_X6_associate : yX6_associate.cls ≠ "java/lang/invoke/MethodHandle" ∧ yX6_associate.cls ≠ "java/lang/invoke/VarHandle" ∧ (parseMethodDescriptor yX6_associate.desc).map (fun d => d.parameters.length) = some 0 := by decide +kernel
theorem kc_L_law_921 : ∀ w ∈ ([Cond.methodLink "QuakeBenchLaw" 138 yX6_associate, Cond.instanceMethod yX6_associate, Cond.selects "QuakeBench" yX6_associate yX6_associate, Cond.initialized "QuakeBench", Cond.code yX6_associate prog_1_method_12_code 5 (Option.some Jvm.ClassFile.FieldType.int)] : List Cond), w ∈ lw_all := zin [210, 211, 212, 54, 213] (by decide +kernel)
theorem ky_X7_associate : yX7_associate.cls ≠ "java/lang/invoke/MethodHandle" ∧ yX7_associate.cls ≠ "java/lang/invoke/VarHandle" ∧ (parseMethodDescriptor yX7_associate.desc).map (fun d => d.parameters.length) = some 0 := by decide +kernel
theorem kc_L_law_925 : ∀ w ∈ ([Cond.methodLink "QuakeBenchLaw" 141 yX7_associate, Cond.instanceMethod yX7_associate, Cond.selects "QuakeBenchModel" yX7_associate yX7_associate, Cond.initialized "QuakeBenchModel", Cond.code yX7_associate prog_9_method_28_code 6 (Option.some Jvm.ClassFile.FieldType.int)] : List Cond), w ∈ lw_all := zin [1317, 1318, 1319, 61, 1320] (by decide +kernel)
theorem ky_L_count : yL_count.cls ≠ "java/lang/invoke/MethodHandle" ∧ yL_count.cls ≠ "java/lang/invoke/VarHandle" ∧ (parseMethodDescriptor yL_count.desc).map (fun d => d.parameters.length) = some 3 := by decide +kernel
theorem kc_L_law_941 : ∀ w ∈ ([Cond.methodLink "QuakeBenchLaw" 142 yL_count, Cond.static yL_count, Cond.initialized "QuakeBenchLaw", Cond.codeWith yL_count method_13_code 4 (Option.some Jvm.ClassFile.FieldType.int) [((0 : Nat), (9 : Nat), (12 : Nat), (20 : Nat))]] : List Cond), w ∈ lw_all := zin [1025, 1026, 53, 1027] (by decide +kernel)
theorem ky_X7_count : yX7_count.cls ≠ "java/lang/invoke/MethodHandle" ∧ yX7_count.cls ≠ "java/lang/invoke/VarHandle" ∧ (parseMethodDescriptor yX7_count.desc).map (fun d => d.parameters.length) = some 1 := by decide +kernel
theorem kc_L_law_953 : ∀ w ∈ ([Cond.methodLink "QuakeBenchLaw" 145 yX7_count, Cond.instanceMethod yX7_count, Cond.selects "QuakeBenchModel" yX7_count yX7_count, Cond.initialized "QuakeBenchModel", Cond.code yX7_count prog_9_method_31_code 2 (Option.some Jvm.ClassFile.FieldType.int)] : List Cond), w ∈ lw_all := zin [1353, 1354, 1355, 61, 1356] (by decide +kernel)
theorem kc_L_law_959 : ∀ w ∈ ([Cond.methodLink "QuakeBenchLaw" 104 yX7_thrown, Cond.instanceMethod yX7_thrown, Cond.selects "QuakeBenchModel" yX7_thrown yX7_thrown, Cond.initialized "QuakeBenchModel", Cond.code yX7_thrown prog_9_method_2_code 1 (Option.some Jvm.ClassFile.FieldType.int)] : List Cond), w ∈ lw_all := zin [1227, 1228, 1229, 61, 1230] (by decide +kernel)
theorem ky_L_seek : yL_seek.cls ≠ "java/lang/invoke/MethodHandle" ∧ yL_seek.cls ≠ "java/lang/invoke/VarHandle" ∧ (parseMethodDescriptor yL_seek.desc).map (fun d => d.parameters.length) = some 3 := by decide +kernel
theorem kc_L_law_997 : ∀ w ∈ ([Cond.methodLink "QuakeBenchLaw" 146 yL_seek, Cond.static yL_seek, Cond.initialized "QuakeBenchLaw", Cond.codeWith yL_seek method_14_code 4 (Option.some Jvm.ClassFile.FieldType.int) [((0 : Nat), (8 : Nat), (11 : Nat), (20 : Nat)), ((0 : Nat), (8 : Nat), (14 : Nat), (15 : Nat))]] : List Cond), w ∈ lw_all := zin [1032, 1033, 53, 1034] (by decide +kernel)
theorem ky_X7_seek : yX7_seek.cls ≠ "java/lang/invoke/MethodHandle" ∧ yX7_seek.cls ≠ "java/lang/invoke/VarHandle" ∧ (parseMethodDescriptor yX7_seek.desc).map (fun d => d.parameters.length) = some 1 := by decide +kernel
theorem kc_L_law_1009 : ∀ w ∈ ([Cond.methodLink "QuakeBenchLaw" 148 yX7_seek, Cond.instanceMethod yX7_seek, Cond.selects "QuakeBenchModel" yX7_seek yX7_seek, Cond.initialized "QuakeBenchModel", Cond.code yX7_seek prog_9_method_38_code 2 (Option.some Jvm.ClassFile.FieldType.long)] : List Cond), w ∈ lw_all := zin [1369, 1370, 1371, 61, 1372] (by decide +kernel)
theorem kc_L_law_1015 : ∀ w ∈ ([Cond.methodLink "QuakeBenchLaw" 104 yX7_thrown, Cond.instanceMethod yX7_thrown, Cond.selects "QuakeBenchModel" yX7_thrown yX7_thrown, Cond.initialized "QuakeBenchModel", Cond.code yX7_thrown prog_9_method_2_code 1 (Option.some Jvm.ClassFile.FieldType.int)] : List Cond), w ∈ lw_all := zin [1227, 1228, 1229, 61, 1230] (by decide +kernel)
theorem ky_L_event : yL_event.cls ≠ "java/lang/invoke/MethodHandle" ∧ yL_event.cls ≠ "java/lang/invoke/VarHandle" ∧ (parseMethodDescriptor yL_event.desc).map (fun d => d.parameters.length) = some 4 := by decide +kernel
theorem kc_L_law_1058 : ∀ w ∈ ([Cond.methodLink "QuakeBenchLaw" 149 yL_event, Cond.static yL_event, Cond.initialized "QuakeBenchLaw", Cond.codeWith yL_event method_15_code 5 (Option.some Jvm.ClassFile.FieldType.int) [((0 : Nat), (10 : Nat), (13 : Nat), (20 : Nat)), ((0 : Nat), (10 : Nat), (17 : Nat), (15 : Nat))]] : List Cond), w ∈ lw_all := zin [1050, 1051, 53, 1052] (by decide +kernel)
theorem ky_X7_event : yX7_event.cls ≠ "java/lang/invoke/MethodHandle" ∧ yX7_event.cls ≠ "java/lang/invoke/VarHandle" ∧ (parseMethodDescriptor yX7_event.desc).map (fun d => d.parameters.length) = some 2 := by decide +kernel
theorem kc_L_law_1076 : ∀ w ∈ ([Cond.methodLink "QuakeBenchLaw" 151 yX7_event, Cond.instanceMethod yX7_event, Cond.selects "QuakeBenchModel" yX7_event yX7_event, Cond.initialized "QuakeBenchModel", Cond.code yX7_event prog_9_method_39_code 3 (Option.some Jvm.ClassFile.FieldType.int)] : List Cond), w ∈ lw_all := zin [1381, 1382, 1383, 61, 1384] (by decide +kernel)
theorem kc_L_law_1082 : ∀ w ∈ ([Cond.methodLink "QuakeBenchLaw" 104 yX7_thrown, Cond.instanceMethod yX7_thrown, Cond.selects "QuakeBenchModel" yX7_thrown yX7_thrown, Cond.initialized "QuakeBenchModel", Cond.code yX7_thrown prog_9_method_2_code 1 (Option.some Jvm.ClassFile.FieldType.int)] : List Cond), w ∈ lw_all := zin [1227, 1228, 1229, 61, 1230] (by decide +kernel)
theorem ky_L_misfit : yL_misfit.cls ≠ "java/lang/invoke/MethodHandle" ∧ yL_misfit.cls ≠ "java/lang/invoke/VarHandle" ∧ (parseMethodDescriptor yL_misfit.desc).map (fun d => d.parameters.length) = some 6 := by decide +kernel
theorem kc_L_law_1138 : ∀ w ∈ ([Cond.methodLink "QuakeBenchLaw" 152 yL_misfit, Cond.static yL_misfit, Cond.initialized "QuakeBenchLaw", Cond.codeWith yL_misfit method_16_code 7 (Option.some Jvm.ClassFile.FieldType.int) [((0 : Nat), (13 : Nat), (16 : Nat), (20 : Nat)), ((0 : Nat), (13 : Nat), (20 : Nat), (13 : Nat))]] : List Cond), w ∈ lw_all := zin [1062, 1063, 53, 1064] (by decide +kernel)
theorem ky_X7_misfit : yX7_misfit.cls ≠ "java/lang/invoke/MethodHandle" ∧ yX7_misfit.cls ≠ "java/lang/invoke/VarHandle" ∧ (parseMethodDescriptor yX7_misfit.desc).map (fun d => d.parameters.length) = some 4 := by decide +kernel
theorem kc_L_law_1168 : ∀ w ∈ ([Cond.methodLink "QuakeBenchLaw" 154 yX7_misfit, Cond.instanceMethod yX7_misfit, Cond.selects "QuakeBenchModel" yX7_misfit yX7_misfit, Cond.initialized "QuakeBenchModel", Cond.code yX7_misfit prog_9_method_40_code 5 (Option.some Jvm.ClassFile.FieldType.long)] : List Cond), w ∈ lw_all := zin [1385, 1386, 1387, 61, 1388] (by decide +kernel)
theorem kc_L_law_1174 : ∀ w ∈ ([Cond.methodLink "QuakeBenchLaw" 104 yX7_thrown, Cond.instanceMethod yX7_thrown, Cond.selects "QuakeBenchModel" yX7_thrown yX7_thrown, Cond.initialized "QuakeBenchModel", Cond.code yX7_thrown prog_9_method_2_code 1 (Option.some Jvm.ClassFile.FieldType.int)] : List Cond), w ∈ lw_all := zin [1227, 1228, 1229, 61, 1230] (by decide +kernel)
theorem ky_L_residual : yL_residual.cls ≠ "java/lang/invoke/MethodHandle" ∧ yL_residual.cls ≠ "java/lang/invoke/VarHandle" ∧ (parseMethodDescriptor yL_residual.desc).map (fun d => d.parameters.length) = some 3 := by decide +kernel
theorem kc_L_law_1211 : ∀ w ∈ ([Cond.methodLink "QuakeBenchLaw" 155 yL_residual, Cond.static yL_residual, Cond.initialized "QuakeBenchLaw", Cond.codeWith yL_residual method_17_code 4 (Option.some Jvm.ClassFile.FieldType.int) [((0 : Nat), (9 : Nat), (12 : Nat), (20 : Nat)), ((0 : Nat), (9 : Nat), (15 : Nat), (15 : Nat))]] : List Cond), w ∈ lw_all := zin [1071, 1072, 53, 1073] (by decide +kernel)
theorem ky_X7_residual : yX7_residual.cls ≠ "java/lang/invoke/MethodHandle" ∧ yX7_residual.cls ≠ "java/lang/invoke/VarHandle" ∧ (parseMethodDescriptor yX7_residual.desc).map (fun d => d.parameters.length) = some 1 := by decide +kernel
theorem kc_L_law_1223 : ∀ w ∈ ([Cond.methodLink "QuakeBenchLaw" 157 yX7_residual, Cond.instanceMethod yX7_residual, Cond.selects "QuakeBenchModel" yX7_residual yX7_residual, Cond.initialized "QuakeBenchModel", Cond.code yX7_residual prog_9_method_42_code 2 (Option.some Jvm.ClassFile.FieldType.int)] : List Cond), w ∈ lw_all := zin [1389, 1390, 1391, 61, 1392] (by decide +kernel)
theorem kc_L_law_1229 : ∀ w ∈ ([Cond.methodLink "QuakeBenchLaw" 104 yX7_thrown, Cond.instanceMethod yX7_thrown, Cond.selects "QuakeBenchModel" yX7_thrown yX7_thrown, Cond.initialized "QuakeBenchModel", Cond.code yX7_thrown prog_9_method_2_code 1 (Option.some Jvm.ClassFile.FieldType.int)] : List Cond), w ∈ lw_all := zin [1227, 1228, 1229, 61, 1230] (by decide +kernel)
theorem ky_L_worst : yL_worst.cls ≠ "java/lang/invoke/MethodHandle" ∧ yL_worst.cls ≠ "java/lang/invoke/VarHandle" ∧ (parseMethodDescriptor yL_worst.desc).map (fun d => d.parameters.length) = some 3 := by decide +kernel
theorem kc_L_law_1267 : ∀ w ∈ ([Cond.methodLink "QuakeBenchLaw" 158 yL_worst, Cond.static yL_worst, Cond.initialized "QuakeBenchLaw", Cond.codeWith yL_worst method_18_code 4 (Option.some Jvm.ClassFile.FieldType.int) [((0 : Nat), (9 : Nat), (12 : Nat), (20 : Nat)), ((0 : Nat), (9 : Nat), (15 : Nat), (15 : Nat))]] : List Cond), w ∈ lw_all := zin [1079, 1080, 53, 1081] (by decide +kernel)
theorem ky_X7_worst : yX7_worst.cls ≠ "java/lang/invoke/MethodHandle" ∧ yX7_worst.cls ≠ "java/lang/invoke/VarHandle" ∧ (parseMethodDescriptor yX7_worst.desc).map (fun d => d.parameters.length) = some 1 := by decide +kernel
theorem kc_L_law_1279 : ∀ w ∈ ([Cond.methodLink "QuakeBenchLaw" 160 yX7_worst, Cond.instanceMethod yX7_worst, Cond.selects "QuakeBenchModel" yX7_worst yX7_worst, Cond.initialized "QuakeBenchModel", Cond.code yX7_worst prog_9_method_43_code 4 (Option.some Jvm.ClassFile.FieldType.int)] : List Cond), w ∈ lw_all := zin [1397, 1398, 1399, 61, 1400] (by decide +kernel)
theorem kc_L_law_1285 : ∀ w ∈ ([Cond.methodLink "QuakeBenchLaw" 104 yX7_thrown, Cond.instanceMethod yX7_thrown, Cond.selects "QuakeBenchModel" yX7_thrown yX7_thrown, Cond.initialized "QuakeBenchModel", Cond.code yX7_thrown prog_9_method_2_code 1 (Option.some Jvm.ClassFile.FieldType.int)] : List Cond), w ∈ lw_all := zin [1227, 1228, 1229, 61, 1230] (by decide +kernel)
theorem ky_L_spread : yL_spread.cls ≠ "java/lang/invoke/MethodHandle" ∧ yL_spread.cls ≠ "java/lang/invoke/VarHandle" ∧ (parseMethodDescriptor yL_spread.desc).map (fun d => d.parameters.length) = some 3 := by decide +kernel
theorem kc_L_law_1324 : ∀ w ∈ ([Cond.methodLink "QuakeBenchLaw" 161 yL_spread, Cond.static yL_spread, Cond.initialized "QuakeBenchLaw", Cond.codeWith yL_spread method_19_code 4 (Option.some Jvm.ClassFile.FieldType.int) [((0 : Nat), (8 : Nat), (11 : Nat), (20 : Nat)), ((0 : Nat), (8 : Nat), (14 : Nat), (15 : Nat))]] : List Cond), w ∈ lw_all := zin [1086, 1087, 53, 1088] (by decide +kernel)
theorem ky_X7_spread : yX7_spread.cls ≠ "java/lang/invoke/MethodHandle" ∧ yX7_spread.cls ≠ "java/lang/invoke/VarHandle" ∧ (parseMethodDescriptor yX7_spread.desc).map (fun d => d.parameters.length) = some 1 := by decide +kernel
theorem kc_L_law_1336 : ∀ w ∈ ([Cond.methodLink "QuakeBenchLaw" 164 yX7_spread, Cond.instanceMethod yX7_spread, Cond.selects "QuakeBenchModel" yX7_spread yX7_spread, Cond.initialized "QuakeBenchModel", Cond.code yX7_spread prog_9_method_44_code 6 (Option.some Jvm.ClassFile.FieldType.double)] : List Cond), w ∈ lw_all := zin [1401, 1402, 1403, 61, 1404] (by decide +kernel)
theorem kc_L_law_1342 : ∀ w ∈ ([Cond.methodLink "QuakeBenchLaw" 104 yX7_thrown, Cond.instanceMethod yX7_thrown, Cond.selects "QuakeBenchModel" yX7_thrown yX7_thrown, Cond.initialized "QuakeBenchModel", Cond.code yX7_thrown prog_9_method_2_code 1 (Option.some Jvm.ClassFile.FieldType.int)] : List Cond), w ∈ lw_all := zin [1227, 1228, 1229, 61, 1230] (by decide +kernel)
theorem ky_L_gap : yL_gap.cls ≠ "java/lang/invoke/MethodHandle" ∧ yL_gap.cls ≠ "java/lang/invoke/VarHandle" ∧ (parseMethodDescriptor yL_gap.desc).map (fun d => d.parameters.length) = some 3 := by decide +kernel
theorem kc_L_law_1400 : ∀ w ∈ ([Cond.methodLink "QuakeBenchLaw" 165 yL_gap, Cond.static yL_gap, Cond.initialized "QuakeBenchLaw", Cond.codeWith yL_gap method_20_code 4 (Option.some Jvm.ClassFile.FieldType.int) [((0 : Nat), (9 : Nat), (12 : Nat), (20 : Nat)), ((0 : Nat), (9 : Nat), (15 : Nat), (15 : Nat))]] : List Cond), w ∈ lw_all := zin [1093, 1094, 53, 1095] (by decide +kernel)
theorem ky_X7_gap : yX7_gap.cls ≠ "java/lang/invoke/MethodHandle" ∧ yX7_gap.cls ≠ "java/lang/invoke/VarHandle" ∧ (parseMethodDescriptor yX7_gap.desc).map (fun d => d.parameters.length) = some 1 := by decide +kernel
theorem kc_L_law_1412 : ∀ w ∈ ([Cond.methodLink "QuakeBenchLaw" 167 yX7_gap, Cond.instanceMethod yX7_gap, Cond.selects "QuakeBenchModel" yX7_gap yX7_gap, Cond.initialized "QuakeBenchModel", Cond.code yX7_gap prog_9_method_47_code 2 (Option.some Jvm.ClassFile.FieldType.int)] : List Cond), w ∈ lw_all := zin [1405, 1406, 1407, 61, 1408] (by decide +kernel)
theorem kc_L_law_1418 : ∀ w ∈ ([Cond.methodLink "QuakeBenchLaw" 104 yX7_thrown, Cond.instanceMethod yX7_thrown, Cond.selects "QuakeBenchModel" yX7_thrown yX7_thrown, Cond.initialized "QuakeBenchModel", Cond.code yX7_thrown prog_9_method_2_code 1 (Option.some Jvm.ClassFile.FieldType.int)] : List Cond), w ∈ lw_all := zin [1227, 1228, 1229, 61, 1230] (by decide +kernel)
theorem ky_L_setAmplitude : yL_setAmplitude.cls ≠ "java/lang/invoke/MethodHandle" ∧ yL_setAmplitude.cls ≠ "java/lang/invoke/VarHandle" ∧ (parseMethodDescriptor yL_setAmplitude.desc).map (fun d => d.parameters.length) = some 4 := by decide +kernel
theorem kc_L_law_1462 : ∀ w ∈ ([Cond.methodLink "QuakeBenchLaw" 168 yL_setAmplitude, Cond.static yL_setAmplitude, Cond.initialized "QuakeBenchLaw", Cond.codeWith yL_setAmplitude method_21_code 5 (Option.some Jvm.ClassFile.FieldType.int) [((0 : Nat), (10 : Nat), (13 : Nat), (20 : Nat)), ((0 : Nat), (10 : Nat), (17 : Nat), (13 : Nat))]] : List Cond), w ∈ lw_all := zin [1100, 1101, 53, 1102] (by decide +kernel)
theorem ky_X7_setAmplitude : yX7_setAmplitude.cls ≠ "java/lang/invoke/MethodHandle" ∧ yX7_setAmplitude.cls ≠ "java/lang/invoke/VarHandle" ∧ (parseMethodDescriptor yX7_setAmplitude.desc).map (fun d => d.parameters.length) = some 2 := by decide +kernel
theorem kc_L_law_1480 : ∀ w ∈ ([Cond.methodLink "QuakeBenchLaw" 170 yX7_setAmplitude, Cond.instanceMethod yX7_setAmplitude, Cond.selects "QuakeBenchModel" yX7_setAmplitude yX7_setAmplitude, Cond.initialized "QuakeBenchModel", Cond.code yX7_setAmplitude prog_9_method_48_code 4 (Option.some Jvm.ClassFile.FieldType.int)] : List Cond), w ∈ lw_all := zin [1417, 1418, 1419, 61, 1420] (by decide +kernel)
theorem kc_L_law_1486 : ∀ w ∈ ([Cond.methodLink "QuakeBenchLaw" 104 yX7_thrown, Cond.instanceMethod yX7_thrown, Cond.selects "QuakeBenchModel" yX7_thrown yX7_thrown, Cond.initialized "QuakeBenchModel", Cond.code yX7_thrown prog_9_method_2_code 1 (Option.some Jvm.ClassFile.FieldType.int)] : List Cond), w ∈ lw_all := zin [1227, 1228, 1229, 61, 1230] (by decide +kernel)
theorem ky_L_magnitude : yL_magnitude.cls ≠ "java/lang/invoke/MethodHandle" ∧ yL_magnitude.cls ≠ "java/lang/invoke/VarHandle" ∧ (parseMethodDescriptor yL_magnitude.desc).map (fun d => d.parameters.length) = some 3 := by decide +kernel
theorem kc_L_law_1524 : ∀ w ∈ ([Cond.methodLink "QuakeBenchLaw" 171 yL_magnitude, Cond.static yL_magnitude, Cond.initialized "QuakeBenchLaw", Cond.codeWith yL_magnitude method_22_code 4 (Option.some Jvm.ClassFile.FieldType.int) [((0 : Nat), (9 : Nat), (12 : Nat), (20 : Nat)), ((0 : Nat), (9 : Nat), (15 : Nat), (15 : Nat))]] : List Cond), w ∈ lw_all := zin [1109, 1110, 53, 1111] (by decide +kernel)
theorem ky_X7_magnitude : yX7_magnitude.cls ≠ "java/lang/invoke/MethodHandle" ∧ yX7_magnitude.cls ≠ "java/lang/invoke/VarHandle" ∧ (parseMethodDescriptor yX7_magnitude.desc).map (fun d => d.parameters.length) = some 1 := by decide +kernel
theorem kc_L_law_1536 : ∀ w ∈ ([Cond.methodLink "QuakeBenchLaw" 173 yX7_magnitude, Cond.instanceMethod yX7_magnitude, Cond.selects "QuakeBenchModel" yX7_magnitude yX7_magnitude, Cond.initialized "QuakeBenchModel", Cond.code yX7_magnitude prog_9_method_51_code 2 (Option.some Jvm.ClassFile.FieldType.int)] : List Cond), w ∈ lw_all := zin [1422, 1423, 1424, 61, 1425] (by decide +kernel)
theorem kc_L_law_1542 : ∀ w ∈ ([Cond.methodLink "QuakeBenchLaw" 104 yX7_thrown, Cond.instanceMethod yX7_thrown, Cond.selects "QuakeBenchModel" yX7_thrown yX7_thrown, Cond.initialized "QuakeBenchModel", Cond.code yX7_thrown prog_9_method_2_code 1 (Option.some Jvm.ClassFile.FieldType.int)] : List Cond), w ∈ lw_all := zin [1227, 1228, 1229, 61, 1230] (by decide +kernel)
theorem ky_L_families : yL_families.cls ≠ "java/lang/invoke/MethodHandle" ∧ yL_families.cls ≠ "java/lang/invoke/VarHandle" ∧ (parseMethodDescriptor yL_families.desc).map (fun d => d.parameters.length) = some 4 := by decide +kernel
theorem kc_L_law_1586 : ∀ w ∈ ([Cond.methodLink "QuakeBenchLaw" 174 yL_families, Cond.static yL_families, Cond.initialized "QuakeBenchLaw", Cond.codeWith yL_families method_23_code 5 (Option.some Jvm.ClassFile.FieldType.int) [((0 : Nat), (10 : Nat), (13 : Nat), (13 : Nat))]] : List Cond), w ∈ lw_all := zin [1116, 1117, 53, 1118] (by decide +kernel)
theorem ky_X7_families : yX7_families.cls ≠ "java/lang/invoke/MethodHandle" ∧ yX7_families.cls ≠ "java/lang/invoke/VarHandle" ∧ (parseMethodDescriptor yX7_families.desc).map (fun d => d.parameters.length) = some 2 := by decide +kernel
theorem kc_L_law_1604 : ∀ w ∈ ([Cond.methodLink "QuakeBenchLaw" 176 yX7_families, Cond.instanceMethod yX7_families, Cond.selects "QuakeBenchModel" yX7_families yX7_families, Cond.initialized "QuakeBenchModel", Cond.code yX7_families prog_9_method_56_code 6 (Option.some Jvm.ClassFile.FieldType.int)] : List Cond), w ∈ lw_all := zin [1434, 1435, 1436, 61, 1437] (by decide +kernel)
theorem kc_L_law_1610 : ∀ w ∈ ([Cond.methodLink "QuakeBenchLaw" 104 yX7_thrown, Cond.instanceMethod yX7_thrown, Cond.selects "QuakeBenchModel" yX7_thrown yX7_thrown, Cond.initialized "QuakeBenchModel", Cond.code yX7_thrown prog_9_method_2_code 1 (Option.some Jvm.ClassFile.FieldType.int)] : List Cond), w ∈ lw_all := zin [1227, 1228, 1229, 61, 1230] (by decide +kernel)
theorem ky_L_family : yL_family.cls ≠ "java/lang/invoke/MethodHandle" ∧ yL_family.cls ≠ "java/lang/invoke/VarHandle" ∧ (parseMethodDescriptor yL_family.desc).map (fun d => d.parameters.length) = some 5 := by decide +kernel
theorem kc_L_law_1660 : ∀ w ∈ ([Cond.methodLink "QuakeBenchLaw" 177 yL_family, Cond.static yL_family, Cond.initialized "QuakeBenchLaw", Cond.codeWith yL_family method_24_code 6 (Option.some Jvm.ClassFile.FieldType.int) [((0 : Nat), (12 : Nat), (15 : Nat), (20 : Nat)), ((0 : Nat), (12 : Nat), (19 : Nat), (13 : Nat)), ((0 : Nat), (12 : Nat), (23 : Nat), (15 : Nat))]] : List Cond), w ∈ lw_all := zin [1147, 1148, 53, 1149] (by decide +kernel)
theorem ky_X7_family : yX7_family.cls ≠ "java/lang/invoke/MethodHandle" ∧ yX7_family.cls ≠ "java/lang/invoke/VarHandle" ∧ (parseMethodDescriptor yX7_family.desc).map (fun d => d.parameters.length) = some 3 := by decide +kernel
theorem kc_L_law_1684 : ∀ w ∈ ([Cond.methodLink "QuakeBenchLaw" 180 yX7_family, Cond.instanceMethod yX7_family, Cond.selects "QuakeBenchModel" yX7_family yX7_family, Cond.initialized "QuakeBenchModel", Cond.code yX7_family prog_9_method_57_code 7 (Option.some Jvm.ClassFile.FieldType.int)] : List Cond), w ∈ lw_all := zin [1454, 1455, 1456, 61, 1457] (by decide +kernel)
theorem kc_L_law_1690 : ∀ w ∈ ([Cond.methodLink "QuakeBenchLaw" 104 yX7_thrown, Cond.instanceMethod yX7_thrown, Cond.selects "QuakeBenchModel" yX7_thrown yX7_thrown, Cond.initialized "QuakeBenchModel", Cond.code yX7_thrown prog_9_method_2_code 1 (Option.some Jvm.ClassFile.FieldType.int)] : List Cond), w ∈ lw_all := zin [1227, 1228, 1229, 61, 1230] (by decide +kernel)
theorem ky_L_nearest : yL_nearest.cls ≠ "java/lang/invoke/MethodHandle" ∧ yL_nearest.cls ≠ "java/lang/invoke/VarHandle" ∧ (parseMethodDescriptor yL_nearest.desc).map (fun d => d.parameters.length) = some 5 := by decide +kernel
theorem kc_L_law_1740 : ∀ w ∈ ([Cond.methodLink "QuakeBenchLaw" 181 yL_nearest, Cond.static yL_nearest, Cond.initialized "QuakeBenchLaw", Cond.codeWith yL_nearest method_25_code 6 (Option.some Jvm.ClassFile.FieldType.int) [((0 : Nat), (12 : Nat), (15 : Nat), (13 : Nat))]] : List Cond), w ∈ lw_all := zin [1154, 1155, 53, 1156] (by decide +kernel)
theorem ky_X7_nearest : yX7_nearest.cls ≠ "java/lang/invoke/MethodHandle" ∧ yX7_nearest.cls ≠ "java/lang/invoke/VarHandle" ∧ (parseMethodDescriptor yX7_nearest.desc).map (fun d => d.parameters.length) = some 3 := by decide +kernel
theorem kc_L_law_1764 : ∀ w ∈ ([Cond.methodLink "QuakeBenchLaw" 183 yX7_nearest, Cond.instanceMethod yX7_nearest, Cond.selects "QuakeBenchModel" yX7_nearest yX7_nearest, Cond.initialized "QuakeBenchModel", Cond.code yX7_nearest prog_9_method_58_code 6 (Option.some Jvm.ClassFile.FieldType.int)] : List Cond), w ∈ lw_all := zin [1458, 1459, 1460, 61, 1461] (by decide +kernel)
theorem kc_L_law_1770 : ∀ w ∈ ([Cond.methodLink "QuakeBenchLaw" 104 yX7_thrown, Cond.instanceMethod yX7_thrown, Cond.selects "QuakeBenchModel" yX7_thrown yX7_thrown, Cond.initialized "QuakeBenchModel", Cond.code yX7_thrown prog_9_method_2_code 1 (Option.some Jvm.ClassFile.FieldType.int)] : List Cond), w ∈ lw_all := zin [1227, 1228, 1229, 61, 1230] (by decide +kernel)
theorem ky_X6_digest : yX6_digest.cls ≠ "java/lang/invoke/MethodHandle" ∧ yX6_digest.cls ≠ "java/lang/invoke/VarHandle" ∧ (parseMethodDescriptor yX6_digest.desc).map (fun d => d.parameters.length) = some 0 := by decide +kernel
theorem kc_L_law_1801 : ∀ w ∈ ([Cond.methodLink "QuakeBenchLaw" 184 yX6_digest, Cond.instanceMethod yX6_digest, Cond.selects "QuakeBench" yX6_digest yX6_digest, Cond.initialized "QuakeBench", Cond.code yX6_digest prog_1_method_26_code 4 (Option.some Jvm.ClassFile.FieldType.long)] : List Cond), w ∈ lw_all := zin [768, 769, 770, 54, 771] (by decide +kernel)
theorem ky_X7_digest : yX7_digest.cls ≠ "java/lang/invoke/MethodHandle" ∧ yX7_digest.cls ≠ "java/lang/invoke/VarHandle" ∧ (parseMethodDescriptor yX7_digest.desc).map (fun d => d.parameters.length) = some 0 := by decide +kernel
theorem kc_L_law_1805 : ∀ w ∈ ([Cond.methodLink "QuakeBenchLaw" 188 yX7_digest, Cond.instanceMethod yX7_digest, Cond.selects "QuakeBenchModel" yX7_digest yX7_digest, Cond.initialized "QuakeBenchModel", Cond.code yX7_digest prog_9_method_59_code 5 (Option.some Jvm.ClassFile.FieldType.long)] : List Cond), w ∈ lw_all := zin [1462, 1463, 1464, 61, 1465] (by decide +kernel)
/-! the law's cases -/
theorem z_sld {p : Program} {l : Launch} {e : Env} {R : Room} {s : State} {m : MethodId} {args : Array Value} {below : List Frame} {meth : Method} {c : Code} {Q : State → Prop} {nL : Nat} {Γ : zY} {A : Nat → Prop} {G : zG} {k n pc : Nat} {lv : List (Option Value)} {st : List Value} {cc : ByteArray} {own : String} (C : zC p s m args meth c cc own nL Γ A) {b L : Nat} {xs : Nat → Int32} (hX : va_X b L xs s s.heap) (hbl : b < s.heap.size) (hbA : ¬ A b) {i : Int32} (hi : vp_in i L) (hd : decode cc pc = .ok (.iaload, 1))
    (kk : Z p l e R s m args below meth c Q nL Γ A G k n (pc + 1) lv (.int (xs i.toNatClampNeg) :: st)) : Z p l e R s m args below meth c Q nL Γ A G k n pc lv (.int i :: .ref b :: st) :=
  fun H locs ls ws hR hP hD hS hL => va_sld C.1 C.2.1 hX hbl hbA hS hi hd (kk H locs ls ws hR hP hD hS hL)
theorem z_slen {p : Program} {l : Launch} {e : Env} {R : Room} {s : State} {m : MethodId} {args : Array Value} {below : List Frame} {meth : Method} {c : Code} {Q : State → Prop} {nL : Nat} {Γ : zY} {A : Nat → Prop} {G : zG} {k n pc : Nat} {lv : List (Option Value)} {st : List Value} {cc : ByteArray} {own : String} (C : zC p s m args meth c cc own nL Γ A) {b L : Nat} {xs : Nat → Int32} (hX : va_X b L xs s s.heap) (hbl : b < s.heap.size) (hbA : ¬ A b) (hd : decode cc pc = .ok (.arraylength, 1))
    (kk : Z p l e R s m args below meth c Q nL Γ A G k n (pc + 1) lv (.int (Int32.ofNat L) :: st)) : Z p l e R s m args below meth c Q nL Γ A G k n pc lv (.ref b :: st) :=
  fun H locs ls ws hR hP hD hS hL => va_slen C.1 C.2.1 hX hbl hbA hS hd (kk H locs ls ws hR hP hD hS hL)
theorem lg_cmp_self (x : Int64) : lg_cmp x x = 0 := by
  unfold lg_cmp
  simp
abbrev rm_l_addStation : Room := { frames := 9, cells := 0, slots := 0, locals := 218 }
set_option maxHeartbeats 4000000 in
set_option maxRecDepth 100000 in
theorem l_addStation {p : Program} {l : Launch} {e : Env} {s : State} {m : MethodId} {args : Array Value} {below : List Frame} {meth : Method} {c : Code} {Q : State → Prop} {Γ : zY} {A : Nat → Prop} {G : zG} {b xb mo out od : Nat} {xs : Nat → Int32} {f : Nat → Int64} {fd : Nat → UInt64} {μ : Nat → Nat} (hst : l.stackTraces = false) (C : zC p s m args meth c cL_law R_law 9 Γ A) (hX : va_X b 6 xs s s.heap) (hbl : b < s.heap.size) (hbA : ¬ A b)
    (hend : ∀ (G : zG) (k n : Nat) (a6 a7 a8 : Option Value), k ≤ 600002 → n ≤ 7302232 → Z p l e room_1 s m args below meth c Q 9 Γ A G k n 1814 [some (.ref b), some (.ref xb), some (.ref mo), some (.ref out), some (.ref od), some (.int 0), a6, a7, a8] [])
    (hC : zC0 Γ G xb) (ho : G out = some (zJ Γ 1 f)) (hod : G od = some (zDb Γ 1 fd)) (hm : G mo = some (oM0 0 μ)) (hf : zMf Γ G μ) (hou : ∀ i, out ≠ μ i) :
    Z p l e room_1 s m args below meth c Q 9 Γ A G 30 1000 160 [some (.ref b), some (.ref xb), some (.ref mo), some (.ref out), some (.ref od), some (.int 0), none, none, none] [] := by
  have hom : out ≠ mo := fun z => by rw [z, hm] at ho; cases ho
  first | refine z_rload_n C dL_law_160 rfl ?_ | refine z_nload_n C dL_law_160 rfl ?_ | refine z_aload_n C dL_law_160 rfl ?_
  first | refine z_rload_n C dL_law_161 rfl ?_ | refine z_nload_n C dL_law_161 rfl ?_ | refine z_aload_n C dL_law_161 rfl ?_
  refine z_iload C dL_law_162 rfl ?_
  refine z_iconst (v := 1) C dL_law_164 rfl ?_
  refine z_iadd C dL_law_165 ?_
  refine z_sld C hX hbl hbA (by unfold vp_in; decide) dL_law_166 ?_
  first | refine z_rload_n C dL_law_167 rfl ?_ | refine z_nload_n C dL_law_167 rfl ?_ | refine z_aload_n C dL_law_167 rfl ?_
  refine z_iload C dL_law_168 rfl ?_
  refine z_iconst (v := 2) C dL_law_170 rfl ?_
  refine z_iadd C dL_law_171 ?_
  refine z_sld C hX hbl hbA (by unfold vp_in; decide) dL_law_172 ?_
  first | refine z_rload_n C dL_law_173 rfl ?_ | refine z_nload_n C dL_law_173 rfl ?_ | refine z_aload_n C dL_law_173 rfl ?_
  refine z_callSH C (w_addStation l hst Γ _ _ _ hC ho) kc_L_law_174 rfl rfl ky_L_addStation ⟨(Nat.le_of_ble_eq_true rfl), (Nat.le_of_ble_eq_true rfl)⟩ (Nat.le_of_ble_eq_true rfl) ⟨(Nat.le_of_ble_eq_true rfl), (Nat.le_of_ble_eq_true rfl)⟩ dL_law_174 (fun v174 G174 hp174 => ?_)
  rcases hp174 with ⟨rfl, hp1, rfl⟩ | ⟨rfl, hp0, G1, hk1, rfl⟩
  · refine z_istore C dL_law_177 (by decide) ?_
    first | refine z_rload_n C dL_law_179 rfl ?_ | refine z_nload_n C dL_law_179 rfl ?_ | refine z_aload_n C dL_law_179 rfl ?_
    first | refine z_rload_n C dL_law_180 rfl ?_ | refine z_nload_n C dL_law_180 rfl ?_ | refine z_aload_n C dL_law_180 rfl ?_
    refine z_iload C dL_law_181 rfl ?_
    refine z_iconst (v := 1) C dL_law_183 rfl ?_
    refine z_iadd C dL_law_184 ?_
    refine z_sld C hX hbl hbA (by unfold vp_in; decide) dL_law_185 ?_
    first | refine z_rload_n C dL_law_186 rfl ?_ | refine z_nload_n C dL_law_186 rfl ?_ | refine z_aload_n C dL_law_186 rfl ?_
    refine z_iload C dL_law_187 rfl ?_
    refine z_iconst (v := 2) C dL_law_189 rfl ?_
    refine z_iadd C dL_law_190 ?_
    refine z_sld C hX hbl hbA (by unfold vp_in; decide) dL_law_191 ?_
    refine z_callV (q := (RX7, TX7, 19)) C (m_addStation l Γ _ _ _ hm hf) kc_L_law_192 (by first | assumption | exact zU_same _ _ _) rfl rfl rfl rfl ky_X7_addStation ⟨(Nat.le_of_ble_eq_true rfl), (Nat.le_of_ble_eq_true rfl)⟩ (Nat.le_of_ble_eq_true rfl) ⟨(Nat.le_of_ble_eq_true rfl), (Nat.le_of_ble_eq_true rfl)⟩ dL_law_192 (fun v192 G192 hp192 => ?_)
    obtain ⟨rfl, ⟨fs, hfs⟩, hfr⟩ := hp192
    refine z_istore C dL_law_195 (by decide) ?_
    first | refine z_rload_n C dL_law_197 rfl ?_ | refine z_nload_n C dL_law_197 rfl ?_ | refine z_aload_n C dL_law_197 rfl ?_
    refine z_callV (q := (RX7, TX7, 19)) C (m_thrown l Γ _ hfs) kc_L_law_198 hfs rfl rfl rfl rfl ky_X7_thrown ⟨(Nat.le_of_ble_eq_true rfl), (Nat.le_of_ble_eq_true rfl)⟩ (Nat.le_of_ble_eq_true rfl) ⟨(Nat.le_of_ble_eq_true rfl), (Nat.le_of_ble_eq_true rfl)⟩ dL_law_198 (fun v198 G198 hp198 => ?_)
    obtain ⟨rfl, rfl⟩ := hp198
    refine z_iload C dL_law_201 rfl ?_
    refine z_icmp_eq (tgt := 208) C dL_law_203 (by decide) (fun h203 => ?_) (fun h203 => ?_)
    · refine z_iload C dL_law_208 rfl ?_
      refine z_if_ne (tgt := 225) C dL_law_210 (by decide) (fun h210 => ?_) (fun h210 => ?_)
      · refine z_goto (tgt := 1814) C dL_law_225 (by decide) ?_
        exact hend _ _ _ _ _ _ (Nat.le_of_ble_eq_true rfl) (Nat.le_of_ble_eq_true rfl)
      · exact absurd h210 (by decide)
    · exact absurd hp1 h203
  · refine z_istore C dL_law_177 (by decide) ?_
    first | refine z_rload_n C dL_law_179 rfl ?_ | refine z_nload_n C dL_law_179 rfl ?_ | refine z_aload_n C dL_law_179 rfl ?_
    first | refine z_rload_n C dL_law_180 rfl ?_ | refine z_nload_n C dL_law_180 rfl ?_ | refine z_aload_n C dL_law_180 rfl ?_
    refine z_iload C dL_law_181 rfl ?_
    refine z_iconst (v := 1) C dL_law_183 rfl ?_
    refine z_iadd C dL_law_184 ?_
    refine z_sld C hX hbl hbA (by unfold vp_in; decide) dL_law_185 ?_
    first | refine z_rload_n C dL_law_186 rfl ?_ | refine z_nload_n C dL_law_186 rfl ?_ | refine z_aload_n C dL_law_186 rfl ?_
    refine z_iload C dL_law_187 rfl ?_
    refine z_iconst (v := 2) C dL_law_189 rfl ?_
    refine z_iadd C dL_law_190 ?_
    refine z_sld C hX hbl hbA (by unfold vp_in; decide) dL_law_191 ?_
    refine z_callV (q := (RX7, TX7, 19)) C (m_addStation l Γ _ _ _ ((zU_ne hom.symm).trans (hk1 _ _ hm rfl)) ⟨(zU_ne (hou 0).symm).trans (hk1 _ _ hf.1 True.intro), (zU_ne (hou 1).symm).trans (hk1 _ _ hf.2.1 True.intro), hf.2.2.1, (zU_ne (hou 9).symm).trans (hk1 _ _ hf.2.2.2 True.intro)⟩) kc_L_law_192 ((zU_ne hom.symm).trans (hk1 _ _ hm rfl)) rfl rfl rfl rfl ky_X7_addStation ⟨(Nat.le_of_ble_eq_true rfl), (Nat.le_of_ble_eq_true rfl)⟩ (Nat.le_of_ble_eq_true rfl) ⟨(Nat.le_of_ble_eq_true rfl), (Nat.le_of_ble_eq_true rfl)⟩ dL_law_192 (fun v192 G192 hp192 => ?_)
    obtain ⟨rfl, ⟨fs, hfs⟩, hfr⟩ := hp192
    refine z_istore C dL_law_195 (by decide) ?_
    first | refine z_rload_n C dL_law_197 rfl ?_ | refine z_nload_n C dL_law_197 rfl ?_ | refine z_aload_n C dL_law_197 rfl ?_
    refine z_callV (q := (RX7, TX7, 19)) C (m_thrown l Γ _ hfs) kc_L_law_198 hfs rfl rfl rfl rfl ky_X7_thrown ⟨(Nat.le_of_ble_eq_true rfl), (Nat.le_of_ble_eq_true rfl)⟩ (Nat.le_of_ble_eq_true rfl) ⟨(Nat.le_of_ble_eq_true rfl), (Nat.le_of_ble_eq_true rfl)⟩ dL_law_198 (fun v198 G198 hp198 => ?_)
    obtain ⟨rfl, rfl⟩ := hp198
    refine z_iload C dL_law_201 rfl ?_
    refine z_icmp_eq (tgt := 208) C dL_law_203 (by decide) (fun h203 => ?_) (fun h203 => ?_)
    · refine z_iload C dL_law_208 rfl ?_
      refine z_if_ne (tgt := 225) C dL_law_210 (by decide) (fun h210 => ?_) (fun h210 => ?_)
      · exact absurd rfl h210
      · first | refine z_rload_n C dL_law_213 rfl ?_ | refine z_nload_n C dL_law_213 rfl ?_ | refine z_aload_n C dL_law_213 rfl ?_
        refine z_iconst (v := 0) C dL_law_214 rfl ?_
        refine z_lald C (hfr _ _ (zU_same _ _ _) hom hou) (by unfold vp_in; decide) dL_law_215 ?_
        refine z_iload C dL_law_216 rfl ?_
        refine z_i2l C dL_law_218 ?_
        refine z_lcmp C dL_law_219 ?_
        refine z_if_eq (tgt := 225) C dL_law_220 (by decide) (fun h220 => ?_) (fun h220 => ?_)
        · refine z_goto (tgt := 1814) C dL_law_225 (by decide) ?_
          exact hend _ _ _ _ _ _ (Nat.le_of_ble_eq_true rfl) (Nat.le_of_ble_eq_true rfl)
        · refine absurd ?_ h220
          rw [show vp_updL f (0 : Int32).toNatClampNeg _ (0 : Int32).toNatClampNeg = _ from if_pos rfl]
          exact lg_cmp_self _
    · exact absurd hp0 h203
abbrev rm_l_setDelay : Room := { frames := 9, cells := 0, slots := 0, locals := 161 }
set_option maxHeartbeats 4000000 in
set_option maxRecDepth 100000 in
theorem l_setDelay {p : Program} {l : Launch} {e : Env} {s : State} {m : MethodId} {args : Array Value} {below : List Frame} {meth : Method} {c : Code} {Q : State → Prop} {Γ : zY} {A : Nat → Prop} {G : zG} {b xb mo out od : Nat} {xs : Nat → Int32} {f : Nat → Int64} {fd : Nat → UInt64} {μ : Nat → Nat} (hst : l.stackTraces = false) (C : zC p s m args meth c cL_law R_law 9 Γ A) (hX : va_X b 6 xs s s.heap) (hbl : b < s.heap.size) (hbA : ¬ A b)
    (hend : ∀ (G : zG) (k n : Nat) (a6 a7 a8 : Option Value), k ≤ 600002 → n ≤ 7302232 → Z p l e room_1 s m args below meth c Q 9 Γ A G k n 1814 [some (.ref b), some (.ref xb), some (.ref mo), some (.ref out), some (.ref od), some (.int 0), a6, a7, a8] [])
    (hC : zC0 Γ G xb) (ho : G out = some (zJ Γ 1 f)) (hod : G od = some (zDb Γ 1 fd)) (hm : G mo = some (oM0 0 μ)) (hf : zMf Γ G μ) (hou : ∀ i, out ≠ μ i) :
    Z p l e room_1 s m args below meth c Q 9 Γ A G 30 1000 228 [some (.ref b), some (.ref xb), some (.ref mo), some (.ref out), some (.ref od), some (.int 0), none, none, none] [] := by
  first | refine z_rload_n C dL_law_228 rfl ?_ | refine z_nload_n C dL_law_228 rfl ?_ | refine z_aload_n C dL_law_228 rfl ?_
  first | refine z_rload_n C dL_law_229 rfl ?_ | refine z_nload_n C dL_law_229 rfl ?_ | refine z_aload_n C dL_law_229 rfl ?_
  refine z_iload C dL_law_230 rfl ?_
  refine z_iconst (v := 1) C dL_law_232 rfl ?_
  refine z_iadd C dL_law_233 ?_
  refine z_sld C hX hbl hbA (by unfold vp_in; decide) dL_law_234 ?_
  first | refine z_rload_n C dL_law_235 rfl ?_ | refine z_nload_n C dL_law_235 rfl ?_ | refine z_aload_n C dL_law_235 rfl ?_
  refine z_iload C dL_law_236 rfl ?_
  refine z_iconst (v := 2) C dL_law_238 rfl ?_
  refine z_iadd C dL_law_239 ?_
  refine z_sld C hX hbl hbA (by unfold vp_in; decide) dL_law_240 ?_
  first | refine z_rload_n C dL_law_241 rfl ?_ | refine z_nload_n C dL_law_241 rfl ?_ | refine z_aload_n C dL_law_241 rfl ?_
  refine z_callSH C (w_setDelay l hst Γ _ _ _ hC) kc_L_law_242 rfl rfl ky_L_setDelay ⟨(Nat.le_of_ble_eq_true rfl), (Nat.le_of_ble_eq_true rfl)⟩ (Nat.le_of_ble_eq_true rfl) ⟨(Nat.le_of_ble_eq_true rfl), (Nat.le_of_ble_eq_true rfl)⟩ dL_law_242 (fun v242 G242 hp242 => ?_)
  obtain ⟨rfl, rfl⟩ := hp242
  refine z_istore C dL_law_245 (by decide) ?_
  first | refine z_rload_n C dL_law_247 rfl ?_ | refine z_nload_n C dL_law_247 rfl ?_ | refine z_aload_n C dL_law_247 rfl ?_
  first | refine z_rload_n C dL_law_248 rfl ?_ | refine z_nload_n C dL_law_248 rfl ?_ | refine z_aload_n C dL_law_248 rfl ?_
  refine z_iload C dL_law_249 rfl ?_
  refine z_iconst (v := 1) C dL_law_251 rfl ?_
  refine z_iadd C dL_law_252 ?_
  refine z_sld C hX hbl hbA (by unfold vp_in; decide) dL_law_253 ?_
  first | refine z_rload_n C dL_law_254 rfl ?_ | refine z_nload_n C dL_law_254 rfl ?_ | refine z_aload_n C dL_law_254 rfl ?_
  refine z_iload C dL_law_255 rfl ?_
  refine z_iconst (v := 2) C dL_law_257 rfl ?_
  refine z_iadd C dL_law_258 ?_
  refine z_sld C hX hbl hbA (by unfold vp_in; decide) dL_law_259 ?_
  refine z_callV (q := (RX7, TX7, 19)) C (m_setDelay l Γ _ _ _ hm) kc_L_law_260 (by first | assumption | exact zU_same _ _ _) rfl rfl rfl rfl ky_X7_setDelay ⟨(Nat.le_of_ble_eq_true rfl), (Nat.le_of_ble_eq_true rfl)⟩ (Nat.le_of_ble_eq_true rfl) ⟨(Nat.le_of_ble_eq_true rfl), (Nat.le_of_ble_eq_true rfl)⟩ dL_law_260 (fun v260 G260 hp260 => ?_)
  obtain ⟨rfl, rfl⟩ := hp260
  refine z_istore C dL_law_263 (by decide) ?_
  first | refine z_rload_n C dL_law_265 rfl ?_ | refine z_nload_n C dL_law_265 rfl ?_ | refine z_aload_n C dL_law_265 rfl ?_
  refine z_callV (q := (RX7, TX7, 19)) C (m_thrown l Γ _ (zU_same _ _ _)) kc_L_law_266 (by first | assumption | exact zU_same _ _ _) rfl rfl rfl rfl ky_X7_thrown ⟨(Nat.le_of_ble_eq_true rfl), (Nat.le_of_ble_eq_true rfl)⟩ (Nat.le_of_ble_eq_true rfl) ⟨(Nat.le_of_ble_eq_true rfl), (Nat.le_of_ble_eq_true rfl)⟩ dL_law_266 (fun v266 G266 hp266 => ?_)
  obtain ⟨rfl, rfl⟩ := hp266
  refine z_iload C dL_law_269 rfl ?_
  refine z_icmp_eq (tgt := 276) C dL_law_271 (by decide) (fun h271 => ?_) (fun h271 => ?_)
  · refine z_iload C dL_law_276 rfl ?_
    refine z_if_ne (tgt := 293) C dL_law_278 (by decide) (fun h278 => ?_) (fun h278 => ?_)
    · refine z_goto (tgt := 1814) C dL_law_293 (by decide) ?_
      exact hend _ _ _ _ _ _ (Nat.le_of_ble_eq_true rfl) (Nat.le_of_ble_eq_true rfl)
    · exact absurd h278 (by decide)
  · exact absurd rfl h271
abbrev rm_l_setSpeeds : Room := { frames := 8, cells := 0, slots := 0, locals := 137 }
set_option maxHeartbeats 4000000 in
set_option maxRecDepth 100000 in
theorem l_setSpeeds {p : Program} {l : Launch} {e : Env} {s : State} {m : MethodId} {args : Array Value} {below : List Frame} {meth : Method} {c : Code} {Q : State → Prop} {Γ : zY} {A : Nat → Prop} {G : zG} {b xb mo out od : Nat} {xs : Nat → Int32} {f : Nat → Int64} {fd : Nat → UInt64} {μ : Nat → Nat} (hst : l.stackTraces = false) (C : zC p s m args meth c cL_law R_law 9 Γ A) (hX : va_X b 6 xs s s.heap) (hbl : b < s.heap.size) (hbA : ¬ A b)
    (hend : ∀ (G : zG) (k n : Nat) (a6 a7 a8 : Option Value), k ≤ 600002 → n ≤ 7302232 → Z p l e room_1 s m args below meth c Q 9 Γ A G k n 1814 [some (.ref b), some (.ref xb), some (.ref mo), some (.ref out), some (.ref od), some (.int 0), a6, a7, a8] [])
    (hC : zC0 Γ G xb) (ho : G out = some (zJ Γ 1 f)) (hod : G od = some (zDb Γ 1 fd)) (hm : G mo = some (oM0 0 μ)) (hf : zMf Γ G μ) (hou : ∀ i, out ≠ μ i) :
    Z p l e room_1 s m args below meth c Q 9 Γ A G 30 1000 296 [some (.ref b), some (.ref xb), some (.ref mo), some (.ref out), some (.ref od), some (.int 0), none, none, none] [] := by
  have hom : out ≠ mo := fun z => by rw [z, hm] at ho; cases ho
  first | refine z_rload_n C dL_law_296 rfl ?_ | refine z_nload_n C dL_law_296 rfl ?_ | refine z_aload_n C dL_law_296 rfl ?_
  first | refine z_rload_n C dL_law_297 rfl ?_ | refine z_nload_n C dL_law_297 rfl ?_ | refine z_aload_n C dL_law_297 rfl ?_
  refine z_iload C dL_law_298 rfl ?_
  refine z_iconst (v := 1) C dL_law_300 rfl ?_
  refine z_iadd C dL_law_301 ?_
  refine z_sld C hX hbl hbA (by unfold vp_in; decide) dL_law_302 ?_
  first | refine z_rload_n C dL_law_303 rfl ?_ | refine z_nload_n C dL_law_303 rfl ?_ | refine z_aload_n C dL_law_303 rfl ?_
  refine z_iload C dL_law_304 rfl ?_
  refine z_iconst (v := 2) C dL_law_306 rfl ?_
  refine z_iadd C dL_law_307 ?_
  refine z_sld C hX hbl hbA (by unfold vp_in; decide) dL_law_308 ?_
  first | refine z_rload_n C dL_law_309 rfl ?_ | refine z_nload_n C dL_law_309 rfl ?_ | refine z_aload_n C dL_law_309 rfl ?_
  refine z_callSH C (w_setSpeeds l hst Γ _ _ _ hC ho) kc_L_law_310 rfl rfl ky_L_setSpeeds ⟨(Nat.le_of_ble_eq_true rfl), (Nat.le_of_ble_eq_true rfl)⟩ (Nat.le_of_ble_eq_true rfl) ⟨(Nat.le_of_ble_eq_true rfl), (Nat.le_of_ble_eq_true rfl)⟩ dL_law_310 (fun v310 G310 hp310 => ?_)
  rcases hp310 with ⟨rfl, hp1, rfl⟩ | ⟨rfl, hp0, G1, hk1, rfl⟩
  · refine z_istore C dL_law_313 (by decide) ?_
    first | refine z_rload_n C dL_law_315 rfl ?_ | refine z_nload_n C dL_law_315 rfl ?_ | refine z_aload_n C dL_law_315 rfl ?_
    first | refine z_rload_n C dL_law_316 rfl ?_ | refine z_nload_n C dL_law_316 rfl ?_ | refine z_aload_n C dL_law_316 rfl ?_
    refine z_iload C dL_law_317 rfl ?_
    refine z_iconst (v := 1) C dL_law_319 rfl ?_
    refine z_iadd C dL_law_320 ?_
    refine z_sld C hX hbl hbA (by unfold vp_in; decide) dL_law_321 ?_
    first | refine z_rload_n C dL_law_322 rfl ?_ | refine z_nload_n C dL_law_322 rfl ?_ | refine z_aload_n C dL_law_322 rfl ?_
    refine z_iload C dL_law_323 rfl ?_
    refine z_iconst (v := 2) C dL_law_325 rfl ?_
    refine z_iadd C dL_law_326 ?_
    refine z_sld C hX hbl hbA (by unfold vp_in; decide) dL_law_327 ?_
    refine z_callV (q := (RX7, TX7, 19)) C (m_setSpeeds l Γ _ _ _ hm) kc_L_law_328 (by first | assumption | exact zU_same _ _ _) rfl rfl rfl rfl ky_X7_setSpeeds ⟨(Nat.le_of_ble_eq_true rfl), (Nat.le_of_ble_eq_true rfl)⟩ (Nat.le_of_ble_eq_true rfl) ⟨(Nat.le_of_ble_eq_true rfl), (Nat.le_of_ble_eq_true rfl)⟩ dL_law_328 (fun v328 G328 hp328 => ?_)
    obtain ⟨rfl, ⟨fs, hfs⟩, hfr⟩ := hp328
    refine z_istore C dL_law_331 (by decide) ?_
    first | refine z_rload_n C dL_law_333 rfl ?_ | refine z_nload_n C dL_law_333 rfl ?_ | refine z_aload_n C dL_law_333 rfl ?_
    refine z_callV (q := (RX7, TX7, 19)) C (m_thrown l Γ _ hfs) kc_L_law_334 hfs rfl rfl rfl rfl ky_X7_thrown ⟨(Nat.le_of_ble_eq_true rfl), (Nat.le_of_ble_eq_true rfl)⟩ (Nat.le_of_ble_eq_true rfl) ⟨(Nat.le_of_ble_eq_true rfl), (Nat.le_of_ble_eq_true rfl)⟩ dL_law_334 (fun v334 G334 hp334 => ?_)
    obtain ⟨rfl, rfl⟩ := hp334
    refine z_iload C dL_law_337 rfl ?_
    refine z_icmp_eq (tgt := 344) C dL_law_339 (by decide) (fun h339 => ?_) (fun h339 => ?_)
    · refine z_iload C dL_law_344 rfl ?_
      refine z_if_ne (tgt := 361) C dL_law_346 (by decide) (fun h346 => ?_) (fun h346 => ?_)
      · refine z_goto (tgt := 1814) C dL_law_361 (by decide) ?_
        exact hend _ _ _ _ _ _ (Nat.le_of_ble_eq_true rfl) (Nat.le_of_ble_eq_true rfl)
      · exact absurd h346 (by decide)
    · exact absurd hp1 h339
  · refine z_istore C dL_law_313 (by decide) ?_
    first | refine z_rload_n C dL_law_315 rfl ?_ | refine z_nload_n C dL_law_315 rfl ?_ | refine z_aload_n C dL_law_315 rfl ?_
    first | refine z_rload_n C dL_law_316 rfl ?_ | refine z_nload_n C dL_law_316 rfl ?_ | refine z_aload_n C dL_law_316 rfl ?_
    refine z_iload C dL_law_317 rfl ?_
    refine z_iconst (v := 1) C dL_law_319 rfl ?_
    refine z_iadd C dL_law_320 ?_
    refine z_sld C hX hbl hbA (by unfold vp_in; decide) dL_law_321 ?_
    first | refine z_rload_n C dL_law_322 rfl ?_ | refine z_nload_n C dL_law_322 rfl ?_ | refine z_aload_n C dL_law_322 rfl ?_
    refine z_iload C dL_law_323 rfl ?_
    refine z_iconst (v := 2) C dL_law_325 rfl ?_
    refine z_iadd C dL_law_326 ?_
    refine z_sld C hX hbl hbA (by unfold vp_in; decide) dL_law_327 ?_
    refine z_callV (q := (RX7, TX7, 19)) C (m_setSpeeds l Γ _ _ _ ((zU_ne hom.symm).trans (hk1 _ _ hm rfl))) kc_L_law_328 ((zU_ne hom.symm).trans (hk1 _ _ hm rfl)) rfl rfl rfl rfl ky_X7_setSpeeds ⟨(Nat.le_of_ble_eq_true rfl), (Nat.le_of_ble_eq_true rfl)⟩ (Nat.le_of_ble_eq_true rfl) ⟨(Nat.le_of_ble_eq_true rfl), (Nat.le_of_ble_eq_true rfl)⟩ dL_law_328 (fun v328 G328 hp328 => ?_)
    obtain ⟨rfl, ⟨fs, hfs⟩, hfr⟩ := hp328
    refine z_istore C dL_law_331 (by decide) ?_
    first | refine z_rload_n C dL_law_333 rfl ?_ | refine z_nload_n C dL_law_333 rfl ?_ | refine z_aload_n C dL_law_333 rfl ?_
    refine z_callV (q := (RX7, TX7, 19)) C (m_thrown l Γ _ hfs) kc_L_law_334 hfs rfl rfl rfl rfl ky_X7_thrown ⟨(Nat.le_of_ble_eq_true rfl), (Nat.le_of_ble_eq_true rfl)⟩ (Nat.le_of_ble_eq_true rfl) ⟨(Nat.le_of_ble_eq_true rfl), (Nat.le_of_ble_eq_true rfl)⟩ dL_law_334 (fun v334 G334 hp334 => ?_)
    obtain ⟨rfl, rfl⟩ := hp334
    refine z_iload C dL_law_337 rfl ?_
    refine z_icmp_eq (tgt := 344) C dL_law_339 (by decide) (fun h339 => ?_) (fun h339 => ?_)
    · refine z_iload C dL_law_344 rfl ?_
      refine z_if_ne (tgt := 361) C dL_law_346 (by decide) (fun h346 => ?_) (fun h346 => ?_)
      · exact absurd rfl h346
      · first | refine z_rload_n C dL_law_349 rfl ?_ | refine z_nload_n C dL_law_349 rfl ?_ | refine z_aload_n C dL_law_349 rfl ?_
        refine z_iconst (v := 0) C dL_law_350 rfl ?_
        refine z_lald C (hfr _ _ (zU_same _ _ _) hom hou) (by unfold vp_in; decide) dL_law_351 ?_
        refine z_iload C dL_law_352 rfl ?_
        refine z_i2l C dL_law_354 ?_
        refine z_lcmp C dL_law_355 ?_
        refine z_if_eq (tgt := 361) C dL_law_356 (by decide) (fun h356 => ?_) (fun h356 => ?_)
        · refine z_goto (tgt := 1814) C dL_law_361 (by decide) ?_
          exact hend _ _ _ _ _ _ (Nat.le_of_ble_eq_true rfl) (Nat.le_of_ble_eq_true rfl)
        · refine absurd ?_ h356
          rw [show vp_updL f (0 : Int32).toNatClampNeg _ (0 : Int32).toNatClampNeg = _ from if_pos rfl]
          rw [if_pos hp0]; exact lg_cmp_self _
    · exact absurd hp0 h339
abbrev rm_l_way : Room := { frames := 9, cells := 0, slots := 0, locals := 162 }
set_option maxHeartbeats 4000000 in
set_option maxRecDepth 100000 in
theorem l_way {p : Program} {l : Launch} {e : Env} {s : State} {m : MethodId} {args : Array Value} {below : List Frame} {meth : Method} {c : Code} {Q : State → Prop} {Γ : zY} {A : Nat → Prop} {G : zG} {b xb mo out od : Nat} {xs : Nat → Int32} {f : Nat → Int64} {fd : Nat → UInt64} {μ : Nat → Nat} (hst : l.stackTraces = false) (C : zC p s m args meth c cL_law R_law 9 Γ A) (hX : va_X b 6 xs s s.heap) (hbl : b < s.heap.size) (hbA : ¬ A b)
    (hend : ∀ (G : zG) (k n : Nat) (a6 a7 a8 : Option Value), k ≤ 600002 → n ≤ 7302232 → Z p l e room_1 s m args below meth c Q 9 Γ A G k n 1814 [some (.ref b), some (.ref xb), some (.ref mo), some (.ref out), some (.ref od), some (.int 0), a6, a7, a8] [])
    (hC : zC0 Γ G xb) (ho : G out = some (zJ Γ 1 f)) (hod : G od = some (zDb Γ 1 fd)) (hm : G mo = some (oM0 0 μ)) (hf : zMf Γ G μ) (hou : ∀ i, out ≠ μ i) :
    Z p l e room_1 s m args below meth c Q 9 Γ A G 30 1000 364 [some (.ref b), some (.ref xb), some (.ref mo), some (.ref out), some (.ref od), some (.int 0), none, none, none] [] := by
  first | refine z_rload_n C dL_law_364 rfl ?_ | refine z_nload_n C dL_law_364 rfl ?_ | refine z_aload_n C dL_law_364 rfl ?_
  first | refine z_rload_n C dL_law_365 rfl ?_ | refine z_nload_n C dL_law_365 rfl ?_ | refine z_aload_n C dL_law_365 rfl ?_
  refine z_iload C dL_law_366 rfl ?_
  refine z_iconst (v := 1) C dL_law_368 rfl ?_
  refine z_iadd C dL_law_369 ?_
  refine z_sld C hX hbl hbA (by unfold vp_in; decide) dL_law_370 ?_
  first | refine z_rload_n C dL_law_371 rfl ?_ | refine z_nload_n C dL_law_371 rfl ?_ | refine z_aload_n C dL_law_371 rfl ?_
  refine z_iload C dL_law_372 rfl ?_
  refine z_iconst (v := 2) C dL_law_374 rfl ?_
  refine z_iadd C dL_law_375 ?_
  refine z_sld C hX hbl hbA (by unfold vp_in; decide) dL_law_376 ?_
  first | refine z_rload_n C dL_law_377 rfl ?_ | refine z_nload_n C dL_law_377 rfl ?_ | refine z_aload_n C dL_law_377 rfl ?_
  refine z_iload C dL_law_378 rfl ?_
  refine z_iconst (v := 3) C dL_law_380 rfl ?_
  refine z_iadd C dL_law_381 ?_
  refine z_sld C hX hbl hbA (by unfold vp_in; decide) dL_law_382 ?_
  first | refine z_rload_n C dL_law_383 rfl ?_ | refine z_nload_n C dL_law_383 rfl ?_ | refine z_aload_n C dL_law_383 rfl ?_
  refine z_iload C dL_law_384 rfl ?_
  refine z_iconst (v := 4) C dL_law_386 rfl ?_
  refine z_iadd C dL_law_387 ?_
  refine z_sld C hX hbl hbA (by unfold vp_in; decide) dL_law_388 ?_
  first | refine z_rload_n C dL_law_389 rfl ?_ | refine z_nload_n C dL_law_389 rfl ?_ | refine z_aload_n C dL_law_389 rfl ?_
  refine z_callSH C (w_way l hst Γ _ _ _ _ _ hC) kc_L_law_390 rfl rfl ky_L_way ⟨(Nat.le_of_ble_eq_true rfl), (Nat.le_of_ble_eq_true rfl)⟩ (Nat.le_of_ble_eq_true rfl) ⟨(Nat.le_of_ble_eq_true rfl), (Nat.le_of_ble_eq_true rfl)⟩ dL_law_390 (fun v390 G390 hp390 => ?_)
  obtain ⟨rfl, rfl⟩ := hp390
  refine z_istore C dL_law_393 (by decide) ?_
  first | refine z_rload_n C dL_law_395 rfl ?_ | refine z_nload_n C dL_law_395 rfl ?_ | refine z_aload_n C dL_law_395 rfl ?_
  first | refine z_rload_n C dL_law_396 rfl ?_ | refine z_nload_n C dL_law_396 rfl ?_ | refine z_aload_n C dL_law_396 rfl ?_
  refine z_iload C dL_law_397 rfl ?_
  refine z_iconst (v := 1) C dL_law_399 rfl ?_
  refine z_iadd C dL_law_400 ?_
  refine z_sld C hX hbl hbA (by unfold vp_in; decide) dL_law_401 ?_
  first | refine z_rload_n C dL_law_402 rfl ?_ | refine z_nload_n C dL_law_402 rfl ?_ | refine z_aload_n C dL_law_402 rfl ?_
  refine z_iload C dL_law_403 rfl ?_
  refine z_iconst (v := 2) C dL_law_405 rfl ?_
  refine z_iadd C dL_law_406 ?_
  refine z_sld C hX hbl hbA (by unfold vp_in; decide) dL_law_407 ?_
  first | refine z_rload_n C dL_law_408 rfl ?_ | refine z_nload_n C dL_law_408 rfl ?_ | refine z_aload_n C dL_law_408 rfl ?_
  refine z_iload C dL_law_409 rfl ?_
  refine z_iconst (v := 3) C dL_law_411 rfl ?_
  refine z_iadd C dL_law_412 ?_
  refine z_sld C hX hbl hbA (by unfold vp_in; decide) dL_law_413 ?_
  first | refine z_rload_n C dL_law_414 rfl ?_ | refine z_nload_n C dL_law_414 rfl ?_ | refine z_aload_n C dL_law_414 rfl ?_
  refine z_iload C dL_law_415 rfl ?_
  refine z_iconst (v := 4) C dL_law_417 rfl ?_
  refine z_iadd C dL_law_418 ?_
  refine z_sld C hX hbl hbA (by unfold vp_in; decide) dL_law_419 ?_
  refine z_callV (q := (RX7, TX7, 19)) C (m_way l Γ _ _ _ _ _ hm) kc_L_law_420 (by first | assumption | exact zU_same _ _ _) rfl rfl rfl rfl ky_X7_way ⟨(Nat.le_of_ble_eq_true rfl), (Nat.le_of_ble_eq_true rfl)⟩ (Nat.le_of_ble_eq_true rfl) ⟨(Nat.le_of_ble_eq_true rfl), (Nat.le_of_ble_eq_true rfl)⟩ dL_law_420 (fun v420 G420 hp420 => ?_)
  obtain ⟨rfl, rfl⟩ := hp420
  refine z_istore C dL_law_423 (by decide) ?_
  first | refine z_rload_n C dL_law_425 rfl ?_ | refine z_nload_n C dL_law_425 rfl ?_ | refine z_aload_n C dL_law_425 rfl ?_
  refine z_callV (q := (RX7, TX7, 19)) C (m_thrown l Γ _ (zU_same _ _ _)) kc_L_law_426 (by first | assumption | exact zU_same _ _ _) rfl rfl rfl rfl ky_X7_thrown ⟨(Nat.le_of_ble_eq_true rfl), (Nat.le_of_ble_eq_true rfl)⟩ (Nat.le_of_ble_eq_true rfl) ⟨(Nat.le_of_ble_eq_true rfl), (Nat.le_of_ble_eq_true rfl)⟩ dL_law_426 (fun v426 G426 hp426 => ?_)
  obtain ⟨rfl, rfl⟩ := hp426
  refine z_iload C dL_law_429 rfl ?_
  refine z_icmp_eq (tgt := 436) C dL_law_431 (by decide) (fun h431 => ?_) (fun h431 => ?_)
  · refine z_iload C dL_law_436 rfl ?_
    refine z_if_ne (tgt := 453) C dL_law_438 (by decide) (fun h438 => ?_) (fun h438 => ?_)
    · refine z_goto (tgt := 1814) C dL_law_453 (by decide) ?_
      exact hend _ _ _ _ _ _ (Nat.le_of_ble_eq_true rfl) (Nat.le_of_ble_eq_true rfl)
    · exact absurd h438 (by decide)
  · exact absurd rfl h431
abbrev rm_l_needs : Room := { frames := 9, cells := 0, slots := 0, locals := 164 }
set_option maxHeartbeats 4000000 in
set_option maxRecDepth 100000 in
theorem l_needs {p : Program} {l : Launch} {e : Env} {s : State} {m : MethodId} {args : Array Value} {below : List Frame} {meth : Method} {c : Code} {Q : State → Prop} {Γ : zY} {A : Nat → Prop} {G : zG} {b xb mo out od : Nat} {xs : Nat → Int32} {f : Nat → Int64} {fd : Nat → UInt64} {μ : Nat → Nat} (hst : l.stackTraces = false) (C : zC p s m args meth c cL_law R_law 9 Γ A) (hX : va_X b 6 xs s s.heap) (hbl : b < s.heap.size) (hbA : ¬ A b)
    (hend : ∀ (G : zG) (k n : Nat) (a6 a7 a8 : Option Value), k ≤ 600002 → n ≤ 7302232 → Z p l e room_1 s m args below meth c Q 9 Γ A G k n 1814 [some (.ref b), some (.ref xb), some (.ref mo), some (.ref out), some (.ref od), some (.int 0), a6, a7, a8] [])
    (hC : zC0 Γ G xb) (ho : G out = some (zJ Γ 1 f)) (hod : G od = some (zDb Γ 1 fd)) (hm : G mo = some (oM0 0 μ)) (hf : zMf Γ G μ) (hou : ∀ i, out ≠ μ i) :
    Z p l e room_1 s m args below meth c Q 9 Γ A G 30 1000 456 [some (.ref b), some (.ref xb), some (.ref mo), some (.ref out), some (.ref od), some (.int 0), none, none, none] [] := by
  first | refine z_rload_n C dL_law_456 rfl ?_ | refine z_nload_n C dL_law_456 rfl ?_ | refine z_aload_n C dL_law_456 rfl ?_
  first | refine z_rload_n C dL_law_457 rfl ?_ | refine z_nload_n C dL_law_457 rfl ?_ | refine z_aload_n C dL_law_457 rfl ?_
  refine z_iload C dL_law_458 rfl ?_
  refine z_iconst (v := 1) C dL_law_460 rfl ?_
  refine z_iadd C dL_law_461 ?_
  refine z_sld C hX hbl hbA (by unfold vp_in; decide) dL_law_462 ?_
  first | refine z_rload_n C dL_law_463 rfl ?_ | refine z_nload_n C dL_law_463 rfl ?_ | refine z_aload_n C dL_law_463 rfl ?_
  refine z_iload C dL_law_464 rfl ?_
  refine z_iconst (v := 2) C dL_law_466 rfl ?_
  refine z_iadd C dL_law_467 ?_
  refine z_sld C hX hbl hbA (by unfold vp_in; decide) dL_law_468 ?_
  first | refine z_rload_n C dL_law_469 rfl ?_ | refine z_nload_n C dL_law_469 rfl ?_ | refine z_aload_n C dL_law_469 rfl ?_
  refine z_iload C dL_law_470 rfl ?_
  refine z_iconst (v := 3) C dL_law_472 rfl ?_
  refine z_iadd C dL_law_473 ?_
  refine z_sld C hX hbl hbA (by unfold vp_in; decide) dL_law_474 ?_
  first | refine z_rload_n C dL_law_475 rfl ?_ | refine z_nload_n C dL_law_475 rfl ?_ | refine z_aload_n C dL_law_475 rfl ?_
  refine z_iload C dL_law_476 rfl ?_
  refine z_iconst (v := 4) C dL_law_478 rfl ?_
  refine z_iadd C dL_law_479 ?_
  refine z_sld C hX hbl hbA (by unfold vp_in; decide) dL_law_480 ?_
  first | refine z_rload_n C dL_law_481 rfl ?_ | refine z_nload_n C dL_law_481 rfl ?_ | refine z_aload_n C dL_law_481 rfl ?_
  refine z_iload C dL_law_482 rfl ?_
  refine z_iconst (v := 5) C dL_law_484 rfl ?_
  refine z_iadd C dL_law_485 ?_
  refine z_sld C hX hbl hbA (by unfold vp_in; decide) dL_law_486 ?_
  refine z_if_eq (tgt := 494) C dL_law_487 (by decide) (fun h487 => ?_) (fun h487 => ?_)
  · refine z_iconst (v := 0) C dL_law_494 rfl ?_
    first | refine z_rload_n C dL_law_495 rfl ?_ | refine z_nload_n C dL_law_495 rfl ?_ | refine z_aload_n C dL_law_495 rfl ?_
    refine z_callSH C (w_needs l hst Γ _ _ _ _ _ _ hC) kc_L_law_496 rfl rfl ky_L_needs ⟨(Nat.le_of_ble_eq_true rfl), (Nat.le_of_ble_eq_true rfl)⟩ (Nat.le_of_ble_eq_true rfl) ⟨(Nat.le_of_ble_eq_true rfl), (Nat.le_of_ble_eq_true rfl)⟩ dL_law_496 (fun v496 G496 hp496 => ?_)
    obtain ⟨rfl, rfl⟩ := hp496
    refine z_istore C dL_law_499 (by decide) ?_
    first | refine z_rload_n C dL_law_501 rfl ?_ | refine z_nload_n C dL_law_501 rfl ?_ | refine z_aload_n C dL_law_501 rfl ?_
    first | refine z_rload_n C dL_law_502 rfl ?_ | refine z_nload_n C dL_law_502 rfl ?_ | refine z_aload_n C dL_law_502 rfl ?_
    refine z_iload C dL_law_503 rfl ?_
    refine z_iconst (v := 1) C dL_law_505 rfl ?_
    refine z_iadd C dL_law_506 ?_
    refine z_sld C hX hbl hbA (by unfold vp_in; decide) dL_law_507 ?_
    first | refine z_rload_n C dL_law_508 rfl ?_ | refine z_nload_n C dL_law_508 rfl ?_ | refine z_aload_n C dL_law_508 rfl ?_
    refine z_iload C dL_law_509 rfl ?_
    refine z_iconst (v := 2) C dL_law_511 rfl ?_
    refine z_iadd C dL_law_512 ?_
    refine z_sld C hX hbl hbA (by unfold vp_in; decide) dL_law_513 ?_
    first | refine z_rload_n C dL_law_514 rfl ?_ | refine z_nload_n C dL_law_514 rfl ?_ | refine z_aload_n C dL_law_514 rfl ?_
    refine z_iload C dL_law_515 rfl ?_
    refine z_iconst (v := 3) C dL_law_517 rfl ?_
    refine z_iadd C dL_law_518 ?_
    refine z_sld C hX hbl hbA (by unfold vp_in; decide) dL_law_519 ?_
    first | refine z_rload_n C dL_law_520 rfl ?_ | refine z_nload_n C dL_law_520 rfl ?_ | refine z_aload_n C dL_law_520 rfl ?_
    refine z_iload C dL_law_521 rfl ?_
    refine z_iconst (v := 4) C dL_law_523 rfl ?_
    refine z_iadd C dL_law_524 ?_
    refine z_sld C hX hbl hbA (by unfold vp_in; decide) dL_law_525 ?_
    first | refine z_rload_n C dL_law_526 rfl ?_ | refine z_nload_n C dL_law_526 rfl ?_ | refine z_aload_n C dL_law_526 rfl ?_
    refine z_iload C dL_law_527 rfl ?_
    refine z_iconst (v := 5) C dL_law_529 rfl ?_
    refine z_iadd C dL_law_530 ?_
    refine z_sld C hX hbl hbA (by unfold vp_in; decide) dL_law_531 ?_
    refine z_if_eq (tgt := 539) C dL_law_532 (by decide) (fun h532 => ?_) (fun h532 => ?_)
    · refine z_iconst (v := 0) C dL_law_539 rfl ?_
      refine z_callV (q := (RX7, TX7, 19)) C (m_needs l Γ _ _ _ _ _ _ hm) kc_L_law_540 (by first | assumption | exact zU_same _ _ _) rfl rfl rfl rfl ky_X7_needs ⟨(Nat.le_of_ble_eq_true rfl), (Nat.le_of_ble_eq_true rfl)⟩ (Nat.le_of_ble_eq_true rfl) ⟨(Nat.le_of_ble_eq_true rfl), (Nat.le_of_ble_eq_true rfl)⟩ dL_law_540 (fun v540 G540 hp540 => ?_)
      obtain ⟨rfl, rfl⟩ := hp540
      refine z_istore C dL_law_543 (by decide) ?_
      first | refine z_rload_n C dL_law_545 rfl ?_ | refine z_nload_n C dL_law_545 rfl ?_ | refine z_aload_n C dL_law_545 rfl ?_
      refine z_callV (q := (RX7, TX7, 19)) C (m_thrown l Γ _ (zU_same _ _ _)) kc_L_law_546 (by first | assumption | exact zU_same _ _ _) rfl rfl rfl rfl ky_X7_thrown ⟨(Nat.le_of_ble_eq_true rfl), (Nat.le_of_ble_eq_true rfl)⟩ (Nat.le_of_ble_eq_true rfl) ⟨(Nat.le_of_ble_eq_true rfl), (Nat.le_of_ble_eq_true rfl)⟩ dL_law_546 (fun v546 G546 hp546 => ?_)
      obtain ⟨rfl, rfl⟩ := hp546
      refine z_iload C dL_law_549 rfl ?_
      refine z_icmp_eq (tgt := 556) C dL_law_551 (by decide) (fun h551 => ?_) (fun h551 => ?_)
      · refine z_iload C dL_law_556 rfl ?_
        refine z_if_ne (tgt := 573) C dL_law_558 (by decide) (fun h558 => ?_) (fun h558 => ?_)
        · refine z_goto (tgt := 1814) C dL_law_573 (by decide) ?_
          exact hend _ _ _ _ _ _ (Nat.le_of_ble_eq_true rfl) (Nat.le_of_ble_eq_true rfl)
        · exact absurd h558 (by decide)
      · exact absurd rfl h551
    · refine z_iconst (v := 1) C dL_law_535 rfl ?_
      refine z_goto (tgt := 540) C dL_law_536 (by decide) ?_
      refine z_callV (q := (RX7, TX7, 19)) C (m_needs l Γ _ _ _ _ _ _ hm) kc_L_law_540 (by first | assumption | exact zU_same _ _ _) rfl rfl rfl rfl ky_X7_needs ⟨(Nat.le_of_ble_eq_true rfl), (Nat.le_of_ble_eq_true rfl)⟩ (Nat.le_of_ble_eq_true rfl) ⟨(Nat.le_of_ble_eq_true rfl), (Nat.le_of_ble_eq_true rfl)⟩ dL_law_540 (fun v540 G540 hp540 => ?_)
      obtain ⟨rfl, rfl⟩ := hp540
      refine z_istore C dL_law_543 (by decide) ?_
      first | refine z_rload_n C dL_law_545 rfl ?_ | refine z_nload_n C dL_law_545 rfl ?_ | refine z_aload_n C dL_law_545 rfl ?_
      refine z_callV (q := (RX7, TX7, 19)) C (m_thrown l Γ _ (zU_same _ _ _)) kc_L_law_546 (by first | assumption | exact zU_same _ _ _) rfl rfl rfl rfl ky_X7_thrown ⟨(Nat.le_of_ble_eq_true rfl), (Nat.le_of_ble_eq_true rfl)⟩ (Nat.le_of_ble_eq_true rfl) ⟨(Nat.le_of_ble_eq_true rfl), (Nat.le_of_ble_eq_true rfl)⟩ dL_law_546 (fun v546 G546 hp546 => ?_)
      obtain ⟨rfl, rfl⟩ := hp546
      refine z_iload C dL_law_549 rfl ?_
      refine z_icmp_eq (tgt := 556) C dL_law_551 (by decide) (fun h551 => ?_) (fun h551 => ?_)
      · refine z_iload C dL_law_556 rfl ?_
        refine z_if_ne (tgt := 573) C dL_law_558 (by decide) (fun h558 => ?_) (fun h558 => ?_)
        · refine z_goto (tgt := 1814) C dL_law_573 (by decide) ?_
          exact hend _ _ _ _ _ _ (Nat.le_of_ble_eq_true rfl) (Nat.le_of_ble_eq_true rfl)
        · exact absurd h558 (by decide)
      · exact absurd rfl h551
  · refine z_iconst (v := 1) C dL_law_490 rfl ?_
    refine z_goto (tgt := 495) C dL_law_491 (by decide) ?_
    first | refine z_rload_n C dL_law_495 rfl ?_ | refine z_nload_n C dL_law_495 rfl ?_ | refine z_aload_n C dL_law_495 rfl ?_
    refine z_callSH C (w_needs l hst Γ _ _ _ _ _ _ hC) kc_L_law_496 rfl rfl ky_L_needs ⟨(Nat.le_of_ble_eq_true rfl), (Nat.le_of_ble_eq_true rfl)⟩ (Nat.le_of_ble_eq_true rfl) ⟨(Nat.le_of_ble_eq_true rfl), (Nat.le_of_ble_eq_true rfl)⟩ dL_law_496 (fun v496 G496 hp496 => ?_)
    obtain ⟨rfl, rfl⟩ := hp496
    refine z_istore C dL_law_499 (by decide) ?_
    first | refine z_rload_n C dL_law_501 rfl ?_ | refine z_nload_n C dL_law_501 rfl ?_ | refine z_aload_n C dL_law_501 rfl ?_
    first | refine z_rload_n C dL_law_502 rfl ?_ | refine z_nload_n C dL_law_502 rfl ?_ | refine z_aload_n C dL_law_502 rfl ?_
    refine z_iload C dL_law_503 rfl ?_
    refine z_iconst (v := 1) C dL_law_505 rfl ?_
    refine z_iadd C dL_law_506 ?_
    refine z_sld C hX hbl hbA (by unfold vp_in; decide) dL_law_507 ?_
    first | refine z_rload_n C dL_law_508 rfl ?_ | refine z_nload_n C dL_law_508 rfl ?_ | refine z_aload_n C dL_law_508 rfl ?_
    refine z_iload C dL_law_509 rfl ?_
    refine z_iconst (v := 2) C dL_law_511 rfl ?_
    refine z_iadd C dL_law_512 ?_
    refine z_sld C hX hbl hbA (by unfold vp_in; decide) dL_law_513 ?_
    first | refine z_rload_n C dL_law_514 rfl ?_ | refine z_nload_n C dL_law_514 rfl ?_ | refine z_aload_n C dL_law_514 rfl ?_
    refine z_iload C dL_law_515 rfl ?_
    refine z_iconst (v := 3) C dL_law_517 rfl ?_
    refine z_iadd C dL_law_518 ?_
    refine z_sld C hX hbl hbA (by unfold vp_in; decide) dL_law_519 ?_
    first | refine z_rload_n C dL_law_520 rfl ?_ | refine z_nload_n C dL_law_520 rfl ?_ | refine z_aload_n C dL_law_520 rfl ?_
    refine z_iload C dL_law_521 rfl ?_
    refine z_iconst (v := 4) C dL_law_523 rfl ?_
    refine z_iadd C dL_law_524 ?_
    refine z_sld C hX hbl hbA (by unfold vp_in; decide) dL_law_525 ?_
    first | refine z_rload_n C dL_law_526 rfl ?_ | refine z_nload_n C dL_law_526 rfl ?_ | refine z_aload_n C dL_law_526 rfl ?_
    refine z_iload C dL_law_527 rfl ?_
    refine z_iconst (v := 5) C dL_law_529 rfl ?_
    refine z_iadd C dL_law_530 ?_
    refine z_sld C hX hbl hbA (by unfold vp_in; decide) dL_law_531 ?_
    refine z_if_eq (tgt := 539) C dL_law_532 (by decide) (fun h532 => ?_) (fun h532 => ?_)
    · refine z_iconst (v := 0) C dL_law_539 rfl ?_
      refine z_callV (q := (RX7, TX7, 19)) C (m_needs l Γ _ _ _ _ _ _ hm) kc_L_law_540 (by first | assumption | exact zU_same _ _ _) rfl rfl rfl rfl ky_X7_needs ⟨(Nat.le_of_ble_eq_true rfl), (Nat.le_of_ble_eq_true rfl)⟩ (Nat.le_of_ble_eq_true rfl) ⟨(Nat.le_of_ble_eq_true rfl), (Nat.le_of_ble_eq_true rfl)⟩ dL_law_540 (fun v540 G540 hp540 => ?_)
      obtain ⟨rfl, rfl⟩ := hp540
      refine z_istore C dL_law_543 (by decide) ?_
      first | refine z_rload_n C dL_law_545 rfl ?_ | refine z_nload_n C dL_law_545 rfl ?_ | refine z_aload_n C dL_law_545 rfl ?_
      refine z_callV (q := (RX7, TX7, 19)) C (m_thrown l Γ _ (zU_same _ _ _)) kc_L_law_546 (by first | assumption | exact zU_same _ _ _) rfl rfl rfl rfl ky_X7_thrown ⟨(Nat.le_of_ble_eq_true rfl), (Nat.le_of_ble_eq_true rfl)⟩ (Nat.le_of_ble_eq_true rfl) ⟨(Nat.le_of_ble_eq_true rfl), (Nat.le_of_ble_eq_true rfl)⟩ dL_law_546 (fun v546 G546 hp546 => ?_)
      obtain ⟨rfl, rfl⟩ := hp546
      refine z_iload C dL_law_549 rfl ?_
      refine z_icmp_eq (tgt := 556) C dL_law_551 (by decide) (fun h551 => ?_) (fun h551 => ?_)
      · refine z_iload C dL_law_556 rfl ?_
        refine z_if_ne (tgt := 573) C dL_law_558 (by decide) (fun h558 => ?_) (fun h558 => ?_)
        · refine z_goto (tgt := 1814) C dL_law_573 (by decide) ?_
          exact hend _ _ _ _ _ _ (Nat.le_of_ble_eq_true rfl) (Nat.le_of_ble_eq_true rfl)
        · exact absurd h558 (by decide)
      · exact absurd rfl h551
    · refine z_iconst (v := 1) C dL_law_535 rfl ?_
      refine z_goto (tgt := 540) C dL_law_536 (by decide) ?_
      refine z_callV (q := (RX7, TX7, 19)) C (m_needs l Γ _ _ _ _ _ _ hm) kc_L_law_540 (by first | assumption | exact zU_same _ _ _) rfl rfl rfl rfl ky_X7_needs ⟨(Nat.le_of_ble_eq_true rfl), (Nat.le_of_ble_eq_true rfl)⟩ (Nat.le_of_ble_eq_true rfl) ⟨(Nat.le_of_ble_eq_true rfl), (Nat.le_of_ble_eq_true rfl)⟩ dL_law_540 (fun v540 G540 hp540 => ?_)
      obtain ⟨rfl, rfl⟩ := hp540
      refine z_istore C dL_law_543 (by decide) ?_
      first | refine z_rload_n C dL_law_545 rfl ?_ | refine z_nload_n C dL_law_545 rfl ?_ | refine z_aload_n C dL_law_545 rfl ?_
      refine z_callV (q := (RX7, TX7, 19)) C (m_thrown l Γ _ (zU_same _ _ _)) kc_L_law_546 (by first | assumption | exact zU_same _ _ _) rfl rfl rfl rfl ky_X7_thrown ⟨(Nat.le_of_ble_eq_true rfl), (Nat.le_of_ble_eq_true rfl)⟩ (Nat.le_of_ble_eq_true rfl) ⟨(Nat.le_of_ble_eq_true rfl), (Nat.le_of_ble_eq_true rfl)⟩ dL_law_546 (fun v546 G546 hp546 => ?_)
      obtain ⟨rfl, rfl⟩ := hp546
      refine z_iload C dL_law_549 rfl ?_
      refine z_icmp_eq (tgt := 556) C dL_law_551 (by decide) (fun h551 => ?_) (fun h551 => ?_)
      · refine z_iload C dL_law_556 rfl ?_
        refine z_if_ne (tgt := 573) C dL_law_558 (by decide) (fun h558 => ?_) (fun h558 => ?_)
        · refine z_goto (tgt := 1814) C dL_law_573 (by decide) ?_
          exact hend _ _ _ _ _ _ (Nat.le_of_ble_eq_true rfl) (Nat.le_of_ble_eq_true rfl)
        · exact absurd h558 (by decide)
      · exact absurd rfl h551
abbrev rm_l_addPick : Room := { frames := 9, cells := 0, slots := 0, locals := 161 }
set_option maxHeartbeats 4000000 in
set_option maxRecDepth 100000 in
theorem l_addPick {p : Program} {l : Launch} {e : Env} {s : State} {m : MethodId} {args : Array Value} {below : List Frame} {meth : Method} {c : Code} {Q : State → Prop} {Γ : zY} {A : Nat → Prop} {G : zG} {b xb mo out od : Nat} {xs : Nat → Int32} {f : Nat → Int64} {fd : Nat → UInt64} {μ : Nat → Nat} (hst : l.stackTraces = false) (C : zC p s m args meth c cL_law R_law 9 Γ A) (hX : va_X b 6 xs s s.heap) (hbl : b < s.heap.size) (hbA : ¬ A b)
    (hend : ∀ (G : zG) (k n : Nat) (a6 a7 a8 : Option Value), k ≤ 600002 → n ≤ 7302232 → Z p l e room_1 s m args below meth c Q 9 Γ A G k n 1814 [some (.ref b), some (.ref xb), some (.ref mo), some (.ref out), some (.ref od), some (.int 0), a6, a7, a8] [])
    (hC : zC0 Γ G xb) (ho : G out = some (zJ Γ 1 f)) (hod : G od = some (zDb Γ 1 fd)) (hm : G mo = some (oM0 0 μ)) (hf : zMf Γ G μ) (hou : ∀ i, out ≠ μ i) :
    Z p l e room_1 s m args below meth c Q 9 Γ A G 30 1000 576 [some (.ref b), some (.ref xb), some (.ref mo), some (.ref out), some (.ref od), some (.int 0), none, none, none] [] := by
  first | refine z_rload_n C dL_law_576 rfl ?_ | refine z_nload_n C dL_law_576 rfl ?_ | refine z_aload_n C dL_law_576 rfl ?_
  first | refine z_rload_n C dL_law_577 rfl ?_ | refine z_nload_n C dL_law_577 rfl ?_ | refine z_aload_n C dL_law_577 rfl ?_
  refine z_iload C dL_law_578 rfl ?_
  refine z_iconst (v := 1) C dL_law_580 rfl ?_
  refine z_iadd C dL_law_581 ?_
  refine z_sld C hX hbl hbA (by unfold vp_in; decide) dL_law_582 ?_
  first | refine z_rload_n C dL_law_583 rfl ?_ | refine z_nload_n C dL_law_583 rfl ?_ | refine z_aload_n C dL_law_583 rfl ?_
  refine z_iload C dL_law_584 rfl ?_
  refine z_iconst (v := 2) C dL_law_586 rfl ?_
  refine z_iadd C dL_law_587 ?_
  refine z_sld C hX hbl hbA (by unfold vp_in; decide) dL_law_588 ?_
  refine z_if_eq (tgt := 596) C dL_law_589 (by decide) (fun h589 => ?_) (fun h589 => ?_)
  · refine z_iconst (v := 0) C dL_law_596 rfl ?_
    first | refine z_rload_n C dL_law_597 rfl ?_ | refine z_nload_n C dL_law_597 rfl ?_ | refine z_aload_n C dL_law_597 rfl ?_
    refine z_iload C dL_law_598 rfl ?_
    refine z_iconst (v := 3) C dL_law_600 rfl ?_
    refine z_iadd C dL_law_601 ?_
    refine z_sld C hX hbl hbA (by unfold vp_in; decide) dL_law_602 ?_
    first | refine z_rload_n C dL_law_603 rfl ?_ | refine z_nload_n C dL_law_603 rfl ?_ | refine z_aload_n C dL_law_603 rfl ?_
    refine z_callSH C (w_addPick l hst Γ _ _ _ _ hC) kc_L_law_604 rfl rfl ky_L_addPick ⟨(Nat.le_of_ble_eq_true rfl), (Nat.le_of_ble_eq_true rfl)⟩ (Nat.le_of_ble_eq_true rfl) ⟨(Nat.le_of_ble_eq_true rfl), (Nat.le_of_ble_eq_true rfl)⟩ dL_law_604 (fun v604 G604 hp604 => ?_)
    obtain ⟨rfl, rfl⟩ := hp604
    refine z_istore C dL_law_607 (by decide) ?_
    first | refine z_rload_n C dL_law_609 rfl ?_ | refine z_nload_n C dL_law_609 rfl ?_ | refine z_aload_n C dL_law_609 rfl ?_
    first | refine z_rload_n C dL_law_610 rfl ?_ | refine z_nload_n C dL_law_610 rfl ?_ | refine z_aload_n C dL_law_610 rfl ?_
    refine z_iload C dL_law_611 rfl ?_
    refine z_iconst (v := 1) C dL_law_613 rfl ?_
    refine z_iadd C dL_law_614 ?_
    refine z_sld C hX hbl hbA (by unfold vp_in; decide) dL_law_615 ?_
    first | refine z_rload_n C dL_law_616 rfl ?_ | refine z_nload_n C dL_law_616 rfl ?_ | refine z_aload_n C dL_law_616 rfl ?_
    refine z_iload C dL_law_617 rfl ?_
    refine z_iconst (v := 2) C dL_law_619 rfl ?_
    refine z_iadd C dL_law_620 ?_
    refine z_sld C hX hbl hbA (by unfold vp_in; decide) dL_law_621 ?_
    refine z_if_eq (tgt := 629) C dL_law_622 (by decide) (fun h622 => ?_) (fun h622 => ?_)
    · refine z_iconst (v := 0) C dL_law_629 rfl ?_
      first | refine z_rload_n C dL_law_630 rfl ?_ | refine z_nload_n C dL_law_630 rfl ?_ | refine z_aload_n C dL_law_630 rfl ?_
      refine z_iload C dL_law_631 rfl ?_
      refine z_iconst (v := 3) C dL_law_633 rfl ?_
      refine z_iadd C dL_law_634 ?_
      refine z_sld C hX hbl hbA (by unfold vp_in; decide) dL_law_635 ?_
      refine z_callV (q := (RX7, TX7, 19)) C (m_addPick l Γ _ _ _ _ hm) kc_L_law_636 (by first | assumption | exact zU_same _ _ _) rfl rfl rfl rfl ky_X7_addPick ⟨(Nat.le_of_ble_eq_true rfl), (Nat.le_of_ble_eq_true rfl)⟩ (Nat.le_of_ble_eq_true rfl) ⟨(Nat.le_of_ble_eq_true rfl), (Nat.le_of_ble_eq_true rfl)⟩ dL_law_636 (fun v636 G636 hp636 => ?_)
      obtain ⟨rfl, rfl⟩ := hp636
      refine z_istore C dL_law_639 (by decide) ?_
      first | refine z_rload_n C dL_law_641 rfl ?_ | refine z_nload_n C dL_law_641 rfl ?_ | refine z_aload_n C dL_law_641 rfl ?_
      refine z_callV (q := (RX7, TX7, 19)) C (m_thrown l Γ _ (zU_same _ _ _)) kc_L_law_642 (by first | assumption | exact zU_same _ _ _) rfl rfl rfl rfl ky_X7_thrown ⟨(Nat.le_of_ble_eq_true rfl), (Nat.le_of_ble_eq_true rfl)⟩ (Nat.le_of_ble_eq_true rfl) ⟨(Nat.le_of_ble_eq_true rfl), (Nat.le_of_ble_eq_true rfl)⟩ dL_law_642 (fun v642 G642 hp642 => ?_)
      obtain ⟨rfl, rfl⟩ := hp642
      refine z_iload C dL_law_645 rfl ?_
      refine z_icmp_eq (tgt := 652) C dL_law_647 (by decide) (fun h647 => ?_) (fun h647 => ?_)
      · refine z_iload C dL_law_652 rfl ?_
        refine z_if_ne (tgt := 669) C dL_law_654 (by decide) (fun h654 => ?_) (fun h654 => ?_)
        · refine z_goto (tgt := 1814) C dL_law_669 (by decide) ?_
          exact hend _ _ _ _ _ _ (Nat.le_of_ble_eq_true rfl) (Nat.le_of_ble_eq_true rfl)
        · exact absurd h654 (by decide)
      · exact absurd rfl h647
    · refine z_iconst (v := 1) C dL_law_625 rfl ?_
      refine z_goto (tgt := 630) C dL_law_626 (by decide) ?_
      first | refine z_rload_n C dL_law_630 rfl ?_ | refine z_nload_n C dL_law_630 rfl ?_ | refine z_aload_n C dL_law_630 rfl ?_
      refine z_iload C dL_law_631 rfl ?_
      refine z_iconst (v := 3) C dL_law_633 rfl ?_
      refine z_iadd C dL_law_634 ?_
      refine z_sld C hX hbl hbA (by unfold vp_in; decide) dL_law_635 ?_
      refine z_callV (q := (RX7, TX7, 19)) C (m_addPick l Γ _ _ _ _ hm) kc_L_law_636 (by first | assumption | exact zU_same _ _ _) rfl rfl rfl rfl ky_X7_addPick ⟨(Nat.le_of_ble_eq_true rfl), (Nat.le_of_ble_eq_true rfl)⟩ (Nat.le_of_ble_eq_true rfl) ⟨(Nat.le_of_ble_eq_true rfl), (Nat.le_of_ble_eq_true rfl)⟩ dL_law_636 (fun v636 G636 hp636 => ?_)
      obtain ⟨rfl, rfl⟩ := hp636
      refine z_istore C dL_law_639 (by decide) ?_
      first | refine z_rload_n C dL_law_641 rfl ?_ | refine z_nload_n C dL_law_641 rfl ?_ | refine z_aload_n C dL_law_641 rfl ?_
      refine z_callV (q := (RX7, TX7, 19)) C (m_thrown l Γ _ (zU_same _ _ _)) kc_L_law_642 (by first | assumption | exact zU_same _ _ _) rfl rfl rfl rfl ky_X7_thrown ⟨(Nat.le_of_ble_eq_true rfl), (Nat.le_of_ble_eq_true rfl)⟩ (Nat.le_of_ble_eq_true rfl) ⟨(Nat.le_of_ble_eq_true rfl), (Nat.le_of_ble_eq_true rfl)⟩ dL_law_642 (fun v642 G642 hp642 => ?_)
      obtain ⟨rfl, rfl⟩ := hp642
      refine z_iload C dL_law_645 rfl ?_
      refine z_icmp_eq (tgt := 652) C dL_law_647 (by decide) (fun h647 => ?_) (fun h647 => ?_)
      · refine z_iload C dL_law_652 rfl ?_
        refine z_if_ne (tgt := 669) C dL_law_654 (by decide) (fun h654 => ?_) (fun h654 => ?_)
        · refine z_goto (tgt := 1814) C dL_law_669 (by decide) ?_
          exact hend _ _ _ _ _ _ (Nat.le_of_ble_eq_true rfl) (Nat.le_of_ble_eq_true rfl)
        · exact absurd h654 (by decide)
      · exact absurd rfl h647
  · refine z_iconst (v := 1) C dL_law_592 rfl ?_
    refine z_goto (tgt := 597) C dL_law_593 (by decide) ?_
    first | refine z_rload_n C dL_law_597 rfl ?_ | refine z_nload_n C dL_law_597 rfl ?_ | refine z_aload_n C dL_law_597 rfl ?_
    refine z_iload C dL_law_598 rfl ?_
    refine z_iconst (v := 3) C dL_law_600 rfl ?_
    refine z_iadd C dL_law_601 ?_
    refine z_sld C hX hbl hbA (by unfold vp_in; decide) dL_law_602 ?_
    first | refine z_rload_n C dL_law_603 rfl ?_ | refine z_nload_n C dL_law_603 rfl ?_ | refine z_aload_n C dL_law_603 rfl ?_
    refine z_callSH C (w_addPick l hst Γ _ _ _ _ hC) kc_L_law_604 rfl rfl ky_L_addPick ⟨(Nat.le_of_ble_eq_true rfl), (Nat.le_of_ble_eq_true rfl)⟩ (Nat.le_of_ble_eq_true rfl) ⟨(Nat.le_of_ble_eq_true rfl), (Nat.le_of_ble_eq_true rfl)⟩ dL_law_604 (fun v604 G604 hp604 => ?_)
    obtain ⟨rfl, rfl⟩ := hp604
    refine z_istore C dL_law_607 (by decide) ?_
    first | refine z_rload_n C dL_law_609 rfl ?_ | refine z_nload_n C dL_law_609 rfl ?_ | refine z_aload_n C dL_law_609 rfl ?_
    first | refine z_rload_n C dL_law_610 rfl ?_ | refine z_nload_n C dL_law_610 rfl ?_ | refine z_aload_n C dL_law_610 rfl ?_
    refine z_iload C dL_law_611 rfl ?_
    refine z_iconst (v := 1) C dL_law_613 rfl ?_
    refine z_iadd C dL_law_614 ?_
    refine z_sld C hX hbl hbA (by unfold vp_in; decide) dL_law_615 ?_
    first | refine z_rload_n C dL_law_616 rfl ?_ | refine z_nload_n C dL_law_616 rfl ?_ | refine z_aload_n C dL_law_616 rfl ?_
    refine z_iload C dL_law_617 rfl ?_
    refine z_iconst (v := 2) C dL_law_619 rfl ?_
    refine z_iadd C dL_law_620 ?_
    refine z_sld C hX hbl hbA (by unfold vp_in; decide) dL_law_621 ?_
    refine z_if_eq (tgt := 629) C dL_law_622 (by decide) (fun h622 => ?_) (fun h622 => ?_)
    · refine z_iconst (v := 0) C dL_law_629 rfl ?_
      first | refine z_rload_n C dL_law_630 rfl ?_ | refine z_nload_n C dL_law_630 rfl ?_ | refine z_aload_n C dL_law_630 rfl ?_
      refine z_iload C dL_law_631 rfl ?_
      refine z_iconst (v := 3) C dL_law_633 rfl ?_
      refine z_iadd C dL_law_634 ?_
      refine z_sld C hX hbl hbA (by unfold vp_in; decide) dL_law_635 ?_
      refine z_callV (q := (RX7, TX7, 19)) C (m_addPick l Γ _ _ _ _ hm) kc_L_law_636 (by first | assumption | exact zU_same _ _ _) rfl rfl rfl rfl ky_X7_addPick ⟨(Nat.le_of_ble_eq_true rfl), (Nat.le_of_ble_eq_true rfl)⟩ (Nat.le_of_ble_eq_true rfl) ⟨(Nat.le_of_ble_eq_true rfl), (Nat.le_of_ble_eq_true rfl)⟩ dL_law_636 (fun v636 G636 hp636 => ?_)
      obtain ⟨rfl, rfl⟩ := hp636
      refine z_istore C dL_law_639 (by decide) ?_
      first | refine z_rload_n C dL_law_641 rfl ?_ | refine z_nload_n C dL_law_641 rfl ?_ | refine z_aload_n C dL_law_641 rfl ?_
      refine z_callV (q := (RX7, TX7, 19)) C (m_thrown l Γ _ (zU_same _ _ _)) kc_L_law_642 (by first | assumption | exact zU_same _ _ _) rfl rfl rfl rfl ky_X7_thrown ⟨(Nat.le_of_ble_eq_true rfl), (Nat.le_of_ble_eq_true rfl)⟩ (Nat.le_of_ble_eq_true rfl) ⟨(Nat.le_of_ble_eq_true rfl), (Nat.le_of_ble_eq_true rfl)⟩ dL_law_642 (fun v642 G642 hp642 => ?_)
      obtain ⟨rfl, rfl⟩ := hp642
      refine z_iload C dL_law_645 rfl ?_
      refine z_icmp_eq (tgt := 652) C dL_law_647 (by decide) (fun h647 => ?_) (fun h647 => ?_)
      · refine z_iload C dL_law_652 rfl ?_
        refine z_if_ne (tgt := 669) C dL_law_654 (by decide) (fun h654 => ?_) (fun h654 => ?_)
        · refine z_goto (tgt := 1814) C dL_law_669 (by decide) ?_
          exact hend _ _ _ _ _ _ (Nat.le_of_ble_eq_true rfl) (Nat.le_of_ble_eq_true rfl)
        · exact absurd h654 (by decide)
      · exact absurd rfl h647
    · refine z_iconst (v := 1) C dL_law_625 rfl ?_
      refine z_goto (tgt := 630) C dL_law_626 (by decide) ?_
      first | refine z_rload_n C dL_law_630 rfl ?_ | refine z_nload_n C dL_law_630 rfl ?_ | refine z_aload_n C dL_law_630 rfl ?_
      refine z_iload C dL_law_631 rfl ?_
      refine z_iconst (v := 3) C dL_law_633 rfl ?_
      refine z_iadd C dL_law_634 ?_
      refine z_sld C hX hbl hbA (by unfold vp_in; decide) dL_law_635 ?_
      refine z_callV (q := (RX7, TX7, 19)) C (m_addPick l Γ _ _ _ _ hm) kc_L_law_636 (by first | assumption | exact zU_same _ _ _) rfl rfl rfl rfl ky_X7_addPick ⟨(Nat.le_of_ble_eq_true rfl), (Nat.le_of_ble_eq_true rfl)⟩ (Nat.le_of_ble_eq_true rfl) ⟨(Nat.le_of_ble_eq_true rfl), (Nat.le_of_ble_eq_true rfl)⟩ dL_law_636 (fun v636 G636 hp636 => ?_)
      obtain ⟨rfl, rfl⟩ := hp636
      refine z_istore C dL_law_639 (by decide) ?_
      first | refine z_rload_n C dL_law_641 rfl ?_ | refine z_nload_n C dL_law_641 rfl ?_ | refine z_aload_n C dL_law_641 rfl ?_
      refine z_callV (q := (RX7, TX7, 19)) C (m_thrown l Γ _ (zU_same _ _ _)) kc_L_law_642 (by first | assumption | exact zU_same _ _ _) rfl rfl rfl rfl ky_X7_thrown ⟨(Nat.le_of_ble_eq_true rfl), (Nat.le_of_ble_eq_true rfl)⟩ (Nat.le_of_ble_eq_true rfl) ⟨(Nat.le_of_ble_eq_true rfl), (Nat.le_of_ble_eq_true rfl)⟩ dL_law_642 (fun v642 G642 hp642 => ?_)
      obtain ⟨rfl, rfl⟩ := hp642
      refine z_iload C dL_law_645 rfl ?_
      refine z_icmp_eq (tgt := 652) C dL_law_647 (by decide) (fun h647 => ?_) (fun h647 => ?_)
      · refine z_iload C dL_law_652 rfl ?_
        refine z_if_ne (tgt := 669) C dL_law_654 (by decide) (fun h654 => ?_) (fun h654 => ?_)
        · refine z_goto (tgt := 1814) C dL_law_669 (by decide) ?_
          exact hend _ _ _ _ _ _ (Nat.le_of_ble_eq_true rfl) (Nat.le_of_ble_eq_true rfl)
        · exact absurd h654 (by decide)
      · exact absurd rfl h647
abbrev rm_l_setWeight : Room := { frames := 9, cells := 0, slots := 0, locals := 159 }
set_option maxHeartbeats 4000000 in
set_option maxRecDepth 100000 in
theorem l_setWeight {p : Program} {l : Launch} {e : Env} {s : State} {m : MethodId} {args : Array Value} {below : List Frame} {meth : Method} {c : Code} {Q : State → Prop} {Γ : zY} {A : Nat → Prop} {G : zG} {b xb mo out od : Nat} {xs : Nat → Int32} {f : Nat → Int64} {fd : Nat → UInt64} {μ : Nat → Nat} (hst : l.stackTraces = false) (C : zC p s m args meth c cL_law R_law 9 Γ A) (hX : va_X b 6 xs s s.heap) (hbl : b < s.heap.size) (hbA : ¬ A b)
    (hend : ∀ (G : zG) (k n : Nat) (a6 a7 a8 : Option Value), k ≤ 600002 → n ≤ 7302232 → Z p l e room_1 s m args below meth c Q 9 Γ A G k n 1814 [some (.ref b), some (.ref xb), some (.ref mo), some (.ref out), some (.ref od), some (.int 0), a6, a7, a8] [])
    (hC : zC0 Γ G xb) (ho : G out = some (zJ Γ 1 f)) (hod : G od = some (zDb Γ 1 fd)) (hm : G mo = some (oM0 0 μ)) (hf : zMf Γ G μ) (hou : ∀ i, out ≠ μ i) :
    Z p l e room_1 s m args below meth c Q 9 Γ A G 30 1000 672 [some (.ref b), some (.ref xb), some (.ref mo), some (.ref out), some (.ref od), some (.int 0), none, none, none] [] := by
  first | refine z_rload_n C dL_law_672 rfl ?_ | refine z_nload_n C dL_law_672 rfl ?_ | refine z_aload_n C dL_law_672 rfl ?_
  first | refine z_rload_n C dL_law_673 rfl ?_ | refine z_nload_n C dL_law_673 rfl ?_ | refine z_aload_n C dL_law_673 rfl ?_
  refine z_iload C dL_law_674 rfl ?_
  refine z_iconst (v := 1) C dL_law_676 rfl ?_
  refine z_iadd C dL_law_677 ?_
  refine z_sld C hX hbl hbA (by unfold vp_in; decide) dL_law_678 ?_
  first | refine z_rload_n C dL_law_679 rfl ?_ | refine z_nload_n C dL_law_679 rfl ?_ | refine z_aload_n C dL_law_679 rfl ?_
  refine z_iload C dL_law_680 rfl ?_
  refine z_iconst (v := 2) C dL_law_682 rfl ?_
  refine z_iadd C dL_law_683 ?_
  refine z_sld C hX hbl hbA (by unfold vp_in; decide) dL_law_684 ?_
  first | refine z_rload_n C dL_law_685 rfl ?_ | refine z_nload_n C dL_law_685 rfl ?_ | refine z_aload_n C dL_law_685 rfl ?_
  refine z_callSH C (w_setWeight l hst Γ _ _ _ hC) kc_L_law_686 rfl rfl ky_L_setWeight ⟨(Nat.le_of_ble_eq_true rfl), (Nat.le_of_ble_eq_true rfl)⟩ (Nat.le_of_ble_eq_true rfl) ⟨(Nat.le_of_ble_eq_true rfl), (Nat.le_of_ble_eq_true rfl)⟩ dL_law_686 (fun v686 G686 hp686 => ?_)
  obtain ⟨rfl, rfl⟩ := hp686
  refine z_istore C dL_law_689 (by decide) ?_
  first | refine z_rload_n C dL_law_691 rfl ?_ | refine z_nload_n C dL_law_691 rfl ?_ | refine z_aload_n C dL_law_691 rfl ?_
  first | refine z_rload_n C dL_law_692 rfl ?_ | refine z_nload_n C dL_law_692 rfl ?_ | refine z_aload_n C dL_law_692 rfl ?_
  refine z_iload C dL_law_693 rfl ?_
  refine z_iconst (v := 1) C dL_law_695 rfl ?_
  refine z_iadd C dL_law_696 ?_
  refine z_sld C hX hbl hbA (by unfold vp_in; decide) dL_law_697 ?_
  first | refine z_rload_n C dL_law_698 rfl ?_ | refine z_nload_n C dL_law_698 rfl ?_ | refine z_aload_n C dL_law_698 rfl ?_
  refine z_iload C dL_law_699 rfl ?_
  refine z_iconst (v := 2) C dL_law_701 rfl ?_
  refine z_iadd C dL_law_702 ?_
  refine z_sld C hX hbl hbA (by unfold vp_in; decide) dL_law_703 ?_
  refine z_callV (q := (RX7, TX7, 19)) C (m_setWeight l Γ _ _ _ hm) kc_L_law_704 (by first | assumption | exact zU_same _ _ _) rfl rfl rfl rfl ky_X7_setWeight ⟨(Nat.le_of_ble_eq_true rfl), (Nat.le_of_ble_eq_true rfl)⟩ (Nat.le_of_ble_eq_true rfl) ⟨(Nat.le_of_ble_eq_true rfl), (Nat.le_of_ble_eq_true rfl)⟩ dL_law_704 (fun v704 G704 hp704 => ?_)
  obtain ⟨rfl, rfl⟩ := hp704
  refine z_istore C dL_law_707 (by decide) ?_
  first | refine z_rload_n C dL_law_709 rfl ?_ | refine z_nload_n C dL_law_709 rfl ?_ | refine z_aload_n C dL_law_709 rfl ?_
  refine z_callV (q := (RX7, TX7, 19)) C (m_thrown l Γ _ (zU_same _ _ _)) kc_L_law_710 (by first | assumption | exact zU_same _ _ _) rfl rfl rfl rfl ky_X7_thrown ⟨(Nat.le_of_ble_eq_true rfl), (Nat.le_of_ble_eq_true rfl)⟩ (Nat.le_of_ble_eq_true rfl) ⟨(Nat.le_of_ble_eq_true rfl), (Nat.le_of_ble_eq_true rfl)⟩ dL_law_710 (fun v710 G710 hp710 => ?_)
  obtain ⟨rfl, rfl⟩ := hp710
  refine z_iload C dL_law_713 rfl ?_
  refine z_icmp_eq (tgt := 720) C dL_law_715 (by decide) (fun h715 => ?_) (fun h715 => ?_)
  · refine z_iload C dL_law_720 rfl ?_
    refine z_if_ne (tgt := 737) C dL_law_722 (by decide) (fun h722 => ?_) (fun h722 => ?_)
    · refine z_goto (tgt := 1814) C dL_law_737 (by decide) ?_
      exact hend _ _ _ _ _ _ (Nat.le_of_ble_eq_true rfl) (Nat.le_of_ble_eq_true rfl)
    · exact absurd h722 (by decide)
  · exact absurd rfl h715
abbrev rm_l_pick : Room := { frames := 9, cells := 0, slots := 0, locals := 158 }
set_option maxHeartbeats 4000000 in
set_option maxRecDepth 100000 in
theorem l_pick {p : Program} {l : Launch} {e : Env} {s : State} {m : MethodId} {args : Array Value} {below : List Frame} {meth : Method} {c : Code} {Q : State → Prop} {Γ : zY} {A : Nat → Prop} {G : zG} {b xb mo out od : Nat} {xs : Nat → Int32} {f : Nat → Int64} {fd : Nat → UInt64} {μ : Nat → Nat} (hst : l.stackTraces = false) (C : zC p s m args meth c cL_law R_law 9 Γ A) (hX : va_X b 6 xs s s.heap) (hbl : b < s.heap.size) (hbA : ¬ A b)
    (hend : ∀ (G : zG) (k n : Nat) (a6 a7 a8 : Option Value), k ≤ 600002 → n ≤ 7302232 → Z p l e room_1 s m args below meth c Q 9 Γ A G k n 1814 [some (.ref b), some (.ref xb), some (.ref mo), some (.ref out), some (.ref od), some (.int 0), a6, a7, a8] [])
    (hC : zC0 Γ G xb) (ho : G out = some (zJ Γ 1 f)) (hod : G od = some (zDb Γ 1 fd)) (hm : G mo = some (oM0 0 μ)) (hf : zMf Γ G μ) (hou : ∀ i, out ≠ μ i) :
    Z p l e room_1 s m args below meth c Q 9 Γ A G 30 1000 740 [some (.ref b), some (.ref xb), some (.ref mo), some (.ref out), some (.ref od), some (.int 0), none, none, none] [] := by
  first | refine z_rload_n C dL_law_740 rfl ?_ | refine z_nload_n C dL_law_740 rfl ?_ | refine z_aload_n C dL_law_740 rfl ?_
  first | refine z_rload_n C dL_law_741 rfl ?_ | refine z_nload_n C dL_law_741 rfl ?_ | refine z_aload_n C dL_law_741 rfl ?_
  refine z_iload C dL_law_742 rfl ?_
  refine z_iconst (v := 1) C dL_law_744 rfl ?_
  refine z_iadd C dL_law_745 ?_
  refine z_sld C hX hbl hbA (by unfold vp_in; decide) dL_law_746 ?_
  first | refine z_rload_n C dL_law_747 rfl ?_ | refine z_nload_n C dL_law_747 rfl ?_ | refine z_aload_n C dL_law_747 rfl ?_
  refine z_iload C dL_law_748 rfl ?_
  refine z_iconst (v := 2) C dL_law_750 rfl ?_
  refine z_iadd C dL_law_751 ?_
  refine z_sld C hX hbl hbA (by unfold vp_in; decide) dL_law_752 ?_
  first | refine z_rload_n C dL_law_753 rfl ?_ | refine z_nload_n C dL_law_753 rfl ?_ | refine z_aload_n C dL_law_753 rfl ?_
  refine z_callSH C (w_pick l hst Γ _ _ _ hC) kc_L_law_754 rfl rfl ky_L_pick ⟨(Nat.le_of_ble_eq_true rfl), (Nat.le_of_ble_eq_true rfl)⟩ (Nat.le_of_ble_eq_true rfl) ⟨(Nat.le_of_ble_eq_true rfl), (Nat.le_of_ble_eq_true rfl)⟩ dL_law_754 (fun v754 G754 hp754 => ?_)
  obtain ⟨rfl, rfl⟩ := hp754
  refine z_istore C dL_law_757 (by decide) ?_
  first | refine z_rload_n C dL_law_759 rfl ?_ | refine z_nload_n C dL_law_759 rfl ?_ | refine z_aload_n C dL_law_759 rfl ?_
  first | refine z_rload_n C dL_law_760 rfl ?_ | refine z_nload_n C dL_law_760 rfl ?_ | refine z_aload_n C dL_law_760 rfl ?_
  refine z_iload C dL_law_761 rfl ?_
  refine z_iconst (v := 1) C dL_law_763 rfl ?_
  refine z_iadd C dL_law_764 ?_
  refine z_sld C hX hbl hbA (by unfold vp_in; decide) dL_law_765 ?_
  first | refine z_rload_n C dL_law_766 rfl ?_ | refine z_nload_n C dL_law_766 rfl ?_ | refine z_aload_n C dL_law_766 rfl ?_
  refine z_iload C dL_law_767 rfl ?_
  refine z_iconst (v := 2) C dL_law_769 rfl ?_
  refine z_iadd C dL_law_770 ?_
  refine z_sld C hX hbl hbA (by unfold vp_in; decide) dL_law_771 ?_
  refine z_callV (q := (RX7, TX7, 19)) C (m_pick l Γ _ _ _ hm) kc_L_law_772 (by first | assumption | exact zU_same _ _ _) rfl rfl rfl rfl ky_X7_pick ⟨(Nat.le_of_ble_eq_true rfl), (Nat.le_of_ble_eq_true rfl)⟩ (Nat.le_of_ble_eq_true rfl) ⟨(Nat.le_of_ble_eq_true rfl), (Nat.le_of_ble_eq_true rfl)⟩ dL_law_772 (fun v772 G772 hp772 => ?_)
  obtain ⟨rfl, rfl⟩ := hp772
  refine z_istore C dL_law_775 (by decide) ?_
  first | refine z_rload_n C dL_law_777 rfl ?_ | refine z_nload_n C dL_law_777 rfl ?_ | refine z_aload_n C dL_law_777 rfl ?_
  refine z_callV (q := (RX7, TX7, 19)) C (m_thrown l Γ _ (zU_same _ _ _)) kc_L_law_778 (by first | assumption | exact zU_same _ _ _) rfl rfl rfl rfl ky_X7_thrown ⟨(Nat.le_of_ble_eq_true rfl), (Nat.le_of_ble_eq_true rfl)⟩ (Nat.le_of_ble_eq_true rfl) ⟨(Nat.le_of_ble_eq_true rfl), (Nat.le_of_ble_eq_true rfl)⟩ dL_law_778 (fun v778 G778 hp778 => ?_)
  obtain ⟨rfl, rfl⟩ := hp778
  refine z_iload C dL_law_781 rfl ?_
  refine z_icmp_eq (tgt := 788) C dL_law_783 (by decide) (fun h783 => ?_) (fun h783 => ?_)
  · refine z_iload C dL_law_788 rfl ?_
    refine z_if_ne (tgt := 805) C dL_law_790 (by decide) (fun h790 => ?_) (fun h790 => ?_)
    · refine z_goto (tgt := 1814) C dL_law_805 (by decide) ?_
      exact hend _ _ _ _ _ _ (Nat.le_of_ble_eq_true rfl) (Nat.le_of_ble_eq_true rfl)
    · exact absurd h790 (by decide)
  · exact absurd rfl h783
abbrev rm_l_addEvent : Room := { frames := 10, cells := 0, slots := 0, locals := 234 }
set_option maxHeartbeats 4000000 in
set_option maxRecDepth 100000 in
theorem l_addEvent {p : Program} {l : Launch} {e : Env} {s : State} {m : MethodId} {args : Array Value} {below : List Frame} {meth : Method} {c : Code} {Q : State → Prop} {Γ : zY} {A : Nat → Prop} {G : zG} {b xb mo out od : Nat} {xs : Nat → Int32} {f : Nat → Int64} {fd : Nat → UInt64} {μ : Nat → Nat} (hst : l.stackTraces = false) (C : zC p s m args meth c cL_law R_law 9 Γ A) (hX : va_X b 6 xs s s.heap) (hbl : b < s.heap.size) (hbA : ¬ A b)
    (hend : ∀ (G : zG) (k n : Nat) (a6 a7 a8 : Option Value), k ≤ 600002 → n ≤ 7302232 → Z p l e room_1 s m args below meth c Q 9 Γ A G k n 1814 [some (.ref b), some (.ref xb), some (.ref mo), some (.ref out), some (.ref od), some (.int 0), a6, a7, a8] [])
    (hC : zC0 Γ G xb) (ho : G out = some (zJ Γ 1 f)) (hod : G od = some (zDb Γ 1 fd)) (hm : G mo = some (oM0 0 μ)) (hf : zMf Γ G μ) (hou : ∀ i, out ≠ μ i) :
    Z p l e room_1 s m args below meth c Q 9 Γ A G 30 1000 808 [some (.ref b), some (.ref xb), some (.ref mo), some (.ref out), some (.ref od), some (.int 0), none, none, none] [] := by
  have hom : out ≠ mo := fun z => by rw [z, hm] at ho; cases ho
  first | refine z_rload_n C dL_law_808 rfl ?_ | refine z_nload_n C dL_law_808 rfl ?_ | refine z_aload_n C dL_law_808 rfl ?_
  first | refine z_rload_n C dL_law_809 rfl ?_ | refine z_nload_n C dL_law_809 rfl ?_ | refine z_aload_n C dL_law_809 rfl ?_
  refine z_callSH C (w_addEvent l hst Γ _  hC ho) kc_L_law_810 rfl rfl ky_L_addEvent ⟨(Nat.le_of_ble_eq_true rfl), (Nat.le_of_ble_eq_true rfl)⟩ (Nat.le_of_ble_eq_true rfl) ⟨(Nat.le_of_ble_eq_true rfl), (Nat.le_of_ble_eq_true rfl)⟩ dL_law_810 (fun v810 G810 hp810 => ?_)
  rcases hp810 with ⟨rfl, hp1, rfl⟩ | ⟨rfl, hp0, G1, hk1, rfl⟩
  · exact hp1.elim
  · refine z_istore C dL_law_813 (by decide) ?_
    first | refine z_rload_n C dL_law_815 rfl ?_ | refine z_nload_n C dL_law_815 rfl ?_ | refine z_aload_n C dL_law_815 rfl ?_
    refine z_callV (q := (RX7, TX7, 19)) C (m_addEvent l Γ _  ((zU_ne hom.symm).trans (hk1 _ _ hm rfl)) ⟨(zU_ne (hou 0).symm).trans (hk1 _ _ hf.1 True.intro), (zU_ne (hou 1).symm).trans (hk1 _ _ hf.2.1 True.intro), hf.2.2.1, (zU_ne (hou 9).symm).trans (hk1 _ _ hf.2.2.2 True.intro)⟩) kc_L_law_816 ((zU_ne hom.symm).trans (hk1 _ _ hm rfl)) rfl rfl rfl rfl ky_X7_addEvent ⟨(Nat.le_of_ble_eq_true rfl), (Nat.le_of_ble_eq_true rfl)⟩ (Nat.le_of_ble_eq_true rfl) ⟨(Nat.le_of_ble_eq_true rfl), (Nat.le_of_ble_eq_true rfl)⟩ dL_law_816 (fun v816 G816 hp816 => ?_)
    obtain ⟨rfl, ⟨fs, hfs⟩, hfr⟩ := hp816
    refine z_istore C dL_law_819 (by decide) ?_
    first | refine z_rload_n C dL_law_821 rfl ?_ | refine z_nload_n C dL_law_821 rfl ?_ | refine z_aload_n C dL_law_821 rfl ?_
    refine z_callV (q := (RX7, TX7, 19)) C (m_thrown l Γ _ hfs) kc_L_law_822 hfs rfl rfl rfl rfl ky_X7_thrown ⟨(Nat.le_of_ble_eq_true rfl), (Nat.le_of_ble_eq_true rfl)⟩ (Nat.le_of_ble_eq_true rfl) ⟨(Nat.le_of_ble_eq_true rfl), (Nat.le_of_ble_eq_true rfl)⟩ dL_law_822 (fun v822 G822 hp822 => ?_)
    obtain ⟨rfl, rfl⟩ := hp822
    refine z_iload C dL_law_825 rfl ?_
    refine z_icmp_eq (tgt := 832) C dL_law_827 (by decide) (fun h827 => ?_) (fun h827 => ?_)
    · refine z_iload C dL_law_832 rfl ?_
      refine z_if_ne (tgt := 849) C dL_law_834 (by decide) (fun h834 => ?_) (fun h834 => ?_)
      · exact absurd rfl h834
      · first | refine z_rload_n C dL_law_837 rfl ?_ | refine z_nload_n C dL_law_837 rfl ?_ | refine z_aload_n C dL_law_837 rfl ?_
        refine z_iconst (v := 0) C dL_law_838 rfl ?_
        refine z_lald C (hfr _ _ (zU_same _ _ _) hom hou) (by unfold vp_in; decide) dL_law_839 ?_
        refine z_iload C dL_law_840 rfl ?_
        refine z_i2l C dL_law_842 ?_
        refine z_lcmp C dL_law_843 ?_
        refine z_if_eq (tgt := 849) C dL_law_844 (by decide) (fun h844 => ?_) (fun h844 => ?_)
        · refine z_goto (tgt := 1814) C dL_law_849 (by decide) ?_
          exact hend _ _ _ _ _ _ (Nat.le_of_ble_eq_true rfl) (Nat.le_of_ble_eq_true rfl)
        · refine absurd ?_ h844
          rw [show vp_updL f (0 : Int32).toNatClampNeg _ (0 : Int32).toNatClampNeg = _ from if_pos rfl]
          exact lg_cmp_self _
    · exact absurd rfl h827
abbrev rm_l_give : Room := { frames := 9, cells := 0, slots := 0, locals := 160 }
set_option maxHeartbeats 4000000 in
set_option maxRecDepth 100000 in
theorem l_give {p : Program} {l : Launch} {e : Env} {s : State} {m : MethodId} {args : Array Value} {below : List Frame} {meth : Method} {c : Code} {Q : State → Prop} {Γ : zY} {A : Nat → Prop} {G : zG} {b xb mo out od : Nat} {xs : Nat → Int32} {f : Nat → Int64} {fd : Nat → UInt64} {μ : Nat → Nat} (hst : l.stackTraces = false) (C : zC p s m args meth c cL_law R_law 9 Γ A) (hX : va_X b 6 xs s s.heap) (hbl : b < s.heap.size) (hbA : ¬ A b)
    (hend : ∀ (G : zG) (k n : Nat) (a6 a7 a8 : Option Value), k ≤ 600002 → n ≤ 7302232 → Z p l e room_1 s m args below meth c Q 9 Γ A G k n 1814 [some (.ref b), some (.ref xb), some (.ref mo), some (.ref out), some (.ref od), some (.int 0), a6, a7, a8] [])
    (hC : zC0 Γ G xb) (ho : G out = some (zJ Γ 1 f)) (hod : G od = some (zDb Γ 1 fd)) (hm : G mo = some (oM0 0 μ)) (hf : zMf Γ G μ) (hou : ∀ i, out ≠ μ i) :
    Z p l e room_1 s m args below meth c Q 9 Γ A G 30 1000 852 [some (.ref b), some (.ref xb), some (.ref mo), some (.ref out), some (.ref od), some (.int 0), none, none, none] [] := by
  first | refine z_rload_n C dL_law_852 rfl ?_ | refine z_nload_n C dL_law_852 rfl ?_ | refine z_aload_n C dL_law_852 rfl ?_
  first | refine z_rload_n C dL_law_853 rfl ?_ | refine z_nload_n C dL_law_853 rfl ?_ | refine z_aload_n C dL_law_853 rfl ?_
  refine z_iload C dL_law_854 rfl ?_
  refine z_iconst (v := 1) C dL_law_856 rfl ?_
  refine z_iadd C dL_law_857 ?_
  refine z_sld C hX hbl hbA (by unfold vp_in; decide) dL_law_858 ?_
  first | refine z_rload_n C dL_law_859 rfl ?_ | refine z_nload_n C dL_law_859 rfl ?_ | refine z_aload_n C dL_law_859 rfl ?_
  refine z_iload C dL_law_860 rfl ?_
  refine z_iconst (v := 2) C dL_law_862 rfl ?_
  refine z_iadd C dL_law_863 ?_
  refine z_sld C hX hbl hbA (by unfold vp_in; decide) dL_law_864 ?_
  first | refine z_rload_n C dL_law_865 rfl ?_ | refine z_nload_n C dL_law_865 rfl ?_ | refine z_aload_n C dL_law_865 rfl ?_
  refine z_callSH C (w_give l hst Γ _ _ _ hC) kc_L_law_866 rfl rfl ky_L_give ⟨(Nat.le_of_ble_eq_true rfl), (Nat.le_of_ble_eq_true rfl)⟩ (Nat.le_of_ble_eq_true rfl) ⟨(Nat.le_of_ble_eq_true rfl), (Nat.le_of_ble_eq_true rfl)⟩ dL_law_866 (fun v866 G866 hp866 => ?_)
  obtain ⟨rfl, rfl⟩ := hp866
  refine z_istore C dL_law_869 (by decide) ?_
  first | refine z_rload_n C dL_law_871 rfl ?_ | refine z_nload_n C dL_law_871 rfl ?_ | refine z_aload_n C dL_law_871 rfl ?_
  first | refine z_rload_n C dL_law_872 rfl ?_ | refine z_nload_n C dL_law_872 rfl ?_ | refine z_aload_n C dL_law_872 rfl ?_
  refine z_iload C dL_law_873 rfl ?_
  refine z_iconst (v := 1) C dL_law_875 rfl ?_
  refine z_iadd C dL_law_876 ?_
  refine z_sld C hX hbl hbA (by unfold vp_in; decide) dL_law_877 ?_
  first | refine z_rload_n C dL_law_878 rfl ?_ | refine z_nload_n C dL_law_878 rfl ?_ | refine z_aload_n C dL_law_878 rfl ?_
  refine z_iload C dL_law_879 rfl ?_
  refine z_iconst (v := 2) C dL_law_881 rfl ?_
  refine z_iadd C dL_law_882 ?_
  refine z_sld C hX hbl hbA (by unfold vp_in; decide) dL_law_883 ?_
  refine z_callV (q := (RX7, TX7, 19)) C (m_give l Γ _ _ _ hm) kc_L_law_884 (by first | assumption | exact zU_same _ _ _) rfl rfl rfl rfl ky_X7_give ⟨(Nat.le_of_ble_eq_true rfl), (Nat.le_of_ble_eq_true rfl)⟩ (Nat.le_of_ble_eq_true rfl) ⟨(Nat.le_of_ble_eq_true rfl), (Nat.le_of_ble_eq_true rfl)⟩ dL_law_884 (fun v884 G884 hp884 => ?_)
  obtain ⟨rfl, rfl⟩ := hp884
  refine z_istore C dL_law_887 (by decide) ?_
  first | refine z_rload_n C dL_law_889 rfl ?_ | refine z_nload_n C dL_law_889 rfl ?_ | refine z_aload_n C dL_law_889 rfl ?_
  refine z_callV (q := (RX7, TX7, 19)) C (m_thrown l Γ _ (zU_same _ _ _)) kc_L_law_890 (by first | assumption | exact zU_same _ _ _) rfl rfl rfl rfl ky_X7_thrown ⟨(Nat.le_of_ble_eq_true rfl), (Nat.le_of_ble_eq_true rfl)⟩ (Nat.le_of_ble_eq_true rfl) ⟨(Nat.le_of_ble_eq_true rfl), (Nat.le_of_ble_eq_true rfl)⟩ dL_law_890 (fun v890 G890 hp890 => ?_)
  obtain ⟨rfl, rfl⟩ := hp890
  refine z_iload C dL_law_893 rfl ?_
  refine z_icmp_eq (tgt := 900) C dL_law_895 (by decide) (fun h895 => ?_) (fun h895 => ?_)
  · refine z_iload C dL_law_900 rfl ?_
    refine z_if_ne (tgt := 917) C dL_law_902 (by decide) (fun h902 => ?_) (fun h902 => ?_)
    · refine z_goto (tgt := 1814) C dL_law_917 (by decide) ?_
      exact hend _ _ _ _ _ _ (Nat.le_of_ble_eq_true rfl) (Nat.le_of_ble_eq_true rfl)
    · exact absurd h902 (by decide)
  · exact absurd rfl h895
abbrev rm_l_associate : Room := { frames := 3, cells := 0, slots := 0, locals := 70 }
set_option maxHeartbeats 4000000 in
set_option maxRecDepth 100000 in
theorem l_associate {p : Program} {l : Launch} {e : Env} {s : State} {m : MethodId} {args : Array Value} {below : List Frame} {meth : Method} {c : Code} {Q : State → Prop} {Γ : zY} {A : Nat → Prop} {G : zG} {b xb mo out od : Nat} {xs : Nat → Int32} {f : Nat → Int64} {fd : Nat → UInt64} {μ : Nat → Nat} (hst : l.stackTraces = false) (C : zC p s m args meth c cL_law R_law 9 Γ A) (hX : va_X b 6 xs s s.heap) (hbl : b < s.heap.size) (hbA : ¬ A b)
    (hend : ∀ (G : zG) (k n : Nat) (a6 a7 a8 : Option Value), k ≤ 600002 → n ≤ 7302232 → Z p l e room_1 s m args below meth c Q 9 Γ A G k n 1814 [some (.ref b), some (.ref xb), some (.ref mo), some (.ref out), some (.ref od), some (.int 0), a6, a7, a8] [])
    (hC : zC0 Γ G xb) (ho : G out = some (zJ Γ 1 f)) (hod : G od = some (zDb Γ 1 fd)) (hm : G mo = some (oM0 0 μ)) (hf : zMf Γ G μ) (hou : ∀ i, out ≠ μ i) :
    Z p l e room_1 s m args below meth c Q 9 Γ A G 30 1000 920 [some (.ref b), some (.ref xb), some (.ref mo), some (.ref out), some (.ref od), some (.int 0), none, none, none] [] := by
  obtain ⟨ls, lp, le, w, r, q, lo, co, as, ap, ae, alo, hb, hR⟩ := id hC
  first | refine z_rload_n C dL_law_920 rfl ?_ | refine z_nload_n C dL_law_920 rfl ?_ | refine z_aload_n C dL_law_920 rfl ?_
  refine z_callV (q := (RX6, TX6, 8)) C (x_associate l Γ _ hC) kc_L_law_921 (by first | assumption | exact zU_same _ _ _) rfl rfl rfl rfl ky_X6_associate ⟨(Nat.le_of_ble_eq_true rfl), (Nat.le_of_ble_eq_true rfl)⟩ (Nat.le_of_ble_eq_true rfl) ⟨(Nat.le_of_ble_eq_true rfl), (Nat.le_of_ble_eq_true rfl)⟩ dL_law_921 (fun v921 G921 hp921 => ?_)
  obtain ⟨rfl, hkp⟩ := hp921
  first | refine z_rload_n C dL_law_924 rfl ?_ | refine z_nload_n C dL_law_924 rfl ?_ | refine z_aload_n C dL_law_924 rfl ?_
  refine z_callV (q := (RX7, TX7, 19)) C (m_associate l Γ _ (hkp _ _ hm rfl)) kc_L_law_925 (hkp _ _ hm rfl) rfl rfl rfl rfl ky_X7_associate ⟨(Nat.le_of_ble_eq_true rfl), (Nat.le_of_ble_eq_true rfl)⟩ (Nat.le_of_ble_eq_true rfl) ⟨(Nat.le_of_ble_eq_true rfl), (Nat.le_of_ble_eq_true rfl)⟩ dL_law_925 (fun v925 G925 hp925 => ?_)
  obtain ⟨rfl, hmk⟩ := hp925
  refine z_icmp_eq (tgt := 1814) C dL_law_928 (by decide) (fun h928 => ?_) (fun h928 => ?_)
  · exact hend _ _ _ _ _ _ (Nat.le_of_ble_eq_true rfl) (Nat.le_of_ble_eq_true rfl)
  · exact absurd rfl h928
abbrev rm_l_count : Room := { frames := 8, cells := 0, slots := 0, locals := 134 }
set_option maxHeartbeats 4000000 in
set_option maxRecDepth 100000 in
theorem l_count {p : Program} {l : Launch} {e : Env} {s : State} {m : MethodId} {args : Array Value} {below : List Frame} {meth : Method} {c : Code} {Q : State → Prop} {Γ : zY} {A : Nat → Prop} {G : zG} {b xb mo out od : Nat} {xs : Nat → Int32} {f : Nat → Int64} {fd : Nat → UInt64} {μ : Nat → Nat} (hst : l.stackTraces = false) (C : zC p s m args meth c cL_law R_law 9 Γ A) (hX : va_X b 6 xs s s.heap) (hbl : b < s.heap.size) (hbA : ¬ A b)
    (hend : ∀ (G : zG) (k n : Nat) (a6 a7 a8 : Option Value), k ≤ 600002 → n ≤ 7302232 → Z p l e room_1 s m args below meth c Q 9 Γ A G k n 1814 [some (.ref b), some (.ref xb), some (.ref mo), some (.ref out), some (.ref od), some (.int 0), a6, a7, a8] [])
    (hC : zC0 Γ G xb) (ho : G out = some (zJ Γ 1 f)) (hod : G od = some (zDb Γ 1 fd)) (hm : G mo = some (oM0 0 μ)) (hf : zMf Γ G μ) (hou : ∀ i, out ≠ μ i) :
    Z p l e room_1 s m args below meth c Q 9 Γ A G 30 1000 933 [some (.ref b), some (.ref xb), some (.ref mo), some (.ref out), some (.ref od), some (.int 0), none, none, none] [] := by
  have hom : out ≠ mo := fun z => by rw [z, hm] at ho; cases ho
  first | refine z_rload_n C dL_law_933 rfl ?_ | refine z_nload_n C dL_law_933 rfl ?_ | refine z_aload_n C dL_law_933 rfl ?_
  first | refine z_rload_n C dL_law_934 rfl ?_ | refine z_nload_n C dL_law_934 rfl ?_ | refine z_aload_n C dL_law_934 rfl ?_
  refine z_iload C dL_law_935 rfl ?_
  refine z_iconst (v := 1) C dL_law_937 rfl ?_
  refine z_iadd C dL_law_938 ?_
  refine z_sld C hX hbl hbA (by unfold vp_in; decide) dL_law_939 ?_
  first | refine z_rload_n C dL_law_940 rfl ?_ | refine z_nload_n C dL_law_940 rfl ?_ | refine z_aload_n C dL_law_940 rfl ?_
  refine z_callSH C (w_count l hst Γ _ _ hC ho) kc_L_law_941 rfl rfl ky_L_count ⟨(Nat.le_of_ble_eq_true rfl), (Nat.le_of_ble_eq_true rfl)⟩ (Nat.le_of_ble_eq_true rfl) ⟨(Nat.le_of_ble_eq_true rfl), (Nat.le_of_ble_eq_true rfl)⟩ dL_law_941 (fun v941 G941 hp941 => ?_)
  rcases hp941 with ⟨rfl, hp1, rfl⟩ | ⟨rfl, hp0, G1, hk1, rfl⟩
  · refine z_istore C dL_law_944 (by decide) ?_
    first | refine z_rload_n C dL_law_946 rfl ?_ | refine z_nload_n C dL_law_946 rfl ?_ | refine z_aload_n C dL_law_946 rfl ?_
    first | refine z_rload_n C dL_law_947 rfl ?_ | refine z_nload_n C dL_law_947 rfl ?_ | refine z_aload_n C dL_law_947 rfl ?_
    refine z_iload C dL_law_948 rfl ?_
    refine z_iconst (v := 1) C dL_law_950 rfl ?_
    refine z_iadd C dL_law_951 ?_
    refine z_sld C hX hbl hbA (by unfold vp_in; decide) dL_law_952 ?_
    refine z_callV (q := (RX7, TX7, 19)) C (m_count l Γ _ _ hm) kc_L_law_953 (by first | assumption | exact zU_same _ _ _) rfl rfl rfl rfl ky_X7_count ⟨(Nat.le_of_ble_eq_true rfl), (Nat.le_of_ble_eq_true rfl)⟩ (Nat.le_of_ble_eq_true rfl) ⟨(Nat.le_of_ble_eq_true rfl), (Nat.le_of_ble_eq_true rfl)⟩ dL_law_953 (fun v953 G953 hp953 => ?_)
    obtain ⟨rfl, ⟨fs, hfs⟩, hfr⟩ := hp953
    refine z_istore C dL_law_956 (by decide) ?_
    first | refine z_rload_n C dL_law_958 rfl ?_ | refine z_nload_n C dL_law_958 rfl ?_ | refine z_aload_n C dL_law_958 rfl ?_
    refine z_callV (q := (RX7, TX7, 19)) C (m_thrown l Γ _ hfs) kc_L_law_959 hfs rfl rfl rfl rfl ky_X7_thrown ⟨(Nat.le_of_ble_eq_true rfl), (Nat.le_of_ble_eq_true rfl)⟩ (Nat.le_of_ble_eq_true rfl) ⟨(Nat.le_of_ble_eq_true rfl), (Nat.le_of_ble_eq_true rfl)⟩ dL_law_959 (fun v959 G959 hp959 => ?_)
    obtain ⟨rfl, rfl⟩ := hp959
    refine z_iload C dL_law_962 rfl ?_
    refine z_icmp_eq (tgt := 969) C dL_law_964 (by decide) (fun h964 => ?_) (fun h964 => ?_)
    · refine z_iload C dL_law_969 rfl ?_
      refine z_if_ne (tgt := 986) C dL_law_971 (by decide) (fun h971 => ?_) (fun h971 => ?_)
      · refine z_goto (tgt := 1814) C dL_law_986 (by decide) ?_
        exact hend _ _ _ _ _ _ (Nat.le_of_ble_eq_true rfl) (Nat.le_of_ble_eq_true rfl)
      · exact absurd h971 (by decide)
    · exact absurd (by rw [hp1]; rfl) h964
  · refine z_istore C dL_law_944 (by decide) ?_
    first | refine z_rload_n C dL_law_946 rfl ?_ | refine z_nload_n C dL_law_946 rfl ?_ | refine z_aload_n C dL_law_946 rfl ?_
    first | refine z_rload_n C dL_law_947 rfl ?_ | refine z_nload_n C dL_law_947 rfl ?_ | refine z_aload_n C dL_law_947 rfl ?_
    refine z_iload C dL_law_948 rfl ?_
    refine z_iconst (v := 1) C dL_law_950 rfl ?_
    refine z_iadd C dL_law_951 ?_
    refine z_sld C hX hbl hbA (by unfold vp_in; decide) dL_law_952 ?_
    refine z_callV (q := (RX7, TX7, 19)) C (m_count l Γ _ _ ((zU_ne hom.symm).trans (hk1 _ _ hm rfl))) kc_L_law_953 ((zU_ne hom.symm).trans (hk1 _ _ hm rfl)) rfl rfl rfl rfl ky_X7_count ⟨(Nat.le_of_ble_eq_true rfl), (Nat.le_of_ble_eq_true rfl)⟩ (Nat.le_of_ble_eq_true rfl) ⟨(Nat.le_of_ble_eq_true rfl), (Nat.le_of_ble_eq_true rfl)⟩ dL_law_953 (fun v953 G953 hp953 => ?_)
    obtain ⟨rfl, ⟨fs, hfs⟩, hfr⟩ := hp953
    refine z_istore C dL_law_956 (by decide) ?_
    first | refine z_rload_n C dL_law_958 rfl ?_ | refine z_nload_n C dL_law_958 rfl ?_ | refine z_aload_n C dL_law_958 rfl ?_
    refine z_callV (q := (RX7, TX7, 19)) C (m_thrown l Γ _ hfs) kc_L_law_959 hfs rfl rfl rfl rfl ky_X7_thrown ⟨(Nat.le_of_ble_eq_true rfl), (Nat.le_of_ble_eq_true rfl)⟩ (Nat.le_of_ble_eq_true rfl) ⟨(Nat.le_of_ble_eq_true rfl), (Nat.le_of_ble_eq_true rfl)⟩ dL_law_959 (fun v959 G959 hp959 => ?_)
    obtain ⟨rfl, rfl⟩ := hp959
    refine z_iload C dL_law_962 rfl ?_
    refine z_icmp_eq (tgt := 969) C dL_law_964 (by decide) (fun h964 => ?_) (fun h964 => ?_)
    · refine z_iload C dL_law_969 rfl ?_
      refine z_if_ne (tgt := 986) C dL_law_971 (by decide) (fun h971 => ?_) (fun h971 => ?_)
      · exact absurd rfl h971
      · first | refine z_rload_n C dL_law_974 rfl ?_ | refine z_nload_n C dL_law_974 rfl ?_ | refine z_aload_n C dL_law_974 rfl ?_
        refine z_iconst (v := 0) C dL_law_975 rfl ?_
        refine z_lald C (hfr _ _ (zU_same _ _ _) hom hou) (by unfold vp_in; decide) dL_law_976 ?_
        refine z_iload C dL_law_977 rfl ?_
        refine z_i2l C dL_law_979 ?_
        refine z_lcmp C dL_law_980 ?_
        refine z_if_eq (tgt := 986) C dL_law_981 (by decide) (fun h981 => ?_) (fun h981 => ?_)
        · refine z_goto (tgt := 1814) C dL_law_986 (by decide) ?_
          exact hend _ _ _ _ _ _ (Nat.le_of_ble_eq_true rfl) (Nat.le_of_ble_eq_true rfl)
        · refine absurd ?_ h981
          rw [show vp_updL f (0 : Int32).toNatClampNeg _ (0 : Int32).toNatClampNeg = _ from if_pos rfl]
          exact lg_cmp_self _
    · exact absurd (by rw [hp0]; rfl) h964
abbrev rm_l_seek : Room := { frames := 9, cells := 0, slots := 0, locals := 156 }
set_option maxHeartbeats 4000000 in
set_option maxRecDepth 100000 in
theorem l_seek {p : Program} {l : Launch} {e : Env} {s : State} {m : MethodId} {args : Array Value} {below : List Frame} {meth : Method} {c : Code} {Q : State → Prop} {Γ : zY} {A : Nat → Prop} {G : zG} {b xb mo out od : Nat} {xs : Nat → Int32} {f : Nat → Int64} {fd : Nat → UInt64} {μ : Nat → Nat} (hst : l.stackTraces = false) (C : zC p s m args meth c cL_law R_law 9 Γ A) (hX : va_X b 6 xs s s.heap) (hbl : b < s.heap.size) (hbA : ¬ A b)
    (hend : ∀ (G : zG) (k n : Nat) (a6 a7 a8 : Option Value), k ≤ 600002 → n ≤ 7302232 → Z p l e room_1 s m args below meth c Q 9 Γ A G k n 1814 [some (.ref b), some (.ref xb), some (.ref mo), some (.ref out), some (.ref od), some (.int 0), a6, a7, a8] [])
    (hC : zC0 Γ G xb) (ho : G out = some (zJ Γ 1 f)) (hod : G od = some (zDb Γ 1 fd)) (hm : G mo = some (oM0 0 μ)) (hf : zMf Γ G μ) (hou : ∀ i, out ≠ μ i) :
    Z p l e room_1 s m args below meth c Q 9 Γ A G 30 1000 989 [some (.ref b), some (.ref xb), some (.ref mo), some (.ref out), some (.ref od), some (.int 0), none, none, none] [] := by
  first | refine z_rload_n C dL_law_989 rfl ?_ | refine z_nload_n C dL_law_989 rfl ?_ | refine z_aload_n C dL_law_989 rfl ?_
  first | refine z_rload_n C dL_law_990 rfl ?_ | refine z_nload_n C dL_law_990 rfl ?_ | refine z_aload_n C dL_law_990 rfl ?_
  refine z_iload C dL_law_991 rfl ?_
  refine z_iconst (v := 1) C dL_law_993 rfl ?_
  refine z_iadd C dL_law_994 ?_
  refine z_sld C hX hbl hbA (by unfold vp_in; decide) dL_law_995 ?_
  first | refine z_rload_n C dL_law_996 rfl ?_ | refine z_nload_n C dL_law_996 rfl ?_ | refine z_aload_n C dL_law_996 rfl ?_
  refine z_callSH C (w_seek l hst Γ _ _ hC) kc_L_law_997 rfl rfl ky_L_seek ⟨(Nat.le_of_ble_eq_true rfl), (Nat.le_of_ble_eq_true rfl)⟩ (Nat.le_of_ble_eq_true rfl) ⟨(Nat.le_of_ble_eq_true rfl), (Nat.le_of_ble_eq_true rfl)⟩ dL_law_997 (fun v997 G997 hp997 => ?_)
  obtain ⟨rfl, rfl⟩ := hp997
  refine z_istore C dL_law_1000 (by decide) ?_
  first | refine z_rload_n C dL_law_1002 rfl ?_ | refine z_nload_n C dL_law_1002 rfl ?_ | refine z_aload_n C dL_law_1002 rfl ?_
  first | refine z_rload_n C dL_law_1003 rfl ?_ | refine z_nload_n C dL_law_1003 rfl ?_ | refine z_aload_n C dL_law_1003 rfl ?_
  refine z_iload C dL_law_1004 rfl ?_
  refine z_iconst (v := 1) C dL_law_1006 rfl ?_
  refine z_iadd C dL_law_1007 ?_
  refine z_sld C hX hbl hbA (by unfold vp_in; decide) dL_law_1008 ?_
  refine z_callV (q := (RX7, TX7, 19)) C (m_seek l Γ _ _ hm) kc_L_law_1009 (by first | assumption | exact zU_same _ _ _) rfl rfl rfl rfl ky_X7_seek ⟨(Nat.le_of_ble_eq_true rfl), (Nat.le_of_ble_eq_true rfl)⟩ (Nat.le_of_ble_eq_true rfl) ⟨(Nat.le_of_ble_eq_true rfl), (Nat.le_of_ble_eq_true rfl)⟩ dL_law_1009 (fun v1009 G1009 hp1009 => ?_)
  obtain ⟨rfl, rfl⟩ := hp1009
  refine z_lstore C dL_law_1012 (by decide) ?_
  first | refine z_rload_n C dL_law_1014 rfl ?_ | refine z_nload_n C dL_law_1014 rfl ?_ | refine z_aload_n C dL_law_1014 rfl ?_
  refine z_callV (q := (RX7, TX7, 19)) C (m_thrown l Γ _ (zU_same _ _ _)) kc_L_law_1015 (by first | assumption | exact zU_same _ _ _) rfl rfl rfl rfl ky_X7_thrown ⟨(Nat.le_of_ble_eq_true rfl), (Nat.le_of_ble_eq_true rfl)⟩ (Nat.le_of_ble_eq_true rfl) ⟨(Nat.le_of_ble_eq_true rfl), (Nat.le_of_ble_eq_true rfl)⟩ dL_law_1015 (fun v1015 G1015 hp1015 => ?_)
  obtain ⟨rfl, rfl⟩ := hp1015
  refine z_iload C dL_law_1018 rfl ?_
  refine z_icmp_eq (tgt := 1025) C dL_law_1020 (by decide) (fun h1020 => ?_) (fun h1020 => ?_)
  · refine z_iload C dL_law_1025 rfl ?_
    refine z_if_ne (tgt := 1041) C dL_law_1027 (by decide) (fun h1027 => ?_) (fun h1027 => ?_)
    · refine z_goto (tgt := 1814) C dL_law_1041 (by decide) ?_
      exact hend _ _ _ _ _ _ (Nat.le_of_ble_eq_true rfl) (Nat.le_of_ble_eq_true rfl)
    · exact absurd h1027 (by decide)
  · exact absurd rfl h1020
abbrev rm_l_event : Room := { frames := 9, cells := 0, slots := 0, locals := 158 }
set_option maxHeartbeats 4000000 in
set_option maxRecDepth 100000 in
theorem l_event {p : Program} {l : Launch} {e : Env} {s : State} {m : MethodId} {args : Array Value} {below : List Frame} {meth : Method} {c : Code} {Q : State → Prop} {Γ : zY} {A : Nat → Prop} {G : zG} {b xb mo out od : Nat} {xs : Nat → Int32} {f : Nat → Int64} {fd : Nat → UInt64} {μ : Nat → Nat} (hst : l.stackTraces = false) (C : zC p s m args meth c cL_law R_law 9 Γ A) (hX : va_X b 6 xs s s.heap) (hbl : b < s.heap.size) (hbA : ¬ A b)
    (hend : ∀ (G : zG) (k n : Nat) (a6 a7 a8 : Option Value), k ≤ 600002 → n ≤ 7302232 → Z p l e room_1 s m args below meth c Q 9 Γ A G k n 1814 [some (.ref b), some (.ref xb), some (.ref mo), some (.ref out), some (.ref od), some (.int 0), a6, a7, a8] [])
    (hC : zC0 Γ G xb) (ho : G out = some (zJ Γ 1 f)) (hod : G od = some (zDb Γ 1 fd)) (hm : G mo = some (oM0 0 μ)) (hf : zMf Γ G μ) (hou : ∀ i, out ≠ μ i) :
    Z p l e room_1 s m args below meth c Q 9 Γ A G 30 1000 1044 [some (.ref b), some (.ref xb), some (.ref mo), some (.ref out), some (.ref od), some (.int 0), none, none, none] [] := by
  first | refine z_rload_n C dL_law_1044 rfl ?_ | refine z_nload_n C dL_law_1044 rfl ?_ | refine z_aload_n C dL_law_1044 rfl ?_
  first | refine z_rload_n C dL_law_1045 rfl ?_ | refine z_nload_n C dL_law_1045 rfl ?_ | refine z_aload_n C dL_law_1045 rfl ?_
  refine z_iload C dL_law_1046 rfl ?_
  refine z_iconst (v := 1) C dL_law_1048 rfl ?_
  refine z_iadd C dL_law_1049 ?_
  refine z_sld C hX hbl hbA (by unfold vp_in; decide) dL_law_1050 ?_
  first | refine z_rload_n C dL_law_1051 rfl ?_ | refine z_nload_n C dL_law_1051 rfl ?_ | refine z_aload_n C dL_law_1051 rfl ?_
  refine z_iload C dL_law_1052 rfl ?_
  refine z_iconst (v := 2) C dL_law_1054 rfl ?_
  refine z_iadd C dL_law_1055 ?_
  refine z_sld C hX hbl hbA (by unfold vp_in; decide) dL_law_1056 ?_
  first | refine z_rload_n C dL_law_1057 rfl ?_ | refine z_nload_n C dL_law_1057 rfl ?_ | refine z_aload_n C dL_law_1057 rfl ?_
  refine z_callSH C (w_event l hst Γ _ _ _ hC) kc_L_law_1058 rfl rfl ky_L_event ⟨(Nat.le_of_ble_eq_true rfl), (Nat.le_of_ble_eq_true rfl)⟩ (Nat.le_of_ble_eq_true rfl) ⟨(Nat.le_of_ble_eq_true rfl), (Nat.le_of_ble_eq_true rfl)⟩ dL_law_1058 (fun v1058 G1058 hp1058 => ?_)
  obtain ⟨rfl, rfl⟩ := hp1058
  refine z_istore C dL_law_1061 (by decide) ?_
  first | refine z_rload_n C dL_law_1063 rfl ?_ | refine z_nload_n C dL_law_1063 rfl ?_ | refine z_aload_n C dL_law_1063 rfl ?_
  first | refine z_rload_n C dL_law_1064 rfl ?_ | refine z_nload_n C dL_law_1064 rfl ?_ | refine z_aload_n C dL_law_1064 rfl ?_
  refine z_iload C dL_law_1065 rfl ?_
  refine z_iconst (v := 1) C dL_law_1067 rfl ?_
  refine z_iadd C dL_law_1068 ?_
  refine z_sld C hX hbl hbA (by unfold vp_in; decide) dL_law_1069 ?_
  first | refine z_rload_n C dL_law_1070 rfl ?_ | refine z_nload_n C dL_law_1070 rfl ?_ | refine z_aload_n C dL_law_1070 rfl ?_
  refine z_iload C dL_law_1071 rfl ?_
  refine z_iconst (v := 2) C dL_law_1073 rfl ?_
  refine z_iadd C dL_law_1074 ?_
  refine z_sld C hX hbl hbA (by unfold vp_in; decide) dL_law_1075 ?_
  refine z_callV (q := (RX7, TX7, 19)) C (m_event l Γ _ _ _ hm) kc_L_law_1076 (by first | assumption | exact zU_same _ _ _) rfl rfl rfl rfl ky_X7_event ⟨(Nat.le_of_ble_eq_true rfl), (Nat.le_of_ble_eq_true rfl)⟩ (Nat.le_of_ble_eq_true rfl) ⟨(Nat.le_of_ble_eq_true rfl), (Nat.le_of_ble_eq_true rfl)⟩ dL_law_1076 (fun v1076 G1076 hp1076 => ?_)
  obtain ⟨rfl, rfl⟩ := hp1076
  refine z_istore C dL_law_1079 (by decide) ?_
  first | refine z_rload_n C dL_law_1081 rfl ?_ | refine z_nload_n C dL_law_1081 rfl ?_ | refine z_aload_n C dL_law_1081 rfl ?_
  refine z_callV (q := (RX7, TX7, 19)) C (m_thrown l Γ _ (zU_same _ _ _)) kc_L_law_1082 (by first | assumption | exact zU_same _ _ _) rfl rfl rfl rfl ky_X7_thrown ⟨(Nat.le_of_ble_eq_true rfl), (Nat.le_of_ble_eq_true rfl)⟩ (Nat.le_of_ble_eq_true rfl) ⟨(Nat.le_of_ble_eq_true rfl), (Nat.le_of_ble_eq_true rfl)⟩ dL_law_1082 (fun v1082 G1082 hp1082 => ?_)
  obtain ⟨rfl, rfl⟩ := hp1082
  refine z_iload C dL_law_1085 rfl ?_
  refine z_icmp_eq (tgt := 1092) C dL_law_1087 (by decide) (fun h1087 => ?_) (fun h1087 => ?_)
  · refine z_iload C dL_law_1092 rfl ?_
    refine z_if_ne (tgt := 1109) C dL_law_1094 (by decide) (fun h1094 => ?_) (fun h1094 => ?_)
    · refine z_goto (tgt := 1814) C dL_law_1109 (by decide) ?_
      exact hend _ _ _ _ _ _ (Nat.le_of_ble_eq_true rfl) (Nat.le_of_ble_eq_true rfl)
    · exact absurd h1094 (by decide)
  · exact absurd rfl h1087
abbrev rm_l_misfit : Room := { frames := 9, cells := 0, slots := 0, locals := 162 }
set_option maxHeartbeats 4000000 in
set_option maxRecDepth 100000 in
theorem l_misfit {p : Program} {l : Launch} {e : Env} {s : State} {m : MethodId} {args : Array Value} {below : List Frame} {meth : Method} {c : Code} {Q : State → Prop} {Γ : zY} {A : Nat → Prop} {G : zG} {b xb mo out od : Nat} {xs : Nat → Int32} {f : Nat → Int64} {fd : Nat → UInt64} {μ : Nat → Nat} (hst : l.stackTraces = false) (C : zC p s m args meth c cL_law R_law 9 Γ A) (hX : va_X b 6 xs s s.heap) (hbl : b < s.heap.size) (hbA : ¬ A b)
    (hend : ∀ (G : zG) (k n : Nat) (a6 a7 a8 : Option Value), k ≤ 600002 → n ≤ 7302232 → Z p l e room_1 s m args below meth c Q 9 Γ A G k n 1814 [some (.ref b), some (.ref xb), some (.ref mo), some (.ref out), some (.ref od), some (.int 0), a6, a7, a8] [])
    (hC : zC0 Γ G xb) (ho : G out = some (zJ Γ 1 f)) (hod : G od = some (zDb Γ 1 fd)) (hm : G mo = some (oM0 0 μ)) (hf : zMf Γ G μ) (hou : ∀ i, out ≠ μ i) :
    Z p l e room_1 s m args below meth c Q 9 Γ A G 30 1000 1112 [some (.ref b), some (.ref xb), some (.ref mo), some (.ref out), some (.ref od), some (.int 0), none, none, none] [] := by
  first | refine z_rload_n C dL_law_1112 rfl ?_ | refine z_nload_n C dL_law_1112 rfl ?_ | refine z_aload_n C dL_law_1112 rfl ?_
  first | refine z_rload_n C dL_law_1113 rfl ?_ | refine z_nload_n C dL_law_1113 rfl ?_ | refine z_aload_n C dL_law_1113 rfl ?_
  refine z_iload C dL_law_1114 rfl ?_
  refine z_iconst (v := 1) C dL_law_1116 rfl ?_
  refine z_iadd C dL_law_1117 ?_
  refine z_sld C hX hbl hbA (by unfold vp_in; decide) dL_law_1118 ?_
  first | refine z_rload_n C dL_law_1119 rfl ?_ | refine z_nload_n C dL_law_1119 rfl ?_ | refine z_aload_n C dL_law_1119 rfl ?_
  refine z_iload C dL_law_1120 rfl ?_
  refine z_iconst (v := 2) C dL_law_1122 rfl ?_
  refine z_iadd C dL_law_1123 ?_
  refine z_sld C hX hbl hbA (by unfold vp_in; decide) dL_law_1124 ?_
  first | refine z_rload_n C dL_law_1125 rfl ?_ | refine z_nload_n C dL_law_1125 rfl ?_ | refine z_aload_n C dL_law_1125 rfl ?_
  refine z_iload C dL_law_1126 rfl ?_
  refine z_iconst (v := 3) C dL_law_1128 rfl ?_
  refine z_iadd C dL_law_1129 ?_
  refine z_sld C hX hbl hbA (by unfold vp_in; decide) dL_law_1130 ?_
  first | refine z_rload_n C dL_law_1131 rfl ?_ | refine z_nload_n C dL_law_1131 rfl ?_ | refine z_aload_n C dL_law_1131 rfl ?_
  refine z_iload C dL_law_1132 rfl ?_
  refine z_iconst (v := 4) C dL_law_1134 rfl ?_
  refine z_iadd C dL_law_1135 ?_
  refine z_sld C hX hbl hbA (by unfold vp_in; decide) dL_law_1136 ?_
  first | refine z_rload_n C dL_law_1137 rfl ?_ | refine z_nload_n C dL_law_1137 rfl ?_ | refine z_aload_n C dL_law_1137 rfl ?_
  refine z_callSH C (w_misfit l hst Γ _ _ _ _ _ hC) kc_L_law_1138 rfl rfl ky_L_misfit ⟨(Nat.le_of_ble_eq_true rfl), (Nat.le_of_ble_eq_true rfl)⟩ (Nat.le_of_ble_eq_true rfl) ⟨(Nat.le_of_ble_eq_true rfl), (Nat.le_of_ble_eq_true rfl)⟩ dL_law_1138 (fun v1138 G1138 hp1138 => ?_)
  obtain ⟨rfl, rfl⟩ := hp1138
  refine z_istore C dL_law_1141 (by decide) ?_
  first | refine z_rload_n C dL_law_1143 rfl ?_ | refine z_nload_n C dL_law_1143 rfl ?_ | refine z_aload_n C dL_law_1143 rfl ?_
  first | refine z_rload_n C dL_law_1144 rfl ?_ | refine z_nload_n C dL_law_1144 rfl ?_ | refine z_aload_n C dL_law_1144 rfl ?_
  refine z_iload C dL_law_1145 rfl ?_
  refine z_iconst (v := 1) C dL_law_1147 rfl ?_
  refine z_iadd C dL_law_1148 ?_
  refine z_sld C hX hbl hbA (by unfold vp_in; decide) dL_law_1149 ?_
  first | refine z_rload_n C dL_law_1150 rfl ?_ | refine z_nload_n C dL_law_1150 rfl ?_ | refine z_aload_n C dL_law_1150 rfl ?_
  refine z_iload C dL_law_1151 rfl ?_
  refine z_iconst (v := 2) C dL_law_1153 rfl ?_
  refine z_iadd C dL_law_1154 ?_
  refine z_sld C hX hbl hbA (by unfold vp_in; decide) dL_law_1155 ?_
  first | refine z_rload_n C dL_law_1156 rfl ?_ | refine z_nload_n C dL_law_1156 rfl ?_ | refine z_aload_n C dL_law_1156 rfl ?_
  refine z_iload C dL_law_1157 rfl ?_
  refine z_iconst (v := 3) C dL_law_1159 rfl ?_
  refine z_iadd C dL_law_1160 ?_
  refine z_sld C hX hbl hbA (by unfold vp_in; decide) dL_law_1161 ?_
  first | refine z_rload_n C dL_law_1162 rfl ?_ | refine z_nload_n C dL_law_1162 rfl ?_ | refine z_aload_n C dL_law_1162 rfl ?_
  refine z_iload C dL_law_1163 rfl ?_
  refine z_iconst (v := 4) C dL_law_1165 rfl ?_
  refine z_iadd C dL_law_1166 ?_
  refine z_sld C hX hbl hbA (by unfold vp_in; decide) dL_law_1167 ?_
  refine z_callV (q := (RX7, TX7, 19)) C (m_misfit l Γ _ _ _ _ _ hm) kc_L_law_1168 (by first | assumption | exact zU_same _ _ _) rfl rfl rfl rfl ky_X7_misfit ⟨(Nat.le_of_ble_eq_true rfl), (Nat.le_of_ble_eq_true rfl)⟩ (Nat.le_of_ble_eq_true rfl) ⟨(Nat.le_of_ble_eq_true rfl), (Nat.le_of_ble_eq_true rfl)⟩ dL_law_1168 (fun v1168 G1168 hp1168 => ?_)
  obtain ⟨rfl, rfl⟩ := hp1168
  refine z_lstore C dL_law_1171 (by decide) ?_
  first | refine z_rload_n C dL_law_1173 rfl ?_ | refine z_nload_n C dL_law_1173 rfl ?_ | refine z_aload_n C dL_law_1173 rfl ?_
  refine z_callV (q := (RX7, TX7, 19)) C (m_thrown l Γ _ (zU_same _ _ _)) kc_L_law_1174 (by first | assumption | exact zU_same _ _ _) rfl rfl rfl rfl ky_X7_thrown ⟨(Nat.le_of_ble_eq_true rfl), (Nat.le_of_ble_eq_true rfl)⟩ (Nat.le_of_ble_eq_true rfl) ⟨(Nat.le_of_ble_eq_true rfl), (Nat.le_of_ble_eq_true rfl)⟩ dL_law_1174 (fun v1174 G1174 hp1174 => ?_)
  obtain ⟨rfl, rfl⟩ := hp1174
  refine z_iload C dL_law_1177 rfl ?_
  refine z_icmp_eq (tgt := 1184) C dL_law_1179 (by decide) (fun h1179 => ?_) (fun h1179 => ?_)
  · refine z_iload C dL_law_1184 rfl ?_
    refine z_if_ne (tgt := 1200) C dL_law_1186 (by decide) (fun h1186 => ?_) (fun h1186 => ?_)
    · refine z_goto (tgt := 1814) C dL_law_1200 (by decide) ?_
      exact hend _ _ _ _ _ _ (Nat.le_of_ble_eq_true rfl) (Nat.le_of_ble_eq_true rfl)
    · exact absurd h1186 (by decide)
  · exact absurd rfl h1179
abbrev rm_l_residual : Room := { frames := 9, cells := 0, slots := 0, locals := 157 }
set_option maxHeartbeats 4000000 in
set_option maxRecDepth 100000 in
theorem l_residual {p : Program} {l : Launch} {e : Env} {s : State} {m : MethodId} {args : Array Value} {below : List Frame} {meth : Method} {c : Code} {Q : State → Prop} {Γ : zY} {A : Nat → Prop} {G : zG} {b xb mo out od : Nat} {xs : Nat → Int32} {f : Nat → Int64} {fd : Nat → UInt64} {μ : Nat → Nat} (hst : l.stackTraces = false) (C : zC p s m args meth c cL_law R_law 9 Γ A) (hX : va_X b 6 xs s s.heap) (hbl : b < s.heap.size) (hbA : ¬ A b)
    (hend : ∀ (G : zG) (k n : Nat) (a6 a7 a8 : Option Value), k ≤ 600002 → n ≤ 7302232 → Z p l e room_1 s m args below meth c Q 9 Γ A G k n 1814 [some (.ref b), some (.ref xb), some (.ref mo), some (.ref out), some (.ref od), some (.int 0), a6, a7, a8] [])
    (hC : zC0 Γ G xb) (ho : G out = some (zJ Γ 1 f)) (hod : G od = some (zDb Γ 1 fd)) (hm : G mo = some (oM0 0 μ)) (hf : zMf Γ G μ) (hou : ∀ i, out ≠ μ i) :
    Z p l e room_1 s m args below meth c Q 9 Γ A G 30 1000 1203 [some (.ref b), some (.ref xb), some (.ref mo), some (.ref out), some (.ref od), some (.int 0), none, none, none] [] := by
  first | refine z_rload_n C dL_law_1203 rfl ?_ | refine z_nload_n C dL_law_1203 rfl ?_ | refine z_aload_n C dL_law_1203 rfl ?_
  first | refine z_rload_n C dL_law_1204 rfl ?_ | refine z_nload_n C dL_law_1204 rfl ?_ | refine z_aload_n C dL_law_1204 rfl ?_
  refine z_iload C dL_law_1205 rfl ?_
  refine z_iconst (v := 1) C dL_law_1207 rfl ?_
  refine z_iadd C dL_law_1208 ?_
  refine z_sld C hX hbl hbA (by unfold vp_in; decide) dL_law_1209 ?_
  first | refine z_rload_n C dL_law_1210 rfl ?_ | refine z_nload_n C dL_law_1210 rfl ?_ | refine z_aload_n C dL_law_1210 rfl ?_
  refine z_callSH C (w_residual l hst Γ _ _ hC) kc_L_law_1211 rfl rfl ky_L_residual ⟨(Nat.le_of_ble_eq_true rfl), (Nat.le_of_ble_eq_true rfl)⟩ (Nat.le_of_ble_eq_true rfl) ⟨(Nat.le_of_ble_eq_true rfl), (Nat.le_of_ble_eq_true rfl)⟩ dL_law_1211 (fun v1211 G1211 hp1211 => ?_)
  obtain ⟨rfl, rfl⟩ := hp1211
  refine z_istore C dL_law_1214 (by decide) ?_
  first | refine z_rload_n C dL_law_1216 rfl ?_ | refine z_nload_n C dL_law_1216 rfl ?_ | refine z_aload_n C dL_law_1216 rfl ?_
  first | refine z_rload_n C dL_law_1217 rfl ?_ | refine z_nload_n C dL_law_1217 rfl ?_ | refine z_aload_n C dL_law_1217 rfl ?_
  refine z_iload C dL_law_1218 rfl ?_
  refine z_iconst (v := 1) C dL_law_1220 rfl ?_
  refine z_iadd C dL_law_1221 ?_
  refine z_sld C hX hbl hbA (by unfold vp_in; decide) dL_law_1222 ?_
  refine z_callV (q := (RX7, TX7, 19)) C (m_residual l Γ _ _ hm) kc_L_law_1223 (by first | assumption | exact zU_same _ _ _) rfl rfl rfl rfl ky_X7_residual ⟨(Nat.le_of_ble_eq_true rfl), (Nat.le_of_ble_eq_true rfl)⟩ (Nat.le_of_ble_eq_true rfl) ⟨(Nat.le_of_ble_eq_true rfl), (Nat.le_of_ble_eq_true rfl)⟩ dL_law_1223 (fun v1223 G1223 hp1223 => ?_)
  obtain ⟨rfl, rfl⟩ := hp1223
  refine z_istore C dL_law_1226 (by decide) ?_
  first | refine z_rload_n C dL_law_1228 rfl ?_ | refine z_nload_n C dL_law_1228 rfl ?_ | refine z_aload_n C dL_law_1228 rfl ?_
  refine z_callV (q := (RX7, TX7, 19)) C (m_thrown l Γ _ (zU_same _ _ _)) kc_L_law_1229 (by first | assumption | exact zU_same _ _ _) rfl rfl rfl rfl ky_X7_thrown ⟨(Nat.le_of_ble_eq_true rfl), (Nat.le_of_ble_eq_true rfl)⟩ (Nat.le_of_ble_eq_true rfl) ⟨(Nat.le_of_ble_eq_true rfl), (Nat.le_of_ble_eq_true rfl)⟩ dL_law_1229 (fun v1229 G1229 hp1229 => ?_)
  obtain ⟨rfl, rfl⟩ := hp1229
  refine z_iload C dL_law_1232 rfl ?_
  refine z_icmp_eq (tgt := 1239) C dL_law_1234 (by decide) (fun h1234 => ?_) (fun h1234 => ?_)
  · refine z_iload C dL_law_1239 rfl ?_
    refine z_if_ne (tgt := 1256) C dL_law_1241 (by decide) (fun h1241 => ?_) (fun h1241 => ?_)
    · refine z_goto (tgt := 1814) C dL_law_1256 (by decide) ?_
      exact hend _ _ _ _ _ _ (Nat.le_of_ble_eq_true rfl) (Nat.le_of_ble_eq_true rfl)
    · exact absurd h1241 (by decide)
  · exact absurd rfl h1234
abbrev rm_l_worst : Room := { frames := 9, cells := 0, slots := 0, locals := 161 }
set_option maxHeartbeats 4000000 in
set_option maxRecDepth 100000 in
theorem l_worst {p : Program} {l : Launch} {e : Env} {s : State} {m : MethodId} {args : Array Value} {below : List Frame} {meth : Method} {c : Code} {Q : State → Prop} {Γ : zY} {A : Nat → Prop} {G : zG} {b xb mo out od : Nat} {xs : Nat → Int32} {f : Nat → Int64} {fd : Nat → UInt64} {μ : Nat → Nat} (hst : l.stackTraces = false) (C : zC p s m args meth c cL_law R_law 9 Γ A) (hX : va_X b 6 xs s s.heap) (hbl : b < s.heap.size) (hbA : ¬ A b)
    (hend : ∀ (G : zG) (k n : Nat) (a6 a7 a8 : Option Value), k ≤ 600002 → n ≤ 7302232 → Z p l e room_1 s m args below meth c Q 9 Γ A G k n 1814 [some (.ref b), some (.ref xb), some (.ref mo), some (.ref out), some (.ref od), some (.int 0), a6, a7, a8] [])
    (hC : zC0 Γ G xb) (ho : G out = some (zJ Γ 1 f)) (hod : G od = some (zDb Γ 1 fd)) (hm : G mo = some (oM0 0 μ)) (hf : zMf Γ G μ) (hou : ∀ i, out ≠ μ i) :
    Z p l e room_1 s m args below meth c Q 9 Γ A G 30 1000 1259 [some (.ref b), some (.ref xb), some (.ref mo), some (.ref out), some (.ref od), some (.int 0), none, none, none] [] := by
  first | refine z_rload_n C dL_law_1259 rfl ?_ | refine z_nload_n C dL_law_1259 rfl ?_ | refine z_aload_n C dL_law_1259 rfl ?_
  first | refine z_rload_n C dL_law_1260 rfl ?_ | refine z_nload_n C dL_law_1260 rfl ?_ | refine z_aload_n C dL_law_1260 rfl ?_
  refine z_iload C dL_law_1261 rfl ?_
  refine z_iconst (v := 1) C dL_law_1263 rfl ?_
  refine z_iadd C dL_law_1264 ?_
  refine z_sld C hX hbl hbA (by unfold vp_in; decide) dL_law_1265 ?_
  first | refine z_rload_n C dL_law_1266 rfl ?_ | refine z_nload_n C dL_law_1266 rfl ?_ | refine z_aload_n C dL_law_1266 rfl ?_
  refine z_callSH C (w_worst l hst Γ _ _ hC) kc_L_law_1267 rfl rfl ky_L_worst ⟨(Nat.le_of_ble_eq_true rfl), (Nat.le_of_ble_eq_true rfl)⟩ (Nat.le_of_ble_eq_true rfl) ⟨(Nat.le_of_ble_eq_true rfl), (Nat.le_of_ble_eq_true rfl)⟩ dL_law_1267 (fun v1267 G1267 hp1267 => ?_)
  obtain ⟨rfl, rfl⟩ := hp1267
  refine z_istore C dL_law_1270 (by decide) ?_
  first | refine z_rload_n C dL_law_1272 rfl ?_ | refine z_nload_n C dL_law_1272 rfl ?_ | refine z_aload_n C dL_law_1272 rfl ?_
  first | refine z_rload_n C dL_law_1273 rfl ?_ | refine z_nload_n C dL_law_1273 rfl ?_ | refine z_aload_n C dL_law_1273 rfl ?_
  refine z_iload C dL_law_1274 rfl ?_
  refine z_iconst (v := 1) C dL_law_1276 rfl ?_
  refine z_iadd C dL_law_1277 ?_
  refine z_sld C hX hbl hbA (by unfold vp_in; decide) dL_law_1278 ?_
  refine z_callV (q := (RX7, TX7, 19)) C (m_worst l Γ _ _ hm) kc_L_law_1279 (by first | assumption | exact zU_same _ _ _) rfl rfl rfl rfl ky_X7_worst ⟨(Nat.le_of_ble_eq_true rfl), (Nat.le_of_ble_eq_true rfl)⟩ (Nat.le_of_ble_eq_true rfl) ⟨(Nat.le_of_ble_eq_true rfl), (Nat.le_of_ble_eq_true rfl)⟩ dL_law_1279 (fun v1279 G1279 hp1279 => ?_)
  obtain ⟨rfl, rfl⟩ := hp1279
  refine z_istore C dL_law_1282 (by decide) ?_
  first | refine z_rload_n C dL_law_1284 rfl ?_ | refine z_nload_n C dL_law_1284 rfl ?_ | refine z_aload_n C dL_law_1284 rfl ?_
  refine z_callV (q := (RX7, TX7, 19)) C (m_thrown l Γ _ (zU_same _ _ _)) kc_L_law_1285 (by first | assumption | exact zU_same _ _ _) rfl rfl rfl rfl ky_X7_thrown ⟨(Nat.le_of_ble_eq_true rfl), (Nat.le_of_ble_eq_true rfl)⟩ (Nat.le_of_ble_eq_true rfl) ⟨(Nat.le_of_ble_eq_true rfl), (Nat.le_of_ble_eq_true rfl)⟩ dL_law_1285 (fun v1285 G1285 hp1285 => ?_)
  obtain ⟨rfl, rfl⟩ := hp1285
  refine z_iload C dL_law_1288 rfl ?_
  refine z_icmp_eq (tgt := 1295) C dL_law_1290 (by decide) (fun h1290 => ?_) (fun h1290 => ?_)
  · refine z_iload C dL_law_1295 rfl ?_
    refine z_if_ne (tgt := 1312) C dL_law_1297 (by decide) (fun h1297 => ?_) (fun h1297 => ?_)
    · refine z_goto (tgt := 1814) C dL_law_1312 (by decide) ?_
      exact hend _ _ _ _ _ _ (Nat.le_of_ble_eq_true rfl) (Nat.le_of_ble_eq_true rfl)
    · exact absurd h1297 (by decide)
  · exact absurd rfl h1290
abbrev rm_l_spread : Room := { frames := 9, cells := 0, slots := 0, locals := 156 }
set_option maxHeartbeats 4000000 in
set_option maxRecDepth 100000 in
theorem l_spread {p : Program} {l : Launch} {e : Env} {s : State} {m : MethodId} {args : Array Value} {below : List Frame} {meth : Method} {c : Code} {Q : State → Prop} {Γ : zY} {A : Nat → Prop} {G : zG} {b xb mo out od : Nat} {xs : Nat → Int32} {f : Nat → Int64} {fd : Nat → UInt64} {μ : Nat → Nat} (hst : l.stackTraces = false) (C : zC p s m args meth c cL_law R_law 9 Γ A) (hX : va_X b 6 xs s s.heap) (hbl : b < s.heap.size) (hbA : ¬ A b)
    (hend : ∀ (G : zG) (k n : Nat) (a6 a7 a8 : Option Value), k ≤ 600002 → n ≤ 7302232 → Z p l e room_1 s m args below meth c Q 9 Γ A G k n 1814 [some (.ref b), some (.ref xb), some (.ref mo), some (.ref out), some (.ref od), some (.int 0), a6, a7, a8] [])
    (hC : zC0 Γ G xb) (ho : G out = some (zJ Γ 1 f)) (hod : G od = some (zDb Γ 1 fd)) (hm : G mo = some (oM0 0 μ)) (hf : zMf Γ G μ) (hou : ∀ i, out ≠ μ i) :
    Z p l e room_1 s m args below meth c Q 9 Γ A G 30 1000 1315 [some (.ref b), some (.ref xb), some (.ref mo), some (.ref out), some (.ref od), some (.int 0), none, none, none] [] := by
  first | refine z_rload_n C dL_law_1315 rfl ?_ | refine z_nload_n C dL_law_1315 rfl ?_ | refine z_aload_n C dL_law_1315 rfl ?_
  first | refine z_rload_n C dL_law_1316 rfl ?_ | refine z_nload_n C dL_law_1316 rfl ?_ | refine z_aload_n C dL_law_1316 rfl ?_
  refine z_iload C dL_law_1317 rfl ?_
  refine z_iconst (v := 1) C dL_law_1319 rfl ?_
  refine z_iadd C dL_law_1320 ?_
  refine z_sld C hX hbl hbA (by unfold vp_in; decide) dL_law_1321 ?_
  first | refine z_rload C dL_law_1322 rfl ?_ | refine z_aload C dL_law_1322 rfl ?_
  refine z_callSH C (w_spread l hst Γ _ _ hC) kc_L_law_1324 rfl rfl ky_L_spread ⟨(Nat.le_of_ble_eq_true rfl), (Nat.le_of_ble_eq_true rfl)⟩ (Nat.le_of_ble_eq_true rfl) ⟨(Nat.le_of_ble_eq_true rfl), (Nat.le_of_ble_eq_true rfl)⟩ dL_law_1324 (fun v1324 G1324 hp1324 => ?_)
  obtain ⟨rfl, rfl⟩ := hp1324
  refine z_istore C dL_law_1327 (by decide) ?_
  first | refine z_rload_n C dL_law_1329 rfl ?_ | refine z_nload_n C dL_law_1329 rfl ?_ | refine z_aload_n C dL_law_1329 rfl ?_
  first | refine z_rload_n C dL_law_1330 rfl ?_ | refine z_nload_n C dL_law_1330 rfl ?_ | refine z_aload_n C dL_law_1330 rfl ?_
  refine z_iload C dL_law_1331 rfl ?_
  refine z_iconst (v := 1) C dL_law_1333 rfl ?_
  refine z_iadd C dL_law_1334 ?_
  refine z_sld C hX hbl hbA (by unfold vp_in; decide) dL_law_1335 ?_
  refine z_callV (q := (RX7, TX7, 19)) C (m_spread l Γ _ _ hm) kc_L_law_1336 (by first | assumption | exact zU_same _ _ _) rfl rfl rfl rfl ky_X7_spread ⟨(Nat.le_of_ble_eq_true rfl), (Nat.le_of_ble_eq_true rfl)⟩ (Nat.le_of_ble_eq_true rfl) ⟨(Nat.le_of_ble_eq_true rfl), (Nat.le_of_ble_eq_true rfl)⟩ dL_law_1336 (fun v1336 G1336 hp1336 => ?_)
  obtain ⟨rfl, rfl⟩ := hp1336
  refine z_dstore C dL_law_1339 (by decide) ?_
  first | refine z_rload_n C dL_law_1341 rfl ?_ | refine z_nload_n C dL_law_1341 rfl ?_ | refine z_aload_n C dL_law_1341 rfl ?_
  refine z_callV (q := (RX7, TX7, 19)) C (m_thrown l Γ _ (zU_same _ _ _)) kc_L_law_1342 (by first | assumption | exact zU_same _ _ _) rfl rfl rfl rfl ky_X7_thrown ⟨(Nat.le_of_ble_eq_true rfl), (Nat.le_of_ble_eq_true rfl)⟩ (Nat.le_of_ble_eq_true rfl) ⟨(Nat.le_of_ble_eq_true rfl), (Nat.le_of_ble_eq_true rfl)⟩ dL_law_1342 (fun v1342 G1342 hp1342 => ?_)
  obtain ⟨rfl, rfl⟩ := hp1342
  refine z_iload C dL_law_1345 rfl ?_
  refine z_icmp_eq (tgt := 1352) C dL_law_1347 (by decide) (fun h1347 => ?_) (fun h1347 => ?_)
  · refine z_iload C dL_law_1352 rfl ?_
    refine z_if_ne (tgt := 1389) C dL_law_1354 (by decide) (fun h1354 => ?_) (fun h1354 => ?_)
    · refine z_goto (tgt := 1814) C dL_law_1389 (by decide) ?_
      exact hend _ _ _ _ _ _ (Nat.le_of_ble_eq_true rfl) (Nat.le_of_ble_eq_true rfl)
    · exact absurd h1354 (by decide)
  · exact absurd rfl h1347
abbrev rm_l_gap : Room := { frames := 9, cells := 0, slots := 0, locals := 156 }
set_option maxHeartbeats 4000000 in
set_option maxRecDepth 100000 in
theorem l_gap {p : Program} {l : Launch} {e : Env} {s : State} {m : MethodId} {args : Array Value} {below : List Frame} {meth : Method} {c : Code} {Q : State → Prop} {Γ : zY} {A : Nat → Prop} {G : zG} {b xb mo out od : Nat} {xs : Nat → Int32} {f : Nat → Int64} {fd : Nat → UInt64} {μ : Nat → Nat} (hst : l.stackTraces = false) (C : zC p s m args meth c cL_law R_law 9 Γ A) (hX : va_X b 6 xs s s.heap) (hbl : b < s.heap.size) (hbA : ¬ A b)
    (hend : ∀ (G : zG) (k n : Nat) (a6 a7 a8 : Option Value), k ≤ 600002 → n ≤ 7302232 → Z p l e room_1 s m args below meth c Q 9 Γ A G k n 1814 [some (.ref b), some (.ref xb), some (.ref mo), some (.ref out), some (.ref od), some (.int 0), a6, a7, a8] [])
    (hC : zC0 Γ G xb) (ho : G out = some (zJ Γ 1 f)) (hod : G od = some (zDb Γ 1 fd)) (hm : G mo = some (oM0 0 μ)) (hf : zMf Γ G μ) (hou : ∀ i, out ≠ μ i) :
    Z p l e room_1 s m args below meth c Q 9 Γ A G 30 1000 1392 [some (.ref b), some (.ref xb), some (.ref mo), some (.ref out), some (.ref od), some (.int 0), none, none, none] [] := by
  first | refine z_rload_n C dL_law_1392 rfl ?_ | refine z_nload_n C dL_law_1392 rfl ?_ | refine z_aload_n C dL_law_1392 rfl ?_
  first | refine z_rload_n C dL_law_1393 rfl ?_ | refine z_nload_n C dL_law_1393 rfl ?_ | refine z_aload_n C dL_law_1393 rfl ?_
  refine z_iload C dL_law_1394 rfl ?_
  refine z_iconst (v := 1) C dL_law_1396 rfl ?_
  refine z_iadd C dL_law_1397 ?_
  refine z_sld C hX hbl hbA (by unfold vp_in; decide) dL_law_1398 ?_
  first | refine z_rload_n C dL_law_1399 rfl ?_ | refine z_nload_n C dL_law_1399 rfl ?_ | refine z_aload_n C dL_law_1399 rfl ?_
  refine z_callSH C (w_gap l hst Γ _ _ hC) kc_L_law_1400 rfl rfl ky_L_gap ⟨(Nat.le_of_ble_eq_true rfl), (Nat.le_of_ble_eq_true rfl)⟩ (Nat.le_of_ble_eq_true rfl) ⟨(Nat.le_of_ble_eq_true rfl), (Nat.le_of_ble_eq_true rfl)⟩ dL_law_1400 (fun v1400 G1400 hp1400 => ?_)
  obtain ⟨rfl, rfl⟩ := hp1400
  refine z_istore C dL_law_1403 (by decide) ?_
  first | refine z_rload_n C dL_law_1405 rfl ?_ | refine z_nload_n C dL_law_1405 rfl ?_ | refine z_aload_n C dL_law_1405 rfl ?_
  first | refine z_rload_n C dL_law_1406 rfl ?_ | refine z_nload_n C dL_law_1406 rfl ?_ | refine z_aload_n C dL_law_1406 rfl ?_
  refine z_iload C dL_law_1407 rfl ?_
  refine z_iconst (v := 1) C dL_law_1409 rfl ?_
  refine z_iadd C dL_law_1410 ?_
  refine z_sld C hX hbl hbA (by unfold vp_in; decide) dL_law_1411 ?_
  refine z_callV (q := (RX7, TX7, 19)) C (m_gap l Γ _ _ hm) kc_L_law_1412 (by first | assumption | exact zU_same _ _ _) rfl rfl rfl rfl ky_X7_gap ⟨(Nat.le_of_ble_eq_true rfl), (Nat.le_of_ble_eq_true rfl)⟩ (Nat.le_of_ble_eq_true rfl) ⟨(Nat.le_of_ble_eq_true rfl), (Nat.le_of_ble_eq_true rfl)⟩ dL_law_1412 (fun v1412 G1412 hp1412 => ?_)
  obtain ⟨rfl, rfl⟩ := hp1412
  refine z_istore C dL_law_1415 (by decide) ?_
  first | refine z_rload_n C dL_law_1417 rfl ?_ | refine z_nload_n C dL_law_1417 rfl ?_ | refine z_aload_n C dL_law_1417 rfl ?_
  refine z_callV (q := (RX7, TX7, 19)) C (m_thrown l Γ _ (zU_same _ _ _)) kc_L_law_1418 (by first | assumption | exact zU_same _ _ _) rfl rfl rfl rfl ky_X7_thrown ⟨(Nat.le_of_ble_eq_true rfl), (Nat.le_of_ble_eq_true rfl)⟩ (Nat.le_of_ble_eq_true rfl) ⟨(Nat.le_of_ble_eq_true rfl), (Nat.le_of_ble_eq_true rfl)⟩ dL_law_1418 (fun v1418 G1418 hp1418 => ?_)
  obtain ⟨rfl, rfl⟩ := hp1418
  refine z_iload C dL_law_1421 rfl ?_
  refine z_icmp_eq (tgt := 1428) C dL_law_1423 (by decide) (fun h1423 => ?_) (fun h1423 => ?_)
  · refine z_iload C dL_law_1428 rfl ?_
    refine z_if_ne (tgt := 1445) C dL_law_1430 (by decide) (fun h1430 => ?_) (fun h1430 => ?_)
    · refine z_goto (tgt := 1814) C dL_law_1445 (by decide) ?_
      exact hend _ _ _ _ _ _ (Nat.le_of_ble_eq_true rfl) (Nat.le_of_ble_eq_true rfl)
    · exact absurd h1430 (by decide)
  · exact absurd rfl h1423
abbrev rm_l_setAmplitude : Room := { frames := 9, cells := 0, slots := 0, locals := 159 }
set_option maxHeartbeats 4000000 in
set_option maxRecDepth 100000 in
theorem l_setAmplitude {p : Program} {l : Launch} {e : Env} {s : State} {m : MethodId} {args : Array Value} {below : List Frame} {meth : Method} {c : Code} {Q : State → Prop} {Γ : zY} {A : Nat → Prop} {G : zG} {b xb mo out od : Nat} {xs : Nat → Int32} {f : Nat → Int64} {fd : Nat → UInt64} {μ : Nat → Nat} (hst : l.stackTraces = false) (C : zC p s m args meth c cL_law R_law 9 Γ A) (hX : va_X b 6 xs s s.heap) (hbl : b < s.heap.size) (hbA : ¬ A b)
    (hend : ∀ (G : zG) (k n : Nat) (a6 a7 a8 : Option Value), k ≤ 600002 → n ≤ 7302232 → Z p l e room_1 s m args below meth c Q 9 Γ A G k n 1814 [some (.ref b), some (.ref xb), some (.ref mo), some (.ref out), some (.ref od), some (.int 0), a6, a7, a8] [])
    (hC : zC0 Γ G xb) (ho : G out = some (zJ Γ 1 f)) (hod : G od = some (zDb Γ 1 fd)) (hm : G mo = some (oM0 0 μ)) (hf : zMf Γ G μ) (hou : ∀ i, out ≠ μ i) :
    Z p l e room_1 s m args below meth c Q 9 Γ A G 30 1000 1448 [some (.ref b), some (.ref xb), some (.ref mo), some (.ref out), some (.ref od), some (.int 0), none, none, none] [] := by
  first | refine z_rload_n C dL_law_1448 rfl ?_ | refine z_nload_n C dL_law_1448 rfl ?_ | refine z_aload_n C dL_law_1448 rfl ?_
  first | refine z_rload_n C dL_law_1449 rfl ?_ | refine z_nload_n C dL_law_1449 rfl ?_ | refine z_aload_n C dL_law_1449 rfl ?_
  refine z_iload C dL_law_1450 rfl ?_
  refine z_iconst (v := 1) C dL_law_1452 rfl ?_
  refine z_iadd C dL_law_1453 ?_
  refine z_sld C hX hbl hbA (by unfold vp_in; decide) dL_law_1454 ?_
  first | refine z_rload_n C dL_law_1455 rfl ?_ | refine z_nload_n C dL_law_1455 rfl ?_ | refine z_aload_n C dL_law_1455 rfl ?_
  refine z_iload C dL_law_1456 rfl ?_
  refine z_iconst (v := 2) C dL_law_1458 rfl ?_
  refine z_iadd C dL_law_1459 ?_
  refine z_sld C hX hbl hbA (by unfold vp_in; decide) dL_law_1460 ?_
  first | refine z_rload_n C dL_law_1461 rfl ?_ | refine z_nload_n C dL_law_1461 rfl ?_ | refine z_aload_n C dL_law_1461 rfl ?_
  refine z_callSH C (w_setAmplitude l hst Γ _ _ _ hC) kc_L_law_1462 rfl rfl ky_L_setAmplitude ⟨(Nat.le_of_ble_eq_true rfl), (Nat.le_of_ble_eq_true rfl)⟩ (Nat.le_of_ble_eq_true rfl) ⟨(Nat.le_of_ble_eq_true rfl), (Nat.le_of_ble_eq_true rfl)⟩ dL_law_1462 (fun v1462 G1462 hp1462 => ?_)
  obtain ⟨rfl, rfl⟩ := hp1462
  refine z_istore C dL_law_1465 (by decide) ?_
  first | refine z_rload_n C dL_law_1467 rfl ?_ | refine z_nload_n C dL_law_1467 rfl ?_ | refine z_aload_n C dL_law_1467 rfl ?_
  first | refine z_rload_n C dL_law_1468 rfl ?_ | refine z_nload_n C dL_law_1468 rfl ?_ | refine z_aload_n C dL_law_1468 rfl ?_
  refine z_iload C dL_law_1469 rfl ?_
  refine z_iconst (v := 1) C dL_law_1471 rfl ?_
  refine z_iadd C dL_law_1472 ?_
  refine z_sld C hX hbl hbA (by unfold vp_in; decide) dL_law_1473 ?_
  first | refine z_rload_n C dL_law_1474 rfl ?_ | refine z_nload_n C dL_law_1474 rfl ?_ | refine z_aload_n C dL_law_1474 rfl ?_
  refine z_iload C dL_law_1475 rfl ?_
  refine z_iconst (v := 2) C dL_law_1477 rfl ?_
  refine z_iadd C dL_law_1478 ?_
  refine z_sld C hX hbl hbA (by unfold vp_in; decide) dL_law_1479 ?_
  refine z_callV (q := (RX7, TX7, 19)) C (m_setAmplitude l Γ _ _ _ hm) kc_L_law_1480 (by first | assumption | exact zU_same _ _ _) rfl rfl rfl rfl ky_X7_setAmplitude ⟨(Nat.le_of_ble_eq_true rfl), (Nat.le_of_ble_eq_true rfl)⟩ (Nat.le_of_ble_eq_true rfl) ⟨(Nat.le_of_ble_eq_true rfl), (Nat.le_of_ble_eq_true rfl)⟩ dL_law_1480 (fun v1480 G1480 hp1480 => ?_)
  obtain ⟨rfl, rfl⟩ := hp1480
  refine z_istore C dL_law_1483 (by decide) ?_
  first | refine z_rload_n C dL_law_1485 rfl ?_ | refine z_nload_n C dL_law_1485 rfl ?_ | refine z_aload_n C dL_law_1485 rfl ?_
  refine z_callV (q := (RX7, TX7, 19)) C (m_thrown l Γ _ (zU_same _ _ _)) kc_L_law_1486 (by first | assumption | exact zU_same _ _ _) rfl rfl rfl rfl ky_X7_thrown ⟨(Nat.le_of_ble_eq_true rfl), (Nat.le_of_ble_eq_true rfl)⟩ (Nat.le_of_ble_eq_true rfl) ⟨(Nat.le_of_ble_eq_true rfl), (Nat.le_of_ble_eq_true rfl)⟩ dL_law_1486 (fun v1486 G1486 hp1486 => ?_)
  obtain ⟨rfl, rfl⟩ := hp1486
  refine z_iload C dL_law_1489 rfl ?_
  refine z_icmp_eq (tgt := 1496) C dL_law_1491 (by decide) (fun h1491 => ?_) (fun h1491 => ?_)
  · refine z_iload C dL_law_1496 rfl ?_
    refine z_if_ne (tgt := 1513) C dL_law_1498 (by decide) (fun h1498 => ?_) (fun h1498 => ?_)
    · refine z_goto (tgt := 1814) C dL_law_1513 (by decide) ?_
      exact hend _ _ _ _ _ _ (Nat.le_of_ble_eq_true rfl) (Nat.le_of_ble_eq_true rfl)
    · exact absurd h1498 (by decide)
  · exact absurd rfl h1491
abbrev rm_l_magnitude : Room := { frames := 9, cells := 0, slots := 0, locals := 156 }
set_option maxHeartbeats 4000000 in
set_option maxRecDepth 100000 in
theorem l_magnitude {p : Program} {l : Launch} {e : Env} {s : State} {m : MethodId} {args : Array Value} {below : List Frame} {meth : Method} {c : Code} {Q : State → Prop} {Γ : zY} {A : Nat → Prop} {G : zG} {b xb mo out od : Nat} {xs : Nat → Int32} {f : Nat → Int64} {fd : Nat → UInt64} {μ : Nat → Nat} (hst : l.stackTraces = false) (C : zC p s m args meth c cL_law R_law 9 Γ A) (hX : va_X b 6 xs s s.heap) (hbl : b < s.heap.size) (hbA : ¬ A b)
    (hend : ∀ (G : zG) (k n : Nat) (a6 a7 a8 : Option Value), k ≤ 600002 → n ≤ 7302232 → Z p l e room_1 s m args below meth c Q 9 Γ A G k n 1814 [some (.ref b), some (.ref xb), some (.ref mo), some (.ref out), some (.ref od), some (.int 0), a6, a7, a8] [])
    (hC : zC0 Γ G xb) (ho : G out = some (zJ Γ 1 f)) (hod : G od = some (zDb Γ 1 fd)) (hm : G mo = some (oM0 0 μ)) (hf : zMf Γ G μ) (hou : ∀ i, out ≠ μ i) :
    Z p l e room_1 s m args below meth c Q 9 Γ A G 30 1000 1516 [some (.ref b), some (.ref xb), some (.ref mo), some (.ref out), some (.ref od), some (.int 0), none, none, none] [] := by
  first | refine z_rload_n C dL_law_1516 rfl ?_ | refine z_nload_n C dL_law_1516 rfl ?_ | refine z_aload_n C dL_law_1516 rfl ?_
  first | refine z_rload_n C dL_law_1517 rfl ?_ | refine z_nload_n C dL_law_1517 rfl ?_ | refine z_aload_n C dL_law_1517 rfl ?_
  refine z_iload C dL_law_1518 rfl ?_
  refine z_iconst (v := 1) C dL_law_1520 rfl ?_
  refine z_iadd C dL_law_1521 ?_
  refine z_sld C hX hbl hbA (by unfold vp_in; decide) dL_law_1522 ?_
  first | refine z_rload_n C dL_law_1523 rfl ?_ | refine z_nload_n C dL_law_1523 rfl ?_ | refine z_aload_n C dL_law_1523 rfl ?_
  refine z_callSH C (w_magnitude l hst Γ _ _ hC) kc_L_law_1524 rfl rfl ky_L_magnitude ⟨(Nat.le_of_ble_eq_true rfl), (Nat.le_of_ble_eq_true rfl)⟩ (Nat.le_of_ble_eq_true rfl) ⟨(Nat.le_of_ble_eq_true rfl), (Nat.le_of_ble_eq_true rfl)⟩ dL_law_1524 (fun v1524 G1524 hp1524 => ?_)
  obtain ⟨rfl, rfl⟩ := hp1524
  refine z_istore C dL_law_1527 (by decide) ?_
  first | refine z_rload_n C dL_law_1529 rfl ?_ | refine z_nload_n C dL_law_1529 rfl ?_ | refine z_aload_n C dL_law_1529 rfl ?_
  first | refine z_rload_n C dL_law_1530 rfl ?_ | refine z_nload_n C dL_law_1530 rfl ?_ | refine z_aload_n C dL_law_1530 rfl ?_
  refine z_iload C dL_law_1531 rfl ?_
  refine z_iconst (v := 1) C dL_law_1533 rfl ?_
  refine z_iadd C dL_law_1534 ?_
  refine z_sld C hX hbl hbA (by unfold vp_in; decide) dL_law_1535 ?_
  refine z_callV (q := (RX7, TX7, 19)) C (m_magnitude l Γ _ _ hm) kc_L_law_1536 (by first | assumption | exact zU_same _ _ _) rfl rfl rfl rfl ky_X7_magnitude ⟨(Nat.le_of_ble_eq_true rfl), (Nat.le_of_ble_eq_true rfl)⟩ (Nat.le_of_ble_eq_true rfl) ⟨(Nat.le_of_ble_eq_true rfl), (Nat.le_of_ble_eq_true rfl)⟩ dL_law_1536 (fun v1536 G1536 hp1536 => ?_)
  obtain ⟨rfl, rfl⟩ := hp1536
  refine z_istore C dL_law_1539 (by decide) ?_
  first | refine z_rload_n C dL_law_1541 rfl ?_ | refine z_nload_n C dL_law_1541 rfl ?_ | refine z_aload_n C dL_law_1541 rfl ?_
  refine z_callV (q := (RX7, TX7, 19)) C (m_thrown l Γ _ (zU_same _ _ _)) kc_L_law_1542 (by first | assumption | exact zU_same _ _ _) rfl rfl rfl rfl ky_X7_thrown ⟨(Nat.le_of_ble_eq_true rfl), (Nat.le_of_ble_eq_true rfl)⟩ (Nat.le_of_ble_eq_true rfl) ⟨(Nat.le_of_ble_eq_true rfl), (Nat.le_of_ble_eq_true rfl)⟩ dL_law_1542 (fun v1542 G1542 hp1542 => ?_)
  obtain ⟨rfl, rfl⟩ := hp1542
  refine z_iload C dL_law_1545 rfl ?_
  refine z_icmp_eq (tgt := 1552) C dL_law_1547 (by decide) (fun h1547 => ?_) (fun h1547 => ?_)
  · refine z_iload C dL_law_1552 rfl ?_
    refine z_if_ne (tgt := 1569) C dL_law_1554 (by decide) (fun h1554 => ?_) (fun h1554 => ?_)
    · refine z_goto (tgt := 1814) C dL_law_1569 (by decide) ?_
      exact hend _ _ _ _ _ _ (Nat.le_of_ble_eq_true rfl) (Nat.le_of_ble_eq_true rfl)
    · exact absurd h1554 (by decide)
  · exact absurd rfl h1547
abbrev rm_l_families : Room := { frames := 9, cells := 0, slots := 0, locals := 160 }
set_option maxHeartbeats 4000000 in
set_option maxRecDepth 100000 in
theorem l_families {p : Program} {l : Launch} {e : Env} {s : State} {m : MethodId} {args : Array Value} {below : List Frame} {meth : Method} {c : Code} {Q : State → Prop} {Γ : zY} {A : Nat → Prop} {G : zG} {b xb mo out od : Nat} {xs : Nat → Int32} {f : Nat → Int64} {fd : Nat → UInt64} {μ : Nat → Nat} (hst : l.stackTraces = false) (C : zC p s m args meth c cL_law R_law 9 Γ A) (hX : va_X b 6 xs s s.heap) (hbl : b < s.heap.size) (hbA : ¬ A b)
    (hend : ∀ (G : zG) (k n : Nat) (a6 a7 a8 : Option Value), k ≤ 600002 → n ≤ 7302232 → Z p l e room_1 s m args below meth c Q 9 Γ A G k n 1814 [some (.ref b), some (.ref xb), some (.ref mo), some (.ref out), some (.ref od), some (.int 0), a6, a7, a8] [])
    (hC : zC0 Γ G xb) (ho : G out = some (zJ Γ 1 f)) (hod : G od = some (zDb Γ 1 fd)) (hm : G mo = some (oM0 0 μ)) (hf : zMf Γ G μ) (hou : ∀ i, out ≠ μ i) :
    Z p l e room_1 s m args below meth c Q 9 Γ A G 30 1000 1572 [some (.ref b), some (.ref xb), some (.ref mo), some (.ref out), some (.ref od), some (.int 0), none, none, none] [] := by
  have hom : out ≠ mo := fun z => by rw [z, hm] at ho; cases ho
  first | refine z_rload_n C dL_law_1572 rfl ?_ | refine z_nload_n C dL_law_1572 rfl ?_ | refine z_aload_n C dL_law_1572 rfl ?_
  first | refine z_rload_n C dL_law_1573 rfl ?_ | refine z_nload_n C dL_law_1573 rfl ?_ | refine z_aload_n C dL_law_1573 rfl ?_
  refine z_iload C dL_law_1574 rfl ?_
  refine z_iconst (v := 1) C dL_law_1576 rfl ?_
  refine z_iadd C dL_law_1577 ?_
  refine z_sld C hX hbl hbA (by unfold vp_in; decide) dL_law_1578 ?_
  first | refine z_rload_n C dL_law_1579 rfl ?_ | refine z_nload_n C dL_law_1579 rfl ?_ | refine z_aload_n C dL_law_1579 rfl ?_
  refine z_iload C dL_law_1580 rfl ?_
  refine z_iconst (v := 2) C dL_law_1582 rfl ?_
  refine z_iadd C dL_law_1583 ?_
  refine z_sld C hX hbl hbA (by unfold vp_in; decide) dL_law_1584 ?_
  first | refine z_rload_n C dL_law_1585 rfl ?_ | refine z_nload_n C dL_law_1585 rfl ?_ | refine z_aload_n C dL_law_1585 rfl ?_
  refine z_callSH C (w_families l hst Γ _ _ _ hC ho) kc_L_law_1586 rfl rfl ky_L_families ⟨(Nat.le_of_ble_eq_true rfl), (Nat.le_of_ble_eq_true rfl)⟩ (Nat.le_of_ble_eq_true rfl) ⟨(Nat.le_of_ble_eq_true rfl), (Nat.le_of_ble_eq_true rfl)⟩ dL_law_1586 (fun v1586 G1586 hp1586 => ?_)
  rcases hp1586 with ⟨rfl, hp1, rfl⟩ | ⟨rfl, hp0, G1, hk1, rfl⟩
  · refine z_istore C dL_law_1589 (by decide) ?_
    first | refine z_rload_n C dL_law_1591 rfl ?_ | refine z_nload_n C dL_law_1591 rfl ?_ | refine z_aload_n C dL_law_1591 rfl ?_
    first | refine z_rload_n C dL_law_1592 rfl ?_ | refine z_nload_n C dL_law_1592 rfl ?_ | refine z_aload_n C dL_law_1592 rfl ?_
    refine z_iload C dL_law_1593 rfl ?_
    refine z_iconst (v := 1) C dL_law_1595 rfl ?_
    refine z_iadd C dL_law_1596 ?_
    refine z_sld C hX hbl hbA (by unfold vp_in; decide) dL_law_1597 ?_
    first | refine z_rload_n C dL_law_1598 rfl ?_ | refine z_nload_n C dL_law_1598 rfl ?_ | refine z_aload_n C dL_law_1598 rfl ?_
    refine z_iload C dL_law_1599 rfl ?_
    refine z_iconst (v := 2) C dL_law_1601 rfl ?_
    refine z_iadd C dL_law_1602 ?_
    refine z_sld C hX hbl hbA (by unfold vp_in; decide) dL_law_1603 ?_
    refine z_callV (q := (RX7, TX7, 19)) C (m_families l Γ _ _ _ hm) kc_L_law_1604 (by first | assumption | exact zU_same _ _ _) rfl rfl rfl rfl ky_X7_families ⟨(Nat.le_of_ble_eq_true rfl), (Nat.le_of_ble_eq_true rfl)⟩ (Nat.le_of_ble_eq_true rfl) ⟨(Nat.le_of_ble_eq_true rfl), (Nat.le_of_ble_eq_true rfl)⟩ dL_law_1604 (fun v1604 G1604 hp1604 => ?_)
    obtain ⟨rfl, ⟨fs, hfs⟩, hfr⟩ := hp1604
    refine z_istore C dL_law_1607 (by decide) ?_
    first | refine z_rload_n C dL_law_1609 rfl ?_ | refine z_nload_n C dL_law_1609 rfl ?_ | refine z_aload_n C dL_law_1609 rfl ?_
    refine z_callV (q := (RX7, TX7, 19)) C (m_thrown l Γ _ hfs) kc_L_law_1610 hfs rfl rfl rfl rfl ky_X7_thrown ⟨(Nat.le_of_ble_eq_true rfl), (Nat.le_of_ble_eq_true rfl)⟩ (Nat.le_of_ble_eq_true rfl) ⟨(Nat.le_of_ble_eq_true rfl), (Nat.le_of_ble_eq_true rfl)⟩ dL_law_1610 (fun v1610 G1610 hp1610 => ?_)
    obtain ⟨rfl, rfl⟩ := hp1610
    refine z_iload C dL_law_1613 rfl ?_
    refine z_icmp_eq (tgt := 1620) C dL_law_1615 (by decide) (fun h1615 => ?_) (fun h1615 => ?_)
    · refine z_iload C dL_law_1620 rfl ?_
      refine z_if_ne (tgt := 1637) C dL_law_1622 (by decide) (fun h1622 => ?_) (fun h1622 => ?_)
      · refine z_goto (tgt := 1814) C dL_law_1637 (by decide) ?_
        exact hend _ _ _ _ _ _ (Nat.le_of_ble_eq_true rfl) (Nat.le_of_ble_eq_true rfl)
      · exact absurd h1622 (by decide)
    · exact absurd (by rw [hp1]; rfl) h1615
  · refine z_istore C dL_law_1589 (by decide) ?_
    first | refine z_rload_n C dL_law_1591 rfl ?_ | refine z_nload_n C dL_law_1591 rfl ?_ | refine z_aload_n C dL_law_1591 rfl ?_
    first | refine z_rload_n C dL_law_1592 rfl ?_ | refine z_nload_n C dL_law_1592 rfl ?_ | refine z_aload_n C dL_law_1592 rfl ?_
    refine z_iload C dL_law_1593 rfl ?_
    refine z_iconst (v := 1) C dL_law_1595 rfl ?_
    refine z_iadd C dL_law_1596 ?_
    refine z_sld C hX hbl hbA (by unfold vp_in; decide) dL_law_1597 ?_
    first | refine z_rload_n C dL_law_1598 rfl ?_ | refine z_nload_n C dL_law_1598 rfl ?_ | refine z_aload_n C dL_law_1598 rfl ?_
    refine z_iload C dL_law_1599 rfl ?_
    refine z_iconst (v := 2) C dL_law_1601 rfl ?_
    refine z_iadd C dL_law_1602 ?_
    refine z_sld C hX hbl hbA (by unfold vp_in; decide) dL_law_1603 ?_
    refine z_callV (q := (RX7, TX7, 19)) C (m_families l Γ _ _ _ ((zU_ne hom.symm).trans (hk1 _ _ hm rfl))) kc_L_law_1604 ((zU_ne hom.symm).trans (hk1 _ _ hm rfl)) rfl rfl rfl rfl ky_X7_families ⟨(Nat.le_of_ble_eq_true rfl), (Nat.le_of_ble_eq_true rfl)⟩ (Nat.le_of_ble_eq_true rfl) ⟨(Nat.le_of_ble_eq_true rfl), (Nat.le_of_ble_eq_true rfl)⟩ dL_law_1604 (fun v1604 G1604 hp1604 => ?_)
    obtain ⟨rfl, ⟨fs, hfs⟩, hfr⟩ := hp1604
    refine z_istore C dL_law_1607 (by decide) ?_
    first | refine z_rload_n C dL_law_1609 rfl ?_ | refine z_nload_n C dL_law_1609 rfl ?_ | refine z_aload_n C dL_law_1609 rfl ?_
    refine z_callV (q := (RX7, TX7, 19)) C (m_thrown l Γ _ hfs) kc_L_law_1610 hfs rfl rfl rfl rfl ky_X7_thrown ⟨(Nat.le_of_ble_eq_true rfl), (Nat.le_of_ble_eq_true rfl)⟩ (Nat.le_of_ble_eq_true rfl) ⟨(Nat.le_of_ble_eq_true rfl), (Nat.le_of_ble_eq_true rfl)⟩ dL_law_1610 (fun v1610 G1610 hp1610 => ?_)
    obtain ⟨rfl, rfl⟩ := hp1610
    refine z_iload C dL_law_1613 rfl ?_
    refine z_icmp_eq (tgt := 1620) C dL_law_1615 (by decide) (fun h1615 => ?_) (fun h1615 => ?_)
    · refine z_iload C dL_law_1620 rfl ?_
      refine z_if_ne (tgt := 1637) C dL_law_1622 (by decide) (fun h1622 => ?_) (fun h1622 => ?_)
      · exact absurd rfl h1622
      · first | refine z_rload_n C dL_law_1625 rfl ?_ | refine z_nload_n C dL_law_1625 rfl ?_ | refine z_aload_n C dL_law_1625 rfl ?_
        refine z_iconst (v := 0) C dL_law_1626 rfl ?_
        refine z_lald C (hfr _ _ (zU_same _ _ _) hom hou) (by unfold vp_in; decide) dL_law_1627 ?_
        refine z_iload C dL_law_1628 rfl ?_
        refine z_i2l C dL_law_1630 ?_
        refine z_lcmp C dL_law_1631 ?_
        refine z_if_eq (tgt := 1637) C dL_law_1632 (by decide) (fun h1632 => ?_) (fun h1632 => ?_)
        · refine z_goto (tgt := 1814) C dL_law_1637 (by decide) ?_
          exact hend _ _ _ _ _ _ (Nat.le_of_ble_eq_true rfl) (Nat.le_of_ble_eq_true rfl)
        · refine absurd ?_ h1632
          rw [show vp_updL f (0 : Int32).toNatClampNeg _ (0 : Int32).toNatClampNeg = _ from if_pos rfl]
          exact lg_cmp_self _
    · exact absurd (by rw [hp0]; rfl) h1615
abbrev rm_l_family : Room := { frames := 9, cells := 0, slots := 0, locals := 163 }
set_option maxHeartbeats 4000000 in
set_option maxRecDepth 100000 in
theorem l_family {p : Program} {l : Launch} {e : Env} {s : State} {m : MethodId} {args : Array Value} {below : List Frame} {meth : Method} {c : Code} {Q : State → Prop} {Γ : zY} {A : Nat → Prop} {G : zG} {b xb mo out od : Nat} {xs : Nat → Int32} {f : Nat → Int64} {fd : Nat → UInt64} {μ : Nat → Nat} (hst : l.stackTraces = false) (C : zC p s m args meth c cL_law R_law 9 Γ A) (hX : va_X b 6 xs s s.heap) (hbl : b < s.heap.size) (hbA : ¬ A b)
    (hend : ∀ (G : zG) (k n : Nat) (a6 a7 a8 : Option Value), k ≤ 600002 → n ≤ 7302232 → Z p l e room_1 s m args below meth c Q 9 Γ A G k n 1814 [some (.ref b), some (.ref xb), some (.ref mo), some (.ref out), some (.ref od), some (.int 0), a6, a7, a8] [])
    (hC : zC0 Γ G xb) (ho : G out = some (zJ Γ 1 f)) (hod : G od = some (zDb Γ 1 fd)) (hm : G mo = some (oM0 0 μ)) (hf : zMf Γ G μ) (hou : ∀ i, out ≠ μ i) :
    Z p l e room_1 s m args below meth c Q 9 Γ A G 30 1000 1640 [some (.ref b), some (.ref xb), some (.ref mo), some (.ref out), some (.ref od), some (.int 0), none, none, none] [] := by
  first | refine z_rload_n C dL_law_1640 rfl ?_ | refine z_nload_n C dL_law_1640 rfl ?_ | refine z_aload_n C dL_law_1640 rfl ?_
  first | refine z_rload_n C dL_law_1641 rfl ?_ | refine z_nload_n C dL_law_1641 rfl ?_ | refine z_aload_n C dL_law_1641 rfl ?_
  refine z_iload C dL_law_1642 rfl ?_
  refine z_iconst (v := 1) C dL_law_1644 rfl ?_
  refine z_iadd C dL_law_1645 ?_
  refine z_sld C hX hbl hbA (by unfold vp_in; decide) dL_law_1646 ?_
  first | refine z_rload_n C dL_law_1647 rfl ?_ | refine z_nload_n C dL_law_1647 rfl ?_ | refine z_aload_n C dL_law_1647 rfl ?_
  refine z_iload C dL_law_1648 rfl ?_
  refine z_iconst (v := 2) C dL_law_1650 rfl ?_
  refine z_iadd C dL_law_1651 ?_
  refine z_sld C hX hbl hbA (by unfold vp_in; decide) dL_law_1652 ?_
  first | refine z_rload_n C dL_law_1653 rfl ?_ | refine z_nload_n C dL_law_1653 rfl ?_ | refine z_aload_n C dL_law_1653 rfl ?_
  refine z_iload C dL_law_1654 rfl ?_
  refine z_iconst (v := 3) C dL_law_1656 rfl ?_
  refine z_iadd C dL_law_1657 ?_
  refine z_sld C hX hbl hbA (by unfold vp_in; decide) dL_law_1658 ?_
  first | refine z_rload_n C dL_law_1659 rfl ?_ | refine z_nload_n C dL_law_1659 rfl ?_ | refine z_aload_n C dL_law_1659 rfl ?_
  refine z_callSH C (w_family l hst Γ _ _ _ _ hC) kc_L_law_1660 rfl rfl ky_L_family ⟨(Nat.le_of_ble_eq_true rfl), (Nat.le_of_ble_eq_true rfl)⟩ (Nat.le_of_ble_eq_true rfl) ⟨(Nat.le_of_ble_eq_true rfl), (Nat.le_of_ble_eq_true rfl)⟩ dL_law_1660 (fun v1660 G1660 hp1660 => ?_)
  obtain ⟨rfl, rfl⟩ := hp1660
  refine z_istore C dL_law_1663 (by decide) ?_
  first | refine z_rload_n C dL_law_1665 rfl ?_ | refine z_nload_n C dL_law_1665 rfl ?_ | refine z_aload_n C dL_law_1665 rfl ?_
  first | refine z_rload_n C dL_law_1666 rfl ?_ | refine z_nload_n C dL_law_1666 rfl ?_ | refine z_aload_n C dL_law_1666 rfl ?_
  refine z_iload C dL_law_1667 rfl ?_
  refine z_iconst (v := 1) C dL_law_1669 rfl ?_
  refine z_iadd C dL_law_1670 ?_
  refine z_sld C hX hbl hbA (by unfold vp_in; decide) dL_law_1671 ?_
  first | refine z_rload_n C dL_law_1672 rfl ?_ | refine z_nload_n C dL_law_1672 rfl ?_ | refine z_aload_n C dL_law_1672 rfl ?_
  refine z_iload C dL_law_1673 rfl ?_
  refine z_iconst (v := 2) C dL_law_1675 rfl ?_
  refine z_iadd C dL_law_1676 ?_
  refine z_sld C hX hbl hbA (by unfold vp_in; decide) dL_law_1677 ?_
  first | refine z_rload_n C dL_law_1678 rfl ?_ | refine z_nload_n C dL_law_1678 rfl ?_ | refine z_aload_n C dL_law_1678 rfl ?_
  refine z_iload C dL_law_1679 rfl ?_
  refine z_iconst (v := 3) C dL_law_1681 rfl ?_
  refine z_iadd C dL_law_1682 ?_
  refine z_sld C hX hbl hbA (by unfold vp_in; decide) dL_law_1683 ?_
  refine z_callV (q := (RX7, TX7, 19)) C (m_family l Γ _ _ _ _ hm) kc_L_law_1684 (by first | assumption | exact zU_same _ _ _) rfl rfl rfl rfl ky_X7_family ⟨(Nat.le_of_ble_eq_true rfl), (Nat.le_of_ble_eq_true rfl)⟩ (Nat.le_of_ble_eq_true rfl) ⟨(Nat.le_of_ble_eq_true rfl), (Nat.le_of_ble_eq_true rfl)⟩ dL_law_1684 (fun v1684 G1684 hp1684 => ?_)
  obtain ⟨rfl, rfl⟩ := hp1684
  refine z_istore C dL_law_1687 (by decide) ?_
  first | refine z_rload_n C dL_law_1689 rfl ?_ | refine z_nload_n C dL_law_1689 rfl ?_ | refine z_aload_n C dL_law_1689 rfl ?_
  refine z_callV (q := (RX7, TX7, 19)) C (m_thrown l Γ _ (zU_same _ _ _)) kc_L_law_1690 (by first | assumption | exact zU_same _ _ _) rfl rfl rfl rfl ky_X7_thrown ⟨(Nat.le_of_ble_eq_true rfl), (Nat.le_of_ble_eq_true rfl)⟩ (Nat.le_of_ble_eq_true rfl) ⟨(Nat.le_of_ble_eq_true rfl), (Nat.le_of_ble_eq_true rfl)⟩ dL_law_1690 (fun v1690 G1690 hp1690 => ?_)
  obtain ⟨rfl, rfl⟩ := hp1690
  refine z_iload C dL_law_1693 rfl ?_
  refine z_icmp_eq (tgt := 1700) C dL_law_1695 (by decide) (fun h1695 => ?_) (fun h1695 => ?_)
  · refine z_iload C dL_law_1700 rfl ?_
    refine z_if_ne (tgt := 1717) C dL_law_1702 (by decide) (fun h1702 => ?_) (fun h1702 => ?_)
    · refine z_goto (tgt := 1814) C dL_law_1717 (by decide) ?_
      exact hend _ _ _ _ _ _ (Nat.le_of_ble_eq_true rfl) (Nat.le_of_ble_eq_true rfl)
    · exact absurd h1702 (by decide)
  · exact absurd rfl h1695
abbrev rm_l_nearest : Room := { frames := 9, cells := 0, slots := 0, locals := 165 }
set_option maxHeartbeats 4000000 in
set_option maxRecDepth 100000 in
theorem l_nearest {p : Program} {l : Launch} {e : Env} {s : State} {m : MethodId} {args : Array Value} {below : List Frame} {meth : Method} {c : Code} {Q : State → Prop} {Γ : zY} {A : Nat → Prop} {G : zG} {b xb mo out od : Nat} {xs : Nat → Int32} {f : Nat → Int64} {fd : Nat → UInt64} {μ : Nat → Nat} (hst : l.stackTraces = false) (C : zC p s m args meth c cL_law R_law 9 Γ A) (hX : va_X b 6 xs s s.heap) (hbl : b < s.heap.size) (hbA : ¬ A b)
    (hend : ∀ (G : zG) (k n : Nat) (a6 a7 a8 : Option Value), k ≤ 600002 → n ≤ 7302232 → Z p l e room_1 s m args below meth c Q 9 Γ A G k n 1814 [some (.ref b), some (.ref xb), some (.ref mo), some (.ref out), some (.ref od), some (.int 0), a6, a7, a8] [])
    (hC : zC0 Γ G xb) (ho : G out = some (zJ Γ 1 f)) (hod : G od = some (zDb Γ 1 fd)) (hm : G mo = some (oM0 0 μ)) (hf : zMf Γ G μ) (hou : ∀ i, out ≠ μ i) :
    Z p l e room_1 s m args below meth c Q 9 Γ A G 30 1000 1720 [some (.ref b), some (.ref xb), some (.ref mo), some (.ref out), some (.ref od), some (.int 0), none, none, none] [] := by
  have hom : out ≠ mo := fun z => by rw [z, hm] at ho; cases ho
  first | refine z_rload_n C dL_law_1720 rfl ?_ | refine z_nload_n C dL_law_1720 rfl ?_ | refine z_aload_n C dL_law_1720 rfl ?_
  first | refine z_rload_n C dL_law_1721 rfl ?_ | refine z_nload_n C dL_law_1721 rfl ?_ | refine z_aload_n C dL_law_1721 rfl ?_
  refine z_iload C dL_law_1722 rfl ?_
  refine z_iconst (v := 1) C dL_law_1724 rfl ?_
  refine z_iadd C dL_law_1725 ?_
  refine z_sld C hX hbl hbA (by unfold vp_in; decide) dL_law_1726 ?_
  first | refine z_rload_n C dL_law_1727 rfl ?_ | refine z_nload_n C dL_law_1727 rfl ?_ | refine z_aload_n C dL_law_1727 rfl ?_
  refine z_iload C dL_law_1728 rfl ?_
  refine z_iconst (v := 2) C dL_law_1730 rfl ?_
  refine z_iadd C dL_law_1731 ?_
  refine z_sld C hX hbl hbA (by unfold vp_in; decide) dL_law_1732 ?_
  first | refine z_rload_n C dL_law_1733 rfl ?_ | refine z_nload_n C dL_law_1733 rfl ?_ | refine z_aload_n C dL_law_1733 rfl ?_
  refine z_iload C dL_law_1734 rfl ?_
  refine z_iconst (v := 3) C dL_law_1736 rfl ?_
  refine z_iadd C dL_law_1737 ?_
  refine z_sld C hX hbl hbA (by unfold vp_in; decide) dL_law_1738 ?_
  first | refine z_rload_n C dL_law_1739 rfl ?_ | refine z_nload_n C dL_law_1739 rfl ?_ | refine z_aload_n C dL_law_1739 rfl ?_
  refine z_callSH C (w_nearest l hst Γ _ _ _ _ hC ho) kc_L_law_1740 rfl rfl ky_L_nearest ⟨(Nat.le_of_ble_eq_true rfl), (Nat.le_of_ble_eq_true rfl)⟩ (Nat.le_of_ble_eq_true rfl) ⟨(Nat.le_of_ble_eq_true rfl), (Nat.le_of_ble_eq_true rfl)⟩ dL_law_1740 (fun v1740 G1740 hp1740 => ?_)
  rcases hp1740 with ⟨rfl, hp1, rfl⟩ | ⟨rfl, hp0, G1, hk1, rfl⟩
  · refine z_istore C dL_law_1743 (by decide) ?_
    first | refine z_rload_n C dL_law_1745 rfl ?_ | refine z_nload_n C dL_law_1745 rfl ?_ | refine z_aload_n C dL_law_1745 rfl ?_
    first | refine z_rload_n C dL_law_1746 rfl ?_ | refine z_nload_n C dL_law_1746 rfl ?_ | refine z_aload_n C dL_law_1746 rfl ?_
    refine z_iload C dL_law_1747 rfl ?_
    refine z_iconst (v := 1) C dL_law_1749 rfl ?_
    refine z_iadd C dL_law_1750 ?_
    refine z_sld C hX hbl hbA (by unfold vp_in; decide) dL_law_1751 ?_
    first | refine z_rload_n C dL_law_1752 rfl ?_ | refine z_nload_n C dL_law_1752 rfl ?_ | refine z_aload_n C dL_law_1752 rfl ?_
    refine z_iload C dL_law_1753 rfl ?_
    refine z_iconst (v := 2) C dL_law_1755 rfl ?_
    refine z_iadd C dL_law_1756 ?_
    refine z_sld C hX hbl hbA (by unfold vp_in; decide) dL_law_1757 ?_
    first | refine z_rload_n C dL_law_1758 rfl ?_ | refine z_nload_n C dL_law_1758 rfl ?_ | refine z_aload_n C dL_law_1758 rfl ?_
    refine z_iload C dL_law_1759 rfl ?_
    refine z_iconst (v := 3) C dL_law_1761 rfl ?_
    refine z_iadd C dL_law_1762 ?_
    refine z_sld C hX hbl hbA (by unfold vp_in; decide) dL_law_1763 ?_
    refine z_callV (q := (RX7, TX7, 19)) C (m_nearest l Γ _ _ _ _ hm) kc_L_law_1764 (by first | assumption | exact zU_same _ _ _) rfl rfl rfl rfl ky_X7_nearest ⟨(Nat.le_of_ble_eq_true rfl), (Nat.le_of_ble_eq_true rfl)⟩ (Nat.le_of_ble_eq_true rfl) ⟨(Nat.le_of_ble_eq_true rfl), (Nat.le_of_ble_eq_true rfl)⟩ dL_law_1764 (fun v1764 G1764 hp1764 => ?_)
    obtain ⟨rfl, ⟨fs, hfs⟩, hfr⟩ := hp1764
    refine z_istore C dL_law_1767 (by decide) ?_
    first | refine z_rload_n C dL_law_1769 rfl ?_ | refine z_nload_n C dL_law_1769 rfl ?_ | refine z_aload_n C dL_law_1769 rfl ?_
    refine z_callV (q := (RX7, TX7, 19)) C (m_thrown l Γ _ hfs) kc_L_law_1770 hfs rfl rfl rfl rfl ky_X7_thrown ⟨(Nat.le_of_ble_eq_true rfl), (Nat.le_of_ble_eq_true rfl)⟩ (Nat.le_of_ble_eq_true rfl) ⟨(Nat.le_of_ble_eq_true rfl), (Nat.le_of_ble_eq_true rfl)⟩ dL_law_1770 (fun v1770 G1770 hp1770 => ?_)
    obtain ⟨rfl, rfl⟩ := hp1770
    refine z_iload C dL_law_1773 rfl ?_
    refine z_icmp_eq (tgt := 1780) C dL_law_1775 (by decide) (fun h1775 => ?_) (fun h1775 => ?_)
    · refine z_iload C dL_law_1780 rfl ?_
      refine z_if_ne (tgt := 1797) C dL_law_1782 (by decide) (fun h1782 => ?_) (fun h1782 => ?_)
      · refine z_goto (tgt := 1814) C dL_law_1797 (by decide) ?_
        exact hend _ _ _ _ _ _ (Nat.le_of_ble_eq_true rfl) (Nat.le_of_ble_eq_true rfl)
      · exact absurd h1782 (by decide)
    · exact absurd (by rw [hp1]; rfl) h1775
  · refine z_istore C dL_law_1743 (by decide) ?_
    first | refine z_rload_n C dL_law_1745 rfl ?_ | refine z_nload_n C dL_law_1745 rfl ?_ | refine z_aload_n C dL_law_1745 rfl ?_
    first | refine z_rload_n C dL_law_1746 rfl ?_ | refine z_nload_n C dL_law_1746 rfl ?_ | refine z_aload_n C dL_law_1746 rfl ?_
    refine z_iload C dL_law_1747 rfl ?_
    refine z_iconst (v := 1) C dL_law_1749 rfl ?_
    refine z_iadd C dL_law_1750 ?_
    refine z_sld C hX hbl hbA (by unfold vp_in; decide) dL_law_1751 ?_
    first | refine z_rload_n C dL_law_1752 rfl ?_ | refine z_nload_n C dL_law_1752 rfl ?_ | refine z_aload_n C dL_law_1752 rfl ?_
    refine z_iload C dL_law_1753 rfl ?_
    refine z_iconst (v := 2) C dL_law_1755 rfl ?_
    refine z_iadd C dL_law_1756 ?_
    refine z_sld C hX hbl hbA (by unfold vp_in; decide) dL_law_1757 ?_
    first | refine z_rload_n C dL_law_1758 rfl ?_ | refine z_nload_n C dL_law_1758 rfl ?_ | refine z_aload_n C dL_law_1758 rfl ?_
    refine z_iload C dL_law_1759 rfl ?_
    refine z_iconst (v := 3) C dL_law_1761 rfl ?_
    refine z_iadd C dL_law_1762 ?_
    refine z_sld C hX hbl hbA (by unfold vp_in; decide) dL_law_1763 ?_
    refine z_callV (q := (RX7, TX7, 19)) C (m_nearest l Γ _ _ _ _ ((zU_ne hom.symm).trans (hk1 _ _ hm rfl))) kc_L_law_1764 ((zU_ne hom.symm).trans (hk1 _ _ hm rfl)) rfl rfl rfl rfl ky_X7_nearest ⟨(Nat.le_of_ble_eq_true rfl), (Nat.le_of_ble_eq_true rfl)⟩ (Nat.le_of_ble_eq_true rfl) ⟨(Nat.le_of_ble_eq_true rfl), (Nat.le_of_ble_eq_true rfl)⟩ dL_law_1764 (fun v1764 G1764 hp1764 => ?_)
    obtain ⟨rfl, ⟨fs, hfs⟩, hfr⟩ := hp1764
    refine z_istore C dL_law_1767 (by decide) ?_
    first | refine z_rload_n C dL_law_1769 rfl ?_ | refine z_nload_n C dL_law_1769 rfl ?_ | refine z_aload_n C dL_law_1769 rfl ?_
    refine z_callV (q := (RX7, TX7, 19)) C (m_thrown l Γ _ hfs) kc_L_law_1770 hfs rfl rfl rfl rfl ky_X7_thrown ⟨(Nat.le_of_ble_eq_true rfl), (Nat.le_of_ble_eq_true rfl)⟩ (Nat.le_of_ble_eq_true rfl) ⟨(Nat.le_of_ble_eq_true rfl), (Nat.le_of_ble_eq_true rfl)⟩ dL_law_1770 (fun v1770 G1770 hp1770 => ?_)
    obtain ⟨rfl, rfl⟩ := hp1770
    refine z_iload C dL_law_1773 rfl ?_
    refine z_icmp_eq (tgt := 1780) C dL_law_1775 (by decide) (fun h1775 => ?_) (fun h1775 => ?_)
    · refine z_iload C dL_law_1780 rfl ?_
      refine z_if_ne (tgt := 1797) C dL_law_1782 (by decide) (fun h1782 => ?_) (fun h1782 => ?_)
      · exact absurd rfl h1782
      · first | refine z_rload_n C dL_law_1785 rfl ?_ | refine z_nload_n C dL_law_1785 rfl ?_ | refine z_aload_n C dL_law_1785 rfl ?_
        refine z_iconst (v := 0) C dL_law_1786 rfl ?_
        refine z_lald C (hfr _ _ (zU_same _ _ _) hom hou) (by unfold vp_in; decide) dL_law_1787 ?_
        refine z_iload C dL_law_1788 rfl ?_
        refine z_i2l C dL_law_1790 ?_
        refine z_lcmp C dL_law_1791 ?_
        refine z_if_eq (tgt := 1797) C dL_law_1792 (by decide) (fun h1792 => ?_) (fun h1792 => ?_)
        · refine z_goto (tgt := 1814) C dL_law_1797 (by decide) ?_
          exact hend _ _ _ _ _ _ (Nat.le_of_ble_eq_true rfl) (Nat.le_of_ble_eq_true rfl)
        · refine absurd ?_ h1792
          rw [show vp_updL f (0 : Int32).toNatClampNeg _ (0 : Int32).toNatClampNeg = _ from if_pos rfl]
          rw [if_neg hp0]; exact lg_cmp_self _
    · exact absurd (if_neg hp0) h1775
abbrev rm_l_digest : Room := { frames := 3, cells := 0, slots := 0, locals := 68 }
set_option maxHeartbeats 4000000 in
set_option maxRecDepth 100000 in
theorem l_digest {p : Program} {l : Launch} {e : Env} {s : State} {m : MethodId} {args : Array Value} {below : List Frame} {meth : Method} {c : Code} {Q : State → Prop} {Γ : zY} {A : Nat → Prop} {G : zG} {b xb mo out od : Nat} {xs : Nat → Int32} {f : Nat → Int64} {fd : Nat → UInt64} {μ : Nat → Nat} (hst : l.stackTraces = false) (C : zC p s m args meth c cL_law R_law 9 Γ A) (hX : va_X b 6 xs s s.heap) (hbl : b < s.heap.size) (hbA : ¬ A b)
    (hend : ∀ (G : zG) (k n : Nat) (a6 a7 a8 : Option Value), k ≤ 600002 → n ≤ 7302232 → Z p l e room_1 s m args below meth c Q 9 Γ A G k n 1814 [some (.ref b), some (.ref xb), some (.ref mo), some (.ref out), some (.ref od), some (.int 0), a6, a7, a8] [])
    (hC : zC0 Γ G xb) (ho : G out = some (zJ Γ 1 f)) (hod : G od = some (zDb Γ 1 fd)) (hm : G mo = some (oM0 0 μ)) (hf : zMf Γ G μ) (hou : ∀ i, out ≠ μ i) :
    Z p l e room_1 s m args below meth c Q 9 Γ A G 30 1000 1800 [some (.ref b), some (.ref xb), some (.ref mo), some (.ref out), some (.ref od), some (.int 0), none, none, none] [] := by
  obtain ⟨ls, lp, le, w, r, q, lo, co, as, ap, ae, alo, hb, hR⟩ := id hC
  first | refine z_rload_n C dL_law_1800 rfl ?_ | refine z_nload_n C dL_law_1800 rfl ?_ | refine z_aload_n C dL_law_1800 rfl ?_
  refine z_callV (q := (RX6, TX6, 8)) C (x_digest l Γ _ hC) kc_L_law_1801 (by first | assumption | exact zU_same _ _ _) rfl rfl rfl rfl ky_X6_digest ⟨(Nat.le_of_ble_eq_true rfl), (Nat.le_of_ble_eq_true rfl)⟩ (Nat.le_of_ble_eq_true rfl) ⟨(Nat.le_of_ble_eq_true rfl), (Nat.le_of_ble_eq_true rfl)⟩ dL_law_1801 (fun v1801 G1801 hp1801 => ?_)
  obtain ⟨rfl, rfl⟩ := hp1801
  first | refine z_rload_n C dL_law_1804 rfl ?_ | refine z_nload_n C dL_law_1804 rfl ?_ | refine z_aload_n C dL_law_1804 rfl ?_
  refine z_callV (q := (RX7, TX7, 19)) C (m_digest l Γ _ hm) kc_L_law_1805 (by first | assumption | exact zU_same _ _ _) rfl rfl rfl rfl ky_X7_digest ⟨(Nat.le_of_ble_eq_true rfl), (Nat.le_of_ble_eq_true rfl)⟩ (Nat.le_of_ble_eq_true rfl) ⟨(Nat.le_of_ble_eq_true rfl), (Nat.le_of_ble_eq_true rfl)⟩ dL_law_1805 (fun v1805 G1805 hp1805 => ?_)
  obtain ⟨rfl, hmk⟩ := hp1805
  refine z_lcmp C dL_law_1808 ?_
  refine z_if_eq (tgt := 1814) C dL_law_1809 (by decide) (fun h1809 => ?_) (fun h1809 => ?_)
  · exact hend _ _ _ _ _ _ (Nat.le_of_ble_eq_true rfl) (Nat.le_of_ble_eq_true rfl)
  · exact absurd (lg_cmp_self _) h1809

