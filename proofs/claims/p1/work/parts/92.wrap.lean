theorem dL_setDelay_0 : decode cL_setDelay 0 = .ok (.aload_n 3, 1) := by decide +kernel
theorem dL_setDelay_1 : decode cL_setDelay 1 = .ok (.iconst 0, 1) := by decide +kernel
theorem dL_setDelay_2 : decode cL_setDelay 2 = .ok (.aload_n 0, 1) := by decide +kernel
theorem dL_setDelay_3 : decode cL_setDelay 3 = .ok (.iload_n 1, 1) := by decide +kernel
theorem dL_setDelay_4 : decode cL_setDelay 4 = .ok (.iload_n 2, 1) := by decide +kernel
theorem dL_setDelay_5 : decode cL_setDelay 5 = .ok (.invokevirtual 17, 3) := by decide +kernel
theorem dL_setDelay_8 : decode cL_setDelay 8 = .ok (.i2l, 1) := by decide +kernel
theorem dL_setDelay_9 : decode cL_setDelay 9 = .ok (.lastore, 1) := by decide +kernel
theorem dL_setDelay_10 : decode cL_setDelay 10 = .ok (.goto 11, 3) := by decide +kernel
theorem dL_setDelay_13 : decode cL_setDelay 13 = .ok (.astore 4, 2) := by decide +kernel
theorem dL_setDelay_15 : decode cL_setDelay 15 = .ok (.iconst 1, 1) := by decide +kernel
theorem dL_setDelay_16 : decode cL_setDelay 16 = .ok (.ireturn, 1) := by decide +kernel
theorem dL_setDelay_17 : decode cL_setDelay 17 = .ok (.astore 4, 2) := by decide +kernel
theorem dL_setDelay_19 : decode cL_setDelay 19 = .ok (.iconst 2, 1) := by decide +kernel
theorem dL_setDelay_20 : decode cL_setDelay 20 = .ok (.ireturn, 1) := by decide +kernel
theorem dL_setDelay_21 : decode cL_setDelay 21 = .ok (.iconst 0, 1) := by decide +kernel
theorem dL_setDelay_22 : decode cL_setDelay 22 = .ok (.ireturn, 1) := by decide +kernel
theorem ky_X6_setDelay : yX6_setDelay.cls ≠ "java/lang/invoke/MethodHandle" ∧ yX6_setDelay.cls ≠ "java/lang/invoke/VarHandle" ∧ (parseMethodDescriptor yX6_setDelay.desc).map (fun d => d.parameters.length) = some 2 := by decide +kernel
theorem kc_L_setDelay_5 : ∀ w ∈ ([Cond.methodLink "QuakeBenchLaw" 17 yX6_setDelay, Cond.instanceMethod yX6_setDelay, Cond.selects "QuakeBench" yX6_setDelay yX6_setDelay, Cond.initialized "QuakeBench", Cond.code yX6_setDelay prog_1_method_3_code 7 (Option.some Jvm.ClassFile.FieldType.int)] : List Cond), w ∈ lw_all := zin [875, 876, 877, 54, 878] (by decide +kernel)
theorem kw_874 : Cond.classLink "QuakeBenchLaw" 20 "java/lang/IndexOutOfBoundsException" ∈ lw_all := zin1 874 (by decide +kernel)
theorem kn_251 : Cond.castable "java/lang/IndexOutOfBoundsException" "java/lang/IndexOutOfBoundsException" ∈ lw_nest := by decide +kernel
theorem dL_way_0 : decode cL_way 0 = .ok (.aload 5, 2) := by decide +kernel
theorem dL_way_2 : decode cL_way 2 = .ok (.iconst 0, 1) := by decide +kernel
theorem dL_way_3 : decode cL_way 3 = .ok (.aload_n 0, 1) := by decide +kernel
theorem dL_way_4 : decode cL_way 4 = .ok (.iload_n 1, 1) := by decide +kernel
theorem dL_way_5 : decode cL_way 5 = .ok (.iload_n 2, 1) := by decide +kernel
theorem dL_way_6 : decode cL_way 6 = .ok (.iload_n 3, 1) := by decide +kernel
theorem dL_way_7 : decode cL_way 7 = .ok (.iload 4, 2) := by decide +kernel
theorem dL_way_9 : decode cL_way 9 = .ok (.invokevirtual 25, 3) := by decide +kernel
theorem dL_way_12 : decode cL_way 12 = .ok (.i2l, 1) := by decide +kernel
theorem dL_way_13 : decode cL_way 13 = .ok (.lastore, 1) := by decide +kernel
theorem dL_way_14 : decode cL_way 14 = .ok (.goto 11, 3) := by decide +kernel
theorem dL_way_17 : decode cL_way 17 = .ok (.astore 6, 2) := by decide +kernel
theorem dL_way_19 : decode cL_way 19 = .ok (.iconst 1, 1) := by decide +kernel
theorem dL_way_20 : decode cL_way 20 = .ok (.ireturn, 1) := by decide +kernel
theorem dL_way_21 : decode cL_way 21 = .ok (.astore 6, 2) := by decide +kernel
theorem dL_way_23 : decode cL_way 23 = .ok (.iconst 2, 1) := by decide +kernel
theorem dL_way_24 : decode cL_way 24 = .ok (.ireturn, 1) := by decide +kernel
theorem dL_way_25 : decode cL_way 25 = .ok (.iconst 0, 1) := by decide +kernel
theorem dL_way_26 : decode cL_way 26 = .ok (.ireturn, 1) := by decide +kernel
theorem ky_X6_way : yX6_way.cls ≠ "java/lang/invoke/MethodHandle" ∧ yX6_way.cls ≠ "java/lang/invoke/VarHandle" ∧ (parseMethodDescriptor yX6_way.desc).map (fun d => d.parameters.length) = some 4 := by decide +kernel
theorem kc_L_way_9 : ∀ w ∈ ([Cond.methodLink "QuakeBenchLaw" 25 yX6_way, Cond.instanceMethod yX6_way, Cond.selects "QuakeBench" yX6_way yX6_way, Cond.initialized "QuakeBench", Cond.code yX6_way prog_1_method_5_code 6 (Option.some Jvm.ClassFile.FieldType.int)] : List Cond), w ∈ lw_all := zin [903, 904, 905, 54, 906] (by decide +kernel)
theorem dL_needs_0 : decode cL_needs 0 = .ok (.aload 6, 2) := by decide +kernel
theorem dL_needs_2 : decode cL_needs 2 = .ok (.iconst 0, 1) := by decide +kernel
theorem dL_needs_3 : decode cL_needs 3 = .ok (.aload_n 0, 1) := by decide +kernel
theorem dL_needs_4 : decode cL_needs 4 = .ok (.iload_n 1, 1) := by decide +kernel
theorem dL_needs_5 : decode cL_needs 5 = .ok (.iload_n 2, 1) := by decide +kernel
theorem dL_needs_6 : decode cL_needs 6 = .ok (.iload_n 3, 1) := by decide +kernel
theorem dL_needs_7 : decode cL_needs 7 = .ok (.iload 4, 2) := by decide +kernel
theorem dL_needs_9 : decode cL_needs 9 = .ok (.iload 5, 2) := by decide +kernel
theorem dL_needs_11 : decode cL_needs 11 = .ok (.invokevirtual 29, 3) := by decide +kernel
theorem dL_needs_14 : decode cL_needs 14 = .ok (.i2l, 1) := by decide +kernel
theorem dL_needs_15 : decode cL_needs 15 = .ok (.lastore, 1) := by decide +kernel
theorem dL_needs_16 : decode cL_needs 16 = .ok (.goto 11, 3) := by decide +kernel
theorem dL_needs_19 : decode cL_needs 19 = .ok (.astore 7, 2) := by decide +kernel
theorem dL_needs_21 : decode cL_needs 21 = .ok (.iconst 1, 1) := by decide +kernel
theorem dL_needs_22 : decode cL_needs 22 = .ok (.ireturn, 1) := by decide +kernel
theorem dL_needs_23 : decode cL_needs 23 = .ok (.astore 7, 2) := by decide +kernel
theorem dL_needs_25 : decode cL_needs 25 = .ok (.iconst 2, 1) := by decide +kernel
theorem dL_needs_26 : decode cL_needs 26 = .ok (.ireturn, 1) := by decide +kernel
theorem dL_needs_27 : decode cL_needs 27 = .ok (.iconst 0, 1) := by decide +kernel
theorem dL_needs_28 : decode cL_needs 28 = .ok (.ireturn, 1) := by decide +kernel
theorem ky_X6_needs : yX6_needs.cls ≠ "java/lang/invoke/MethodHandle" ∧ yX6_needs.cls ≠ "java/lang/invoke/VarHandle" ∧ (parseMethodDescriptor yX6_needs.desc).map (fun d => d.parameters.length) = some 5 := by decide +kernel
theorem kc_L_needs_11 : ∀ w ∈ ([Cond.methodLink "QuakeBenchLaw" 29 yX6_needs, Cond.instanceMethod yX6_needs, Cond.selects "QuakeBench" yX6_needs yX6_needs, Cond.initialized "QuakeBench", Cond.code yX6_needs prog_1_method_6_code 7 (Option.some Jvm.ClassFile.FieldType.int)] : List Cond), w ∈ lw_all := zin [914, 915, 916, 54, 917] (by decide +kernel)
theorem dL_addPick_0 : decode cL_addPick 0 = .ok (.aload 4, 2) := by decide +kernel
theorem dL_addPick_2 : decode cL_addPick 2 = .ok (.iconst 0, 1) := by decide +kernel
theorem dL_addPick_3 : decode cL_addPick 3 = .ok (.aload_n 0, 1) := by decide +kernel
theorem dL_addPick_4 : decode cL_addPick 4 = .ok (.iload_n 1, 1) := by decide +kernel
theorem dL_addPick_5 : decode cL_addPick 5 = .ok (.iload_n 2, 1) := by decide +kernel
theorem dL_addPick_6 : decode cL_addPick 6 = .ok (.iload_n 3, 1) := by decide +kernel
theorem dL_addPick_7 : decode cL_addPick 7 = .ok (.invokevirtual 33, 3) := by decide +kernel
theorem dL_addPick_10 : decode cL_addPick 10 = .ok (.i2l, 1) := by decide +kernel
theorem dL_addPick_11 : decode cL_addPick 11 = .ok (.lastore, 1) := by decide +kernel
theorem dL_addPick_12 : decode cL_addPick 12 = .ok (.goto 15, 3) := by decide +kernel
theorem dL_addPick_15 : decode cL_addPick 15 = .ok (.astore 5, 2) := by decide +kernel
theorem dL_addPick_17 : decode cL_addPick 17 = .ok (.iconst 1, 1) := by decide +kernel
theorem dL_addPick_18 : decode cL_addPick 18 = .ok (.ireturn, 1) := by decide +kernel
theorem dL_addPick_19 : decode cL_addPick 19 = .ok (.astore 5, 2) := by decide +kernel
theorem dL_addPick_21 : decode cL_addPick 21 = .ok (.iconst 2, 1) := by decide +kernel
theorem dL_addPick_22 : decode cL_addPick 22 = .ok (.ireturn, 1) := by decide +kernel
theorem dL_addPick_23 : decode cL_addPick 23 = .ok (.astore 5, 2) := by decide +kernel
theorem dL_addPick_25 : decode cL_addPick 25 = .ok (.iconst 3, 1) := by decide +kernel
theorem dL_addPick_26 : decode cL_addPick 26 = .ok (.ireturn, 1) := by decide +kernel
theorem dL_addPick_27 : decode cL_addPick 27 = .ok (.iconst 0, 1) := by decide +kernel
theorem dL_addPick_28 : decode cL_addPick 28 = .ok (.ireturn, 1) := by decide +kernel
theorem ky_X6_addPick : yX6_addPick.cls ≠ "java/lang/invoke/MethodHandle" ∧ yX6_addPick.cls ≠ "java/lang/invoke/VarHandle" ∧ (parseMethodDescriptor yX6_addPick.desc).map (fun d => d.parameters.length) = some 3 := by decide +kernel
theorem kc_L_addPick_7 : ∀ w ∈ ([Cond.methodLink "QuakeBenchLaw" 33 yX6_addPick, Cond.instanceMethod yX6_addPick, Cond.selects "QuakeBench" yX6_addPick yX6_addPick, Cond.initialized "QuakeBench", Cond.code yX6_addPick prog_1_method_7_code 6 (Option.some Jvm.ClassFile.FieldType.int)] : List Cond), w ∈ lw_all := zin [922, 923, 924, 54, 925] (by decide +kernel)
theorem dL_setWeight_0 : decode cL_setWeight 0 = .ok (.aload_n 3, 1) := by decide +kernel
theorem dL_setWeight_1 : decode cL_setWeight 1 = .ok (.iconst 0, 1) := by decide +kernel
theorem dL_setWeight_2 : decode cL_setWeight 2 = .ok (.aload_n 0, 1) := by decide +kernel
theorem dL_setWeight_3 : decode cL_setWeight 3 = .ok (.iload_n 1, 1) := by decide +kernel
theorem dL_setWeight_4 : decode cL_setWeight 4 = .ok (.iload_n 2, 1) := by decide +kernel
theorem dL_setWeight_5 : decode cL_setWeight 5 = .ok (.invokevirtual 37, 3) := by decide +kernel
theorem dL_setWeight_8 : decode cL_setWeight 8 = .ok (.i2l, 1) := by decide +kernel
theorem dL_setWeight_9 : decode cL_setWeight 9 = .ok (.lastore, 1) := by decide +kernel
theorem dL_setWeight_10 : decode cL_setWeight 10 = .ok (.goto 11, 3) := by decide +kernel
theorem dL_setWeight_13 : decode cL_setWeight 13 = .ok (.astore 4, 2) := by decide +kernel
theorem dL_setWeight_15 : decode cL_setWeight 15 = .ok (.iconst 1, 1) := by decide +kernel
theorem dL_setWeight_16 : decode cL_setWeight 16 = .ok (.ireturn, 1) := by decide +kernel
theorem dL_setWeight_17 : decode cL_setWeight 17 = .ok (.astore 4, 2) := by decide +kernel
theorem dL_setWeight_19 : decode cL_setWeight 19 = .ok (.iconst 2, 1) := by decide +kernel
theorem dL_setWeight_20 : decode cL_setWeight 20 = .ok (.ireturn, 1) := by decide +kernel
theorem dL_setWeight_21 : decode cL_setWeight 21 = .ok (.iconst 0, 1) := by decide +kernel
theorem dL_setWeight_22 : decode cL_setWeight 22 = .ok (.ireturn, 1) := by decide +kernel
theorem ky_X6_setWeight : yX6_setWeight.cls ≠ "java/lang/invoke/MethodHandle" ∧ yX6_setWeight.cls ≠ "java/lang/invoke/VarHandle" ∧ (parseMethodDescriptor yX6_setWeight.desc).map (fun d => d.parameters.length) = some 2 := by decide +kernel
theorem kc_L_setWeight_5 : ∀ w ∈ ([Cond.methodLink "QuakeBenchLaw" 37 yX6_setWeight, Cond.instanceMethod yX6_setWeight, Cond.selects "QuakeBench" yX6_setWeight yX6_setWeight, Cond.initialized "QuakeBench", Cond.code yX6_setWeight prog_1_method_8_code 5 (Option.some Jvm.ClassFile.FieldType.int)] : List Cond), w ∈ lw_all := zin [974, 975, 976, 54, 977] (by decide +kernel)
theorem dL_pick_0 : decode cL_pick 0 = .ok (.aload_n 3, 1) := by decide +kernel
theorem dL_pick_1 : decode cL_pick 1 = .ok (.iconst 0, 1) := by decide +kernel
theorem dL_pick_2 : decode cL_pick 2 = .ok (.aload_n 0, 1) := by decide +kernel
theorem dL_pick_3 : decode cL_pick 3 = .ok (.iload_n 1, 1) := by decide +kernel
theorem dL_pick_4 : decode cL_pick 4 = .ok (.iload_n 2, 1) := by decide +kernel
theorem dL_pick_5 : decode cL_pick 5 = .ok (.invokevirtual 40, 3) := by decide +kernel
theorem dL_pick_8 : decode cL_pick 8 = .ok (.i2l, 1) := by decide +kernel
theorem dL_pick_9 : decode cL_pick 9 = .ok (.lastore, 1) := by decide +kernel
theorem dL_pick_10 : decode cL_pick 10 = .ok (.goto 7, 3) := by decide +kernel
theorem dL_pick_13 : decode cL_pick 13 = .ok (.astore 4, 2) := by decide +kernel
theorem dL_pick_15 : decode cL_pick 15 = .ok (.iconst 1, 1) := by decide +kernel
theorem dL_pick_16 : decode cL_pick 16 = .ok (.ireturn, 1) := by decide +kernel
theorem dL_pick_17 : decode cL_pick 17 = .ok (.iconst 0, 1) := by decide +kernel
theorem dL_pick_18 : decode cL_pick 18 = .ok (.ireturn, 1) := by decide +kernel
theorem ky_X6_pick : yX6_pick.cls ≠ "java/lang/invoke/MethodHandle" ∧ yX6_pick.cls ≠ "java/lang/invoke/VarHandle" ∧ (parseMethodDescriptor yX6_pick.desc).map (fun d => d.parameters.length) = some 2 := by decide +kernel
theorem kc_L_pick_5 : ∀ w ∈ ([Cond.methodLink "QuakeBenchLaw" 40 yX6_pick, Cond.instanceMethod yX6_pick, Cond.selects "QuakeBench" yX6_pick yX6_pick, Cond.initialized "QuakeBench", Cond.code yX6_pick prog_1_method_9_code 4 (Option.some Jvm.ClassFile.FieldType.int)] : List Cond), w ∈ lw_all := zin [987, 988, 989, 54, 990] (by decide +kernel)
theorem dL_give_0 : decode cL_give 0 = .ok (.aload_n 3, 1) := by decide +kernel
theorem dL_give_1 : decode cL_give 1 = .ok (.iconst 0, 1) := by decide +kernel
theorem dL_give_2 : decode cL_give 2 = .ok (.aload_n 0, 1) := by decide +kernel
theorem dL_give_3 : decode cL_give 3 = .ok (.iload_n 1, 1) := by decide +kernel
theorem dL_give_4 : decode cL_give 4 = .ok (.iload_n 2, 1) := by decide +kernel
theorem dL_give_5 : decode cL_give 5 = .ok (.invokevirtual 47, 3) := by decide +kernel
theorem dL_give_8 : decode cL_give 8 = .ok (.i2l, 1) := by decide +kernel
theorem dL_give_9 : decode cL_give 9 = .ok (.lastore, 1) := by decide +kernel
theorem dL_give_10 : decode cL_give 10 = .ok (.goto 11, 3) := by decide +kernel
theorem dL_give_13 : decode cL_give 13 = .ok (.astore 4, 2) := by decide +kernel
theorem dL_give_15 : decode cL_give 15 = .ok (.iconst 1, 1) := by decide +kernel
theorem dL_give_16 : decode cL_give 16 = .ok (.ireturn, 1) := by decide +kernel
theorem dL_give_17 : decode cL_give 17 = .ok (.astore 4, 2) := by decide +kernel
theorem dL_give_19 : decode cL_give 19 = .ok (.iconst 2, 1) := by decide +kernel
theorem dL_give_20 : decode cL_give 20 = .ok (.ireturn, 1) := by decide +kernel
theorem dL_give_21 : decode cL_give 21 = .ok (.iconst 0, 1) := by decide +kernel
theorem dL_give_22 : decode cL_give 22 = .ok (.ireturn, 1) := by decide +kernel
theorem ky_X6_give : yX6_give.cls ≠ "java/lang/invoke/MethodHandle" ∧ yX6_give.cls ≠ "java/lang/invoke/VarHandle" ∧ (parseMethodDescriptor yX6_give.desc).map (fun d => d.parameters.length) = some 2 := by decide +kernel
theorem kc_L_give_5 : ∀ w ∈ ([Cond.methodLink "QuakeBenchLaw" 47 yX6_give, Cond.instanceMethod yX6_give, Cond.selects "QuakeBench" yX6_give yX6_give, Cond.initialized "QuakeBench", Cond.code yX6_give prog_1_method_11_code 6 (Option.some Jvm.ClassFile.FieldType.int)] : List Cond), w ∈ lw_all := zin [1003, 1004, 1005, 54, 1006] (by decide +kernel)
theorem dL_seek_0 : decode cL_seek 0 = .ok (.aload_n 2, 1) := by decide +kernel
theorem dL_seek_1 : decode cL_seek 1 = .ok (.iconst 0, 1) := by decide +kernel
theorem dL_seek_2 : decode cL_seek 2 = .ok (.aload_n 0, 1) := by decide +kernel
theorem dL_seek_3 : decode cL_seek 3 = .ok (.iload_n 1, 1) := by decide +kernel
theorem dL_seek_4 : decode cL_seek 4 = .ok (.invokevirtual 54, 3) := by decide +kernel
theorem dL_seek_7 : decode cL_seek 7 = .ok (.lastore, 1) := by decide +kernel
theorem dL_seek_8 : decode cL_seek 8 = .ok (.goto 9, 3) := by decide +kernel
theorem dL_seek_11 : decode cL_seek 11 = .ok (.astore_n 3, 1) := by decide +kernel
theorem dL_seek_12 : decode cL_seek 12 = .ok (.iconst 1, 1) := by decide +kernel
theorem dL_seek_13 : decode cL_seek 13 = .ok (.ireturn, 1) := by decide +kernel
theorem dL_seek_14 : decode cL_seek 14 = .ok (.astore_n 3, 1) := by decide +kernel
theorem dL_seek_15 : decode cL_seek 15 = .ok (.iconst 2, 1) := by decide +kernel
theorem dL_seek_16 : decode cL_seek 16 = .ok (.ireturn, 1) := by decide +kernel
theorem dL_seek_17 : decode cL_seek 17 = .ok (.iconst 0, 1) := by decide +kernel
theorem dL_seek_18 : decode cL_seek 18 = .ok (.ireturn, 1) := by decide +kernel
theorem ky_X6_seek : yX6_seek.cls ≠ "java/lang/invoke/MethodHandle" ∧ yX6_seek.cls ≠ "java/lang/invoke/VarHandle" ∧ (parseMethodDescriptor yX6_seek.desc).map (fun d => d.parameters.length) = some 1 := by decide +kernel
theorem kc_L_seek_4 : ∀ w ∈ ([Cond.methodLink "QuakeBenchLaw" 54 yX6_seek, Cond.instanceMethod yX6_seek, Cond.selects "QuakeBench" yX6_seek yX6_seek, Cond.initialized "QuakeBench", Cond.code yX6_seek prog_1_method_14_code 3 (Option.some Jvm.ClassFile.FieldType.long)] : List Cond), w ∈ lw_all := zin [1035, 1036, 1037, 54, 1038] (by decide +kernel)
theorem dL_event_0 : decode cL_event 0 = .ok (.aload_n 3, 1) := by decide +kernel
theorem dL_event_1 : decode cL_event 1 = .ok (.iconst 0, 1) := by decide +kernel
theorem dL_event_2 : decode cL_event 2 = .ok (.aload_n 0, 1) := by decide +kernel
theorem dL_event_3 : decode cL_event 3 = .ok (.iload_n 1, 1) := by decide +kernel
theorem dL_event_4 : decode cL_event 4 = .ok (.iload_n 2, 1) := by decide +kernel
theorem dL_event_5 : decode cL_event 5 = .ok (.invokevirtual 58, 3) := by decide +kernel
theorem dL_event_8 : decode cL_event 8 = .ok (.i2l, 1) := by decide +kernel
theorem dL_event_9 : decode cL_event 9 = .ok (.lastore, 1) := by decide +kernel
theorem dL_event_10 : decode cL_event 10 = .ok (.goto 11, 3) := by decide +kernel
theorem dL_event_13 : decode cL_event 13 = .ok (.astore 4, 2) := by decide +kernel
theorem dL_event_15 : decode cL_event 15 = .ok (.iconst 1, 1) := by decide +kernel
theorem dL_event_16 : decode cL_event 16 = .ok (.ireturn, 1) := by decide +kernel
theorem dL_event_17 : decode cL_event 17 = .ok (.astore 4, 2) := by decide +kernel
theorem dL_event_19 : decode cL_event 19 = .ok (.iconst 2, 1) := by decide +kernel
theorem dL_event_20 : decode cL_event 20 = .ok (.ireturn, 1) := by decide +kernel
theorem dL_event_21 : decode cL_event 21 = .ok (.iconst 0, 1) := by decide +kernel
theorem dL_event_22 : decode cL_event 22 = .ok (.ireturn, 1) := by decide +kernel
theorem ky_X6_event : yX6_event.cls ≠ "java/lang/invoke/MethodHandle" ∧ yX6_event.cls ≠ "java/lang/invoke/VarHandle" ∧ (parseMethodDescriptor yX6_event.desc).map (fun d => d.parameters.length) = some 2 := by decide +kernel
theorem kc_L_event_5 : ∀ w ∈ ([Cond.methodLink "QuakeBenchLaw" 58 yX6_event, Cond.instanceMethod yX6_event, Cond.selects "QuakeBench" yX6_event yX6_event, Cond.initialized "QuakeBench", Cond.code yX6_event prog_1_method_15_code 4 (Option.some Jvm.ClassFile.FieldType.int)] : List Cond), w ∈ lw_all := zin [1053, 1054, 1055, 54, 1056] (by decide +kernel)
theorem dL_misfit_0 : decode cL_misfit 0 = .ok (.aload 5, 2) := by decide +kernel
theorem dL_misfit_2 : decode cL_misfit 2 = .ok (.iconst 0, 1) := by decide +kernel
theorem dL_misfit_3 : decode cL_misfit 3 = .ok (.aload_n 0, 1) := by decide +kernel
theorem dL_misfit_4 : decode cL_misfit 4 = .ok (.iload_n 1, 1) := by decide +kernel
theorem dL_misfit_5 : decode cL_misfit 5 = .ok (.iload_n 2, 1) := by decide +kernel
theorem dL_misfit_6 : decode cL_misfit 6 = .ok (.iload_n 3, 1) := by decide +kernel
theorem dL_misfit_7 : decode cL_misfit 7 = .ok (.iload 4, 2) := by decide +kernel
theorem dL_misfit_9 : decode cL_misfit 9 = .ok (.invokevirtual 61, 3) := by decide +kernel
theorem dL_misfit_12 : decode cL_misfit 12 = .ok (.lastore, 1) := by decide +kernel
theorem dL_misfit_13 : decode cL_misfit 13 = .ok (.goto 11, 3) := by decide +kernel
theorem dL_misfit_16 : decode cL_misfit 16 = .ok (.astore 6, 2) := by decide +kernel
theorem dL_misfit_18 : decode cL_misfit 18 = .ok (.iconst 1, 1) := by decide +kernel
theorem dL_misfit_19 : decode cL_misfit 19 = .ok (.ireturn, 1) := by decide +kernel
theorem dL_misfit_20 : decode cL_misfit 20 = .ok (.astore 6, 2) := by decide +kernel
theorem dL_misfit_22 : decode cL_misfit 22 = .ok (.iconst 2, 1) := by decide +kernel
theorem dL_misfit_23 : decode cL_misfit 23 = .ok (.ireturn, 1) := by decide +kernel
theorem dL_misfit_24 : decode cL_misfit 24 = .ok (.iconst 0, 1) := by decide +kernel
theorem dL_misfit_25 : decode cL_misfit 25 = .ok (.ireturn, 1) := by decide +kernel
theorem ky_X6_misfit : yX6_misfit.cls ≠ "java/lang/invoke/MethodHandle" ∧ yX6_misfit.cls ≠ "java/lang/invoke/VarHandle" ∧ (parseMethodDescriptor yX6_misfit.desc).map (fun d => d.parameters.length) = some 4 := by decide +kernel
theorem kc_L_misfit_9 : ∀ w ∈ ([Cond.methodLink "QuakeBenchLaw" 61 yX6_misfit, Cond.instanceMethod yX6_misfit, Cond.selects "QuakeBench" yX6_misfit yX6_misfit, Cond.initialized "QuakeBench", Cond.code yX6_misfit prog_1_method_16_code 6 (Option.some Jvm.ClassFile.FieldType.long)] : List Cond), w ∈ lw_all := zin [1065, 1066, 1067, 54, 1068] (by decide +kernel)
theorem dL_residual_0 : decode cL_residual 0 = .ok (.aload_n 2, 1) := by decide +kernel
theorem dL_residual_1 : decode cL_residual 1 = .ok (.iconst 0, 1) := by decide +kernel
theorem dL_residual_2 : decode cL_residual 2 = .ok (.aload_n 0, 1) := by decide +kernel
theorem dL_residual_3 : decode cL_residual 3 = .ok (.iload_n 1, 1) := by decide +kernel
theorem dL_residual_4 : decode cL_residual 4 = .ok (.invokevirtual 65, 3) := by decide +kernel
theorem dL_residual_7 : decode cL_residual 7 = .ok (.i2l, 1) := by decide +kernel
theorem dL_residual_8 : decode cL_residual 8 = .ok (.lastore, 1) := by decide +kernel
theorem dL_residual_9 : decode cL_residual 9 = .ok (.goto 9, 3) := by decide +kernel
theorem dL_residual_12 : decode cL_residual 12 = .ok (.astore_n 3, 1) := by decide +kernel
theorem dL_residual_13 : decode cL_residual 13 = .ok (.iconst 1, 1) := by decide +kernel
theorem dL_residual_14 : decode cL_residual 14 = .ok (.ireturn, 1) := by decide +kernel
theorem dL_residual_15 : decode cL_residual 15 = .ok (.astore_n 3, 1) := by decide +kernel
theorem dL_residual_16 : decode cL_residual 16 = .ok (.iconst 2, 1) := by decide +kernel
theorem dL_residual_17 : decode cL_residual 17 = .ok (.ireturn, 1) := by decide +kernel
theorem dL_residual_18 : decode cL_residual 18 = .ok (.iconst 0, 1) := by decide +kernel
theorem dL_residual_19 : decode cL_residual 19 = .ok (.ireturn, 1) := by decide +kernel
theorem ky_X6_residual : yX6_residual.cls ≠ "java/lang/invoke/MethodHandle" ∧ yX6_residual.cls ≠ "java/lang/invoke/VarHandle" ∧ (parseMethodDescriptor yX6_residual.desc).map (fun d => d.parameters.length) = some 1 := by decide +kernel
theorem kc_L_residual_4 : ∀ w ∈ ([Cond.methodLink "QuakeBenchLaw" 65 yX6_residual, Cond.instanceMethod yX6_residual, Cond.selects "QuakeBench" yX6_residual yX6_residual, Cond.initialized "QuakeBench", Cond.code yX6_residual prog_1_method_17_code 4 (Option.some Jvm.ClassFile.FieldType.int)] : List Cond), w ∈ lw_all := zin [1074, 1075, 1076, 54, 1077] (by decide +kernel)
theorem dL_worst_0 : decode cL_worst 0 = .ok (.aload_n 2, 1) := by decide +kernel
theorem dL_worst_1 : decode cL_worst 1 = .ok (.iconst 0, 1) := by decide +kernel
theorem dL_worst_2 : decode cL_worst 2 = .ok (.aload_n 0, 1) := by decide +kernel
theorem dL_worst_3 : decode cL_worst 3 = .ok (.iload_n 1, 1) := by decide +kernel
theorem dL_worst_4 : decode cL_worst 4 = .ok (.invokevirtual 68, 3) := by decide +kernel
theorem dL_worst_7 : decode cL_worst 7 = .ok (.i2l, 1) := by decide +kernel
theorem dL_worst_8 : decode cL_worst 8 = .ok (.lastore, 1) := by decide +kernel
theorem dL_worst_9 : decode cL_worst 9 = .ok (.goto 9, 3) := by decide +kernel
theorem dL_worst_12 : decode cL_worst 12 = .ok (.astore_n 3, 1) := by decide +kernel
theorem dL_worst_13 : decode cL_worst 13 = .ok (.iconst 1, 1) := by decide +kernel
theorem dL_worst_14 : decode cL_worst 14 = .ok (.ireturn, 1) := by decide +kernel
theorem dL_worst_15 : decode cL_worst 15 = .ok (.astore_n 3, 1) := by decide +kernel
theorem dL_worst_16 : decode cL_worst 16 = .ok (.iconst 2, 1) := by decide +kernel
theorem dL_worst_17 : decode cL_worst 17 = .ok (.ireturn, 1) := by decide +kernel
theorem dL_worst_18 : decode cL_worst 18 = .ok (.iconst 0, 1) := by decide +kernel
theorem dL_worst_19 : decode cL_worst 19 = .ok (.ireturn, 1) := by decide +kernel
theorem ky_X6_worst : yX6_worst.cls ≠ "java/lang/invoke/MethodHandle" ∧ yX6_worst.cls ≠ "java/lang/invoke/VarHandle" ∧ (parseMethodDescriptor yX6_worst.desc).map (fun d => d.parameters.length) = some 1 := by decide +kernel
theorem kc_L_worst_4 : ∀ w ∈ ([Cond.methodLink "QuakeBenchLaw" 68 yX6_worst, Cond.instanceMethod yX6_worst, Cond.selects "QuakeBench" yX6_worst yX6_worst, Cond.initialized "QuakeBench", Cond.code yX6_worst prog_1_method_18_code 8 (Option.some Jvm.ClassFile.FieldType.int)] : List Cond), w ∈ lw_all := zin [1082, 1083, 1084, 54, 1085] (by decide +kernel)
theorem dL_spread_0 : decode cL_spread 0 = .ok (.aload_n 2, 1) := by decide +kernel
theorem dL_spread_1 : decode cL_spread 1 = .ok (.iconst 0, 1) := by decide +kernel
theorem dL_spread_2 : decode cL_spread 2 = .ok (.aload_n 0, 1) := by decide +kernel
theorem dL_spread_3 : decode cL_spread 3 = .ok (.iload_n 1, 1) := by decide +kernel
theorem dL_spread_4 : decode cL_spread 4 = .ok (.invokevirtual 71, 3) := by decide +kernel
theorem dL_spread_7 : decode cL_spread 7 = .ok (.dastore, 1) := by decide +kernel
theorem dL_spread_8 : decode cL_spread 8 = .ok (.goto 9, 3) := by decide +kernel
theorem dL_spread_11 : decode cL_spread 11 = .ok (.astore_n 3, 1) := by decide +kernel
theorem dL_spread_12 : decode cL_spread 12 = .ok (.iconst 1, 1) := by decide +kernel
theorem dL_spread_13 : decode cL_spread 13 = .ok (.ireturn, 1) := by decide +kernel
theorem dL_spread_14 : decode cL_spread 14 = .ok (.astore_n 3, 1) := by decide +kernel
theorem dL_spread_15 : decode cL_spread 15 = .ok (.iconst 2, 1) := by decide +kernel
theorem dL_spread_16 : decode cL_spread 16 = .ok (.ireturn, 1) := by decide +kernel
theorem dL_spread_17 : decode cL_spread 17 = .ok (.iconst 0, 1) := by decide +kernel
theorem dL_spread_18 : decode cL_spread 18 = .ok (.ireturn, 1) := by decide +kernel
theorem ky_X6_spread : yX6_spread.cls ≠ "java/lang/invoke/MethodHandle" ∧ yX6_spread.cls ≠ "java/lang/invoke/VarHandle" ∧ (parseMethodDescriptor yX6_spread.desc).map (fun d => d.parameters.length) = some 1 := by decide +kernel
theorem kc_L_spread_4 : ∀ w ∈ ([Cond.methodLink "QuakeBenchLaw" 71 yX6_spread, Cond.instanceMethod yX6_spread, Cond.selects "QuakeBench" yX6_spread yX6_spread, Cond.initialized "QuakeBench", Cond.code yX6_spread prog_1_method_19_code 3 (Option.some Jvm.ClassFile.FieldType.double)] : List Cond), w ∈ lw_all := zin [1089, 1090, 1091, 54, 1092] (by decide +kernel)
theorem dL_gap_0 : decode cL_gap 0 = .ok (.aload_n 2, 1) := by decide +kernel
theorem dL_gap_1 : decode cL_gap 1 = .ok (.iconst 0, 1) := by decide +kernel
theorem dL_gap_2 : decode cL_gap 2 = .ok (.aload_n 0, 1) := by decide +kernel
theorem dL_gap_3 : decode cL_gap 3 = .ok (.iload_n 1, 1) := by decide +kernel
theorem dL_gap_4 : decode cL_gap 4 = .ok (.invokevirtual 75, 3) := by decide +kernel
theorem dL_gap_7 : decode cL_gap 7 = .ok (.i2l, 1) := by decide +kernel
theorem dL_gap_8 : decode cL_gap 8 = .ok (.lastore, 1) := by decide +kernel
theorem dL_gap_9 : decode cL_gap 9 = .ok (.goto 9, 3) := by decide +kernel
theorem dL_gap_12 : decode cL_gap 12 = .ok (.astore_n 3, 1) := by decide +kernel
theorem dL_gap_13 : decode cL_gap 13 = .ok (.iconst 1, 1) := by decide +kernel
theorem dL_gap_14 : decode cL_gap 14 = .ok (.ireturn, 1) := by decide +kernel
theorem dL_gap_15 : decode cL_gap 15 = .ok (.astore_n 3, 1) := by decide +kernel
theorem dL_gap_16 : decode cL_gap 16 = .ok (.iconst 2, 1) := by decide +kernel
theorem dL_gap_17 : decode cL_gap 17 = .ok (.ireturn, 1) := by decide +kernel
theorem dL_gap_18 : decode cL_gap 18 = .ok (.iconst 0, 1) := by decide +kernel
theorem dL_gap_19 : decode cL_gap 19 = .ok (.ireturn, 1) := by decide +kernel
theorem ky_X6_gap : yX6_gap.cls ≠ "java/lang/invoke/MethodHandle" ∧ yX6_gap.cls ≠ "java/lang/invoke/VarHandle" ∧ (parseMethodDescriptor yX6_gap.desc).map (fun d => d.parameters.length) = some 1 := by decide +kernel
theorem kc_L_gap_4 : ∀ w ∈ ([Cond.methodLink "QuakeBenchLaw" 75 yX6_gap, Cond.instanceMethod yX6_gap, Cond.selects "QuakeBench" yX6_gap yX6_gap, Cond.initialized "QuakeBench", Cond.code yX6_gap prog_1_method_20_code 3 (Option.some Jvm.ClassFile.FieldType.int)] : List Cond), w ∈ lw_all := zin [1096, 1097, 1098, 54, 1099] (by decide +kernel)
theorem dL_setAmplitude_0 : decode cL_setAmplitude 0 = .ok (.aload_n 3, 1) := by decide +kernel
theorem dL_setAmplitude_1 : decode cL_setAmplitude 1 = .ok (.iconst 0, 1) := by decide +kernel
theorem dL_setAmplitude_2 : decode cL_setAmplitude 2 = .ok (.aload_n 0, 1) := by decide +kernel
theorem dL_setAmplitude_3 : decode cL_setAmplitude 3 = .ok (.iload_n 1, 1) := by decide +kernel
theorem dL_setAmplitude_4 : decode cL_setAmplitude 4 = .ok (.iload_n 2, 1) := by decide +kernel
theorem dL_setAmplitude_5 : decode cL_setAmplitude 5 = .ok (.invokevirtual 78, 3) := by decide +kernel
theorem dL_setAmplitude_8 : decode cL_setAmplitude 8 = .ok (.i2l, 1) := by decide +kernel
theorem dL_setAmplitude_9 : decode cL_setAmplitude 9 = .ok (.lastore, 1) := by decide +kernel
theorem dL_setAmplitude_10 : decode cL_setAmplitude 10 = .ok (.goto 11, 3) := by decide +kernel
theorem dL_setAmplitude_13 : decode cL_setAmplitude 13 = .ok (.astore 4, 2) := by decide +kernel
theorem dL_setAmplitude_15 : decode cL_setAmplitude 15 = .ok (.iconst 1, 1) := by decide +kernel
theorem dL_setAmplitude_16 : decode cL_setAmplitude 16 = .ok (.ireturn, 1) := by decide +kernel
theorem dL_setAmplitude_17 : decode cL_setAmplitude 17 = .ok (.astore 4, 2) := by decide +kernel
theorem dL_setAmplitude_19 : decode cL_setAmplitude 19 = .ok (.iconst 2, 1) := by decide +kernel
theorem dL_setAmplitude_20 : decode cL_setAmplitude 20 = .ok (.ireturn, 1) := by decide +kernel
theorem dL_setAmplitude_21 : decode cL_setAmplitude 21 = .ok (.iconst 0, 1) := by decide +kernel
theorem dL_setAmplitude_22 : decode cL_setAmplitude 22 = .ok (.ireturn, 1) := by decide +kernel
theorem ky_X6_setAmplitude : yX6_setAmplitude.cls ≠ "java/lang/invoke/MethodHandle" ∧ yX6_setAmplitude.cls ≠ "java/lang/invoke/VarHandle" ∧ (parseMethodDescriptor yX6_setAmplitude.desc).map (fun d => d.parameters.length) = some 2 := by decide +kernel
theorem kc_L_setAmplitude_5 : ∀ w ∈ ([Cond.methodLink "QuakeBenchLaw" 78 yX6_setAmplitude, Cond.instanceMethod yX6_setAmplitude, Cond.selects "QuakeBench" yX6_setAmplitude yX6_setAmplitude, Cond.initialized "QuakeBench", Cond.code yX6_setAmplitude prog_1_method_21_code 5 (Option.some Jvm.ClassFile.FieldType.int)] : List Cond), w ∈ lw_all := zin [1103, 1104, 1105, 54, 1106] (by decide +kernel)
theorem dL_magnitude_0 : decode cL_magnitude 0 = .ok (.aload_n 2, 1) := by decide +kernel
theorem dL_magnitude_1 : decode cL_magnitude 1 = .ok (.iconst 0, 1) := by decide +kernel
theorem dL_magnitude_2 : decode cL_magnitude 2 = .ok (.aload_n 0, 1) := by decide +kernel
theorem dL_magnitude_3 : decode cL_magnitude 3 = .ok (.iload_n 1, 1) := by decide +kernel
theorem dL_magnitude_4 : decode cL_magnitude 4 = .ok (.invokevirtual 81, 3) := by decide +kernel
theorem dL_magnitude_7 : decode cL_magnitude 7 = .ok (.i2l, 1) := by decide +kernel
theorem dL_magnitude_8 : decode cL_magnitude 8 = .ok (.lastore, 1) := by decide +kernel
theorem dL_magnitude_9 : decode cL_magnitude 9 = .ok (.goto 9, 3) := by decide +kernel
theorem dL_magnitude_12 : decode cL_magnitude 12 = .ok (.astore_n 3, 1) := by decide +kernel
theorem dL_magnitude_13 : decode cL_magnitude 13 = .ok (.iconst 1, 1) := by decide +kernel
theorem dL_magnitude_14 : decode cL_magnitude 14 = .ok (.ireturn, 1) := by decide +kernel
theorem dL_magnitude_15 : decode cL_magnitude 15 = .ok (.astore_n 3, 1) := by decide +kernel
theorem dL_magnitude_16 : decode cL_magnitude 16 = .ok (.iconst 2, 1) := by decide +kernel
theorem dL_magnitude_17 : decode cL_magnitude 17 = .ok (.ireturn, 1) := by decide +kernel
theorem dL_magnitude_18 : decode cL_magnitude 18 = .ok (.iconst 0, 1) := by decide +kernel
theorem dL_magnitude_19 : decode cL_magnitude 19 = .ok (.ireturn, 1) := by decide +kernel
theorem ky_X6_magnitude : yX6_magnitude.cls ≠ "java/lang/invoke/MethodHandle" ∧ yX6_magnitude.cls ≠ "java/lang/invoke/VarHandle" ∧ (parseMethodDescriptor yX6_magnitude.desc).map (fun d => d.parameters.length) = some 1 := by decide +kernel
theorem kc_L_magnitude_4 : ∀ w ∈ ([Cond.methodLink "QuakeBenchLaw" 81 yX6_magnitude, Cond.instanceMethod yX6_magnitude, Cond.selects "QuakeBench" yX6_magnitude yX6_magnitude, Cond.initialized "QuakeBench", Cond.code yX6_magnitude prog_1_method_22_code 3 (Option.some Jvm.ClassFile.FieldType.int)] : List Cond), w ∈ lw_all := zin [1112, 1113, 1114, 54, 1115] (by decide +kernel)
theorem dL_family_0 : decode cL_family 0 = .ok (.aload 4, 2) := by decide +kernel
theorem dL_family_2 : decode cL_family 2 = .ok (.iconst 0, 1) := by decide +kernel
theorem dL_family_3 : decode cL_family 3 = .ok (.aload_n 0, 1) := by decide +kernel
theorem dL_family_4 : decode cL_family 4 = .ok (.iload_n 1, 1) := by decide +kernel
theorem dL_family_5 : decode cL_family 5 = .ok (.iload_n 2, 1) := by decide +kernel
theorem dL_family_6 : decode cL_family 6 = .ok (.iload_n 3, 1) := by decide +kernel
theorem dL_family_7 : decode cL_family 7 = .ok (.invokevirtual 87, 3) := by decide +kernel
theorem dL_family_10 : decode cL_family 10 = .ok (.i2l, 1) := by decide +kernel
theorem dL_family_11 : decode cL_family 11 = .ok (.lastore, 1) := by decide +kernel
theorem dL_family_12 : decode cL_family 12 = .ok (.goto 15, 3) := by decide +kernel
theorem dL_family_15 : decode cL_family 15 = .ok (.astore 5, 2) := by decide +kernel
theorem dL_family_17 : decode cL_family 17 = .ok (.iconst 1, 1) := by decide +kernel
theorem dL_family_18 : decode cL_family 18 = .ok (.ireturn, 1) := by decide +kernel
theorem dL_family_19 : decode cL_family 19 = .ok (.astore 5, 2) := by decide +kernel
theorem dL_family_21 : decode cL_family 21 = .ok (.iconst 2, 1) := by decide +kernel
theorem dL_family_22 : decode cL_family 22 = .ok (.ireturn, 1) := by decide +kernel
theorem dL_family_23 : decode cL_family 23 = .ok (.astore 5, 2) := by decide +kernel
theorem dL_family_25 : decode cL_family 25 = .ok (.iconst 3, 1) := by decide +kernel
theorem dL_family_26 : decode cL_family 26 = .ok (.ireturn, 1) := by decide +kernel
theorem dL_family_27 : decode cL_family 27 = .ok (.iconst 0, 1) := by decide +kernel
theorem dL_family_28 : decode cL_family 28 = .ok (.ireturn, 1) := by decide +kernel
theorem ky_X6_family : yX6_family.cls ≠ "java/lang/invoke/MethodHandle" ∧ yX6_family.cls ≠ "java/lang/invoke/VarHandle" ∧ (parseMethodDescriptor yX6_family.desc).map (fun d => d.parameters.length) = some 3 := by decide +kernel
theorem kc_L_family_7 : ∀ w ∈ ([Cond.methodLink "QuakeBenchLaw" 87 yX6_family, Cond.instanceMethod yX6_family, Cond.selects "QuakeBench" yX6_family yX6_family, Cond.initialized "QuakeBench", Cond.code yX6_family prog_1_method_24_code 8 (Option.some Jvm.ClassFile.FieldType.int)] : List Cond), w ∈ lw_all := zin [1150, 1151, 1152, 54, 1153] (by decide +kernel)
theorem dL_addStation_0 : decode cL_addStation 0 = .ok (.aload_n 3, 1) := by decide +kernel
theorem dL_addStation_1 : decode cL_addStation 1 = .ok (.iconst 0, 1) := by decide +kernel
theorem dL_addStation_2 : decode cL_addStation 2 = .ok (.aload_n 0, 1) := by decide +kernel
theorem dL_addStation_3 : decode cL_addStation 3 = .ok (.iload_n 1, 1) := by decide +kernel
theorem dL_addStation_4 : decode cL_addStation 4 = .ok (.iload_n 2, 1) := by decide +kernel
theorem dL_addStation_5 : decode cL_addStation 5 = .ok (.invokevirtual 7, 3) := by decide +kernel
theorem dL_addStation_8 : decode cL_addStation 8 = .ok (.i2l, 1) := by decide +kernel
theorem dL_addStation_9 : decode cL_addStation 9 = .ok (.lastore, 1) := by decide +kernel
theorem dL_addStation_10 : decode cL_addStation 10 = .ok (.goto 11, 3) := by decide +kernel
theorem dL_addStation_13 : decode cL_addStation 13 = .ok (.astore 4, 2) := by decide +kernel
theorem dL_addStation_15 : decode cL_addStation 15 = .ok (.iconst 1, 1) := by decide +kernel
theorem dL_addStation_16 : decode cL_addStation 16 = .ok (.ireturn, 1) := by decide +kernel
theorem dL_addStation_17 : decode cL_addStation 17 = .ok (.astore 4, 2) := by decide +kernel
theorem dL_addStation_19 : decode cL_addStation 19 = .ok (.iconst 2, 1) := by decide +kernel
theorem dL_addStation_20 : decode cL_addStation 20 = .ok (.ireturn, 1) := by decide +kernel
theorem dL_addStation_21 : decode cL_addStation 21 = .ok (.iconst 0, 1) := by decide +kernel
theorem dL_addStation_22 : decode cL_addStation 22 = .ok (.ireturn, 1) := by decide +kernel
theorem ky_X6_addStation : yX6_addStation.cls ≠ "java/lang/invoke/MethodHandle" ∧ yX6_addStation.cls ≠ "java/lang/invoke/VarHandle" ∧ (parseMethodDescriptor yX6_addStation.desc).map (fun d => d.parameters.length) = some 2 := by decide +kernel
theorem kc_L_addStation_5 : ∀ w ∈ ([Cond.methodLink "QuakeBenchLaw" 7 yX6_addStation, Cond.instanceMethod yX6_addStation, Cond.selects "QuakeBench" yX6_addStation yX6_addStation, Cond.initialized "QuakeBench", Cond.code yX6_addStation prog_1_method_2_code 4 (Option.some Jvm.ClassFile.FieldType.int)] : List Cond), w ∈ lw_all := zin [824, 825, 826, 54, 827] (by decide +kernel)
theorem kw_822 : Cond.classLink "QuakeBenchLaw" 13 "java/lang/IllegalArgumentException" ∈ lw_all := zin1 822 (by decide +kernel)
theorem kn_511 : Cond.castable "java/lang/IllegalArgumentException" "java/lang/IllegalArgumentException" ∈ lw_nest := by decide +kernel
theorem dL_setSpeeds_0 : decode cL_setSpeeds 0 = .ok (.aload_n 3, 1) := by decide +kernel
theorem dL_setSpeeds_1 : decode cL_setSpeeds 1 = .ok (.iconst 0, 1) := by decide +kernel
theorem dL_setSpeeds_2 : decode cL_setSpeeds 2 = .ok (.aload_n 0, 1) := by decide +kernel
theorem dL_setSpeeds_3 : decode cL_setSpeeds 3 = .ok (.iload_n 1, 1) := by decide +kernel
theorem dL_setSpeeds_4 : decode cL_setSpeeds 4 = .ok (.iload_n 2, 1) := by decide +kernel
theorem dL_setSpeeds_5 : decode cL_setSpeeds 5 = .ok (.invokevirtual 22, 3) := by decide +kernel
theorem dL_setSpeeds_8 : decode cL_setSpeeds 8 = .ok (.i2l, 1) := by decide +kernel
theorem dL_setSpeeds_9 : decode cL_setSpeeds 9 = .ok (.lastore, 1) := by decide +kernel
theorem dL_setSpeeds_10 : decode cL_setSpeeds 10 = .ok (.goto 7, 3) := by decide +kernel
theorem dL_setSpeeds_13 : decode cL_setSpeeds 13 = .ok (.astore 4, 2) := by decide +kernel
theorem dL_setSpeeds_15 : decode cL_setSpeeds 15 = .ok (.iconst 1, 1) := by decide +kernel
theorem dL_setSpeeds_16 : decode cL_setSpeeds 16 = .ok (.ireturn, 1) := by decide +kernel
theorem dL_setSpeeds_17 : decode cL_setSpeeds 17 = .ok (.iconst 0, 1) := by decide +kernel
theorem dL_setSpeeds_18 : decode cL_setSpeeds 18 = .ok (.ireturn, 1) := by decide +kernel
theorem ky_X6_setSpeeds : yX6_setSpeeds.cls ≠ "java/lang/invoke/MethodHandle" ∧ yX6_setSpeeds.cls ≠ "java/lang/invoke/VarHandle" ∧ (parseMethodDescriptor yX6_setSpeeds.desc).map (fun d => d.parameters.length) = some 2 := by decide +kernel
theorem kc_L_setSpeeds_5 : ∀ w ∈ ([Cond.methodLink "QuakeBenchLaw" 22 yX6_setSpeeds, Cond.instanceMethod yX6_setSpeeds, Cond.selects "QuakeBench" yX6_setSpeeds yX6_setSpeeds, Cond.initialized "QuakeBench", Cond.code yX6_setSpeeds prog_1_method_4_code 4 (Option.some Jvm.ClassFile.FieldType.int)] : List Cond), w ∈ lw_all := zin [894, 895, 896, 54, 897] (by decide +kernel)
theorem dL_addEvent_0 : decode cL_addEvent 0 = .ok (.aload_n 1, 1) := by decide +kernel
theorem dL_addEvent_1 : decode cL_addEvent 1 = .ok (.iconst 0, 1) := by decide +kernel
theorem dL_addEvent_2 : decode cL_addEvent 2 = .ok (.aload_n 0, 1) := by decide +kernel
theorem dL_addEvent_3 : decode cL_addEvent 3 = .ok (.invokevirtual 43, 3) := by decide +kernel
theorem dL_addEvent_6 : decode cL_addEvent 6 = .ok (.i2l, 1) := by decide +kernel
theorem dL_addEvent_7 : decode cL_addEvent 7 = .ok (.lastore, 1) := by decide +kernel
theorem dL_addEvent_8 : decode cL_addEvent 8 = .ok (.goto 6, 3) := by decide +kernel
theorem dL_addEvent_11 : decode cL_addEvent 11 = .ok (.astore_n 2, 1) := by decide +kernel
theorem dL_addEvent_12 : decode cL_addEvent 12 = .ok (.iconst 1, 1) := by decide +kernel
theorem dL_addEvent_13 : decode cL_addEvent 13 = .ok (.ireturn, 1) := by decide +kernel
theorem dL_addEvent_14 : decode cL_addEvent 14 = .ok (.iconst 0, 1) := by decide +kernel
theorem dL_addEvent_15 : decode cL_addEvent 15 = .ok (.ireturn, 1) := by decide +kernel
theorem ky_X6_addEvent : yX6_addEvent.cls ≠ "java/lang/invoke/MethodHandle" ∧ yX6_addEvent.cls ≠ "java/lang/invoke/VarHandle" ∧ (parseMethodDescriptor yX6_addEvent.desc).map (fun d => d.parameters.length) = some 0 := by decide +kernel
theorem kc_L_addEvent_3 : ∀ w ∈ ([Cond.methodLink "QuakeBenchLaw" 43 yX6_addEvent, Cond.instanceMethod yX6_addEvent, Cond.selects "QuakeBench" yX6_addEvent yX6_addEvent, Cond.initialized "QuakeBench", Cond.code yX6_addEvent prog_1_method_10_code 1 (Option.some Jvm.ClassFile.FieldType.int)] : List Cond), w ∈ lw_all := zin [995, 996, 997, 54, 998] (by decide +kernel)
theorem dL_count_0 : decode cL_count 0 = .ok (.aload_n 2, 1) := by decide +kernel
theorem dL_count_1 : decode cL_count 1 = .ok (.iconst 0, 1) := by decide +kernel
theorem dL_count_2 : decode cL_count 2 = .ok (.aload_n 0, 1) := by decide +kernel
theorem dL_count_3 : decode cL_count 3 = .ok (.iload_n 1, 1) := by decide +kernel
theorem dL_count_4 : decode cL_count 4 = .ok (.invokevirtual 50, 3) := by decide +kernel
theorem dL_count_7 : decode cL_count 7 = .ok (.i2l, 1) := by decide +kernel
theorem dL_count_8 : decode cL_count 8 = .ok (.lastore, 1) := by decide +kernel
theorem dL_count_9 : decode cL_count 9 = .ok (.goto 6, 3) := by decide +kernel
theorem dL_count_12 : decode cL_count 12 = .ok (.astore_n 3, 1) := by decide +kernel
theorem dL_count_13 : decode cL_count 13 = .ok (.iconst 1, 1) := by decide +kernel
theorem dL_count_14 : decode cL_count 14 = .ok (.ireturn, 1) := by decide +kernel
theorem dL_count_15 : decode cL_count 15 = .ok (.iconst 0, 1) := by decide +kernel
theorem dL_count_16 : decode cL_count 16 = .ok (.ireturn, 1) := by decide +kernel
theorem ky_X6_count : yX6_count.cls ≠ "java/lang/invoke/MethodHandle" ∧ yX6_count.cls ≠ "java/lang/invoke/VarHandle" ∧ (parseMethodDescriptor yX6_count.desc).map (fun d => d.parameters.length) = some 1 := by decide +kernel
theorem kc_L_count_4 : ∀ w ∈ ([Cond.methodLink "QuakeBenchLaw" 50 yX6_count, Cond.instanceMethod yX6_count, Cond.selects "QuakeBench" yX6_count yX6_count, Cond.initialized "QuakeBench", Cond.code yX6_count prog_1_method_13_code 2 (Option.some Jvm.ClassFile.FieldType.int)] : List Cond), w ∈ lw_all := zin [1028, 1029, 1030, 54, 1031] (by decide +kernel)
theorem dL_families_0 : decode cL_families 0 = .ok (.aload_n 3, 1) := by decide +kernel
theorem dL_families_1 : decode cL_families 1 = .ok (.iconst 0, 1) := by decide +kernel
theorem dL_families_2 : decode cL_families 2 = .ok (.aload_n 0, 1) := by decide +kernel
theorem dL_families_3 : decode cL_families 3 = .ok (.iload_n 1, 1) := by decide +kernel
theorem dL_families_4 : decode cL_families 4 = .ok (.iload_n 2, 1) := by decide +kernel
theorem dL_families_5 : decode cL_families 5 = .ok (.invokevirtual 84, 3) := by decide +kernel
theorem dL_families_8 : decode cL_families 8 = .ok (.i2l, 1) := by decide +kernel
theorem dL_families_9 : decode cL_families 9 = .ok (.lastore, 1) := by decide +kernel
theorem dL_families_10 : decode cL_families 10 = .ok (.goto 7, 3) := by decide +kernel
theorem dL_families_13 : decode cL_families 13 = .ok (.astore 4, 2) := by decide +kernel
theorem dL_families_15 : decode cL_families 15 = .ok (.iconst 1, 1) := by decide +kernel
theorem dL_families_16 : decode cL_families 16 = .ok (.ireturn, 1) := by decide +kernel
theorem dL_families_17 : decode cL_families 17 = .ok (.iconst 0, 1) := by decide +kernel
theorem dL_families_18 : decode cL_families 18 = .ok (.ireturn, 1) := by decide +kernel
theorem ky_X6_families : yX6_families.cls ≠ "java/lang/invoke/MethodHandle" ∧ yX6_families.cls ≠ "java/lang/invoke/VarHandle" ∧ (parseMethodDescriptor yX6_families.desc).map (fun d => d.parameters.length) = some 2 := by decide +kernel
theorem kc_L_families_5 : ∀ w ∈ ([Cond.methodLink "QuakeBenchLaw" 84 yX6_families, Cond.instanceMethod yX6_families, Cond.selects "QuakeBench" yX6_families yX6_families, Cond.initialized "QuakeBench", Cond.code yX6_families prog_1_method_23_code 6 (Option.some Jvm.ClassFile.FieldType.int)] : List Cond), w ∈ lw_all := zin [1119, 1120, 1121, 54, 1122] (by decide +kernel)
theorem dL_nearest_0 : decode cL_nearest 0 = .ok (.aload 4, 2) := by decide +kernel
theorem dL_nearest_2 : decode cL_nearest 2 = .ok (.iconst 0, 1) := by decide +kernel
theorem dL_nearest_3 : decode cL_nearest 3 = .ok (.aload_n 0, 1) := by decide +kernel
theorem dL_nearest_4 : decode cL_nearest 4 = .ok (.iload_n 1, 1) := by decide +kernel
theorem dL_nearest_5 : decode cL_nearest 5 = .ok (.iload_n 2, 1) := by decide +kernel
theorem dL_nearest_6 : decode cL_nearest 6 = .ok (.iload_n 3, 1) := by decide +kernel
theorem dL_nearest_7 : decode cL_nearest 7 = .ok (.invokevirtual 91, 3) := by decide +kernel
theorem dL_nearest_10 : decode cL_nearest 10 = .ok (.i2l, 1) := by decide +kernel
theorem dL_nearest_11 : decode cL_nearest 11 = .ok (.lastore, 1) := by decide +kernel
theorem dL_nearest_12 : decode cL_nearest 12 = .ok (.goto 7, 3) := by decide +kernel
theorem dL_nearest_15 : decode cL_nearest 15 = .ok (.astore 5, 2) := by decide +kernel
theorem dL_nearest_17 : decode cL_nearest 17 = .ok (.iconst 1, 1) := by decide +kernel
theorem dL_nearest_18 : decode cL_nearest 18 = .ok (.ireturn, 1) := by decide +kernel
theorem dL_nearest_19 : decode cL_nearest 19 = .ok (.iconst 0, 1) := by decide +kernel
theorem dL_nearest_20 : decode cL_nearest 20 = .ok (.ireturn, 1) := by decide +kernel
theorem ky_X6_nearest : yX6_nearest.cls ≠ "java/lang/invoke/MethodHandle" ∧ yX6_nearest.cls ≠ "java/lang/invoke/VarHandle" ∧ (parseMethodDescriptor yX6_nearest.desc).map (fun d => d.parameters.length) = some 3 := by decide +kernel
theorem kc_L_nearest_7 : ∀ w ∈ ([Cond.methodLink "QuakeBenchLaw" 91 yX6_nearest, Cond.instanceMethod yX6_nearest, Cond.selects "QuakeBench" yX6_nearest yX6_nearest, Cond.initialized "QuakeBench", Cond.code yX6_nearest prog_1_method_25_code 9 (Option.some Jvm.ClassFile.FieldType.int)] : List Cond), w ∈ lw_all := zin [1157, 1158, 1159, 54, 1160] (by decide +kernel)
/-! the law's wrappers, on a new bench -/
abbrev rm_w_setDelay : Room := { frames := 8, cells := 1, slots := 6, locals := 137 }
set_option maxHeartbeats 4000000 in
set_option maxRecDepth 100000 in
theorem w_setDelay (l : Launch) (hst : l.stackTraces = false) (Γ : zY) (G : zG) {b out : Nat} (x0 : Int32) (x1 : Int32) (hC : zC0 Γ G b) : ZH l yL_setDelay cL_setDelay 5 (some FieldType.int) [(0, 10, 13, 20), (0, 10, 17, 13)] rm_w_setDelay Γ [.ref b, .int x0, .int x1, .ref out] G (fun v G' => some (.int 1) = v ∧ G = G') := by
  obtain ⟨ls, lp, le, w, r, q, lo, co, as, ap, ae, alo, hb, hR⟩ := id hC
  refine z_startH (by decide +kernel) [some (.ref b), some (.int x0), some (.int x1), some (.ref out), none] rfl (Nat.le_of_ble_eq_true rfl) ?_
  intro p e s m args below meth c Q A C F hT hr hnm
  first | refine z_rload_n C dL_setDelay_0 rfl ?_ | refine z_nload_n C dL_setDelay_0 rfl ?_ | refine z_aload_n C dL_setDelay_0 rfl ?_
  refine z_iconst (v := 0) C dL_setDelay_1 rfl ?_
  first | refine z_rload_n C dL_setDelay_2 rfl ?_ | refine z_nload_n C dL_setDelay_2 rfl ?_ | refine z_aload_n C dL_setDelay_2 rfl ?_
  refine z_iload_n C dL_setDelay_3 rfl ?_
  refine z_iload_n C dL_setDelay_4 rfl ?_
  refine z_callVX (q := (RX6, TX6, 8)) C (x_setDelay l hst Γ G x0 x1 hC) kc_L_setDelay_5 (by first | assumption | exact zU_same _ _ _) rfl rfl rfl rfl ky_X6_setDelay ⟨(Nat.le_of_ble_eq_true rfl), (Nat.le_of_ble_eq_true rfl)⟩ (Nat.le_of_ble_eq_true rfl) ⟨(Nat.le_of_ble_eq_true rfl), (Nat.le_of_ble_eq_true rfl)⟩ dL_setDelay_5 (fun E5 G5 hx5 => ?_) (fun _ _ hp => hp.elim)
  obtain ⟨rfl, rfl⟩ := hx5
  refine z_catch (name := "java/lang/IndexOutOfBoundsException") C hT rfl (by decide) kw_874 kn_251 rfl (fun q5 => ?_)
  first | refine z_rstore C dL_setDelay_13 (by decide) ?_ | refine z_astore C dL_setDelay_13 (by decide) ?_
  refine z_iconst (v := 1) C dL_setDelay_15 rfl ?_
  refine z_x F (fun Q F => ?_)
  exact z_iret C F hr (Nat.le_of_ble_eq_true rfl) (Nat.le_of_ble_eq_true rfl) ⟨rfl, rfl⟩ dL_setDelay_16
abbrev rm_w_way : Room := { frames := 8, cells := 1, slots := 6, locals := 136 }
set_option maxHeartbeats 4000000 in
set_option maxRecDepth 100000 in
theorem w_way (l : Launch) (hst : l.stackTraces = false) (Γ : zY) (G : zG) {b out : Nat} (x0 : Int32) (x1 : Int32) (x2 : Int32) (x3 : Int32) (hC : zC0 Γ G b) : ZH l yL_way cL_way 7 (some FieldType.int) [(0, 14, 17, 20), (0, 14, 21, 13)] rm_w_way Γ [.ref b, .int x0, .int x1, .int x2, .int x3, .ref out] G (fun v G' => some (.int 1) = v ∧ G = G') := by
  obtain ⟨ls, lp, le, w, r, q, lo, co, as, ap, ae, alo, hb, hR⟩ := id hC
  refine z_startH (by decide +kernel) [some (.ref b), some (.int x0), some (.int x1), some (.int x2), some (.int x3), some (.ref out), none] rfl (Nat.le_of_ble_eq_true rfl) ?_
  intro p e s m args below meth c Q A C F hT hr hnm
  first | refine z_rload C dL_way_0 rfl ?_ | refine z_aload C dL_way_0 rfl ?_
  refine z_iconst (v := 0) C dL_way_2 rfl ?_
  first | refine z_rload_n C dL_way_3 rfl ?_ | refine z_nload_n C dL_way_3 rfl ?_ | refine z_aload_n C dL_way_3 rfl ?_
  refine z_iload_n C dL_way_4 rfl ?_
  refine z_iload_n C dL_way_5 rfl ?_
  refine z_iload_n C dL_way_6 rfl ?_
  refine z_iload C dL_way_7 rfl ?_
  refine z_callVX (q := (RX6, TX6, 8)) C (x_way l hst Γ G x0 x1 x2 x3 hC) kc_L_way_9 (by first | assumption | exact zU_same _ _ _) rfl rfl rfl rfl ky_X6_way ⟨(Nat.le_of_ble_eq_true rfl), (Nat.le_of_ble_eq_true rfl)⟩ (Nat.le_of_ble_eq_true rfl) ⟨(Nat.le_of_ble_eq_true rfl), (Nat.le_of_ble_eq_true rfl)⟩ dL_way_9 (fun E9 G9 hx9 => ?_) (fun _ _ hp => hp.elim)
  obtain ⟨rfl, rfl⟩ := hx9
  refine z_catch (name := "java/lang/IndexOutOfBoundsException") C hT rfl (by decide) kw_874 kn_251 rfl (fun q9 => ?_)
  first | refine z_rstore C dL_way_17 (by decide) ?_ | refine z_astore C dL_way_17 (by decide) ?_
  refine z_iconst (v := 1) C dL_way_19 rfl ?_
  refine z_x F (fun Q F => ?_)
  exact z_iret C F hr (Nat.le_of_ble_eq_true rfl) (Nat.le_of_ble_eq_true rfl) ⟨rfl, rfl⟩ dL_way_20
abbrev rm_w_needs : Room := { frames := 8, cells := 1, slots := 6, locals := 137 }
set_option maxHeartbeats 4000000 in
set_option maxRecDepth 100000 in
theorem w_needs (l : Launch) (hst : l.stackTraces = false) (Γ : zY) (G : zG) {b out : Nat} (x0 : Int32) (x1 : Int32) (x2 : Int32) (x3 : Int32) (x4 : Int32) (hC : zC0 Γ G b) : ZH l yL_needs cL_needs 8 (some FieldType.int) [(0, 16, 19, 20), (0, 16, 23, 13)] rm_w_needs Γ [.ref b, .int x0, .int x1, .int x2, .int x3, .int x4, .ref out] G (fun v G' => some (.int 1) = v ∧ G = G') := by
  obtain ⟨ls, lp, le, w, r, q, lo, co, as, ap, ae, alo, hb, hR⟩ := id hC
  refine z_startH (by decide +kernel) [some (.ref b), some (.int x0), some (.int x1), some (.int x2), some (.int x3), some (.int x4), some (.ref out), none] rfl (Nat.le_of_ble_eq_true rfl) ?_
  intro p e s m args below meth c Q A C F hT hr hnm
  first | refine z_rload C dL_needs_0 rfl ?_ | refine z_aload C dL_needs_0 rfl ?_
  refine z_iconst (v := 0) C dL_needs_2 rfl ?_
  first | refine z_rload_n C dL_needs_3 rfl ?_ | refine z_nload_n C dL_needs_3 rfl ?_ | refine z_aload_n C dL_needs_3 rfl ?_
  refine z_iload_n C dL_needs_4 rfl ?_
  refine z_iload_n C dL_needs_5 rfl ?_
  refine z_iload_n C dL_needs_6 rfl ?_
  refine z_iload C dL_needs_7 rfl ?_
  refine z_iload C dL_needs_9 rfl ?_
  refine z_callVX (q := (RX6, TX6, 8)) C (x_needs l hst Γ G x0 x1 x2 x3 x4 hC) kc_L_needs_11 (by first | assumption | exact zU_same _ _ _) rfl rfl rfl rfl ky_X6_needs ⟨(Nat.le_of_ble_eq_true rfl), (Nat.le_of_ble_eq_true rfl)⟩ (Nat.le_of_ble_eq_true rfl) ⟨(Nat.le_of_ble_eq_true rfl), (Nat.le_of_ble_eq_true rfl)⟩ dL_needs_11 (fun E11 G11 hx11 => ?_) (fun _ _ hp => hp.elim)
  obtain ⟨rfl, rfl⟩ := hx11
  refine z_catch (name := "java/lang/IndexOutOfBoundsException") C hT rfl (by decide) kw_874 kn_251 rfl (fun q11 => ?_)
  first | refine z_rstore C dL_needs_19 (by decide) ?_ | refine z_astore C dL_needs_19 (by decide) ?_
  refine z_iconst (v := 1) C dL_needs_21 rfl ?_
  refine z_x F (fun Q F => ?_)
  exact z_iret C F hr (Nat.le_of_ble_eq_true rfl) (Nat.le_of_ble_eq_true rfl) ⟨rfl, rfl⟩ dL_needs_22
abbrev rm_w_addPick : Room := { frames := 8, cells := 1, slots := 6, locals := 136 }
set_option maxHeartbeats 4000000 in
set_option maxRecDepth 100000 in
theorem w_addPick (l : Launch) (hst : l.stackTraces = false) (Γ : zY) (G : zG) {b out : Nat} (x0 : Int32) (x1 : Int32) (x2 : Int32) (hC : zC0 Γ G b) : ZH l yL_addPick cL_addPick 6 (some FieldType.int) [(0, 12, 15, 20), (0, 12, 19, 13), (0, 12, 23, 15)] rm_w_addPick Γ [.ref b, .int x0, .int x1, .int x2, .ref out] G (fun v G' => some (.int 1) = v ∧ G = G') := by
  obtain ⟨ls, lp, le, w, r, q, lo, co, as, ap, ae, alo, hb, hR⟩ := id hC
  refine z_startH (by decide +kernel) [some (.ref b), some (.int x0), some (.int x1), some (.int x2), some (.ref out), none] rfl (Nat.le_of_ble_eq_true rfl) ?_
  intro p e s m args below meth c Q A C F hT hr hnm
  first | refine z_rload C dL_addPick_0 rfl ?_ | refine z_aload C dL_addPick_0 rfl ?_
  refine z_iconst (v := 0) C dL_addPick_2 rfl ?_
  first | refine z_rload_n C dL_addPick_3 rfl ?_ | refine z_nload_n C dL_addPick_3 rfl ?_ | refine z_aload_n C dL_addPick_3 rfl ?_
  refine z_iload_n C dL_addPick_4 rfl ?_
  refine z_iload_n C dL_addPick_5 rfl ?_
  refine z_iload_n C dL_addPick_6 rfl ?_
  refine z_callVX (q := (RX6, TX6, 8)) C (x_addPick l hst Γ G x0 x1 x2 hC) kc_L_addPick_7 (by first | assumption | exact zU_same _ _ _) rfl rfl rfl rfl ky_X6_addPick ⟨(Nat.le_of_ble_eq_true rfl), (Nat.le_of_ble_eq_true rfl)⟩ (Nat.le_of_ble_eq_true rfl) ⟨(Nat.le_of_ble_eq_true rfl), (Nat.le_of_ble_eq_true rfl)⟩ dL_addPick_7 (fun E7 G7 hx7 => ?_) (fun _ _ hp => hp.elim)
  obtain ⟨rfl, rfl⟩ := hx7
  refine z_catch (name := "java/lang/IndexOutOfBoundsException") C hT rfl (by decide) kw_874 kn_251 rfl (fun q7 => ?_)
  first | refine z_rstore C dL_addPick_15 (by decide) ?_ | refine z_astore C dL_addPick_15 (by decide) ?_
  refine z_iconst (v := 1) C dL_addPick_17 rfl ?_
  refine z_x F (fun Q F => ?_)
  exact z_iret C F hr (Nat.le_of_ble_eq_true rfl) (Nat.le_of_ble_eq_true rfl) ⟨rfl, rfl⟩ dL_addPick_18
abbrev rm_w_setWeight : Room := { frames := 8, cells := 1, slots := 6, locals := 135 }
set_option maxHeartbeats 4000000 in
set_option maxRecDepth 100000 in
theorem w_setWeight (l : Launch) (hst : l.stackTraces = false) (Γ : zY) (G : zG) {b out : Nat} (x0 : Int32) (x1 : Int32) (hC : zC0 Γ G b) : ZH l yL_setWeight cL_setWeight 5 (some FieldType.int) [(0, 10, 13, 20), (0, 10, 17, 13)] rm_w_setWeight Γ [.ref b, .int x0, .int x1, .ref out] G (fun v G' => some (.int 1) = v ∧ G = G') := by
  obtain ⟨ls, lp, le, w, r, q, lo, co, as, ap, ae, alo, hb, hR⟩ := id hC
  refine z_startH (by decide +kernel) [some (.ref b), some (.int x0), some (.int x1), some (.ref out), none] rfl (Nat.le_of_ble_eq_true rfl) ?_
  intro p e s m args below meth c Q A C F hT hr hnm
  first | refine z_rload_n C dL_setWeight_0 rfl ?_ | refine z_nload_n C dL_setWeight_0 rfl ?_ | refine z_aload_n C dL_setWeight_0 rfl ?_
  refine z_iconst (v := 0) C dL_setWeight_1 rfl ?_
  first | refine z_rload_n C dL_setWeight_2 rfl ?_ | refine z_nload_n C dL_setWeight_2 rfl ?_ | refine z_aload_n C dL_setWeight_2 rfl ?_
  refine z_iload_n C dL_setWeight_3 rfl ?_
  refine z_iload_n C dL_setWeight_4 rfl ?_
  refine z_callVX (q := (RX6, TX6, 8)) C (x_setWeight l hst Γ G x0 x1 hC) kc_L_setWeight_5 (by first | assumption | exact zU_same _ _ _) rfl rfl rfl rfl ky_X6_setWeight ⟨(Nat.le_of_ble_eq_true rfl), (Nat.le_of_ble_eq_true rfl)⟩ (Nat.le_of_ble_eq_true rfl) ⟨(Nat.le_of_ble_eq_true rfl), (Nat.le_of_ble_eq_true rfl)⟩ dL_setWeight_5 (fun E5 G5 hx5 => ?_) (fun _ _ hp => hp.elim)
  obtain ⟨rfl, rfl⟩ := hx5
  refine z_catch (name := "java/lang/IndexOutOfBoundsException") C hT rfl (by decide) kw_874 kn_251 rfl (fun q5 => ?_)
  first | refine z_rstore C dL_setWeight_13 (by decide) ?_ | refine z_astore C dL_setWeight_13 (by decide) ?_
  refine z_iconst (v := 1) C dL_setWeight_15 rfl ?_
  refine z_x F (fun Q F => ?_)
  exact z_iret C F hr (Nat.le_of_ble_eq_true rfl) (Nat.le_of_ble_eq_true rfl) ⟨rfl, rfl⟩ dL_setWeight_16
abbrev rm_w_pick : Room := { frames := 8, cells := 1, slots := 6, locals := 134 }
set_option maxHeartbeats 4000000 in
set_option maxRecDepth 100000 in
theorem w_pick (l : Launch) (hst : l.stackTraces = false) (Γ : zY) (G : zG) {b out : Nat} (x0 : Int32) (x1 : Int32) (hC : zC0 Γ G b) : ZH l yL_pick cL_pick 5 (some FieldType.int) [(0, 10, 13, 20)] rm_w_pick Γ [.ref b, .int x0, .int x1, .ref out] G (fun v G' => some (.int 1) = v ∧ G = G') := by
  obtain ⟨ls, lp, le, w, r, q, lo, co, as, ap, ae, alo, hb, hR⟩ := id hC
  refine z_startH (by decide +kernel) [some (.ref b), some (.int x0), some (.int x1), some (.ref out), none] rfl (Nat.le_of_ble_eq_true rfl) ?_
  intro p e s m args below meth c Q A C F hT hr hnm
  first | refine z_rload_n C dL_pick_0 rfl ?_ | refine z_nload_n C dL_pick_0 rfl ?_ | refine z_aload_n C dL_pick_0 rfl ?_
  refine z_iconst (v := 0) C dL_pick_1 rfl ?_
  first | refine z_rload_n C dL_pick_2 rfl ?_ | refine z_nload_n C dL_pick_2 rfl ?_ | refine z_aload_n C dL_pick_2 rfl ?_
  refine z_iload_n C dL_pick_3 rfl ?_
  refine z_iload_n C dL_pick_4 rfl ?_
  refine z_callVX (q := (RX6, TX6, 8)) C (x_pick l hst Γ G x0 x1 hC) kc_L_pick_5 (by first | assumption | exact zU_same _ _ _) rfl rfl rfl rfl ky_X6_pick ⟨(Nat.le_of_ble_eq_true rfl), (Nat.le_of_ble_eq_true rfl)⟩ (Nat.le_of_ble_eq_true rfl) ⟨(Nat.le_of_ble_eq_true rfl), (Nat.le_of_ble_eq_true rfl)⟩ dL_pick_5 (fun E5 G5 hx5 => ?_) (fun _ _ hp => hp.elim)
  obtain ⟨rfl, rfl⟩ := hx5
  refine z_catch (name := "java/lang/IndexOutOfBoundsException") C hT rfl (by decide) kw_874 kn_251 rfl (fun q5 => ?_)
  first | refine z_rstore C dL_pick_13 (by decide) ?_ | refine z_astore C dL_pick_13 (by decide) ?_
  refine z_iconst (v := 1) C dL_pick_15 rfl ?_
  refine z_x F (fun Q F => ?_)
  exact z_iret C F hr (Nat.le_of_ble_eq_true rfl) (Nat.le_of_ble_eq_true rfl) ⟨rfl, rfl⟩ dL_pick_16
abbrev rm_w_give : Room := { frames := 8, cells := 1, slots := 6, locals := 136 }
set_option maxHeartbeats 4000000 in
set_option maxRecDepth 100000 in
theorem w_give (l : Launch) (hst : l.stackTraces = false) (Γ : zY) (G : zG) {b out : Nat} (x0 : Int32) (x1 : Int32) (hC : zC0 Γ G b) : ZH l yL_give cL_give 5 (some FieldType.int) [(0, 10, 13, 20), (0, 10, 17, 15)] rm_w_give Γ [.ref b, .int x0, .int x1, .ref out] G (fun v G' => some (.int 1) = v ∧ G = G') := by
  obtain ⟨ls, lp, le, w, r, q, lo, co, as, ap, ae, alo, hb, hR⟩ := id hC
  refine z_startH (by decide +kernel) [some (.ref b), some (.int x0), some (.int x1), some (.ref out), none] rfl (Nat.le_of_ble_eq_true rfl) ?_
  intro p e s m args below meth c Q A C F hT hr hnm
  first | refine z_rload_n C dL_give_0 rfl ?_ | refine z_nload_n C dL_give_0 rfl ?_ | refine z_aload_n C dL_give_0 rfl ?_
  refine z_iconst (v := 0) C dL_give_1 rfl ?_
  first | refine z_rload_n C dL_give_2 rfl ?_ | refine z_nload_n C dL_give_2 rfl ?_ | refine z_aload_n C dL_give_2 rfl ?_
  refine z_iload_n C dL_give_3 rfl ?_
  refine z_iload_n C dL_give_4 rfl ?_
  refine z_callVX (q := (RX6, TX6, 8)) C (x_give l hst Γ G x0 x1 hC) kc_L_give_5 (by first | assumption | exact zU_same _ _ _) rfl rfl rfl rfl ky_X6_give ⟨(Nat.le_of_ble_eq_true rfl), (Nat.le_of_ble_eq_true rfl)⟩ (Nat.le_of_ble_eq_true rfl) ⟨(Nat.le_of_ble_eq_true rfl), (Nat.le_of_ble_eq_true rfl)⟩ dL_give_5 (fun E5 G5 hx5 => ?_) (fun _ _ hp => hp.elim)
  obtain ⟨rfl, rfl⟩ := hx5
  refine z_catch (name := "java/lang/IndexOutOfBoundsException") C hT rfl (by decide) kw_874 kn_251 rfl (fun q5 => ?_)
  first | refine z_rstore C dL_give_13 (by decide) ?_ | refine z_astore C dL_give_13 (by decide) ?_
  refine z_iconst (v := 1) C dL_give_15 rfl ?_
  refine z_x F (fun Q F => ?_)
  exact z_iret C F hr (Nat.le_of_ble_eq_true rfl) (Nat.le_of_ble_eq_true rfl) ⟨rfl, rfl⟩ dL_give_16
abbrev rm_w_seek : Room := { frames := 8, cells := 1, slots := 6, locals := 133 }
set_option maxHeartbeats 4000000 in
set_option maxRecDepth 100000 in
theorem w_seek (l : Launch) (hst : l.stackTraces = false) (Γ : zY) (G : zG) {b out : Nat} (x0 : Int32) (hC : zC0 Γ G b) : ZH l yL_seek cL_seek 4 (some FieldType.int) [(0, 8, 11, 20), (0, 8, 14, 15)] rm_w_seek Γ [.ref b, .int x0, .ref out] G (fun v G' => some (.int 1) = v ∧ G = G') := by
  obtain ⟨ls, lp, le, w, r, q, lo, co, as, ap, ae, alo, hb, hR⟩ := id hC
  refine z_startH (by decide +kernel) [some (.ref b), some (.int x0), some (.ref out), none] rfl (Nat.le_of_ble_eq_true rfl) ?_
  intro p e s m args below meth c Q A C F hT hr hnm
  first | refine z_rload_n C dL_seek_0 rfl ?_ | refine z_nload_n C dL_seek_0 rfl ?_ | refine z_aload_n C dL_seek_0 rfl ?_
  refine z_iconst (v := 0) C dL_seek_1 rfl ?_
  first | refine z_rload_n C dL_seek_2 rfl ?_ | refine z_nload_n C dL_seek_2 rfl ?_ | refine z_aload_n C dL_seek_2 rfl ?_
  refine z_iload_n C dL_seek_3 rfl ?_
  refine z_callVX (q := (RX6, TX6, 8)) C (x_seek l hst Γ G x0 hC) kc_L_seek_4 (by first | assumption | exact zU_same _ _ _) rfl rfl rfl rfl ky_X6_seek ⟨(Nat.le_of_ble_eq_true rfl), (Nat.le_of_ble_eq_true rfl)⟩ (Nat.le_of_ble_eq_true rfl) ⟨(Nat.le_of_ble_eq_true rfl), (Nat.le_of_ble_eq_true rfl)⟩ dL_seek_4 (fun E4 G4 hx4 => ?_) (fun _ _ hp => hp.elim)
  obtain ⟨rfl, rfl⟩ := hx4
  refine z_catch (name := "java/lang/IndexOutOfBoundsException") C hT rfl (by decide) kw_874 kn_251 rfl (fun q4 => ?_)
  first | refine z_rstore_n C dL_seek_11 (by decide) ?_ | refine z_nstore_n C dL_seek_11 (by decide) ?_ | refine z_astore_n C dL_seek_11 (by decide) ?_
  refine z_iconst (v := 1) C dL_seek_12 rfl ?_
  refine z_x F (fun Q F => ?_)
  exact z_iret C F hr (Nat.le_of_ble_eq_true rfl) (Nat.le_of_ble_eq_true rfl) ⟨rfl, rfl⟩ dL_seek_13
abbrev rm_w_event : Room := { frames := 8, cells := 1, slots := 6, locals := 134 }
set_option maxHeartbeats 4000000 in
set_option maxRecDepth 100000 in
theorem w_event (l : Launch) (hst : l.stackTraces = false) (Γ : zY) (G : zG) {b out : Nat} (x0 : Int32) (x1 : Int32) (hC : zC0 Γ G b) : ZH l yL_event cL_event 5 (some FieldType.int) [(0, 10, 13, 20), (0, 10, 17, 15)] rm_w_event Γ [.ref b, .int x0, .int x1, .ref out] G (fun v G' => some (.int 1) = v ∧ G = G') := by
  obtain ⟨ls, lp, le, w, r, q, lo, co, as, ap, ae, alo, hb, hR⟩ := id hC
  refine z_startH (by decide +kernel) [some (.ref b), some (.int x0), some (.int x1), some (.ref out), none] rfl (Nat.le_of_ble_eq_true rfl) ?_
  intro p e s m args below meth c Q A C F hT hr hnm
  first | refine z_rload_n C dL_event_0 rfl ?_ | refine z_nload_n C dL_event_0 rfl ?_ | refine z_aload_n C dL_event_0 rfl ?_
  refine z_iconst (v := 0) C dL_event_1 rfl ?_
  first | refine z_rload_n C dL_event_2 rfl ?_ | refine z_nload_n C dL_event_2 rfl ?_ | refine z_aload_n C dL_event_2 rfl ?_
  refine z_iload_n C dL_event_3 rfl ?_
  refine z_iload_n C dL_event_4 rfl ?_
  refine z_callVX (q := (RX6, TX6, 8)) C (x_event l hst Γ G x0 x1 hC) kc_L_event_5 (by first | assumption | exact zU_same _ _ _) rfl rfl rfl rfl ky_X6_event ⟨(Nat.le_of_ble_eq_true rfl), (Nat.le_of_ble_eq_true rfl)⟩ (Nat.le_of_ble_eq_true rfl) ⟨(Nat.le_of_ble_eq_true rfl), (Nat.le_of_ble_eq_true rfl)⟩ dL_event_5 (fun E5 G5 hx5 => ?_) (fun _ _ hp => hp.elim)
  obtain ⟨rfl, rfl⟩ := hx5
  refine z_catch (name := "java/lang/IndexOutOfBoundsException") C hT rfl (by decide) kw_874 kn_251 rfl (fun q5 => ?_)
  first | refine z_rstore C dL_event_13 (by decide) ?_ | refine z_astore C dL_event_13 (by decide) ?_
  refine z_iconst (v := 1) C dL_event_15 rfl ?_
  refine z_x F (fun Q F => ?_)
  exact z_iret C F hr (Nat.le_of_ble_eq_true rfl) (Nat.le_of_ble_eq_true rfl) ⟨rfl, rfl⟩ dL_event_16
abbrev rm_w_misfit : Room := { frames := 8, cells := 1, slots := 6, locals := 136 }
set_option maxHeartbeats 4000000 in
set_option maxRecDepth 100000 in
theorem w_misfit (l : Launch) (hst : l.stackTraces = false) (Γ : zY) (G : zG) {b out : Nat} (x0 : Int32) (x1 : Int32) (x2 : Int32) (x3 : Int32) (hC : zC0 Γ G b) : ZH l yL_misfit cL_misfit 7 (some FieldType.int) [(0, 13, 16, 20), (0, 13, 20, 13)] rm_w_misfit Γ [.ref b, .int x0, .int x1, .int x2, .int x3, .ref out] G (fun v G' => some (.int 1) = v ∧ G = G') := by
  obtain ⟨ls, lp, le, w, r, q, lo, co, as, ap, ae, alo, hb, hR⟩ := id hC
  refine z_startH (by decide +kernel) [some (.ref b), some (.int x0), some (.int x1), some (.int x2), some (.int x3), some (.ref out), none] rfl (Nat.le_of_ble_eq_true rfl) ?_
  intro p e s m args below meth c Q A C F hT hr hnm
  first | refine z_rload C dL_misfit_0 rfl ?_ | refine z_aload C dL_misfit_0 rfl ?_
  refine z_iconst (v := 0) C dL_misfit_2 rfl ?_
  first | refine z_rload_n C dL_misfit_3 rfl ?_ | refine z_nload_n C dL_misfit_3 rfl ?_ | refine z_aload_n C dL_misfit_3 rfl ?_
  refine z_iload_n C dL_misfit_4 rfl ?_
  refine z_iload_n C dL_misfit_5 rfl ?_
  refine z_iload_n C dL_misfit_6 rfl ?_
  refine z_iload C dL_misfit_7 rfl ?_
  refine z_callVX (q := (RX6, TX6, 8)) C (x_misfit l hst Γ G x0 x1 x2 x3 hC) kc_L_misfit_9 (by first | assumption | exact zU_same _ _ _) rfl rfl rfl rfl ky_X6_misfit ⟨(Nat.le_of_ble_eq_true rfl), (Nat.le_of_ble_eq_true rfl)⟩ (Nat.le_of_ble_eq_true rfl) ⟨(Nat.le_of_ble_eq_true rfl), (Nat.le_of_ble_eq_true rfl)⟩ dL_misfit_9 (fun E9 G9 hx9 => ?_) (fun _ _ hp => hp.elim)
  obtain ⟨rfl, rfl⟩ := hx9
  refine z_catch (name := "java/lang/IndexOutOfBoundsException") C hT rfl (by decide) kw_874 kn_251 rfl (fun q9 => ?_)
  first | refine z_rstore C dL_misfit_16 (by decide) ?_ | refine z_astore C dL_misfit_16 (by decide) ?_
  refine z_iconst (v := 1) C dL_misfit_18 rfl ?_
  refine z_x F (fun Q F => ?_)
  exact z_iret C F hr (Nat.le_of_ble_eq_true rfl) (Nat.le_of_ble_eq_true rfl) ⟨rfl, rfl⟩ dL_misfit_19
abbrev rm_w_residual : Room := { frames := 8, cells := 1, slots := 6, locals := 134 }
set_option maxHeartbeats 4000000 in
set_option maxRecDepth 100000 in
theorem w_residual (l : Launch) (hst : l.stackTraces = false) (Γ : zY) (G : zG) {b out : Nat} (x0 : Int32) (hC : zC0 Γ G b) : ZH l yL_residual cL_residual 4 (some FieldType.int) [(0, 9, 12, 20), (0, 9, 15, 15)] rm_w_residual Γ [.ref b, .int x0, .ref out] G (fun v G' => some (.int 1) = v ∧ G = G') := by
  obtain ⟨ls, lp, le, w, r, q, lo, co, as, ap, ae, alo, hb, hR⟩ := id hC
  refine z_startH (by decide +kernel) [some (.ref b), some (.int x0), some (.ref out), none] rfl (Nat.le_of_ble_eq_true rfl) ?_
  intro p e s m args below meth c Q A C F hT hr hnm
  first | refine z_rload_n C dL_residual_0 rfl ?_ | refine z_nload_n C dL_residual_0 rfl ?_ | refine z_aload_n C dL_residual_0 rfl ?_
  refine z_iconst (v := 0) C dL_residual_1 rfl ?_
  first | refine z_rload_n C dL_residual_2 rfl ?_ | refine z_nload_n C dL_residual_2 rfl ?_ | refine z_aload_n C dL_residual_2 rfl ?_
  refine z_iload_n C dL_residual_3 rfl ?_
  refine z_callVX (q := (RX6, TX6, 8)) C (x_residual l hst Γ G x0 hC) kc_L_residual_4 (by first | assumption | exact zU_same _ _ _) rfl rfl rfl rfl ky_X6_residual ⟨(Nat.le_of_ble_eq_true rfl), (Nat.le_of_ble_eq_true rfl)⟩ (Nat.le_of_ble_eq_true rfl) ⟨(Nat.le_of_ble_eq_true rfl), (Nat.le_of_ble_eq_true rfl)⟩ dL_residual_4 (fun E4 G4 hx4 => ?_) (fun _ _ hp => hp.elim)
  obtain ⟨rfl, rfl⟩ := hx4
  refine z_catch (name := "java/lang/IndexOutOfBoundsException") C hT rfl (by decide) kw_874 kn_251 rfl (fun q4 => ?_)
  first | refine z_rstore_n C dL_residual_12 (by decide) ?_ | refine z_nstore_n C dL_residual_12 (by decide) ?_ | refine z_astore_n C dL_residual_12 (by decide) ?_
  refine z_iconst (v := 1) C dL_residual_13 rfl ?_
  refine z_x F (fun Q F => ?_)
  exact z_iret C F hr (Nat.le_of_ble_eq_true rfl) (Nat.le_of_ble_eq_true rfl) ⟨rfl, rfl⟩ dL_residual_14
abbrev rm_w_worst : Room := { frames := 8, cells := 1, slots := 6, locals := 138 }
set_option maxHeartbeats 4000000 in
set_option maxRecDepth 100000 in
theorem w_worst (l : Launch) (hst : l.stackTraces = false) (Γ : zY) (G : zG) {b out : Nat} (x0 : Int32) (hC : zC0 Γ G b) : ZH l yL_worst cL_worst 4 (some FieldType.int) [(0, 9, 12, 20), (0, 9, 15, 15)] rm_w_worst Γ [.ref b, .int x0, .ref out] G (fun v G' => some (.int 1) = v ∧ G = G') := by
  obtain ⟨ls, lp, le, w, r, q, lo, co, as, ap, ae, alo, hb, hR⟩ := id hC
  refine z_startH (by decide +kernel) [some (.ref b), some (.int x0), some (.ref out), none] rfl (Nat.le_of_ble_eq_true rfl) ?_
  intro p e s m args below meth c Q A C F hT hr hnm
  first | refine z_rload_n C dL_worst_0 rfl ?_ | refine z_nload_n C dL_worst_0 rfl ?_ | refine z_aload_n C dL_worst_0 rfl ?_
  refine z_iconst (v := 0) C dL_worst_1 rfl ?_
  first | refine z_rload_n C dL_worst_2 rfl ?_ | refine z_nload_n C dL_worst_2 rfl ?_ | refine z_aload_n C dL_worst_2 rfl ?_
  refine z_iload_n C dL_worst_3 rfl ?_
  refine z_callVX (q := (RX6, TX6, 8)) C (x_worst l hst Γ G x0 hC) kc_L_worst_4 (by first | assumption | exact zU_same _ _ _) rfl rfl rfl rfl ky_X6_worst ⟨(Nat.le_of_ble_eq_true rfl), (Nat.le_of_ble_eq_true rfl)⟩ (Nat.le_of_ble_eq_true rfl) ⟨(Nat.le_of_ble_eq_true rfl), (Nat.le_of_ble_eq_true rfl)⟩ dL_worst_4 (fun E4 G4 hx4 => ?_) (fun _ _ hp => hp.elim)
  obtain ⟨rfl, rfl⟩ := hx4
  refine z_catch (name := "java/lang/IndexOutOfBoundsException") C hT rfl (by decide) kw_874 kn_251 rfl (fun q4 => ?_)
  first | refine z_rstore_n C dL_worst_12 (by decide) ?_ | refine z_nstore_n C dL_worst_12 (by decide) ?_ | refine z_astore_n C dL_worst_12 (by decide) ?_
  refine z_iconst (v := 1) C dL_worst_13 rfl ?_
  refine z_x F (fun Q F => ?_)
  exact z_iret C F hr (Nat.le_of_ble_eq_true rfl) (Nat.le_of_ble_eq_true rfl) ⟨rfl, rfl⟩ dL_worst_14
abbrev rm_w_spread : Room := { frames := 8, cells := 1, slots := 6, locals := 133 }
set_option maxHeartbeats 4000000 in
set_option maxRecDepth 100000 in
theorem w_spread (l : Launch) (hst : l.stackTraces = false) (Γ : zY) (G : zG) {b out : Nat} (x0 : Int32) (hC : zC0 Γ G b) : ZH l yL_spread cL_spread 4 (some FieldType.int) [(0, 8, 11, 20), (0, 8, 14, 15)] rm_w_spread Γ [.ref b, .int x0, .ref out] G (fun v G' => some (.int 1) = v ∧ G = G') := by
  obtain ⟨ls, lp, le, w, r, q, lo, co, as, ap, ae, alo, hb, hR⟩ := id hC
  refine z_startH (by decide +kernel) [some (.ref b), some (.int x0), some (.ref out), none] rfl (Nat.le_of_ble_eq_true rfl) ?_
  intro p e s m args below meth c Q A C F hT hr hnm
  first | refine z_rload_n C dL_spread_0 rfl ?_ | refine z_nload_n C dL_spread_0 rfl ?_ | refine z_aload_n C dL_spread_0 rfl ?_
  refine z_iconst (v := 0) C dL_spread_1 rfl ?_
  first | refine z_rload_n C dL_spread_2 rfl ?_ | refine z_nload_n C dL_spread_2 rfl ?_ | refine z_aload_n C dL_spread_2 rfl ?_
  refine z_iload_n C dL_spread_3 rfl ?_
  refine z_callVX (q := (RX6, TX6, 8)) C (x_spread l hst Γ G x0 hC) kc_L_spread_4 (by first | assumption | exact zU_same _ _ _) rfl rfl rfl rfl ky_X6_spread ⟨(Nat.le_of_ble_eq_true rfl), (Nat.le_of_ble_eq_true rfl)⟩ (Nat.le_of_ble_eq_true rfl) ⟨(Nat.le_of_ble_eq_true rfl), (Nat.le_of_ble_eq_true rfl)⟩ dL_spread_4 (fun E4 G4 hx4 => ?_) (fun _ _ hp => hp.elim)
  obtain ⟨rfl, rfl⟩ := hx4
  refine z_catch (name := "java/lang/IndexOutOfBoundsException") C hT rfl (by decide) kw_874 kn_251 rfl (fun q4 => ?_)
  first | refine z_rstore_n C dL_spread_11 (by decide) ?_ | refine z_nstore_n C dL_spread_11 (by decide) ?_ | refine z_astore_n C dL_spread_11 (by decide) ?_
  refine z_iconst (v := 1) C dL_spread_12 rfl ?_
  refine z_x F (fun Q F => ?_)
  exact z_iret C F hr (Nat.le_of_ble_eq_true rfl) (Nat.le_of_ble_eq_true rfl) ⟨rfl, rfl⟩ dL_spread_13
abbrev rm_w_gap : Room := { frames := 8, cells := 1, slots := 6, locals := 133 }
set_option maxHeartbeats 4000000 in
set_option maxRecDepth 100000 in
theorem w_gap (l : Launch) (hst : l.stackTraces = false) (Γ : zY) (G : zG) {b out : Nat} (x0 : Int32) (hC : zC0 Γ G b) : ZH l yL_gap cL_gap 4 (some FieldType.int) [(0, 9, 12, 20), (0, 9, 15, 15)] rm_w_gap Γ [.ref b, .int x0, .ref out] G (fun v G' => some (.int 1) = v ∧ G = G') := by
  obtain ⟨ls, lp, le, w, r, q, lo, co, as, ap, ae, alo, hb, hR⟩ := id hC
  refine z_startH (by decide +kernel) [some (.ref b), some (.int x0), some (.ref out), none] rfl (Nat.le_of_ble_eq_true rfl) ?_
  intro p e s m args below meth c Q A C F hT hr hnm
  first | refine z_rload_n C dL_gap_0 rfl ?_ | refine z_nload_n C dL_gap_0 rfl ?_ | refine z_aload_n C dL_gap_0 rfl ?_
  refine z_iconst (v := 0) C dL_gap_1 rfl ?_
  first | refine z_rload_n C dL_gap_2 rfl ?_ | refine z_nload_n C dL_gap_2 rfl ?_ | refine z_aload_n C dL_gap_2 rfl ?_
  refine z_iload_n C dL_gap_3 rfl ?_
  refine z_callVX (q := (RX6, TX6, 8)) C (x_gap l hst Γ G x0 hC) kc_L_gap_4 (by first | assumption | exact zU_same _ _ _) rfl rfl rfl rfl ky_X6_gap ⟨(Nat.le_of_ble_eq_true rfl), (Nat.le_of_ble_eq_true rfl)⟩ (Nat.le_of_ble_eq_true rfl) ⟨(Nat.le_of_ble_eq_true rfl), (Nat.le_of_ble_eq_true rfl)⟩ dL_gap_4 (fun E4 G4 hx4 => ?_) (fun _ _ hp => hp.elim)
  obtain ⟨rfl, rfl⟩ := hx4
  refine z_catch (name := "java/lang/IndexOutOfBoundsException") C hT rfl (by decide) kw_874 kn_251 rfl (fun q4 => ?_)
  first | refine z_rstore_n C dL_gap_12 (by decide) ?_ | refine z_nstore_n C dL_gap_12 (by decide) ?_ | refine z_astore_n C dL_gap_12 (by decide) ?_
  refine z_iconst (v := 1) C dL_gap_13 rfl ?_
  refine z_x F (fun Q F => ?_)
  exact z_iret C F hr (Nat.le_of_ble_eq_true rfl) (Nat.le_of_ble_eq_true rfl) ⟨rfl, rfl⟩ dL_gap_14
abbrev rm_w_setAmplitude : Room := { frames := 8, cells := 1, slots := 6, locals := 135 }
set_option maxHeartbeats 4000000 in
set_option maxRecDepth 100000 in
theorem w_setAmplitude (l : Launch) (hst : l.stackTraces = false) (Γ : zY) (G : zG) {b out : Nat} (x0 : Int32) (x1 : Int32) (hC : zC0 Γ G b) : ZH l yL_setAmplitude cL_setAmplitude 5 (some FieldType.int) [(0, 10, 13, 20), (0, 10, 17, 13)] rm_w_setAmplitude Γ [.ref b, .int x0, .int x1, .ref out] G (fun v G' => some (.int 1) = v ∧ G = G') := by
  obtain ⟨ls, lp, le, w, r, q, lo, co, as, ap, ae, alo, hb, hR⟩ := id hC
  refine z_startH (by decide +kernel) [some (.ref b), some (.int x0), some (.int x1), some (.ref out), none] rfl (Nat.le_of_ble_eq_true rfl) ?_
  intro p e s m args below meth c Q A C F hT hr hnm
  first | refine z_rload_n C dL_setAmplitude_0 rfl ?_ | refine z_nload_n C dL_setAmplitude_0 rfl ?_ | refine z_aload_n C dL_setAmplitude_0 rfl ?_
  refine z_iconst (v := 0) C dL_setAmplitude_1 rfl ?_
  first | refine z_rload_n C dL_setAmplitude_2 rfl ?_ | refine z_nload_n C dL_setAmplitude_2 rfl ?_ | refine z_aload_n C dL_setAmplitude_2 rfl ?_
  refine z_iload_n C dL_setAmplitude_3 rfl ?_
  refine z_iload_n C dL_setAmplitude_4 rfl ?_
  refine z_callVX (q := (RX6, TX6, 8)) C (x_setAmplitude l hst Γ G x0 x1 hC) kc_L_setAmplitude_5 (by first | assumption | exact zU_same _ _ _) rfl rfl rfl rfl ky_X6_setAmplitude ⟨(Nat.le_of_ble_eq_true rfl), (Nat.le_of_ble_eq_true rfl)⟩ (Nat.le_of_ble_eq_true rfl) ⟨(Nat.le_of_ble_eq_true rfl), (Nat.le_of_ble_eq_true rfl)⟩ dL_setAmplitude_5 (fun E5 G5 hx5 => ?_) (fun _ _ hp => hp.elim)
  obtain ⟨rfl, rfl⟩ := hx5
  refine z_catch (name := "java/lang/IndexOutOfBoundsException") C hT rfl (by decide) kw_874 kn_251 rfl (fun q5 => ?_)
  first | refine z_rstore C dL_setAmplitude_13 (by decide) ?_ | refine z_astore C dL_setAmplitude_13 (by decide) ?_
  refine z_iconst (v := 1) C dL_setAmplitude_15 rfl ?_
  refine z_x F (fun Q F => ?_)
  exact z_iret C F hr (Nat.le_of_ble_eq_true rfl) (Nat.le_of_ble_eq_true rfl) ⟨rfl, rfl⟩ dL_setAmplitude_16
abbrev rm_w_magnitude : Room := { frames := 8, cells := 1, slots := 6, locals := 133 }
set_option maxHeartbeats 4000000 in
set_option maxRecDepth 100000 in
theorem w_magnitude (l : Launch) (hst : l.stackTraces = false) (Γ : zY) (G : zG) {b out : Nat} (x0 : Int32) (hC : zC0 Γ G b) : ZH l yL_magnitude cL_magnitude 4 (some FieldType.int) [(0, 9, 12, 20), (0, 9, 15, 15)] rm_w_magnitude Γ [.ref b, .int x0, .ref out] G (fun v G' => some (.int 1) = v ∧ G = G') := by
  obtain ⟨ls, lp, le, w, r, q, lo, co, as, ap, ae, alo, hb, hR⟩ := id hC
  refine z_startH (by decide +kernel) [some (.ref b), some (.int x0), some (.ref out), none] rfl (Nat.le_of_ble_eq_true rfl) ?_
  intro p e s m args below meth c Q A C F hT hr hnm
  first | refine z_rload_n C dL_magnitude_0 rfl ?_ | refine z_nload_n C dL_magnitude_0 rfl ?_ | refine z_aload_n C dL_magnitude_0 rfl ?_
  refine z_iconst (v := 0) C dL_magnitude_1 rfl ?_
  first | refine z_rload_n C dL_magnitude_2 rfl ?_ | refine z_nload_n C dL_magnitude_2 rfl ?_ | refine z_aload_n C dL_magnitude_2 rfl ?_
  refine z_iload_n C dL_magnitude_3 rfl ?_
  refine z_callVX (q := (RX6, TX6, 8)) C (x_magnitude l hst Γ G x0 hC) kc_L_magnitude_4 (by first | assumption | exact zU_same _ _ _) rfl rfl rfl rfl ky_X6_magnitude ⟨(Nat.le_of_ble_eq_true rfl), (Nat.le_of_ble_eq_true rfl)⟩ (Nat.le_of_ble_eq_true rfl) ⟨(Nat.le_of_ble_eq_true rfl), (Nat.le_of_ble_eq_true rfl)⟩ dL_magnitude_4 (fun E4 G4 hx4 => ?_) (fun _ _ hp => hp.elim)
  obtain ⟨rfl, rfl⟩ := hx4
  refine z_catch (name := "java/lang/IndexOutOfBoundsException") C hT rfl (by decide) kw_874 kn_251 rfl (fun q4 => ?_)
  first | refine z_rstore_n C dL_magnitude_12 (by decide) ?_ | refine z_nstore_n C dL_magnitude_12 (by decide) ?_ | refine z_astore_n C dL_magnitude_12 (by decide) ?_
  refine z_iconst (v := 1) C dL_magnitude_13 rfl ?_
  refine z_x F (fun Q F => ?_)
  exact z_iret C F hr (Nat.le_of_ble_eq_true rfl) (Nat.le_of_ble_eq_true rfl) ⟨rfl, rfl⟩ dL_magnitude_14
abbrev rm_w_family : Room := { frames := 8, cells := 1, slots := 6, locals := 138 }
set_option maxHeartbeats 4000000 in
set_option maxRecDepth 100000 in
theorem w_family (l : Launch) (hst : l.stackTraces = false) (Γ : zY) (G : zG) {b out : Nat} (x0 : Int32) (x1 : Int32) (x2 : Int32) (hC : zC0 Γ G b) : ZH l yL_family cL_family 6 (some FieldType.int) [(0, 12, 15, 20), (0, 12, 19, 13), (0, 12, 23, 15)] rm_w_family Γ [.ref b, .int x0, .int x1, .int x2, .ref out] G (fun v G' => some (.int 1) = v ∧ G = G') := by
  obtain ⟨ls, lp, le, w, r, q, lo, co, as, ap, ae, alo, hb, hR⟩ := id hC
  refine z_startH (by decide +kernel) [some (.ref b), some (.int x0), some (.int x1), some (.int x2), some (.ref out), none] rfl (Nat.le_of_ble_eq_true rfl) ?_
  intro p e s m args below meth c Q A C F hT hr hnm
  first | refine z_rload C dL_family_0 rfl ?_ | refine z_aload C dL_family_0 rfl ?_
  refine z_iconst (v := 0) C dL_family_2 rfl ?_
  first | refine z_rload_n C dL_family_3 rfl ?_ | refine z_nload_n C dL_family_3 rfl ?_ | refine z_aload_n C dL_family_3 rfl ?_
  refine z_iload_n C dL_family_4 rfl ?_
  refine z_iload_n C dL_family_5 rfl ?_
  refine z_iload_n C dL_family_6 rfl ?_
  refine z_callVX (q := (RX6, TX6, 8)) C (x_family l hst Γ G x0 x1 x2 hC) kc_L_family_7 (by first | assumption | exact zU_same _ _ _) rfl rfl rfl rfl ky_X6_family ⟨(Nat.le_of_ble_eq_true rfl), (Nat.le_of_ble_eq_true rfl)⟩ (Nat.le_of_ble_eq_true rfl) ⟨(Nat.le_of_ble_eq_true rfl), (Nat.le_of_ble_eq_true rfl)⟩ dL_family_7 (fun E7 G7 hx7 => ?_) (fun _ _ hp => hp.elim)
  obtain ⟨rfl, rfl⟩ := hx7
  refine z_catch (name := "java/lang/IndexOutOfBoundsException") C hT rfl (by decide) kw_874 kn_251 rfl (fun q7 => ?_)
  first | refine z_rstore C dL_family_15 (by decide) ?_ | refine z_astore C dL_family_15 (by decide) ?_
  refine z_iconst (v := 1) C dL_family_17 rfl ?_
  refine z_x F (fun Q F => ?_)
  exact z_iret C F hr (Nat.le_of_ble_eq_true rfl) (Nat.le_of_ble_eq_true rfl) ⟨rfl, rfl⟩ dL_family_18
abbrev rm_w_addStation : Room := { frames := 8, cells := 2, slots := 37, locals := 194 }
set_option maxHeartbeats 4000000 in
set_option maxRecDepth 100000 in
theorem w_addStation (l : Launch) (hst : l.stackTraces = false) (Γ : zY) (G : zG) {b out : Nat} {f : Nat → Int64} (x0 : Int32) (x1 : Int32) (hC : zC0 Γ G b) (ho : G out = some (zJ Γ 1 f)) : ZH l yL_addStation cL_addStation 5 (some FieldType.int) [(0, 10, 13, 13), (0, 10, 17, 15)] rm_w_addStation Γ [.ref b, .int x0, .int x1, .ref out] G (fun v G' => (some (.int 1) = v ∧ (s_xyk x0 x1 = 1) ∧ G = G') ∨ (some (.int 0) = v ∧ (s_xyk x0 x1 = 0) ∧ ∃ G1, zKp G G1 ∧ zU G1 out (zJ Γ 1 (vp_updL f (0 : Int32).toNatClampNeg (0 : Int32).toInt64)) = G')) := by
  obtain ⟨ls, lp, le, w, r, q, lo, co, as, ap, ae, alo, hb, hR⟩ := id hC
  refine z_startH (by decide +kernel) [some (.ref b), some (.int x0), some (.int x1), some (.ref out), none] rfl (Nat.le_of_ble_eq_true rfl) ?_
  intro p e s m args below meth c Q A C F hT hr hnm
  first | refine z_rload_n C dL_addStation_0 rfl ?_ | refine z_nload_n C dL_addStation_0 rfl ?_ | refine z_aload_n C dL_addStation_0 rfl ?_
  refine z_iconst (v := 0) C dL_addStation_1 rfl ?_
  first | refine z_rload_n C dL_addStation_2 rfl ?_ | refine z_nload_n C dL_addStation_2 rfl ?_ | refine z_aload_n C dL_addStation_2 rfl ?_
  refine z_iload_n C dL_addStation_3 rfl ?_
  refine z_iload_n C dL_addStation_4 rfl ?_
  refine z_callVX (q := (RX6, TX6, 8)) C (x_addStation l hst Γ G x0 x1 hC) kc_L_addStation_5 (by first | assumption | exact zU_same _ _ _) rfl rfl rfl rfl ky_X6_addStation ⟨(Nat.le_of_ble_eq_true rfl), (Nat.le_of_ble_eq_true rfl)⟩ (Nat.le_of_ble_eq_true rfl) ⟨(Nat.le_of_ble_eq_true rfl), (Nat.le_of_ble_eq_true rfl)⟩ dL_addStation_5 (fun E5 G5 hx5 => ?_) (fun v5 G5 hp5 => ?_)
  · obtain ⟨rfl, hp1, rfl⟩ := hx5
    refine z_catch (name := "java/lang/IllegalArgumentException") C hT rfl (by decide) kw_822 kn_511 rfl (fun q5 => ?_)
    first | refine z_rstore C dL_addStation_13 (by decide) ?_ | refine z_astore C dL_addStation_13 (by decide) ?_
    refine z_iconst (v := 1) C dL_addStation_15 rfl ?_
    refine z_x F (fun Q F => ?_)
    exact z_iret C F hr (Nat.le_of_ble_eq_true rfl) (Nat.le_of_ble_eq_true rfl) (Or.inl ⟨rfl, hp1, rfl⟩) dL_addStation_16
  · obtain ⟨rfl, hp0, hkp⟩ := hp5
    refine z_i2l C dL_addStation_8 ?_
    refine z_last C (hkp _ _ ho True.intro) (by unfold vp_in; decide) dL_addStation_9 ?_
    refine z_goto (tgt := 21) C dL_addStation_10 (by decide) ?_
    refine z_iconst (v := 0) C dL_addStation_21 rfl ?_
    refine z_x F (fun Q F => ?_)
    exact z_iret C F hr (Nat.le_of_ble_eq_true rfl) (Nat.le_of_ble_eq_true rfl) (Or.inr ⟨rfl, hp0, _, hkp, rfl⟩) dL_addStation_22
abbrev rm_w_setSpeeds : Room := { frames := 7, cells := 1, slots := 6, locals := 113 }
set_option maxHeartbeats 4000000 in
set_option maxRecDepth 100000 in
theorem w_setSpeeds (l : Launch) (hst : l.stackTraces = false) (Γ : zY) (G : zG) {b out : Nat} {f : Nat → Int64} (x0 : Int32) (x1 : Int32) (hC : zC0 Γ G b) (ho : G out = some (zJ Γ 1 f)) : ZH l yL_setSpeeds cL_setSpeeds 5 (some FieldType.int) [(0, 10, 13, 13)] rm_w_setSpeeds Γ [.ref b, .int x0, .int x1, .ref out] G (fun v G' => (some (.int 1) = v ∧ (s_spk x0 x1 = 1) ∧ G = G') ∨ (some (.int 0) = v ∧ (s_spk x0 x1 = 0) ∧ ∃ G1, zKp G G1 ∧ zU G1 out (zJ Γ 1 (vp_updL f (0 : Int32).toNatClampNeg (x0 * 100 / x1 : Int32).toInt64)) = G')) := by
  obtain ⟨ls, lp, le, w, r, q, lo, co, as, ap, ae, alo, hb, hR⟩ := id hC
  refine z_startH (by decide +kernel) [some (.ref b), some (.int x0), some (.int x1), some (.ref out), none] rfl (Nat.le_of_ble_eq_true rfl) ?_
  intro p e s m args below meth c Q A C F hT hr hnm
  first | refine z_rload_n C dL_setSpeeds_0 rfl ?_ | refine z_nload_n C dL_setSpeeds_0 rfl ?_ | refine z_aload_n C dL_setSpeeds_0 rfl ?_
  refine z_iconst (v := 0) C dL_setSpeeds_1 rfl ?_
  first | refine z_rload_n C dL_setSpeeds_2 rfl ?_ | refine z_nload_n C dL_setSpeeds_2 rfl ?_ | refine z_aload_n C dL_setSpeeds_2 rfl ?_
  refine z_iload_n C dL_setSpeeds_3 rfl ?_
  refine z_iload_n C dL_setSpeeds_4 rfl ?_
  refine z_callVX (q := (RX6, TX6, 8)) C (x_setSpeeds l hst Γ G x0 x1 hC) kc_L_setSpeeds_5 (by first | assumption | exact zU_same _ _ _) rfl rfl rfl rfl ky_X6_setSpeeds ⟨(Nat.le_of_ble_eq_true rfl), (Nat.le_of_ble_eq_true rfl)⟩ (Nat.le_of_ble_eq_true rfl) ⟨(Nat.le_of_ble_eq_true rfl), (Nat.le_of_ble_eq_true rfl)⟩ dL_setSpeeds_5 (fun E5 G5 hx5 => ?_) (fun v5 G5 hp5 => ?_)
  · obtain ⟨rfl, hp1, rfl⟩ := hx5
    refine z_catch (name := "java/lang/IllegalArgumentException") C hT rfl (by decide) kw_822 kn_511 rfl (fun q5 => ?_)
    first | refine z_rstore C dL_setSpeeds_13 (by decide) ?_ | refine z_astore C dL_setSpeeds_13 (by decide) ?_
    refine z_iconst (v := 1) C dL_setSpeeds_15 rfl ?_
    refine z_x F (fun Q F => ?_)
    exact z_iret C F hr (Nat.le_of_ble_eq_true rfl) (Nat.le_of_ble_eq_true rfl) (Or.inl ⟨rfl, hp1, rfl⟩) dL_setSpeeds_16
  · obtain ⟨rfl, hp0, hkp⟩ := hp5
    refine z_i2l C dL_setSpeeds_8 ?_
    refine z_last C (hkp _ _ ho True.intro) (by unfold vp_in; decide) dL_setSpeeds_9 ?_
    refine z_goto (tgt := 17) C dL_setSpeeds_10 (by decide) ?_
    refine z_iconst (v := 0) C dL_setSpeeds_17 rfl ?_
    refine z_x F (fun Q F => ?_)
    exact z_iret C F hr (Nat.le_of_ble_eq_true rfl) (Nat.le_of_ble_eq_true rfl) (Or.inr ⟨rfl, hp0, _, hkp, rfl⟩) dL_setSpeeds_18
abbrev rm_w_addEvent : Room := { frames := 9, cells := 3, slots := 44, locals := 212 }
set_option maxHeartbeats 4000000 in
set_option maxRecDepth 100000 in
theorem w_addEvent (l : Launch) (hst : l.stackTraces = false) (Γ : zY) (G : zG) {b out : Nat} {f : Nat → Int64}  (hC : zC0 Γ G b) (ho : G out = some (zJ Γ 1 f)) : ZH l yL_addEvent cL_addEvent 3 (some FieldType.int) [(0, 8, 11, 15)] rm_w_addEvent Γ [.ref b, .ref out] G (fun v G' => (some (.int 1) = v ∧ (False) ∧ G = G') ∨ (some (.int 0) = v ∧ (True) ∧ ∃ G1, zKp G G1 ∧ zU G1 out (zJ Γ 1 (vp_updL f (0 : Int32).toNatClampNeg (0 : Int32).toInt64)) = G')) := by
  obtain ⟨ls, lp, le, w, r, q, lo, co, as, ap, ae, alo, hb, hR⟩ := id hC
  refine z_startH (by decide +kernel) [some (.ref b), some (.ref out), none] rfl (Nat.le_of_ble_eq_true rfl) ?_
  intro p e s m args below meth c Q A C F hT hr hnm
  first | refine z_rload_n C dL_addEvent_0 rfl ?_ | refine z_nload_n C dL_addEvent_0 rfl ?_ | refine z_aload_n C dL_addEvent_0 rfl ?_
  refine z_iconst (v := 0) C dL_addEvent_1 rfl ?_
  first | refine z_rload_n C dL_addEvent_2 rfl ?_ | refine z_nload_n C dL_addEvent_2 rfl ?_ | refine z_aload_n C dL_addEvent_2 rfl ?_
  refine z_callVX (q := (RX6, TX6, 8)) C (x_addEvent l hst Γ G  hC) kc_L_addEvent_3 (by first | assumption | exact zU_same _ _ _) rfl rfl rfl rfl ky_X6_addEvent ⟨(Nat.le_of_ble_eq_true rfl), (Nat.le_of_ble_eq_true rfl)⟩ (Nat.le_of_ble_eq_true rfl) ⟨(Nat.le_of_ble_eq_true rfl), (Nat.le_of_ble_eq_true rfl)⟩ dL_addEvent_3 (fun E3 G3 hx3 => ?_) (fun v3 G3 hp3 => ?_)
  · exact hx3.elim
  · obtain ⟨rfl, hkp⟩ := hp3
    have hp0 := True.intro
    refine z_i2l C dL_addEvent_6 ?_
    refine z_last C (hkp _ _ ho True.intro) (by unfold vp_in; decide) dL_addEvent_7 ?_
    refine z_goto (tgt := 14) C dL_addEvent_8 (by decide) ?_
    refine z_iconst (v := 0) C dL_addEvent_14 rfl ?_
    refine z_x F (fun Q F => ?_)
    exact z_iret C F hr (Nat.le_of_ble_eq_true rfl) (Nat.le_of_ble_eq_true rfl) (Or.inr ⟨rfl, hp0, _, hkp, rfl⟩) dL_addEvent_15
abbrev rm_w_count : Room := { frames := 7, cells := 1, slots := 6, locals := 111 }
set_option maxHeartbeats 4000000 in
set_option maxRecDepth 100000 in
theorem w_count (l : Launch) (hst : l.stackTraces = false) (Γ : zY) (G : zG) {b out : Nat} {f : Nat → Int64} (x0 : Int32) (hC : zC0 Γ G b) (ho : G out = some (zJ Γ 1 f)) : ZH l yL_count cL_count 4 (some FieldType.int) [(0, 9, 12, 20)] rm_w_count Γ [.ref b, .int x0, .ref out] G (fun v G' => (some (.int 1) = v ∧ (s_in x0 0 4 = 0) ∧ G = G') ∨ (some (.int 0) = v ∧ (s_in x0 0 4 = 1) ∧ ∃ G1, zKp G G1 ∧ zU G1 out (zJ Γ 1 (vp_updL f (0 : Int32).toNatClampNeg (0 : Int32).toInt64)) = G')) := by
  obtain ⟨ls, lp, le, w, r, q, lo, co, as, ap, ae, alo, hb, hR⟩ := id hC
  refine z_startH (by decide +kernel) [some (.ref b), some (.int x0), some (.ref out), none] rfl (Nat.le_of_ble_eq_true rfl) ?_
  intro p e s m args below meth c Q A C F hT hr hnm
  first | refine z_rload_n C dL_count_0 rfl ?_ | refine z_nload_n C dL_count_0 rfl ?_ | refine z_aload_n C dL_count_0 rfl ?_
  refine z_iconst (v := 0) C dL_count_1 rfl ?_
  first | refine z_rload_n C dL_count_2 rfl ?_ | refine z_nload_n C dL_count_2 rfl ?_ | refine z_aload_n C dL_count_2 rfl ?_
  refine z_iload_n C dL_count_3 rfl ?_
  refine z_callVX (q := (RX6, TX6, 8)) C (x_count l hst Γ G x0 hC) kc_L_count_4 (by first | assumption | exact zU_same _ _ _) rfl rfl rfl rfl ky_X6_count ⟨(Nat.le_of_ble_eq_true rfl), (Nat.le_of_ble_eq_true rfl)⟩ (Nat.le_of_ble_eq_true rfl) ⟨(Nat.le_of_ble_eq_true rfl), (Nat.le_of_ble_eq_true rfl)⟩ dL_count_4 (fun E4 G4 hx4 => ?_) (fun v4 G4 hp4 => ?_)
  · obtain ⟨rfl, hp1, rfl⟩ := hx4
    refine z_catch (name := "java/lang/IndexOutOfBoundsException") C hT rfl (by decide) kw_874 kn_251 rfl (fun q4 => ?_)
    first | refine z_rstore_n C dL_count_12 (by decide) ?_ | refine z_nstore_n C dL_count_12 (by decide) ?_ | refine z_astore_n C dL_count_12 (by decide) ?_
    refine z_iconst (v := 1) C dL_count_13 rfl ?_
    refine z_x F (fun Q F => ?_)
    exact z_iret C F hr (Nat.le_of_ble_eq_true rfl) (Nat.le_of_ble_eq_true rfl) (Or.inl ⟨rfl, hp1, rfl⟩) dL_count_14
  · obtain ⟨rfl, hp0, rfl⟩ := hp4
    have hkp : zKp G G := zKp.rf
    refine z_i2l C dL_count_7 ?_
    refine z_last C (hkp _ _ ho True.intro) (by unfold vp_in; decide) dL_count_8 ?_
    refine z_goto (tgt := 15) C dL_count_9 (by decide) ?_
    refine z_iconst (v := 0) C dL_count_15 rfl ?_
    refine z_x F (fun Q F => ?_)
    exact z_iret C F hr (Nat.le_of_ble_eq_true rfl) (Nat.le_of_ble_eq_true rfl) (Or.inr ⟨rfl, hp0, _, hkp, rfl⟩) dL_count_16
abbrev rm_w_families : Room := { frames := 8, cells := 1, slots := 6, locals := 136 }
set_option maxHeartbeats 4000000 in
set_option maxRecDepth 100000 in
theorem w_families (l : Launch) (hst : l.stackTraces = false) (Γ : zY) (G : zG) {b out : Nat} {f : Nat → Int64} (x0 : Int32) (x1 : Int32) (hC : zC0 Γ G b) (ho : G out = some (zJ Γ 1 f)) : ZH l yL_families cL_families 5 (some FieldType.int) [(0, 10, 13, 13)] rm_w_families Γ [.ref b, .int x0, .int x1, .ref out] G (fun v G' => (some (.int 1) = v ∧ (s_rng x0 x1 = 0) ∧ G = G') ∨ (some (.int 0) = v ∧ (s_rng x0 x1 = 1) ∧ ∃ G1, zKp G G1 ∧ zU G1 out (zJ Γ 1 (vp_updL f (0 : Int32).toNatClampNeg (0 : Int32).toInt64)) = G')) := by
  obtain ⟨ls, lp, le, w, r, q, lo, co, as, ap, ae, alo, hb, hR⟩ := id hC
  refine z_startH (by decide +kernel) [some (.ref b), some (.int x0), some (.int x1), some (.ref out), none] rfl (Nat.le_of_ble_eq_true rfl) ?_
  intro p e s m args below meth c Q A C F hT hr hnm
  first | refine z_rload_n C dL_families_0 rfl ?_ | refine z_nload_n C dL_families_0 rfl ?_ | refine z_aload_n C dL_families_0 rfl ?_
  refine z_iconst (v := 0) C dL_families_1 rfl ?_
  first | refine z_rload_n C dL_families_2 rfl ?_ | refine z_nload_n C dL_families_2 rfl ?_ | refine z_aload_n C dL_families_2 rfl ?_
  refine z_iload_n C dL_families_3 rfl ?_
  refine z_iload_n C dL_families_4 rfl ?_
  refine z_callVX (q := (RX6, TX6, 8)) C (x_families l hst Γ G x0 x1 hC) kc_L_families_5 (by first | assumption | exact zU_same _ _ _) rfl rfl rfl rfl ky_X6_families ⟨(Nat.le_of_ble_eq_true rfl), (Nat.le_of_ble_eq_true rfl)⟩ (Nat.le_of_ble_eq_true rfl) ⟨(Nat.le_of_ble_eq_true rfl), (Nat.le_of_ble_eq_true rfl)⟩ dL_families_5 (fun E5 G5 hx5 => ?_) (fun v5 G5 hp5 => ?_)
  · obtain ⟨rfl, hp1, rfl⟩ := hx5
    refine z_catch (name := "java/lang/IllegalArgumentException") C hT rfl (by decide) kw_822 kn_511 rfl (fun q5 => ?_)
    first | refine z_rstore C dL_families_13 (by decide) ?_ | refine z_astore C dL_families_13 (by decide) ?_
    refine z_iconst (v := 1) C dL_families_15 rfl ?_
    refine z_x F (fun Q F => ?_)
    exact z_iret C F hr (Nat.le_of_ble_eq_true rfl) (Nat.le_of_ble_eq_true rfl) (Or.inl ⟨rfl, hp1, rfl⟩) dL_families_16
  · obtain ⟨rfl, hp0, rfl⟩ := hp5
    have hkp : zKp G G := zKp.rf
    refine z_i2l C dL_families_8 ?_
    refine z_last C (hkp _ _ ho True.intro) (by unfold vp_in; decide) dL_families_9 ?_
    refine z_goto (tgt := 17) C dL_families_10 (by decide) ?_
    refine z_iconst (v := 0) C dL_families_17 rfl ?_
    refine z_x F (fun Q F => ?_)
    exact z_iret C F hr (Nat.le_of_ble_eq_true rfl) (Nat.le_of_ble_eq_true rfl) (Or.inr ⟨rfl, hp0, _, hkp, rfl⟩) dL_families_18
abbrev rm_w_nearest : Room := { frames := 8, cells := 1, slots := 6, locals := 140 }
set_option maxHeartbeats 4000000 in
set_option maxRecDepth 100000 in
theorem w_nearest (l : Launch) (hst : l.stackTraces = false) (Γ : zY) (G : zG) {b out : Nat} {f : Nat → Int64} (x0 : Int32) (x1 : Int32) (x2 : Int32) (hC : zC0 Γ G b) (ho : G out = some (zJ Γ 1 f)) : ZH l yL_nearest cL_nearest 6 (some FieldType.int) [(0, 12, 15, 13)] rm_w_nearest Γ [.ref b, .int x0, .int x1, .int x2, .ref out] G (fun v G' => (some (.int 1) = v ∧ (s_pl3 x0 x1 x2 = 0) ∧ G = G') ∨ (some (.int 0) = v ∧ (¬ s_pl3 x0 x1 x2 = 0) ∧ ∃ G1, zKp G G1 ∧ zU G1 out (zJ Γ 1 (vp_updL f (0 : Int32).toNatClampNeg (-1 : Int32).toInt64)) = G')) := by
  obtain ⟨ls, lp, le, w, r, q, lo, co, as, ap, ae, alo, hb, hR⟩ := id hC
  refine z_startH (by decide +kernel) [some (.ref b), some (.int x0), some (.int x1), some (.int x2), some (.ref out), none] rfl (Nat.le_of_ble_eq_true rfl) ?_
  intro p e s m args below meth c Q A C F hT hr hnm
  first | refine z_rload C dL_nearest_0 rfl ?_ | refine z_aload C dL_nearest_0 rfl ?_
  refine z_iconst (v := 0) C dL_nearest_2 rfl ?_
  first | refine z_rload_n C dL_nearest_3 rfl ?_ | refine z_nload_n C dL_nearest_3 rfl ?_ | refine z_aload_n C dL_nearest_3 rfl ?_
  refine z_iload_n C dL_nearest_4 rfl ?_
  refine z_iload_n C dL_nearest_5 rfl ?_
  refine z_iload_n C dL_nearest_6 rfl ?_
  refine z_callVX (q := (RX6, TX6, 8)) C (x_nearest l hst Γ G x0 x1 x2 hC) kc_L_nearest_7 (by first | assumption | exact zU_same _ _ _) rfl rfl rfl rfl ky_X6_nearest ⟨(Nat.le_of_ble_eq_true rfl), (Nat.le_of_ble_eq_true rfl)⟩ (Nat.le_of_ble_eq_true rfl) ⟨(Nat.le_of_ble_eq_true rfl), (Nat.le_of_ble_eq_true rfl)⟩ dL_nearest_7 (fun E7 G7 hx7 => ?_) (fun v7 G7 hp7 => ?_)
  · obtain ⟨rfl, hp1, rfl⟩ := hx7
    refine z_catch (name := "java/lang/IllegalArgumentException") C hT rfl (by decide) kw_822 kn_511 rfl (fun q7 => ?_)
    first | refine z_rstore C dL_nearest_15 (by decide) ?_ | refine z_astore C dL_nearest_15 (by decide) ?_
    refine z_iconst (v := 1) C dL_nearest_17 rfl ?_
    refine z_x F (fun Q F => ?_)
    exact z_iret C F hr (Nat.le_of_ble_eq_true rfl) (Nat.le_of_ble_eq_true rfl) (Or.inl ⟨rfl, hp1, rfl⟩) dL_nearest_18
  · obtain ⟨rfl, hp0, rfl⟩ := hp7
    have hkp : zKp G G := zKp.rf
    refine z_i2l C dL_nearest_10 ?_
    refine z_last C (hkp _ _ ho True.intro) (by unfold vp_in; decide) dL_nearest_11 ?_
    refine z_goto (tgt := 19) C dL_nearest_12 (by decide) ?_
    refine z_iconst (v := 0) C dL_nearest_19 rfl ?_
    refine z_x F (fun Q F => ?_)
    exact z_iret C F hr (Nat.le_of_ble_eq_true rfl) (Nat.le_of_ble_eq_true rfl) (Or.inr ⟨rfl, hp0, _, hkp, rfl⟩) dL_nearest_20

