theorem dX6_stationAt_0 : decode cX6_stationAt 0 = .ok (.iload_n 1, 1) := by decide +kernel
theorem dX6_stationAt_1 : decode cX6_stationAt 1 = .ok (.ifCond .lt 14, 3) := by decide +kernel
theorem dX6_stationAt_4 : decode cX6_stationAt 4 = .ok (.iload_n 1, 1) := by decide +kernel
theorem dX6_stationAt_5 : decode cX6_stationAt 5 = .ok (.aload_n 0, 1) := by decide +kernel
theorem dX6_stationAt_6 : decode cX6_stationAt 6 = .ok (.getfield 10, 3) := by decide +kernel
theorem dX6_stationAt_9 : decode cX6_stationAt 9 = .ok (.invokevirtual 62, 3) := by decide +kernel
theorem dX6_stationAt_12 : decode cX6_stationAt 12 = .ok (.if_icmp .lt 14, 3) := by decide +kernel
theorem dX6_stationAt_15 : decode cX6_stationAt 15 = .ok (.new 165, 3) := by decide +kernel
theorem dX6_stationAt_18 : decode cX6_stationAt 18 = .ok (.dup, 1) := by decide +kernel
theorem dX6_stationAt_19 : decode cX6_stationAt 19 = .ok (.ldc_w 318, 3) := by decide +kernel
theorem dX6_stationAt_22 : decode cX6_stationAt 22 = .ok (.invokespecial 169, 3) := by decide +kernel
theorem dX6_stationAt_25 : decode cX6_stationAt 25 = .ok (.athrow, 1) := by decide +kernel
theorem dX6_stationAt_26 : decode cX6_stationAt 26 = .ok (.aload_n 0, 1) := by decide +kernel
theorem dX6_stationAt_27 : decode cX6_stationAt 27 = .ok (.getfield 10, 3) := by decide +kernel
theorem dX6_stationAt_30 : decode cX6_stationAt 30 = .ok (.iload_n 1, 1) := by decide +kernel
theorem dX6_stationAt_31 : decode cX6_stationAt 31 = .ok (.invokevirtual 90, 3) := by decide +kernel
theorem dX6_stationAt_34 : decode cX6_stationAt 34 = .ok (.checkcast 71, 3) := by decide +kernel
theorem dX6_stationAt_37 : decode cX6_stationAt 37 = .ok (.areturn, 1) := by decide +kernel
theorem zt_X6_stationAt_15 : zThrow "QuakeBench" "java/lang/IndexOutOfBoundsException" "no such station" ["java/lang/RuntimeException", "java/lang/Exception"] 165 318 169 := ⟨by decide +kernel, by decide +kernel, by decide +kernel, by decide +kernel, by decide +kernel, by decide +kernel⟩
theorem kc_X6_stationAt_9 : ∀ w ∈ ([Cond.methodLink "QuakeBench" 62 yJx4a65c_size_8abf5, Cond.instanceMethod yJx4a65c_size_8abf5, Cond.selects "java/util/ArrayList" yJx4a65c_size_8abf5 yJx4a65c_size_8abf5, Cond.initialized "java/util/ArrayList", Cond.code yJx4a65c_size_8abf5 prog_35_method_8_code 1 (Option.some Jvm.ClassFile.FieldType.int)] : List Cond), w ∈ lw_all := zin [222, 223, 224, 57, 225] (by decide +kernel)
theorem dX6_pickAt_0 : decode cX6_pickAt 0 = .ok (.iload_n 1, 1) := by decide +kernel
theorem dX6_pickAt_1 : decode cX6_pickAt 1 = .ok (.ifCond .lt 14, 3) := by decide +kernel
theorem dX6_pickAt_4 : decode cX6_pickAt 4 = .ok (.iload_n 1, 1) := by decide +kernel
theorem dX6_pickAt_5 : decode cX6_pickAt 5 = .ok (.aload_n 0, 1) := by decide +kernel
theorem dX6_pickAt_6 : decode cX6_pickAt 6 = .ok (.getfield 16, 3) := by decide +kernel
theorem dX6_pickAt_9 : decode cX6_pickAt 9 = .ok (.invokevirtual 62, 3) := by decide +kernel
theorem dX6_pickAt_12 : decode cX6_pickAt 12 = .ok (.if_icmp .lt 14, 3) := by decide +kernel
theorem dX6_pickAt_15 : decode cX6_pickAt 15 = .ok (.new 165, 3) := by decide +kernel
theorem dX6_pickAt_18 : decode cX6_pickAt 18 = .ok (.dup, 1) := by decide +kernel
theorem dX6_pickAt_19 : decode cX6_pickAt 19 = .ok (.ldc_w 320, 3) := by decide +kernel
theorem dX6_pickAt_22 : decode cX6_pickAt 22 = .ok (.invokespecial 169, 3) := by decide +kernel
theorem dX6_pickAt_25 : decode cX6_pickAt 25 = .ok (.athrow, 1) := by decide +kernel
theorem dX6_pickAt_26 : decode cX6_pickAt 26 = .ok (.aload_n 0, 1) := by decide +kernel
theorem dX6_pickAt_27 : decode cX6_pickAt 27 = .ok (.getfield 16, 3) := by decide +kernel
theorem dX6_pickAt_30 : decode cX6_pickAt 30 = .ok (.iload_n 1, 1) := by decide +kernel
theorem dX6_pickAt_31 : decode cX6_pickAt 31 = .ok (.invokevirtual 90, 3) := by decide +kernel
theorem dX6_pickAt_34 : decode cX6_pickAt 34 = .ok (.checkcast 130, 3) := by decide +kernel
theorem dX6_pickAt_37 : decode cX6_pickAt 37 = .ok (.areturn, 1) := by decide +kernel
theorem zt_X6_pickAt_15 : zThrow "QuakeBench" "java/lang/IndexOutOfBoundsException" "no such pick" ["java/lang/RuntimeException", "java/lang/Exception"] 165 320 169 := ⟨by decide +kernel, by decide +kernel, by decide +kernel, by decide +kernel, by decide +kernel, by decide +kernel⟩
theorem kc_X6_pickAt_9 : ∀ w ∈ ([Cond.methodLink "QuakeBench" 62 yJx4a65c_size_8abf5, Cond.instanceMethod yJx4a65c_size_8abf5, Cond.selects "java/util/ArrayList" yJx4a65c_size_8abf5 yJx4a65c_size_8abf5, Cond.initialized "java/util/ArrayList", Cond.code yJx4a65c_size_8abf5 prog_35_method_8_code 1 (Option.some Jvm.ClassFile.FieldType.int)] : List Cond), w ∈ lw_all := zin [222, 223, 224, 57, 225] (by decide +kernel)
theorem dX6_eventAt_0 : decode cX6_eventAt 0 = .ok (.iload_n 1, 1) := by decide +kernel
theorem dX6_eventAt_1 : decode cX6_eventAt 1 = .ok (.ifCond .lt 14, 3) := by decide +kernel
theorem dX6_eventAt_4 : decode cX6_eventAt 4 = .ok (.iload_n 1, 1) := by decide +kernel
theorem dX6_eventAt_5 : decode cX6_eventAt 5 = .ok (.aload_n 0, 1) := by decide +kernel
theorem dX6_eventAt_6 : decode cX6_eventAt 6 = .ok (.getfield 19, 3) := by decide +kernel
theorem dX6_eventAt_9 : decode cX6_eventAt 9 = .ok (.invokevirtual 62, 3) := by decide +kernel
theorem dX6_eventAt_12 : decode cX6_eventAt 12 = .ok (.if_icmp .lt 14, 3) := by decide +kernel
theorem dX6_eventAt_15 : decode cX6_eventAt 15 = .ok (.new 165, 3) := by decide +kernel
theorem dX6_eventAt_18 : decode cX6_eventAt 18 = .ok (.dup, 1) := by decide +kernel
theorem dX6_eventAt_19 : decode cX6_eventAt 19 = .ok (.ldc_w 322, 3) := by decide +kernel
theorem dX6_eventAt_22 : decode cX6_eventAt 22 = .ok (.invokespecial 169, 3) := by decide +kernel
theorem dX6_eventAt_25 : decode cX6_eventAt 25 = .ok (.athrow, 1) := by decide +kernel
theorem dX6_eventAt_26 : decode cX6_eventAt 26 = .ok (.aload_n 0, 1) := by decide +kernel
theorem dX6_eventAt_27 : decode cX6_eventAt 27 = .ok (.getfield 19, 3) := by decide +kernel
theorem dX6_eventAt_30 : decode cX6_eventAt 30 = .ok (.iload_n 1, 1) := by decide +kernel
theorem dX6_eventAt_31 : decode cX6_eventAt 31 = .ok (.invokevirtual 90, 3) := by decide +kernel
theorem dX6_eventAt_34 : decode cX6_eventAt 34 = .ok (.checkcast 94, 3) := by decide +kernel
theorem dX6_eventAt_37 : decode cX6_eventAt 37 = .ok (.areturn, 1) := by decide +kernel
theorem zt_X6_eventAt_15 : zThrow "QuakeBench" "java/lang/IndexOutOfBoundsException" "no such event" ["java/lang/RuntimeException", "java/lang/Exception"] 165 322 169 := ⟨by decide +kernel, by decide +kernel, by decide +kernel, by decide +kernel, by decide +kernel, by decide +kernel⟩
theorem kc_X6_eventAt_9 : ∀ w ∈ ([Cond.methodLink "QuakeBench" 62 yJx4a65c_size_8abf5, Cond.instanceMethod yJx4a65c_size_8abf5, Cond.selects "java/util/ArrayList" yJx4a65c_size_8abf5 yJx4a65c_size_8abf5, Cond.initialized "java/util/ArrayList", Cond.code yJx4a65c_size_8abf5 prog_35_method_8_code 1 (Option.some Jvm.ClassFile.FieldType.int)] : List Cond), w ∈ lw_all := zin [222, 223, 224, 57, 225] (by decide +kernel)
theorem dX6_setDelay_0 : decode cX6_setDelay 0 = .ok (.aload_n 0, 1) := by decide +kernel
theorem dX6_setDelay_1 : decode cX6_setDelay 1 = .ok (.iload_n 1, 1) := by decide +kernel
theorem dX6_setDelay_2 : decode cX6_setDelay 2 = .ok (.invokevirtual 80, 3) := by decide +kernel
theorem dX6_setDelay_5 : decode cX6_setDelay 5 = .ok (.astore_n 3, 1) := by decide +kernel
theorem dX6_setDelay_6 : decode cX6_setDelay 6 = .ok (.iload_n 2, 1) := by decide +kernel
theorem dX6_setDelay_7 : decode cX6_setDelay 7 = .ok (.sipush (-2000), 3) := by decide +kernel
theorem dX6_setDelay_10 : decode cX6_setDelay 10 = .ok (.if_icmp .lt 10, 3) := by decide +kernel
theorem dX6_setDelay_13 : decode cX6_setDelay 13 = .ok (.iload_n 2, 1) := by decide +kernel
theorem dX6_setDelay_14 : decode cX6_setDelay 14 = .ok (.sipush 2000, 3) := by decide +kernel
theorem dX6_setDelay_17 : decode cX6_setDelay 17 = .ok (.if_icmp .le 13, 3) := by decide +kernel
theorem dX6_setDelay_20 : decode cX6_setDelay 20 = .ok (.new 55, 3) := by decide +kernel
theorem dX6_setDelay_23 : decode cX6_setDelay 23 = .ok (.dup, 1) := by decide +kernel
theorem dX6_setDelay_24 : decode cX6_setDelay 24 = .ok (.ldc 84, 2) := by decide +kernel
theorem dX6_setDelay_26 : decode cX6_setDelay 26 = .ok (.invokespecial 59, 3) := by decide +kernel
theorem dX6_setDelay_29 : decode cX6_setDelay 29 = .ok (.athrow, 1) := by decide +kernel
theorem dX6_setDelay_30 : decode cX6_setDelay 30 = .ok (.aload_n 3, 1) := by decide +kernel
theorem dX6_setDelay_31 : decode cX6_setDelay 31 = .ok (.getfield 86, 3) := by decide +kernel
theorem dX6_setDelay_34 : decode cX6_setDelay 34 = .ok (.istore 4, 2) := by decide +kernel
theorem dX6_setDelay_36 : decode cX6_setDelay 36 = .ok (.aload_n 3, 1) := by decide +kernel
theorem dX6_setDelay_37 : decode cX6_setDelay 37 = .ok (.iload_n 2, 1) := by decide +kernel
theorem dX6_setDelay_38 : decode cX6_setDelay 38 = .ok (.putfield 86, 3) := by decide +kernel
theorem dX6_setDelay_41 : decode cX6_setDelay 41 = .ok (.iconst 0, 1) := by decide +kernel
theorem dX6_setDelay_42 : decode cX6_setDelay 42 = .ok (.istore 5, 2) := by decide +kernel
theorem dX6_setDelay_44 : decode cX6_setDelay 44 = .ok (.iload 5, 2) := by decide +kernel
theorem dX6_setDelay_46 : decode cX6_setDelay 46 = .ok (.aload_n 0, 1) := by decide +kernel
theorem dX6_setDelay_47 : decode cX6_setDelay 47 = .ok (.getfield 19, 3) := by decide +kernel
theorem dX6_setDelay_50 : decode cX6_setDelay 50 = .ok (.invokevirtual 62, 3) := by decide +kernel
theorem dX6_setDelay_53 : decode cX6_setDelay 53 = .ok (.if_icmp .ge 38, 3) := by decide +kernel
theorem dX6_setDelay_56 : decode cX6_setDelay 56 = .ok (.aload_n 0, 1) := by decide +kernel
theorem dX6_setDelay_57 : decode cX6_setDelay 57 = .ok (.getfield 19, 3) := by decide +kernel
theorem dX6_setDelay_60 : decode cX6_setDelay 60 = .ok (.iload 5, 2) := by decide +kernel
theorem dX6_setDelay_62 : decode cX6_setDelay 62 = .ok (.invokevirtual 90, 3) := by decide +kernel
theorem dX6_setDelay_65 : decode cX6_setDelay 65 = .ok (.checkcast 94, 3) := by decide +kernel
theorem dX6_setDelay_68 : decode cX6_setDelay 68 = .ok (.astore 6, 2) := by decide +kernel
theorem dX6_setDelay_70 : decode cX6_setDelay 70 = .ok (.aload 6, 2) := by decide +kernel
theorem dX6_setDelay_72 : decode cX6_setDelay 72 = .ok (.aload_n 3, 1) := by decide +kernel
theorem dX6_setDelay_73 : decode cX6_setDelay 73 = .ok (.invokevirtual 96, 3) := by decide +kernel
theorem dX6_setDelay_76 : decode cX6_setDelay 76 = .ok (.ifCond .eq 9, 3) := by decide +kernel
theorem dX6_setDelay_79 : decode cX6_setDelay 79 = .ok (.aload 6, 2) := by decide +kernel
theorem dX6_setDelay_81 : decode cX6_setDelay 81 = .ok (.iconst 0, 1) := by decide +kernel
theorem dX6_setDelay_82 : decode cX6_setDelay 82 = .ok (.putfield 100, 3) := by decide +kernel
theorem dX6_setDelay_85 : decode cX6_setDelay 85 = .ok (.iinc 5 1, 3) := by decide +kernel
theorem dX6_setDelay_88 : decode cX6_setDelay 88 = .ok (.goto (-44), 3) := by decide +kernel
theorem dX6_setDelay_91 : decode cX6_setDelay 91 = .ok (.iload 4, 2) := by decide +kernel
theorem dX6_setDelay_93 : decode cX6_setDelay 93 = .ok (.ireturn, 1) := by decide +kernel
theorem ky_X6_stationAt : yX6_stationAt.cls ≠ "java/lang/invoke/MethodHandle" ∧ yX6_stationAt.cls ≠ "java/lang/invoke/VarHandle" ∧ (parseMethodDescriptor yX6_stationAt.desc).map (fun d => d.parameters.length) = some 1 := by decide +kernel
theorem kc_X6_setDelay_2 : ∀ w ∈ ([Cond.methodLink "QuakeBench" 80 yX6_stationAt, Cond.instanceMethod yX6_stationAt, Cond.selects "QuakeBench" yX6_stationAt yX6_stationAt, Cond.initialized "QuakeBench", Cond.code yX6_stationAt prog_1_method_31_code 2 (Option.some (Jvm.ClassFile.FieldType.object "QuakeBench$Station"))] : List Cond), w ∈ lw_all := zin [879, 881, 19, 54, 882] (by decide +kernel)
theorem dX6_way_0 : decode cX6_way 0 = .ok (.aload_n 0, 1) := by decide +kernel
theorem dX6_way_1 : decode cX6_way 1 = .ok (.iload_n 1, 1) := by decide +kernel
theorem dX6_way_2 : decode cX6_way 2 = .ok (.invokevirtual 80, 3) := by decide +kernel
theorem dX6_way_5 : decode cX6_way 5 = .ok (.astore 5, 2) := by decide +kernel
theorem dX6_way_7 : decode cX6_way 7 = .ok (.iload_n 2, 1) := by decide +kernel
theorem dX6_way_8 : decode cX6_way 8 = .ok (.iload_n 3, 1) := by decide +kernel
theorem dX6_way_9 : decode cX6_way 9 = .ok (.iload 4, 2) := by decide +kernel
theorem dX6_way_11 : decode cX6_way 11 = .ok (.invokestatic 114, 3) := by decide +kernel
theorem dX6_way_14 : decode cX6_way 14 = .ok (.aload 5, 2) := by decide +kernel
theorem dX6_way_16 : decode cX6_way 16 = .ok (.iload_n 2, 1) := by decide +kernel
theorem dX6_way_17 : decode cX6_way 17 = .ok (.iload_n 3, 1) := by decide +kernel
theorem dX6_way_18 : decode cX6_way 18 = .ok (.iload 4, 2) := by decide +kernel
theorem dX6_way_20 : decode cX6_way 20 = .ok (.invokevirtual 117, 3) := by decide +kernel
theorem dX6_way_23 : decode cX6_way 23 = .ok (.ireturn, 1) := by decide +kernel
theorem kc_X6_way_2 : ∀ w ∈ ([Cond.methodLink "QuakeBench" 80 yX6_stationAt, Cond.instanceMethod yX6_stationAt, Cond.selects "QuakeBench" yX6_stationAt yX6_stationAt, Cond.initialized "QuakeBench", Cond.code yX6_stationAt prog_1_method_31_code 2 (Option.some (Jvm.ClassFile.FieldType.object "QuakeBench$Station"))] : List Cond), w ∈ lw_all := zin [879, 881, 19, 54, 882] (by decide +kernel)
theorem dX6_needs_0 : decode cX6_needs 0 = .ok (.aload_n 0, 1) := by decide +kernel
theorem dX6_needs_1 : decode cX6_needs 1 = .ok (.iload_n 1, 1) := by decide +kernel
theorem dX6_needs_2 : decode cX6_needs 2 = .ok (.invokevirtual 80, 3) := by decide +kernel
theorem dX6_needs_5 : decode cX6_needs 5 = .ok (.astore 6, 2) := by decide +kernel
theorem dX6_needs_7 : decode cX6_needs 7 = .ok (.iload_n 2, 1) := by decide +kernel
theorem dX6_needs_8 : decode cX6_needs 8 = .ok (.iload_n 3, 1) := by decide +kernel
theorem dX6_needs_9 : decode cX6_needs 9 = .ok (.iload 4, 2) := by decide +kernel
theorem dX6_needs_11 : decode cX6_needs 11 = .ok (.invokestatic 114, 3) := by decide +kernel
theorem dX6_needs_14 : decode cX6_needs 14 = .ok (.aload_n 0, 1) := by decide +kernel
theorem dX6_needs_15 : decode cX6_needs 15 = .ok (.getfield 25, 3) := by decide +kernel
theorem dX6_needs_18 : decode cX6_needs 18 = .ok (.aload 6, 2) := by decide +kernel
theorem dX6_needs_20 : decode cX6_needs 20 = .ok (.iload_n 2, 1) := by decide +kernel
theorem dX6_needs_21 : decode cX6_needs 21 = .ok (.iload_n 3, 1) := by decide +kernel
theorem dX6_needs_22 : decode cX6_needs 22 = .ok (.iload 4, 2) := by decide +kernel
theorem dX6_needs_24 : decode cX6_needs 24 = .ok (.iload 5, 2) := by decide +kernel
theorem dX6_needs_26 : decode cX6_needs 26 = .ok (.invokevirtual 121, 3) := by decide +kernel
theorem dX6_needs_29 : decode cX6_needs 29 = .ok (.ireturn, 1) := by decide +kernel
theorem kc_X6_needs_2 : ∀ w ∈ ([Cond.methodLink "QuakeBench" 80 yX6_stationAt, Cond.instanceMethod yX6_stationAt, Cond.selects "QuakeBench" yX6_stationAt yX6_stationAt, Cond.initialized "QuakeBench", Cond.code yX6_stationAt prog_1_method_31_code 2 (Option.some (Jvm.ClassFile.FieldType.object "QuakeBench$Station"))] : List Cond), w ∈ lw_all := zin [879, 881, 19, 54, 882] (by decide +kernel)
theorem dX6_addPick_0 : decode cX6_addPick 0 = .ok (.aload_n 0, 1) := by decide +kernel
theorem dX6_addPick_1 : decode cX6_addPick 1 = .ok (.iload_n 1, 1) := by decide +kernel
theorem dX6_addPick_2 : decode cX6_addPick 2 = .ok (.invokevirtual 80, 3) := by decide +kernel
theorem dX6_addPick_5 : decode cX6_addPick 5 = .ok (.astore 4, 2) := by decide +kernel
theorem dX6_addPick_7 : decode cX6_addPick 7 = .ok (.iload_n 3, 1) := by decide +kernel
theorem dX6_addPick_8 : decode cX6_addPick 8 = .ok (.ifCond .lt 9, 3) := by decide +kernel
theorem dX6_addPick_11 : decode cX6_addPick 11 = .ok (.iload_n 3, 1) := by decide +kernel
theorem dX6_addPick_12 : decode cX6_addPick 12 = .ok (.ldc 125, 2) := by decide +kernel
theorem dX6_addPick_14 : decode cX6_addPick 14 = .ok (.if_icmp .le 13, 3) := by decide +kernel
theorem dX6_addPick_17 : decode cX6_addPick 17 = .ok (.new 55, 3) := by decide +kernel
theorem dX6_addPick_20 : decode cX6_addPick 20 = .ok (.dup, 1) := by decide +kernel
theorem dX6_addPick_21 : decode cX6_addPick 21 = .ok (.ldc 126, 2) := by decide +kernel
theorem dX6_addPick_23 : decode cX6_addPick 23 = .ok (.invokespecial 59, 3) := by decide +kernel
theorem dX6_addPick_26 : decode cX6_addPick 26 = .ok (.athrow, 1) := by decide +kernel
theorem dX6_addPick_27 : decode cX6_addPick 27 = .ok (.aload_n 0, 1) := by decide +kernel
theorem dX6_addPick_28 : decode cX6_addPick 28 = .ok (.getfield 16, 3) := by decide +kernel
theorem dX6_addPick_31 : decode cX6_addPick 31 = .ok (.invokevirtual 62, 3) := by decide +kernel
theorem dX6_addPick_34 : decode cX6_addPick 34 = .ok (.bipush 80, 2) := by decide +kernel
theorem dX6_addPick_36 : decode cX6_addPick 36 = .ok (.if_icmp .lt 13, 3) := by decide +kernel
theorem dX6_addPick_39 : decode cX6_addPick 39 = .ok (.new 66, 3) := by decide +kernel
theorem dX6_addPick_42 : decode cX6_addPick 42 = .ok (.dup, 1) := by decide +kernel
theorem dX6_addPick_43 : decode cX6_addPick 43 = .ok (.ldc 128, 2) := by decide +kernel
theorem dX6_addPick_45 : decode cX6_addPick 45 = .ok (.invokespecial 70, 3) := by decide +kernel
theorem dX6_addPick_48 : decode cX6_addPick 48 = .ok (.athrow, 1) := by decide +kernel
theorem dX6_addPick_49 : decode cX6_addPick 49 = .ok (.aload_n 0, 1) := by decide +kernel
theorem dX6_addPick_50 : decode cX6_addPick 50 = .ok (.getfield 16, 3) := by decide +kernel
theorem dX6_addPick_53 : decode cX6_addPick 53 = .ok (.invokevirtual 62, 3) := by decide +kernel
theorem dX6_addPick_56 : decode cX6_addPick 56 = .ok (.istore 5, 2) := by decide +kernel
theorem dX6_addPick_58 : decode cX6_addPick 58 = .ok (.aload_n 0, 1) := by decide +kernel
theorem dX6_addPick_59 : decode cX6_addPick 59 = .ok (.getfield 16, 3) := by decide +kernel
theorem dX6_addPick_62 : decode cX6_addPick 62 = .ok (.new 130, 3) := by decide +kernel
theorem dX6_addPick_65 : decode cX6_addPick 65 = .ok (.dup, 1) := by decide +kernel
theorem dX6_addPick_66 : decode cX6_addPick 66 = .ok (.iload 5, 2) := by decide +kernel
theorem dX6_addPick_68 : decode cX6_addPick 68 = .ok (.aload 4, 2) := by decide +kernel
theorem dX6_addPick_70 : decode cX6_addPick 70 = .ok (.iload_n 2, 1) := by decide +kernel
theorem dX6_addPick_71 : decode cX6_addPick 71 = .ok (.iload_n 3, 1) := by decide +kernel
theorem dX6_addPick_72 : decode cX6_addPick 72 = .ok (.invokespecial 132, 3) := by decide +kernel
theorem dX6_addPick_75 : decode cX6_addPick 75 = .ok (.invokevirtual 76, 3) := by decide +kernel
theorem dX6_addPick_78 : decode cX6_addPick 78 = .ok (.pop, 1) := by decide +kernel
theorem dX6_addPick_79 : decode cX6_addPick 79 = .ok (.iload 5, 2) := by decide +kernel
theorem dX6_addPick_81 : decode cX6_addPick 81 = .ok (.ireturn, 1) := by decide +kernel
theorem kc_X6_addPick_2 : ∀ w ∈ ([Cond.methodLink "QuakeBench" 80 yX6_stationAt, Cond.instanceMethod yX6_stationAt, Cond.selects "QuakeBench" yX6_stationAt yX6_stationAt, Cond.initialized "QuakeBench", Cond.code yX6_stationAt prog_1_method_31_code 2 (Option.some (Jvm.ClassFile.FieldType.object "QuakeBench$Station"))] : List Cond), w ∈ lw_all := zin [879, 881, 19, 54, 882] (by decide +kernel)
theorem dX6_setWeight_0 : decode cX6_setWeight 0 = .ok (.aload_n 0, 1) := by decide +kernel
theorem dX6_setWeight_1 : decode cX6_setWeight 1 = .ok (.iload_n 1, 1) := by decide +kernel
theorem dX6_setWeight_2 : decode cX6_setWeight 2 = .ok (.invokevirtual 135, 3) := by decide +kernel
theorem dX6_setWeight_5 : decode cX6_setWeight 5 = .ok (.astore_n 3, 1) := by decide +kernel
theorem dX6_setWeight_6 : decode cX6_setWeight 6 = .ok (.iload_n 2, 1) := by decide +kernel
theorem dX6_setWeight_7 : decode cX6_setWeight 7 = .ok (.iconst 1, 1) := by decide +kernel
theorem dX6_setWeight_8 : decode cX6_setWeight 8 = .ok (.if_icmp .lt 8, 3) := by decide +kernel
theorem dX6_setWeight_11 : decode cX6_setWeight 11 = .ok (.iload_n 2, 1) := by decide +kernel
theorem dX6_setWeight_12 : decode cX6_setWeight 12 = .ok (.iconst 4, 1) := by decide +kernel
theorem dX6_setWeight_13 : decode cX6_setWeight 13 = .ok (.if_icmp .le 13, 3) := by decide +kernel
theorem dX6_setWeight_16 : decode cX6_setWeight 16 = .ok (.new 55, 3) := by decide +kernel
theorem dX6_setWeight_19 : decode cX6_setWeight 19 = .ok (.dup, 1) := by decide +kernel
theorem dX6_setWeight_20 : decode cX6_setWeight 20 = .ok (.ldc 139, 2) := by decide +kernel
theorem dX6_setWeight_22 : decode cX6_setWeight 22 = .ok (.invokespecial 59, 3) := by decide +kernel
theorem dX6_setWeight_25 : decode cX6_setWeight 25 = .ok (.athrow, 1) := by decide +kernel
theorem dX6_setWeight_26 : decode cX6_setWeight 26 = .ok (.aload_n 3, 1) := by decide +kernel
theorem dX6_setWeight_27 : decode cX6_setWeight 27 = .ok (.getfield 141, 3) := by decide +kernel
theorem dX6_setWeight_30 : decode cX6_setWeight 30 = .ok (.istore 4, 2) := by decide +kernel
theorem dX6_setWeight_32 : decode cX6_setWeight 32 = .ok (.aload_n 3, 1) := by decide +kernel
theorem dX6_setWeight_33 : decode cX6_setWeight 33 = .ok (.iload_n 2, 1) := by decide +kernel
theorem dX6_setWeight_34 : decode cX6_setWeight 34 = .ok (.putfield 141, 3) := by decide +kernel
theorem dX6_setWeight_37 : decode cX6_setWeight 37 = .ok (.aload_n 3, 1) := by decide +kernel
theorem dX6_setWeight_38 : decode cX6_setWeight 38 = .ok (.getfield 144, 3) := by decide +kernel
theorem dX6_setWeight_41 : decode cX6_setWeight 41 = .ok (.ifnull 11, 3) := by decide +kernel
theorem dX6_setWeight_44 : decode cX6_setWeight 44 = .ok (.aload_n 3, 1) := by decide +kernel
theorem dX6_setWeight_45 : decode cX6_setWeight 45 = .ok (.getfield 144, 3) := by decide +kernel
theorem dX6_setWeight_48 : decode cX6_setWeight 48 = .ok (.iconst 0, 1) := by decide +kernel
theorem dX6_setWeight_49 : decode cX6_setWeight 49 = .ok (.putfield 100, 3) := by decide +kernel
theorem dX6_setWeight_52 : decode cX6_setWeight 52 = .ok (.iload 4, 2) := by decide +kernel
theorem dX6_setWeight_54 : decode cX6_setWeight 54 = .ok (.ireturn, 1) := by decide +kernel
theorem ky_X6_pickAt : yX6_pickAt.cls ≠ "java/lang/invoke/MethodHandle" ∧ yX6_pickAt.cls ≠ "java/lang/invoke/VarHandle" ∧ (parseMethodDescriptor yX6_pickAt.desc).map (fun d => d.parameters.length) = some 1 := by decide +kernel
theorem kc_X6_setWeight_2 : ∀ w ∈ ([Cond.methodLink "QuakeBench" 135 yX6_pickAt, Cond.instanceMethod yX6_pickAt, Cond.selects "QuakeBench" yX6_pickAt yX6_pickAt, Cond.initialized "QuakeBench", Cond.code yX6_pickAt prog_1_method_32_code 2 (Option.some (Jvm.ClassFile.FieldType.object "QuakeBench$Pick"))] : List Cond), w ∈ lw_all := zin [978, 980, 20, 54, 981] (by decide +kernel)
theorem dX6_pick_0 : decode cX6_pick 0 = .ok (.aload_n 0, 1) := by decide +kernel
theorem dX6_pick_1 : decode cX6_pick 1 = .ok (.iload_n 1, 1) := by decide +kernel
theorem dX6_pick_2 : decode cX6_pick 2 = .ok (.invokevirtual 135, 3) := by decide +kernel
theorem dX6_pick_5 : decode cX6_pick 5 = .ok (.astore_n 3, 1) := by decide +kernel
theorem dX6_pick_6 : decode cX6_pick 6 = .ok (.iload_n 2, 1) := by decide +kernel
theorem dX6_pick_7 : decode cX6_pick 7 = .ok (.tableswitch 72 0 4 #[33, 41, 54, 59, 64], 33) := by decide +kernel
theorem dX6_pick_40 : decode cX6_pick 40 = .ok (.aload_n 3, 1) := by decide +kernel
theorem dX6_pick_41 : decode cX6_pick 41 = .ok (.getfield 148, 3) := by decide +kernel
theorem dX6_pick_44 : decode cX6_pick 44 = .ok (.getfield 152, 3) := by decide +kernel
theorem dX6_pick_47 : decode cX6_pick 47 = .ok (.ireturn, 1) := by decide +kernel
theorem dX6_pick_48 : decode cX6_pick 48 = .ok (.aload_n 3, 1) := by decide +kernel
theorem dX6_pick_49 : decode cX6_pick 49 = .ok (.getfield 155, 3) := by decide +kernel
theorem dX6_pick_52 : decode cX6_pick 52 = .ok (.ifCond .eq 7, 3) := by decide +kernel
theorem dX6_pick_55 : decode cX6_pick 55 = .ok (.iconst 1, 1) := by decide +kernel
theorem dX6_pick_56 : decode cX6_pick 56 = .ok (.goto 4, 3) := by decide +kernel
theorem dX6_pick_59 : decode cX6_pick 59 = .ok (.iconst 0, 1) := by decide +kernel
theorem dX6_pick_60 : decode cX6_pick 60 = .ok (.ireturn, 1) := by decide +kernel
theorem dX6_pick_61 : decode cX6_pick 61 = .ok (.aload_n 3, 1) := by decide +kernel
theorem dX6_pick_62 : decode cX6_pick 62 = .ok (.getfield 158, 3) := by decide +kernel
theorem dX6_pick_65 : decode cX6_pick 65 = .ok (.ireturn, 1) := by decide +kernel
theorem dX6_pick_66 : decode cX6_pick 66 = .ok (.aload_n 3, 1) := by decide +kernel
theorem dX6_pick_67 : decode cX6_pick 67 = .ok (.getfield 141, 3) := by decide +kernel
theorem dX6_pick_70 : decode cX6_pick 70 = .ok (.ireturn, 1) := by decide +kernel
theorem dX6_pick_71 : decode cX6_pick 71 = .ok (.aload_n 3, 1) := by decide +kernel
theorem dX6_pick_72 : decode cX6_pick 72 = .ok (.getfield 144, 3) := by decide +kernel
theorem dX6_pick_75 : decode cX6_pick 75 = .ok (.invokestatic 161, 3) := by decide +kernel
theorem dX6_pick_78 : decode cX6_pick 78 = .ok (.ireturn, 1) := by decide +kernel
theorem dX6_pick_79 : decode cX6_pick 79 = .ok (.new 165, 3) := by decide +kernel
theorem dX6_pick_82 : decode cX6_pick 82 = .ok (.dup, 1) := by decide +kernel
theorem dX6_pick_83 : decode cX6_pick 83 = .ok (.ldc 167, 2) := by decide +kernel
theorem dX6_pick_85 : decode cX6_pick 85 = .ok (.invokespecial 169, 3) := by decide +kernel
theorem dX6_pick_88 : decode cX6_pick 88 = .ok (.athrow, 1) := by decide +kernel
theorem kc_X6_pick_2 : ∀ w ∈ ([Cond.methodLink "QuakeBench" 135 yX6_pickAt, Cond.instanceMethod yX6_pickAt, Cond.selects "QuakeBench" yX6_pickAt yX6_pickAt, Cond.initialized "QuakeBench", Cond.code yX6_pickAt prog_1_method_32_code 2 (Option.some (Jvm.ClassFile.FieldType.object "QuakeBench$Pick"))] : List Cond), w ∈ lw_all := zin [978, 980, 20, 54, 981] (by decide +kernel)
theorem dX6_give_0 : decode cX6_give 0 = .ok (.aload_n 0, 1) := by decide +kernel
theorem dX6_give_1 : decode cX6_give 1 = .ok (.iload_n 1, 1) := by decide +kernel
theorem dX6_give_2 : decode cX6_give 2 = .ok (.invokevirtual 135, 3) := by decide +kernel
theorem dX6_give_5 : decode cX6_give 5 = .ok (.astore_n 3, 1) := by decide +kernel
theorem dX6_give_6 : decode cX6_give 6 = .ok (.iload_n 2, 1) := by decide +kernel
theorem dX6_give_7 : decode cX6_give 7 = .ok (.iconst (-1), 1) := by decide +kernel
theorem dX6_give_8 : decode cX6_give 8 = .ok (.if_icmp .ne 7, 3) := by decide +kernel
theorem dX6_give_11 : decode cX6_give 11 = .ok (.aconst_null, 1) := by decide +kernel
theorem dX6_give_12 : decode cX6_give 12 = .ok (.goto 8, 3) := by decide +kernel
theorem dX6_give_15 : decode cX6_give 15 = .ok (.aload_n 0, 1) := by decide +kernel
theorem dX6_give_16 : decode cX6_give 16 = .ok (.iload_n 2, 1) := by decide +kernel
theorem dX6_give_17 : decode cX6_give 17 = .ok (.invokevirtual 177, 3) := by decide +kernel
theorem dX6_give_20 : decode cX6_give 20 = .ok (.astore 4, 2) := by decide +kernel
theorem dX6_give_22 : decode cX6_give 22 = .ok (.aload 4, 2) := by decide +kernel
theorem dX6_give_24 : decode cX6_give 24 = .ok (.ifnull 22, 3) := by decide +kernel
theorem dX6_give_27 : decode cX6_give 27 = .ok (.aload 4, 2) := by decide +kernel
theorem dX6_give_29 : decode cX6_give 29 = .ok (.aload_n 3, 1) := by decide +kernel
theorem dX6_give_30 : decode cX6_give 30 = .ok (.invokevirtual 181, 3) := by decide +kernel
theorem dX6_give_33 : decode cX6_give 33 = .ok (.ifCond .eq 13, 3) := by decide +kernel
theorem dX6_give_36 : decode cX6_give 36 = .ok (.new 66, 3) := by decide +kernel
theorem dX6_give_39 : decode cX6_give 39 = .ok (.dup, 1) := by decide +kernel
theorem dX6_give_40 : decode cX6_give 40 = .ok (.ldc 185, 2) := by decide +kernel
theorem dX6_give_42 : decode cX6_give 42 = .ok (.invokespecial 70, 3) := by decide +kernel
theorem dX6_give_45 : decode cX6_give 45 = .ok (.athrow, 1) := by decide +kernel
theorem dX6_give_46 : decode cX6_give 46 = .ok (.aload_n 3, 1) := by decide +kernel
theorem dX6_give_47 : decode cX6_give 47 = .ok (.getfield 144, 3) := by decide +kernel
theorem dX6_give_50 : decode cX6_give 50 = .ok (.astore 5, 2) := by decide +kernel
theorem dX6_give_52 : decode cX6_give 52 = .ok (.aload 5, 2) := by decide +kernel
theorem dX6_give_54 : decode cX6_give 54 = .ok (.ifnull 15, 3) := by decide +kernel
theorem dX6_give_57 : decode cX6_give 57 = .ok (.aload 5, 2) := by decide +kernel
theorem dX6_give_59 : decode cX6_give 59 = .ok (.aload_n 3, 1) := by decide +kernel
theorem dX6_give_60 : decode cX6_give 60 = .ok (.invokevirtual 187, 3) := by decide +kernel
theorem dX6_give_63 : decode cX6_give 63 = .ok (.aload 5, 2) := by decide +kernel
theorem dX6_give_65 : decode cX6_give 65 = .ok (.iconst 0, 1) := by decide +kernel
theorem dX6_give_66 : decode cX6_give 66 = .ok (.putfield 100, 3) := by decide +kernel
theorem dX6_give_69 : decode cX6_give 69 = .ok (.aload 4, 2) := by decide +kernel
theorem dX6_give_71 : decode cX6_give 71 = .ok (.ifnull 15, 3) := by decide +kernel
theorem dX6_give_74 : decode cX6_give 74 = .ok (.aload 4, 2) := by decide +kernel
theorem dX6_give_76 : decode cX6_give 76 = .ok (.aload_n 3, 1) := by decide +kernel
theorem dX6_give_77 : decode cX6_give 77 = .ok (.invokevirtual 191, 3) := by decide +kernel
theorem dX6_give_80 : decode cX6_give 80 = .ok (.aload 4, 2) := by decide +kernel
theorem dX6_give_82 : decode cX6_give 82 = .ok (.iconst 0, 1) := by decide +kernel
theorem dX6_give_83 : decode cX6_give 83 = .ok (.putfield 100, 3) := by decide +kernel
theorem dX6_give_86 : decode cX6_give 86 = .ok (.aload 5, 2) := by decide +kernel
theorem dX6_give_88 : decode cX6_give 88 = .ok (.invokestatic 161, 3) := by decide +kernel
theorem dX6_give_91 : decode cX6_give 91 = .ok (.ireturn, 1) := by decide +kernel
theorem kc_X6_give_2 : ∀ w ∈ ([Cond.methodLink "QuakeBench" 135 yX6_pickAt, Cond.instanceMethod yX6_pickAt, Cond.selects "QuakeBench" yX6_pickAt yX6_pickAt, Cond.initialized "QuakeBench", Cond.code yX6_pickAt prog_1_method_32_code 2 (Option.some (Jvm.ClassFile.FieldType.object "QuakeBench$Pick"))] : List Cond), w ∈ lw_all := zin [978, 980, 20, 54, 981] (by decide +kernel)
theorem dX6_seek_0 : decode cX6_seek 0 = .ok (.aload_n 0, 1) := by decide +kernel
theorem dX6_seek_1 : decode cX6_seek 1 = .ok (.iload_n 1, 1) := by decide +kernel
theorem dX6_seek_2 : decode cX6_seek 2 = .ok (.invokevirtual 177, 3) := by decide +kernel
theorem dX6_seek_5 : decode cX6_seek 5 = .ok (.astore_n 2, 1) := by decide +kernel
theorem dX6_seek_6 : decode cX6_seek 6 = .ok (.aload_n 2, 1) := by decide +kernel
theorem dX6_seek_7 : decode cX6_seek 7 = .ok (.invokevirtual 218, 3) := by decide +kernel
theorem dX6_seek_10 : decode cX6_seek 10 = .ok (.iconst 3, 1) := by decide +kernel
theorem dX6_seek_11 : decode cX6_seek 11 = .ok (.if_icmp .ge 13, 3) := by decide +kernel
theorem dX6_seek_14 : decode cX6_seek 14 = .ok (.new 66, 3) := by decide +kernel
theorem dX6_seek_17 : decode cX6_seek 17 = .ok (.dup, 1) := by decide +kernel
theorem dX6_seek_18 : decode cX6_seek 18 = .ok (.ldc 221, 2) := by decide +kernel
theorem dX6_seek_20 : decode cX6_seek 20 = .ok (.invokespecial 70, 3) := by decide +kernel
theorem dX6_seek_23 : decode cX6_seek 23 = .ok (.athrow, 1) := by decide +kernel
theorem dX6_seek_24 : decode cX6_seek 24 = .ok (.aload_n 0, 1) := by decide +kernel
theorem dX6_seek_25 : decode cX6_seek 25 = .ok (.getfield 41, 3) := by decide +kernel
theorem dX6_seek_28 : decode cX6_seek 28 = .ok (.aload_n 2, 1) := by decide +kernel
theorem dX6_seek_29 : decode cX6_seek 29 = .ok (.invokevirtual 208, 3) := by decide +kernel
theorem dX6_seek_32 : decode cX6_seek 32 = .ok (.lreturn, 1) := by decide +kernel
theorem ky_X6_eventAt : yX6_eventAt.cls ≠ "java/lang/invoke/MethodHandle" ∧ yX6_eventAt.cls ≠ "java/lang/invoke/VarHandle" ∧ (parseMethodDescriptor yX6_eventAt.desc).map (fun d => d.parameters.length) = some 1 := by decide +kernel
theorem kc_X6_seek_2 : ∀ w ∈ ([Cond.methodLink "QuakeBench" 177 yX6_eventAt, Cond.instanceMethod yX6_eventAt, Cond.selects "QuakeBench" yX6_eventAt yX6_eventAt, Cond.initialized "QuakeBench", Cond.code yX6_eventAt prog_1_method_33_code 2 (Option.some (Jvm.ClassFile.FieldType.object "QuakeBench$Event"))] : List Cond), w ∈ lw_all := zin [1007, 1009, 21, 54, 1010] (by decide +kernel)
theorem dX6_event_0 : decode cX6_event 0 = .ok (.aload_n 0, 1) := by decide +kernel
theorem dX6_event_1 : decode cX6_event 1 = .ok (.iload_n 1, 1) := by decide +kernel
theorem dX6_event_2 : decode cX6_event 2 = .ok (.invokevirtual 177, 3) := by decide +kernel
theorem dX6_event_5 : decode cX6_event 5 = .ok (.astore_n 3, 1) := by decide +kernel
theorem dX6_event_6 : decode cX6_event 6 = .ok (.iload_n 2, 1) := by decide +kernel
theorem dX6_event_7 : decode cX6_event 7 = .ok (.ifCond .lt 8, 3) := by decide +kernel
theorem dX6_event_10 : decode cX6_event 10 = .ok (.iload_n 2, 1) := by decide +kernel
theorem dX6_event_11 : decode cX6_event 11 = .ok (.iconst 5, 1) := by decide +kernel
theorem dX6_event_12 : decode cX6_event 12 = .ok (.if_icmp .le 13, 3) := by decide +kernel
theorem dX6_event_15 : decode cX6_event 15 = .ok (.new 165, 3) := by decide +kernel
theorem dX6_event_18 : decode cX6_event 18 = .ok (.dup, 1) := by decide +kernel
theorem dX6_event_19 : decode cX6_event 19 = .ok (.ldc 223, 2) := by decide +kernel
theorem dX6_event_21 : decode cX6_event 21 = .ok (.invokespecial 169, 3) := by decide +kernel
theorem dX6_event_24 : decode cX6_event 24 = .ok (.athrow, 1) := by decide +kernel
theorem dX6_event_25 : decode cX6_event 25 = .ok (.iload_n 2, 1) := by decide +kernel
theorem dX6_event_26 : decode cX6_event 26 = .ok (.iconst 3, 1) := by decide +kernel
theorem dX6_event_27 : decode cX6_event 27 = .ok (.if_icmp .gt 7, 3) := by decide +kernel
theorem dX6_event_30 : decode cX6_event 30 = .ok (.aload_n 3, 1) := by decide +kernel
theorem dX6_event_31 : decode cX6_event 31 = .ok (.invokestatic 225, 3) := by decide +kernel
theorem dX6_event_34 : decode cX6_event 34 = .ok (.iload_n 2, 1) := by decide +kernel
theorem dX6_event_35 : decode cX6_event 35 = .ok (.tableswitch 61 0 4 #[33, 38, 43, 48, 53], 33) := by decide +kernel
theorem dX6_event_68 : decode cX6_event 68 = .ok (.aload_n 3, 1) := by decide +kernel
theorem dX6_event_69 : decode cX6_event 69 = .ok (.getfield 229, 3) := by decide +kernel
theorem dX6_event_72 : decode cX6_event 72 = .ok (.ireturn, 1) := by decide +kernel
theorem dX6_event_73 : decode cX6_event 73 = .ok (.aload_n 3, 1) := by decide +kernel
theorem dX6_event_74 : decode cX6_event 74 = .ok (.getfield 232, 3) := by decide +kernel
theorem dX6_event_77 : decode cX6_event 77 = .ok (.ireturn, 1) := by decide +kernel
theorem dX6_event_78 : decode cX6_event 78 = .ok (.aload_n 3, 1) := by decide +kernel
theorem dX6_event_79 : decode cX6_event 79 = .ok (.getfield 235, 3) := by decide +kernel
theorem dX6_event_82 : decode cX6_event 82 = .ok (.ireturn, 1) := by decide +kernel
theorem dX6_event_83 : decode cX6_event 83 = .ok (.aload_n 3, 1) := by decide +kernel
theorem dX6_event_84 : decode cX6_event 84 = .ok (.getfield 238, 3) := by decide +kernel
theorem dX6_event_87 : decode cX6_event 87 = .ok (.ireturn, 1) := by decide +kernel
theorem dX6_event_88 : decode cX6_event 88 = .ok (.aload_n 3, 1) := by decide +kernel
theorem dX6_event_89 : decode cX6_event 89 = .ok (.getfield 239, 3) := by decide +kernel
theorem dX6_event_92 : decode cX6_event 92 = .ok (.invokevirtual 62, 3) := by decide +kernel
theorem dX6_event_95 : decode cX6_event 95 = .ok (.ireturn, 1) := by decide +kernel
theorem dX6_event_96 : decode cX6_event 96 = .ok (.aload_n 3, 1) := by decide +kernel
theorem dX6_event_97 : decode cX6_event 97 = .ok (.invokevirtual 218, 3) := by decide +kernel
theorem dX6_event_100 : decode cX6_event 100 = .ok (.ireturn, 1) := by decide +kernel
theorem kc_X6_event_2 : ∀ w ∈ ([Cond.methodLink "QuakeBench" 177 yX6_eventAt, Cond.instanceMethod yX6_eventAt, Cond.selects "QuakeBench" yX6_eventAt yX6_eventAt, Cond.initialized "QuakeBench", Cond.code yX6_eventAt prog_1_method_33_code 2 (Option.some (Jvm.ClassFile.FieldType.object "QuakeBench$Event"))] : List Cond), w ∈ lw_all := zin [1007, 1009, 21, 54, 1010] (by decide +kernel)
theorem dX6_misfit_0 : decode cX6_misfit 0 = .ok (.aload_n 0, 1) := by decide +kernel
theorem dX6_misfit_1 : decode cX6_misfit 1 = .ok (.iload_n 1, 1) := by decide +kernel
theorem dX6_misfit_2 : decode cX6_misfit 2 = .ok (.invokevirtual 177, 3) := by decide +kernel
theorem dX6_misfit_5 : decode cX6_misfit 5 = .ok (.astore 5, 2) := by decide +kernel
theorem dX6_misfit_7 : decode cX6_misfit 7 = .ok (.iload_n 2, 1) := by decide +kernel
theorem dX6_misfit_8 : decode cX6_misfit 8 = .ok (.iload_n 3, 1) := by decide +kernel
theorem dX6_misfit_9 : decode cX6_misfit 9 = .ok (.iload 4, 2) := by decide +kernel
theorem dX6_misfit_11 : decode cX6_misfit 11 = .ok (.invokestatic 114, 3) := by decide +kernel
theorem dX6_misfit_14 : decode cX6_misfit 14 = .ok (.aload_n 0, 1) := by decide +kernel
theorem dX6_misfit_15 : decode cX6_misfit 15 = .ok (.getfield 41, 3) := by decide +kernel
theorem dX6_misfit_18 : decode cX6_misfit 18 = .ok (.aload 5, 2) := by decide +kernel
theorem dX6_misfit_20 : decode cX6_misfit 20 = .ok (.iload_n 2, 1) := by decide +kernel
theorem dX6_misfit_21 : decode cX6_misfit 21 = .ok (.iload_n 3, 1) := by decide +kernel
theorem dX6_misfit_22 : decode cX6_misfit 22 = .ok (.iload 4, 2) := by decide +kernel
theorem dX6_misfit_24 : decode cX6_misfit 24 = .ok (.invokevirtual 242, 3) := by decide +kernel
theorem dX6_misfit_27 : decode cX6_misfit 27 = .ok (.aload_n 0, 1) := by decide +kernel
theorem dX6_misfit_28 : decode cX6_misfit 28 = .ok (.getfield 32, 3) := by decide +kernel
theorem dX6_misfit_31 : decode cX6_misfit 31 = .ok (.aload_n 0, 1) := by decide +kernel
theorem dX6_misfit_32 : decode cX6_misfit 32 = .ok (.getfield 32, 3) := by decide +kernel
theorem dX6_misfit_35 : decode cX6_misfit 35 = .ok (.invokevirtual 246, 3) := by decide +kernel
theorem dX6_misfit_38 : decode cX6_misfit 38 = .ok (.invokevirtual 249, 3) := by decide +kernel
theorem dX6_misfit_41 : decode cX6_misfit 41 = .ok (.lreturn, 1) := by decide +kernel
theorem kc_X6_misfit_2 : ∀ w ∈ ([Cond.methodLink "QuakeBench" 177 yX6_eventAt, Cond.instanceMethod yX6_eventAt, Cond.selects "QuakeBench" yX6_eventAt yX6_eventAt, Cond.initialized "QuakeBench", Cond.code yX6_eventAt prog_1_method_33_code 2 (Option.some (Jvm.ClassFile.FieldType.object "QuakeBench$Event"))] : List Cond), w ∈ lw_all := zin [1007, 1009, 21, 54, 1010] (by decide +kernel)
theorem dX6_residual_0 : decode cX6_residual 0 = .ok (.aload_n 0, 1) := by decide +kernel
theorem dX6_residual_1 : decode cX6_residual 1 = .ok (.iload_n 1, 1) := by decide +kernel
theorem dX6_residual_2 : decode cX6_residual 2 = .ok (.invokevirtual 135, 3) := by decide +kernel
theorem dX6_residual_5 : decode cX6_residual 5 = .ok (.astore_n 2, 1) := by decide +kernel
theorem dX6_residual_6 : decode cX6_residual 6 = .ok (.aload_n 2, 1) := by decide +kernel
theorem dX6_residual_7 : decode cX6_residual 7 = .ok (.getfield 144, 3) := by decide +kernel
theorem dX6_residual_10 : decode cX6_residual 10 = .ok (.astore_n 3, 1) := by decide +kernel
theorem dX6_residual_11 : decode cX6_residual 11 = .ok (.aload_n 3, 1) := by decide +kernel
theorem dX6_residual_12 : decode cX6_residual 12 = .ok (.ifnonnull 13, 3) := by decide +kernel
theorem dX6_residual_15 : decode cX6_residual 15 = .ok (.new 66, 3) := by decide +kernel
theorem dX6_residual_18 : decode cX6_residual 18 = .ok (.dup, 1) := by decide +kernel
theorem dX6_residual_19 : decode cX6_residual 19 = .ok (.ldc 253, 2) := by decide +kernel
theorem dX6_residual_21 : decode cX6_residual 21 = .ok (.invokespecial 70, 3) := by decide +kernel
theorem dX6_residual_24 : decode cX6_residual 24 = .ok (.athrow, 1) := by decide +kernel
theorem dX6_residual_25 : decode cX6_residual 25 = .ok (.aload_n 3, 1) := by decide +kernel
theorem dX6_residual_26 : decode cX6_residual 26 = .ok (.invokestatic 225, 3) := by decide +kernel
theorem dX6_residual_29 : decode cX6_residual 29 = .ok (.aload_n 0, 1) := by decide +kernel
theorem dX6_residual_30 : decode cX6_residual 30 = .ok (.getfield 25, 3) := by decide +kernel
theorem dX6_residual_33 : decode cX6_residual 33 = .ok (.aload_n 2, 1) := by decide +kernel
theorem dX6_residual_34 : decode cX6_residual 34 = .ok (.aload_n 3, 1) := by decide +kernel
theorem dX6_residual_35 : decode cX6_residual 35 = .ok (.invokevirtual 255, 3) := by decide +kernel
theorem dX6_residual_38 : decode cX6_residual 38 = .ok (.ireturn, 1) := by decide +kernel
theorem kc_X6_residual_2 : ∀ w ∈ ([Cond.methodLink "QuakeBench" 135 yX6_pickAt, Cond.instanceMethod yX6_pickAt, Cond.selects "QuakeBench" yX6_pickAt yX6_pickAt, Cond.initialized "QuakeBench", Cond.code yX6_pickAt prog_1_method_32_code 2 (Option.some (Jvm.ClassFile.FieldType.object "QuakeBench$Pick"))] : List Cond), w ∈ lw_all := zin [978, 980, 20, 54, 981] (by decide +kernel)
theorem dX6_worst_0 : decode cX6_worst 0 = .ok (.aload_n 0, 1) := by decide +kernel
theorem dX6_worst_1 : decode cX6_worst 1 = .ok (.iload_n 1, 1) := by decide +kernel
theorem dX6_worst_2 : decode cX6_worst 2 = .ok (.invokevirtual 177, 3) := by decide +kernel
theorem dX6_worst_5 : decode cX6_worst 5 = .ok (.astore_n 2, 1) := by decide +kernel
theorem dX6_worst_6 : decode cX6_worst 6 = .ok (.aload_n 2, 1) := by decide +kernel
theorem dX6_worst_7 : decode cX6_worst 7 = .ok (.invokestatic 225, 3) := by decide +kernel
theorem dX6_worst_10 : decode cX6_worst 10 = .ok (.iconst (-1), 1) := by decide +kernel
theorem dX6_worst_11 : decode cX6_worst 11 = .ok (.istore_n 3, 1) := by decide +kernel
theorem dX6_worst_12 : decode cX6_worst 12 = .ok (.iconst (-1), 1) := by decide +kernel
theorem dX6_worst_13 : decode cX6_worst 13 = .ok (.istore 4, 2) := by decide +kernel
theorem dX6_worst_15 : decode cX6_worst 15 = .ok (.iconst 0, 1) := by decide +kernel
theorem dX6_worst_16 : decode cX6_worst 16 = .ok (.istore 5, 2) := by decide +kernel
theorem dX6_worst_18 : decode cX6_worst 18 = .ok (.iload 5, 2) := by decide +kernel
theorem dX6_worst_20 : decode cX6_worst 20 = .ok (.aload_n 2, 1) := by decide +kernel
theorem dX6_worst_21 : decode cX6_worst 21 = .ok (.getfield 239, 3) := by decide +kernel
theorem dX6_worst_24 : decode cX6_worst 24 = .ok (.invokevirtual 62, 3) := by decide +kernel
theorem dX6_worst_27 : decode cX6_worst 27 = .ok (.if_icmp .ge 71, 3) := by decide +kernel
theorem dX6_worst_30 : decode cX6_worst 30 = .ok (.aload_n 2, 1) := by decide +kernel
theorem dX6_worst_31 : decode cX6_worst 31 = .ok (.getfield 239, 3) := by decide +kernel
theorem dX6_worst_34 : decode cX6_worst 34 = .ok (.iload 5, 2) := by decide +kernel
theorem dX6_worst_36 : decode cX6_worst 36 = .ok (.invokevirtual 90, 3) := by decide +kernel
theorem dX6_worst_39 : decode cX6_worst 39 = .ok (.checkcast 130, 3) := by decide +kernel
theorem dX6_worst_42 : decode cX6_worst 42 = .ok (.astore 6, 2) := by decide +kernel
theorem dX6_worst_44 : decode cX6_worst 44 = .ok (.aload_n 0, 1) := by decide +kernel
theorem dX6_worst_45 : decode cX6_worst 45 = .ok (.getfield 25, 3) := by decide +kernel
theorem dX6_worst_48 : decode cX6_worst 48 = .ok (.aload 6, 2) := by decide +kernel
theorem dX6_worst_50 : decode cX6_worst 50 = .ok (.aload_n 2, 1) := by decide +kernel
theorem dX6_worst_51 : decode cX6_worst 51 = .ok (.invokevirtual 255, 3) := by decide +kernel
theorem dX6_worst_54 : decode cX6_worst 54 = .ok (.invokestatic 259, 3) := by decide +kernel
theorem dX6_worst_57 : decode cX6_worst 57 = .ok (.istore 7, 2) := by decide +kernel
theorem dX6_worst_59 : decode cX6_worst 59 = .ok (.iload 7, 2) := by decide +kernel
theorem dX6_worst_61 : decode cX6_worst 61 = .ok (.iload 4, 2) := by decide +kernel
theorem dX6_worst_63 : decode cX6_worst 63 = .ok (.if_icmp .gt 19, 3) := by decide +kernel
theorem dX6_worst_66 : decode cX6_worst 66 = .ok (.iload 7, 2) := by decide +kernel
theorem dX6_worst_68 : decode cX6_worst 68 = .ok (.iload 4, 2) := by decide +kernel
theorem dX6_worst_70 : decode cX6_worst 70 = .ok (.if_icmp .ne 22, 3) := by decide +kernel
theorem dX6_worst_73 : decode cX6_worst 73 = .ok (.aload 6, 2) := by decide +kernel
theorem dX6_worst_75 : decode cX6_worst 75 = .ok (.getfield 265, 3) := by decide +kernel
theorem dX6_worst_78 : decode cX6_worst 78 = .ok (.iload_n 3, 1) := by decide +kernel
theorem dX6_worst_79 : decode cX6_worst 79 = .ok (.if_icmp .ge 13, 3) := by decide +kernel
theorem dX6_worst_82 : decode cX6_worst 82 = .ok (.iload 7, 2) := by decide +kernel
theorem dX6_worst_84 : decode cX6_worst 84 = .ok (.istore 4, 2) := by decide +kernel
theorem dX6_worst_86 : decode cX6_worst 86 = .ok (.aload 6, 2) := by decide +kernel
theorem dX6_worst_88 : decode cX6_worst 88 = .ok (.getfield 265, 3) := by decide +kernel
theorem dX6_worst_91 : decode cX6_worst 91 = .ok (.istore_n 3, 1) := by decide +kernel
theorem dX6_worst_92 : decode cX6_worst 92 = .ok (.iinc 5 1, 3) := by decide +kernel
theorem dX6_worst_95 : decode cX6_worst 95 = .ok (.goto (-77), 3) := by decide +kernel
theorem dX6_worst_98 : decode cX6_worst 98 = .ok (.iload_n 3, 1) := by decide +kernel
theorem dX6_worst_99 : decode cX6_worst 99 = .ok (.ireturn, 1) := by decide +kernel
theorem kc_X6_worst_2 : ∀ w ∈ ([Cond.methodLink "QuakeBench" 177 yX6_eventAt, Cond.instanceMethod yX6_eventAt, Cond.selects "QuakeBench" yX6_eventAt yX6_eventAt, Cond.initialized "QuakeBench", Cond.code yX6_eventAt prog_1_method_33_code 2 (Option.some (Jvm.ClassFile.FieldType.object "QuakeBench$Event"))] : List Cond), w ∈ lw_all := zin [1007, 1009, 21, 54, 1010] (by decide +kernel)
theorem dX6_spread_0 : decode cX6_spread 0 = .ok (.aload_n 0, 1) := by decide +kernel
theorem dX6_spread_1 : decode cX6_spread 1 = .ok (.iload_n 1, 1) := by decide +kernel
theorem dX6_spread_2 : decode cX6_spread 2 = .ok (.invokevirtual 177, 3) := by decide +kernel
theorem dX6_spread_5 : decode cX6_spread 5 = .ok (.astore_n 2, 1) := by decide +kernel
theorem dX6_spread_6 : decode cX6_spread 6 = .ok (.aload_n 2, 1) := by decide +kernel
theorem dX6_spread_7 : decode cX6_spread 7 = .ok (.invokestatic 225, 3) := by decide +kernel
theorem dX6_spread_10 : decode cX6_spread 10 = .ok (.aload_n 0, 1) := by decide +kernel
theorem dX6_spread_11 : decode cX6_spread 11 = .ok (.getfield 41, 3) := by decide +kernel
theorem dX6_spread_14 : decode cX6_spread 14 = .ok (.aload_n 2, 1) := by decide +kernel
theorem dX6_spread_15 : decode cX6_spread 15 = .ok (.aload_n 2, 1) := by decide +kernel
theorem dX6_spread_16 : decode cX6_spread 16 = .ok (.getfield 229, 3) := by decide +kernel
theorem dX6_spread_19 : decode cX6_spread 19 = .ok (.aload_n 2, 1) := by decide +kernel
theorem dX6_spread_20 : decode cX6_spread 20 = .ok (.getfield 232, 3) := by decide +kernel
theorem dX6_spread_23 : decode cX6_spread 23 = .ok (.aload_n 2, 1) := by decide +kernel
theorem dX6_spread_24 : decode cX6_spread 24 = .ok (.getfield 235, 3) := by decide +kernel
theorem dX6_spread_27 : decode cX6_spread 27 = .ok (.invokevirtual 242, 3) := by decide +kernel
theorem dX6_spread_30 : decode cX6_spread 30 = .ok (.aload_n 0, 1) := by decide +kernel
theorem dX6_spread_31 : decode cX6_spread 31 = .ok (.getfield 32, 3) := by decide +kernel
theorem dX6_spread_34 : decode cX6_spread 34 = .ok (.getfield 266, 3) := by decide +kernel
theorem dX6_spread_37 : decode cX6_spread 37 = .ok (.ifCond .le 27, 3) := by decide +kernel
theorem dX6_spread_40 : decode cX6_spread 40 = .ok (.aload_n 0, 1) := by decide +kernel
theorem dX6_spread_41 : decode cX6_spread 41 = .ok (.getfield 32, 3) := by decide +kernel
theorem dX6_spread_44 : decode cX6_spread 44 = .ok (.aload_n 2, 1) := by decide +kernel
theorem dX6_spread_45 : decode cX6_spread 45 = .ok (.getfield 238, 3) := by decide +kernel
theorem dX6_spread_48 : decode cX6_spread 48 = .ok (.invokevirtual 249, 3) := by decide +kernel
theorem dX6_spread_51 : decode cX6_spread 51 = .ok (.l2d, 1) := by decide +kernel
theorem dX6_spread_52 : decode cX6_spread 52 = .ok (.aload_n 0, 1) := by decide +kernel
theorem dX6_spread_53 : decode cX6_spread 53 = .ok (.getfield 32, 3) := by decide +kernel
theorem dX6_spread_56 : decode cX6_spread 56 = .ok (.getfield 266, 3) := by decide +kernel
theorem dX6_spread_59 : decode cX6_spread 59 = .ok (.i2d, 1) := by decide +kernel
theorem dX6_spread_60 : decode cX6_spread 60 = .ok (.ddiv, 1) := by decide +kernel
theorem dX6_spread_61 : decode cX6_spread 61 = .ok (.goto 4, 3) := by decide +kernel
theorem dX6_spread_64 : decode cX6_spread 64 = .ok (.dconst 0, 1) := by decide +kernel
theorem dX6_spread_65 : decode cX6_spread 65 = .ok (.dreturn, 1) := by decide +kernel
theorem kc_X6_spread_2 : ∀ w ∈ ([Cond.methodLink "QuakeBench" 177 yX6_eventAt, Cond.instanceMethod yX6_eventAt, Cond.selects "QuakeBench" yX6_eventAt yX6_eventAt, Cond.initialized "QuakeBench", Cond.code yX6_eventAt prog_1_method_33_code 2 (Option.some (Jvm.ClassFile.FieldType.object "QuakeBench$Event"))] : List Cond), w ∈ lw_all := zin [1007, 1009, 21, 54, 1010] (by decide +kernel)
theorem dX6_gap_0 : decode cX6_gap 0 = .ok (.aload_n 0, 1) := by decide +kernel
theorem dX6_gap_1 : decode cX6_gap 1 = .ok (.iload_n 1, 1) := by decide +kernel
theorem dX6_gap_2 : decode cX6_gap 2 = .ok (.invokevirtual 177, 3) := by decide +kernel
theorem dX6_gap_5 : decode cX6_gap 5 = .ok (.astore_n 2, 1) := by decide +kernel
theorem dX6_gap_6 : decode cX6_gap 6 = .ok (.aload_n 2, 1) := by decide +kernel
theorem dX6_gap_7 : decode cX6_gap 7 = .ok (.invokestatic 225, 3) := by decide +kernel
theorem dX6_gap_10 : decode cX6_gap 10 = .ok (.aload_n 0, 1) := by decide +kernel
theorem dX6_gap_11 : decode cX6_gap 11 = .ok (.aload_n 2, 1) := by decide +kernel
theorem dX6_gap_12 : decode cX6_gap 12 = .ok (.invokevirtual 269, 3) := by decide +kernel
theorem dX6_gap_15 : decode cX6_gap 15 = .ok (.ireturn, 1) := by decide +kernel
theorem kc_X6_gap_2 : ∀ w ∈ ([Cond.methodLink "QuakeBench" 177 yX6_eventAt, Cond.instanceMethod yX6_eventAt, Cond.selects "QuakeBench" yX6_eventAt yX6_eventAt, Cond.initialized "QuakeBench", Cond.code yX6_eventAt prog_1_method_33_code 2 (Option.some (Jvm.ClassFile.FieldType.object "QuakeBench$Event"))] : List Cond), w ∈ lw_all := zin [1007, 1009, 21, 54, 1010] (by decide +kernel)
theorem dX6_setAmplitude_0 : decode cX6_setAmplitude 0 = .ok (.aload_n 0, 1) := by decide +kernel
theorem dX6_setAmplitude_1 : decode cX6_setAmplitude 1 = .ok (.iload_n 1, 1) := by decide +kernel
theorem dX6_setAmplitude_2 : decode cX6_setAmplitude 2 = .ok (.invokevirtual 135, 3) := by decide +kernel
theorem dX6_setAmplitude_5 : decode cX6_setAmplitude 5 = .ok (.astore_n 3, 1) := by decide +kernel
theorem dX6_setAmplitude_6 : decode cX6_setAmplitude 6 = .ok (.iload_n 2, 1) := by decide +kernel
theorem dX6_setAmplitude_7 : decode cX6_setAmplitude 7 = .ok (.iconst 1, 1) := by decide +kernel
theorem dX6_setAmplitude_8 : decode cX6_setAmplitude 8 = .ok (.if_icmp .lt 10, 3) := by decide +kernel
theorem dX6_setAmplitude_11 : decode cX6_setAmplitude 11 = .ok (.iload_n 2, 1) := by decide +kernel
theorem dX6_setAmplitude_12 : decode cX6_setAmplitude 12 = .ok (.ldc_w 272, 3) := by decide +kernel
theorem dX6_setAmplitude_15 : decode cX6_setAmplitude 15 = .ok (.if_icmp .le 14, 3) := by decide +kernel
theorem dX6_setAmplitude_18 : decode cX6_setAmplitude 18 = .ok (.new 55, 3) := by decide +kernel
theorem dX6_setAmplitude_21 : decode cX6_setAmplitude 21 = .ok (.dup, 1) := by decide +kernel
theorem dX6_setAmplitude_22 : decode cX6_setAmplitude 22 = .ok (.ldc_w 273, 3) := by decide +kernel
theorem dX6_setAmplitude_25 : decode cX6_setAmplitude 25 = .ok (.invokespecial 59, 3) := by decide +kernel
theorem dX6_setAmplitude_28 : decode cX6_setAmplitude 28 = .ok (.athrow, 1) := by decide +kernel
theorem dX6_setAmplitude_29 : decode cX6_setAmplitude 29 = .ok (.aload_n 3, 1) := by decide +kernel
theorem dX6_setAmplitude_30 : decode cX6_setAmplitude 30 = .ok (.getfield 275, 3) := by decide +kernel
theorem dX6_setAmplitude_33 : decode cX6_setAmplitude 33 = .ok (.istore 4, 2) := by decide +kernel
theorem dX6_setAmplitude_35 : decode cX6_setAmplitude 35 = .ok (.aload_n 3, 1) := by decide +kernel
theorem dX6_setAmplitude_36 : decode cX6_setAmplitude 36 = .ok (.iload_n 2, 1) := by decide +kernel
theorem dX6_setAmplitude_37 : decode cX6_setAmplitude 37 = .ok (.putfield 275, 3) := by decide +kernel
theorem dX6_setAmplitude_40 : decode cX6_setAmplitude 40 = .ok (.iload 4, 2) := by decide +kernel
theorem dX6_setAmplitude_42 : decode cX6_setAmplitude 42 = .ok (.ireturn, 1) := by decide +kernel
theorem kc_X6_setAmplitude_2 : ∀ w ∈ ([Cond.methodLink "QuakeBench" 135 yX6_pickAt, Cond.instanceMethod yX6_pickAt, Cond.selects "QuakeBench" yX6_pickAt yX6_pickAt, Cond.initialized "QuakeBench", Cond.code yX6_pickAt prog_1_method_32_code 2 (Option.some (Jvm.ClassFile.FieldType.object "QuakeBench$Pick"))] : List Cond), w ∈ lw_all := zin [978, 980, 20, 54, 981] (by decide +kernel)
theorem dX6_magnitude_0 : decode cX6_magnitude 0 = .ok (.aload_n 0, 1) := by decide +kernel
theorem dX6_magnitude_1 : decode cX6_magnitude 1 = .ok (.iload_n 1, 1) := by decide +kernel
theorem dX6_magnitude_2 : decode cX6_magnitude 2 = .ok (.invokevirtual 177, 3) := by decide +kernel
theorem dX6_magnitude_5 : decode cX6_magnitude 5 = .ok (.astore_n 2, 1) := by decide +kernel
theorem dX6_magnitude_6 : decode cX6_magnitude 6 = .ok (.aload_n 2, 1) := by decide +kernel
theorem dX6_magnitude_7 : decode cX6_magnitude 7 = .ok (.invokestatic 225, 3) := by decide +kernel
theorem dX6_magnitude_10 : decode cX6_magnitude 10 = .ok (.aload_n 0, 1) := by decide +kernel
theorem dX6_magnitude_11 : decode cX6_magnitude 11 = .ok (.aload_n 2, 1) := by decide +kernel
theorem dX6_magnitude_12 : decode cX6_magnitude 12 = .ok (.invokevirtual 278, 3) := by decide +kernel
theorem dX6_magnitude_15 : decode cX6_magnitude 15 = .ok (.ireturn, 1) := by decide +kernel
theorem kc_X6_magnitude_2 : ∀ w ∈ ([Cond.methodLink "QuakeBench" 177 yX6_eventAt, Cond.instanceMethod yX6_eventAt, Cond.selects "QuakeBench" yX6_eventAt yX6_eventAt, Cond.initialized "QuakeBench", Cond.code yX6_eventAt prog_1_method_33_code 2 (Option.some (Jvm.ClassFile.FieldType.object "QuakeBench$Event"))] : List Cond), w ∈ lw_all := zin [1007, 1009, 21, 54, 1010] (by decide +kernel)
theorem dX6_family_0 : decode cX6_family 0 = .ok (.aload_n 0, 1) := by decide +kernel
theorem dX6_family_1 : decode cX6_family 1 = .ok (.iload_n 1, 1) := by decide +kernel
theorem dX6_family_2 : decode cX6_family 2 = .ok (.invokevirtual 177, 3) := by decide +kernel
theorem dX6_family_5 : decode cX6_family 5 = .ok (.astore 4, 2) := by decide +kernel
theorem dX6_family_7 : decode cX6_family 7 = .ok (.iload_n 2, 1) := by decide +kernel
theorem dX6_family_8 : decode cX6_family 8 = .ok (.iload_n 3, 1) := by decide +kernel
theorem dX6_family_9 : decode cX6_family 9 = .ok (.invokestatic 281, 3) := by decide +kernel
theorem dX6_family_12 : decode cX6_family 12 = .ok (.aload 4, 2) := by decide +kernel
theorem dX6_family_14 : decode cX6_family 14 = .ok (.invokestatic 225, 3) := by decide +kernel
theorem dX6_family_17 : decode cX6_family 17 = .ok (.aload_n 0, 1) := by decide +kernel
theorem dX6_family_18 : decode cX6_family 18 = .ok (.iload_n 2, 1) := by decide +kernel
theorem dX6_family_19 : decode cX6_family 19 = .ok (.iload_n 3, 1) := by decide +kernel
theorem dX6_family_20 : decode cX6_family 20 = .ok (.invokevirtual 285, 3) := by decide +kernel
theorem dX6_family_23 : decode cX6_family 23 = .ok (.iconst 0, 1) := by decide +kernel
theorem dX6_family_24 : decode cX6_family 24 = .ok (.istore 5, 2) := by decide +kernel
theorem dX6_family_26 : decode cX6_family 26 = .ok (.iconst 0, 1) := by decide +kernel
theorem dX6_family_27 : decode cX6_family 27 = .ok (.istore 6, 2) := by decide +kernel
theorem dX6_family_29 : decode cX6_family 29 = .ok (.iload 6, 2) := by decide +kernel
theorem dX6_family_31 : decode cX6_family 31 = .ok (.aload_n 0, 1) := by decide +kernel
theorem dX6_family_32 : decode cX6_family 32 = .ok (.getfield 19, 3) := by decide +kernel
theorem dX6_family_35 : decode cX6_family 35 = .ok (.invokevirtual 62, 3) := by decide +kernel
theorem dX6_family_38 : decode cX6_family 38 = .ok (.if_icmp .ge 47, 3) := by decide +kernel
theorem dX6_family_41 : decode cX6_family 41 = .ok (.aload_n 0, 1) := by decide +kernel
theorem dX6_family_42 : decode cX6_family 42 = .ok (.getfield 19, 3) := by decide +kernel
theorem dX6_family_45 : decode cX6_family 45 = .ok (.iload 6, 2) := by decide +kernel
theorem dX6_family_47 : decode cX6_family 47 = .ok (.invokevirtual 90, 3) := by decide +kernel
theorem dX6_family_50 : decode cX6_family 50 = .ok (.checkcast 94, 3) := by decide +kernel
theorem dX6_family_53 : decode cX6_family 53 = .ok (.astore 7, 2) := by decide +kernel
theorem dX6_family_55 : decode cX6_family 55 = .ok (.aload 7, 2) := by decide +kernel
theorem dX6_family_57 : decode cX6_family 57 = .ok (.getfield 100, 3) := by decide +kernel
theorem dX6_family_60 : decode cX6_family 60 = .ok (.ifCond .eq 19, 3) := by decide +kernel
theorem dX6_family_63 : decode cX6_family 63 = .ok (.aload 7, 2) := by decide +kernel
theorem dX6_family_65 : decode cX6_family 65 = .ok (.getfield 288, 3) := by decide +kernel
theorem dX6_family_68 : decode cX6_family 68 = .ok (.aload 4, 2) := by decide +kernel
theorem dX6_family_70 : decode cX6_family 70 = .ok (.getfield 288, 3) := by decide +kernel
theorem dX6_family_73 : decode cX6_family 73 = .ok (.if_icmp .ne 6, 3) := by decide +kernel
theorem dX6_family_76 : decode cX6_family 76 = .ok (.iinc 5 1, 3) := by decide +kernel
theorem dX6_family_79 : decode cX6_family 79 = .ok (.iinc 6 1, 3) := by decide +kernel
theorem dX6_family_82 : decode cX6_family 82 = .ok (.goto (-53), 3) := by decide +kernel
theorem dX6_family_85 : decode cX6_family 85 = .ok (.iload 5, 2) := by decide +kernel
theorem dX6_family_87 : decode cX6_family 87 = .ok (.ireturn, 1) := by decide +kernel
theorem kc_X6_family_2 : ∀ w ∈ ([Cond.methodLink "QuakeBench" 177 yX6_eventAt, Cond.instanceMethod yX6_eventAt, Cond.selects "QuakeBench" yX6_eventAt yX6_eventAt, Cond.initialized "QuakeBench", Cond.code yX6_eventAt prog_1_method_33_code 2 (Option.some (Jvm.ClassFile.FieldType.object "QuakeBench$Event"))] : List Cond), w ∈ lw_all := zin [1007, 1009, 21, 54, 1010] (by decide +kernel)
/-! the class: its calls on a new bench -/
def zKd : va_E → Prop
  | .inl (_, _, .inr (.inr (.inr (.inr _)))) => False
  | .inl _ => True
  | .inr (ci, _) => ci = 8
abbrev zKp (G G' : zG) : Prop := ∀ q e, G q = some e → zKd e → G' q = some e
def zC0 (Γ : zY) (G : zG) (b : Nat) : Prop :=
  ∃ s p e w r q lo co as ap ae alo, G b = some (oQB s p e w r q lo co) ∧ zLs Γ G s as [] ∧ zLs Γ G p ap [] ∧ zLs Γ G e ae [] ∧ zLs Γ G lo alo [] ∧ G w = some (oWav 6000 3468)
theorem zKp.rf {G : zG} : zKp G G := fun _ _ h _ => h
theorem zKp.al {G : zG} {a : Nat} {mc sz : Int32} {arr q : Nat} {e : va_E} (ha : G a = some (oAL mc arr sz)) (hq : G q = some e) (he : zKd e) : q ≠ a := by
  intro z; subst z
  rw [ha] at hq
  cases hq
  exact absurd he (by intro h; change (7 : Nat) = 8 at h; omega)
theorem zKp.ob {Γ : zY} {G : zG} {a N : Nat} {f : Nat → Option Nat} {q : Nat} {e : va_E} (ha : G a = some (zO Γ N f)) (hq : G q = some e) (he : zKd e) : q ≠ a := by
  intro z; subst z
  rw [ha] at hq
  cases hq
  exact he
abbrev nIOB : String := "java/lang/IndexOutOfBoundsException"
abbrev nIAE : String := "java/lang/IllegalArgumentException"
abbrev zIOB (G : zG) : String → zG → Prop := fun E G' => E = "java/lang/IndexOutOfBoundsException" ∧ G = G'
abbrev zIAE (P : Prop) (G : zG) : String → zG → Prop := fun E G' => E = "java/lang/IllegalArgumentException" ∧ P ∧ G = G'
abbrev rm_x_stationAt : Room := { frames := 6, cells := 1, slots := 6, locals := 90 }
set_option maxHeartbeats 4000000 in
set_option maxRecDepth 100000 in
theorem x_stationAt (l : Launch) (hst : l.stackTraces = false) (Γ : zY) (G : zG) {b : Nat} (x : Int32) (hC : zC0 Γ G b) : ZX l yX6_stationAt cX6_stationAt 2 (some (FieldType.object "QuakeBench$Station")) rm_x_stationAt Γ [.ref b, .int x] G (fun _ _ => False) (zIOB G) := by
  obtain ⟨ls, lp, le, w, r, q, lo, co, as, ap, ae, alo, hb, hLs, hLp, hLe, hLlo, hw⟩ := hC
  obtain ⟨mcs, hs⟩ := hLs.at
  obtain ⟨mcp, hp⟩ := hLp.at
  obtain ⟨mce, he⟩ := hLe.at
  refine z_startX (by decide +kernel) [some (.ref b), some (.int x)] rfl (Nat.le_of_ble_eq_true rfl) ?_
  intro p e s m args below meth c Q A C F hT hr hnm
  refine z_iload_n C dX6_stationAt_0 rfl ?_
  refine z_if_lt (tgt := 15) C dX6_stationAt_1 (by decide) (fun h1 => ?_) (fun h1 => ?_)
  · exact z_throwW C F hT hst zt_X6_stationAt_15 dX6_stationAt_15 dX6_stationAt_18 dX6_stationAt_19 dX6_stationAt_22 dX6_stationAt_25 (Nat.le_of_ble_eq_true rfl) (Nat.le_of_ble_eq_true rfl) (Nat.le_of_ble_eq_true rfl) (Nat.le_of_ble_eq_true rfl) (Nat.le_of_ble_eq_true rfl) (Nat.le_of_ble_eq_true rfl) ⟨rfl, rfl⟩
  · refine z_iload_n C dX6_stationAt_4 rfl ?_
    first | refine z_rload_n C dX6_stationAt_5 rfl ?_ | refine z_nload_n C dX6_stationAt_5 rfl ?_ | refine z_aload_n C dX6_stationAt_5 rfl ?_
    refine z_getf (T := TX6) (N := 8) C (by first | assumption | exact zU_same _ _ _) rfl 0 (by decide) kw_185 (Or.inl rfl) rfl dX6_stationAt_6 ?_
    refine z_callV (q := (RJx4a65c, TJx4a65c, 3)) C (c_size l Γ G hLs) kc_X6_stationAt_9 (by first | assumption | exact zU_same _ _ _) rfl rfl rfl rfl ky_Jx4a65c_size_8abf5 ⟨(Nat.le_of_ble_eq_true rfl), (Nat.le_of_ble_eq_true rfl)⟩ (Nat.le_of_ble_eq_true rfl) ⟨(Nat.le_of_ble_eq_true rfl), (Nat.le_of_ble_eq_true rfl)⟩ dX6_stationAt_9 (fun v9 G9 hp9 => ?_)
    obtain ⟨rfl, rfl⟩ := hp9
    refine z_icmp_lt (tgt := 26) C dX6_stationAt_12 (by decide) (fun h12 => ?_) (fun h12 => ?_)
    · exact absurd h12 h1
    · exact z_throwW C F hT hst zt_X6_stationAt_15 dX6_stationAt_15 dX6_stationAt_18 dX6_stationAt_19 dX6_stationAt_22 dX6_stationAt_25 (Nat.le_of_ble_eq_true rfl) (Nat.le_of_ble_eq_true rfl) (Nat.le_of_ble_eq_true rfl) (Nat.le_of_ble_eq_true rfl) (Nat.le_of_ble_eq_true rfl) (Nat.le_of_ble_eq_true rfl) ⟨rfl, rfl⟩
abbrev rm_x_pickAt : Room := { frames := 6, cells := 1, slots := 6, locals := 90 }
set_option maxHeartbeats 4000000 in
set_option maxRecDepth 100000 in
theorem x_pickAt (l : Launch) (hst : l.stackTraces = false) (Γ : zY) (G : zG) {b : Nat} (x : Int32) (hC : zC0 Γ G b) : ZX l yX6_pickAt cX6_pickAt 2 (some (FieldType.object "QuakeBench$Pick")) rm_x_pickAt Γ [.ref b, .int x] G (fun _ _ => False) (zIOB G) := by
  obtain ⟨ls, lp, le, w, r, q, lo, co, as, ap, ae, alo, hb, hLs, hLp, hLe, hLlo, hw⟩ := hC
  obtain ⟨mcs, hs⟩ := hLs.at
  obtain ⟨mcp, hp⟩ := hLp.at
  obtain ⟨mce, he⟩ := hLe.at
  refine z_startX (by decide +kernel) [some (.ref b), some (.int x)] rfl (Nat.le_of_ble_eq_true rfl) ?_
  intro p e s m args below meth c Q A C F hT hr hnm
  refine z_iload_n C dX6_pickAt_0 rfl ?_
  refine z_if_lt (tgt := 15) C dX6_pickAt_1 (by decide) (fun h1 => ?_) (fun h1 => ?_)
  · exact z_throwW C F hT hst zt_X6_pickAt_15 dX6_pickAt_15 dX6_pickAt_18 dX6_pickAt_19 dX6_pickAt_22 dX6_pickAt_25 (Nat.le_of_ble_eq_true rfl) (Nat.le_of_ble_eq_true rfl) (Nat.le_of_ble_eq_true rfl) (Nat.le_of_ble_eq_true rfl) (Nat.le_of_ble_eq_true rfl) (Nat.le_of_ble_eq_true rfl) ⟨rfl, rfl⟩
  · refine z_iload_n C dX6_pickAt_4 rfl ?_
    first | refine z_rload_n C dX6_pickAt_5 rfl ?_ | refine z_nload_n C dX6_pickAt_5 rfl ?_ | refine z_aload_n C dX6_pickAt_5 rfl ?_
    refine z_getf (T := TX6) (N := 8) C (by first | assumption | exact zU_same _ _ _) rfl 1 (by decide) kw_186 (Or.inl rfl) rfl dX6_pickAt_6 ?_
    refine z_callV (q := (RJx4a65c, TJx4a65c, 3)) C (c_size l Γ G hLp) kc_X6_pickAt_9 (by first | assumption | exact zU_same _ _ _) rfl rfl rfl rfl ky_Jx4a65c_size_8abf5 ⟨(Nat.le_of_ble_eq_true rfl), (Nat.le_of_ble_eq_true rfl)⟩ (Nat.le_of_ble_eq_true rfl) ⟨(Nat.le_of_ble_eq_true rfl), (Nat.le_of_ble_eq_true rfl)⟩ dX6_pickAt_9 (fun v9 G9 hp9 => ?_)
    obtain ⟨rfl, rfl⟩ := hp9
    refine z_icmp_lt (tgt := 26) C dX6_pickAt_12 (by decide) (fun h12 => ?_) (fun h12 => ?_)
    · exact absurd h12 h1
    · exact z_throwW C F hT hst zt_X6_pickAt_15 dX6_pickAt_15 dX6_pickAt_18 dX6_pickAt_19 dX6_pickAt_22 dX6_pickAt_25 (Nat.le_of_ble_eq_true rfl) (Nat.le_of_ble_eq_true rfl) (Nat.le_of_ble_eq_true rfl) (Nat.le_of_ble_eq_true rfl) (Nat.le_of_ble_eq_true rfl) (Nat.le_of_ble_eq_true rfl) ⟨rfl, rfl⟩
abbrev rm_x_eventAt : Room := { frames := 6, cells := 1, slots := 6, locals := 90 }
set_option maxHeartbeats 4000000 in
set_option maxRecDepth 100000 in
theorem x_eventAt (l : Launch) (hst : l.stackTraces = false) (Γ : zY) (G : zG) {b : Nat} (x : Int32) (hC : zC0 Γ G b) : ZX l yX6_eventAt cX6_eventAt 2 (some (FieldType.object "QuakeBench$Event")) rm_x_eventAt Γ [.ref b, .int x] G (fun _ _ => False) (zIOB G) := by
  obtain ⟨ls, lp, le, w, r, q, lo, co, as, ap, ae, alo, hb, hLs, hLp, hLe, hLlo, hw⟩ := hC
  obtain ⟨mcs, hs⟩ := hLs.at
  obtain ⟨mcp, hp⟩ := hLp.at
  obtain ⟨mce, he⟩ := hLe.at
  refine z_startX (by decide +kernel) [some (.ref b), some (.int x)] rfl (Nat.le_of_ble_eq_true rfl) ?_
  intro p e s m args below meth c Q A C F hT hr hnm
  refine z_iload_n C dX6_eventAt_0 rfl ?_
  refine z_if_lt (tgt := 15) C dX6_eventAt_1 (by decide) (fun h1 => ?_) (fun h1 => ?_)
  · exact z_throwW C F hT hst zt_X6_eventAt_15 dX6_eventAt_15 dX6_eventAt_18 dX6_eventAt_19 dX6_eventAt_22 dX6_eventAt_25 (Nat.le_of_ble_eq_true rfl) (Nat.le_of_ble_eq_true rfl) (Nat.le_of_ble_eq_true rfl) (Nat.le_of_ble_eq_true rfl) (Nat.le_of_ble_eq_true rfl) (Nat.le_of_ble_eq_true rfl) ⟨rfl, rfl⟩
  · refine z_iload_n C dX6_eventAt_4 rfl ?_
    first | refine z_rload_n C dX6_eventAt_5 rfl ?_ | refine z_nload_n C dX6_eventAt_5 rfl ?_ | refine z_aload_n C dX6_eventAt_5 rfl ?_
    refine z_getf (T := TX6) (N := 8) C (by first | assumption | exact zU_same _ _ _) rfl 2 (by decide) kw_187 (Or.inl rfl) rfl dX6_eventAt_6 ?_
    refine z_callV (q := (RJx4a65c, TJx4a65c, 3)) C (c_size l Γ G hLe) kc_X6_eventAt_9 (by first | assumption | exact zU_same _ _ _) rfl rfl rfl rfl ky_Jx4a65c_size_8abf5 ⟨(Nat.le_of_ble_eq_true rfl), (Nat.le_of_ble_eq_true rfl)⟩ (Nat.le_of_ble_eq_true rfl) ⟨(Nat.le_of_ble_eq_true rfl), (Nat.le_of_ble_eq_true rfl)⟩ dX6_eventAt_9 (fun v9 G9 hp9 => ?_)
    obtain ⟨rfl, rfl⟩ := hp9
    refine z_icmp_lt (tgt := 26) C dX6_eventAt_12 (by decide) (fun h12 => ?_) (fun h12 => ?_)
    · exact absurd h12 h1
    · exact z_throwW C F hT hst zt_X6_eventAt_15 dX6_eventAt_15 dX6_eventAt_18 dX6_eventAt_19 dX6_eventAt_22 dX6_eventAt_25 (Nat.le_of_ble_eq_true rfl) (Nat.le_of_ble_eq_true rfl) (Nat.le_of_ble_eq_true rfl) (Nat.le_of_ble_eq_true rfl) (Nat.le_of_ble_eq_true rfl) (Nat.le_of_ble_eq_true rfl) ⟨rfl, rfl⟩
abbrev rm_x_setDelay : Room := { frames := 7, cells := 1, slots := 6, locals := 111 }
set_option maxHeartbeats 4000000 in
set_option maxRecDepth 100000 in
theorem x_setDelay (l : Launch) (hst : l.stackTraces = false) (Γ : zY) (G : zG) {b : Nat} (x0 : Int32) (x1 : Int32) (hC : zC0 Γ G b) : ZX l yX6_setDelay cX6_setDelay 7 (some FieldType.int) rm_x_setDelay Γ [.ref b, .int x0, .int x1] G (fun _ _ => False) (zIOB G) := by
  obtain ⟨ls, lp, le, w, r, q, lo, co, as, ap, ae, alo, hb, hR⟩ := id hC
  refine z_startX (by decide +kernel) [some (.ref b), some (.int x0), some (.int x1), none, none, none, none] rfl (Nat.le_of_ble_eq_true rfl) ?_
  intro p e s m args below meth c Q A C F hT hr hnm
  first | refine z_rload_n C dX6_setDelay_0 rfl ?_ | refine z_nload_n C dX6_setDelay_0 rfl ?_ | refine z_aload_n C dX6_setDelay_0 rfl ?_
  refine z_iload_n C dX6_setDelay_1 rfl ?_
  refine z_callVX (q := (RX6, TX6, 8)) C (x_stationAt l hst Γ G x0 hC) kc_X6_setDelay_2 (by first | assumption | exact zU_same _ _ _) rfl rfl rfl rfl ky_X6_stationAt ⟨(Nat.le_of_ble_eq_true rfl), (Nat.le_of_ble_eq_true rfl)⟩ (Nat.le_of_ble_eq_true rfl) ⟨(Nat.le_of_ble_eq_true rfl), (Nat.le_of_ble_eq_true rfl)⟩ dX6_setDelay_2 (fun E2 G2 hx2 => z_out C F hT (Nat.le_of_ble_eq_true rfl) (Nat.le_of_ble_eq_true rfl) hx2) (fun _ _ hp => hp.elim)
abbrev rm_x_way : Room := { frames := 7, cells := 1, slots := 6, locals := 111 }
set_option maxHeartbeats 4000000 in
set_option maxRecDepth 100000 in
theorem x_way (l : Launch) (hst : l.stackTraces = false) (Γ : zY) (G : zG) {b : Nat} (x0 : Int32) (x1 : Int32) (x2 : Int32) (x3 : Int32) (hC : zC0 Γ G b) : ZX l yX6_way cX6_way 6 (some FieldType.int) rm_x_way Γ [.ref b, .int x0, .int x1, .int x2, .int x3] G (fun _ _ => False) (zIOB G) := by
  obtain ⟨ls, lp, le, w, r, q, lo, co, as, ap, ae, alo, hb, hR⟩ := id hC
  refine z_startX (by decide +kernel) [some (.ref b), some (.int x0), some (.int x1), some (.int x2), some (.int x3), none] rfl (Nat.le_of_ble_eq_true rfl) ?_
  intro p e s m args below meth c Q A C F hT hr hnm
  first | refine z_rload_n C dX6_way_0 rfl ?_ | refine z_nload_n C dX6_way_0 rfl ?_ | refine z_aload_n C dX6_way_0 rfl ?_
  refine z_iload_n C dX6_way_1 rfl ?_
  refine z_callVX (q := (RX6, TX6, 8)) C (x_stationAt l hst Γ G x0 hC) kc_X6_way_2 (by first | assumption | exact zU_same _ _ _) rfl rfl rfl rfl ky_X6_stationAt ⟨(Nat.le_of_ble_eq_true rfl), (Nat.le_of_ble_eq_true rfl)⟩ (Nat.le_of_ble_eq_true rfl) ⟨(Nat.le_of_ble_eq_true rfl), (Nat.le_of_ble_eq_true rfl)⟩ dX6_way_2 (fun E2 G2 hx2 => z_out C F hT (Nat.le_of_ble_eq_true rfl) (Nat.le_of_ble_eq_true rfl) hx2) (fun _ _ hp => hp.elim)
abbrev rm_x_needs : Room := { frames := 7, cells := 1, slots := 6, locals := 111 }
set_option maxHeartbeats 4000000 in
set_option maxRecDepth 100000 in
theorem x_needs (l : Launch) (hst : l.stackTraces = false) (Γ : zY) (G : zG) {b : Nat} (x0 : Int32) (x1 : Int32) (x2 : Int32) (x3 : Int32) (x4 : Int32) (hC : zC0 Γ G b) : ZX l yX6_needs cX6_needs 7 (some FieldType.int) rm_x_needs Γ [.ref b, .int x0, .int x1, .int x2, .int x3, .int x4] G (fun _ _ => False) (zIOB G) := by
  obtain ⟨ls, lp, le, w, r, q, lo, co, as, ap, ae, alo, hb, hR⟩ := id hC
  refine z_startX (by decide +kernel) [some (.ref b), some (.int x0), some (.int x1), some (.int x2), some (.int x3), some (.int x4), none] rfl (Nat.le_of_ble_eq_true rfl) ?_
  intro p e s m args below meth c Q A C F hT hr hnm
  first | refine z_rload_n C dX6_needs_0 rfl ?_ | refine z_nload_n C dX6_needs_0 rfl ?_ | refine z_aload_n C dX6_needs_0 rfl ?_
  refine z_iload_n C dX6_needs_1 rfl ?_
  refine z_callVX (q := (RX6, TX6, 8)) C (x_stationAt l hst Γ G x0 hC) kc_X6_needs_2 (by first | assumption | exact zU_same _ _ _) rfl rfl rfl rfl ky_X6_stationAt ⟨(Nat.le_of_ble_eq_true rfl), (Nat.le_of_ble_eq_true rfl)⟩ (Nat.le_of_ble_eq_true rfl) ⟨(Nat.le_of_ble_eq_true rfl), (Nat.le_of_ble_eq_true rfl)⟩ dX6_needs_2 (fun E2 G2 hx2 => z_out C F hT (Nat.le_of_ble_eq_true rfl) (Nat.le_of_ble_eq_true rfl) hx2) (fun _ _ hp => hp.elim)
abbrev rm_x_addPick : Room := { frames := 7, cells := 1, slots := 6, locals := 111 }
set_option maxHeartbeats 4000000 in
set_option maxRecDepth 100000 in
theorem x_addPick (l : Launch) (hst : l.stackTraces = false) (Γ : zY) (G : zG) {b : Nat} (x0 : Int32) (x1 : Int32) (x2 : Int32) (hC : zC0 Γ G b) : ZX l yX6_addPick cX6_addPick 6 (some FieldType.int) rm_x_addPick Γ [.ref b, .int x0, .int x1, .int x2] G (fun _ _ => False) (zIOB G) := by
  obtain ⟨ls, lp, le, w, r, q, lo, co, as, ap, ae, alo, hb, hR⟩ := id hC
  refine z_startX (by decide +kernel) [some (.ref b), some (.int x0), some (.int x1), some (.int x2), none, none] rfl (Nat.le_of_ble_eq_true rfl) ?_
  intro p e s m args below meth c Q A C F hT hr hnm
  first | refine z_rload_n C dX6_addPick_0 rfl ?_ | refine z_nload_n C dX6_addPick_0 rfl ?_ | refine z_aload_n C dX6_addPick_0 rfl ?_
  refine z_iload_n C dX6_addPick_1 rfl ?_
  refine z_callVX (q := (RX6, TX6, 8)) C (x_stationAt l hst Γ G x0 hC) kc_X6_addPick_2 (by first | assumption | exact zU_same _ _ _) rfl rfl rfl rfl ky_X6_stationAt ⟨(Nat.le_of_ble_eq_true rfl), (Nat.le_of_ble_eq_true rfl)⟩ (Nat.le_of_ble_eq_true rfl) ⟨(Nat.le_of_ble_eq_true rfl), (Nat.le_of_ble_eq_true rfl)⟩ dX6_addPick_2 (fun E2 G2 hx2 => z_out C F hT (Nat.le_of_ble_eq_true rfl) (Nat.le_of_ble_eq_true rfl) hx2) (fun _ _ hp => hp.elim)
abbrev rm_x_setWeight : Room := { frames := 7, cells := 1, slots := 6, locals := 111 }
set_option maxHeartbeats 4000000 in
set_option maxRecDepth 100000 in
theorem x_setWeight (l : Launch) (hst : l.stackTraces = false) (Γ : zY) (G : zG) {b : Nat} (x0 : Int32) (x1 : Int32) (hC : zC0 Γ G b) : ZX l yX6_setWeight cX6_setWeight 5 (some FieldType.int) rm_x_setWeight Γ [.ref b, .int x0, .int x1] G (fun _ _ => False) (zIOB G) := by
  obtain ⟨ls, lp, le, w, r, q, lo, co, as, ap, ae, alo, hb, hR⟩ := id hC
  refine z_startX (by decide +kernel) [some (.ref b), some (.int x0), some (.int x1), none, none] rfl (Nat.le_of_ble_eq_true rfl) ?_
  intro p e s m args below meth c Q A C F hT hr hnm
  first | refine z_rload_n C dX6_setWeight_0 rfl ?_ | refine z_nload_n C dX6_setWeight_0 rfl ?_ | refine z_aload_n C dX6_setWeight_0 rfl ?_
  refine z_iload_n C dX6_setWeight_1 rfl ?_
  refine z_callVX (q := (RX6, TX6, 8)) C (x_pickAt l hst Γ G x0 hC) kc_X6_setWeight_2 (by first | assumption | exact zU_same _ _ _) rfl rfl rfl rfl ky_X6_pickAt ⟨(Nat.le_of_ble_eq_true rfl), (Nat.le_of_ble_eq_true rfl)⟩ (Nat.le_of_ble_eq_true rfl) ⟨(Nat.le_of_ble_eq_true rfl), (Nat.le_of_ble_eq_true rfl)⟩ dX6_setWeight_2 (fun E2 G2 hx2 => z_out C F hT (Nat.le_of_ble_eq_true rfl) (Nat.le_of_ble_eq_true rfl) hx2) (fun _ _ hp => hp.elim)
abbrev rm_x_pick : Room := { frames := 7, cells := 1, slots := 6, locals := 111 }
set_option maxHeartbeats 4000000 in
set_option maxRecDepth 100000 in
theorem x_pick (l : Launch) (hst : l.stackTraces = false) (Γ : zY) (G : zG) {b : Nat} (x0 : Int32) (x1 : Int32) (hC : zC0 Γ G b) : ZX l yX6_pick cX6_pick 4 (some FieldType.int) rm_x_pick Γ [.ref b, .int x0, .int x1] G (fun _ _ => False) (zIOB G) := by
  obtain ⟨ls, lp, le, w, r, q, lo, co, as, ap, ae, alo, hb, hR⟩ := id hC
  refine z_startX (by decide +kernel) [some (.ref b), some (.int x0), some (.int x1), none] rfl (Nat.le_of_ble_eq_true rfl) ?_
  intro p e s m args below meth c Q A C F hT hr hnm
  first | refine z_rload_n C dX6_pick_0 rfl ?_ | refine z_nload_n C dX6_pick_0 rfl ?_ | refine z_aload_n C dX6_pick_0 rfl ?_
  refine z_iload_n C dX6_pick_1 rfl ?_
  refine z_callVX (q := (RX6, TX6, 8)) C (x_pickAt l hst Γ G x0 hC) kc_X6_pick_2 (by first | assumption | exact zU_same _ _ _) rfl rfl rfl rfl ky_X6_pickAt ⟨(Nat.le_of_ble_eq_true rfl), (Nat.le_of_ble_eq_true rfl)⟩ (Nat.le_of_ble_eq_true rfl) ⟨(Nat.le_of_ble_eq_true rfl), (Nat.le_of_ble_eq_true rfl)⟩ dX6_pick_2 (fun E2 G2 hx2 => z_out C F hT (Nat.le_of_ble_eq_true rfl) (Nat.le_of_ble_eq_true rfl) hx2) (fun _ _ hp => hp.elim)
abbrev rm_x_give : Room := { frames := 7, cells := 1, slots := 6, locals := 111 }
set_option maxHeartbeats 4000000 in
set_option maxRecDepth 100000 in
theorem x_give (l : Launch) (hst : l.stackTraces = false) (Γ : zY) (G : zG) {b : Nat} (x0 : Int32) (x1 : Int32) (hC : zC0 Γ G b) : ZX l yX6_give cX6_give 6 (some FieldType.int) rm_x_give Γ [.ref b, .int x0, .int x1] G (fun _ _ => False) (zIOB G) := by
  obtain ⟨ls, lp, le, w, r, q, lo, co, as, ap, ae, alo, hb, hR⟩ := id hC
  refine z_startX (by decide +kernel) [some (.ref b), some (.int x0), some (.int x1), none, none, none] rfl (Nat.le_of_ble_eq_true rfl) ?_
  intro p e s m args below meth c Q A C F hT hr hnm
  first | refine z_rload_n C dX6_give_0 rfl ?_ | refine z_nload_n C dX6_give_0 rfl ?_ | refine z_aload_n C dX6_give_0 rfl ?_
  refine z_iload_n C dX6_give_1 rfl ?_
  refine z_callVX (q := (RX6, TX6, 8)) C (x_pickAt l hst Γ G x0 hC) kc_X6_give_2 (by first | assumption | exact zU_same _ _ _) rfl rfl rfl rfl ky_X6_pickAt ⟨(Nat.le_of_ble_eq_true rfl), (Nat.le_of_ble_eq_true rfl)⟩ (Nat.le_of_ble_eq_true rfl) ⟨(Nat.le_of_ble_eq_true rfl), (Nat.le_of_ble_eq_true rfl)⟩ dX6_give_2 (fun E2 G2 hx2 => z_out C F hT (Nat.le_of_ble_eq_true rfl) (Nat.le_of_ble_eq_true rfl) hx2) (fun _ _ hp => hp.elim)
abbrev rm_x_seek : Room := { frames := 7, cells := 1, slots := 6, locals := 111 }
set_option maxHeartbeats 4000000 in
set_option maxRecDepth 100000 in
theorem x_seek (l : Launch) (hst : l.stackTraces = false) (Γ : zY) (G : zG) {b : Nat} (x0 : Int32) (hC : zC0 Γ G b) : ZX l yX6_seek cX6_seek 3 (some FieldType.long) rm_x_seek Γ [.ref b, .int x0] G (fun _ _ => False) (zIOB G) := by
  obtain ⟨ls, lp, le, w, r, q, lo, co, as, ap, ae, alo, hb, hR⟩ := id hC
  refine z_startX (by decide +kernel) [some (.ref b), some (.int x0), none] rfl (Nat.le_of_ble_eq_true rfl) ?_
  intro p e s m args below meth c Q A C F hT hr hnm
  first | refine z_rload_n C dX6_seek_0 rfl ?_ | refine z_nload_n C dX6_seek_0 rfl ?_ | refine z_aload_n C dX6_seek_0 rfl ?_
  refine z_iload_n C dX6_seek_1 rfl ?_
  refine z_callVX (q := (RX6, TX6, 8)) C (x_eventAt l hst Γ G x0 hC) kc_X6_seek_2 (by first | assumption | exact zU_same _ _ _) rfl rfl rfl rfl ky_X6_eventAt ⟨(Nat.le_of_ble_eq_true rfl), (Nat.le_of_ble_eq_true rfl)⟩ (Nat.le_of_ble_eq_true rfl) ⟨(Nat.le_of_ble_eq_true rfl), (Nat.le_of_ble_eq_true rfl)⟩ dX6_seek_2 (fun E2 G2 hx2 => z_out C F hT (Nat.le_of_ble_eq_true rfl) (Nat.le_of_ble_eq_true rfl) hx2) (fun _ _ hp => hp.elim)
abbrev rm_x_event : Room := { frames := 7, cells := 1, slots := 6, locals := 111 }
set_option maxHeartbeats 4000000 in
set_option maxRecDepth 100000 in
theorem x_event (l : Launch) (hst : l.stackTraces = false) (Γ : zY) (G : zG) {b : Nat} (x0 : Int32) (x1 : Int32) (hC : zC0 Γ G b) : ZX l yX6_event cX6_event 4 (some FieldType.int) rm_x_event Γ [.ref b, .int x0, .int x1] G (fun _ _ => False) (zIOB G) := by
  obtain ⟨ls, lp, le, w, r, q, lo, co, as, ap, ae, alo, hb, hR⟩ := id hC
  refine z_startX (by decide +kernel) [some (.ref b), some (.int x0), some (.int x1), none] rfl (Nat.le_of_ble_eq_true rfl) ?_
  intro p e s m args below meth c Q A C F hT hr hnm
  first | refine z_rload_n C dX6_event_0 rfl ?_ | refine z_nload_n C dX6_event_0 rfl ?_ | refine z_aload_n C dX6_event_0 rfl ?_
  refine z_iload_n C dX6_event_1 rfl ?_
  refine z_callVX (q := (RX6, TX6, 8)) C (x_eventAt l hst Γ G x0 hC) kc_X6_event_2 (by first | assumption | exact zU_same _ _ _) rfl rfl rfl rfl ky_X6_eventAt ⟨(Nat.le_of_ble_eq_true rfl), (Nat.le_of_ble_eq_true rfl)⟩ (Nat.le_of_ble_eq_true rfl) ⟨(Nat.le_of_ble_eq_true rfl), (Nat.le_of_ble_eq_true rfl)⟩ dX6_event_2 (fun E2 G2 hx2 => z_out C F hT (Nat.le_of_ble_eq_true rfl) (Nat.le_of_ble_eq_true rfl) hx2) (fun _ _ hp => hp.elim)
abbrev rm_x_misfit : Room := { frames := 7, cells := 1, slots := 6, locals := 111 }
set_option maxHeartbeats 4000000 in
set_option maxRecDepth 100000 in
theorem x_misfit (l : Launch) (hst : l.stackTraces = false) (Γ : zY) (G : zG) {b : Nat} (x0 : Int32) (x1 : Int32) (x2 : Int32) (x3 : Int32) (hC : zC0 Γ G b) : ZX l yX6_misfit cX6_misfit 6 (some FieldType.long) rm_x_misfit Γ [.ref b, .int x0, .int x1, .int x2, .int x3] G (fun _ _ => False) (zIOB G) := by
  obtain ⟨ls, lp, le, w, r, q, lo, co, as, ap, ae, alo, hb, hR⟩ := id hC
  refine z_startX (by decide +kernel) [some (.ref b), some (.int x0), some (.int x1), some (.int x2), some (.int x3), none] rfl (Nat.le_of_ble_eq_true rfl) ?_
  intro p e s m args below meth c Q A C F hT hr hnm
  first | refine z_rload_n C dX6_misfit_0 rfl ?_ | refine z_nload_n C dX6_misfit_0 rfl ?_ | refine z_aload_n C dX6_misfit_0 rfl ?_
  refine z_iload_n C dX6_misfit_1 rfl ?_
  refine z_callVX (q := (RX6, TX6, 8)) C (x_eventAt l hst Γ G x0 hC) kc_X6_misfit_2 (by first | assumption | exact zU_same _ _ _) rfl rfl rfl rfl ky_X6_eventAt ⟨(Nat.le_of_ble_eq_true rfl), (Nat.le_of_ble_eq_true rfl)⟩ (Nat.le_of_ble_eq_true rfl) ⟨(Nat.le_of_ble_eq_true rfl), (Nat.le_of_ble_eq_true rfl)⟩ dX6_misfit_2 (fun E2 G2 hx2 => z_out C F hT (Nat.le_of_ble_eq_true rfl) (Nat.le_of_ble_eq_true rfl) hx2) (fun _ _ hp => hp.elim)
abbrev rm_x_residual : Room := { frames := 7, cells := 1, slots := 6, locals := 111 }
set_option maxHeartbeats 4000000 in
set_option maxRecDepth 100000 in
theorem x_residual (l : Launch) (hst : l.stackTraces = false) (Γ : zY) (G : zG) {b : Nat} (x0 : Int32) (hC : zC0 Γ G b) : ZX l yX6_residual cX6_residual 4 (some FieldType.int) rm_x_residual Γ [.ref b, .int x0] G (fun _ _ => False) (zIOB G) := by
  obtain ⟨ls, lp, le, w, r, q, lo, co, as, ap, ae, alo, hb, hR⟩ := id hC
  refine z_startX (by decide +kernel) [some (.ref b), some (.int x0), none, none] rfl (Nat.le_of_ble_eq_true rfl) ?_
  intro p e s m args below meth c Q A C F hT hr hnm
  first | refine z_rload_n C dX6_residual_0 rfl ?_ | refine z_nload_n C dX6_residual_0 rfl ?_ | refine z_aload_n C dX6_residual_0 rfl ?_
  refine z_iload_n C dX6_residual_1 rfl ?_
  refine z_callVX (q := (RX6, TX6, 8)) C (x_pickAt l hst Γ G x0 hC) kc_X6_residual_2 (by first | assumption | exact zU_same _ _ _) rfl rfl rfl rfl ky_X6_pickAt ⟨(Nat.le_of_ble_eq_true rfl), (Nat.le_of_ble_eq_true rfl)⟩ (Nat.le_of_ble_eq_true rfl) ⟨(Nat.le_of_ble_eq_true rfl), (Nat.le_of_ble_eq_true rfl)⟩ dX6_residual_2 (fun E2 G2 hx2 => z_out C F hT (Nat.le_of_ble_eq_true rfl) (Nat.le_of_ble_eq_true rfl) hx2) (fun _ _ hp => hp.elim)
abbrev rm_x_worst : Room := { frames := 7, cells := 1, slots := 6, locals := 111 }
set_option maxHeartbeats 4000000 in
set_option maxRecDepth 100000 in
theorem x_worst (l : Launch) (hst : l.stackTraces = false) (Γ : zY) (G : zG) {b : Nat} (x0 : Int32) (hC : zC0 Γ G b) : ZX l yX6_worst cX6_worst 8 (some FieldType.int) rm_x_worst Γ [.ref b, .int x0] G (fun _ _ => False) (zIOB G) := by
  obtain ⟨ls, lp, le, w, r, q, lo, co, as, ap, ae, alo, hb, hR⟩ := id hC
  refine z_startX (by decide +kernel) [some (.ref b), some (.int x0), none, none, none, none, none, none] rfl (Nat.le_of_ble_eq_true rfl) ?_
  intro p e s m args below meth c Q A C F hT hr hnm
  first | refine z_rload_n C dX6_worst_0 rfl ?_ | refine z_nload_n C dX6_worst_0 rfl ?_ | refine z_aload_n C dX6_worst_0 rfl ?_
  refine z_iload_n C dX6_worst_1 rfl ?_
  refine z_callVX (q := (RX6, TX6, 8)) C (x_eventAt l hst Γ G x0 hC) kc_X6_worst_2 (by first | assumption | exact zU_same _ _ _) rfl rfl rfl rfl ky_X6_eventAt ⟨(Nat.le_of_ble_eq_true rfl), (Nat.le_of_ble_eq_true rfl)⟩ (Nat.le_of_ble_eq_true rfl) ⟨(Nat.le_of_ble_eq_true rfl), (Nat.le_of_ble_eq_true rfl)⟩ dX6_worst_2 (fun E2 G2 hx2 => z_out C F hT (Nat.le_of_ble_eq_true rfl) (Nat.le_of_ble_eq_true rfl) hx2) (fun _ _ hp => hp.elim)
abbrev rm_x_spread : Room := { frames := 7, cells := 1, slots := 6, locals := 111 }
set_option maxHeartbeats 4000000 in
set_option maxRecDepth 100000 in
theorem x_spread (l : Launch) (hst : l.stackTraces = false) (Γ : zY) (G : zG) {b : Nat} (x0 : Int32) (hC : zC0 Γ G b) : ZX l yX6_spread cX6_spread 3 (some FieldType.double) rm_x_spread Γ [.ref b, .int x0] G (fun _ _ => False) (zIOB G) := by
  obtain ⟨ls, lp, le, w, r, q, lo, co, as, ap, ae, alo, hb, hR⟩ := id hC
  refine z_startX (by decide +kernel) [some (.ref b), some (.int x0), none] rfl (Nat.le_of_ble_eq_true rfl) ?_
  intro p e s m args below meth c Q A C F hT hr hnm
  first | refine z_rload_n C dX6_spread_0 rfl ?_ | refine z_nload_n C dX6_spread_0 rfl ?_ | refine z_aload_n C dX6_spread_0 rfl ?_
  refine z_iload_n C dX6_spread_1 rfl ?_
  refine z_callVX (q := (RX6, TX6, 8)) C (x_eventAt l hst Γ G x0 hC) kc_X6_spread_2 (by first | assumption | exact zU_same _ _ _) rfl rfl rfl rfl ky_X6_eventAt ⟨(Nat.le_of_ble_eq_true rfl), (Nat.le_of_ble_eq_true rfl)⟩ (Nat.le_of_ble_eq_true rfl) ⟨(Nat.le_of_ble_eq_true rfl), (Nat.le_of_ble_eq_true rfl)⟩ dX6_spread_2 (fun E2 G2 hx2 => z_out C F hT (Nat.le_of_ble_eq_true rfl) (Nat.le_of_ble_eq_true rfl) hx2) (fun _ _ hp => hp.elim)
abbrev rm_x_gap : Room := { frames := 7, cells := 1, slots := 6, locals := 111 }
set_option maxHeartbeats 4000000 in
set_option maxRecDepth 100000 in
theorem x_gap (l : Launch) (hst : l.stackTraces = false) (Γ : zY) (G : zG) {b : Nat} (x0 : Int32) (hC : zC0 Γ G b) : ZX l yX6_gap cX6_gap 3 (some FieldType.int) rm_x_gap Γ [.ref b, .int x0] G (fun _ _ => False) (zIOB G) := by
  obtain ⟨ls, lp, le, w, r, q, lo, co, as, ap, ae, alo, hb, hR⟩ := id hC
  refine z_startX (by decide +kernel) [some (.ref b), some (.int x0), none] rfl (Nat.le_of_ble_eq_true rfl) ?_
  intro p e s m args below meth c Q A C F hT hr hnm
  first | refine z_rload_n C dX6_gap_0 rfl ?_ | refine z_nload_n C dX6_gap_0 rfl ?_ | refine z_aload_n C dX6_gap_0 rfl ?_
  refine z_iload_n C dX6_gap_1 rfl ?_
  refine z_callVX (q := (RX6, TX6, 8)) C (x_eventAt l hst Γ G x0 hC) kc_X6_gap_2 (by first | assumption | exact zU_same _ _ _) rfl rfl rfl rfl ky_X6_eventAt ⟨(Nat.le_of_ble_eq_true rfl), (Nat.le_of_ble_eq_true rfl)⟩ (Nat.le_of_ble_eq_true rfl) ⟨(Nat.le_of_ble_eq_true rfl), (Nat.le_of_ble_eq_true rfl)⟩ dX6_gap_2 (fun E2 G2 hx2 => z_out C F hT (Nat.le_of_ble_eq_true rfl) (Nat.le_of_ble_eq_true rfl) hx2) (fun _ _ hp => hp.elim)
abbrev rm_x_setAmplitude : Room := { frames := 7, cells := 1, slots := 6, locals := 111 }
set_option maxHeartbeats 4000000 in
set_option maxRecDepth 100000 in
theorem x_setAmplitude (l : Launch) (hst : l.stackTraces = false) (Γ : zY) (G : zG) {b : Nat} (x0 : Int32) (x1 : Int32) (hC : zC0 Γ G b) : ZX l yX6_setAmplitude cX6_setAmplitude 5 (some FieldType.int) rm_x_setAmplitude Γ [.ref b, .int x0, .int x1] G (fun _ _ => False) (zIOB G) := by
  obtain ⟨ls, lp, le, w, r, q, lo, co, as, ap, ae, alo, hb, hR⟩ := id hC
  refine z_startX (by decide +kernel) [some (.ref b), some (.int x0), some (.int x1), none, none] rfl (Nat.le_of_ble_eq_true rfl) ?_
  intro p e s m args below meth c Q A C F hT hr hnm
  first | refine z_rload_n C dX6_setAmplitude_0 rfl ?_ | refine z_nload_n C dX6_setAmplitude_0 rfl ?_ | refine z_aload_n C dX6_setAmplitude_0 rfl ?_
  refine z_iload_n C dX6_setAmplitude_1 rfl ?_
  refine z_callVX (q := (RX6, TX6, 8)) C (x_pickAt l hst Γ G x0 hC) kc_X6_setAmplitude_2 (by first | assumption | exact zU_same _ _ _) rfl rfl rfl rfl ky_X6_pickAt ⟨(Nat.le_of_ble_eq_true rfl), (Nat.le_of_ble_eq_true rfl)⟩ (Nat.le_of_ble_eq_true rfl) ⟨(Nat.le_of_ble_eq_true rfl), (Nat.le_of_ble_eq_true rfl)⟩ dX6_setAmplitude_2 (fun E2 G2 hx2 => z_out C F hT (Nat.le_of_ble_eq_true rfl) (Nat.le_of_ble_eq_true rfl) hx2) (fun _ _ hp => hp.elim)
abbrev rm_x_magnitude : Room := { frames := 7, cells := 1, slots := 6, locals := 111 }
set_option maxHeartbeats 4000000 in
set_option maxRecDepth 100000 in
theorem x_magnitude (l : Launch) (hst : l.stackTraces = false) (Γ : zY) (G : zG) {b : Nat} (x0 : Int32) (hC : zC0 Γ G b) : ZX l yX6_magnitude cX6_magnitude 3 (some FieldType.int) rm_x_magnitude Γ [.ref b, .int x0] G (fun _ _ => False) (zIOB G) := by
  obtain ⟨ls, lp, le, w, r, q, lo, co, as, ap, ae, alo, hb, hR⟩ := id hC
  refine z_startX (by decide +kernel) [some (.ref b), some (.int x0), none] rfl (Nat.le_of_ble_eq_true rfl) ?_
  intro p e s m args below meth c Q A C F hT hr hnm
  first | refine z_rload_n C dX6_magnitude_0 rfl ?_ | refine z_nload_n C dX6_magnitude_0 rfl ?_ | refine z_aload_n C dX6_magnitude_0 rfl ?_
  refine z_iload_n C dX6_magnitude_1 rfl ?_
  refine z_callVX (q := (RX6, TX6, 8)) C (x_eventAt l hst Γ G x0 hC) kc_X6_magnitude_2 (by first | assumption | exact zU_same _ _ _) rfl rfl rfl rfl ky_X6_eventAt ⟨(Nat.le_of_ble_eq_true rfl), (Nat.le_of_ble_eq_true rfl)⟩ (Nat.le_of_ble_eq_true rfl) ⟨(Nat.le_of_ble_eq_true rfl), (Nat.le_of_ble_eq_true rfl)⟩ dX6_magnitude_2 (fun E2 G2 hx2 => z_out C F hT (Nat.le_of_ble_eq_true rfl) (Nat.le_of_ble_eq_true rfl) hx2) (fun _ _ hp => hp.elim)
abbrev rm_x_family : Room := { frames := 7, cells := 1, slots := 6, locals := 111 }
set_option maxHeartbeats 4000000 in
set_option maxRecDepth 100000 in
theorem x_family (l : Launch) (hst : l.stackTraces = false) (Γ : zY) (G : zG) {b : Nat} (x0 : Int32) (x1 : Int32) (x2 : Int32) (hC : zC0 Γ G b) : ZX l yX6_family cX6_family 8 (some FieldType.int) rm_x_family Γ [.ref b, .int x0, .int x1, .int x2] G (fun _ _ => False) (zIOB G) := by
  obtain ⟨ls, lp, le, w, r, q, lo, co, as, ap, ae, alo, hb, hR⟩ := id hC
  refine z_startX (by decide +kernel) [some (.ref b), some (.int x0), some (.int x1), some (.int x2), none, none, none, none] rfl (Nat.le_of_ble_eq_true rfl) ?_
  intro p e s m args below meth c Q A C F hT hr hnm
  first | refine z_rload_n C dX6_family_0 rfl ?_ | refine z_nload_n C dX6_family_0 rfl ?_ | refine z_aload_n C dX6_family_0 rfl ?_
  refine z_iload_n C dX6_family_1 rfl ?_
  refine z_callVX (q := (RX6, TX6, 8)) C (x_eventAt l hst Γ G x0 hC) kc_X6_family_2 (by first | assumption | exact zU_same _ _ _) rfl rfl rfl rfl ky_X6_eventAt ⟨(Nat.le_of_ble_eq_true rfl), (Nat.le_of_ble_eq_true rfl)⟩ (Nat.le_of_ble_eq_true rfl) ⟨(Nat.le_of_ble_eq_true rfl), (Nat.le_of_ble_eq_true rfl)⟩ dX6_family_2 (fun E2 G2 hx2 => z_out C F hT (Nat.le_of_ble_eq_true rfl) (Nat.le_of_ble_eq_true rfl) hx2) (fun _ _ hp => hp.elim)

