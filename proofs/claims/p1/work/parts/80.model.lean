theorem dX7_isIn_0 : decode cX7_isIn 0 = .ok (.iload_n 0, 1) := by decide +kernel
theorem dX7_isIn_1 : decode cX7_isIn 1 = .ok (.iload_n 1, 1) := by decide +kernel
theorem dX7_isIn_2 : decode cX7_isIn 2 = .ok (.if_icmp .lt 12, 3) := by decide +kernel
theorem dX7_isIn_5 : decode cX7_isIn 5 = .ok (.iload_n 0, 1) := by decide +kernel
theorem dX7_isIn_6 : decode cX7_isIn 6 = .ok (.iload_n 2, 1) := by decide +kernel
theorem dX7_isIn_7 : decode cX7_isIn 7 = .ok (.if_icmp .gt 7, 3) := by decide +kernel
theorem dX7_isIn_10 : decode cX7_isIn 10 = .ok (.iconst 1, 1) := by decide +kernel
theorem dX7_isIn_11 : decode cX7_isIn 11 = .ok (.goto 4, 3) := by decide +kernel
theorem dX7_isIn_14 : decode cX7_isIn 14 = .ok (.iconst 0, 1) := by decide +kernel
theorem dX7_isIn_15 : decode cX7_isIn 15 = .ok (.ireturn, 1) := by decide +kernel
theorem dX7_no_0 : decode cX7_no 0 = .ok (.aload_n 0, 1) := by decide +kernel
theorem dX7_no_1 : decode cX7_no 1 = .ok (.iload_n 1, 1) := by decide +kernel
theorem dX7_no_2 : decode cX7_no 2 = .ok (.putfield 54, 3) := by decide +kernel
theorem dX7_no_5 : decode cX7_no 5 = .ok (.iconst 0, 1) := by decide +kernel
theorem dX7_no_6 : decode cX7_no 6 = .ok (.ireturn, 1) := by decide +kernel
theorem kw_1168 : Cond.fieldLink "QuakeBenchModel" 54 "QuakeBenchModel" "thrown" "I" ∈ lw_all := zin1 1168 (by decide +kernel)
theorem dX7_thrown_0 : decode cX7_thrown 0 = .ok (.aload_n 0, 1) := by decide +kernel
theorem dX7_thrown_1 : decode cX7_thrown 1 = .ok (.getfield 54, 3) := by decide +kernel
theorem dX7_thrown_4 : decode cX7_thrown 4 = .ok (.ireturn, 1) := by decide +kernel
theorem dX7_isStation_0 : decode cX7_isStation 0 = .ok (.iload_n 1, 1) := by decide +kernel
theorem dX7_isStation_1 : decode cX7_isStation 1 = .ok (.iconst 0, 1) := by decide +kernel
theorem dX7_isStation_2 : decode cX7_isStation 2 = .ok (.aload_n 0, 1) := by decide +kernel
theorem dX7_isStation_3 : decode cX7_isStation 3 = .ok (.getfield 57, 3) := by decide +kernel
theorem dX7_isStation_6 : decode cX7_isStation 6 = .ok (.iconst 1, 1) := by decide +kernel
theorem dX7_isStation_7 : decode cX7_isStation 7 = .ok (.isub, 1) := by decide +kernel
theorem dX7_isStation_8 : decode cX7_isStation 8 = .ok (.invokestatic 60, 3) := by decide +kernel
theorem dX7_isStation_11 : decode cX7_isStation 11 = .ok (.ireturn, 1) := by decide +kernel
theorem kw_1171 : Cond.fieldLink "QuakeBenchModel" 57 "QuakeBenchModel" "stations" "I" ∈ lw_all := zin1 1171 (by decide +kernel)
theorem ky_X7_isIn : yX7_isIn.cls ≠ "java/lang/invoke/MethodHandle" ∧ yX7_isIn.cls ≠ "java/lang/invoke/VarHandle" ∧ (parseMethodDescriptor yX7_isIn.desc).map (fun d => d.parameters.length) = some 3 := by decide +kernel
theorem kc_X7_isStation_8 : ∀ w ∈ ([Cond.methodLink "QuakeBenchModel" 60 yX7_isIn, Cond.static yX7_isIn, Cond.initialized "QuakeBenchModel", Cond.code yX7_isIn prog_9_method_4_code 3 (Option.some Jvm.ClassFile.FieldType.boolean)] : List Cond), w ∈ lw_all := zin [1235, 1236, 61, 1237] (by decide +kernel)
theorem dX7_isPick_0 : decode cX7_isPick 0 = .ok (.iload_n 1, 1) := by decide +kernel
theorem dX7_isPick_1 : decode cX7_isPick 1 = .ok (.iconst 0, 1) := by decide +kernel
theorem dX7_isPick_2 : decode cX7_isPick 2 = .ok (.aload_n 0, 1) := by decide +kernel
theorem dX7_isPick_3 : decode cX7_isPick 3 = .ok (.getfield 64, 3) := by decide +kernel
theorem dX7_isPick_6 : decode cX7_isPick 6 = .ok (.iconst 1, 1) := by decide +kernel
theorem dX7_isPick_7 : decode cX7_isPick 7 = .ok (.isub, 1) := by decide +kernel
theorem dX7_isPick_8 : decode cX7_isPick 8 = .ok (.invokestatic 60, 3) := by decide +kernel
theorem dX7_isPick_11 : decode cX7_isPick 11 = .ok (.ireturn, 1) := by decide +kernel
theorem kw_1175 : Cond.fieldLink "QuakeBenchModel" 64 "QuakeBenchModel" "picks" "I" ∈ lw_all := zin1 1175 (by decide +kernel)
theorem kc_X7_isPick_8 : ∀ w ∈ ([Cond.methodLink "QuakeBenchModel" 60 yX7_isIn, Cond.static yX7_isIn, Cond.initialized "QuakeBenchModel", Cond.code yX7_isIn prog_9_method_4_code 3 (Option.some Jvm.ClassFile.FieldType.boolean)] : List Cond), w ∈ lw_all := zin [1235, 1236, 61, 1237] (by decide +kernel)
theorem dX7_isEvent_0 : decode cX7_isEvent 0 = .ok (.iload_n 1, 1) := by decide +kernel
theorem dX7_isEvent_1 : decode cX7_isEvent 1 = .ok (.iconst 0, 1) := by decide +kernel
theorem dX7_isEvent_2 : decode cX7_isEvent 2 = .ok (.aload_n 0, 1) := by decide +kernel
theorem dX7_isEvent_3 : decode cX7_isEvent 3 = .ok (.getfield 67, 3) := by decide +kernel
theorem dX7_isEvent_6 : decode cX7_isEvent 6 = .ok (.iconst 1, 1) := by decide +kernel
theorem dX7_isEvent_7 : decode cX7_isEvent 7 = .ok (.isub, 1) := by decide +kernel
theorem dX7_isEvent_8 : decode cX7_isEvent 8 = .ok (.invokestatic 60, 3) := by decide +kernel
theorem dX7_isEvent_11 : decode cX7_isEvent 11 = .ok (.ireturn, 1) := by decide +kernel
theorem kw_1182 : Cond.fieldLink "QuakeBenchModel" 67 "QuakeBenchModel" "events" "I" ∈ lw_all := zin1 1182 (by decide +kernel)
theorem kc_X7_isEvent_8 : ∀ w ∈ ([Cond.methodLink "QuakeBenchModel" 60 yX7_isIn, Cond.static yX7_isIn, Cond.initialized "QuakeBenchModel", Cond.code yX7_isIn prog_9_method_4_code 3 (Option.some Jvm.ClassFile.FieldType.boolean)] : List Cond), w ∈ lw_all := zin [1235, 1236, 61, 1237] (by decide +kernel)
theorem dX7_setDelay_0 : decode cX7_setDelay 0 = .ok (.aload_n 0, 1) := by decide +kernel
theorem dX7_setDelay_1 : decode cX7_setDelay 1 = .ok (.iconst 0, 1) := by decide +kernel
theorem dX7_setDelay_2 : decode cX7_setDelay 2 = .ok (.putfield 54, 3) := by decide +kernel
theorem dX7_setDelay_5 : decode cX7_setDelay 5 = .ok (.aload_n 0, 1) := by decide +kernel
theorem dX7_setDelay_6 : decode cX7_setDelay 6 = .ok (.iload_n 1, 1) := by decide +kernel
theorem dX7_setDelay_7 : decode cX7_setDelay 7 = .ok (.invokevirtual 74, 3) := by decide +kernel
theorem dX7_setDelay_10 : decode cX7_setDelay 10 = .ok (.ifCond .ne 9, 3) := by decide +kernel
theorem dX7_setDelay_13 : decode cX7_setDelay 13 = .ok (.aload_n 0, 1) := by decide +kernel
theorem dX7_setDelay_14 : decode cX7_setDelay 14 = .ok (.iconst 1, 1) := by decide +kernel
theorem dX7_setDelay_15 : decode cX7_setDelay 15 = .ok (.invokevirtual 70, 3) := by decide +kernel
theorem dX7_setDelay_18 : decode cX7_setDelay 18 = .ok (.ireturn, 1) := by decide +kernel
theorem dX7_setDelay_19 : decode cX7_setDelay 19 = .ok (.iload_n 2, 1) := by decide +kernel
theorem dX7_setDelay_20 : decode cX7_setDelay 20 = .ok (.sipush (-2000), 3) := by decide +kernel
theorem dX7_setDelay_23 : decode cX7_setDelay 23 = .ok (.sipush 2000, 3) := by decide +kernel
theorem dX7_setDelay_26 : decode cX7_setDelay 26 = .ok (.invokestatic 60, 3) := by decide +kernel
theorem dX7_setDelay_29 : decode cX7_setDelay 29 = .ok (.ifCond .ne 9, 3) := by decide +kernel
theorem dX7_setDelay_32 : decode cX7_setDelay 32 = .ok (.aload_n 0, 1) := by decide +kernel
theorem dX7_setDelay_33 : decode cX7_setDelay 33 = .ok (.iconst 2, 1) := by decide +kernel
theorem dX7_setDelay_34 : decode cX7_setDelay 34 = .ok (.invokevirtual 70, 3) := by decide +kernel
theorem dX7_setDelay_37 : decode cX7_setDelay 37 = .ok (.ireturn, 1) := by decide +kernel
theorem dX7_setDelay_38 : decode cX7_setDelay 38 = .ok (.aload_n 0, 1) := by decide +kernel
theorem dX7_setDelay_39 : decode cX7_setDelay 39 = .ok (.getfield 23, 3) := by decide +kernel
theorem dX7_setDelay_42 : decode cX7_setDelay 42 = .ok (.iload_n 1, 1) := by decide +kernel
theorem dX7_setDelay_43 : decode cX7_setDelay 43 = .ok (.iaload, 1) := by decide +kernel
theorem dX7_setDelay_44 : decode cX7_setDelay 44 = .ok (.istore_n 3, 1) := by decide +kernel
theorem dX7_setDelay_45 : decode cX7_setDelay 45 = .ok (.aload_n 0, 1) := by decide +kernel
theorem dX7_setDelay_46 : decode cX7_setDelay 46 = .ok (.getfield 23, 3) := by decide +kernel
theorem dX7_setDelay_49 : decode cX7_setDelay 49 = .ok (.iload_n 1, 1) := by decide +kernel
theorem dX7_setDelay_50 : decode cX7_setDelay 50 = .ok (.iload_n 2, 1) := by decide +kernel
theorem dX7_setDelay_51 : decode cX7_setDelay 51 = .ok (.iastore, 1) := by decide +kernel
theorem dX7_setDelay_52 : decode cX7_setDelay 52 = .ok (.iconst 0, 1) := by decide +kernel
theorem dX7_setDelay_53 : decode cX7_setDelay 53 = .ok (.istore 4, 2) := by decide +kernel
theorem dX7_setDelay_55 : decode cX7_setDelay 55 = .ok (.iload 4, 2) := by decide +kernel
theorem dX7_setDelay_57 : decode cX7_setDelay 57 = .ok (.aload_n 0, 1) := by decide +kernel
theorem dX7_setDelay_58 : decode cX7_setDelay 58 = .ok (.getfield 64, 3) := by decide +kernel
theorem dX7_setDelay_61 : decode cX7_setDelay 61 = .ok (.if_icmp .ge 44, 3) := by decide +kernel
theorem dX7_setDelay_64 : decode cX7_setDelay 64 = .ok (.aload_n 0, 1) := by decide +kernel
theorem dX7_setDelay_65 : decode cX7_setDelay 65 = .ok (.getfield 26, 3) := by decide +kernel
theorem dX7_setDelay_68 : decode cX7_setDelay 68 = .ok (.iload 4, 2) := by decide +kernel
theorem dX7_setDelay_70 : decode cX7_setDelay 70 = .ok (.iaload, 1) := by decide +kernel
theorem dX7_setDelay_71 : decode cX7_setDelay 71 = .ok (.iload_n 1, 1) := by decide +kernel
theorem dX7_setDelay_72 : decode cX7_setDelay 72 = .ok (.if_icmp .ne 27, 3) := by decide +kernel
theorem dX7_setDelay_75 : decode cX7_setDelay 75 = .ok (.aload_n 0, 1) := by decide +kernel
theorem dX7_setDelay_76 : decode cX7_setDelay 76 = .ok (.getfield 39, 3) := by decide +kernel
theorem dX7_setDelay_79 : decode cX7_setDelay 79 = .ok (.iload 4, 2) := by decide +kernel
theorem dX7_setDelay_81 : decode cX7_setDelay 81 = .ok (.iaload, 1) := by decide +kernel
theorem dX7_setDelay_82 : decode cX7_setDelay 82 = .ok (.iconst (-1), 1) := by decide +kernel
theorem dX7_setDelay_83 : decode cX7_setDelay 83 = .ok (.if_icmp .eq 16, 3) := by decide +kernel
theorem dX7_setDelay_86 : decode cX7_setDelay 86 = .ok (.aload_n 0, 1) := by decide +kernel
theorem dX7_setDelay_87 : decode cX7_setDelay 87 = .ok (.getfield 45, 3) := by decide +kernel
theorem dX7_setDelay_90 : decode cX7_setDelay 90 = .ok (.aload_n 0, 1) := by decide +kernel
theorem dX7_setDelay_91 : decode cX7_setDelay 91 = .ok (.getfield 39, 3) := by decide +kernel
theorem dX7_setDelay_94 : decode cX7_setDelay 94 = .ok (.iload 4, 2) := by decide +kernel
theorem dX7_setDelay_96 : decode cX7_setDelay 96 = .ok (.iaload, 1) := by decide +kernel
theorem dX7_setDelay_97 : decode cX7_setDelay 97 = .ok (.iconst 0, 1) := by decide +kernel
theorem dX7_setDelay_98 : decode cX7_setDelay 98 = .ok (.bastore, 1) := by decide +kernel
theorem dX7_setDelay_99 : decode cX7_setDelay 99 = .ok (.iinc 4 1, 3) := by decide +kernel
theorem dX7_setDelay_102 : decode cX7_setDelay 102 = .ok (.goto (-47), 3) := by decide +kernel
theorem dX7_setDelay_105 : decode cX7_setDelay 105 = .ok (.iload_n 3, 1) := by decide +kernel
theorem dX7_setDelay_106 : decode cX7_setDelay 106 = .ok (.ireturn, 1) := by decide +kernel
theorem ky_X7_isStation : yX7_isStation.cls ≠ "java/lang/invoke/MethodHandle" ∧ yX7_isStation.cls ≠ "java/lang/invoke/VarHandle" ∧ (parseMethodDescriptor yX7_isStation.desc).map (fun d => d.parameters.length) = some 1 := by decide +kernel
theorem kc_X7_setDelay_7 : ∀ w ∈ ([Cond.methodLink "QuakeBenchModel" 74 yX7_isStation, Cond.instanceMethod yX7_isStation, Cond.selects "QuakeBenchModel" yX7_isStation yX7_isStation, Cond.initialized "QuakeBenchModel", Cond.code yX7_isStation prog_9_method_5_code 2 (Option.some Jvm.ClassFile.FieldType.boolean)] : List Cond), w ∈ lw_all := zin [1246, 1248, 26, 61, 1249] (by decide +kernel)
theorem ky_X7_no : yX7_no.cls ≠ "java/lang/invoke/MethodHandle" ∧ yX7_no.cls ≠ "java/lang/invoke/VarHandle" ∧ (parseMethodDescriptor yX7_no.desc).map (fun d => d.parameters.length) = some 1 := by decide +kernel
theorem kc_X7_setDelay_15 : ∀ w ∈ ([Cond.methodLink "QuakeBenchModel" 70 yX7_no, Cond.instanceMethod yX7_no, Cond.selects "QuakeBenchModel" yX7_no yX7_no, Cond.initialized "QuakeBenchModel", Cond.code yX7_no prog_9_method_3_code 2 (Option.some Jvm.ClassFile.FieldType.int)] : List Cond), w ∈ lw_all := zin [1238, 1240, 25, 61, 1241] (by decide +kernel)
theorem dX7_way_0 : decode cX7_way 0 = .ok (.aload_n 0, 1) := by decide +kernel
theorem dX7_way_1 : decode cX7_way 1 = .ok (.iconst 0, 1) := by decide +kernel
theorem dX7_way_2 : decode cX7_way 2 = .ok (.putfield 54, 3) := by decide +kernel
theorem dX7_way_5 : decode cX7_way 5 = .ok (.aload_n 0, 1) := by decide +kernel
theorem dX7_way_6 : decode cX7_way 6 = .ok (.iload_n 1, 1) := by decide +kernel
theorem dX7_way_7 : decode cX7_way 7 = .ok (.invokevirtual 74, 3) := by decide +kernel
theorem dX7_way_10 : decode cX7_way 10 = .ok (.ifCond .ne 9, 3) := by decide +kernel
theorem dX7_way_13 : decode cX7_way 13 = .ok (.aload_n 0, 1) := by decide +kernel
theorem dX7_way_14 : decode cX7_way 14 = .ok (.iconst 1, 1) := by decide +kernel
theorem dX7_way_15 : decode cX7_way 15 = .ok (.invokevirtual 70, 3) := by decide +kernel
theorem dX7_way_18 : decode cX7_way 18 = .ok (.ireturn, 1) := by decide +kernel
theorem dX7_way_19 : decode cX7_way 19 = .ok (.iload_n 2, 1) := by decide +kernel
theorem dX7_way_20 : decode cX7_way 20 = .ok (.iload_n 3, 1) := by decide +kernel
theorem dX7_way_21 : decode cX7_way 21 = .ok (.iload 4, 2) := by decide +kernel
theorem dX7_way_23 : decode cX7_way 23 = .ok (.invokestatic 88, 3) := by decide +kernel
theorem dX7_way_26 : decode cX7_way 26 = .ok (.ifCond .eq 15, 3) := by decide +kernel
theorem dX7_way_29 : decode cX7_way 29 = .ok (.aload_n 0, 1) := by decide +kernel
theorem dX7_way_30 : decode cX7_way 30 = .ok (.iload_n 1, 1) := by decide +kernel
theorem dX7_way_31 : decode cX7_way 31 = .ok (.iload_n 2, 1) := by decide +kernel
theorem dX7_way_32 : decode cX7_way 32 = .ok (.iload_n 3, 1) := by decide +kernel
theorem dX7_way_33 : decode cX7_way 33 = .ok (.iload 4, 2) := by decide +kernel
theorem dX7_way_35 : decode cX7_way 35 = .ok (.invokevirtual 84, 3) := by decide +kernel
theorem dX7_way_38 : decode cX7_way 38 = .ok (.goto 8, 3) := by decide +kernel
theorem dX7_way_41 : decode cX7_way 41 = .ok (.aload_n 0, 1) := by decide +kernel
theorem dX7_way_42 : decode cX7_way 42 = .ok (.iconst 2, 1) := by decide +kernel
theorem dX7_way_43 : decode cX7_way 43 = .ok (.invokevirtual 70, 3) := by decide +kernel
theorem dX7_way_46 : decode cX7_way 46 = .ok (.ireturn, 1) := by decide +kernel
theorem kc_X7_way_7 : ∀ w ∈ ([Cond.methodLink "QuakeBenchModel" 74 yX7_isStation, Cond.instanceMethod yX7_isStation, Cond.selects "QuakeBenchModel" yX7_isStation yX7_isStation, Cond.initialized "QuakeBenchModel", Cond.code yX7_isStation prog_9_method_5_code 2 (Option.some Jvm.ClassFile.FieldType.boolean)] : List Cond), w ∈ lw_all := zin [1246, 1248, 26, 61, 1249] (by decide +kernel)
theorem kc_X7_way_15 : ∀ w ∈ ([Cond.methodLink "QuakeBenchModel" 70 yX7_no, Cond.instanceMethod yX7_no, Cond.selects "QuakeBenchModel" yX7_no yX7_no, Cond.initialized "QuakeBenchModel", Cond.code yX7_no prog_9_method_3_code 2 (Option.some Jvm.ClassFile.FieldType.int)] : List Cond), w ∈ lw_all := zin [1238, 1240, 25, 61, 1241] (by decide +kernel)
theorem dX7_needs_0 : decode cX7_needs 0 = .ok (.aload_n 0, 1) := by decide +kernel
theorem dX7_needs_1 : decode cX7_needs 1 = .ok (.iconst 0, 1) := by decide +kernel
theorem dX7_needs_2 : decode cX7_needs 2 = .ok (.putfield 54, 3) := by decide +kernel
theorem dX7_needs_5 : decode cX7_needs 5 = .ok (.aload_n 0, 1) := by decide +kernel
theorem dX7_needs_6 : decode cX7_needs 6 = .ok (.iload_n 1, 1) := by decide +kernel
theorem dX7_needs_7 : decode cX7_needs 7 = .ok (.invokevirtual 74, 3) := by decide +kernel
theorem dX7_needs_10 : decode cX7_needs 10 = .ok (.ifCond .ne 9, 3) := by decide +kernel
theorem dX7_needs_13 : decode cX7_needs 13 = .ok (.aload_n 0, 1) := by decide +kernel
theorem dX7_needs_14 : decode cX7_needs 14 = .ok (.iconst 1, 1) := by decide +kernel
theorem dX7_needs_15 : decode cX7_needs 15 = .ok (.invokevirtual 70, 3) := by decide +kernel
theorem dX7_needs_18 : decode cX7_needs 18 = .ok (.ireturn, 1) := by decide +kernel
theorem dX7_needs_19 : decode cX7_needs 19 = .ok (.iload_n 2, 1) := by decide +kernel
theorem dX7_needs_20 : decode cX7_needs 20 = .ok (.iload_n 3, 1) := by decide +kernel
theorem dX7_needs_21 : decode cX7_needs 21 = .ok (.iload 4, 2) := by decide +kernel
theorem dX7_needs_23 : decode cX7_needs 23 = .ok (.invokestatic 88, 3) := by decide +kernel
theorem dX7_needs_26 : decode cX7_needs 26 = .ok (.ifCond .eq 17, 3) := by decide +kernel
theorem dX7_needs_29 : decode cX7_needs 29 = .ok (.aload_n 0, 1) := by decide +kernel
theorem dX7_needs_30 : decode cX7_needs 30 = .ok (.iload_n 1, 1) := by decide +kernel
theorem dX7_needs_31 : decode cX7_needs 31 = .ok (.iload_n 2, 1) := by decide +kernel
theorem dX7_needs_32 : decode cX7_needs 32 = .ok (.iload_n 3, 1) := by decide +kernel
theorem dX7_needs_33 : decode cX7_needs 33 = .ok (.iload 4, 2) := by decide +kernel
theorem dX7_needs_35 : decode cX7_needs 35 = .ok (.iload 5, 2) := by decide +kernel
theorem dX7_needs_37 : decode cX7_needs 37 = .ok (.invokevirtual 91, 3) := by decide +kernel
theorem dX7_needs_40 : decode cX7_needs 40 = .ok (.goto 8, 3) := by decide +kernel
theorem dX7_needs_43 : decode cX7_needs 43 = .ok (.aload_n 0, 1) := by decide +kernel
theorem dX7_needs_44 : decode cX7_needs 44 = .ok (.iconst 2, 1) := by decide +kernel
theorem dX7_needs_45 : decode cX7_needs 45 = .ok (.invokevirtual 70, 3) := by decide +kernel
theorem dX7_needs_48 : decode cX7_needs 48 = .ok (.ireturn, 1) := by decide +kernel
theorem kc_X7_needs_7 : ∀ w ∈ ([Cond.methodLink "QuakeBenchModel" 74 yX7_isStation, Cond.instanceMethod yX7_isStation, Cond.selects "QuakeBenchModel" yX7_isStation yX7_isStation, Cond.initialized "QuakeBenchModel", Cond.code yX7_isStation prog_9_method_5_code 2 (Option.some Jvm.ClassFile.FieldType.boolean)] : List Cond), w ∈ lw_all := zin [1246, 1248, 26, 61, 1249] (by decide +kernel)
theorem kc_X7_needs_15 : ∀ w ∈ ([Cond.methodLink "QuakeBenchModel" 70 yX7_no, Cond.instanceMethod yX7_no, Cond.selects "QuakeBenchModel" yX7_no yX7_no, Cond.initialized "QuakeBenchModel", Cond.code yX7_no prog_9_method_3_code 2 (Option.some Jvm.ClassFile.FieldType.int)] : List Cond), w ∈ lw_all := zin [1238, 1240, 25, 61, 1241] (by decide +kernel)
theorem dX7_addPick_0 : decode cX7_addPick 0 = .ok (.aload_n 0, 1) := by decide +kernel
theorem dX7_addPick_1 : decode cX7_addPick 1 = .ok (.iconst 0, 1) := by decide +kernel
theorem dX7_addPick_2 : decode cX7_addPick 2 = .ok (.putfield 54, 3) := by decide +kernel
theorem dX7_addPick_5 : decode cX7_addPick 5 = .ok (.aload_n 0, 1) := by decide +kernel
theorem dX7_addPick_6 : decode cX7_addPick 6 = .ok (.iload_n 1, 1) := by decide +kernel
theorem dX7_addPick_7 : decode cX7_addPick 7 = .ok (.invokevirtual 74, 3) := by decide +kernel
theorem dX7_addPick_10 : decode cX7_addPick 10 = .ok (.ifCond .ne 9, 3) := by decide +kernel
theorem dX7_addPick_13 : decode cX7_addPick 13 = .ok (.aload_n 0, 1) := by decide +kernel
theorem dX7_addPick_14 : decode cX7_addPick 14 = .ok (.iconst 1, 1) := by decide +kernel
theorem dX7_addPick_15 : decode cX7_addPick 15 = .ok (.invokevirtual 70, 3) := by decide +kernel
theorem dX7_addPick_18 : decode cX7_addPick 18 = .ok (.ireturn, 1) := by decide +kernel
theorem dX7_addPick_19 : decode cX7_addPick 19 = .ok (.iload_n 3, 1) := by decide +kernel
theorem dX7_addPick_20 : decode cX7_addPick 20 = .ok (.iconst 0, 1) := by decide +kernel
theorem dX7_addPick_21 : decode cX7_addPick 21 = .ok (.ldc 95, 2) := by decide +kernel
theorem dX7_addPick_23 : decode cX7_addPick 23 = .ok (.invokestatic 60, 3) := by decide +kernel
theorem dX7_addPick_26 : decode cX7_addPick 26 = .ok (.ifCond .ne 9, 3) := by decide +kernel
theorem dX7_addPick_29 : decode cX7_addPick 29 = .ok (.aload_n 0, 1) := by decide +kernel
theorem dX7_addPick_30 : decode cX7_addPick 30 = .ok (.iconst 2, 1) := by decide +kernel
theorem dX7_addPick_31 : decode cX7_addPick 31 = .ok (.invokevirtual 70, 3) := by decide +kernel
theorem dX7_addPick_34 : decode cX7_addPick 34 = .ok (.ireturn, 1) := by decide +kernel
theorem dX7_addPick_35 : decode cX7_addPick 35 = .ok (.aload_n 0, 1) := by decide +kernel
theorem dX7_addPick_36 : decode cX7_addPick 36 = .ok (.getfield 64, 3) := by decide +kernel
theorem dX7_addPick_39 : decode cX7_addPick 39 = .ok (.bipush 80, 2) := by decide +kernel
theorem dX7_addPick_41 : decode cX7_addPick 41 = .ok (.if_icmp .ne 9, 3) := by decide +kernel
theorem dX7_addPick_44 : decode cX7_addPick 44 = .ok (.aload_n 0, 1) := by decide +kernel
theorem dX7_addPick_45 : decode cX7_addPick 45 = .ok (.iconst 3, 1) := by decide +kernel
theorem dX7_addPick_46 : decode cX7_addPick 46 = .ok (.invokevirtual 70, 3) := by decide +kernel
theorem dX7_addPick_49 : decode cX7_addPick 49 = .ok (.ireturn, 1) := by decide +kernel
theorem dX7_addPick_50 : decode cX7_addPick 50 = .ok (.aload_n 0, 1) := by decide +kernel
theorem dX7_addPick_51 : decode cX7_addPick 51 = .ok (.getfield 26, 3) := by decide +kernel
theorem dX7_addPick_54 : decode cX7_addPick 54 = .ok (.aload_n 0, 1) := by decide +kernel
theorem dX7_addPick_55 : decode cX7_addPick 55 = .ok (.getfield 64, 3) := by decide +kernel
theorem dX7_addPick_58 : decode cX7_addPick 58 = .ok (.iload_n 1, 1) := by decide +kernel
theorem dX7_addPick_59 : decode cX7_addPick 59 = .ok (.iastore, 1) := by decide +kernel
theorem dX7_addPick_60 : decode cX7_addPick 60 = .ok (.aload_n 0, 1) := by decide +kernel
theorem dX7_addPick_61 : decode cX7_addPick 61 = .ok (.getfield 29, 3) := by decide +kernel
theorem dX7_addPick_64 : decode cX7_addPick 64 = .ok (.aload_n 0, 1) := by decide +kernel
theorem dX7_addPick_65 : decode cX7_addPick 65 = .ok (.getfield 64, 3) := by decide +kernel
theorem dX7_addPick_68 : decode cX7_addPick 68 = .ok (.iload_n 2, 1) := by decide +kernel
theorem dX7_addPick_69 : decode cX7_addPick 69 = .ok (.bastore, 1) := by decide +kernel
theorem dX7_addPick_70 : decode cX7_addPick 70 = .ok (.aload_n 0, 1) := by decide +kernel
theorem dX7_addPick_71 : decode cX7_addPick 71 = .ok (.getfield 33, 3) := by decide +kernel
theorem dX7_addPick_74 : decode cX7_addPick 74 = .ok (.aload_n 0, 1) := by decide +kernel
theorem dX7_addPick_75 : decode cX7_addPick 75 = .ok (.getfield 64, 3) := by decide +kernel
theorem dX7_addPick_78 : decode cX7_addPick 78 = .ok (.iload_n 3, 1) := by decide +kernel
theorem dX7_addPick_79 : decode cX7_addPick 79 = .ok (.iastore, 1) := by decide +kernel
theorem dX7_addPick_80 : decode cX7_addPick 80 = .ok (.aload_n 0, 1) := by decide +kernel
theorem dX7_addPick_81 : decode cX7_addPick 81 = .ok (.getfield 36, 3) := by decide +kernel
theorem dX7_addPick_84 : decode cX7_addPick 84 = .ok (.aload_n 0, 1) := by decide +kernel
theorem dX7_addPick_85 : decode cX7_addPick 85 = .ok (.getfield 64, 3) := by decide +kernel
theorem dX7_addPick_88 : decode cX7_addPick 88 = .ok (.iconst 4, 1) := by decide +kernel
theorem dX7_addPick_89 : decode cX7_addPick 89 = .ok (.iastore, 1) := by decide +kernel
theorem dX7_addPick_90 : decode cX7_addPick 90 = .ok (.aload_n 0, 1) := by decide +kernel
theorem dX7_addPick_91 : decode cX7_addPick 91 = .ok (.getfield 39, 3) := by decide +kernel
theorem dX7_addPick_94 : decode cX7_addPick 94 = .ok (.aload_n 0, 1) := by decide +kernel
theorem dX7_addPick_95 : decode cX7_addPick 95 = .ok (.getfield 64, 3) := by decide +kernel
theorem dX7_addPick_98 : decode cX7_addPick 98 = .ok (.iconst (-1), 1) := by decide +kernel
theorem dX7_addPick_99 : decode cX7_addPick 99 = .ok (.iastore, 1) := by decide +kernel
theorem dX7_addPick_100 : decode cX7_addPick 100 = .ok (.aload_n 0, 1) := by decide +kernel
theorem dX7_addPick_101 : decode cX7_addPick 101 = .ok (.dup, 1) := by decide +kernel
theorem dX7_addPick_102 : decode cX7_addPick 102 = .ok (.getfield 64, 3) := by decide +kernel
theorem dX7_addPick_105 : decode cX7_addPick 105 = .ok (.iconst 1, 1) := by decide +kernel
theorem dX7_addPick_106 : decode cX7_addPick 106 = .ok (.iadd, 1) := by decide +kernel
theorem dX7_addPick_107 : decode cX7_addPick 107 = .ok (.putfield 64, 3) := by decide +kernel
theorem dX7_addPick_110 : decode cX7_addPick 110 = .ok (.aload_n 0, 1) := by decide +kernel
theorem dX7_addPick_111 : decode cX7_addPick 111 = .ok (.getfield 64, 3) := by decide +kernel
theorem dX7_addPick_114 : decode cX7_addPick 114 = .ok (.iconst 1, 1) := by decide +kernel
theorem dX7_addPick_115 : decode cX7_addPick 115 = .ok (.isub, 1) := by decide +kernel
theorem dX7_addPick_116 : decode cX7_addPick 116 = .ok (.ireturn, 1) := by decide +kernel
theorem kc_X7_addPick_7 : ∀ w ∈ ([Cond.methodLink "QuakeBenchModel" 74 yX7_isStation, Cond.instanceMethod yX7_isStation, Cond.selects "QuakeBenchModel" yX7_isStation yX7_isStation, Cond.initialized "QuakeBenchModel", Cond.code yX7_isStation prog_9_method_5_code 2 (Option.some Jvm.ClassFile.FieldType.boolean)] : List Cond), w ∈ lw_all := zin [1246, 1248, 26, 61, 1249] (by decide +kernel)
theorem kc_X7_addPick_15 : ∀ w ∈ ([Cond.methodLink "QuakeBenchModel" 70 yX7_no, Cond.instanceMethod yX7_no, Cond.selects "QuakeBenchModel" yX7_no yX7_no, Cond.initialized "QuakeBenchModel", Cond.code yX7_no prog_9_method_3_code 2 (Option.some Jvm.ClassFile.FieldType.int)] : List Cond), w ∈ lw_all := zin [1238, 1240, 25, 61, 1241] (by decide +kernel)
theorem dX7_setWeight_0 : decode cX7_setWeight 0 = .ok (.aload_n 0, 1) := by decide +kernel
theorem dX7_setWeight_1 : decode cX7_setWeight 1 = .ok (.iconst 0, 1) := by decide +kernel
theorem dX7_setWeight_2 : decode cX7_setWeight 2 = .ok (.putfield 54, 3) := by decide +kernel
theorem dX7_setWeight_5 : decode cX7_setWeight 5 = .ok (.aload_n 0, 1) := by decide +kernel
theorem dX7_setWeight_6 : decode cX7_setWeight 6 = .ok (.iload_n 1, 1) := by decide +kernel
theorem dX7_setWeight_7 : decode cX7_setWeight 7 = .ok (.invokevirtual 96, 3) := by decide +kernel
theorem dX7_setWeight_10 : decode cX7_setWeight 10 = .ok (.ifCond .ne 9, 3) := by decide +kernel
theorem dX7_setWeight_13 : decode cX7_setWeight 13 = .ok (.aload_n 0, 1) := by decide +kernel
theorem dX7_setWeight_14 : decode cX7_setWeight 14 = .ok (.iconst 1, 1) := by decide +kernel
theorem dX7_setWeight_15 : decode cX7_setWeight 15 = .ok (.invokevirtual 70, 3) := by decide +kernel
theorem dX7_setWeight_18 : decode cX7_setWeight 18 = .ok (.ireturn, 1) := by decide +kernel
theorem dX7_setWeight_19 : decode cX7_setWeight 19 = .ok (.iload_n 2, 1) := by decide +kernel
theorem dX7_setWeight_20 : decode cX7_setWeight 20 = .ok (.iconst 1, 1) := by decide +kernel
theorem dX7_setWeight_21 : decode cX7_setWeight 21 = .ok (.iconst 4, 1) := by decide +kernel
theorem dX7_setWeight_22 : decode cX7_setWeight 22 = .ok (.invokestatic 60, 3) := by decide +kernel
theorem dX7_setWeight_25 : decode cX7_setWeight 25 = .ok (.ifCond .ne 9, 3) := by decide +kernel
theorem dX7_setWeight_28 : decode cX7_setWeight 28 = .ok (.aload_n 0, 1) := by decide +kernel
theorem dX7_setWeight_29 : decode cX7_setWeight 29 = .ok (.iconst 2, 1) := by decide +kernel
theorem dX7_setWeight_30 : decode cX7_setWeight 30 = .ok (.invokevirtual 70, 3) := by decide +kernel
theorem dX7_setWeight_33 : decode cX7_setWeight 33 = .ok (.ireturn, 1) := by decide +kernel
theorem dX7_setWeight_34 : decode cX7_setWeight 34 = .ok (.aload_n 0, 1) := by decide +kernel
theorem dX7_setWeight_35 : decode cX7_setWeight 35 = .ok (.getfield 36, 3) := by decide +kernel
theorem dX7_setWeight_38 : decode cX7_setWeight 38 = .ok (.iload_n 1, 1) := by decide +kernel
theorem dX7_setWeight_39 : decode cX7_setWeight 39 = .ok (.iaload, 1) := by decide +kernel
theorem dX7_setWeight_40 : decode cX7_setWeight 40 = .ok (.istore_n 3, 1) := by decide +kernel
theorem dX7_setWeight_41 : decode cX7_setWeight 41 = .ok (.aload_n 0, 1) := by decide +kernel
theorem dX7_setWeight_42 : decode cX7_setWeight 42 = .ok (.getfield 36, 3) := by decide +kernel
theorem dX7_setWeight_45 : decode cX7_setWeight 45 = .ok (.iload_n 1, 1) := by decide +kernel
theorem dX7_setWeight_46 : decode cX7_setWeight 46 = .ok (.iload_n 2, 1) := by decide +kernel
theorem dX7_setWeight_47 : decode cX7_setWeight 47 = .ok (.iastore, 1) := by decide +kernel
theorem dX7_setWeight_48 : decode cX7_setWeight 48 = .ok (.aload_n 0, 1) := by decide +kernel
theorem dX7_setWeight_49 : decode cX7_setWeight 49 = .ok (.aload_n 0, 1) := by decide +kernel
theorem dX7_setWeight_50 : decode cX7_setWeight 50 = .ok (.getfield 39, 3) := by decide +kernel
theorem dX7_setWeight_53 : decode cX7_setWeight 53 = .ok (.iload_n 1, 1) := by decide +kernel
theorem dX7_setWeight_54 : decode cX7_setWeight 54 = .ok (.iaload, 1) := by decide +kernel
theorem dX7_setWeight_55 : decode cX7_setWeight 55 = .ok (.invokevirtual 99, 3) := by decide +kernel
theorem dX7_setWeight_58 : decode cX7_setWeight 58 = .ok (.iload_n 3, 1) := by decide +kernel
theorem dX7_setWeight_59 : decode cX7_setWeight 59 = .ok (.ireturn, 1) := by decide +kernel
theorem ky_X7_isPick : yX7_isPick.cls ≠ "java/lang/invoke/MethodHandle" ∧ yX7_isPick.cls ≠ "java/lang/invoke/VarHandle" ∧ (parseMethodDescriptor yX7_isPick.desc).map (fun d => d.parameters.length) = some 1 := by decide +kernel
theorem kc_X7_setWeight_7 : ∀ w ∈ ([Cond.methodLink "QuakeBenchModel" 96 yX7_isPick, Cond.instanceMethod yX7_isPick, Cond.selects "QuakeBenchModel" yX7_isPick yX7_isPick, Cond.initialized "QuakeBenchModel", Cond.code yX7_isPick prog_9_method_6_code 2 (Option.some Jvm.ClassFile.FieldType.boolean)] : List Cond), w ∈ lw_all := zin [1285, 1287, 29, 61, 1288] (by decide +kernel)
theorem kc_X7_setWeight_15 : ∀ w ∈ ([Cond.methodLink "QuakeBenchModel" 70 yX7_no, Cond.instanceMethod yX7_no, Cond.selects "QuakeBenchModel" yX7_no yX7_no, Cond.initialized "QuakeBenchModel", Cond.code yX7_no prog_9_method_3_code 2 (Option.some Jvm.ClassFile.FieldType.int)] : List Cond), w ∈ lw_all := zin [1238, 1240, 25, 61, 1241] (by decide +kernel)
theorem dX7_residual_0 : decode cX7_residual 0 = .ok (.aload_n 0, 1) := by decide +kernel
theorem dX7_residual_1 : decode cX7_residual 1 = .ok (.iconst 0, 1) := by decide +kernel
theorem dX7_residual_2 : decode cX7_residual 2 = .ok (.putfield 54, 3) := by decide +kernel
theorem dX7_residual_5 : decode cX7_residual 5 = .ok (.aload_n 0, 1) := by decide +kernel
theorem dX7_residual_6 : decode cX7_residual 6 = .ok (.iload_n 1, 1) := by decide +kernel
theorem dX7_residual_7 : decode cX7_residual 7 = .ok (.invokevirtual 96, 3) := by decide +kernel
theorem dX7_residual_10 : decode cX7_residual 10 = .ok (.ifCond .ne 9, 3) := by decide +kernel
theorem dX7_residual_13 : decode cX7_residual 13 = .ok (.aload_n 0, 1) := by decide +kernel
theorem dX7_residual_14 : decode cX7_residual 14 = .ok (.iconst 1, 1) := by decide +kernel
theorem dX7_residual_15 : decode cX7_residual 15 = .ok (.invokevirtual 70, 3) := by decide +kernel
theorem dX7_residual_18 : decode cX7_residual 18 = .ok (.ireturn, 1) := by decide +kernel
theorem dX7_residual_19 : decode cX7_residual 19 = .ok (.aload_n 0, 1) := by decide +kernel
theorem dX7_residual_20 : decode cX7_residual 20 = .ok (.getfield 39, 3) := by decide +kernel
theorem dX7_residual_23 : decode cX7_residual 23 = .ok (.iload_n 1, 1) := by decide +kernel
theorem dX7_residual_24 : decode cX7_residual 24 = .ok (.iaload, 1) := by decide +kernel
theorem dX7_residual_25 : decode cX7_residual 25 = .ok (.iconst (-1), 1) := by decide +kernel
theorem dX7_residual_26 : decode cX7_residual 26 = .ok (.if_icmp .eq 25, 3) := by decide +kernel
theorem dX7_residual_29 : decode cX7_residual 29 = .ok (.aload_n 0, 1) := by decide +kernel
theorem dX7_residual_30 : decode cX7_residual 30 = .ok (.getfield 45, 3) := by decide +kernel
theorem dX7_residual_33 : decode cX7_residual 33 = .ok (.aload_n 0, 1) := by decide +kernel
theorem dX7_residual_34 : decode cX7_residual 34 = .ok (.getfield 39, 3) := by decide +kernel
theorem dX7_residual_37 : decode cX7_residual 37 = .ok (.iload_n 1, 1) := by decide +kernel
theorem dX7_residual_38 : decode cX7_residual 38 = .ok (.iaload, 1) := by decide +kernel
theorem dX7_residual_39 : decode cX7_residual 39 = .ok (.baload, 1) := by decide +kernel
theorem dX7_residual_40 : decode cX7_residual 40 = .ok (.ifCond .eq 11, 3) := by decide +kernel
theorem dX7_residual_43 : decode cX7_residual 43 = .ok (.aload_n 0, 1) := by decide +kernel
theorem dX7_residual_44 : decode cX7_residual 44 = .ok (.iload_n 1, 1) := by decide +kernel
theorem dX7_residual_45 : decode cX7_residual 45 = .ok (.invokevirtual 172, 3) := by decide +kernel
theorem dX7_residual_48 : decode cX7_residual 48 = .ok (.goto 8, 3) := by decide +kernel
theorem dX7_residual_51 : decode cX7_residual 51 = .ok (.aload_n 0, 1) := by decide +kernel
theorem dX7_residual_52 : decode cX7_residual 52 = .ok (.iconst 2, 1) := by decide +kernel
theorem dX7_residual_53 : decode cX7_residual 53 = .ok (.invokevirtual 70, 3) := by decide +kernel
theorem dX7_residual_56 : decode cX7_residual 56 = .ok (.ireturn, 1) := by decide +kernel
theorem kc_X7_residual_7 : ∀ w ∈ ([Cond.methodLink "QuakeBenchModel" 96 yX7_isPick, Cond.instanceMethod yX7_isPick, Cond.selects "QuakeBenchModel" yX7_isPick yX7_isPick, Cond.initialized "QuakeBenchModel", Cond.code yX7_isPick prog_9_method_6_code 2 (Option.some Jvm.ClassFile.FieldType.boolean)] : List Cond), w ∈ lw_all := zin [1285, 1287, 29, 61, 1288] (by decide +kernel)
theorem kc_X7_residual_15 : ∀ w ∈ ([Cond.methodLink "QuakeBenchModel" 70 yX7_no, Cond.instanceMethod yX7_no, Cond.selects "QuakeBenchModel" yX7_no yX7_no, Cond.initialized "QuakeBenchModel", Cond.code yX7_no prog_9_method_3_code 2 (Option.some Jvm.ClassFile.FieldType.int)] : List Cond), w ∈ lw_all := zin [1238, 1240, 25, 61, 1241] (by decide +kernel)
theorem dX7_worst_0 : decode cX7_worst 0 = .ok (.aload_n 0, 1) := by decide +kernel
theorem dX7_worst_1 : decode cX7_worst 1 = .ok (.iconst 0, 1) := by decide +kernel
theorem dX7_worst_2 : decode cX7_worst 2 = .ok (.putfield 54, 3) := by decide +kernel
theorem dX7_worst_5 : decode cX7_worst 5 = .ok (.aload_n 0, 1) := by decide +kernel
theorem dX7_worst_6 : decode cX7_worst 6 = .ok (.iload_n 1, 1) := by decide +kernel
theorem dX7_worst_7 : decode cX7_worst 7 = .ok (.invokevirtual 107, 3) := by decide +kernel
theorem dX7_worst_10 : decode cX7_worst 10 = .ok (.ifCond .ne 9, 3) := by decide +kernel
theorem dX7_worst_13 : decode cX7_worst 13 = .ok (.aload_n 0, 1) := by decide +kernel
theorem dX7_worst_14 : decode cX7_worst 14 = .ok (.iconst 1, 1) := by decide +kernel
theorem dX7_worst_15 : decode cX7_worst 15 = .ok (.invokevirtual 70, 3) := by decide +kernel
theorem dX7_worst_18 : decode cX7_worst 18 = .ok (.ireturn, 1) := by decide +kernel
theorem dX7_worst_19 : decode cX7_worst 19 = .ok (.aload_n 0, 1) := by decide +kernel
theorem dX7_worst_20 : decode cX7_worst 20 = .ok (.getfield 45, 3) := by decide +kernel
theorem dX7_worst_23 : decode cX7_worst 23 = .ok (.iload_n 1, 1) := by decide +kernel
theorem dX7_worst_24 : decode cX7_worst 24 = .ok (.baload, 1) := by decide +kernel
theorem dX7_worst_25 : decode cX7_worst 25 = .ok (.ifCond .ne 9, 3) := by decide +kernel
theorem dX7_worst_28 : decode cX7_worst 28 = .ok (.aload_n 0, 1) := by decide +kernel
theorem dX7_worst_29 : decode cX7_worst 29 = .ok (.iconst 2, 1) := by decide +kernel
theorem dX7_worst_30 : decode cX7_worst 30 = .ok (.invokevirtual 70, 3) := by decide +kernel
theorem dX7_worst_33 : decode cX7_worst 33 = .ok (.ireturn, 1) := by decide +kernel
theorem dX7_worst_34 : decode cX7_worst 34 = .ok (.iconst (-1), 1) := by decide +kernel
theorem dX7_worst_35 : decode cX7_worst 35 = .ok (.istore_n 2, 1) := by decide +kernel
theorem dX7_worst_36 : decode cX7_worst 36 = .ok (.iconst 0, 1) := by decide +kernel
theorem dX7_worst_37 : decode cX7_worst 37 = .ok (.istore_n 3, 1) := by decide +kernel
theorem dX7_worst_38 : decode cX7_worst 38 = .ok (.iload_n 3, 1) := by decide +kernel
theorem dX7_worst_39 : decode cX7_worst 39 = .ok (.aload_n 0, 1) := by decide +kernel
theorem dX7_worst_40 : decode cX7_worst 40 = .ok (.getfield 64, 3) := by decide +kernel
theorem dX7_worst_43 : decode cX7_worst 43 = .ok (.if_icmp .ge 45, 3) := by decide +kernel
theorem dX7_worst_46 : decode cX7_worst 46 = .ok (.aload_n 0, 1) := by decide +kernel
theorem dX7_worst_47 : decode cX7_worst 47 = .ok (.getfield 39, 3) := by decide +kernel
theorem dX7_worst_50 : decode cX7_worst 50 = .ok (.iload_n 3, 1) := by decide +kernel
theorem dX7_worst_51 : decode cX7_worst 51 = .ok (.iaload, 1) := by decide +kernel
theorem dX7_worst_52 : decode cX7_worst 52 = .ok (.iload_n 1, 1) := by decide +kernel
theorem dX7_worst_53 : decode cX7_worst 53 = .ok (.if_icmp .ne 29, 3) := by decide +kernel
theorem dX7_worst_56 : decode cX7_worst 56 = .ok (.iload_n 2, 1) := by decide +kernel
theorem dX7_worst_57 : decode cX7_worst 57 = .ok (.iconst (-1), 1) := by decide +kernel
theorem dX7_worst_58 : decode cX7_worst 58 = .ok (.if_icmp .eq 22, 3) := by decide +kernel
theorem dX7_worst_61 : decode cX7_worst 61 = .ok (.aload_n 0, 1) := by decide +kernel
theorem dX7_worst_62 : decode cX7_worst 62 = .ok (.iload_n 3, 1) := by decide +kernel
theorem dX7_worst_63 : decode cX7_worst 63 = .ok (.invokevirtual 172, 3) := by decide +kernel
theorem dX7_worst_66 : decode cX7_worst 66 = .ok (.invokestatic 117, 3) := by decide +kernel
theorem dX7_worst_69 : decode cX7_worst 69 = .ok (.aload_n 0, 1) := by decide +kernel
theorem dX7_worst_70 : decode cX7_worst 70 = .ok (.iload_n 2, 1) := by decide +kernel
theorem dX7_worst_71 : decode cX7_worst 71 = .ok (.invokevirtual 172, 3) := by decide +kernel
theorem dX7_worst_74 : decode cX7_worst 74 = .ok (.invokestatic 117, 3) := by decide +kernel
theorem dX7_worst_77 : decode cX7_worst 77 = .ok (.if_icmp .le 5, 3) := by decide +kernel
theorem dX7_worst_80 : decode cX7_worst 80 = .ok (.iload_n 3, 1) := by decide +kernel
theorem dX7_worst_81 : decode cX7_worst 81 = .ok (.istore_n 2, 1) := by decide +kernel
theorem dX7_worst_82 : decode cX7_worst 82 = .ok (.iinc 3 1, 3) := by decide +kernel
theorem dX7_worst_85 : decode cX7_worst 85 = .ok (.goto (-47), 3) := by decide +kernel
theorem dX7_worst_88 : decode cX7_worst 88 = .ok (.iload_n 2, 1) := by decide +kernel
theorem dX7_worst_89 : decode cX7_worst 89 = .ok (.ireturn, 1) := by decide +kernel
theorem ky_X7_isEvent : yX7_isEvent.cls ≠ "java/lang/invoke/MethodHandle" ∧ yX7_isEvent.cls ≠ "java/lang/invoke/VarHandle" ∧ (parseMethodDescriptor yX7_isEvent.desc).map (fun d => d.parameters.length) = some 1 := by decide +kernel
theorem kc_X7_worst_7 : ∀ w ∈ ([Cond.methodLink "QuakeBenchModel" 107 yX7_isEvent, Cond.instanceMethod yX7_isEvent, Cond.selects "QuakeBenchModel" yX7_isEvent yX7_isEvent, Cond.initialized "QuakeBenchModel", Cond.code yX7_isEvent prog_9_method_7_code 2 (Option.some Jvm.ClassFile.FieldType.boolean)] : List Cond), w ∈ lw_all := zin [1309, 1311, 32, 61, 1312] (by decide +kernel)
theorem kc_X7_worst_15 : ∀ w ∈ ([Cond.methodLink "QuakeBenchModel" 70 yX7_no, Cond.instanceMethod yX7_no, Cond.selects "QuakeBenchModel" yX7_no yX7_no, Cond.initialized "QuakeBenchModel", Cond.code yX7_no prog_9_method_3_code 2 (Option.some Jvm.ClassFile.FieldType.int)] : List Cond), w ∈ lw_all := zin [1238, 1240, 25, 61, 1241] (by decide +kernel)
theorem dX7_gap_0 : decode cX7_gap 0 = .ok (.aload_n 0, 1) := by decide +kernel
theorem dX7_gap_1 : decode cX7_gap 1 = .ok (.iconst 0, 1) := by decide +kernel
theorem dX7_gap_2 : decode cX7_gap 2 = .ok (.putfield 54, 3) := by decide +kernel
theorem dX7_gap_5 : decode cX7_gap 5 = .ok (.aload_n 0, 1) := by decide +kernel
theorem dX7_gap_6 : decode cX7_gap 6 = .ok (.iload_n 1, 1) := by decide +kernel
theorem dX7_gap_7 : decode cX7_gap 7 = .ok (.invokevirtual 107, 3) := by decide +kernel
theorem dX7_gap_10 : decode cX7_gap 10 = .ok (.ifCond .ne 9, 3) := by decide +kernel
theorem dX7_gap_13 : decode cX7_gap 13 = .ok (.aload_n 0, 1) := by decide +kernel
theorem dX7_gap_14 : decode cX7_gap 14 = .ok (.iconst 1, 1) := by decide +kernel
theorem dX7_gap_15 : decode cX7_gap 15 = .ok (.invokevirtual 70, 3) := by decide +kernel
theorem dX7_gap_18 : decode cX7_gap 18 = .ok (.ireturn, 1) := by decide +kernel
theorem dX7_gap_19 : decode cX7_gap 19 = .ok (.aload_n 0, 1) := by decide +kernel
theorem dX7_gap_20 : decode cX7_gap 20 = .ok (.getfield 45, 3) := by decide +kernel
theorem dX7_gap_23 : decode cX7_gap 23 = .ok (.iload_n 1, 1) := by decide +kernel
theorem dX7_gap_24 : decode cX7_gap 24 = .ok (.baload, 1) := by decide +kernel
theorem dX7_gap_25 : decode cX7_gap 25 = .ok (.ifCond .eq 11, 3) := by decide +kernel
theorem dX7_gap_28 : decode cX7_gap 28 = .ok (.aload_n 0, 1) := by decide +kernel
theorem dX7_gap_29 : decode cX7_gap 29 = .ok (.iload_n 1, 1) := by decide +kernel
theorem dX7_gap_30 : decode cX7_gap 30 = .ok (.invokevirtual 181, 3) := by decide +kernel
theorem dX7_gap_33 : decode cX7_gap 33 = .ok (.goto 8, 3) := by decide +kernel
theorem dX7_gap_36 : decode cX7_gap 36 = .ok (.aload_n 0, 1) := by decide +kernel
theorem dX7_gap_37 : decode cX7_gap 37 = .ok (.iconst 2, 1) := by decide +kernel
theorem dX7_gap_38 : decode cX7_gap 38 = .ok (.invokevirtual 70, 3) := by decide +kernel
theorem dX7_gap_41 : decode cX7_gap 41 = .ok (.ireturn, 1) := by decide +kernel
theorem kc_X7_gap_7 : ∀ w ∈ ([Cond.methodLink "QuakeBenchModel" 107 yX7_isEvent, Cond.instanceMethod yX7_isEvent, Cond.selects "QuakeBenchModel" yX7_isEvent yX7_isEvent, Cond.initialized "QuakeBenchModel", Cond.code yX7_isEvent prog_9_method_7_code 2 (Option.some Jvm.ClassFile.FieldType.boolean)] : List Cond), w ∈ lw_all := zin [1309, 1311, 32, 61, 1312] (by decide +kernel)
theorem kc_X7_gap_15 : ∀ w ∈ ([Cond.methodLink "QuakeBenchModel" 70 yX7_no, Cond.instanceMethod yX7_no, Cond.selects "QuakeBenchModel" yX7_no yX7_no, Cond.initialized "QuakeBenchModel", Cond.code yX7_no prog_9_method_3_code 2 (Option.some Jvm.ClassFile.FieldType.int)] : List Cond), w ∈ lw_all := zin [1238, 1240, 25, 61, 1241] (by decide +kernel)
theorem dX7_setAmplitude_0 : decode cX7_setAmplitude 0 = .ok (.aload_n 0, 1) := by decide +kernel
theorem dX7_setAmplitude_1 : decode cX7_setAmplitude 1 = .ok (.iconst 0, 1) := by decide +kernel
theorem dX7_setAmplitude_2 : decode cX7_setAmplitude 2 = .ok (.putfield 54, 3) := by decide +kernel
theorem dX7_setAmplitude_5 : decode cX7_setAmplitude 5 = .ok (.aload_n 0, 1) := by decide +kernel
theorem dX7_setAmplitude_6 : decode cX7_setAmplitude 6 = .ok (.iload_n 1, 1) := by decide +kernel
theorem dX7_setAmplitude_7 : decode cX7_setAmplitude 7 = .ok (.invokevirtual 96, 3) := by decide +kernel
theorem dX7_setAmplitude_10 : decode cX7_setAmplitude 10 = .ok (.ifCond .ne 9, 3) := by decide +kernel
theorem dX7_setAmplitude_13 : decode cX7_setAmplitude 13 = .ok (.aload_n 0, 1) := by decide +kernel
theorem dX7_setAmplitude_14 : decode cX7_setAmplitude 14 = .ok (.iconst 1, 1) := by decide +kernel
theorem dX7_setAmplitude_15 : decode cX7_setAmplitude 15 = .ok (.invokevirtual 70, 3) := by decide +kernel
theorem dX7_setAmplitude_18 : decode cX7_setAmplitude 18 = .ok (.ireturn, 1) := by decide +kernel
theorem dX7_setAmplitude_19 : decode cX7_setAmplitude 19 = .ok (.iload_n 2, 1) := by decide +kernel
theorem dX7_setAmplitude_20 : decode cX7_setAmplitude 20 = .ok (.iconst 1, 1) := by decide +kernel
theorem dX7_setAmplitude_21 : decode cX7_setAmplitude 21 = .ok (.ldc 184, 2) := by decide +kernel
theorem dX7_setAmplitude_23 : decode cX7_setAmplitude 23 = .ok (.invokestatic 60, 3) := by decide +kernel
theorem dX7_setAmplitude_26 : decode cX7_setAmplitude 26 = .ok (.ifCond .ne 9, 3) := by decide +kernel
theorem dX7_setAmplitude_29 : decode cX7_setAmplitude 29 = .ok (.aload_n 0, 1) := by decide +kernel
theorem dX7_setAmplitude_30 : decode cX7_setAmplitude 30 = .ok (.iconst 2, 1) := by decide +kernel
theorem dX7_setAmplitude_31 : decode cX7_setAmplitude 31 = .ok (.invokevirtual 70, 3) := by decide +kernel
theorem dX7_setAmplitude_34 : decode cX7_setAmplitude 34 = .ok (.ireturn, 1) := by decide +kernel
theorem dX7_setAmplitude_35 : decode cX7_setAmplitude 35 = .ok (.aload_n 0, 1) := by decide +kernel
theorem dX7_setAmplitude_36 : decode cX7_setAmplitude 36 = .ok (.getfield 42, 3) := by decide +kernel
theorem dX7_setAmplitude_39 : decode cX7_setAmplitude 39 = .ok (.iload_n 1, 1) := by decide +kernel
theorem dX7_setAmplitude_40 : decode cX7_setAmplitude 40 = .ok (.iaload, 1) := by decide +kernel
theorem dX7_setAmplitude_41 : decode cX7_setAmplitude 41 = .ok (.istore_n 3, 1) := by decide +kernel
theorem dX7_setAmplitude_42 : decode cX7_setAmplitude 42 = .ok (.aload_n 0, 1) := by decide +kernel
theorem dX7_setAmplitude_43 : decode cX7_setAmplitude 43 = .ok (.getfield 42, 3) := by decide +kernel
theorem dX7_setAmplitude_46 : decode cX7_setAmplitude 46 = .ok (.iload_n 1, 1) := by decide +kernel
theorem dX7_setAmplitude_47 : decode cX7_setAmplitude 47 = .ok (.iload_n 2, 1) := by decide +kernel
theorem dX7_setAmplitude_48 : decode cX7_setAmplitude 48 = .ok (.iastore, 1) := by decide +kernel
theorem dX7_setAmplitude_49 : decode cX7_setAmplitude 49 = .ok (.iload_n 3, 1) := by decide +kernel
theorem dX7_setAmplitude_50 : decode cX7_setAmplitude 50 = .ok (.ireturn, 1) := by decide +kernel
theorem kc_X7_setAmplitude_7 : ∀ w ∈ ([Cond.methodLink "QuakeBenchModel" 96 yX7_isPick, Cond.instanceMethod yX7_isPick, Cond.selects "QuakeBenchModel" yX7_isPick yX7_isPick, Cond.initialized "QuakeBenchModel", Cond.code yX7_isPick prog_9_method_6_code 2 (Option.some Jvm.ClassFile.FieldType.boolean)] : List Cond), w ∈ lw_all := zin [1285, 1287, 29, 61, 1288] (by decide +kernel)
theorem kc_X7_setAmplitude_15 : ∀ w ∈ ([Cond.methodLink "QuakeBenchModel" 70 yX7_no, Cond.instanceMethod yX7_no, Cond.selects "QuakeBenchModel" yX7_no yX7_no, Cond.initialized "QuakeBenchModel", Cond.code yX7_no prog_9_method_3_code 2 (Option.some Jvm.ClassFile.FieldType.int)] : List Cond), w ∈ lw_all := zin [1238, 1240, 25, 61, 1241] (by decide +kernel)
theorem dX7_magnitude_0 : decode cX7_magnitude 0 = .ok (.aload_n 0, 1) := by decide +kernel
theorem dX7_magnitude_1 : decode cX7_magnitude 1 = .ok (.iconst 0, 1) := by decide +kernel
theorem dX7_magnitude_2 : decode cX7_magnitude 2 = .ok (.putfield 54, 3) := by decide +kernel
theorem dX7_magnitude_5 : decode cX7_magnitude 5 = .ok (.aload_n 0, 1) := by decide +kernel
theorem dX7_magnitude_6 : decode cX7_magnitude 6 = .ok (.iload_n 1, 1) := by decide +kernel
theorem dX7_magnitude_7 : decode cX7_magnitude 7 = .ok (.invokevirtual 107, 3) := by decide +kernel
theorem dX7_magnitude_10 : decode cX7_magnitude 10 = .ok (.ifCond .ne 9, 3) := by decide +kernel
theorem dX7_magnitude_13 : decode cX7_magnitude 13 = .ok (.aload_n 0, 1) := by decide +kernel
theorem dX7_magnitude_14 : decode cX7_magnitude 14 = .ok (.iconst 1, 1) := by decide +kernel
theorem dX7_magnitude_15 : decode cX7_magnitude 15 = .ok (.invokevirtual 70, 3) := by decide +kernel
theorem dX7_magnitude_18 : decode cX7_magnitude 18 = .ok (.ireturn, 1) := by decide +kernel
theorem dX7_magnitude_19 : decode cX7_magnitude 19 = .ok (.aload_n 0, 1) := by decide +kernel
theorem dX7_magnitude_20 : decode cX7_magnitude 20 = .ok (.getfield 45, 3) := by decide +kernel
theorem dX7_magnitude_23 : decode cX7_magnitude 23 = .ok (.iload_n 1, 1) := by decide +kernel
theorem dX7_magnitude_24 : decode cX7_magnitude 24 = .ok (.baload, 1) := by decide +kernel
theorem dX7_magnitude_25 : decode cX7_magnitude 25 = .ok (.ifCond .eq 11, 3) := by decide +kernel
theorem dX7_magnitude_28 : decode cX7_magnitude 28 = .ok (.aload_n 0, 1) := by decide +kernel
theorem dX7_magnitude_29 : decode cX7_magnitude 29 = .ok (.iload_n 1, 1) := by decide +kernel
theorem dX7_magnitude_30 : decode cX7_magnitude 30 = .ok (.invokevirtual 188, 3) := by decide +kernel
theorem dX7_magnitude_33 : decode cX7_magnitude 33 = .ok (.goto 8, 3) := by decide +kernel
theorem dX7_magnitude_36 : decode cX7_magnitude 36 = .ok (.aload_n 0, 1) := by decide +kernel
theorem dX7_magnitude_37 : decode cX7_magnitude 37 = .ok (.iconst 2, 1) := by decide +kernel
theorem dX7_magnitude_38 : decode cX7_magnitude 38 = .ok (.invokevirtual 70, 3) := by decide +kernel
theorem dX7_magnitude_41 : decode cX7_magnitude 41 = .ok (.ireturn, 1) := by decide +kernel
theorem kc_X7_magnitude_7 : ∀ w ∈ ([Cond.methodLink "QuakeBenchModel" 107 yX7_isEvent, Cond.instanceMethod yX7_isEvent, Cond.selects "QuakeBenchModel" yX7_isEvent yX7_isEvent, Cond.initialized "QuakeBenchModel", Cond.code yX7_isEvent prog_9_method_7_code 2 (Option.some Jvm.ClassFile.FieldType.boolean)] : List Cond), w ∈ lw_all := zin [1309, 1311, 32, 61, 1312] (by decide +kernel)
theorem kc_X7_magnitude_15 : ∀ w ∈ ([Cond.methodLink "QuakeBenchModel" 70 yX7_no, Cond.instanceMethod yX7_no, Cond.selects "QuakeBenchModel" yX7_no yX7_no, Cond.initialized "QuakeBenchModel", Cond.code yX7_no prog_9_method_3_code 2 (Option.some Jvm.ClassFile.FieldType.int)] : List Cond), w ∈ lw_all := zin [1238, 1240, 25, 61, 1241] (by decide +kernel)
theorem dX7_family_0 : decode cX7_family 0 = .ok (.aload_n 0, 1) := by decide +kernel
theorem dX7_family_1 : decode cX7_family 1 = .ok (.iconst 0, 1) := by decide +kernel
theorem dX7_family_2 : decode cX7_family 2 = .ok (.putfield 54, 3) := by decide +kernel
theorem dX7_family_5 : decode cX7_family 5 = .ok (.aload_n 0, 1) := by decide +kernel
theorem dX7_family_6 : decode cX7_family 6 = .ok (.iload_n 1, 1) := by decide +kernel
theorem dX7_family_7 : decode cX7_family 7 = .ok (.invokevirtual 107, 3) := by decide +kernel
theorem dX7_family_10 : decode cX7_family 10 = .ok (.ifCond .ne 9, 3) := by decide +kernel
theorem dX7_family_13 : decode cX7_family 13 = .ok (.aload_n 0, 1) := by decide +kernel
theorem dX7_family_14 : decode cX7_family 14 = .ok (.iconst 1, 1) := by decide +kernel
theorem dX7_family_15 : decode cX7_family 15 = .ok (.invokevirtual 70, 3) := by decide +kernel
theorem dX7_family_18 : decode cX7_family 18 = .ok (.ireturn, 1) := by decide +kernel
theorem dX7_family_19 : decode cX7_family 19 = .ok (.iload_n 2, 1) := by decide +kernel
theorem dX7_family_20 : decode cX7_family 20 = .ok (.iload_n 3, 1) := by decide +kernel
theorem dX7_family_21 : decode cX7_family 21 = .ok (.invokestatic 201, 3) := by decide +kernel
theorem dX7_family_24 : decode cX7_family 24 = .ok (.ifCond .ne 9, 3) := by decide +kernel
theorem dX7_family_27 : decode cX7_family 27 = .ok (.aload_n 0, 1) := by decide +kernel
theorem dX7_family_28 : decode cX7_family 28 = .ok (.iconst 2, 1) := by decide +kernel
theorem dX7_family_29 : decode cX7_family 29 = .ok (.invokevirtual 70, 3) := by decide +kernel
theorem dX7_family_32 : decode cX7_family 32 = .ok (.ireturn, 1) := by decide +kernel
theorem dX7_family_33 : decode cX7_family 33 = .ok (.aload_n 0, 1) := by decide +kernel
theorem dX7_family_34 : decode cX7_family 34 = .ok (.getfield 45, 3) := by decide +kernel
theorem dX7_family_37 : decode cX7_family 37 = .ok (.iload_n 1, 1) := by decide +kernel
theorem dX7_family_38 : decode cX7_family 38 = .ok (.baload, 1) := by decide +kernel
theorem dX7_family_39 : decode cX7_family 39 = .ok (.ifCond .ne 9, 3) := by decide +kernel
theorem dX7_family_42 : decode cX7_family 42 = .ok (.aload_n 0, 1) := by decide +kernel
theorem dX7_family_43 : decode cX7_family 43 = .ok (.iconst 3, 1) := by decide +kernel
theorem dX7_family_44 : decode cX7_family 44 = .ok (.invokevirtual 70, 3) := by decide +kernel
theorem dX7_family_47 : decode cX7_family 47 = .ok (.ireturn, 1) := by decide +kernel
theorem dX7_family_48 : decode cX7_family 48 = .ok (.aload_n 0, 1) := by decide +kernel
theorem dX7_family_49 : decode cX7_family 49 = .ok (.iload_n 2, 1) := by decide +kernel
theorem dX7_family_50 : decode cX7_family 50 = .ok (.iload_n 3, 1) := by decide +kernel
theorem dX7_family_51 : decode cX7_family 51 = .ok (.invokevirtual 204, 3) := by decide +kernel
theorem dX7_family_54 : decode cX7_family 54 = .ok (.astore 4, 2) := by decide +kernel
theorem dX7_family_56 : decode cX7_family 56 = .ok (.iconst 0, 1) := by decide +kernel
theorem dX7_family_57 : decode cX7_family 57 = .ok (.istore 5, 2) := by decide +kernel
theorem dX7_family_59 : decode cX7_family 59 = .ok (.iconst 0, 1) := by decide +kernel
theorem dX7_family_60 : decode cX7_family 60 = .ok (.istore 6, 2) := by decide +kernel
theorem dX7_family_62 : decode cX7_family 62 = .ok (.iload 6, 2) := by decide +kernel
theorem dX7_family_64 : decode cX7_family 64 = .ok (.aload_n 0, 1) := by decide +kernel
theorem dX7_family_65 : decode cX7_family 65 = .ok (.getfield 67, 3) := by decide +kernel
theorem dX7_family_68 : decode cX7_family 68 = .ok (.if_icmp .ge 31, 3) := by decide +kernel
theorem dX7_family_71 : decode cX7_family 71 = .ok (.iload 5, 2) := by decide +kernel
theorem dX7_family_73 : decode cX7_family 73 = .ok (.aload 4, 2) := by decide +kernel
theorem dX7_family_75 : decode cX7_family 75 = .ok (.iload 6, 2) := by decide +kernel
theorem dX7_family_77 : decode cX7_family 77 = .ok (.iaload, 1) := by decide +kernel
theorem dX7_family_78 : decode cX7_family 78 = .ok (.aload 4, 2) := by decide +kernel
theorem dX7_family_80 : decode cX7_family 80 = .ok (.iload_n 1, 1) := by decide +kernel
theorem dX7_family_81 : decode cX7_family 81 = .ok (.iaload, 1) := by decide +kernel
theorem dX7_family_82 : decode cX7_family 82 = .ok (.if_icmp .ne 7, 3) := by decide +kernel
theorem dX7_family_85 : decode cX7_family 85 = .ok (.iconst 1, 1) := by decide +kernel
theorem dX7_family_86 : decode cX7_family 86 = .ok (.goto 4, 3) := by decide +kernel
theorem dX7_family_89 : decode cX7_family 89 = .ok (.iconst 0, 1) := by decide +kernel
theorem dX7_family_90 : decode cX7_family 90 = .ok (.iadd, 1) := by decide +kernel
theorem dX7_family_91 : decode cX7_family 91 = .ok (.istore 5, 2) := by decide +kernel
theorem dX7_family_93 : decode cX7_family 93 = .ok (.iinc 6 1, 3) := by decide +kernel
theorem dX7_family_96 : decode cX7_family 96 = .ok (.goto (-34), 3) := by decide +kernel
theorem dX7_family_99 : decode cX7_family 99 = .ok (.iload 5, 2) := by decide +kernel
theorem dX7_family_101 : decode cX7_family 101 = .ok (.ireturn, 1) := by decide +kernel
theorem kc_X7_family_7 : ∀ w ∈ ([Cond.methodLink "QuakeBenchModel" 107 yX7_isEvent, Cond.instanceMethod yX7_isEvent, Cond.selects "QuakeBenchModel" yX7_isEvent yX7_isEvent, Cond.initialized "QuakeBenchModel", Cond.code yX7_isEvent prog_9_method_7_code 2 (Option.some Jvm.ClassFile.FieldType.boolean)] : List Cond), w ∈ lw_all := zin [1309, 1311, 32, 61, 1312] (by decide +kernel)
theorem kc_X7_family_15 : ∀ w ∈ ([Cond.methodLink "QuakeBenchModel" 70 yX7_no, Cond.instanceMethod yX7_no, Cond.selects "QuakeBenchModel" yX7_no yX7_no, Cond.initialized "QuakeBenchModel", Cond.code yX7_no prog_9_method_3_code 2 (Option.some Jvm.ClassFile.FieldType.int)] : List Cond), w ∈ lw_all := zin [1238, 1240, 25, 61, 1241] (by decide +kernel)
theorem dX7_pick_0 : decode cX7_pick 0 = .ok (.aload_n 0, 1) := by decide +kernel
theorem dX7_pick_1 : decode cX7_pick 1 = .ok (.iconst 0, 1) := by decide +kernel
theorem dX7_pick_2 : decode cX7_pick 2 = .ok (.putfield 54, 3) := by decide +kernel
theorem dX7_pick_5 : decode cX7_pick 5 = .ok (.aload_n 0, 1) := by decide +kernel
theorem dX7_pick_6 : decode cX7_pick 6 = .ok (.iload_n 1, 1) := by decide +kernel
theorem dX7_pick_7 : decode cX7_pick 7 = .ok (.invokevirtual 96, 3) := by decide +kernel
theorem dX7_pick_10 : decode cX7_pick 10 = .ok (.ifCond .eq 21, 3) := by decide +kernel
theorem dX7_pick_13 : decode cX7_pick 13 = .ok (.iload_n 2, 1) := by decide +kernel
theorem dX7_pick_14 : decode cX7_pick 14 = .ok (.iconst 0, 1) := by decide +kernel
theorem dX7_pick_15 : decode cX7_pick 15 = .ok (.iconst 4, 1) := by decide +kernel
theorem dX7_pick_16 : decode cX7_pick 16 = .ok (.invokestatic 60, 3) := by decide +kernel
theorem dX7_pick_19 : decode cX7_pick 19 = .ok (.ifCond .eq 12, 3) := by decide +kernel
theorem dX7_pick_22 : decode cX7_pick 22 = .ok (.aload_n 0, 1) := by decide +kernel
theorem dX7_pick_23 : decode cX7_pick 23 = .ok (.iload_n 1, 1) := by decide +kernel
theorem dX7_pick_24 : decode cX7_pick 24 = .ok (.iload_n 2, 1) := by decide +kernel
theorem dX7_pick_25 : decode cX7_pick 25 = .ok (.invokevirtual 103, 3) := by decide +kernel
theorem dX7_pick_28 : decode cX7_pick 28 = .ok (.goto 8, 3) := by decide +kernel
theorem dX7_pick_31 : decode cX7_pick 31 = .ok (.aload_n 0, 1) := by decide +kernel
theorem dX7_pick_32 : decode cX7_pick 32 = .ok (.iconst 1, 1) := by decide +kernel
theorem dX7_pick_33 : decode cX7_pick 33 = .ok (.invokevirtual 70, 3) := by decide +kernel
theorem dX7_pick_36 : decode cX7_pick 36 = .ok (.ireturn, 1) := by decide +kernel
theorem kc_X7_pick_7 : ∀ w ∈ ([Cond.methodLink "QuakeBenchModel" 96 yX7_isPick, Cond.instanceMethod yX7_isPick, Cond.selects "QuakeBenchModel" yX7_isPick yX7_isPick, Cond.initialized "QuakeBenchModel", Cond.code yX7_isPick prog_9_method_6_code 2 (Option.some Jvm.ClassFile.FieldType.boolean)] : List Cond), w ∈ lw_all := zin [1285, 1287, 29, 61, 1288] (by decide +kernel)
theorem kc_X7_pick_33 : ∀ w ∈ ([Cond.methodLink "QuakeBenchModel" 70 yX7_no, Cond.instanceMethod yX7_no, Cond.selects "QuakeBenchModel" yX7_no yX7_no, Cond.initialized "QuakeBenchModel", Cond.code yX7_no prog_9_method_3_code 2 (Option.some Jvm.ClassFile.FieldType.int)] : List Cond), w ∈ lw_all := zin [1238, 1240, 25, 61, 1241] (by decide +kernel)
theorem dX7_give_0 : decode cX7_give 0 = .ok (.aload_n 0, 1) := by decide +kernel
theorem dX7_give_1 : decode cX7_give 1 = .ok (.iconst 0, 1) := by decide +kernel
theorem dX7_give_2 : decode cX7_give 2 = .ok (.putfield 54, 3) := by decide +kernel
theorem dX7_give_5 : decode cX7_give 5 = .ok (.aload_n 0, 1) := by decide +kernel
theorem dX7_give_6 : decode cX7_give 6 = .ok (.iload_n 1, 1) := by decide +kernel
theorem dX7_give_7 : decode cX7_give 7 = .ok (.invokevirtual 96, 3) := by decide +kernel
theorem dX7_give_10 : decode cX7_give 10 = .ok (.ifCond .eq 16, 3) := by decide +kernel
theorem dX7_give_13 : decode cX7_give 13 = .ok (.iload_n 2, 1) := by decide +kernel
theorem dX7_give_14 : decode cX7_give 14 = .ok (.iconst (-1), 1) := by decide +kernel
theorem dX7_give_15 : decode cX7_give 15 = .ok (.if_icmp .eq 17, 3) := by decide +kernel
theorem dX7_give_18 : decode cX7_give 18 = .ok (.aload_n 0, 1) := by decide +kernel
theorem dX7_give_19 : decode cX7_give 19 = .ok (.iload_n 2, 1) := by decide +kernel
theorem dX7_give_20 : decode cX7_give 20 = .ok (.invokevirtual 107, 3) := by decide +kernel
theorem dX7_give_23 : decode cX7_give 23 = .ok (.ifCond .ne 9, 3) := by decide +kernel
theorem dX7_give_26 : decode cX7_give 26 = .ok (.aload_n 0, 1) := by decide +kernel
theorem dX7_give_27 : decode cX7_give 27 = .ok (.iconst 1, 1) := by decide +kernel
theorem dX7_give_28 : decode cX7_give 28 = .ok (.invokevirtual 70, 3) := by decide +kernel
theorem dX7_give_31 : decode cX7_give 31 = .ok (.ireturn, 1) := by decide +kernel
theorem dX7_give_32 : decode cX7_give 32 = .ok (.iload_n 2, 1) := by decide +kernel
theorem dX7_give_33 : decode cX7_give 33 = .ok (.iconst (-1), 1) := by decide +kernel
theorem dX7_give_34 : decode cX7_give 34 = .ok (.if_icmp .eq 18, 3) := by decide +kernel
theorem dX7_give_37 : decode cX7_give 37 = .ok (.aload_n 0, 1) := by decide +kernel
theorem dX7_give_38 : decode cX7_give 38 = .ok (.iload_n 2, 1) := by decide +kernel
theorem dX7_give_39 : decode cX7_give 39 = .ok (.iload_n 1, 1) := by decide +kernel
theorem dX7_give_40 : decode cX7_give 40 = .ok (.invokevirtual 110, 3) := by decide +kernel
theorem dX7_give_43 : decode cX7_give 43 = .ok (.ifCond .eq 9, 3) := by decide +kernel
theorem dX7_give_46 : decode cX7_give 46 = .ok (.aload_n 0, 1) := by decide +kernel
theorem dX7_give_47 : decode cX7_give 47 = .ok (.iconst 2, 1) := by decide +kernel
theorem dX7_give_48 : decode cX7_give 48 = .ok (.invokevirtual 70, 3) := by decide +kernel
theorem dX7_give_51 : decode cX7_give 51 = .ok (.ireturn, 1) := by decide +kernel
theorem dX7_give_52 : decode cX7_give 52 = .ok (.aload_n 0, 1) := by decide +kernel
theorem dX7_give_53 : decode cX7_give 53 = .ok (.getfield 39, 3) := by decide +kernel
theorem dX7_give_56 : decode cX7_give 56 = .ok (.iload_n 1, 1) := by decide +kernel
theorem dX7_give_57 : decode cX7_give 57 = .ok (.iaload, 1) := by decide +kernel
theorem dX7_give_58 : decode cX7_give 58 = .ok (.istore_n 3, 1) := by decide +kernel
theorem dX7_give_59 : decode cX7_give 59 = .ok (.aload_n 0, 1) := by decide +kernel
theorem dX7_give_60 : decode cX7_give 60 = .ok (.iload_n 3, 1) := by decide +kernel
theorem dX7_give_61 : decode cX7_give 61 = .ok (.invokevirtual 99, 3) := by decide +kernel
theorem dX7_give_64 : decode cX7_give 64 = .ok (.aload_n 0, 1) := by decide +kernel
theorem dX7_give_65 : decode cX7_give 65 = .ok (.iload_n 2, 1) := by decide +kernel
theorem dX7_give_66 : decode cX7_give 66 = .ok (.invokevirtual 99, 3) := by decide +kernel
theorem dX7_give_69 : decode cX7_give 69 = .ok (.aload_n 0, 1) := by decide +kernel
theorem dX7_give_70 : decode cX7_give 70 = .ok (.getfield 39, 3) := by decide +kernel
theorem dX7_give_73 : decode cX7_give 73 = .ok (.iload_n 1, 1) := by decide +kernel
theorem dX7_give_74 : decode cX7_give 74 = .ok (.iload_n 2, 1) := by decide +kernel
theorem dX7_give_75 : decode cX7_give 75 = .ok (.iastore, 1) := by decide +kernel
theorem dX7_give_76 : decode cX7_give 76 = .ok (.iload_n 3, 1) := by decide +kernel
theorem dX7_give_77 : decode cX7_give 77 = .ok (.ireturn, 1) := by decide +kernel
theorem kc_X7_give_7 : ∀ w ∈ ([Cond.methodLink "QuakeBenchModel" 96 yX7_isPick, Cond.instanceMethod yX7_isPick, Cond.selects "QuakeBenchModel" yX7_isPick yX7_isPick, Cond.initialized "QuakeBenchModel", Cond.code yX7_isPick prog_9_method_6_code 2 (Option.some Jvm.ClassFile.FieldType.boolean)] : List Cond), w ∈ lw_all := zin [1285, 1287, 29, 61, 1288] (by decide +kernel)
theorem kc_X7_give_28 : ∀ w ∈ ([Cond.methodLink "QuakeBenchModel" 70 yX7_no, Cond.instanceMethod yX7_no, Cond.selects "QuakeBenchModel" yX7_no yX7_no, Cond.initialized "QuakeBenchModel", Cond.code yX7_no prog_9_method_3_code 2 (Option.some Jvm.ClassFile.FieldType.int)] : List Cond), w ∈ lw_all := zin [1238, 1240, 25, 61, 1241] (by decide +kernel)
theorem dX7_event_0 : decode cX7_event 0 = .ok (.aload_n 0, 1) := by decide +kernel
theorem dX7_event_1 : decode cX7_event 1 = .ok (.iconst 0, 1) := by decide +kernel
theorem dX7_event_2 : decode cX7_event 2 = .ok (.putfield 54, 3) := by decide +kernel
theorem dX7_event_5 : decode cX7_event 5 = .ok (.aload_n 0, 1) := by decide +kernel
theorem dX7_event_6 : decode cX7_event 6 = .ok (.iload_n 1, 1) := by decide +kernel
theorem dX7_event_7 : decode cX7_event 7 = .ok (.invokevirtual 107, 3) := by decide +kernel
theorem dX7_event_10 : decode cX7_event 10 = .ok (.ifCond .eq 12, 3) := by decide +kernel
theorem dX7_event_13 : decode cX7_event 13 = .ok (.iload_n 2, 1) := by decide +kernel
theorem dX7_event_14 : decode cX7_event 14 = .ok (.iconst 0, 1) := by decide +kernel
theorem dX7_event_15 : decode cX7_event 15 = .ok (.iconst 5, 1) := by decide +kernel
theorem dX7_event_16 : decode cX7_event 16 = .ok (.invokestatic 60, 3) := by decide +kernel
theorem dX7_event_19 : decode cX7_event 19 = .ok (.ifCond .ne 9, 3) := by decide +kernel
theorem dX7_event_22 : decode cX7_event 22 = .ok (.aload_n 0, 1) := by decide +kernel
theorem dX7_event_23 : decode cX7_event 23 = .ok (.iconst 1, 1) := by decide +kernel
theorem dX7_event_24 : decode cX7_event 24 = .ok (.invokevirtual 70, 3) := by decide +kernel
theorem dX7_event_27 : decode cX7_event 27 = .ok (.ireturn, 1) := by decide +kernel
theorem dX7_event_28 : decode cX7_event 28 = .ok (.iload_n 2, 1) := by decide +kernel
theorem dX7_event_29 : decode cX7_event 29 = .ok (.iconst 3, 1) := by decide +kernel
theorem dX7_event_30 : decode cX7_event 30 = .ok (.if_icmp .le 22, 3) := by decide +kernel
theorem dX7_event_33 : decode cX7_event 33 = .ok (.iload_n 2, 1) := by decide +kernel
theorem dX7_event_34 : decode cX7_event 34 = .ok (.iconst 4, 1) := by decide +kernel
theorem dX7_event_35 : decode cX7_event 35 = .ok (.if_icmp .ne 11, 3) := by decide +kernel
theorem dX7_event_38 : decode cX7_event 38 = .ok (.aload_n 0, 1) := by decide +kernel
theorem dX7_event_39 : decode cX7_event 39 = .ok (.iload_n 1, 1) := by decide +kernel
theorem dX7_event_40 : decode cX7_event 40 = .ok (.invokevirtual 140, 3) := by decide +kernel
theorem dX7_event_43 : decode cX7_event 43 = .ok (.goto 8, 3) := by decide +kernel
theorem dX7_event_46 : decode cX7_event 46 = .ok (.aload_n 0, 1) := by decide +kernel
theorem dX7_event_47 : decode cX7_event 47 = .ok (.iload_n 1, 1) := by decide +kernel
theorem dX7_event_48 : decode cX7_event 48 = .ok (.invokevirtual 169, 3) := by decide +kernel
theorem dX7_event_51 : decode cX7_event 51 = .ok (.ireturn, 1) := by decide +kernel
theorem dX7_event_52 : decode cX7_event 52 = .ok (.aload_n 0, 1) := by decide +kernel
theorem dX7_event_53 : decode cX7_event 53 = .ok (.getfield 45, 3) := by decide +kernel
theorem dX7_event_56 : decode cX7_event 56 = .ok (.iload_n 1, 1) := by decide +kernel
theorem dX7_event_57 : decode cX7_event 57 = .ok (.baload, 1) := by decide +kernel
theorem dX7_event_58 : decode cX7_event 58 = .ok (.ifCond .eq 16, 3) := by decide +kernel
theorem dX7_event_61 : decode cX7_event 61 = .ok (.aload_n 0, 1) := by decide +kernel
theorem dX7_event_62 : decode cX7_event 62 = .ok (.getfield 48, 3) := by decide +kernel
theorem dX7_event_65 : decode cX7_event 65 = .ok (.iconst 4, 1) := by decide +kernel
theorem dX7_event_66 : decode cX7_event 66 = .ok (.iload_n 1, 1) := by decide +kernel
theorem dX7_event_67 : decode cX7_event 67 = .ok (.imul, 1) := by decide +kernel
theorem dX7_event_68 : decode cX7_event 68 = .ok (.iload_n 2, 1) := by decide +kernel
theorem dX7_event_69 : decode cX7_event 69 = .ok (.iadd, 1) := by decide +kernel
theorem dX7_event_70 : decode cX7_event 70 = .ok (.iaload, 1) := by decide +kernel
theorem dX7_event_71 : decode cX7_event 71 = .ok (.goto 8, 3) := by decide +kernel
theorem dX7_event_74 : decode cX7_event 74 = .ok (.aload_n 0, 1) := by decide +kernel
theorem dX7_event_75 : decode cX7_event 75 = .ok (.iconst 2, 1) := by decide +kernel
theorem dX7_event_76 : decode cX7_event 76 = .ok (.invokevirtual 70, 3) := by decide +kernel
theorem dX7_event_79 : decode cX7_event 79 = .ok (.ireturn, 1) := by decide +kernel
theorem kc_X7_event_7 : ∀ w ∈ ([Cond.methodLink "QuakeBenchModel" 107 yX7_isEvent, Cond.instanceMethod yX7_isEvent, Cond.selects "QuakeBenchModel" yX7_isEvent yX7_isEvent, Cond.initialized "QuakeBenchModel", Cond.code yX7_isEvent prog_9_method_7_code 2 (Option.some Jvm.ClassFile.FieldType.boolean)] : List Cond), w ∈ lw_all := zin [1309, 1311, 32, 61, 1312] (by decide +kernel)
theorem kc_X7_event_24 : ∀ w ∈ ([Cond.methodLink "QuakeBenchModel" 70 yX7_no, Cond.instanceMethod yX7_no, Cond.selects "QuakeBenchModel" yX7_no yX7_no, Cond.initialized "QuakeBenchModel", Cond.code yX7_no prog_9_method_3_code 2 (Option.some Jvm.ClassFile.FieldType.int)] : List Cond), w ∈ lw_all := zin [1238, 1240, 25, 61, 1241] (by decide +kernel)
theorem dX7_seek_0 : decode cX7_seek 0 = .ok (.aload_n 0, 1) := by decide +kernel
theorem dX7_seek_1 : decode cX7_seek 1 = .ok (.aload_n 0, 1) := by decide +kernel
theorem dX7_seek_2 : decode cX7_seek 2 = .ok (.iload_n 1, 1) := by decide +kernel
theorem dX7_seek_3 : decode cX7_seek 3 = .ok (.invokevirtual 107, 3) := by decide +kernel
theorem dX7_seek_6 : decode cX7_seek 6 = .ok (.ifCond .ne 7, 3) := by decide +kernel
theorem dX7_seek_9 : decode cX7_seek 9 = .ok (.iconst 1, 1) := by decide +kernel
theorem dX7_seek_10 : decode cX7_seek 10 = .ok (.goto 17, 3) := by decide +kernel
theorem dX7_seek_13 : decode cX7_seek 13 = .ok (.aload_n 0, 1) := by decide +kernel
theorem dX7_seek_14 : decode cX7_seek 14 = .ok (.iload_n 1, 1) := by decide +kernel
theorem dX7_seek_15 : decode cX7_seek 15 = .ok (.invokevirtual 169, 3) := by decide +kernel
theorem dX7_seek_18 : decode cX7_seek 18 = .ok (.iconst 3, 1) := by decide +kernel
theorem dX7_seek_19 : decode cX7_seek 19 = .ok (.if_icmp .ge 7, 3) := by decide +kernel
theorem dX7_seek_22 : decode cX7_seek 22 = .ok (.iconst 2, 1) := by decide +kernel
theorem dX7_seek_23 : decode cX7_seek 23 = .ok (.goto 4, 3) := by decide +kernel
theorem dX7_seek_26 : decode cX7_seek 26 = .ok (.iconst 0, 1) := by decide +kernel
theorem dX7_seek_27 : decode cX7_seek 27 = .ok (.putfield 54, 3) := by decide +kernel
theorem dX7_seek_30 : decode cX7_seek 30 = .ok (.aload_n 0, 1) := by decide +kernel
theorem dX7_seek_31 : decode cX7_seek 31 = .ok (.getfield 54, 3) := by decide +kernel
theorem dX7_seek_34 : decode cX7_seek 34 = .ok (.ifCond .ne 11, 3) := by decide +kernel
theorem dX7_seek_37 : decode cX7_seek 37 = .ok (.aload_n 0, 1) := by decide +kernel
theorem dX7_seek_38 : decode cX7_seek 38 = .ok (.iload_n 1, 1) := by decide +kernel
theorem dX7_seek_39 : decode cX7_seek 39 = .ok (.invokevirtual 126, 3) := by decide +kernel
theorem dX7_seek_42 : decode cX7_seek 42 = .ok (.goto 4, 3) := by decide +kernel
theorem dX7_seek_45 : decode cX7_seek 45 = .ok (.lconst 0, 1) := by decide +kernel
theorem dX7_seek_46 : decode cX7_seek 46 = .ok (.lreturn, 1) := by decide +kernel
theorem kc_X7_seek_3 : ∀ w ∈ ([Cond.methodLink "QuakeBenchModel" 107 yX7_isEvent, Cond.instanceMethod yX7_isEvent, Cond.selects "QuakeBenchModel" yX7_isEvent yX7_isEvent, Cond.initialized "QuakeBenchModel", Cond.code yX7_isEvent prog_9_method_7_code 2 (Option.some Jvm.ClassFile.FieldType.boolean)] : List Cond), w ∈ lw_all := zin [1309, 1311, 32, 61, 1312] (by decide +kernel)
theorem dX7_misfit_0 : decode cX7_misfit 0 = .ok (.aload_n 0, 1) := by decide +kernel
theorem dX7_misfit_1 : decode cX7_misfit 1 = .ok (.aload_n 0, 1) := by decide +kernel
theorem dX7_misfit_2 : decode cX7_misfit 2 = .ok (.iload_n 1, 1) := by decide +kernel
theorem dX7_misfit_3 : decode cX7_misfit 3 = .ok (.invokevirtual 107, 3) := by decide +kernel
theorem dX7_misfit_6 : decode cX7_misfit 6 = .ok (.ifCond .ne 7, 3) := by decide +kernel
theorem dX7_misfit_9 : decode cX7_misfit 9 = .ok (.iconst 1, 1) := by decide +kernel
theorem dX7_misfit_10 : decode cX7_misfit 10 = .ok (.goto 18, 3) := by decide +kernel
theorem dX7_misfit_13 : decode cX7_misfit 13 = .ok (.iload_n 2, 1) := by decide +kernel
theorem dX7_misfit_14 : decode cX7_misfit 14 = .ok (.iload_n 3, 1) := by decide +kernel
theorem dX7_misfit_15 : decode cX7_misfit 15 = .ok (.iload 4, 2) := by decide +kernel
theorem dX7_misfit_17 : decode cX7_misfit 17 = .ok (.invokestatic 88, 3) := by decide +kernel
theorem dX7_misfit_20 : decode cX7_misfit 20 = .ok (.ifCond .ne 7, 3) := by decide +kernel
theorem dX7_misfit_23 : decode cX7_misfit 23 = .ok (.iconst 2, 1) := by decide +kernel
theorem dX7_misfit_24 : decode cX7_misfit 24 = .ok (.goto 4, 3) := by decide +kernel
theorem dX7_misfit_27 : decode cX7_misfit 27 = .ok (.iconst 0, 1) := by decide +kernel
theorem dX7_misfit_28 : decode cX7_misfit 28 = .ok (.putfield 54, 3) := by decide +kernel
theorem dX7_misfit_31 : decode cX7_misfit 31 = .ok (.aload_n 0, 1) := by decide +kernel
theorem dX7_misfit_32 : decode cX7_misfit 32 = .ok (.getfield 54, 3) := by decide +kernel
theorem dX7_misfit_35 : decode cX7_misfit 35 = .ok (.ifCond .ne 15, 3) := by decide +kernel
theorem dX7_misfit_38 : decode cX7_misfit 38 = .ok (.aload_n 0, 1) := by decide +kernel
theorem dX7_misfit_39 : decode cX7_misfit 39 = .ok (.iload_n 1, 1) := by decide +kernel
theorem dX7_misfit_40 : decode cX7_misfit 40 = .ok (.iload_n 2, 1) := by decide +kernel
theorem dX7_misfit_41 : decode cX7_misfit 41 = .ok (.iload_n 3, 1) := by decide +kernel
theorem dX7_misfit_42 : decode cX7_misfit 42 = .ok (.iload 4, 2) := by decide +kernel
theorem dX7_misfit_44 : decode cX7_misfit 44 = .ok (.invokevirtual 159, 3) := by decide +kernel
theorem dX7_misfit_47 : decode cX7_misfit 47 = .ok (.goto 4, 3) := by decide +kernel
theorem dX7_misfit_50 : decode cX7_misfit 50 = .ok (.lconst 0, 1) := by decide +kernel
theorem dX7_misfit_51 : decode cX7_misfit 51 = .ok (.lreturn, 1) := by decide +kernel
theorem kc_X7_misfit_3 : ∀ w ∈ ([Cond.methodLink "QuakeBenchModel" 107 yX7_isEvent, Cond.instanceMethod yX7_isEvent, Cond.selects "QuakeBenchModel" yX7_isEvent yX7_isEvent, Cond.initialized "QuakeBenchModel", Cond.code yX7_isEvent prog_9_method_7_code 2 (Option.some Jvm.ClassFile.FieldType.boolean)] : List Cond), w ∈ lw_all := zin [1309, 1311, 32, 61, 1312] (by decide +kernel)
theorem dX7_spread_0 : decode cX7_spread 0 = .ok (.aload_n 0, 1) := by decide +kernel
theorem dX7_spread_1 : decode cX7_spread 1 = .ok (.aload_n 0, 1) := by decide +kernel
theorem dX7_spread_2 : decode cX7_spread 2 = .ok (.iload_n 1, 1) := by decide +kernel
theorem dX7_spread_3 : decode cX7_spread 3 = .ok (.invokevirtual 107, 3) := by decide +kernel
theorem dX7_spread_6 : decode cX7_spread 6 = .ok (.ifCond .ne 7, 3) := by decide +kernel
theorem dX7_spread_9 : decode cX7_spread 9 = .ok (.iconst 1, 1) := by decide +kernel
theorem dX7_spread_10 : decode cX7_spread 10 = .ok (.goto 17, 3) := by decide +kernel
theorem dX7_spread_13 : decode cX7_spread 13 = .ok (.aload_n 0, 1) := by decide +kernel
theorem dX7_spread_14 : decode cX7_spread 14 = .ok (.getfield 45, 3) := by decide +kernel
theorem dX7_spread_17 : decode cX7_spread 17 = .ok (.iload_n 1, 1) := by decide +kernel
theorem dX7_spread_18 : decode cX7_spread 18 = .ok (.baload, 1) := by decide +kernel
theorem dX7_spread_19 : decode cX7_spread 19 = .ok (.ifCond .ne 7, 3) := by decide +kernel
theorem dX7_spread_22 : decode cX7_spread 22 = .ok (.iconst 2, 1) := by decide +kernel
theorem dX7_spread_23 : decode cX7_spread 23 = .ok (.goto 4, 3) := by decide +kernel
theorem dX7_spread_26 : decode cX7_spread 26 = .ok (.iconst 0, 1) := by decide +kernel
theorem dX7_spread_27 : decode cX7_spread 27 = .ok (.putfield 54, 3) := by decide +kernel
theorem dX7_spread_30 : decode cX7_spread 30 = .ok (.aload_n 0, 1) := by decide +kernel
theorem dX7_spread_31 : decode cX7_spread 31 = .ok (.getfield 54, 3) := by decide +kernel
theorem dX7_spread_34 : decode cX7_spread 34 = .ok (.ifCond .eq 5, 3) := by decide +kernel
theorem dX7_spread_37 : decode cX7_spread 37 = .ok (.dconst 0, 1) := by decide +kernel
theorem dX7_spread_38 : decode cX7_spread 38 = .ok (.dreturn, 1) := by decide +kernel
theorem dX7_spread_39 : decode cX7_spread 39 = .ok (.lconst 0, 1) := by decide +kernel
theorem dX7_spread_40 : decode cX7_spread 40 = .ok (.lstore_n 2, 1) := by decide +kernel
theorem dX7_spread_41 : decode cX7_spread 41 = .ok (.iconst 0, 1) := by decide +kernel
theorem dX7_spread_42 : decode cX7_spread 42 = .ok (.istore 4, 2) := by decide +kernel
theorem dX7_spread_44 : decode cX7_spread 44 = .ok (.iconst 0, 1) := by decide +kernel
theorem dX7_spread_45 : decode cX7_spread 45 = .ok (.istore 5, 2) := by decide +kernel
theorem dX7_spread_47 : decode cX7_spread 47 = .ok (.iload 5, 2) := by decide +kernel
theorem dX7_spread_49 : decode cX7_spread 49 = .ok (.aload_n 0, 1) := by decide +kernel
theorem dX7_spread_50 : decode cX7_spread 50 = .ok (.getfield 64, 3) := by decide +kernel
theorem dX7_spread_53 : decode cX7_spread 53 = .ok (.if_icmp .ge 57, 3) := by decide +kernel
theorem dX7_spread_56 : decode cX7_spread 56 = .ok (.aload_n 0, 1) := by decide +kernel
theorem dX7_spread_57 : decode cX7_spread 57 = .ok (.getfield 39, 3) := by decide +kernel
theorem dX7_spread_60 : decode cX7_spread 60 = .ok (.iload 5, 2) := by decide +kernel
theorem dX7_spread_62 : decode cX7_spread 62 = .ok (.iaload, 1) := by decide +kernel
theorem dX7_spread_63 : decode cX7_spread 63 = .ok (.iload_n 1, 1) := by decide +kernel
theorem dX7_spread_64 : decode cX7_spread 64 = .ok (.if_icmp .eq 6, 3) := by decide +kernel
theorem dX7_spread_67 : decode cX7_spread 67 = .ok (.goto 37, 3) := by decide +kernel
theorem dX7_spread_70 : decode cX7_spread 70 = .ok (.lload_n 2, 1) := by decide +kernel
theorem dX7_spread_71 : decode cX7_spread 71 = .ok (.aload_n 0, 1) := by decide +kernel
theorem dX7_spread_72 : decode cX7_spread 72 = .ok (.getfield 36, 3) := by decide +kernel
theorem dX7_spread_75 : decode cX7_spread 75 = .ok (.iload 5, 2) := by decide +kernel
theorem dX7_spread_77 : decode cX7_spread 77 = .ok (.iaload, 1) := by decide +kernel
theorem dX7_spread_78 : decode cX7_spread 78 = .ok (.i2l, 1) := by decide +kernel
theorem dX7_spread_79 : decode cX7_spread 79 = .ok (.aload_n 0, 1) := by decide +kernel
theorem dX7_spread_80 : decode cX7_spread 80 = .ok (.iload 5, 2) := by decide +kernel
theorem dX7_spread_82 : decode cX7_spread 82 = .ok (.invokevirtual 172, 3) := by decide +kernel
theorem dX7_spread_85 : decode cX7_spread 85 = .ok (.invokestatic 117, 3) := by decide +kernel
theorem dX7_spread_88 : decode cX7_spread 88 = .ok (.i2l, 1) := by decide +kernel
theorem dX7_spread_89 : decode cX7_spread 89 = .ok (.lmul, 1) := by decide +kernel
theorem dX7_spread_90 : decode cX7_spread 90 = .ok (.ladd, 1) := by decide +kernel
theorem dX7_spread_91 : decode cX7_spread 91 = .ok (.lstore_n 2, 1) := by decide +kernel
theorem dX7_spread_92 : decode cX7_spread 92 = .ok (.iload 4, 2) := by decide +kernel
theorem dX7_spread_94 : decode cX7_spread 94 = .ok (.aload_n 0, 1) := by decide +kernel
theorem dX7_spread_95 : decode cX7_spread 95 = .ok (.getfield 36, 3) := by decide +kernel
theorem dX7_spread_98 : decode cX7_spread 98 = .ok (.iload 5, 2) := by decide +kernel
theorem dX7_spread_100 : decode cX7_spread 100 = .ok (.iaload, 1) := by decide +kernel
theorem dX7_spread_101 : decode cX7_spread 101 = .ok (.iadd, 1) := by decide +kernel
theorem dX7_spread_102 : decode cX7_spread 102 = .ok (.istore 4, 2) := by decide +kernel
theorem dX7_spread_104 : decode cX7_spread 104 = .ok (.iinc 5 1, 3) := by decide +kernel
theorem dX7_spread_107 : decode cX7_spread 107 = .ok (.goto (-60), 3) := by decide +kernel
theorem dX7_spread_110 : decode cX7_spread 110 = .ok (.lload_n 2, 1) := by decide +kernel
theorem dX7_spread_111 : decode cX7_spread 111 = .ok (.l2d, 1) := by decide +kernel
theorem dX7_spread_112 : decode cX7_spread 112 = .ok (.iload 4, 2) := by decide +kernel
theorem dX7_spread_114 : decode cX7_spread 114 = .ok (.i2d, 1) := by decide +kernel
theorem dX7_spread_115 : decode cX7_spread 115 = .ok (.ddiv, 1) := by decide +kernel
theorem dX7_spread_116 : decode cX7_spread 116 = .ok (.dreturn, 1) := by decide +kernel
theorem kc_X7_spread_3 : ∀ w ∈ ([Cond.methodLink "QuakeBenchModel" 107 yX7_isEvent, Cond.instanceMethod yX7_isEvent, Cond.selects "QuakeBenchModel" yX7_isEvent yX7_isEvent, Cond.initialized "QuakeBenchModel", Cond.code yX7_isEvent prog_9_method_7_code 2 (Option.some Jvm.ClassFile.FieldType.boolean)] : List Cond), w ∈ lw_all := zin [1309, 1311, 32, 61, 1312] (by decide +kernel)
/-! the reference: its constructor and its calls on a new object -/
abbrev oMo (th sp ss st : Int32) (xs ys ds : Nat) (pk : Int32) (sO aS ti we eO am : Nat) (ev : Int32) (aF fo sT : Nat) (bg : Int32) : va_E := .inr (8, [.int th, .int sp, .int ss, .int st, .ref xs, .ref ys, .ref ds, .int pk, .ref sO, .ref aS, .ref ti, .ref we, .ref eO, .ref am, .int ev, .ref aF, .ref fo, .ref sT, .int bg])
def s_in (x lo hi : Int32) : Int32 := if x < lo then 0 else if x > hi then 0 else 1
abbrev rm_m_isIn : Room := { frames := 0, cells := 0, slots := 0, locals := 0 }
set_option maxHeartbeats 4000000 in
set_option maxRecDepth 100000 in
theorem m_isIn (l : Launch) (Γ : zY) (G : zG) (x lo hi : Int32) : ZM l yX7_isIn cX7_isIn 3 (some FieldType.boolean) rm_m_isIn Γ [.int x, .int lo, .int hi] G (zRd G (.int (s_in x lo hi))) := by
  refine z_start (by decide +kernel) [some (.int x), some (.int lo), some (.int hi)] rfl (Nat.le_of_ble_eq_true rfl) ?_
  intro p e s m args below meth c Q A C F hr hnm
  refine z_iload_n C dX7_isIn_0 rfl ?_
  refine z_iload_n C dX7_isIn_1 rfl ?_
  refine z_icmp_lt (tgt := 14) C dX7_isIn_2 (by decide) (fun h2 => ?_) (fun h2 => ?_)
  · refine z_iconst (v := 0) C dX7_isIn_14 rfl ?_
    exact z_bret C F hr rfl (Nat.le_of_ble_eq_true rfl) (Nat.le_of_ble_eq_true rfl) ⟨by unfold s_in; rw [if_pos h2], rfl⟩ dX7_isIn_15
  · refine z_iload_n C dX7_isIn_5 rfl ?_
    refine z_iload_n C dX7_isIn_6 rfl ?_
    refine z_icmp_gt (tgt := 14) C dX7_isIn_7 (by decide) (fun h7 => ?_) (fun h7 => ?_)
    · refine z_iconst (v := 0) C dX7_isIn_14 rfl ?_
      exact z_bret C F hr rfl (Nat.le_of_ble_eq_true rfl) (Nat.le_of_ble_eq_true rfl) ⟨by unfold s_in; rw [if_neg h2, if_pos h7], rfl⟩ dX7_isIn_15
    · refine z_iconst (v := 1) C dX7_isIn_10 rfl ?_
      refine z_goto (tgt := 15) C dX7_isIn_11 (by decide) ?_
      exact z_bret C F hr rfl (Nat.le_of_ble_eq_true rfl) (Nat.le_of_ble_eq_true rfl) ⟨by unfold s_in; rw [if_neg h2, if_neg h7], rfl⟩ dX7_isIn_15
abbrev oM0 (th : Int32) (μ : Nat → Nat) : va_E := oMo th 6000 3468 0 (μ 0) (μ 1) (μ 2) 0 (μ 3) (μ 4) (μ 5) (μ 6) (μ 7) (μ 8) 0 (μ 9) (μ 10) (μ 11) 0
theorem s_in_none (x : Int32) : s_in x 0 (0 - 1) = 0 := by
  unfold s_in
  by_cases h : x < 0
  · rw [if_pos h]
  · rw [if_neg h]
    refine if_pos ?_
    rw [gt_iff_lt, Int32.lt_iff_toInt_lt]
    rw [Int32.lt_iff_toInt_lt] at h
    have h1 : ((0 : Int32) - 1).toInt = -1 := by decide
    have h2 : (0 : Int32).toInt = 0 := by decide
    omega
abbrev rm_m_no : Room := { frames := 0, cells := 0, slots := 0, locals := 0 }
set_option maxHeartbeats 4000000 in
set_option maxRecDepth 100000 in
theorem m_no (l : Launch) (Γ : zY) (G : zG) {mo : Nat} {th : Int32} {fs : List Value} (k : Int32) (hm : G mo = some (.inr (8, .int th :: fs))) : ZM l yX7_no cX7_no 2 (some FieldType.int) rm_m_no Γ [.ref mo, .int k] G (fun v G' => some (.int 0) = v ∧ zU G mo (.inr (8, .int k :: fs)) = G') := by
  refine z_start (by decide +kernel) [some (.ref mo), some (.int k)] rfl (Nat.le_of_ble_eq_true rfl) ?_
  intro p e s m args below meth c Q A C F hr hnm
  first | refine z_rload_n C dX7_no_0 rfl ?_ | refine z_nload_n C dX7_no_0 rfl ?_ | refine z_aload_n C dX7_no_0 rfl ?_
  refine z_iload_n C dX7_no_1 rfl ?_
  refine z_putf (T := TX7) (N := 19) C (by first | assumption | exact zU_same _ _ _) rfl 0 (by decide) kw_1168 (Or.inl rfl) rfl (tyX7_ok 0 (by decide)) rfl rfl (Nat.le_of_ble_eq_true rfl) dX7_no_2 ?_
  refine z_iconst (v := 0) C dX7_no_5 rfl ?_
  exact z_iret C F hr (Nat.le_of_ble_eq_true rfl) (Nat.le_of_ble_eq_true rfl) ⟨rfl, rfl⟩ dX7_no_6
abbrev rm_m_thrown : Room := { frames := 0, cells := 0, slots := 0, locals := 0 }
set_option maxHeartbeats 4000000 in
set_option maxRecDepth 100000 in
theorem m_thrown (l : Launch) (Γ : zY) (G : zG) {mo : Nat} {th : Int32} {fs : List Value} (hm : G mo = some (.inr (8, .int th :: fs))) : ZM l yX7_thrown cX7_thrown 1 (some FieldType.int) rm_m_thrown Γ [.ref mo] G (zRd G (.int th)) := by
  refine z_start (by decide +kernel) [some (.ref mo)] rfl (Nat.le_of_ble_eq_true rfl) ?_
  intro p e s m args below meth c Q A C F hr hnm
  first | refine z_rload_n C dX7_thrown_0 rfl ?_ | refine z_nload_n C dX7_thrown_0 rfl ?_ | refine z_aload_n C dX7_thrown_0 rfl ?_
  refine z_getf (T := TX7) (N := 19) C (by first | assumption | exact zU_same _ _ _) rfl 0 (by decide) kw_1168 (Or.inl rfl) rfl dX7_thrown_1 ?_
  exact z_iret C F hr (Nat.le_of_ble_eq_true rfl) (Nat.le_of_ble_eq_true rfl) ⟨rfl, rfl⟩ dX7_thrown_4
abbrev rm_m_isStation : Room := { frames := 1, cells := 0, slots := 0, locals := 22 }
set_option maxHeartbeats 4000000 in
set_option maxRecDepth 100000 in
theorem m_isStation (l : Launch) (Γ : zY) (G : zG) {mo : Nat} {th : Int32} {μ : Nat → Nat} (x : Int32) (hm : G mo = some (oM0 th μ)) : ZM l yX7_isStation cX7_isStation 2 (some FieldType.boolean) rm_m_isStation Γ [.ref mo, .int x] G (zRd G (.int 0)) := by
  refine z_start (by decide +kernel) [some (.ref mo), some (.int x)] rfl (Nat.le_of_ble_eq_true rfl) ?_
  intro p e s m args below meth c Q A C F hr hnm
  refine z_iload_n C dX7_isStation_0 rfl ?_
  refine z_iconst (v := 0) C dX7_isStation_1 rfl ?_
  first | refine z_rload_n C dX7_isStation_2 rfl ?_ | refine z_nload_n C dX7_isStation_2 rfl ?_ | refine z_aload_n C dX7_isStation_2 rfl ?_
  refine z_getf (T := TX7) (N := 19) C (by first | assumption | exact zU_same _ _ _) rfl 3 (by decide) kw_1171 (Or.inl rfl) rfl dX7_isStation_3 ?_
  refine z_iconst (v := 1) C dX7_isStation_6 rfl ?_
  refine z_isub C dX7_isStation_7 ?_
  refine z_callS C (m_isIn l Γ _ x 0 (0 - 1)) kc_X7_isStation_8 rfl rfl ky_X7_isIn ⟨(Nat.le_of_ble_eq_true rfl), (Nat.le_of_ble_eq_true rfl)⟩ (Nat.le_of_ble_eq_true rfl) ⟨(Nat.le_of_ble_eq_true rfl), (Nat.le_of_ble_eq_true rfl)⟩ dX7_isStation_8 (fun v8 G8 hp8 => ?_)
  obtain ⟨rfl, rfl⟩ := hp8
  rw [s_in_none]
  exact z_bret C F hr rfl (Nat.le_of_ble_eq_true rfl) (Nat.le_of_ble_eq_true rfl) ⟨rfl, rfl⟩ dX7_isStation_11
abbrev rm_m_isPick : Room := { frames := 1, cells := 0, slots := 0, locals := 22 }
set_option maxHeartbeats 4000000 in
set_option maxRecDepth 100000 in
theorem m_isPick (l : Launch) (Γ : zY) (G : zG) {mo : Nat} {th : Int32} {μ : Nat → Nat} (x : Int32) (hm : G mo = some (oM0 th μ)) : ZM l yX7_isPick cX7_isPick 2 (some FieldType.boolean) rm_m_isPick Γ [.ref mo, .int x] G (zRd G (.int 0)) := by
  refine z_start (by decide +kernel) [some (.ref mo), some (.int x)] rfl (Nat.le_of_ble_eq_true rfl) ?_
  intro p e s m args below meth c Q A C F hr hnm
  refine z_iload_n C dX7_isPick_0 rfl ?_
  refine z_iconst (v := 0) C dX7_isPick_1 rfl ?_
  first | refine z_rload_n C dX7_isPick_2 rfl ?_ | refine z_nload_n C dX7_isPick_2 rfl ?_ | refine z_aload_n C dX7_isPick_2 rfl ?_
  refine z_getf (T := TX7) (N := 19) C (by first | assumption | exact zU_same _ _ _) rfl 7 (by decide) kw_1175 (Or.inl rfl) rfl dX7_isPick_3 ?_
  refine z_iconst (v := 1) C dX7_isPick_6 rfl ?_
  refine z_isub C dX7_isPick_7 ?_
  refine z_callS C (m_isIn l Γ _ x 0 (0 - 1)) kc_X7_isPick_8 rfl rfl ky_X7_isIn ⟨(Nat.le_of_ble_eq_true rfl), (Nat.le_of_ble_eq_true rfl)⟩ (Nat.le_of_ble_eq_true rfl) ⟨(Nat.le_of_ble_eq_true rfl), (Nat.le_of_ble_eq_true rfl)⟩ dX7_isPick_8 (fun v8 G8 hp8 => ?_)
  obtain ⟨rfl, rfl⟩ := hp8
  rw [s_in_none]
  exact z_bret C F hr rfl (Nat.le_of_ble_eq_true rfl) (Nat.le_of_ble_eq_true rfl) ⟨rfl, rfl⟩ dX7_isPick_11
abbrev rm_m_isEvent : Room := { frames := 1, cells := 0, slots := 0, locals := 22 }
set_option maxHeartbeats 4000000 in
set_option maxRecDepth 100000 in
theorem m_isEvent (l : Launch) (Γ : zY) (G : zG) {mo : Nat} {th : Int32} {μ : Nat → Nat} (x : Int32) (hm : G mo = some (oM0 th μ)) : ZM l yX7_isEvent cX7_isEvent 2 (some FieldType.boolean) rm_m_isEvent Γ [.ref mo, .int x] G (zRd G (.int 0)) := by
  refine z_start (by decide +kernel) [some (.ref mo), some (.int x)] rfl (Nat.le_of_ble_eq_true rfl) ?_
  intro p e s m args below meth c Q A C F hr hnm
  refine z_iload_n C dX7_isEvent_0 rfl ?_
  refine z_iconst (v := 0) C dX7_isEvent_1 rfl ?_
  first | refine z_rload_n C dX7_isEvent_2 rfl ?_ | refine z_nload_n C dX7_isEvent_2 rfl ?_ | refine z_aload_n C dX7_isEvent_2 rfl ?_
  refine z_getf (T := TX7) (N := 19) C (by first | assumption | exact zU_same _ _ _) rfl 14 (by decide) kw_1182 (Or.inl rfl) rfl dX7_isEvent_3 ?_
  refine z_iconst (v := 1) C dX7_isEvent_6 rfl ?_
  refine z_isub C dX7_isEvent_7 ?_
  refine z_callS C (m_isIn l Γ _ x 0 (0 - 1)) kc_X7_isEvent_8 rfl rfl ky_X7_isIn ⟨(Nat.le_of_ble_eq_true rfl), (Nat.le_of_ble_eq_true rfl)⟩ (Nat.le_of_ble_eq_true rfl) ⟨(Nat.le_of_ble_eq_true rfl), (Nat.le_of_ble_eq_true rfl)⟩ dX7_isEvent_8 (fun v8 G8 hp8 => ?_)
  obtain ⟨rfl, rfl⟩ := hp8
  rw [s_in_none]
  exact z_bret C F hr rfl (Nat.le_of_ble_eq_true rfl) (Nat.le_of_ble_eq_true rfl) ⟨rfl, rfl⟩ dX7_isEvent_11
abbrev rm_m_setDelay : Room := { frames := 2, cells := 0, slots := 0, locals := 43 }
set_option maxHeartbeats 4000000 in
set_option maxRecDepth 100000 in
theorem m_setDelay (l : Launch) (Γ : zY) (G : zG) {mo : Nat} {th : Int32} {μ : Nat → Nat} (x0 : Int32) (x1 : Int32) (hm : G mo = some (oM0 th μ)) : ZM l yX7_setDelay cX7_setDelay 5 (some FieldType.int) rm_m_setDelay Γ [.ref mo, .int x0, .int x1] G (fun v G' => some (.int 0) = v ∧ zU G mo (oM0 1 μ) = G') := by
  refine z_start (by decide +kernel) [some (.ref mo), some (.int x0), some (.int x1)] rfl (Nat.le_of_ble_eq_true rfl) ?_
  intro p e s m args below meth c Q A C F hr hnm
  first | refine z_rload_n C dX7_setDelay_0 rfl ?_ | refine z_nload_n C dX7_setDelay_0 rfl ?_ | refine z_aload_n C dX7_setDelay_0 rfl ?_
  refine z_iconst (v := 0) C dX7_setDelay_1 rfl ?_
  refine z_putf (T := TX7) (N := 19) C (by first | assumption | exact zU_same _ _ _) rfl 0 (by decide) kw_1168 (Or.inl rfl) rfl (tyX7_ok 0 (by decide)) rfl rfl (Nat.le_of_ble_eq_true rfl) dX7_setDelay_2 ?_
  first | refine z_rload_n C dX7_setDelay_5 rfl ?_ | refine z_nload_n C dX7_setDelay_5 rfl ?_ | refine z_aload_n C dX7_setDelay_5 rfl ?_
  refine z_iload_n C dX7_setDelay_6 rfl ?_
  refine z_callV (q := (RX7, TX7, 19)) C (m_isStation l Γ _ x0 (zU_same G mo (oM0 0 μ))) kc_X7_setDelay_7 (by first | assumption | exact zU_same _ _ _) rfl rfl rfl rfl ky_X7_isStation ⟨(Nat.le_of_ble_eq_true rfl), (Nat.le_of_ble_eq_true rfl)⟩ (Nat.le_of_ble_eq_true rfl) ⟨(Nat.le_of_ble_eq_true rfl), (Nat.le_of_ble_eq_true rfl)⟩ dX7_setDelay_7 (fun v7 G7 hp7 => ?_)
  obtain ⟨rfl, rfl⟩ := hp7
  refine z_if_ne (tgt := 19) C dX7_setDelay_10 (by decide) (fun h10 => ?_) (fun h10 => ?_)
  · exact absurd rfl h10
  · first | refine z_rload_n C dX7_setDelay_13 rfl ?_ | refine z_nload_n C dX7_setDelay_13 rfl ?_ | refine z_aload_n C dX7_setDelay_13 rfl ?_
    refine z_iconst (v := 1) C dX7_setDelay_14 rfl ?_
    refine z_callV (q := (RX7, TX7, 19)) C (m_no l Γ _ 1 (zU_same G mo (oM0 0 μ))) kc_X7_setDelay_15 (by first | assumption | exact zU_same _ _ _) rfl rfl rfl rfl ky_X7_no ⟨(Nat.le_of_ble_eq_true rfl), (Nat.le_of_ble_eq_true rfl)⟩ (Nat.le_of_ble_eq_true rfl) ⟨(Nat.le_of_ble_eq_true rfl), (Nat.le_of_ble_eq_true rfl)⟩ dX7_setDelay_15 (fun v15 G15 hp15 => ?_)
    obtain ⟨rfl, rfl⟩ := hp15
    exact z_iret C F hr (Nat.le_of_ble_eq_true rfl) (Nat.le_of_ble_eq_true rfl) ⟨rfl, (zU_zU _ _ _ _).symm⟩ dX7_setDelay_18
abbrev rm_m_way : Room := { frames := 2, cells := 0, slots := 0, locals := 43 }
set_option maxHeartbeats 4000000 in
set_option maxRecDepth 100000 in
theorem m_way (l : Launch) (Γ : zY) (G : zG) {mo : Nat} {th : Int32} {μ : Nat → Nat} (x0 : Int32) (x1 : Int32) (x2 : Int32) (x3 : Int32) (hm : G mo = some (oM0 th μ)) : ZM l yX7_way cX7_way 5 (some FieldType.int) rm_m_way Γ [.ref mo, .int x0, .int x1, .int x2, .int x3] G (fun v G' => some (.int 0) = v ∧ zU G mo (oM0 1 μ) = G') := by
  refine z_start (by decide +kernel) [some (.ref mo), some (.int x0), some (.int x1), some (.int x2), some (.int x3)] rfl (Nat.le_of_ble_eq_true rfl) ?_
  intro p e s m args below meth c Q A C F hr hnm
  first | refine z_rload_n C dX7_way_0 rfl ?_ | refine z_nload_n C dX7_way_0 rfl ?_ | refine z_aload_n C dX7_way_0 rfl ?_
  refine z_iconst (v := 0) C dX7_way_1 rfl ?_
  refine z_putf (T := TX7) (N := 19) C (by first | assumption | exact zU_same _ _ _) rfl 0 (by decide) kw_1168 (Or.inl rfl) rfl (tyX7_ok 0 (by decide)) rfl rfl (Nat.le_of_ble_eq_true rfl) dX7_way_2 ?_
  first | refine z_rload_n C dX7_way_5 rfl ?_ | refine z_nload_n C dX7_way_5 rfl ?_ | refine z_aload_n C dX7_way_5 rfl ?_
  refine z_iload_n C dX7_way_6 rfl ?_
  refine z_callV (q := (RX7, TX7, 19)) C (m_isStation l Γ _ x0 (zU_same G mo (oM0 0 μ))) kc_X7_way_7 (by first | assumption | exact zU_same _ _ _) rfl rfl rfl rfl ky_X7_isStation ⟨(Nat.le_of_ble_eq_true rfl), (Nat.le_of_ble_eq_true rfl)⟩ (Nat.le_of_ble_eq_true rfl) ⟨(Nat.le_of_ble_eq_true rfl), (Nat.le_of_ble_eq_true rfl)⟩ dX7_way_7 (fun v7 G7 hp7 => ?_)
  obtain ⟨rfl, rfl⟩ := hp7
  refine z_if_ne (tgt := 19) C dX7_way_10 (by decide) (fun h10 => ?_) (fun h10 => ?_)
  · exact absurd rfl h10
  · first | refine z_rload_n C dX7_way_13 rfl ?_ | refine z_nload_n C dX7_way_13 rfl ?_ | refine z_aload_n C dX7_way_13 rfl ?_
    refine z_iconst (v := 1) C dX7_way_14 rfl ?_
    refine z_callV (q := (RX7, TX7, 19)) C (m_no l Γ _ 1 (zU_same G mo (oM0 0 μ))) kc_X7_way_15 (by first | assumption | exact zU_same _ _ _) rfl rfl rfl rfl ky_X7_no ⟨(Nat.le_of_ble_eq_true rfl), (Nat.le_of_ble_eq_true rfl)⟩ (Nat.le_of_ble_eq_true rfl) ⟨(Nat.le_of_ble_eq_true rfl), (Nat.le_of_ble_eq_true rfl)⟩ dX7_way_15 (fun v15 G15 hp15 => ?_)
    obtain ⟨rfl, rfl⟩ := hp15
    exact z_iret C F hr (Nat.le_of_ble_eq_true rfl) (Nat.le_of_ble_eq_true rfl) ⟨rfl, (zU_zU _ _ _ _).symm⟩ dX7_way_18
abbrev rm_m_needs : Room := { frames := 2, cells := 0, slots := 0, locals := 43 }
set_option maxHeartbeats 4000000 in
set_option maxRecDepth 100000 in
theorem m_needs (l : Launch) (Γ : zY) (G : zG) {mo : Nat} {th : Int32} {μ : Nat → Nat} (x0 : Int32) (x1 : Int32) (x2 : Int32) (x3 : Int32) (x4 : Int32) (hm : G mo = some (oM0 th μ)) : ZM l yX7_needs cX7_needs 6 (some FieldType.int) rm_m_needs Γ [.ref mo, .int x0, .int x1, .int x2, .int x3, .int x4] G (fun v G' => some (.int 0) = v ∧ zU G mo (oM0 1 μ) = G') := by
  refine z_start (by decide +kernel) [some (.ref mo), some (.int x0), some (.int x1), some (.int x2), some (.int x3), some (.int x4)] rfl (Nat.le_of_ble_eq_true rfl) ?_
  intro p e s m args below meth c Q A C F hr hnm
  first | refine z_rload_n C dX7_needs_0 rfl ?_ | refine z_nload_n C dX7_needs_0 rfl ?_ | refine z_aload_n C dX7_needs_0 rfl ?_
  refine z_iconst (v := 0) C dX7_needs_1 rfl ?_
  refine z_putf (T := TX7) (N := 19) C (by first | assumption | exact zU_same _ _ _) rfl 0 (by decide) kw_1168 (Or.inl rfl) rfl (tyX7_ok 0 (by decide)) rfl rfl (Nat.le_of_ble_eq_true rfl) dX7_needs_2 ?_
  first | refine z_rload_n C dX7_needs_5 rfl ?_ | refine z_nload_n C dX7_needs_5 rfl ?_ | refine z_aload_n C dX7_needs_5 rfl ?_
  refine z_iload_n C dX7_needs_6 rfl ?_
  refine z_callV (q := (RX7, TX7, 19)) C (m_isStation l Γ _ x0 (zU_same G mo (oM0 0 μ))) kc_X7_needs_7 (by first | assumption | exact zU_same _ _ _) rfl rfl rfl rfl ky_X7_isStation ⟨(Nat.le_of_ble_eq_true rfl), (Nat.le_of_ble_eq_true rfl)⟩ (Nat.le_of_ble_eq_true rfl) ⟨(Nat.le_of_ble_eq_true rfl), (Nat.le_of_ble_eq_true rfl)⟩ dX7_needs_7 (fun v7 G7 hp7 => ?_)
  obtain ⟨rfl, rfl⟩ := hp7
  refine z_if_ne (tgt := 19) C dX7_needs_10 (by decide) (fun h10 => ?_) (fun h10 => ?_)
  · exact absurd rfl h10
  · first | refine z_rload_n C dX7_needs_13 rfl ?_ | refine z_nload_n C dX7_needs_13 rfl ?_ | refine z_aload_n C dX7_needs_13 rfl ?_
    refine z_iconst (v := 1) C dX7_needs_14 rfl ?_
    refine z_callV (q := (RX7, TX7, 19)) C (m_no l Γ _ 1 (zU_same G mo (oM0 0 μ))) kc_X7_needs_15 (by first | assumption | exact zU_same _ _ _) rfl rfl rfl rfl ky_X7_no ⟨(Nat.le_of_ble_eq_true rfl), (Nat.le_of_ble_eq_true rfl)⟩ (Nat.le_of_ble_eq_true rfl) ⟨(Nat.le_of_ble_eq_true rfl), (Nat.le_of_ble_eq_true rfl)⟩ dX7_needs_15 (fun v15 G15 hp15 => ?_)
    obtain ⟨rfl, rfl⟩ := hp15
    exact z_iret C F hr (Nat.le_of_ble_eq_true rfl) (Nat.le_of_ble_eq_true rfl) ⟨rfl, (zU_zU _ _ _ _).symm⟩ dX7_needs_18
abbrev rm_m_addPick : Room := { frames := 2, cells := 0, slots := 0, locals := 43 }
set_option maxHeartbeats 4000000 in
set_option maxRecDepth 100000 in
theorem m_addPick (l : Launch) (Γ : zY) (G : zG) {mo : Nat} {th : Int32} {μ : Nat → Nat} (x0 : Int32) (x1 : Int32) (x2 : Int32) (hm : G mo = some (oM0 th μ)) : ZM l yX7_addPick cX7_addPick 4 (some FieldType.int) rm_m_addPick Γ [.ref mo, .int x0, .int x1, .int x2] G (fun v G' => some (.int 0) = v ∧ zU G mo (oM0 1 μ) = G') := by
  refine z_start (by decide +kernel) [some (.ref mo), some (.int x0), some (.int x1), some (.int x2)] rfl (Nat.le_of_ble_eq_true rfl) ?_
  intro p e s m args below meth c Q A C F hr hnm
  first | refine z_rload_n C dX7_addPick_0 rfl ?_ | refine z_nload_n C dX7_addPick_0 rfl ?_ | refine z_aload_n C dX7_addPick_0 rfl ?_
  refine z_iconst (v := 0) C dX7_addPick_1 rfl ?_
  refine z_putf (T := TX7) (N := 19) C (by first | assumption | exact zU_same _ _ _) rfl 0 (by decide) kw_1168 (Or.inl rfl) rfl (tyX7_ok 0 (by decide)) rfl rfl (Nat.le_of_ble_eq_true rfl) dX7_addPick_2 ?_
  first | refine z_rload_n C dX7_addPick_5 rfl ?_ | refine z_nload_n C dX7_addPick_5 rfl ?_ | refine z_aload_n C dX7_addPick_5 rfl ?_
  refine z_iload_n C dX7_addPick_6 rfl ?_
  refine z_callV (q := (RX7, TX7, 19)) C (m_isStation l Γ _ x0 (zU_same G mo (oM0 0 μ))) kc_X7_addPick_7 (by first | assumption | exact zU_same _ _ _) rfl rfl rfl rfl ky_X7_isStation ⟨(Nat.le_of_ble_eq_true rfl), (Nat.le_of_ble_eq_true rfl)⟩ (Nat.le_of_ble_eq_true rfl) ⟨(Nat.le_of_ble_eq_true rfl), (Nat.le_of_ble_eq_true rfl)⟩ dX7_addPick_7 (fun v7 G7 hp7 => ?_)
  obtain ⟨rfl, rfl⟩ := hp7
  refine z_if_ne (tgt := 19) C dX7_addPick_10 (by decide) (fun h10 => ?_) (fun h10 => ?_)
  · exact absurd rfl h10
  · first | refine z_rload_n C dX7_addPick_13 rfl ?_ | refine z_nload_n C dX7_addPick_13 rfl ?_ | refine z_aload_n C dX7_addPick_13 rfl ?_
    refine z_iconst (v := 1) C dX7_addPick_14 rfl ?_
    refine z_callV (q := (RX7, TX7, 19)) C (m_no l Γ _ 1 (zU_same G mo (oM0 0 μ))) kc_X7_addPick_15 (by first | assumption | exact zU_same _ _ _) rfl rfl rfl rfl ky_X7_no ⟨(Nat.le_of_ble_eq_true rfl), (Nat.le_of_ble_eq_true rfl)⟩ (Nat.le_of_ble_eq_true rfl) ⟨(Nat.le_of_ble_eq_true rfl), (Nat.le_of_ble_eq_true rfl)⟩ dX7_addPick_15 (fun v15 G15 hp15 => ?_)
    obtain ⟨rfl, rfl⟩ := hp15
    exact z_iret C F hr (Nat.le_of_ble_eq_true rfl) (Nat.le_of_ble_eq_true rfl) ⟨rfl, (zU_zU _ _ _ _).symm⟩ dX7_addPick_18
abbrev rm_m_setWeight : Room := { frames := 2, cells := 0, slots := 0, locals := 43 }
set_option maxHeartbeats 4000000 in
set_option maxRecDepth 100000 in
theorem m_setWeight (l : Launch) (Γ : zY) (G : zG) {mo : Nat} {th : Int32} {μ : Nat → Nat} (x0 : Int32) (x1 : Int32) (hm : G mo = some (oM0 th μ)) : ZM l yX7_setWeight cX7_setWeight 4 (some FieldType.int) rm_m_setWeight Γ [.ref mo, .int x0, .int x1] G (fun v G' => some (.int 0) = v ∧ zU G mo (oM0 1 μ) = G') := by
  refine z_start (by decide +kernel) [some (.ref mo), some (.int x0), some (.int x1)] rfl (Nat.le_of_ble_eq_true rfl) ?_
  intro p e s m args below meth c Q A C F hr hnm
  first | refine z_rload_n C dX7_setWeight_0 rfl ?_ | refine z_nload_n C dX7_setWeight_0 rfl ?_ | refine z_aload_n C dX7_setWeight_0 rfl ?_
  refine z_iconst (v := 0) C dX7_setWeight_1 rfl ?_
  refine z_putf (T := TX7) (N := 19) C (by first | assumption | exact zU_same _ _ _) rfl 0 (by decide) kw_1168 (Or.inl rfl) rfl (tyX7_ok 0 (by decide)) rfl rfl (Nat.le_of_ble_eq_true rfl) dX7_setWeight_2 ?_
  first | refine z_rload_n C dX7_setWeight_5 rfl ?_ | refine z_nload_n C dX7_setWeight_5 rfl ?_ | refine z_aload_n C dX7_setWeight_5 rfl ?_
  refine z_iload_n C dX7_setWeight_6 rfl ?_
  refine z_callV (q := (RX7, TX7, 19)) C (m_isPick l Γ _ x0 (zU_same G mo (oM0 0 μ))) kc_X7_setWeight_7 (by first | assumption | exact zU_same _ _ _) rfl rfl rfl rfl ky_X7_isPick ⟨(Nat.le_of_ble_eq_true rfl), (Nat.le_of_ble_eq_true rfl)⟩ (Nat.le_of_ble_eq_true rfl) ⟨(Nat.le_of_ble_eq_true rfl), (Nat.le_of_ble_eq_true rfl)⟩ dX7_setWeight_7 (fun v7 G7 hp7 => ?_)
  obtain ⟨rfl, rfl⟩ := hp7
  refine z_if_ne (tgt := 19) C dX7_setWeight_10 (by decide) (fun h10 => ?_) (fun h10 => ?_)
  · exact absurd rfl h10
  · first | refine z_rload_n C dX7_setWeight_13 rfl ?_ | refine z_nload_n C dX7_setWeight_13 rfl ?_ | refine z_aload_n C dX7_setWeight_13 rfl ?_
    refine z_iconst (v := 1) C dX7_setWeight_14 rfl ?_
    refine z_callV (q := (RX7, TX7, 19)) C (m_no l Γ _ 1 (zU_same G mo (oM0 0 μ))) kc_X7_setWeight_15 (by first | assumption | exact zU_same _ _ _) rfl rfl rfl rfl ky_X7_no ⟨(Nat.le_of_ble_eq_true rfl), (Nat.le_of_ble_eq_true rfl)⟩ (Nat.le_of_ble_eq_true rfl) ⟨(Nat.le_of_ble_eq_true rfl), (Nat.le_of_ble_eq_true rfl)⟩ dX7_setWeight_15 (fun v15 G15 hp15 => ?_)
    obtain ⟨rfl, rfl⟩ := hp15
    exact z_iret C F hr (Nat.le_of_ble_eq_true rfl) (Nat.le_of_ble_eq_true rfl) ⟨rfl, (zU_zU _ _ _ _).symm⟩ dX7_setWeight_18
abbrev rm_m_residual : Room := { frames := 2, cells := 0, slots := 0, locals := 43 }
set_option maxHeartbeats 4000000 in
set_option maxRecDepth 100000 in
theorem m_residual (l : Launch) (Γ : zY) (G : zG) {mo : Nat} {th : Int32} {μ : Nat → Nat} (x0 : Int32) (hm : G mo = some (oM0 th μ)) : ZM l yX7_residual cX7_residual 2 (some FieldType.int) rm_m_residual Γ [.ref mo, .int x0] G (fun v G' => some (.int 0) = v ∧ zU G mo (oM0 1 μ) = G') := by
  refine z_start (by decide +kernel) [some (.ref mo), some (.int x0)] rfl (Nat.le_of_ble_eq_true rfl) ?_
  intro p e s m args below meth c Q A C F hr hnm
  first | refine z_rload_n C dX7_residual_0 rfl ?_ | refine z_nload_n C dX7_residual_0 rfl ?_ | refine z_aload_n C dX7_residual_0 rfl ?_
  refine z_iconst (v := 0) C dX7_residual_1 rfl ?_
  refine z_putf (T := TX7) (N := 19) C (by first | assumption | exact zU_same _ _ _) rfl 0 (by decide) kw_1168 (Or.inl rfl) rfl (tyX7_ok 0 (by decide)) rfl rfl (Nat.le_of_ble_eq_true rfl) dX7_residual_2 ?_
  first | refine z_rload_n C dX7_residual_5 rfl ?_ | refine z_nload_n C dX7_residual_5 rfl ?_ | refine z_aload_n C dX7_residual_5 rfl ?_
  refine z_iload_n C dX7_residual_6 rfl ?_
  refine z_callV (q := (RX7, TX7, 19)) C (m_isPick l Γ _ x0 (zU_same G mo (oM0 0 μ))) kc_X7_residual_7 (by first | assumption | exact zU_same _ _ _) rfl rfl rfl rfl ky_X7_isPick ⟨(Nat.le_of_ble_eq_true rfl), (Nat.le_of_ble_eq_true rfl)⟩ (Nat.le_of_ble_eq_true rfl) ⟨(Nat.le_of_ble_eq_true rfl), (Nat.le_of_ble_eq_true rfl)⟩ dX7_residual_7 (fun v7 G7 hp7 => ?_)
  obtain ⟨rfl, rfl⟩ := hp7
  refine z_if_ne (tgt := 19) C dX7_residual_10 (by decide) (fun h10 => ?_) (fun h10 => ?_)
  · exact absurd rfl h10
  · first | refine z_rload_n C dX7_residual_13 rfl ?_ | refine z_nload_n C dX7_residual_13 rfl ?_ | refine z_aload_n C dX7_residual_13 rfl ?_
    refine z_iconst (v := 1) C dX7_residual_14 rfl ?_
    refine z_callV (q := (RX7, TX7, 19)) C (m_no l Γ _ 1 (zU_same G mo (oM0 0 μ))) kc_X7_residual_15 (by first | assumption | exact zU_same _ _ _) rfl rfl rfl rfl ky_X7_no ⟨(Nat.le_of_ble_eq_true rfl), (Nat.le_of_ble_eq_true rfl)⟩ (Nat.le_of_ble_eq_true rfl) ⟨(Nat.le_of_ble_eq_true rfl), (Nat.le_of_ble_eq_true rfl)⟩ dX7_residual_15 (fun v15 G15 hp15 => ?_)
    obtain ⟨rfl, rfl⟩ := hp15
    exact z_iret C F hr (Nat.le_of_ble_eq_true rfl) (Nat.le_of_ble_eq_true rfl) ⟨rfl, (zU_zU _ _ _ _).symm⟩ dX7_residual_18
abbrev rm_m_worst : Room := { frames := 2, cells := 0, slots := 0, locals := 43 }
set_option maxHeartbeats 4000000 in
set_option maxRecDepth 100000 in
theorem m_worst (l : Launch) (Γ : zY) (G : zG) {mo : Nat} {th : Int32} {μ : Nat → Nat} (x0 : Int32) (hm : G mo = some (oM0 th μ)) : ZM l yX7_worst cX7_worst 4 (some FieldType.int) rm_m_worst Γ [.ref mo, .int x0] G (fun v G' => some (.int 0) = v ∧ zU G mo (oM0 1 μ) = G') := by
  refine z_start (by decide +kernel) [some (.ref mo), some (.int x0)] rfl (Nat.le_of_ble_eq_true rfl) ?_
  intro p e s m args below meth c Q A C F hr hnm
  first | refine z_rload_n C dX7_worst_0 rfl ?_ | refine z_nload_n C dX7_worst_0 rfl ?_ | refine z_aload_n C dX7_worst_0 rfl ?_
  refine z_iconst (v := 0) C dX7_worst_1 rfl ?_
  refine z_putf (T := TX7) (N := 19) C (by first | assumption | exact zU_same _ _ _) rfl 0 (by decide) kw_1168 (Or.inl rfl) rfl (tyX7_ok 0 (by decide)) rfl rfl (Nat.le_of_ble_eq_true rfl) dX7_worst_2 ?_
  first | refine z_rload_n C dX7_worst_5 rfl ?_ | refine z_nload_n C dX7_worst_5 rfl ?_ | refine z_aload_n C dX7_worst_5 rfl ?_
  refine z_iload_n C dX7_worst_6 rfl ?_
  refine z_callV (q := (RX7, TX7, 19)) C (m_isEvent l Γ _ x0 (zU_same G mo (oM0 0 μ))) kc_X7_worst_7 (by first | assumption | exact zU_same _ _ _) rfl rfl rfl rfl ky_X7_isEvent ⟨(Nat.le_of_ble_eq_true rfl), (Nat.le_of_ble_eq_true rfl)⟩ (Nat.le_of_ble_eq_true rfl) ⟨(Nat.le_of_ble_eq_true rfl), (Nat.le_of_ble_eq_true rfl)⟩ dX7_worst_7 (fun v7 G7 hp7 => ?_)
  obtain ⟨rfl, rfl⟩ := hp7
  refine z_if_ne (tgt := 19) C dX7_worst_10 (by decide) (fun h10 => ?_) (fun h10 => ?_)
  · exact absurd rfl h10
  · first | refine z_rload_n C dX7_worst_13 rfl ?_ | refine z_nload_n C dX7_worst_13 rfl ?_ | refine z_aload_n C dX7_worst_13 rfl ?_
    refine z_iconst (v := 1) C dX7_worst_14 rfl ?_
    refine z_callV (q := (RX7, TX7, 19)) C (m_no l Γ _ 1 (zU_same G mo (oM0 0 μ))) kc_X7_worst_15 (by first | assumption | exact zU_same _ _ _) rfl rfl rfl rfl ky_X7_no ⟨(Nat.le_of_ble_eq_true rfl), (Nat.le_of_ble_eq_true rfl)⟩ (Nat.le_of_ble_eq_true rfl) ⟨(Nat.le_of_ble_eq_true rfl), (Nat.le_of_ble_eq_true rfl)⟩ dX7_worst_15 (fun v15 G15 hp15 => ?_)
    obtain ⟨rfl, rfl⟩ := hp15
    exact z_iret C F hr (Nat.le_of_ble_eq_true rfl) (Nat.le_of_ble_eq_true rfl) ⟨rfl, (zU_zU _ _ _ _).symm⟩ dX7_worst_18
abbrev rm_m_gap : Room := { frames := 2, cells := 0, slots := 0, locals := 43 }
set_option maxHeartbeats 4000000 in
set_option maxRecDepth 100000 in
theorem m_gap (l : Launch) (Γ : zY) (G : zG) {mo : Nat} {th : Int32} {μ : Nat → Nat} (x0 : Int32) (hm : G mo = some (oM0 th μ)) : ZM l yX7_gap cX7_gap 2 (some FieldType.int) rm_m_gap Γ [.ref mo, .int x0] G (fun v G' => some (.int 0) = v ∧ zU G mo (oM0 1 μ) = G') := by
  refine z_start (by decide +kernel) [some (.ref mo), some (.int x0)] rfl (Nat.le_of_ble_eq_true rfl) ?_
  intro p e s m args below meth c Q A C F hr hnm
  first | refine z_rload_n C dX7_gap_0 rfl ?_ | refine z_nload_n C dX7_gap_0 rfl ?_ | refine z_aload_n C dX7_gap_0 rfl ?_
  refine z_iconst (v := 0) C dX7_gap_1 rfl ?_
  refine z_putf (T := TX7) (N := 19) C (by first | assumption | exact zU_same _ _ _) rfl 0 (by decide) kw_1168 (Or.inl rfl) rfl (tyX7_ok 0 (by decide)) rfl rfl (Nat.le_of_ble_eq_true rfl) dX7_gap_2 ?_
  first | refine z_rload_n C dX7_gap_5 rfl ?_ | refine z_nload_n C dX7_gap_5 rfl ?_ | refine z_aload_n C dX7_gap_5 rfl ?_
  refine z_iload_n C dX7_gap_6 rfl ?_
  refine z_callV (q := (RX7, TX7, 19)) C (m_isEvent l Γ _ x0 (zU_same G mo (oM0 0 μ))) kc_X7_gap_7 (by first | assumption | exact zU_same _ _ _) rfl rfl rfl rfl ky_X7_isEvent ⟨(Nat.le_of_ble_eq_true rfl), (Nat.le_of_ble_eq_true rfl)⟩ (Nat.le_of_ble_eq_true rfl) ⟨(Nat.le_of_ble_eq_true rfl), (Nat.le_of_ble_eq_true rfl)⟩ dX7_gap_7 (fun v7 G7 hp7 => ?_)
  obtain ⟨rfl, rfl⟩ := hp7
  refine z_if_ne (tgt := 19) C dX7_gap_10 (by decide) (fun h10 => ?_) (fun h10 => ?_)
  · exact absurd rfl h10
  · first | refine z_rload_n C dX7_gap_13 rfl ?_ | refine z_nload_n C dX7_gap_13 rfl ?_ | refine z_aload_n C dX7_gap_13 rfl ?_
    refine z_iconst (v := 1) C dX7_gap_14 rfl ?_
    refine z_callV (q := (RX7, TX7, 19)) C (m_no l Γ _ 1 (zU_same G mo (oM0 0 μ))) kc_X7_gap_15 (by first | assumption | exact zU_same _ _ _) rfl rfl rfl rfl ky_X7_no ⟨(Nat.le_of_ble_eq_true rfl), (Nat.le_of_ble_eq_true rfl)⟩ (Nat.le_of_ble_eq_true rfl) ⟨(Nat.le_of_ble_eq_true rfl), (Nat.le_of_ble_eq_true rfl)⟩ dX7_gap_15 (fun v15 G15 hp15 => ?_)
    obtain ⟨rfl, rfl⟩ := hp15
    exact z_iret C F hr (Nat.le_of_ble_eq_true rfl) (Nat.le_of_ble_eq_true rfl) ⟨rfl, (zU_zU _ _ _ _).symm⟩ dX7_gap_18
abbrev rm_m_setAmplitude : Room := { frames := 2, cells := 0, slots := 0, locals := 43 }
set_option maxHeartbeats 4000000 in
set_option maxRecDepth 100000 in
theorem m_setAmplitude (l : Launch) (Γ : zY) (G : zG) {mo : Nat} {th : Int32} {μ : Nat → Nat} (x0 : Int32) (x1 : Int32) (hm : G mo = some (oM0 th μ)) : ZM l yX7_setAmplitude cX7_setAmplitude 4 (some FieldType.int) rm_m_setAmplitude Γ [.ref mo, .int x0, .int x1] G (fun v G' => some (.int 0) = v ∧ zU G mo (oM0 1 μ) = G') := by
  refine z_start (by decide +kernel) [some (.ref mo), some (.int x0), some (.int x1)] rfl (Nat.le_of_ble_eq_true rfl) ?_
  intro p e s m args below meth c Q A C F hr hnm
  first | refine z_rload_n C dX7_setAmplitude_0 rfl ?_ | refine z_nload_n C dX7_setAmplitude_0 rfl ?_ | refine z_aload_n C dX7_setAmplitude_0 rfl ?_
  refine z_iconst (v := 0) C dX7_setAmplitude_1 rfl ?_
  refine z_putf (T := TX7) (N := 19) C (by first | assumption | exact zU_same _ _ _) rfl 0 (by decide) kw_1168 (Or.inl rfl) rfl (tyX7_ok 0 (by decide)) rfl rfl (Nat.le_of_ble_eq_true rfl) dX7_setAmplitude_2 ?_
  first | refine z_rload_n C dX7_setAmplitude_5 rfl ?_ | refine z_nload_n C dX7_setAmplitude_5 rfl ?_ | refine z_aload_n C dX7_setAmplitude_5 rfl ?_
  refine z_iload_n C dX7_setAmplitude_6 rfl ?_
  refine z_callV (q := (RX7, TX7, 19)) C (m_isPick l Γ _ x0 (zU_same G mo (oM0 0 μ))) kc_X7_setAmplitude_7 (by first | assumption | exact zU_same _ _ _) rfl rfl rfl rfl ky_X7_isPick ⟨(Nat.le_of_ble_eq_true rfl), (Nat.le_of_ble_eq_true rfl)⟩ (Nat.le_of_ble_eq_true rfl) ⟨(Nat.le_of_ble_eq_true rfl), (Nat.le_of_ble_eq_true rfl)⟩ dX7_setAmplitude_7 (fun v7 G7 hp7 => ?_)
  obtain ⟨rfl, rfl⟩ := hp7
  refine z_if_ne (tgt := 19) C dX7_setAmplitude_10 (by decide) (fun h10 => ?_) (fun h10 => ?_)
  · exact absurd rfl h10
  · first | refine z_rload_n C dX7_setAmplitude_13 rfl ?_ | refine z_nload_n C dX7_setAmplitude_13 rfl ?_ | refine z_aload_n C dX7_setAmplitude_13 rfl ?_
    refine z_iconst (v := 1) C dX7_setAmplitude_14 rfl ?_
    refine z_callV (q := (RX7, TX7, 19)) C (m_no l Γ _ 1 (zU_same G mo (oM0 0 μ))) kc_X7_setAmplitude_15 (by first | assumption | exact zU_same _ _ _) rfl rfl rfl rfl ky_X7_no ⟨(Nat.le_of_ble_eq_true rfl), (Nat.le_of_ble_eq_true rfl)⟩ (Nat.le_of_ble_eq_true rfl) ⟨(Nat.le_of_ble_eq_true rfl), (Nat.le_of_ble_eq_true rfl)⟩ dX7_setAmplitude_15 (fun v15 G15 hp15 => ?_)
    obtain ⟨rfl, rfl⟩ := hp15
    exact z_iret C F hr (Nat.le_of_ble_eq_true rfl) (Nat.le_of_ble_eq_true rfl) ⟨rfl, (zU_zU _ _ _ _).symm⟩ dX7_setAmplitude_18
abbrev rm_m_magnitude : Room := { frames := 2, cells := 0, slots := 0, locals := 43 }
set_option maxHeartbeats 4000000 in
set_option maxRecDepth 100000 in
theorem m_magnitude (l : Launch) (Γ : zY) (G : zG) {mo : Nat} {th : Int32} {μ : Nat → Nat} (x0 : Int32) (hm : G mo = some (oM0 th μ)) : ZM l yX7_magnitude cX7_magnitude 2 (some FieldType.int) rm_m_magnitude Γ [.ref mo, .int x0] G (fun v G' => some (.int 0) = v ∧ zU G mo (oM0 1 μ) = G') := by
  refine z_start (by decide +kernel) [some (.ref mo), some (.int x0)] rfl (Nat.le_of_ble_eq_true rfl) ?_
  intro p e s m args below meth c Q A C F hr hnm
  first | refine z_rload_n C dX7_magnitude_0 rfl ?_ | refine z_nload_n C dX7_magnitude_0 rfl ?_ | refine z_aload_n C dX7_magnitude_0 rfl ?_
  refine z_iconst (v := 0) C dX7_magnitude_1 rfl ?_
  refine z_putf (T := TX7) (N := 19) C (by first | assumption | exact zU_same _ _ _) rfl 0 (by decide) kw_1168 (Or.inl rfl) rfl (tyX7_ok 0 (by decide)) rfl rfl (Nat.le_of_ble_eq_true rfl) dX7_magnitude_2 ?_
  first | refine z_rload_n C dX7_magnitude_5 rfl ?_ | refine z_nload_n C dX7_magnitude_5 rfl ?_ | refine z_aload_n C dX7_magnitude_5 rfl ?_
  refine z_iload_n C dX7_magnitude_6 rfl ?_
  refine z_callV (q := (RX7, TX7, 19)) C (m_isEvent l Γ _ x0 (zU_same G mo (oM0 0 μ))) kc_X7_magnitude_7 (by first | assumption | exact zU_same _ _ _) rfl rfl rfl rfl ky_X7_isEvent ⟨(Nat.le_of_ble_eq_true rfl), (Nat.le_of_ble_eq_true rfl)⟩ (Nat.le_of_ble_eq_true rfl) ⟨(Nat.le_of_ble_eq_true rfl), (Nat.le_of_ble_eq_true rfl)⟩ dX7_magnitude_7 (fun v7 G7 hp7 => ?_)
  obtain ⟨rfl, rfl⟩ := hp7
  refine z_if_ne (tgt := 19) C dX7_magnitude_10 (by decide) (fun h10 => ?_) (fun h10 => ?_)
  · exact absurd rfl h10
  · first | refine z_rload_n C dX7_magnitude_13 rfl ?_ | refine z_nload_n C dX7_magnitude_13 rfl ?_ | refine z_aload_n C dX7_magnitude_13 rfl ?_
    refine z_iconst (v := 1) C dX7_magnitude_14 rfl ?_
    refine z_callV (q := (RX7, TX7, 19)) C (m_no l Γ _ 1 (zU_same G mo (oM0 0 μ))) kc_X7_magnitude_15 (by first | assumption | exact zU_same _ _ _) rfl rfl rfl rfl ky_X7_no ⟨(Nat.le_of_ble_eq_true rfl), (Nat.le_of_ble_eq_true rfl)⟩ (Nat.le_of_ble_eq_true rfl) ⟨(Nat.le_of_ble_eq_true rfl), (Nat.le_of_ble_eq_true rfl)⟩ dX7_magnitude_15 (fun v15 G15 hp15 => ?_)
    obtain ⟨rfl, rfl⟩ := hp15
    exact z_iret C F hr (Nat.le_of_ble_eq_true rfl) (Nat.le_of_ble_eq_true rfl) ⟨rfl, (zU_zU _ _ _ _).symm⟩ dX7_magnitude_18
abbrev rm_m_family : Room := { frames := 2, cells := 0, slots := 0, locals := 43 }
set_option maxHeartbeats 4000000 in
set_option maxRecDepth 100000 in
theorem m_family (l : Launch) (Γ : zY) (G : zG) {mo : Nat} {th : Int32} {μ : Nat → Nat} (x0 : Int32) (x1 : Int32) (x2 : Int32) (hm : G mo = some (oM0 th μ)) : ZM l yX7_family cX7_family 7 (some FieldType.int) rm_m_family Γ [.ref mo, .int x0, .int x1, .int x2] G (fun v G' => some (.int 0) = v ∧ zU G mo (oM0 1 μ) = G') := by
  refine z_start (by decide +kernel) [some (.ref mo), some (.int x0), some (.int x1), some (.int x2)] rfl (Nat.le_of_ble_eq_true rfl) ?_
  intro p e s m args below meth c Q A C F hr hnm
  first | refine z_rload_n C dX7_family_0 rfl ?_ | refine z_nload_n C dX7_family_0 rfl ?_ | refine z_aload_n C dX7_family_0 rfl ?_
  refine z_iconst (v := 0) C dX7_family_1 rfl ?_
  refine z_putf (T := TX7) (N := 19) C (by first | assumption | exact zU_same _ _ _) rfl 0 (by decide) kw_1168 (Or.inl rfl) rfl (tyX7_ok 0 (by decide)) rfl rfl (Nat.le_of_ble_eq_true rfl) dX7_family_2 ?_
  first | refine z_rload_n C dX7_family_5 rfl ?_ | refine z_nload_n C dX7_family_5 rfl ?_ | refine z_aload_n C dX7_family_5 rfl ?_
  refine z_iload_n C dX7_family_6 rfl ?_
  refine z_callV (q := (RX7, TX7, 19)) C (m_isEvent l Γ _ x0 (zU_same G mo (oM0 0 μ))) kc_X7_family_7 (by first | assumption | exact zU_same _ _ _) rfl rfl rfl rfl ky_X7_isEvent ⟨(Nat.le_of_ble_eq_true rfl), (Nat.le_of_ble_eq_true rfl)⟩ (Nat.le_of_ble_eq_true rfl) ⟨(Nat.le_of_ble_eq_true rfl), (Nat.le_of_ble_eq_true rfl)⟩ dX7_family_7 (fun v7 G7 hp7 => ?_)
  obtain ⟨rfl, rfl⟩ := hp7
  refine z_if_ne (tgt := 19) C dX7_family_10 (by decide) (fun h10 => ?_) (fun h10 => ?_)
  · exact absurd rfl h10
  · first | refine z_rload_n C dX7_family_13 rfl ?_ | refine z_nload_n C dX7_family_13 rfl ?_ | refine z_aload_n C dX7_family_13 rfl ?_
    refine z_iconst (v := 1) C dX7_family_14 rfl ?_
    refine z_callV (q := (RX7, TX7, 19)) C (m_no l Γ _ 1 (zU_same G mo (oM0 0 μ))) kc_X7_family_15 (by first | assumption | exact zU_same _ _ _) rfl rfl rfl rfl ky_X7_no ⟨(Nat.le_of_ble_eq_true rfl), (Nat.le_of_ble_eq_true rfl)⟩ (Nat.le_of_ble_eq_true rfl) ⟨(Nat.le_of_ble_eq_true rfl), (Nat.le_of_ble_eq_true rfl)⟩ dX7_family_15 (fun v15 G15 hp15 => ?_)
    obtain ⟨rfl, rfl⟩ := hp15
    exact z_iret C F hr (Nat.le_of_ble_eq_true rfl) (Nat.le_of_ble_eq_true rfl) ⟨rfl, (zU_zU _ _ _ _).symm⟩ dX7_family_18
abbrev rm_m_pick : Room := { frames := 2, cells := 0, slots := 0, locals := 43 }
set_option maxHeartbeats 4000000 in
set_option maxRecDepth 100000 in
theorem m_pick (l : Launch) (Γ : zY) (G : zG) {mo : Nat} {th : Int32} {μ : Nat → Nat} (x0 : Int32) (x1 : Int32) (hm : G mo = some (oM0 th μ)) : ZM l yX7_pick cX7_pick 3 (some FieldType.int) rm_m_pick Γ [.ref mo, .int x0, .int x1] G (fun v G' => some (.int 0) = v ∧ zU G mo (oM0 1 μ) = G') := by
  refine z_start (by decide +kernel) [some (.ref mo), some (.int x0), some (.int x1)] rfl (Nat.le_of_ble_eq_true rfl) ?_
  intro p e s m args below meth c Q A C F hr hnm
  first | refine z_rload_n C dX7_pick_0 rfl ?_ | refine z_nload_n C dX7_pick_0 rfl ?_ | refine z_aload_n C dX7_pick_0 rfl ?_
  refine z_iconst (v := 0) C dX7_pick_1 rfl ?_
  refine z_putf (T := TX7) (N := 19) C (by first | assumption | exact zU_same _ _ _) rfl 0 (by decide) kw_1168 (Or.inl rfl) rfl (tyX7_ok 0 (by decide)) rfl rfl (Nat.le_of_ble_eq_true rfl) dX7_pick_2 ?_
  first | refine z_rload_n C dX7_pick_5 rfl ?_ | refine z_nload_n C dX7_pick_5 rfl ?_ | refine z_aload_n C dX7_pick_5 rfl ?_
  refine z_iload_n C dX7_pick_6 rfl ?_
  refine z_callV (q := (RX7, TX7, 19)) C (m_isPick l Γ _ x0 (zU_same G mo (oM0 0 μ))) kc_X7_pick_7 (by first | assumption | exact zU_same _ _ _) rfl rfl rfl rfl ky_X7_isPick ⟨(Nat.le_of_ble_eq_true rfl), (Nat.le_of_ble_eq_true rfl)⟩ (Nat.le_of_ble_eq_true rfl) ⟨(Nat.le_of_ble_eq_true rfl), (Nat.le_of_ble_eq_true rfl)⟩ dX7_pick_7 (fun v7 G7 hp7 => ?_)
  obtain ⟨rfl, rfl⟩ := hp7
  refine z_if_eq (tgt := 31) C dX7_pick_10 (by decide) (fun h10 => ?_) (fun h10 => ?_)
  · first | refine z_rload_n C dX7_pick_31 rfl ?_ | refine z_nload_n C dX7_pick_31 rfl ?_ | refine z_aload_n C dX7_pick_31 rfl ?_
    refine z_iconst (v := 1) C dX7_pick_32 rfl ?_
    refine z_callV (q := (RX7, TX7, 19)) C (m_no l Γ _ 1 (zU_same G mo (oM0 0 μ))) kc_X7_pick_33 (by first | assumption | exact zU_same _ _ _) rfl rfl rfl rfl ky_X7_no ⟨(Nat.le_of_ble_eq_true rfl), (Nat.le_of_ble_eq_true rfl)⟩ (Nat.le_of_ble_eq_true rfl) ⟨(Nat.le_of_ble_eq_true rfl), (Nat.le_of_ble_eq_true rfl)⟩ dX7_pick_33 (fun v33 G33 hp33 => ?_)
    obtain ⟨rfl, rfl⟩ := hp33
    exact z_iret C F hr (Nat.le_of_ble_eq_true rfl) (Nat.le_of_ble_eq_true rfl) ⟨rfl, (zU_zU _ _ _ _).symm⟩ dX7_pick_36
  · exact absurd rfl h10
abbrev rm_m_give : Room := { frames := 2, cells := 0, slots := 0, locals := 43 }
set_option maxHeartbeats 4000000 in
set_option maxRecDepth 100000 in
theorem m_give (l : Launch) (Γ : zY) (G : zG) {mo : Nat} {th : Int32} {μ : Nat → Nat} (x0 : Int32) (x1 : Int32) (hm : G mo = some (oM0 th μ)) : ZM l yX7_give cX7_give 4 (some FieldType.int) rm_m_give Γ [.ref mo, .int x0, .int x1] G (fun v G' => some (.int 0) = v ∧ zU G mo (oM0 1 μ) = G') := by
  refine z_start (by decide +kernel) [some (.ref mo), some (.int x0), some (.int x1)] rfl (Nat.le_of_ble_eq_true rfl) ?_
  intro p e s m args below meth c Q A C F hr hnm
  first | refine z_rload_n C dX7_give_0 rfl ?_ | refine z_nload_n C dX7_give_0 rfl ?_ | refine z_aload_n C dX7_give_0 rfl ?_
  refine z_iconst (v := 0) C dX7_give_1 rfl ?_
  refine z_putf (T := TX7) (N := 19) C (by first | assumption | exact zU_same _ _ _) rfl 0 (by decide) kw_1168 (Or.inl rfl) rfl (tyX7_ok 0 (by decide)) rfl rfl (Nat.le_of_ble_eq_true rfl) dX7_give_2 ?_
  first | refine z_rload_n C dX7_give_5 rfl ?_ | refine z_nload_n C dX7_give_5 rfl ?_ | refine z_aload_n C dX7_give_5 rfl ?_
  refine z_iload_n C dX7_give_6 rfl ?_
  refine z_callV (q := (RX7, TX7, 19)) C (m_isPick l Γ _ x0 (zU_same G mo (oM0 0 μ))) kc_X7_give_7 (by first | assumption | exact zU_same _ _ _) rfl rfl rfl rfl ky_X7_isPick ⟨(Nat.le_of_ble_eq_true rfl), (Nat.le_of_ble_eq_true rfl)⟩ (Nat.le_of_ble_eq_true rfl) ⟨(Nat.le_of_ble_eq_true rfl), (Nat.le_of_ble_eq_true rfl)⟩ dX7_give_7 (fun v7 G7 hp7 => ?_)
  obtain ⟨rfl, rfl⟩ := hp7
  refine z_if_eq (tgt := 26) C dX7_give_10 (by decide) (fun h10 => ?_) (fun h10 => ?_)
  · first | refine z_rload_n C dX7_give_26 rfl ?_ | refine z_nload_n C dX7_give_26 rfl ?_ | refine z_aload_n C dX7_give_26 rfl ?_
    refine z_iconst (v := 1) C dX7_give_27 rfl ?_
    refine z_callV (q := (RX7, TX7, 19)) C (m_no l Γ _ 1 (zU_same G mo (oM0 0 μ))) kc_X7_give_28 (by first | assumption | exact zU_same _ _ _) rfl rfl rfl rfl ky_X7_no ⟨(Nat.le_of_ble_eq_true rfl), (Nat.le_of_ble_eq_true rfl)⟩ (Nat.le_of_ble_eq_true rfl) ⟨(Nat.le_of_ble_eq_true rfl), (Nat.le_of_ble_eq_true rfl)⟩ dX7_give_28 (fun v28 G28 hp28 => ?_)
    obtain ⟨rfl, rfl⟩ := hp28
    exact z_iret C F hr (Nat.le_of_ble_eq_true rfl) (Nat.le_of_ble_eq_true rfl) ⟨rfl, (zU_zU _ _ _ _).symm⟩ dX7_give_31
  · exact absurd rfl h10
abbrev rm_m_event : Room := { frames := 2, cells := 0, slots := 0, locals := 43 }
set_option maxHeartbeats 4000000 in
set_option maxRecDepth 100000 in
theorem m_event (l : Launch) (Γ : zY) (G : zG) {mo : Nat} {th : Int32} {μ : Nat → Nat} (x0 : Int32) (x1 : Int32) (hm : G mo = some (oM0 th μ)) : ZM l yX7_event cX7_event 3 (some FieldType.int) rm_m_event Γ [.ref mo, .int x0, .int x1] G (fun v G' => some (.int 0) = v ∧ zU G mo (oM0 1 μ) = G') := by
  refine z_start (by decide +kernel) [some (.ref mo), some (.int x0), some (.int x1)] rfl (Nat.le_of_ble_eq_true rfl) ?_
  intro p e s m args below meth c Q A C F hr hnm
  first | refine z_rload_n C dX7_event_0 rfl ?_ | refine z_nload_n C dX7_event_0 rfl ?_ | refine z_aload_n C dX7_event_0 rfl ?_
  refine z_iconst (v := 0) C dX7_event_1 rfl ?_
  refine z_putf (T := TX7) (N := 19) C (by first | assumption | exact zU_same _ _ _) rfl 0 (by decide) kw_1168 (Or.inl rfl) rfl (tyX7_ok 0 (by decide)) rfl rfl (Nat.le_of_ble_eq_true rfl) dX7_event_2 ?_
  first | refine z_rload_n C dX7_event_5 rfl ?_ | refine z_nload_n C dX7_event_5 rfl ?_ | refine z_aload_n C dX7_event_5 rfl ?_
  refine z_iload_n C dX7_event_6 rfl ?_
  refine z_callV (q := (RX7, TX7, 19)) C (m_isEvent l Γ _ x0 (zU_same G mo (oM0 0 μ))) kc_X7_event_7 (by first | assumption | exact zU_same _ _ _) rfl rfl rfl rfl ky_X7_isEvent ⟨(Nat.le_of_ble_eq_true rfl), (Nat.le_of_ble_eq_true rfl)⟩ (Nat.le_of_ble_eq_true rfl) ⟨(Nat.le_of_ble_eq_true rfl), (Nat.le_of_ble_eq_true rfl)⟩ dX7_event_7 (fun v7 G7 hp7 => ?_)
  obtain ⟨rfl, rfl⟩ := hp7
  refine z_if_eq (tgt := 22) C dX7_event_10 (by decide) (fun h10 => ?_) (fun h10 => ?_)
  · first | refine z_rload_n C dX7_event_22 rfl ?_ | refine z_nload_n C dX7_event_22 rfl ?_ | refine z_aload_n C dX7_event_22 rfl ?_
    refine z_iconst (v := 1) C dX7_event_23 rfl ?_
    refine z_callV (q := (RX7, TX7, 19)) C (m_no l Γ _ 1 (zU_same G mo (oM0 0 μ))) kc_X7_event_24 (by first | assumption | exact zU_same _ _ _) rfl rfl rfl rfl ky_X7_no ⟨(Nat.le_of_ble_eq_true rfl), (Nat.le_of_ble_eq_true rfl)⟩ (Nat.le_of_ble_eq_true rfl) ⟨(Nat.le_of_ble_eq_true rfl), (Nat.le_of_ble_eq_true rfl)⟩ dX7_event_24 (fun v24 G24 hp24 => ?_)
    obtain ⟨rfl, rfl⟩ := hp24
    exact z_iret C F hr (Nat.le_of_ble_eq_true rfl) (Nat.le_of_ble_eq_true rfl) ⟨rfl, (zU_zU _ _ _ _).symm⟩ dX7_event_27
  · exact absurd rfl h10
abbrev rm_m_seek : Room := { frames := 2, cells := 0, slots := 0, locals := 43 }
set_option maxHeartbeats 4000000 in
set_option maxRecDepth 100000 in
theorem m_seek (l : Launch) (Γ : zY) (G : zG) {mo : Nat} {th : Int32} {μ : Nat → Nat} (x0 : Int32) (hm : G mo = some (oM0 th μ)) : ZM l yX7_seek cX7_seek 2 (some FieldType.long) rm_m_seek Γ [.ref mo, .int x0] G (fun v G' => some (.long 0) = v ∧ zU G mo (oM0 1 μ) = G') := by
  refine z_start (by decide +kernel) [some (.ref mo), some (.int x0)] rfl (Nat.le_of_ble_eq_true rfl) ?_
  intro p e s m args below meth c Q A C F hr hnm
  first | refine z_rload_n C dX7_seek_0 rfl ?_ | refine z_nload_n C dX7_seek_0 rfl ?_ | refine z_aload_n C dX7_seek_0 rfl ?_
  first | refine z_rload_n C dX7_seek_1 rfl ?_ | refine z_nload_n C dX7_seek_1 rfl ?_ | refine z_aload_n C dX7_seek_1 rfl ?_
  refine z_iload_n C dX7_seek_2 rfl ?_
  refine z_callV (q := (RX7, TX7, 19)) C (m_isEvent l Γ _ x0 hm) kc_X7_seek_3 (by first | assumption | exact zU_same _ _ _) rfl rfl rfl rfl ky_X7_isEvent ⟨(Nat.le_of_ble_eq_true rfl), (Nat.le_of_ble_eq_true rfl)⟩ (Nat.le_of_ble_eq_true rfl) ⟨(Nat.le_of_ble_eq_true rfl), (Nat.le_of_ble_eq_true rfl)⟩ dX7_seek_3 (fun v3 G3 hp3 => ?_)
  obtain ⟨rfl, rfl⟩ := hp3
  refine z_if_ne (tgt := 13) C dX7_seek_6 (by decide) (fun h6 => ?_) (fun h6 => ?_)
  · exact absurd rfl h6
  · refine z_iconst (v := 1) C dX7_seek_9 rfl ?_
    refine z_goto (tgt := 27) C dX7_seek_10 (by decide) ?_
    refine z_putf (T := TX7) (N := 19) C (by first | assumption | exact zU_same _ _ _) rfl 0 (by decide) kw_1168 (Or.inl rfl) rfl (tyX7_ok 0 (by decide)) rfl rfl (Nat.le_of_ble_eq_true rfl) dX7_seek_27 ?_
    first | refine z_rload_n C dX7_seek_30 rfl ?_ | refine z_nload_n C dX7_seek_30 rfl ?_ | refine z_aload_n C dX7_seek_30 rfl ?_
    refine z_getf (T := TX7) (N := 19) C (by first | assumption | exact zU_same _ _ _) rfl 0 (by decide) kw_1168 (Or.inl rfl) rfl dX7_seek_31 ?_
    refine z_if_ne (tgt := 45) C dX7_seek_34 (by decide) (fun h34 => ?_) (fun h34 => ?_)
    · refine z_lconst (v := 0) C dX7_seek_45 rfl ?_
      exact z_lret C F hr (Nat.le_of_ble_eq_true rfl) (Nat.le_of_ble_eq_true rfl) ⟨rfl, rfl⟩ dX7_seek_46
    · exact absurd h34 (by decide)
abbrev rm_m_misfit : Room := { frames := 2, cells := 0, slots := 0, locals := 43 }
set_option maxHeartbeats 4000000 in
set_option maxRecDepth 100000 in
theorem m_misfit (l : Launch) (Γ : zY) (G : zG) {mo : Nat} {th : Int32} {μ : Nat → Nat} (x0 : Int32) (x1 : Int32) (x2 : Int32) (x3 : Int32) (hm : G mo = some (oM0 th μ)) : ZM l yX7_misfit cX7_misfit 5 (some FieldType.long) rm_m_misfit Γ [.ref mo, .int x0, .int x1, .int x2, .int x3] G (fun v G' => some (.long 0) = v ∧ zU G mo (oM0 1 μ) = G') := by
  refine z_start (by decide +kernel) [some (.ref mo), some (.int x0), some (.int x1), some (.int x2), some (.int x3)] rfl (Nat.le_of_ble_eq_true rfl) ?_
  intro p e s m args below meth c Q A C F hr hnm
  first | refine z_rload_n C dX7_misfit_0 rfl ?_ | refine z_nload_n C dX7_misfit_0 rfl ?_ | refine z_aload_n C dX7_misfit_0 rfl ?_
  first | refine z_rload_n C dX7_misfit_1 rfl ?_ | refine z_nload_n C dX7_misfit_1 rfl ?_ | refine z_aload_n C dX7_misfit_1 rfl ?_
  refine z_iload_n C dX7_misfit_2 rfl ?_
  refine z_callV (q := (RX7, TX7, 19)) C (m_isEvent l Γ _ x0 hm) kc_X7_misfit_3 (by first | assumption | exact zU_same _ _ _) rfl rfl rfl rfl ky_X7_isEvent ⟨(Nat.le_of_ble_eq_true rfl), (Nat.le_of_ble_eq_true rfl)⟩ (Nat.le_of_ble_eq_true rfl) ⟨(Nat.le_of_ble_eq_true rfl), (Nat.le_of_ble_eq_true rfl)⟩ dX7_misfit_3 (fun v3 G3 hp3 => ?_)
  obtain ⟨rfl, rfl⟩ := hp3
  refine z_if_ne (tgt := 13) C dX7_misfit_6 (by decide) (fun h6 => ?_) (fun h6 => ?_)
  · exact absurd rfl h6
  · refine z_iconst (v := 1) C dX7_misfit_9 rfl ?_
    refine z_goto (tgt := 28) C dX7_misfit_10 (by decide) ?_
    refine z_putf (T := TX7) (N := 19) C (by first | assumption | exact zU_same _ _ _) rfl 0 (by decide) kw_1168 (Or.inl rfl) rfl (tyX7_ok 0 (by decide)) rfl rfl (Nat.le_of_ble_eq_true rfl) dX7_misfit_28 ?_
    first | refine z_rload_n C dX7_misfit_31 rfl ?_ | refine z_nload_n C dX7_misfit_31 rfl ?_ | refine z_aload_n C dX7_misfit_31 rfl ?_
    refine z_getf (T := TX7) (N := 19) C (by first | assumption | exact zU_same _ _ _) rfl 0 (by decide) kw_1168 (Or.inl rfl) rfl dX7_misfit_32 ?_
    refine z_if_ne (tgt := 50) C dX7_misfit_35 (by decide) (fun h35 => ?_) (fun h35 => ?_)
    · refine z_lconst (v := 0) C dX7_misfit_50 rfl ?_
      exact z_lret C F hr (Nat.le_of_ble_eq_true rfl) (Nat.le_of_ble_eq_true rfl) ⟨rfl, rfl⟩ dX7_misfit_51
    · exact absurd h35 (by decide)
abbrev rm_m_spread : Room := { frames := 2, cells := 0, slots := 0, locals := 43 }
set_option maxHeartbeats 4000000 in
set_option maxRecDepth 100000 in
theorem m_spread (l : Launch) (Γ : zY) (G : zG) {mo : Nat} {th : Int32} {μ : Nat → Nat} (x0 : Int32) (hm : G mo = some (oM0 th μ)) : ZM l yX7_spread cX7_spread 6 (some FieldType.double) rm_m_spread Γ [.ref mo, .int x0] G (fun v G' => some (.double FP.dconst0) = v ∧ zU G mo (oM0 1 μ) = G') := by
  refine z_start (by decide +kernel) [some (.ref mo), some (.int x0)] rfl (Nat.le_of_ble_eq_true rfl) ?_
  intro p e s m args below meth c Q A C F hr hnm
  first | refine z_rload_n C dX7_spread_0 rfl ?_ | refine z_nload_n C dX7_spread_0 rfl ?_ | refine z_aload_n C dX7_spread_0 rfl ?_
  first | refine z_rload_n C dX7_spread_1 rfl ?_ | refine z_nload_n C dX7_spread_1 rfl ?_ | refine z_aload_n C dX7_spread_1 rfl ?_
  refine z_iload_n C dX7_spread_2 rfl ?_
  refine z_callV (q := (RX7, TX7, 19)) C (m_isEvent l Γ _ x0 hm) kc_X7_spread_3 (by first | assumption | exact zU_same _ _ _) rfl rfl rfl rfl ky_X7_isEvent ⟨(Nat.le_of_ble_eq_true rfl), (Nat.le_of_ble_eq_true rfl)⟩ (Nat.le_of_ble_eq_true rfl) ⟨(Nat.le_of_ble_eq_true rfl), (Nat.le_of_ble_eq_true rfl)⟩ dX7_spread_3 (fun v3 G3 hp3 => ?_)
  obtain ⟨rfl, rfl⟩ := hp3
  refine z_if_ne (tgt := 13) C dX7_spread_6 (by decide) (fun h6 => ?_) (fun h6 => ?_)
  · exact absurd rfl h6
  · refine z_iconst (v := 1) C dX7_spread_9 rfl ?_
    refine z_goto (tgt := 27) C dX7_spread_10 (by decide) ?_
    refine z_putf (T := TX7) (N := 19) C (by first | assumption | exact zU_same _ _ _) rfl 0 (by decide) kw_1168 (Or.inl rfl) rfl (tyX7_ok 0 (by decide)) rfl rfl (Nat.le_of_ble_eq_true rfl) dX7_spread_27 ?_
    first | refine z_rload_n C dX7_spread_30 rfl ?_ | refine z_nload_n C dX7_spread_30 rfl ?_ | refine z_aload_n C dX7_spread_30 rfl ?_
    refine z_getf (T := TX7) (N := 19) C (by first | assumption | exact zU_same _ _ _) rfl 0 (by decide) kw_1168 (Or.inl rfl) rfl dX7_spread_31 ?_
    refine z_if_eq (tgt := 39) C dX7_spread_34 (by decide) (fun h34 => ?_) (fun h34 => ?_)
    · exact absurd h34 (by decide)
    · refine z_dconst0 C dX7_spread_37 ?_
      exact z_dret C F hr (Nat.le_of_ble_eq_true rfl) (Nat.le_of_ble_eq_true rfl) ⟨rfl, rfl⟩ dX7_spread_38

