theorem dX7_isRange_0 : decode cX7_isRange 0 = .ok (.iload_n 0, 1) := by decide +kernel
theorem dX7_isRange_1 : decode cX7_isRange 1 = .ok (.iconst 0, 1) := by decide +kernel
theorem dX7_isRange_2 : decode cX7_isRange 2 = .ok (.sipush 500, 3) := by decide +kernel
theorem dX7_isRange_5 : decode cX7_isRange 5 = .ok (.invokestatic 60, 3) := by decide +kernel
theorem dX7_isRange_8 : decode cX7_isRange 8 = .ok (.ifCond .eq 17, 3) := by decide +kernel
theorem dX7_isRange_11 : decode cX7_isRange 11 = .ok (.iload_n 1, 1) := by decide +kernel
theorem dX7_isRange_12 : decode cX7_isRange 12 = .ok (.iconst 0, 1) := by decide +kernel
theorem dX7_isRange_13 : decode cX7_isRange 13 = .ok (.ldc 95, 2) := by decide +kernel
theorem dX7_isRange_15 : decode cX7_isRange 15 = .ok (.invokestatic 60, 3) := by decide +kernel
theorem dX7_isRange_18 : decode cX7_isRange 18 = .ok (.ifCond .eq 7, 3) := by decide +kernel
theorem dX7_isRange_21 : decode cX7_isRange 21 = .ok (.iconst 1, 1) := by decide +kernel
theorem dX7_isRange_22 : decode cX7_isRange 22 = .ok (.goto 4, 3) := by decide +kernel
theorem dX7_isRange_25 : decode cX7_isRange 25 = .ok (.iconst 0, 1) := by decide +kernel
theorem dX7_isRange_26 : decode cX7_isRange 26 = .ok (.ireturn, 1) := by decide +kernel
theorem kc_X7_isRange_5 : ∀ w ∈ ([Cond.methodLink "QuakeBenchModel" 60 yX7_isIn, Cond.static yX7_isIn, Cond.initialized "QuakeBenchModel", Cond.code yX7_isIn prog_9_method_4_code 3 (Option.some Jvm.ClassFile.FieldType.boolean)] : List Cond), w ∈ lw_all := zin [1235, 1236, 61, 1237] (by decide +kernel)
theorem kw_1280 : Cond.constant "QuakeBenchModel" 95 10000000 ∈ lw_all := zin1 1280 (by decide +kernel)
theorem kc_X7_isRange_15 : ∀ w ∈ ([Cond.methodLink "QuakeBenchModel" 60 yX7_isIn, Cond.static yX7_isIn, Cond.initialized "QuakeBenchModel", Cond.code yX7_isIn prog_9_method_4_code 3 (Option.some Jvm.ClassFile.FieldType.boolean)] : List Cond), w ∈ lw_all := zin [1235, 1236, 61, 1237] (by decide +kernel)
theorem dX7_isPlace_0 : decode cX7_isPlace 0 = .ok (.iload_n 0, 1) := by decide +kernel
theorem dX7_isPlace_1 : decode cX7_isPlace 1 = .ok (.iconst 0, 1) := by decide +kernel
theorem dX7_isPlace_2 : decode cX7_isPlace 2 = .ok (.sipush 200, 3) := by decide +kernel
theorem dX7_isPlace_5 : decode cX7_isPlace 5 = .ok (.invokestatic 60, 3) := by decide +kernel
theorem dX7_isPlace_8 : decode cX7_isPlace 8 = .ok (.ifCond .eq 28, 3) := by decide +kernel
theorem dX7_isPlace_11 : decode cX7_isPlace 11 = .ok (.iload_n 1, 1) := by decide +kernel
theorem dX7_isPlace_12 : decode cX7_isPlace 12 = .ok (.iconst 0, 1) := by decide +kernel
theorem dX7_isPlace_13 : decode cX7_isPlace 13 = .ok (.sipush 200, 3) := by decide +kernel
theorem dX7_isPlace_16 : decode cX7_isPlace 16 = .ok (.invokestatic 60, 3) := by decide +kernel
theorem dX7_isPlace_19 : decode cX7_isPlace 19 = .ok (.ifCond .eq 17, 3) := by decide +kernel
theorem dX7_isPlace_22 : decode cX7_isPlace 22 = .ok (.iload_n 2, 1) := by decide +kernel
theorem dX7_isPlace_23 : decode cX7_isPlace 23 = .ok (.iconst 0, 1) := by decide +kernel
theorem dX7_isPlace_24 : decode cX7_isPlace 24 = .ok (.bipush 60, 2) := by decide +kernel
theorem dX7_isPlace_26 : decode cX7_isPlace 26 = .ok (.invokestatic 60, 3) := by decide +kernel
theorem dX7_isPlace_29 : decode cX7_isPlace 29 = .ok (.ifCond .eq 7, 3) := by decide +kernel
theorem dX7_isPlace_32 : decode cX7_isPlace 32 = .ok (.iconst 1, 1) := by decide +kernel
theorem dX7_isPlace_33 : decode cX7_isPlace 33 = .ok (.goto 4, 3) := by decide +kernel
theorem dX7_isPlace_36 : decode cX7_isPlace 36 = .ok (.iconst 0, 1) := by decide +kernel
theorem dX7_isPlace_37 : decode cX7_isPlace 37 = .ok (.ireturn, 1) := by decide +kernel
theorem kc_X7_isPlace_5 : ∀ w ∈ ([Cond.methodLink "QuakeBenchModel" 60 yX7_isIn, Cond.static yX7_isIn, Cond.initialized "QuakeBenchModel", Cond.code yX7_isIn prog_9_method_4_code 3 (Option.some Jvm.ClassFile.FieldType.boolean)] : List Cond), w ∈ lw_all := zin [1235, 1236, 61, 1237] (by decide +kernel)
theorem kc_X7_isPlace_16 : ∀ w ∈ ([Cond.methodLink "QuakeBenchModel" 60 yX7_isIn, Cond.static yX7_isIn, Cond.initialized "QuakeBenchModel", Cond.code yX7_isIn prog_9_method_4_code 3 (Option.some Jvm.ClassFile.FieldType.boolean)] : List Cond), w ∈ lw_all := zin [1235, 1236, 61, 1237] (by decide +kernel)
theorem kc_X7_isPlace_26 : ∀ w ∈ ([Cond.methodLink "QuakeBenchModel" 60 yX7_isIn, Cond.static yX7_isIn, Cond.initialized "QuakeBenchModel", Cond.code yX7_isIn prog_9_method_4_code 3 (Option.some Jvm.ClassFile.FieldType.boolean)] : List Cond), w ∈ lw_all := zin [1235, 1236, 61, 1237] (by decide +kernel)
theorem dX7_foundEvents_0 : decode cX7_foundEvents 0 = .ok (.iconst 0, 1) := by decide +kernel
theorem dX7_foundEvents_1 : decode cX7_foundEvents 1 = .ok (.istore_n 1, 1) := by decide +kernel
theorem dX7_foundEvents_2 : decode cX7_foundEvents 2 = .ok (.iconst 0, 1) := by decide +kernel
theorem dX7_foundEvents_3 : decode cX7_foundEvents 3 = .ok (.istore_n 2, 1) := by decide +kernel
theorem dX7_foundEvents_4 : decode cX7_foundEvents 4 = .ok (.iload_n 2, 1) := by decide +kernel
theorem dX7_foundEvents_5 : decode cX7_foundEvents 5 = .ok (.aload_n 0, 1) := by decide +kernel
theorem dX7_foundEvents_6 : decode cX7_foundEvents 6 = .ok (.getfield 67, 3) := by decide +kernel
theorem dX7_foundEvents_9 : decode cX7_foundEvents 9 = .ok (.if_icmp .ge 26, 3) := by decide +kernel
theorem dX7_foundEvents_12 : decode cX7_foundEvents 12 = .ok (.iload_n 1, 1) := by decide +kernel
theorem dX7_foundEvents_13 : decode cX7_foundEvents 13 = .ok (.aload_n 0, 1) := by decide +kernel
theorem dX7_foundEvents_14 : decode cX7_foundEvents 14 = .ok (.getfield 45, 3) := by decide +kernel
theorem dX7_foundEvents_17 : decode cX7_foundEvents 17 = .ok (.iload_n 2, 1) := by decide +kernel
theorem dX7_foundEvents_18 : decode cX7_foundEvents 18 = .ok (.baload, 1) := by decide +kernel
theorem dX7_foundEvents_19 : decode cX7_foundEvents 19 = .ok (.ifCond .eq 7, 3) := by decide +kernel
theorem dX7_foundEvents_22 : decode cX7_foundEvents 22 = .ok (.iconst 1, 1) := by decide +kernel
theorem dX7_foundEvents_23 : decode cX7_foundEvents 23 = .ok (.goto 4, 3) := by decide +kernel
theorem dX7_foundEvents_26 : decode cX7_foundEvents 26 = .ok (.iconst 0, 1) := by decide +kernel
theorem dX7_foundEvents_27 : decode cX7_foundEvents 27 = .ok (.iadd, 1) := by decide +kernel
theorem dX7_foundEvents_28 : decode cX7_foundEvents 28 = .ok (.istore_n 1, 1) := by decide +kernel
theorem dX7_foundEvents_29 : decode cX7_foundEvents 29 = .ok (.iinc 2 1, 3) := by decide +kernel
theorem dX7_foundEvents_32 : decode cX7_foundEvents 32 = .ok (.goto (-28), 3) := by decide +kernel
theorem dX7_foundEvents_35 : decode cX7_foundEvents 35 = .ok (.iload_n 1, 1) := by decide +kernel
theorem dX7_foundEvents_36 : decode cX7_foundEvents 36 = .ok (.ireturn, 1) := by decide +kernel
theorem dX7_picksOf_0 : decode cX7_picksOf 0 = .ok (.iconst 0, 1) := by decide +kernel
theorem dX7_picksOf_1 : decode cX7_picksOf 1 = .ok (.istore_n 2, 1) := by decide +kernel
theorem dX7_picksOf_2 : decode cX7_picksOf 2 = .ok (.iconst 0, 1) := by decide +kernel
theorem dX7_picksOf_3 : decode cX7_picksOf 3 = .ok (.istore_n 3, 1) := by decide +kernel
theorem dX7_picksOf_4 : decode cX7_picksOf 4 = .ok (.iload_n 3, 1) := by decide +kernel
theorem dX7_picksOf_5 : decode cX7_picksOf 5 = .ok (.aload_n 0, 1) := by decide +kernel
theorem dX7_picksOf_6 : decode cX7_picksOf 6 = .ok (.getfield 64, 3) := by decide +kernel
theorem dX7_picksOf_9 : decode cX7_picksOf 9 = .ok (.if_icmp .ge 27, 3) := by decide +kernel
theorem dX7_picksOf_12 : decode cX7_picksOf 12 = .ok (.iload_n 2, 1) := by decide +kernel
theorem dX7_picksOf_13 : decode cX7_picksOf 13 = .ok (.aload_n 0, 1) := by decide +kernel
theorem dX7_picksOf_14 : decode cX7_picksOf 14 = .ok (.getfield 39, 3) := by decide +kernel
theorem dX7_picksOf_17 : decode cX7_picksOf 17 = .ok (.iload_n 3, 1) := by decide +kernel
theorem dX7_picksOf_18 : decode cX7_picksOf 18 = .ok (.iaload, 1) := by decide +kernel
theorem dX7_picksOf_19 : decode cX7_picksOf 19 = .ok (.iload_n 1, 1) := by decide +kernel
theorem dX7_picksOf_20 : decode cX7_picksOf 20 = .ok (.if_icmp .ne 7, 3) := by decide +kernel
theorem dX7_picksOf_23 : decode cX7_picksOf 23 = .ok (.iconst 1, 1) := by decide +kernel
theorem dX7_picksOf_24 : decode cX7_picksOf 24 = .ok (.goto 4, 3) := by decide +kernel
theorem dX7_picksOf_27 : decode cX7_picksOf 27 = .ok (.iconst 0, 1) := by decide +kernel
theorem dX7_picksOf_28 : decode cX7_picksOf 28 = .ok (.iadd, 1) := by decide +kernel
theorem dX7_picksOf_29 : decode cX7_picksOf 29 = .ok (.istore_n 2, 1) := by decide +kernel
theorem dX7_picksOf_30 : decode cX7_picksOf 30 = .ok (.iinc 3 1, 3) := by decide +kernel
theorem dX7_picksOf_33 : decode cX7_picksOf 33 = .ok (.goto (-29), 3) := by decide +kernel
theorem dX7_picksOf_36 : decode cX7_picksOf 36 = .ok (.iload_n 2, 1) := by decide +kernel
theorem dX7_picksOf_37 : decode cX7_picksOf 37 = .ok (.ireturn, 1) := by decide +kernel
theorem dX7_counted_0 : decode cX7_counted 0 = .ok (.iload_n 1, 1) := by decide +kernel
theorem dX7_counted_1 : decode cX7_counted 1 = .ok (.iconst 3, 1) := by decide +kernel
theorem dX7_counted_2 : decode cX7_counted 2 = .ok (.if_icmp .ge 31, 3) := by decide +kernel
theorem dX7_counted_5 : decode cX7_counted 5 = .ok (.iload_n 1, 1) := by decide +kernel
theorem dX7_counted_6 : decode cX7_counted 6 = .ok (.ifCond .ne 10, 3) := by decide +kernel
theorem dX7_counted_9 : decode cX7_counted 9 = .ok (.aload_n 0, 1) := by decide +kernel
theorem dX7_counted_10 : decode cX7_counted 10 = .ok (.getfield 57, 3) := by decide +kernel
theorem dX7_counted_13 : decode cX7_counted 13 = .ok (.goto 19, 3) := by decide +kernel
theorem dX7_counted_16 : decode cX7_counted 16 = .ok (.iload_n 1, 1) := by decide +kernel
theorem dX7_counted_17 : decode cX7_counted 17 = .ok (.iconst 1, 1) := by decide +kernel
theorem dX7_counted_18 : decode cX7_counted 18 = .ok (.if_icmp .ne 10, 3) := by decide +kernel
theorem dX7_counted_21 : decode cX7_counted 21 = .ok (.aload_n 0, 1) := by decide +kernel
theorem dX7_counted_22 : decode cX7_counted 22 = .ok (.getfield 64, 3) := by decide +kernel
theorem dX7_counted_25 : decode cX7_counted 25 = .ok (.goto 7, 3) := by decide +kernel
theorem dX7_counted_28 : decode cX7_counted 28 = .ok (.aload_n 0, 1) := by decide +kernel
theorem dX7_counted_29 : decode cX7_counted 29 = .ok (.getfield 67, 3) := by decide +kernel
theorem dX7_counted_32 : decode cX7_counted 32 = .ok (.ireturn, 1) := by decide +kernel
theorem dX7_counted_33 : decode cX7_counted 33 = .ok (.iload_n 1, 1) := by decide +kernel
theorem dX7_counted_34 : decode cX7_counted 34 = .ok (.iconst 3, 1) := by decide +kernel
theorem dX7_counted_35 : decode cX7_counted 35 = .ok (.if_icmp .ne 10, 3) := by decide +kernel
theorem dX7_counted_38 : decode cX7_counted 38 = .ok (.aload_n 0, 1) := by decide +kernel
theorem dX7_counted_39 : decode cX7_counted 39 = .ok (.invokevirtual 136, 3) := by decide +kernel
theorem dX7_counted_42 : decode cX7_counted 42 = .ok (.goto 8, 3) := by decide +kernel
theorem dX7_counted_45 : decode cX7_counted 45 = .ok (.aload_n 0, 1) := by decide +kernel
theorem dX7_counted_46 : decode cX7_counted 46 = .ok (.iconst (-1), 1) := by decide +kernel
theorem dX7_counted_47 : decode cX7_counted 47 = .ok (.invokevirtual 140, 3) := by decide +kernel
theorem dX7_counted_50 : decode cX7_counted 50 = .ok (.ireturn, 1) := by decide +kernel
theorem ky_X7_picksOf : yX7_picksOf.cls ≠ "java/lang/invoke/MethodHandle" ∧ yX7_picksOf.cls ≠ "java/lang/invoke/VarHandle" ∧ (parseMethodDescriptor yX7_picksOf.desc).map (fun d => d.parameters.length) = some 1 := by decide +kernel
theorem kc_X7_counted_47 : ∀ w ∈ ([Cond.methodLink "QuakeBenchModel" 140 yX7_picksOf, Cond.instanceMethod yX7_picksOf, Cond.selects "QuakeBenchModel" yX7_picksOf yX7_picksOf, Cond.initialized "QuakeBenchModel", Cond.code yX7_picksOf prog_9_method_32_code 4 (Option.some Jvm.ClassFile.FieldType.int)] : List Cond), w ∈ lw_all := zin [1365, 1367, 43, 61, 1368] (by decide +kernel)
theorem ky_X7_foundEvents : yX7_foundEvents.cls ≠ "java/lang/invoke/MethodHandle" ∧ yX7_foundEvents.cls ≠ "java/lang/invoke/VarHandle" ∧ (parseMethodDescriptor yX7_foundEvents.desc).map (fun d => d.parameters.length) = some 0 := by decide +kernel
theorem kc_X7_counted_39 : ∀ w ∈ ([Cond.methodLink "QuakeBenchModel" 136 yX7_foundEvents, Cond.instanceMethod yX7_foundEvents, Cond.selects "QuakeBenchModel" yX7_foundEvents yX7_foundEvents, Cond.initialized "QuakeBenchModel", Cond.code yX7_foundEvents prog_9_method_29_code 3 (Option.some Jvm.ClassFile.FieldType.int)] : List Cond), w ∈ lw_all := zin [1361, 1363, 42, 61, 1364] (by decide +kernel)
theorem dX7_count_0 : decode cX7_count 0 = .ok (.aload_n 0, 1) := by decide +kernel
theorem dX7_count_1 : decode cX7_count 1 = .ok (.iconst 0, 1) := by decide +kernel
theorem dX7_count_2 : decode cX7_count 2 = .ok (.putfield 54, 3) := by decide +kernel
theorem dX7_count_5 : decode cX7_count 5 = .ok (.iload_n 1, 1) := by decide +kernel
theorem dX7_count_6 : decode cX7_count 6 = .ok (.iconst 0, 1) := by decide +kernel
theorem dX7_count_7 : decode cX7_count 7 = .ok (.iconst 4, 1) := by decide +kernel
theorem dX7_count_8 : decode cX7_count 8 = .ok (.invokestatic 60, 3) := by decide +kernel
theorem dX7_count_11 : decode cX7_count 11 = .ok (.ifCond .eq 11, 3) := by decide +kernel
theorem dX7_count_14 : decode cX7_count 14 = .ok (.aload_n 0, 1) := by decide +kernel
theorem dX7_count_15 : decode cX7_count 15 = .ok (.iload_n 1, 1) := by decide +kernel
theorem dX7_count_16 : decode cX7_count 16 = .ok (.invokevirtual 143, 3) := by decide +kernel
theorem dX7_count_19 : decode cX7_count 19 = .ok (.goto 8, 3) := by decide +kernel
theorem dX7_count_22 : decode cX7_count 22 = .ok (.aload_n 0, 1) := by decide +kernel
theorem dX7_count_23 : decode cX7_count 23 = .ok (.iconst 1, 1) := by decide +kernel
theorem dX7_count_24 : decode cX7_count 24 = .ok (.invokevirtual 70, 3) := by decide +kernel
theorem dX7_count_27 : decode cX7_count 27 = .ok (.ireturn, 1) := by decide +kernel
theorem kc_X7_count_8 : ∀ w ∈ ([Cond.methodLink "QuakeBenchModel" 60 yX7_isIn, Cond.static yX7_isIn, Cond.initialized "QuakeBenchModel", Cond.code yX7_isIn prog_9_method_4_code 3 (Option.some Jvm.ClassFile.FieldType.boolean)] : List Cond), w ∈ lw_all := zin [1235, 1236, 61, 1237] (by decide +kernel)
theorem kc_X7_count_24 : ∀ w ∈ ([Cond.methodLink "QuakeBenchModel" 70 yX7_no, Cond.instanceMethod yX7_no, Cond.selects "QuakeBenchModel" yX7_no yX7_no, Cond.initialized "QuakeBenchModel", Cond.code yX7_no prog_9_method_3_code 2 (Option.some Jvm.ClassFile.FieldType.int)] : List Cond), w ∈ lw_all := zin [1238, 1240, 25, 61, 1241] (by decide +kernel)
theorem ky_X7_counted : yX7_counted.cls ≠ "java/lang/invoke/MethodHandle" ∧ yX7_counted.cls ≠ "java/lang/invoke/VarHandle" ∧ (parseMethodDescriptor yX7_counted.desc).map (fun d => d.parameters.length) = some 1 := by decide +kernel
theorem kc_X7_count_16 : ∀ w ∈ ([Cond.methodLink "QuakeBenchModel" 143 yX7_counted, Cond.instanceMethod yX7_counted, Cond.selects "QuakeBenchModel" yX7_counted yX7_counted, Cond.initialized "QuakeBenchModel", Cond.code yX7_counted prog_9_method_30_code 2 (Option.some Jvm.ClassFile.FieldType.int)] : List Cond), w ∈ lw_all := zin [1357, 1359, 41, 61, 1360] (by decide +kernel)
theorem dX7_addStation_0 : decode cX7_addStation 0 = .ok (.aload_n 0, 1) := by decide +kernel
theorem dX7_addStation_1 : decode cX7_addStation 1 = .ok (.iconst 0, 1) := by decide +kernel
theorem dX7_addStation_2 : decode cX7_addStation 2 = .ok (.putfield 54, 3) := by decide +kernel
theorem dX7_addStation_5 : decode cX7_addStation 5 = .ok (.iload_n 1, 1) := by decide +kernel
theorem dX7_addStation_6 : decode cX7_addStation 6 = .ok (.iconst 0, 1) := by decide +kernel
theorem dX7_addStation_7 : decode cX7_addStation 7 = .ok (.sipush 200, 3) := by decide +kernel
theorem dX7_addStation_10 : decode cX7_addStation 10 = .ok (.invokestatic 60, 3) := by decide +kernel
theorem dX7_addStation_13 : decode cX7_addStation 13 = .ok (.ifCond .eq 14, 3) := by decide +kernel
theorem dX7_addStation_16 : decode cX7_addStation 16 = .ok (.iload_n 2, 1) := by decide +kernel
theorem dX7_addStation_17 : decode cX7_addStation 17 = .ok (.iconst 0, 1) := by decide +kernel
theorem dX7_addStation_18 : decode cX7_addStation 18 = .ok (.sipush 200, 3) := by decide +kernel
theorem dX7_addStation_21 : decode cX7_addStation 21 = .ok (.invokestatic 60, 3) := by decide +kernel
theorem dX7_addStation_24 : decode cX7_addStation 24 = .ok (.ifCond .ne 9, 3) := by decide +kernel
theorem dX7_addStation_27 : decode cX7_addStation 27 = .ok (.aload_n 0, 1) := by decide +kernel
theorem dX7_addStation_28 : decode cX7_addStation 28 = .ok (.iconst 1, 1) := by decide +kernel
theorem dX7_addStation_29 : decode cX7_addStation 29 = .ok (.invokevirtual 70, 3) := by decide +kernel
theorem dX7_addStation_32 : decode cX7_addStation 32 = .ok (.ireturn, 1) := by decide +kernel
theorem dX7_addStation_33 : decode cX7_addStation 33 = .ok (.aload_n 0, 1) := by decide +kernel
theorem dX7_addStation_34 : decode cX7_addStation 34 = .ok (.getfield 57, 3) := by decide +kernel
theorem dX7_addStation_37 : decode cX7_addStation 37 = .ok (.bipush 10, 2) := by decide +kernel
theorem dX7_addStation_39 : decode cX7_addStation 39 = .ok (.if_icmp .ne 9, 3) := by decide +kernel
theorem dX7_addStation_42 : decode cX7_addStation 42 = .ok (.aload_n 0, 1) := by decide +kernel
theorem dX7_addStation_43 : decode cX7_addStation 43 = .ok (.iconst 2, 1) := by decide +kernel
theorem dX7_addStation_44 : decode cX7_addStation 44 = .ok (.invokevirtual 70, 3) := by decide +kernel
theorem dX7_addStation_47 : decode cX7_addStation 47 = .ok (.ireturn, 1) := by decide +kernel
theorem dX7_addStation_48 : decode cX7_addStation 48 = .ok (.aload_n 0, 1) := by decide +kernel
theorem dX7_addStation_49 : decode cX7_addStation 49 = .ok (.getfield 16, 3) := by decide +kernel
theorem dX7_addStation_52 : decode cX7_addStation 52 = .ok (.aload_n 0, 1) := by decide +kernel
theorem dX7_addStation_53 : decode cX7_addStation 53 = .ok (.getfield 57, 3) := by decide +kernel
theorem dX7_addStation_56 : decode cX7_addStation 56 = .ok (.iload_n 1, 1) := by decide +kernel
theorem dX7_addStation_57 : decode cX7_addStation 57 = .ok (.iastore, 1) := by decide +kernel
theorem dX7_addStation_58 : decode cX7_addStation 58 = .ok (.aload_n 0, 1) := by decide +kernel
theorem dX7_addStation_59 : decode cX7_addStation 59 = .ok (.getfield 20, 3) := by decide +kernel
theorem dX7_addStation_62 : decode cX7_addStation 62 = .ok (.aload_n 0, 1) := by decide +kernel
theorem dX7_addStation_63 : decode cX7_addStation 63 = .ok (.getfield 57, 3) := by decide +kernel
theorem dX7_addStation_66 : decode cX7_addStation 66 = .ok (.iload_n 2, 1) := by decide +kernel
theorem dX7_addStation_67 : decode cX7_addStation 67 = .ok (.iastore, 1) := by decide +kernel
theorem dX7_addStation_68 : decode cX7_addStation 68 = .ok (.aload_n 0, 1) := by decide +kernel
theorem dX7_addStation_69 : decode cX7_addStation 69 = .ok (.dup, 1) := by decide +kernel
theorem dX7_addStation_70 : decode cX7_addStation 70 = .ok (.getfield 57, 3) := by decide +kernel
theorem dX7_addStation_73 : decode cX7_addStation 73 = .ok (.iconst 1, 1) := by decide +kernel
theorem dX7_addStation_74 : decode cX7_addStation 74 = .ok (.iadd, 1) := by decide +kernel
theorem dX7_addStation_75 : decode cX7_addStation 75 = .ok (.putfield 57, 3) := by decide +kernel
theorem dX7_addStation_78 : decode cX7_addStation 78 = .ok (.aload_n 0, 1) := by decide +kernel
theorem dX7_addStation_79 : decode cX7_addStation 79 = .ok (.getfield 57, 3) := by decide +kernel
theorem dX7_addStation_82 : decode cX7_addStation 82 = .ok (.iconst 1, 1) := by decide +kernel
theorem dX7_addStation_83 : decode cX7_addStation 83 = .ok (.isub, 1) := by decide +kernel
theorem dX7_addStation_84 : decode cX7_addStation 84 = .ok (.ireturn, 1) := by decide +kernel
theorem kc_X7_addStation_10 : ∀ w ∈ ([Cond.methodLink "QuakeBenchModel" 60 yX7_isIn, Cond.static yX7_isIn, Cond.initialized "QuakeBenchModel", Cond.code yX7_isIn prog_9_method_4_code 3 (Option.some Jvm.ClassFile.FieldType.boolean)] : List Cond), w ∈ lw_all := zin [1235, 1236, 61, 1237] (by decide +kernel)
theorem kc_X7_addStation_29 : ∀ w ∈ ([Cond.methodLink "QuakeBenchModel" 70 yX7_no, Cond.instanceMethod yX7_no, Cond.selects "QuakeBenchModel" yX7_no yX7_no, Cond.initialized "QuakeBenchModel", Cond.code yX7_no prog_9_method_3_code 2 (Option.some Jvm.ClassFile.FieldType.int)] : List Cond), w ∈ lw_all := zin [1238, 1240, 25, 61, 1241] (by decide +kernel)
theorem kc_X7_addStation_21 : ∀ w ∈ ([Cond.methodLink "QuakeBenchModel" 60 yX7_isIn, Cond.static yX7_isIn, Cond.initialized "QuakeBenchModel", Cond.code yX7_isIn prog_9_method_4_code 3 (Option.some Jvm.ClassFile.FieldType.boolean)] : List Cond), w ∈ lw_all := zin [1235, 1236, 61, 1237] (by decide +kernel)
theorem kw_1172 : Cond.fieldLink "QuakeBenchModel" 16 "QuakeBenchModel" "xs" "[I" ∈ lw_all := zin1 1172 (by decide +kernel)
theorem kw_1173 : Cond.fieldLink "QuakeBenchModel" 20 "QuakeBenchModel" "ys" "[I" ∈ lw_all := zin1 1173 (by decide +kernel)
theorem dX7_addEvent_0 : decode cX7_addEvent 0 = .ok (.aload_n 0, 1) := by decide +kernel
theorem dX7_addEvent_1 : decode cX7_addEvent 1 = .ok (.iconst 0, 1) := by decide +kernel
theorem dX7_addEvent_2 : decode cX7_addEvent 2 = .ok (.putfield 54, 3) := by decide +kernel
theorem dX7_addEvent_5 : decode cX7_addEvent 5 = .ok (.aload_n 0, 1) := by decide +kernel
theorem dX7_addEvent_6 : decode cX7_addEvent 6 = .ok (.getfield 67, 3) := by decide +kernel
theorem dX7_addEvent_9 : decode cX7_addEvent 9 = .ok (.bipush 12, 2) := by decide +kernel
theorem dX7_addEvent_11 : decode cX7_addEvent 11 = .ok (.if_icmp .ne 9, 3) := by decide +kernel
theorem dX7_addEvent_14 : decode cX7_addEvent 14 = .ok (.aload_n 0, 1) := by decide +kernel
theorem dX7_addEvent_15 : decode cX7_addEvent 15 = .ok (.iconst 1, 1) := by decide +kernel
theorem dX7_addEvent_16 : decode cX7_addEvent 16 = .ok (.invokevirtual 70, 3) := by decide +kernel
theorem dX7_addEvent_19 : decode cX7_addEvent 19 = .ok (.ireturn, 1) := by decide +kernel
theorem dX7_addEvent_20 : decode cX7_addEvent 20 = .ok (.aload_n 0, 1) := by decide +kernel
theorem dX7_addEvent_21 : decode cX7_addEvent 21 = .ok (.getfield 45, 3) := by decide +kernel
theorem dX7_addEvent_24 : decode cX7_addEvent 24 = .ok (.aload_n 0, 1) := by decide +kernel
theorem dX7_addEvent_25 : decode cX7_addEvent 25 = .ok (.getfield 67, 3) := by decide +kernel
theorem dX7_addEvent_28 : decode cX7_addEvent 28 = .ok (.iconst 0, 1) := by decide +kernel
theorem dX7_addEvent_29 : decode cX7_addEvent 29 = .ok (.bastore, 1) := by decide +kernel
theorem dX7_addEvent_30 : decode cX7_addEvent 30 = .ok (.aload_n 0, 1) := by decide +kernel
theorem dX7_addEvent_31 : decode cX7_addEvent 31 = .ok (.dup, 1) := by decide +kernel
theorem dX7_addEvent_32 : decode cX7_addEvent 32 = .ok (.getfield 67, 3) := by decide +kernel
theorem dX7_addEvent_35 : decode cX7_addEvent 35 = .ok (.iconst 1, 1) := by decide +kernel
theorem dX7_addEvent_36 : decode cX7_addEvent 36 = .ok (.iadd, 1) := by decide +kernel
theorem dX7_addEvent_37 : decode cX7_addEvent 37 = .ok (.putfield 67, 3) := by decide +kernel
theorem dX7_addEvent_40 : decode cX7_addEvent 40 = .ok (.aload_n 0, 1) := by decide +kernel
theorem dX7_addEvent_41 : decode cX7_addEvent 41 = .ok (.getfield 67, 3) := by decide +kernel
theorem dX7_addEvent_44 : decode cX7_addEvent 44 = .ok (.iconst 1, 1) := by decide +kernel
theorem dX7_addEvent_45 : decode cX7_addEvent 45 = .ok (.isub, 1) := by decide +kernel
theorem dX7_addEvent_46 : decode cX7_addEvent 46 = .ok (.ireturn, 1) := by decide +kernel
theorem kw_1183 : Cond.fieldLink "QuakeBenchModel" 45 "QuakeBenchModel" "areFound" "[Z" ∈ lw_all := zin1 1183 (by decide +kernel)
theorem dX7_setSpeeds_0 : decode cX7_setSpeeds 0 = .ok (.aload_n 0, 1) := by decide +kernel
theorem dX7_setSpeeds_1 : decode cX7_setSpeeds 1 = .ok (.iconst 0, 1) := by decide +kernel
theorem dX7_setSpeeds_2 : decode cX7_setSpeeds 2 = .ok (.putfield 54, 3) := by decide +kernel
theorem dX7_setSpeeds_5 : decode cX7_setSpeeds 5 = .ok (.iload_n 1, 1) := by decide +kernel
theorem dX7_setSpeeds_6 : decode cX7_setSpeeds 6 = .ok (.sipush 3000, 3) := by decide +kernel
theorem dX7_setSpeeds_9 : decode cX7_setSpeeds 9 = .ok (.sipush 9000, 3) := by decide +kernel
theorem dX7_setSpeeds_12 : decode cX7_setSpeeds 12 = .ok (.invokestatic 60, 3) := by decide +kernel
theorem dX7_setSpeeds_15 : decode cX7_setSpeeds 15 = .ok (.ifCond .eq 16, 3) := by decide +kernel
theorem dX7_setSpeeds_18 : decode cX7_setSpeeds 18 = .ok (.iload_n 2, 1) := by decide +kernel
theorem dX7_setSpeeds_19 : decode cX7_setSpeeds 19 = .ok (.sipush 150, 3) := by decide +kernel
theorem dX7_setSpeeds_22 : decode cX7_setSpeeds 22 = .ok (.sipush 200, 3) := by decide +kernel
theorem dX7_setSpeeds_25 : decode cX7_setSpeeds 25 = .ok (.invokestatic 60, 3) := by decide +kernel
theorem dX7_setSpeeds_28 : decode cX7_setSpeeds 28 = .ok (.ifCond .ne 9, 3) := by decide +kernel
theorem dX7_setSpeeds_31 : decode cX7_setSpeeds 31 = .ok (.aload_n 0, 1) := by decide +kernel
theorem dX7_setSpeeds_32 : decode cX7_setSpeeds 32 = .ok (.iconst 1, 1) := by decide +kernel
theorem dX7_setSpeeds_33 : decode cX7_setSpeeds 33 = .ok (.invokevirtual 70, 3) := by decide +kernel
theorem dX7_setSpeeds_36 : decode cX7_setSpeeds 36 = .ok (.ireturn, 1) := by decide +kernel
theorem dX7_setSpeeds_37 : decode cX7_setSpeeds 37 = .ok (.aload_n 0, 1) := by decide +kernel
theorem dX7_setSpeeds_38 : decode cX7_setSpeeds 38 = .ok (.iload_n 1, 1) := by decide +kernel
theorem dX7_setSpeeds_39 : decode cX7_setSpeeds 39 = .ok (.putfield 7, 3) := by decide +kernel
theorem dX7_setSpeeds_42 : decode cX7_setSpeeds 42 = .ok (.aload_n 0, 1) := by decide +kernel
theorem dX7_setSpeeds_43 : decode cX7_setSpeeds 43 = .ok (.iload_n 1, 1) := by decide +kernel
theorem dX7_setSpeeds_44 : decode cX7_setSpeeds 44 = .ok (.bipush 100, 2) := by decide +kernel
theorem dX7_setSpeeds_46 : decode cX7_setSpeeds 46 = .ok (.imul, 1) := by decide +kernel
theorem dX7_setSpeeds_47 : decode cX7_setSpeeds 47 = .ok (.iload_n 2, 1) := by decide +kernel
theorem dX7_setSpeeds_48 : decode cX7_setSpeeds 48 = .ok (.idiv, 1) := by decide +kernel
theorem dX7_setSpeeds_49 : decode cX7_setSpeeds 49 = .ok (.putfield 13, 3) := by decide +kernel
theorem dX7_setSpeeds_52 : decode cX7_setSpeeds 52 = .ok (.iconst 0, 1) := by decide +kernel
theorem dX7_setSpeeds_53 : decode cX7_setSpeeds 53 = .ok (.istore_n 3, 1) := by decide +kernel
theorem dX7_setSpeeds_54 : decode cX7_setSpeeds 54 = .ok (.iload_n 3, 1) := by decide +kernel
theorem dX7_setSpeeds_55 : decode cX7_setSpeeds 55 = .ok (.aload_n 0, 1) := by decide +kernel
theorem dX7_setSpeeds_56 : decode cX7_setSpeeds 56 = .ok (.getfield 67, 3) := by decide +kernel
theorem dX7_setSpeeds_59 : decode cX7_setSpeeds 59 = .ok (.if_icmp .ge 16, 3) := by decide +kernel
theorem dX7_setSpeeds_62 : decode cX7_setSpeeds 62 = .ok (.aload_n 0, 1) := by decide +kernel
theorem dX7_setSpeeds_63 : decode cX7_setSpeeds 63 = .ok (.getfield 45, 3) := by decide +kernel
theorem dX7_setSpeeds_66 : decode cX7_setSpeeds 66 = .ok (.iload_n 3, 1) := by decide +kernel
theorem dX7_setSpeeds_67 : decode cX7_setSpeeds 67 = .ok (.iconst 0, 1) := by decide +kernel
theorem dX7_setSpeeds_68 : decode cX7_setSpeeds 68 = .ok (.bastore, 1) := by decide +kernel
theorem dX7_setSpeeds_69 : decode cX7_setSpeeds 69 = .ok (.iinc 3 1, 3) := by decide +kernel
theorem dX7_setSpeeds_72 : decode cX7_setSpeeds 72 = .ok (.goto (-18), 3) := by decide +kernel
theorem dX7_setSpeeds_75 : decode cX7_setSpeeds 75 = .ok (.aload_n 0, 1) := by decide +kernel
theorem dX7_setSpeeds_76 : decode cX7_setSpeeds 76 = .ok (.getfield 13, 3) := by decide +kernel
theorem dX7_setSpeeds_79 : decode cX7_setSpeeds 79 = .ok (.ireturn, 1) := by decide +kernel
theorem kc_X7_setSpeeds_12 : ∀ w ∈ ([Cond.methodLink "QuakeBenchModel" 60 yX7_isIn, Cond.static yX7_isIn, Cond.initialized "QuakeBenchModel", Cond.code yX7_isIn prog_9_method_4_code 3 (Option.some Jvm.ClassFile.FieldType.boolean)] : List Cond), w ∈ lw_all := zin [1235, 1236, 61, 1237] (by decide +kernel)
theorem kc_X7_setSpeeds_33 : ∀ w ∈ ([Cond.methodLink "QuakeBenchModel" 70 yX7_no, Cond.instanceMethod yX7_no, Cond.selects "QuakeBenchModel" yX7_no yX7_no, Cond.initialized "QuakeBenchModel", Cond.code yX7_no prog_9_method_3_code 2 (Option.some Jvm.ClassFile.FieldType.int)] : List Cond), w ∈ lw_all := zin [1238, 1240, 25, 61, 1241] (by decide +kernel)
theorem kc_X7_setSpeeds_25 : ∀ w ∈ ([Cond.methodLink "QuakeBenchModel" 60 yX7_isIn, Cond.static yX7_isIn, Cond.initialized "QuakeBenchModel", Cond.code yX7_isIn prog_9_method_4_code 3 (Option.some Jvm.ClassFile.FieldType.boolean)] : List Cond), w ∈ lw_all := zin [1235, 1236, 61, 1237] (by decide +kernel)
theorem kw_1169 : Cond.fieldLink "QuakeBenchModel" 7 "QuakeBenchModel" "speedP" "I" ∈ lw_all := zin1 1169 (by decide +kernel)
theorem kw_1170 : Cond.fieldLink "QuakeBenchModel" 13 "QuakeBenchModel" "speedS" "I" ∈ lw_all := zin1 1170 (by decide +kernel)
theorem dX7_associate_0 : decode cX7_associate 0 = .ok (.aload_n 0, 1) := by decide +kernel
theorem dX7_associate_1 : decode cX7_associate 1 = .ok (.iconst 0, 1) := by decide +kernel
theorem dX7_associate_2 : decode cX7_associate 2 = .ok (.putfield 54, 3) := by decide +kernel
theorem dX7_associate_5 : decode cX7_associate 5 = .ok (.bipush 80, 2) := by decide +kernel
theorem dX7_associate_7 : decode cX7_associate 7 = .ok (.newarray .boolean, 2) := by decide +kernel
theorem dX7_associate_9 : decode cX7_associate 9 = .ok (.astore_n 1, 1) := by decide +kernel
theorem dX7_associate_10 : decode cX7_associate 10 = .ok (.iconst 0, 1) := by decide +kernel
theorem dX7_associate_11 : decode cX7_associate 11 = .ok (.istore_n 2, 1) := by decide +kernel
theorem dX7_associate_12 : decode cX7_associate 12 = .ok (.iconst 0, 1) := by decide +kernel
theorem dX7_associate_13 : decode cX7_associate 13 = .ok (.istore_n 3, 1) := by decide +kernel
theorem dX7_associate_14 : decode cX7_associate 14 = .ok (.iload_n 3, 1) := by decide +kernel
theorem dX7_associate_15 : decode cX7_associate 15 = .ok (.aload_n 0, 1) := by decide +kernel
theorem dX7_associate_16 : decode cX7_associate 16 = .ok (.getfield 64, 3) := by decide +kernel
theorem dX7_associate_19 : decode cX7_associate 19 = .ok (.if_icmp .ge 125, 3) := by decide +kernel
theorem dX7_associate_22 : decode cX7_associate 22 = .ok (.iconst (-1), 1) := by decide +kernel
theorem dX7_associate_23 : decode cX7_associate 23 = .ok (.istore 4, 2) := by decide +kernel
theorem dX7_associate_25 : decode cX7_associate 25 = .ok (.iconst 0, 1) := by decide +kernel
theorem dX7_associate_26 : decode cX7_associate 26 = .ok (.istore 5, 2) := by decide +kernel
theorem dX7_associate_28 : decode cX7_associate 28 = .ok (.iload 5, 2) := by decide +kernel
theorem dX7_associate_30 : decode cX7_associate 30 = .ok (.aload_n 0, 1) := by decide +kernel
theorem dX7_associate_31 : decode cX7_associate 31 = .ok (.getfield 64, 3) := by decide +kernel
theorem dX7_associate_34 : decode cX7_associate 34 = .ok (.if_icmp .ge 37, 3) := by decide +kernel
theorem dX7_associate_37 : decode cX7_associate 37 = .ok (.aload_n 1, 1) := by decide +kernel
theorem dX7_associate_38 : decode cX7_associate 38 = .ok (.iload 5, 2) := by decide +kernel
theorem dX7_associate_40 : decode cX7_associate 40 = .ok (.baload, 1) := by decide +kernel
theorem dX7_associate_41 : decode cX7_associate 41 = .ok (.ifCond .ne 24, 3) := by decide +kernel
theorem dX7_associate_44 : decode cX7_associate 44 = .ok (.iload 4, 2) := by decide +kernel
theorem dX7_associate_46 : decode cX7_associate 46 = .ok (.iconst (-1), 1) := by decide +kernel
theorem dX7_associate_47 : decode cX7_associate 47 = .ok (.if_icmp .eq 14, 3) := by decide +kernel
theorem dX7_associate_50 : decode cX7_associate 50 = .ok (.aload_n 0, 1) := by decide +kernel
theorem dX7_associate_51 : decode cX7_associate 51 = .ok (.iload 5, 2) := by decide +kernel
theorem dX7_associate_53 : decode cX7_associate 53 = .ok (.iload 4, 2) := by decide +kernel
theorem dX7_associate_55 : decode cX7_associate 55 = .ok (.invokevirtual 122, 3) := by decide +kernel
theorem dX7_associate_58 : decode cX7_associate 58 = .ok (.ifCond .eq 7, 3) := by decide +kernel
theorem dX7_associate_61 : decode cX7_associate 61 = .ok (.iload 5, 2) := by decide +kernel
theorem dX7_associate_63 : decode cX7_associate 63 = .ok (.istore 4, 2) := by decide +kernel
theorem dX7_associate_65 : decode cX7_associate 65 = .ok (.iinc 5 1, 3) := by decide +kernel
theorem dX7_associate_68 : decode cX7_associate 68 = .ok (.goto (-40), 3) := by decide +kernel
theorem dX7_associate_71 : decode cX7_associate 71 = .ok (.aload_n 1, 1) := by decide +kernel
theorem dX7_associate_72 : decode cX7_associate 72 = .ok (.iload 4, 2) := by decide +kernel
theorem dX7_associate_74 : decode cX7_associate 74 = .ok (.iconst 1, 1) := by decide +kernel
theorem dX7_associate_75 : decode cX7_associate 75 = .ok (.bastore, 1) := by decide +kernel
theorem dX7_associate_76 : decode cX7_associate 76 = .ok (.aload_n 0, 1) := by decide +kernel
theorem dX7_associate_77 : decode cX7_associate 77 = .ok (.getfield 39, 3) := by decide +kernel
theorem dX7_associate_80 : decode cX7_associate 80 = .ok (.iload 4, 2) := by decide +kernel
theorem dX7_associate_82 : decode cX7_associate 82 = .ok (.iaload, 1) := by decide +kernel
theorem dX7_associate_83 : decode cX7_associate 83 = .ok (.iconst (-1), 1) := by decide +kernel
theorem dX7_associate_84 : decode cX7_associate 84 = .ok (.if_icmp .eq 6, 3) := by decide +kernel
theorem dX7_associate_87 : decode cX7_associate 87 = .ok (.goto 51, 3) := by decide +kernel
theorem dX7_associate_90 : decode cX7_associate 90 = .ok (.aload_n 0, 1) := by decide +kernel
theorem dX7_associate_91 : decode cX7_associate 91 = .ok (.iload 4, 2) := by decide +kernel
theorem dX7_associate_93 : decode cX7_associate 93 = .ok (.invokevirtual 130, 3) := by decide +kernel
theorem dX7_associate_96 : decode cX7_associate 96 = .ok (.istore 5, 2) := by decide +kernel
theorem dX7_associate_98 : decode cX7_associate 98 = .ok (.iload 5, 2) := by decide +kernel
theorem dX7_associate_100 : decode cX7_associate 100 = .ok (.iconst (-1), 1) := by decide +kernel
theorem dX7_associate_101 : decode cX7_associate 101 = .ok (.if_icmp .eq 18, 3) := by decide +kernel
theorem dX7_associate_104 : decode cX7_associate 104 = .ok (.aload_n 0, 1) := by decide +kernel
theorem dX7_associate_105 : decode cX7_associate 105 = .ok (.getfield 39, 3) := by decide +kernel
theorem dX7_associate_108 : decode cX7_associate 108 = .ok (.iload 4, 2) := by decide +kernel
theorem dX7_associate_110 : decode cX7_associate 110 = .ok (.iload 5, 2) := by decide +kernel
theorem dX7_associate_112 : decode cX7_associate 112 = .ok (.iastore, 1) := by decide +kernel
theorem dX7_associate_113 : decode cX7_associate 113 = .ok (.iinc 2 1, 3) := by decide +kernel
theorem dX7_associate_116 : decode cX7_associate 116 = .ok (.goto 22, 3) := by decide +kernel
theorem dX7_associate_119 : decode cX7_associate 119 = .ok (.aload_n 0, 1) := by decide +kernel
theorem dX7_associate_120 : decode cX7_associate 120 = .ok (.getfield 29, 3) := by decide +kernel
theorem dX7_associate_123 : decode cX7_associate 123 = .ok (.iload 4, 2) := by decide +kernel
theorem dX7_associate_125 : decode cX7_associate 125 = .ok (.baload, 1) := by decide +kernel
theorem dX7_associate_126 : decode cX7_associate 126 = .ok (.ifCond .ne 12, 3) := by decide +kernel
theorem dX7_associate_129 : decode cX7_associate 129 = .ok (.iload_n 2, 1) := by decide +kernel
theorem dX7_associate_130 : decode cX7_associate 130 = .ok (.aload_n 0, 1) := by decide +kernel
theorem dX7_associate_131 : decode cX7_associate 131 = .ok (.iload 4, 2) := by decide +kernel
theorem dX7_associate_133 : decode cX7_associate 133 = .ok (.invokevirtual 133, 3) := by decide +kernel
theorem dX7_associate_136 : decode cX7_associate 136 = .ok (.iadd, 1) := by decide +kernel
theorem dX7_associate_137 : decode cX7_associate 137 = .ok (.istore_n 2, 1) := by decide +kernel
theorem dX7_associate_138 : decode cX7_associate 138 = .ok (.iinc 3 1, 3) := by decide +kernel
theorem dX7_associate_141 : decode cX7_associate 141 = .ok (.goto (-127), 3) := by decide +kernel
theorem dX7_associate_144 : decode cX7_associate 144 = .ok (.iload_n 2, 1) := by decide +kernel
theorem dX7_associate_145 : decode cX7_associate 145 = .ok (.ireturn, 1) := by decide +kernel
theorem kw_1226 : Cond.arrayClass Jvm.ClassFile.FieldType.boolean ∈ lw_all := zin1 1226 (by decide +kernel)
theorem dX7_nearest_0 : decode cX7_nearest 0 = .ok (.aload_n 0, 1) := by decide +kernel
theorem dX7_nearest_1 : decode cX7_nearest 1 = .ok (.iconst 0, 1) := by decide +kernel
theorem dX7_nearest_2 : decode cX7_nearest 2 = .ok (.putfield 54, 3) := by decide +kernel
theorem dX7_nearest_5 : decode cX7_nearest 5 = .ok (.iload_n 1, 1) := by decide +kernel
theorem dX7_nearest_6 : decode cX7_nearest 6 = .ok (.iload_n 2, 1) := by decide +kernel
theorem dX7_nearest_7 : decode cX7_nearest 7 = .ok (.iload_n 3, 1) := by decide +kernel
theorem dX7_nearest_8 : decode cX7_nearest 8 = .ok (.invokestatic 88, 3) := by decide +kernel
theorem dX7_nearest_11 : decode cX7_nearest 11 = .ok (.ifCond .ne 9, 3) := by decide +kernel
theorem dX7_nearest_14 : decode cX7_nearest 14 = .ok (.aload_n 0, 1) := by decide +kernel
theorem dX7_nearest_15 : decode cX7_nearest 15 = .ok (.iconst 1, 1) := by decide +kernel
theorem dX7_nearest_16 : decode cX7_nearest 16 = .ok (.invokevirtual 70, 3) := by decide +kernel
theorem dX7_nearest_19 : decode cX7_nearest 19 = .ok (.ireturn, 1) := by decide +kernel
theorem dX7_nearest_20 : decode cX7_nearest 20 = .ok (.iconst (-1), 1) := by decide +kernel
theorem dX7_nearest_21 : decode cX7_nearest 21 = .ok (.istore 4, 2) := by decide +kernel
theorem dX7_nearest_23 : decode cX7_nearest 23 = .ok (.iconst 0, 1) := by decide +kernel
theorem dX7_nearest_24 : decode cX7_nearest 24 = .ok (.istore 5, 2) := by decide +kernel
theorem dX7_nearest_26 : decode cX7_nearest 26 = .ok (.iload 5, 2) := by decide +kernel
theorem dX7_nearest_28 : decode cX7_nearest 28 = .ok (.aload_n 0, 1) := by decide +kernel
theorem dX7_nearest_29 : decode cX7_nearest 29 = .ok (.getfield 67, 3) := by decide +kernel
theorem dX7_nearest_32 : decode cX7_nearest 32 = .ok (.if_icmp .ge 50, 3) := by decide +kernel
theorem dX7_nearest_35 : decode cX7_nearest 35 = .ok (.aload_n 0, 1) := by decide +kernel
theorem dX7_nearest_36 : decode cX7_nearest 36 = .ok (.getfield 45, 3) := by decide +kernel
theorem dX7_nearest_39 : decode cX7_nearest 39 = .ok (.iload 5, 2) := by decide +kernel
theorem dX7_nearest_41 : decode cX7_nearest 41 = .ok (.baload, 1) := by decide +kernel
theorem dX7_nearest_42 : decode cX7_nearest 42 = .ok (.ifCond .eq 34, 3) := by decide +kernel
theorem dX7_nearest_45 : decode cX7_nearest 45 = .ok (.iload 4, 2) := by decide +kernel
theorem dX7_nearest_47 : decode cX7_nearest 47 = .ok (.iconst (-1), 1) := by decide +kernel
theorem dX7_nearest_48 : decode cX7_nearest 48 = .ok (.if_icmp .eq 24, 3) := by decide +kernel
theorem dX7_nearest_51 : decode cX7_nearest 51 = .ok (.aload_n 0, 1) := by decide +kernel
theorem dX7_nearest_52 : decode cX7_nearest 52 = .ok (.iload 5, 2) := by decide +kernel
theorem dX7_nearest_54 : decode cX7_nearest 54 = .ok (.iload_n 1, 1) := by decide +kernel
theorem dX7_nearest_55 : decode cX7_nearest 55 = .ok (.iload_n 2, 1) := by decide +kernel
theorem dX7_nearest_56 : decode cX7_nearest 56 = .ok (.iload_n 3, 1) := by decide +kernel
theorem dX7_nearest_57 : decode cX7_nearest 57 = .ok (.invokevirtual 191, 3) := by decide +kernel
theorem dX7_nearest_60 : decode cX7_nearest 60 = .ok (.aload_n 0, 1) := by decide +kernel
theorem dX7_nearest_61 : decode cX7_nearest 61 = .ok (.iload 4, 2) := by decide +kernel
theorem dX7_nearest_63 : decode cX7_nearest 63 = .ok (.iload_n 1, 1) := by decide +kernel
theorem dX7_nearest_64 : decode cX7_nearest 64 = .ok (.iload_n 2, 1) := by decide +kernel
theorem dX7_nearest_65 : decode cX7_nearest 65 = .ok (.iload_n 3, 1) := by decide +kernel
theorem dX7_nearest_66 : decode cX7_nearest 66 = .ok (.invokevirtual 191, 3) := by decide +kernel
theorem dX7_nearest_69 : decode cX7_nearest 69 = .ok (.if_icmp .ge 7, 3) := by decide +kernel
theorem dX7_nearest_72 : decode cX7_nearest 72 = .ok (.iload 5, 2) := by decide +kernel
theorem dX7_nearest_74 : decode cX7_nearest 74 = .ok (.istore 4, 2) := by decide +kernel
theorem dX7_nearest_76 : decode cX7_nearest 76 = .ok (.iinc 5 1, 3) := by decide +kernel
theorem dX7_nearest_79 : decode cX7_nearest 79 = .ok (.goto (-53), 3) := by decide +kernel
theorem dX7_nearest_82 : decode cX7_nearest 82 = .ok (.iload 4, 2) := by decide +kernel
theorem dX7_nearest_84 : decode cX7_nearest 84 = .ok (.ireturn, 1) := by decide +kernel
theorem ky_X7_isPlace : yX7_isPlace.cls ≠ "java/lang/invoke/MethodHandle" ∧ yX7_isPlace.cls ≠ "java/lang/invoke/VarHandle" ∧ (parseMethodDescriptor yX7_isPlace.desc).map (fun d => d.parameters.length) = some 3 := by decide +kernel
theorem kc_X7_nearest_8 : ∀ w ∈ ([Cond.methodLink "QuakeBenchModel" 88 yX7_isPlace, Cond.static yX7_isPlace, Cond.initialized "QuakeBenchModel", Cond.code yX7_isPlace prog_9_method_8_code 3 (Option.some Jvm.ClassFile.FieldType.boolean)] : List Cond), w ∈ lw_all := zin [1258, 1259, 61, 1260] (by decide +kernel)
theorem kc_X7_nearest_16 : ∀ w ∈ ([Cond.methodLink "QuakeBenchModel" 70 yX7_no, Cond.instanceMethod yX7_no, Cond.selects "QuakeBenchModel" yX7_no yX7_no, Cond.initialized "QuakeBenchModel", Cond.code yX7_no prog_9_method_3_code 2 (Option.some Jvm.ClassFile.FieldType.int)] : List Cond), w ∈ lw_all := zin [1238, 1240, 25, 61, 1241] (by decide +kernel)
/-! the reference: its calls on a new object that aren't refused at once -/
def zMf (Γ : zY) (G : zG) (μ : Nat → Nat) : Prop := G (μ 0) = some (zI Γ 10 (fun _ => 0)) ∧ G (μ 1) = some (zI Γ 10 (fun _ => 0)) ∧ μ 0 ≠ μ 1 ∧ G (μ 9) = some (zZ Γ 12 (fun _ => 0))
def zMK (G G' : zG) (mo : Nat) (μ : Nat → Nat) (th : Int32) : Prop := (∃ fs, G' mo = some (.inr (8, .int th :: fs))) ∧ ∀ q e, G q = some e → q ≠ mo → (∀ i, q ≠ μ i) → G' q = some e
theorem zMK.u {G : zG} {mo : Nat} {μ : Nat → Nat} {th : Int32} {fs : List Value} : zMK G (zU G mo (.inr (8, .int th :: fs))) mo μ th := ⟨⟨fs, zU_same _ _ _⟩, fun q e h h1 _ => (zU_ne h1).trans h⟩
theorem zMK.uu {G : zG} {mo : Nat} {μ : Nat → Nat} {th : Int32} {fs : List Value} {x : va_E} : zMK G (zU (zU G mo x) mo (.inr (8, .int th :: fs))) mo μ th := by rw [zU_zU]; exact zMK.u
def s_xyk (x y : Int32) : Int32 := if s_in x 0 200 = 0 then 1 else if s_in y 0 200 = 0 then 1 else 0
def s_spk (v r : Int32) : Int32 := if s_in v 3000 9000 = 0 then 1 else if s_in r 150 200 = 0 then 1 else 0
def s_rng (a b : Int32) : Int32 := if s_in a 0 500 = 0 then 0 else if s_in b 0 10000000 = 0 then 0 else 1
def s_pl3 (x y z : Int32) : Int32 := if s_in x 0 200 = 0 then 0 else if s_in y 0 200 = 0 then 0 else if s_in z 0 60 = 0 then 0 else 1
def s_not (x : Int32) : Int32 := if x = 0 then 1 else 0
theorem s_in_ne {x lo hi : Int32} (h : ¬ s_in x lo hi = 0) : ¬ x < lo ∧ ¬ x > hi := by
  unfold s_in at h
  refine ⟨fun z => h (if_pos z), fun z => h ?_⟩
  by_cases h1 : x < lo
  · exact if_pos h1
  · rw [if_neg h1]; exact if_pos z
abbrev rm_m_isRange : Room := { frames := 1, cells := 0, slots := 0, locals := 22 }
set_option maxHeartbeats 4000000 in
set_option maxRecDepth 100000 in
theorem m_isRange (l : Launch) (Γ : zY) (G : zG) (a b : Int32) : ZM l yX7_isRange cX7_isRange 2 (some FieldType.boolean) rm_m_isRange Γ [.int a, .int b] G (zRd G (.int (s_rng a b))) := by
  refine z_start (by decide +kernel) [some (.int a), some (.int b)] rfl (Nat.le_of_ble_eq_true rfl) ?_
  intro p e s m args below meth c Q A C F hr hnm
  refine z_iload_n C dX7_isRange_0 rfl ?_
  refine z_iconst (v := 0) C dX7_isRange_1 rfl ?_
  refine z_sipush (v := 500) C dX7_isRange_2 rfl ?_
  refine z_callS C (m_isIn l Γ _ a 0 500) kc_X7_isRange_5 rfl rfl ky_X7_isIn ⟨(Nat.le_of_ble_eq_true rfl), (Nat.le_of_ble_eq_true rfl)⟩ (Nat.le_of_ble_eq_true rfl) ⟨(Nat.le_of_ble_eq_true rfl), (Nat.le_of_ble_eq_true rfl)⟩ dX7_isRange_5 (fun v5 G5 hp5 => ?_)
  obtain ⟨rfl, rfl⟩ := hp5
  refine z_if_eq (tgt := 25) C dX7_isRange_8 (by decide) (fun h8 => ?_) (fun h8 => ?_)
  · refine z_iconst (v := 0) C dX7_isRange_25 rfl ?_
    exact z_bret C F hr rfl (Nat.le_of_ble_eq_true rfl) (Nat.le_of_ble_eq_true rfl) ⟨by unfold s_rng; rw [if_pos h8], rfl⟩ dX7_isRange_26
  · refine z_iload_n C dX7_isRange_11 rfl ?_
    refine z_iconst (v := 0) C dX7_isRange_12 rfl ?_
    refine z_ldc C kw_1280 dX7_isRange_13 ?_
    refine z_callS C (m_isIn l Γ _ b 0 10000000) kc_X7_isRange_15 rfl rfl ky_X7_isIn ⟨(Nat.le_of_ble_eq_true rfl), (Nat.le_of_ble_eq_true rfl)⟩ (Nat.le_of_ble_eq_true rfl) ⟨(Nat.le_of_ble_eq_true rfl), (Nat.le_of_ble_eq_true rfl)⟩ dX7_isRange_15 (fun v15 G15 hp15 => ?_)
    obtain ⟨rfl, rfl⟩ := hp15
    refine z_if_eq (tgt := 25) C dX7_isRange_18 (by decide) (fun h18 => ?_) (fun h18 => ?_)
    · refine z_iconst (v := 0) C dX7_isRange_25 rfl ?_
      exact z_bret C F hr rfl (Nat.le_of_ble_eq_true rfl) (Nat.le_of_ble_eq_true rfl) ⟨by unfold s_rng; rw [if_neg h8, if_pos h18], rfl⟩ dX7_isRange_26
    · refine z_iconst (v := 1) C dX7_isRange_21 rfl ?_
      refine z_goto (tgt := 26) C dX7_isRange_22 (by decide) ?_
      exact z_bret C F hr rfl (Nat.le_of_ble_eq_true rfl) (Nat.le_of_ble_eq_true rfl) ⟨by unfold s_rng; rw [if_neg h8, if_neg h18], rfl⟩ dX7_isRange_26
abbrev rm_m_isPlace : Room := { frames := 1, cells := 0, slots := 0, locals := 22 }
set_option maxHeartbeats 4000000 in
set_option maxRecDepth 100000 in
theorem m_isPlace (l : Launch) (Γ : zY) (G : zG) (x y z : Int32) : ZM l yX7_isPlace cX7_isPlace 3 (some FieldType.boolean) rm_m_isPlace Γ [.int x, .int y, .int z] G (zRd G (.int (s_pl3 x y z))) := by
  refine z_start (by decide +kernel) [some (.int x), some (.int y), some (.int z)] rfl (Nat.le_of_ble_eq_true rfl) ?_
  intro p e s m args below meth c Q A C F hr hnm
  refine z_iload_n C dX7_isPlace_0 rfl ?_
  refine z_iconst (v := 0) C dX7_isPlace_1 rfl ?_
  refine z_sipush (v := 200) C dX7_isPlace_2 rfl ?_
  refine z_callS C (m_isIn l Γ _ x 0 200) kc_X7_isPlace_5 rfl rfl ky_X7_isIn ⟨(Nat.le_of_ble_eq_true rfl), (Nat.le_of_ble_eq_true rfl)⟩ (Nat.le_of_ble_eq_true rfl) ⟨(Nat.le_of_ble_eq_true rfl), (Nat.le_of_ble_eq_true rfl)⟩ dX7_isPlace_5 (fun v5 G5 hp5 => ?_)
  obtain ⟨rfl, rfl⟩ := hp5
  refine z_if_eq (tgt := 36) C dX7_isPlace_8 (by decide) (fun h8 => ?_) (fun h8 => ?_)
  · refine z_iconst (v := 0) C dX7_isPlace_36 rfl ?_
    exact z_bret C F hr rfl (Nat.le_of_ble_eq_true rfl) (Nat.le_of_ble_eq_true rfl) ⟨by unfold s_pl3; rw [if_pos h8], rfl⟩ dX7_isPlace_37
  · refine z_iload_n C dX7_isPlace_11 rfl ?_
    refine z_iconst (v := 0) C dX7_isPlace_12 rfl ?_
    refine z_sipush (v := 200) C dX7_isPlace_13 rfl ?_
    refine z_callS C (m_isIn l Γ _ y 0 200) kc_X7_isPlace_16 rfl rfl ky_X7_isIn ⟨(Nat.le_of_ble_eq_true rfl), (Nat.le_of_ble_eq_true rfl)⟩ (Nat.le_of_ble_eq_true rfl) ⟨(Nat.le_of_ble_eq_true rfl), (Nat.le_of_ble_eq_true rfl)⟩ dX7_isPlace_16 (fun v16 G16 hp16 => ?_)
    obtain ⟨rfl, rfl⟩ := hp16
    refine z_if_eq (tgt := 36) C dX7_isPlace_19 (by decide) (fun h19 => ?_) (fun h19 => ?_)
    · refine z_iconst (v := 0) C dX7_isPlace_36 rfl ?_
      exact z_bret C F hr rfl (Nat.le_of_ble_eq_true rfl) (Nat.le_of_ble_eq_true rfl) ⟨by unfold s_pl3; rw [if_neg h8, if_pos h19], rfl⟩ dX7_isPlace_37
    · refine z_iload_n C dX7_isPlace_22 rfl ?_
      refine z_iconst (v := 0) C dX7_isPlace_23 rfl ?_
      refine z_bipush (v := 60) C dX7_isPlace_24 rfl ?_
      refine z_callS C (m_isIn l Γ _ z 0 60) kc_X7_isPlace_26 rfl rfl ky_X7_isIn ⟨(Nat.le_of_ble_eq_true rfl), (Nat.le_of_ble_eq_true rfl)⟩ (Nat.le_of_ble_eq_true rfl) ⟨(Nat.le_of_ble_eq_true rfl), (Nat.le_of_ble_eq_true rfl)⟩ dX7_isPlace_26 (fun v26 G26 hp26 => ?_)
      obtain ⟨rfl, rfl⟩ := hp26
      refine z_if_eq (tgt := 36) C dX7_isPlace_29 (by decide) (fun h29 => ?_) (fun h29 => ?_)
      · refine z_iconst (v := 0) C dX7_isPlace_36 rfl ?_
        exact z_bret C F hr rfl (Nat.le_of_ble_eq_true rfl) (Nat.le_of_ble_eq_true rfl) ⟨by unfold s_pl3; rw [if_neg h8, if_neg h19, if_pos h29], rfl⟩ dX7_isPlace_37
      · refine z_iconst (v := 1) C dX7_isPlace_32 rfl ?_
        refine z_goto (tgt := 37) C dX7_isPlace_33 (by decide) ?_
        exact z_bret C F hr rfl (Nat.le_of_ble_eq_true rfl) (Nat.le_of_ble_eq_true rfl) ⟨by unfold s_pl3; rw [if_neg h8, if_neg h19, if_neg h29], rfl⟩ dX7_isPlace_37
abbrev rm_m_foundEvents : Room := { frames := 0, cells := 0, slots := 0, locals := 0 }
set_option maxHeartbeats 4000000 in
set_option maxRecDepth 100000 in
theorem m_foundEvents (l : Launch) (Γ : zY) (G : zG) {mo : Nat} {th : Int32} {μ : Nat → Nat} (hm : G mo = some (oM0 th μ)) : ZM l yX7_foundEvents cX7_foundEvents 3 (some FieldType.int) rm_m_foundEvents Γ [.ref mo] G (zRd G (.int 0)) := by
  refine z_start (by decide +kernel) [some (.ref mo), none, none] rfl (Nat.le_of_ble_eq_true rfl) ?_
  intro p e s m args below meth c Q A C F hr hnm
  refine z_iconst (v := 0) C dX7_foundEvents_0 rfl ?_
  refine z_istore_n C dX7_foundEvents_1 (by decide) ?_
  refine z_iconst (v := 0) C dX7_foundEvents_2 rfl ?_
  refine z_istore_n C dX7_foundEvents_3 (by decide) ?_
  refine z_iload_n C dX7_foundEvents_4 rfl ?_
  first | refine z_rload_n C dX7_foundEvents_5 rfl ?_ | refine z_nload_n C dX7_foundEvents_5 rfl ?_ | refine z_aload_n C dX7_foundEvents_5 rfl ?_
  refine z_getf (T := TX7) (N := 19) C (by first | assumption | exact zU_same _ _ _) rfl 14 (by decide) kw_1182 (Or.inl rfl) rfl dX7_foundEvents_6 ?_
  refine z_icmp_ge (tgt := 35) C dX7_foundEvents_9 (by decide) (fun h9 => ?_) (fun h9 => ?_)
  · refine z_iload_n C dX7_foundEvents_35 rfl ?_
    exact z_iret C F hr (Nat.le_of_ble_eq_true rfl) (Nat.le_of_ble_eq_true rfl) ⟨rfl, rfl⟩ dX7_foundEvents_36
  · exact absurd (by decide) h9
abbrev rm_m_picksOf : Room := { frames := 0, cells := 0, slots := 0, locals := 0 }
set_option maxHeartbeats 4000000 in
set_option maxRecDepth 100000 in
theorem m_picksOf (l : Launch) (Γ : zY) (G : zG) {mo : Nat} {th : Int32} {μ : Nat → Nat} (x : Int32) (hm : G mo = some (oM0 th μ)) : ZM l yX7_picksOf cX7_picksOf 4 (some FieldType.int) rm_m_picksOf Γ [.ref mo, .int x] G (zRd G (.int 0)) := by
  refine z_start (by decide +kernel) [some (.ref mo), some (.int x), none, none] rfl (Nat.le_of_ble_eq_true rfl) ?_
  intro p e s m args below meth c Q A C F hr hnm
  refine z_iconst (v := 0) C dX7_picksOf_0 rfl ?_
  refine z_istore_n C dX7_picksOf_1 (by decide) ?_
  refine z_iconst (v := 0) C dX7_picksOf_2 rfl ?_
  refine z_istore_n C dX7_picksOf_3 (by decide) ?_
  refine z_iload_n C dX7_picksOf_4 rfl ?_
  first | refine z_rload_n C dX7_picksOf_5 rfl ?_ | refine z_nload_n C dX7_picksOf_5 rfl ?_ | refine z_aload_n C dX7_picksOf_5 rfl ?_
  refine z_getf (T := TX7) (N := 19) C (by first | assumption | exact zU_same _ _ _) rfl 7 (by decide) kw_1175 (Or.inl rfl) rfl dX7_picksOf_6 ?_
  refine z_icmp_ge (tgt := 36) C dX7_picksOf_9 (by decide) (fun h9 => ?_) (fun h9 => ?_)
  · refine z_iload_n C dX7_picksOf_36 rfl ?_
    exact z_iret C F hr (Nat.le_of_ble_eq_true rfl) (Nat.le_of_ble_eq_true rfl) ⟨rfl, rfl⟩ dX7_picksOf_37
  · exact absurd (by decide) h9
abbrev rm_m_counted : Room := { frames := 1, cells := 0, slots := 0, locals := 23 }
set_option maxHeartbeats 4000000 in
set_option maxRecDepth 100000 in
theorem m_counted (l : Launch) (Γ : zY) (G : zG) {mo : Nat} {th : Int32} {μ : Nat → Nat} (x : Int32) (hm : G mo = some (oM0 th μ)) : ZM l yX7_counted cX7_counted 2 (some FieldType.int) rm_m_counted Γ [.ref mo, .int x] G (zRd G (.int 0)) := by
  refine z_start (by decide +kernel) [some (.ref mo), some (.int x)] rfl (Nat.le_of_ble_eq_true rfl) ?_
  intro p e s m args below meth c Q A C F hr hnm
  refine z_iload_n C dX7_counted_0 rfl ?_
  refine z_iconst (v := 3) C dX7_counted_1 rfl ?_
  refine z_icmp_ge (tgt := 33) C dX7_counted_2 (by decide) (fun h2 => ?_) (fun h2 => ?_)
  · refine z_iload_n C dX7_counted_33 rfl ?_
    refine z_iconst (v := 3) C dX7_counted_34 rfl ?_
    refine z_icmp_ne (tgt := 45) C dX7_counted_35 (by decide) (fun h35 => ?_) (fun h35 => ?_)
    · first | refine z_rload_n C dX7_counted_45 rfl ?_ | refine z_nload_n C dX7_counted_45 rfl ?_ | refine z_aload_n C dX7_counted_45 rfl ?_
      refine z_iconst (v := (-1)) C dX7_counted_46 rfl ?_
      refine z_callV (q := (RX7, TX7, 19)) C (m_picksOf l Γ _ (-1) hm) kc_X7_counted_47 (by first | assumption | exact zU_same _ _ _) rfl rfl rfl rfl ky_X7_picksOf ⟨(Nat.le_of_ble_eq_true rfl), (Nat.le_of_ble_eq_true rfl)⟩ (Nat.le_of_ble_eq_true rfl) ⟨(Nat.le_of_ble_eq_true rfl), (Nat.le_of_ble_eq_true rfl)⟩ dX7_counted_47 (fun v47 G47 hp47 => ?_)
      obtain ⟨rfl, rfl⟩ := hp47
      exact z_iret C F hr (Nat.le_of_ble_eq_true rfl) (Nat.le_of_ble_eq_true rfl) ⟨rfl, rfl⟩ dX7_counted_50
    · first | refine z_rload_n C dX7_counted_38 rfl ?_ | refine z_nload_n C dX7_counted_38 rfl ?_ | refine z_aload_n C dX7_counted_38 rfl ?_
      refine z_callV (q := (RX7, TX7, 19)) C (m_foundEvents l Γ _ hm) kc_X7_counted_39 (by first | assumption | exact zU_same _ _ _) rfl rfl rfl rfl ky_X7_foundEvents ⟨(Nat.le_of_ble_eq_true rfl), (Nat.le_of_ble_eq_true rfl)⟩ (Nat.le_of_ble_eq_true rfl) ⟨(Nat.le_of_ble_eq_true rfl), (Nat.le_of_ble_eq_true rfl)⟩ dX7_counted_39 (fun v39 G39 hp39 => ?_)
      obtain ⟨rfl, rfl⟩ := hp39
      refine z_goto (tgt := 50) C dX7_counted_42 (by decide) ?_
      exact z_iret C F hr (Nat.le_of_ble_eq_true rfl) (Nat.le_of_ble_eq_true rfl) ⟨rfl, rfl⟩ dX7_counted_50
  · refine z_iload_n C dX7_counted_5 rfl ?_
    refine z_if_ne (tgt := 16) C dX7_counted_6 (by decide) (fun h6 => ?_) (fun h6 => ?_)
    · refine z_iload_n C dX7_counted_16 rfl ?_
      refine z_iconst (v := 1) C dX7_counted_17 rfl ?_
      refine z_icmp_ne (tgt := 28) C dX7_counted_18 (by decide) (fun h18 => ?_) (fun h18 => ?_)
      · first | refine z_rload_n C dX7_counted_28 rfl ?_ | refine z_nload_n C dX7_counted_28 rfl ?_ | refine z_aload_n C dX7_counted_28 rfl ?_
        refine z_getf (T := TX7) (N := 19) C (by first | assumption | exact zU_same _ _ _) rfl 14 (by decide) kw_1182 (Or.inl rfl) rfl dX7_counted_29 ?_
        exact z_iret C F hr (Nat.le_of_ble_eq_true rfl) (Nat.le_of_ble_eq_true rfl) ⟨rfl, rfl⟩ dX7_counted_32
      · first | refine z_rload_n C dX7_counted_21 rfl ?_ | refine z_nload_n C dX7_counted_21 rfl ?_ | refine z_aload_n C dX7_counted_21 rfl ?_
        refine z_getf (T := TX7) (N := 19) C (by first | assumption | exact zU_same _ _ _) rfl 7 (by decide) kw_1175 (Or.inl rfl) rfl dX7_counted_22 ?_
        refine z_goto (tgt := 32) C dX7_counted_25 (by decide) ?_
        exact z_iret C F hr (Nat.le_of_ble_eq_true rfl) (Nat.le_of_ble_eq_true rfl) ⟨rfl, rfl⟩ dX7_counted_32
    · first | refine z_rload_n C dX7_counted_9 rfl ?_ | refine z_nload_n C dX7_counted_9 rfl ?_ | refine z_aload_n C dX7_counted_9 rfl ?_
      refine z_getf (T := TX7) (N := 19) C (by first | assumption | exact zU_same _ _ _) rfl 3 (by decide) kw_1171 (Or.inl rfl) rfl dX7_counted_10 ?_
      refine z_goto (tgt := 32) C dX7_counted_13 (by decide) ?_
      exact z_iret C F hr (Nat.le_of_ble_eq_true rfl) (Nat.le_of_ble_eq_true rfl) ⟨rfl, rfl⟩ dX7_counted_32
abbrev rm_m_count : Room := { frames := 2, cells := 0, slots := 0, locals := 44 }
set_option maxHeartbeats 4000000 in
set_option maxRecDepth 100000 in
theorem m_count (l : Launch) (Γ : zY) (G : zG) {mo : Nat} {th : Int32} {μ : Nat → Nat} (x : Int32) (hm : G mo = some (oM0 th μ)) : ZM l yX7_count cX7_count 2 (some FieldType.int) rm_m_count Γ [.ref mo, .int x] G (fun v G' => some (.int 0) = v ∧ zMK G G' mo μ (s_not (s_in x 0 4))) := by
  refine z_start (by decide +kernel) [some (.ref mo), some (.int x)] rfl (Nat.le_of_ble_eq_true rfl) ?_
  intro p e s m args below meth c Q A C F hr hnm
  first | refine z_rload_n C dX7_count_0 rfl ?_ | refine z_nload_n C dX7_count_0 rfl ?_ | refine z_aload_n C dX7_count_0 rfl ?_
  refine z_iconst (v := 0) C dX7_count_1 rfl ?_
  refine z_putf (T := TX7) (N := 19) C (by first | assumption | exact zU_same _ _ _) rfl 0 (by decide) kw_1168 (Or.inl rfl) rfl (tyX7_ok 0 (by decide)) rfl rfl (Nat.le_of_ble_eq_true rfl) dX7_count_2 ?_
  refine z_iload_n C dX7_count_5 rfl ?_
  refine z_iconst (v := 0) C dX7_count_6 rfl ?_
  refine z_iconst (v := 4) C dX7_count_7 rfl ?_
  refine z_callS C (m_isIn l Γ _ x 0 4) kc_X7_count_8 rfl rfl ky_X7_isIn ⟨(Nat.le_of_ble_eq_true rfl), (Nat.le_of_ble_eq_true rfl)⟩ (Nat.le_of_ble_eq_true rfl) ⟨(Nat.le_of_ble_eq_true rfl), (Nat.le_of_ble_eq_true rfl)⟩ dX7_count_8 (fun v8 G8 hp8 => ?_)
  obtain ⟨rfl, rfl⟩ := hp8
  refine z_if_eq (tgt := 22) C dX7_count_11 (by decide) (fun h11 => ?_) (fun h11 => ?_)
  · first | refine z_rload_n C dX7_count_22 rfl ?_ | refine z_nload_n C dX7_count_22 rfl ?_ | refine z_aload_n C dX7_count_22 rfl ?_
    refine z_iconst (v := 1) C dX7_count_23 rfl ?_
    refine z_callV (q := (RX7, TX7, 19)) C (m_no l Γ _ 1 (zU_same G mo (oM0 0 μ))) kc_X7_count_24 (by first | assumption | exact zU_same _ _ _) rfl rfl rfl rfl ky_X7_no ⟨(Nat.le_of_ble_eq_true rfl), (Nat.le_of_ble_eq_true rfl)⟩ (Nat.le_of_ble_eq_true rfl) ⟨(Nat.le_of_ble_eq_true rfl), (Nat.le_of_ble_eq_true rfl)⟩ dX7_count_24 (fun v24 G24 hp24 => ?_)
    obtain ⟨rfl, rfl⟩ := hp24
    exact z_iret C F hr (Nat.le_of_ble_eq_true rfl) (Nat.le_of_ble_eq_true rfl) ⟨rfl, by unfold s_not; rw [if_pos h11]; exact zMK.uu⟩ dX7_count_27
  · first | refine z_rload_n C dX7_count_14 rfl ?_ | refine z_nload_n C dX7_count_14 rfl ?_ | refine z_aload_n C dX7_count_14 rfl ?_
    refine z_iload_n C dX7_count_15 rfl ?_
    refine z_callV (q := (RX7, TX7, 19)) C (m_counted l Γ _ x (zU_same G mo (oM0 0 μ))) kc_X7_count_16 (by first | assumption | exact zU_same _ _ _) rfl rfl rfl rfl ky_X7_counted ⟨(Nat.le_of_ble_eq_true rfl), (Nat.le_of_ble_eq_true rfl)⟩ (Nat.le_of_ble_eq_true rfl) ⟨(Nat.le_of_ble_eq_true rfl), (Nat.le_of_ble_eq_true rfl)⟩ dX7_count_16 (fun v16 G16 hp16 => ?_)
    obtain ⟨rfl, rfl⟩ := hp16
    refine z_goto (tgt := 27) C dX7_count_19 (by decide) ?_
    exact z_iret C F hr (Nat.le_of_ble_eq_true rfl) (Nat.le_of_ble_eq_true rfl) ⟨rfl, by unfold s_not; rw [if_neg h11]; exact zMK.u⟩ dX7_count_27
abbrev rm_m_addStation : Room := { frames := 1, cells := 0, slots := 0, locals := 22 }
set_option maxHeartbeats 4000000 in
set_option maxRecDepth 100000 in
theorem m_addStation (l : Launch) (Γ : zY) (G : zG) {mo : Nat} {th : Int32} {μ : Nat → Nat} (x y : Int32) (hm : G mo = some (oM0 th μ)) (hf : zMf Γ G μ) : ZM l yX7_addStation cX7_addStation 3 (some FieldType.int) rm_m_addStation Γ [.ref mo, .int x, .int y] G (fun v G' => some (.int 0) = v ∧ zMK G G' mo μ (s_xyk x y)) := by
  obtain ⟨f0, f1, f01, f9⟩ := hf
  have d0 : mo ≠ μ 0 := fun z => by rw [← z, hm] at f0; cases f0
  have d1 : mo ≠ μ 1 := fun z => by rw [← z, hm] at f1; cases f1
  refine z_start (by decide +kernel) [some (.ref mo), some (.int x), some (.int y)] rfl (Nat.le_of_ble_eq_true rfl) ?_
  intro p e s m args below meth c Q A C F hr hnm
  first | refine z_rload_n C dX7_addStation_0 rfl ?_ | refine z_nload_n C dX7_addStation_0 rfl ?_ | refine z_aload_n C dX7_addStation_0 rfl ?_
  refine z_iconst (v := 0) C dX7_addStation_1 rfl ?_
  refine z_putf (T := TX7) (N := 19) C (by first | assumption | exact zU_same _ _ _) rfl 0 (by decide) kw_1168 (Or.inl rfl) rfl (tyX7_ok 0 (by decide)) rfl rfl (Nat.le_of_ble_eq_true rfl) dX7_addStation_2 ?_
  refine z_iload_n C dX7_addStation_5 rfl ?_
  refine z_iconst (v := 0) C dX7_addStation_6 rfl ?_
  refine z_sipush (v := 200) C dX7_addStation_7 rfl ?_
  refine z_callS C (m_isIn l Γ _ x 0 200) kc_X7_addStation_10 rfl rfl ky_X7_isIn ⟨(Nat.le_of_ble_eq_true rfl), (Nat.le_of_ble_eq_true rfl)⟩ (Nat.le_of_ble_eq_true rfl) ⟨(Nat.le_of_ble_eq_true rfl), (Nat.le_of_ble_eq_true rfl)⟩ dX7_addStation_10 (fun v10 G10 hp10 => ?_)
  obtain ⟨rfl, rfl⟩ := hp10
  refine z_if_eq (tgt := 27) C dX7_addStation_13 (by decide) (fun h13 => ?_) (fun h13 => ?_)
  · first | refine z_rload_n C dX7_addStation_27 rfl ?_ | refine z_nload_n C dX7_addStation_27 rfl ?_ | refine z_aload_n C dX7_addStation_27 rfl ?_
    refine z_iconst (v := 1) C dX7_addStation_28 rfl ?_
    refine z_callV (q := (RX7, TX7, 19)) C (m_no l Γ _ 1 (zU_same G mo (oM0 0 μ))) kc_X7_addStation_29 (by first | assumption | exact zU_same _ _ _) rfl rfl rfl rfl ky_X7_no ⟨(Nat.le_of_ble_eq_true rfl), (Nat.le_of_ble_eq_true rfl)⟩ (Nat.le_of_ble_eq_true rfl) ⟨(Nat.le_of_ble_eq_true rfl), (Nat.le_of_ble_eq_true rfl)⟩ dX7_addStation_29 (fun v29 G29 hp29 => ?_)
    obtain ⟨rfl, rfl⟩ := hp29
    exact z_iret C F hr (Nat.le_of_ble_eq_true rfl) (Nat.le_of_ble_eq_true rfl) ⟨rfl, by unfold s_xyk; rw [if_pos h13]; exact zMK.uu⟩ dX7_addStation_32
  · refine z_iload_n C dX7_addStation_16 rfl ?_
    refine z_iconst (v := 0) C dX7_addStation_17 rfl ?_
    refine z_sipush (v := 200) C dX7_addStation_18 rfl ?_
    refine z_callS C (m_isIn l Γ _ y 0 200) kc_X7_addStation_21 rfl rfl ky_X7_isIn ⟨(Nat.le_of_ble_eq_true rfl), (Nat.le_of_ble_eq_true rfl)⟩ (Nat.le_of_ble_eq_true rfl) ⟨(Nat.le_of_ble_eq_true rfl), (Nat.le_of_ble_eq_true rfl)⟩ dX7_addStation_21 (fun v21 G21 hp21 => ?_)
    obtain ⟨rfl, rfl⟩ := hp21
    refine z_if_ne (tgt := 33) C dX7_addStation_24 (by decide) (fun h24 => ?_) (fun h24 => ?_)
    · first | refine z_rload_n C dX7_addStation_33 rfl ?_ | refine z_nload_n C dX7_addStation_33 rfl ?_ | refine z_aload_n C dX7_addStation_33 rfl ?_
      refine z_getf (T := TX7) (N := 19) C (by first | assumption | exact zU_same _ _ _) rfl 3 (by decide) kw_1171 (Or.inl rfl) rfl dX7_addStation_34 ?_
      refine z_bipush (v := 10) C dX7_addStation_37 rfl ?_
      refine z_icmp_ne (tgt := 48) C dX7_addStation_39 (by decide) (fun h39 => ?_) (fun h39 => ?_)
      · first | refine z_rload_n C dX7_addStation_48 rfl ?_ | refine z_nload_n C dX7_addStation_48 rfl ?_ | refine z_aload_n C dX7_addStation_48 rfl ?_
        refine z_getf (T := TX7) (N := 19) C (by first | assumption | exact zU_same _ _ _) rfl 4 (by decide) kw_1172 (Or.inl rfl) rfl dX7_addStation_49 ?_
        first | refine z_rload_n C dX7_addStation_52 rfl ?_ | refine z_nload_n C dX7_addStation_52 rfl ?_ | refine z_aload_n C dX7_addStation_52 rfl ?_
        refine z_getf (T := TX7) (N := 19) C (by first | assumption | exact zU_same _ _ _) rfl 3 (by decide) kw_1171 (Or.inl rfl) rfl dX7_addStation_53 ?_
        refine z_iload_n C dX7_addStation_56 rfl ?_
        refine z_iast C ((zU_ne d0.symm).trans f0) (by unfold vp_in; decide) dX7_addStation_57 ?_
        first | refine z_rload_n C dX7_addStation_58 rfl ?_ | refine z_nload_n C dX7_addStation_58 rfl ?_ | refine z_aload_n C dX7_addStation_58 rfl ?_
        refine z_getf (T := TX7) (N := 19) C ((zU_ne d0).trans (zU_same _ _ _)) rfl 5 (by decide) kw_1173 (Or.inl rfl) rfl dX7_addStation_59 ?_
        first | refine z_rload_n C dX7_addStation_62 rfl ?_ | refine z_nload_n C dX7_addStation_62 rfl ?_ | refine z_aload_n C dX7_addStation_62 rfl ?_
        refine z_getf (T := TX7) (N := 19) C ((zU_ne d0).trans (zU_same _ _ _)) rfl 3 (by decide) kw_1171 (Or.inl rfl) rfl dX7_addStation_63 ?_
        refine z_iload_n C dX7_addStation_66 rfl ?_
        refine z_iast C ((zU_ne f01.symm).trans ((zU_ne d1.symm).trans f1)) (by unfold vp_in; decide) dX7_addStation_67 ?_
        first | refine z_rload_n C dX7_addStation_68 rfl ?_ | refine z_nload_n C dX7_addStation_68 rfl ?_ | refine z_aload_n C dX7_addStation_68 rfl ?_
        refine z_dup C rfl dX7_addStation_69 ?_
        refine z_getf (T := TX7) (N := 19) C ((zU_ne d1).trans ((zU_ne d0).trans (zU_same _ _ _))) rfl 3 (by decide) kw_1171 (Or.inl rfl) rfl dX7_addStation_70 ?_
        refine z_iconst (v := 1) C dX7_addStation_73 rfl ?_
        refine z_iadd C dX7_addStation_74 ?_
        refine z_putf (T := TX7) (N := 19) C ((zU_ne d1).trans ((zU_ne d0).trans (zU_same _ _ _))) rfl 3 (by decide) kw_1171 (Or.inl rfl) rfl (tyX7_ok 3 (by decide)) rfl rfl (Nat.le_of_ble_eq_true rfl) dX7_addStation_75 ?_
        first | refine z_rload_n C dX7_addStation_78 rfl ?_ | refine z_nload_n C dX7_addStation_78 rfl ?_ | refine z_aload_n C dX7_addStation_78 rfl ?_
        refine z_getf (T := TX7) (N := 19) C (by first | assumption | exact zU_same _ _ _) rfl 3 (by decide) kw_1171 (Or.inl rfl) rfl dX7_addStation_79 ?_
        refine z_iconst (v := 1) C dX7_addStation_82 rfl ?_
        refine z_isub C dX7_addStation_83 ?_
        exact z_iret C F hr (Nat.le_of_ble_eq_true rfl) (Nat.le_of_ble_eq_true rfl) ⟨rfl, by unfold s_xyk; rw [if_neg h13, if_neg h24]; exact ⟨⟨_, zU_same _ _ _⟩, fun q e h k1 k2 => (zU_ne k1).trans ((zU_ne (k2 1)).trans ((zU_ne (k2 0)).trans ((zU_ne k1).trans h)))⟩⟩ dX7_addStation_84
      · exact absurd h39 (by decide)
    · first | refine z_rload_n C dX7_addStation_27 rfl ?_ | refine z_nload_n C dX7_addStation_27 rfl ?_ | refine z_aload_n C dX7_addStation_27 rfl ?_
      refine z_iconst (v := 1) C dX7_addStation_28 rfl ?_
      refine z_callV (q := (RX7, TX7, 19)) C (m_no l Γ _ 1 (zU_same G mo (oM0 0 μ))) kc_X7_addStation_29 (by first | assumption | exact zU_same _ _ _) rfl rfl rfl rfl ky_X7_no ⟨(Nat.le_of_ble_eq_true rfl), (Nat.le_of_ble_eq_true rfl)⟩ (Nat.le_of_ble_eq_true rfl) ⟨(Nat.le_of_ble_eq_true rfl), (Nat.le_of_ble_eq_true rfl)⟩ dX7_addStation_29 (fun v29 G29 hp29 => ?_)
      obtain ⟨rfl, rfl⟩ := hp29
      exact z_iret C F hr (Nat.le_of_ble_eq_true rfl) (Nat.le_of_ble_eq_true rfl) ⟨rfl, by unfold s_xyk; rw [if_neg h13, if_pos h24]; exact zMK.uu⟩ dX7_addStation_32
abbrev rm_m_addEvent : Room := { frames := 0, cells := 0, slots := 0, locals := 0 }
set_option maxHeartbeats 4000000 in
set_option maxRecDepth 100000 in
theorem m_addEvent (l : Launch) (Γ : zY) (G : zG) {mo : Nat} {th : Int32} {μ : Nat → Nat} (hm : G mo = some (oM0 th μ)) (hf : zMf Γ G μ) : ZM l yX7_addEvent cX7_addEvent 1 (some FieldType.int) rm_m_addEvent Γ [.ref mo] G (fun v G' => some (.int 0) = v ∧ zMK G G' mo μ 0) := by
  obtain ⟨f0, f1, f01, f9⟩ := hf
  have d9 : mo ≠ μ 9 := fun z => by rw [← z, hm] at f9; cases f9
  refine z_start (by decide +kernel) [some (.ref mo)] rfl (Nat.le_of_ble_eq_true rfl) ?_
  intro p e s m args below meth c Q A C F hr hnm
  first | refine z_rload_n C dX7_addEvent_0 rfl ?_ | refine z_nload_n C dX7_addEvent_0 rfl ?_ | refine z_aload_n C dX7_addEvent_0 rfl ?_
  refine z_iconst (v := 0) C dX7_addEvent_1 rfl ?_
  refine z_putf (T := TX7) (N := 19) C (by first | assumption | exact zU_same _ _ _) rfl 0 (by decide) kw_1168 (Or.inl rfl) rfl (tyX7_ok 0 (by decide)) rfl rfl (Nat.le_of_ble_eq_true rfl) dX7_addEvent_2 ?_
  first | refine z_rload_n C dX7_addEvent_5 rfl ?_ | refine z_nload_n C dX7_addEvent_5 rfl ?_ | refine z_aload_n C dX7_addEvent_5 rfl ?_
  refine z_getf (T := TX7) (N := 19) C (by first | assumption | exact zU_same _ _ _) rfl 14 (by decide) kw_1182 (Or.inl rfl) rfl dX7_addEvent_6 ?_
  refine z_bipush (v := 12) C dX7_addEvent_9 rfl ?_
  refine z_icmp_ne (tgt := 20) C dX7_addEvent_11 (by decide) (fun h11 => ?_) (fun h11 => ?_)
  · first | refine z_rload_n C dX7_addEvent_20 rfl ?_ | refine z_nload_n C dX7_addEvent_20 rfl ?_ | refine z_aload_n C dX7_addEvent_20 rfl ?_
    refine z_getf (T := TX7) (N := 19) C (by first | assumption | exact zU_same _ _ _) rfl 15 (by decide) kw_1183 (Or.inl rfl) rfl dX7_addEvent_21 ?_
    first | refine z_rload_n C dX7_addEvent_24 rfl ?_ | refine z_nload_n C dX7_addEvent_24 rfl ?_ | refine z_aload_n C dX7_addEvent_24 rfl ?_
    refine z_getf (T := TX7) (N := 19) C (by first | assumption | exact zU_same _ _ _) rfl 14 (by decide) kw_1182 (Or.inl rfl) rfl dX7_addEvent_25 ?_
    refine z_iconst (v := 0) C dX7_addEvent_28 rfl ?_
    refine z_zast C ((zU_ne d9.symm).trans f9) (by unfold vp_in; decide) dX7_addEvent_29 ?_
    first | refine z_rload_n C dX7_addEvent_30 rfl ?_ | refine z_nload_n C dX7_addEvent_30 rfl ?_ | refine z_aload_n C dX7_addEvent_30 rfl ?_
    refine z_dup C rfl dX7_addEvent_31 ?_
    refine z_getf (T := TX7) (N := 19) C ((zU_ne d9).trans (zU_same _ _ _)) rfl 14 (by decide) kw_1182 (Or.inl rfl) rfl dX7_addEvent_32 ?_
    refine z_iconst (v := 1) C dX7_addEvent_35 rfl ?_
    refine z_iadd C dX7_addEvent_36 ?_
    refine z_putf (T := TX7) (N := 19) C ((zU_ne d9).trans (zU_same _ _ _)) rfl 14 (by decide) kw_1182 (Or.inl rfl) rfl (tyX7_ok 14 (by decide)) rfl rfl (Nat.le_of_ble_eq_true rfl) dX7_addEvent_37 ?_
    first | refine z_rload_n C dX7_addEvent_40 rfl ?_ | refine z_nload_n C dX7_addEvent_40 rfl ?_ | refine z_aload_n C dX7_addEvent_40 rfl ?_
    refine z_getf (T := TX7) (N := 19) C (by first | assumption | exact zU_same _ _ _) rfl 14 (by decide) kw_1182 (Or.inl rfl) rfl dX7_addEvent_41 ?_
    refine z_iconst (v := 1) C dX7_addEvent_44 rfl ?_
    refine z_isub C dX7_addEvent_45 ?_
    exact z_iret C F hr (Nat.le_of_ble_eq_true rfl) (Nat.le_of_ble_eq_true rfl) ⟨rfl, ⟨⟨_, zU_same _ _ _⟩, fun q e h k1 k2 => (zU_ne k1).trans ((zU_ne (k2 9)).trans ((zU_ne k1).trans h))⟩⟩ dX7_addEvent_46
  · exact absurd h11 (by decide)
abbrev rm_m_setSpeeds : Room := { frames := 1, cells := 0, slots := 0, locals := 22 }
set_option maxHeartbeats 4000000 in
set_option maxRecDepth 100000 in
theorem m_setSpeeds (l : Launch) (Γ : zY) (G : zG) {mo : Nat} {th : Int32} {μ : Nat → Nat} (x y : Int32) (hm : G mo = some (oM0 th μ)) : ZM l yX7_setSpeeds cX7_setSpeeds 4 (some FieldType.int) rm_m_setSpeeds Γ [.ref mo, .int x, .int y] G (fun v G' => some (.int (if s_spk x y = 0 then x * 100 / y else 0)) = v ∧ zMK G G' mo μ (s_spk x y)) := by
  have h10 : ¬ (1 : Int32) = 0 := by decide
  refine z_start (by decide +kernel) [some (.ref mo), some (.int x), some (.int y), none] rfl (Nat.le_of_ble_eq_true rfl) ?_
  intro p e s m args below meth c Q A C F hr hnm
  first | refine z_rload_n C dX7_setSpeeds_0 rfl ?_ | refine z_nload_n C dX7_setSpeeds_0 rfl ?_ | refine z_aload_n C dX7_setSpeeds_0 rfl ?_
  refine z_iconst (v := 0) C dX7_setSpeeds_1 rfl ?_
  refine z_putf (T := TX7) (N := 19) C (by first | assumption | exact zU_same _ _ _) rfl 0 (by decide) kw_1168 (Or.inl rfl) rfl (tyX7_ok 0 (by decide)) rfl rfl (Nat.le_of_ble_eq_true rfl) dX7_setSpeeds_2 ?_
  refine z_iload_n C dX7_setSpeeds_5 rfl ?_
  refine z_sipush (v := 3000) C dX7_setSpeeds_6 rfl ?_
  refine z_sipush (v := 9000) C dX7_setSpeeds_9 rfl ?_
  refine z_callS C (m_isIn l Γ _ x 3000 9000) kc_X7_setSpeeds_12 rfl rfl ky_X7_isIn ⟨(Nat.le_of_ble_eq_true rfl), (Nat.le_of_ble_eq_true rfl)⟩ (Nat.le_of_ble_eq_true rfl) ⟨(Nat.le_of_ble_eq_true rfl), (Nat.le_of_ble_eq_true rfl)⟩ dX7_setSpeeds_12 (fun v12 G12 hp12 => ?_)
  obtain ⟨rfl, rfl⟩ := hp12
  refine z_if_eq (tgt := 31) C dX7_setSpeeds_15 (by decide) (fun h15 => ?_) (fun h15 => ?_)
  · have hs : s_spk x y = 1 := by unfold s_spk; rw [if_pos h15]
    first | refine z_rload_n C dX7_setSpeeds_31 rfl ?_ | refine z_nload_n C dX7_setSpeeds_31 rfl ?_ | refine z_aload_n C dX7_setSpeeds_31 rfl ?_
    refine z_iconst (v := 1) C dX7_setSpeeds_32 rfl ?_
    refine z_callV (q := (RX7, TX7, 19)) C (m_no l Γ _ 1 (zU_same G mo (oM0 0 μ))) kc_X7_setSpeeds_33 (by first | assumption | exact zU_same _ _ _) rfl rfl rfl rfl ky_X7_no ⟨(Nat.le_of_ble_eq_true rfl), (Nat.le_of_ble_eq_true rfl)⟩ (Nat.le_of_ble_eq_true rfl) ⟨(Nat.le_of_ble_eq_true rfl), (Nat.le_of_ble_eq_true rfl)⟩ dX7_setSpeeds_33 (fun v33 G33 hp33 => ?_)
    obtain ⟨rfl, rfl⟩ := hp33
    exact z_iret C F hr (Nat.le_of_ble_eq_true rfl) (Nat.le_of_ble_eq_true rfl) ⟨by rw [hs, if_neg h10], by rw [hs]; exact zMK.uu⟩ dX7_setSpeeds_36
  · refine z_iload_n C dX7_setSpeeds_18 rfl ?_
    refine z_sipush (v := 150) C dX7_setSpeeds_19 rfl ?_
    refine z_sipush (v := 200) C dX7_setSpeeds_22 rfl ?_
    refine z_callS C (m_isIn l Γ _ y 150 200) kc_X7_setSpeeds_25 rfl rfl ky_X7_isIn ⟨(Nat.le_of_ble_eq_true rfl), (Nat.le_of_ble_eq_true rfl)⟩ (Nat.le_of_ble_eq_true rfl) ⟨(Nat.le_of_ble_eq_true rfl), (Nat.le_of_ble_eq_true rfl)⟩ dX7_setSpeeds_25 (fun v25 G25 hp25 => ?_)
    obtain ⟨rfl, rfl⟩ := hp25
    refine z_if_ne (tgt := 37) C dX7_setSpeeds_28 (by decide) (fun h28 => ?_) (fun h28 => ?_)
    · have hs : s_spk x y = 0 := by unfold s_spk; rw [if_neg h15, if_neg h28]
      have hy0 : ¬ y = 0 := fun z => by rw [z] at h28; exact h28 (by decide)
      first | refine z_rload_n C dX7_setSpeeds_37 rfl ?_ | refine z_nload_n C dX7_setSpeeds_37 rfl ?_ | refine z_aload_n C dX7_setSpeeds_37 rfl ?_
      refine z_iload_n C dX7_setSpeeds_38 rfl ?_
      refine z_putf (T := TX7) (N := 19) C (by first | assumption | exact zU_same _ _ _) rfl 1 (by decide) kw_1169 (Or.inl rfl) rfl (tyX7_ok 1 (by decide)) rfl rfl (Nat.le_of_ble_eq_true rfl) dX7_setSpeeds_39 ?_
      first | refine z_rload_n C dX7_setSpeeds_42 rfl ?_ | refine z_nload_n C dX7_setSpeeds_42 rfl ?_ | refine z_aload_n C dX7_setSpeeds_42 rfl ?_
      refine z_iload_n C dX7_setSpeeds_43 rfl ?_
      refine z_bipush (v := 100) C dX7_setSpeeds_44 rfl ?_
      refine z_imul C dX7_setSpeeds_46 ?_
      refine z_iload_n C dX7_setSpeeds_47 rfl ?_
      refine z_idiv C hy0 dX7_setSpeeds_48 ?_
      refine z_putf (T := TX7) (N := 19) C (by first | assumption | exact zU_same _ _ _) rfl 2 (by decide) kw_1170 (Or.inl rfl) rfl (tyX7_ok 2 (by decide)) rfl rfl (Nat.le_of_ble_eq_true rfl) dX7_setSpeeds_49 ?_
      refine z_iconst (v := 0) C dX7_setSpeeds_52 rfl ?_
      refine z_istore_n C dX7_setSpeeds_53 (by decide) ?_
      refine z_iload_n C dX7_setSpeeds_54 rfl ?_
      first | refine z_rload_n C dX7_setSpeeds_55 rfl ?_ | refine z_nload_n C dX7_setSpeeds_55 rfl ?_ | refine z_aload_n C dX7_setSpeeds_55 rfl ?_
      refine z_getf (T := TX7) (N := 19) C (by first | assumption | exact zU_same _ _ _) rfl 14 (by decide) kw_1182 (Or.inl rfl) rfl dX7_setSpeeds_56 ?_
      refine z_icmp_ge (tgt := 75) C dX7_setSpeeds_59 (by decide) (fun h59 => ?_) (fun h59 => ?_)
      · first | refine z_rload_n C dX7_setSpeeds_75 rfl ?_ | refine z_nload_n C dX7_setSpeeds_75 rfl ?_ | refine z_aload_n C dX7_setSpeeds_75 rfl ?_
        refine z_getf (T := TX7) (N := 19) C (by first | assumption | exact zU_same _ _ _) rfl 2 (by decide) kw_1170 (Or.inl rfl) rfl dX7_setSpeeds_76 ?_
        exact z_iret C F hr (Nat.le_of_ble_eq_true rfl) (Nat.le_of_ble_eq_true rfl) ⟨by rw [hs, if_pos rfl], by rw [hs]; exact ⟨⟨_, zU_same _ _ _⟩, fun q e h k1 k2 => (zU_ne k1).trans ((zU_ne k1).trans ((zU_ne k1).trans h))⟩⟩ dX7_setSpeeds_79
      · exact absurd (by decide) h59
    · have hs : s_spk x y = 1 := by unfold s_spk; rw [if_neg h15, if_pos h28]
      first | refine z_rload_n C dX7_setSpeeds_31 rfl ?_ | refine z_nload_n C dX7_setSpeeds_31 rfl ?_ | refine z_aload_n C dX7_setSpeeds_31 rfl ?_
      refine z_iconst (v := 1) C dX7_setSpeeds_32 rfl ?_
      refine z_callV (q := (RX7, TX7, 19)) C (m_no l Γ _ 1 (zU_same G mo (oM0 0 μ))) kc_X7_setSpeeds_33 (by first | assumption | exact zU_same _ _ _) rfl rfl rfl rfl ky_X7_no ⟨(Nat.le_of_ble_eq_true rfl), (Nat.le_of_ble_eq_true rfl)⟩ (Nat.le_of_ble_eq_true rfl) ⟨(Nat.le_of_ble_eq_true rfl), (Nat.le_of_ble_eq_true rfl)⟩ dX7_setSpeeds_33 (fun v33 G33 hp33 => ?_)
      obtain ⟨rfl, rfl⟩ := hp33
      exact z_iret C F hr (Nat.le_of_ble_eq_true rfl) (Nat.le_of_ble_eq_true rfl) ⟨by rw [hs, if_neg h10], by rw [hs]; exact zMK.uu⟩ dX7_setSpeeds_36
abbrev rm_m_associate : Room := { frames := 0, cells := 1, slots := 80, locals := 0 }
set_option maxHeartbeats 4000000 in
set_option maxRecDepth 100000 in
theorem m_associate (l : Launch) (Γ : zY) (G : zG) {mo : Nat} {th : Int32} {μ : Nat → Nat} (hm : G mo = some (oM0 th μ)) : ZM l yX7_associate cX7_associate 6 (some FieldType.int) rm_m_associate Γ [.ref mo] G (fun v G' => some (.int 0) = v ∧ zMK G G' mo μ 0) := by
  refine z_start (by decide +kernel) [some (.ref mo), none, none, none, none, none] rfl (Nat.le_of_ble_eq_true rfl) ?_
  intro p e s m args below meth c Q A C F hr hnm
  first | refine z_rload_n C dX7_associate_0 rfl ?_ | refine z_nload_n C dX7_associate_0 rfl ?_ | refine z_aload_n C dX7_associate_0 rfl ?_
  refine z_iconst (v := 0) C dX7_associate_1 rfl ?_
  refine z_putf (T := TX7) (N := 19) C (by first | assumption | exact zU_same _ _ _) rfl 0 (by decide) kw_1168 (Or.inl rfl) rfl (tyX7_ok 0 (by decide)) rfl rfl (Nat.le_of_ble_eq_true rfl) dX7_associate_2 ?_
  refine z_bipush (v := 80) C dX7_associate_5 rfl ?_
  refine z_newz (N := 80) C kw_1226 (by decide) (by decide) (Nat.le_of_ble_eq_true rfl) (Nat.le_of_ble_eq_true rfl) (Nat.le_of_ble_eq_true rfl) dX7_associate_7 (fun a7 n7 => ?_)
  have da : mo ≠ a7 := zG_nn (zU_same _ _ _) n7
  first | refine z_rstore_n C dX7_associate_9 (by decide) ?_ | refine z_nstore_n C dX7_associate_9 (by decide) ?_ | refine z_astore_n C dX7_associate_9 (by decide) ?_
  refine z_iconst (v := 0) C dX7_associate_10 rfl ?_
  refine z_istore_n C dX7_associate_11 (by decide) ?_
  refine z_iconst (v := 0) C dX7_associate_12 rfl ?_
  refine z_istore_n C dX7_associate_13 (by decide) ?_
  refine z_iload_n C dX7_associate_14 rfl ?_
  first | refine z_rload_n C dX7_associate_15 rfl ?_ | refine z_nload_n C dX7_associate_15 rfl ?_ | refine z_aload_n C dX7_associate_15 rfl ?_
  refine z_getf (T := TX7) (N := 19) C ((zU_ne da).trans (zU_same _ _ _)) rfl 7 (by decide) kw_1175 (Or.inl rfl) rfl dX7_associate_16 ?_
  refine z_icmp_ge (tgt := 144) C dX7_associate_19 (by decide) (fun h19 => ?_) (fun h19 => ?_)
  · refine z_iload_n C dX7_associate_144 rfl ?_
    exact z_iret C F hr (Nat.le_of_ble_eq_true rfl) (Nat.le_of_ble_eq_true rfl) ⟨rfl, ⟨⟨_, (zU_ne da).trans (zU_same _ _ _)⟩, fun q e h k1 k2 => (zU_ne (zG_nn ((zU_ne k1).trans h) n7)).trans ((zU_ne k1).trans h)⟩⟩ dX7_associate_145
  · exact absurd (by decide) h19
abbrev rm_m_nearest : Room := { frames := 2, cells := 0, slots := 0, locals := 44 }
set_option maxHeartbeats 4000000 in
set_option maxRecDepth 100000 in
theorem m_nearest (l : Launch) (Γ : zY) (G : zG) {mo : Nat} {th : Int32} {μ : Nat → Nat} (x y z : Int32) (hm : G mo = some (oM0 th μ)) : ZM l yX7_nearest cX7_nearest 6 (some FieldType.int) rm_m_nearest Γ [.ref mo, .int x, .int y, .int z] G (fun v G' => some (.int (if s_pl3 x y z = 0 then 0 else -1)) = v ∧ zMK G G' mo μ (s_not (s_pl3 x y z))) := by
  refine z_start (by decide +kernel) [some (.ref mo), some (.int x), some (.int y), some (.int z), none, none] rfl (Nat.le_of_ble_eq_true rfl) ?_
  intro p e s m args below meth c Q A C F hr hnm
  first | refine z_rload_n C dX7_nearest_0 rfl ?_ | refine z_nload_n C dX7_nearest_0 rfl ?_ | refine z_aload_n C dX7_nearest_0 rfl ?_
  refine z_iconst (v := 0) C dX7_nearest_1 rfl ?_
  refine z_putf (T := TX7) (N := 19) C (by first | assumption | exact zU_same _ _ _) rfl 0 (by decide) kw_1168 (Or.inl rfl) rfl (tyX7_ok 0 (by decide)) rfl rfl (Nat.le_of_ble_eq_true rfl) dX7_nearest_2 ?_
  refine z_iload_n C dX7_nearest_5 rfl ?_
  refine z_iload_n C dX7_nearest_6 rfl ?_
  refine z_iload_n C dX7_nearest_7 rfl ?_
  refine z_callS C (m_isPlace l Γ _ x y z) kc_X7_nearest_8 rfl rfl ky_X7_isPlace ⟨(Nat.le_of_ble_eq_true rfl), (Nat.le_of_ble_eq_true rfl)⟩ (Nat.le_of_ble_eq_true rfl) ⟨(Nat.le_of_ble_eq_true rfl), (Nat.le_of_ble_eq_true rfl)⟩ dX7_nearest_8 (fun v8 G8 hp8 => ?_)
  obtain ⟨rfl, rfl⟩ := hp8
  refine z_if_ne (tgt := 20) C dX7_nearest_11 (by decide) (fun h11 => ?_) (fun h11 => ?_)
  · refine z_iconst (v := (-1)) C dX7_nearest_20 rfl ?_
    refine z_istore C dX7_nearest_21 (by decide) ?_
    refine z_iconst (v := 0) C dX7_nearest_23 rfl ?_
    refine z_istore C dX7_nearest_24 (by decide) ?_
    refine z_iload C dX7_nearest_26 rfl ?_
    first | refine z_rload_n C dX7_nearest_28 rfl ?_ | refine z_nload_n C dX7_nearest_28 rfl ?_ | refine z_aload_n C dX7_nearest_28 rfl ?_
    refine z_getf (T := TX7) (N := 19) C (by first | assumption | exact zU_same _ _ _) rfl 14 (by decide) kw_1182 (Or.inl rfl) rfl dX7_nearest_29 ?_
    refine z_icmp_ge (tgt := 82) C dX7_nearest_32 (by decide) (fun h32 => ?_) (fun h32 => ?_)
    · refine z_iload C dX7_nearest_82 rfl ?_
      exact z_iret C F hr (Nat.le_of_ble_eq_true rfl) (Nat.le_of_ble_eq_true rfl) ⟨by rw [if_neg h11], by unfold s_not; rw [if_neg h11]; exact zMK.u⟩ dX7_nearest_84
    · exact absurd (by decide) h32
  · first | refine z_rload_n C dX7_nearest_14 rfl ?_ | refine z_nload_n C dX7_nearest_14 rfl ?_ | refine z_aload_n C dX7_nearest_14 rfl ?_
    refine z_iconst (v := 1) C dX7_nearest_15 rfl ?_
    refine z_callV (q := (RX7, TX7, 19)) C (m_no l Γ _ 1 (zU_same G mo (oM0 0 μ))) kc_X7_nearest_16 (by first | assumption | exact zU_same _ _ _) rfl rfl rfl rfl ky_X7_no ⟨(Nat.le_of_ble_eq_true rfl), (Nat.le_of_ble_eq_true rfl)⟩ (Nat.le_of_ble_eq_true rfl) ⟨(Nat.le_of_ble_eq_true rfl), (Nat.le_of_ble_eq_true rfl)⟩ dX7_nearest_16 (fun v16 G16 hp16 => ?_)
    obtain ⟨rfl, rfl⟩ := hp16
    exact z_iret C F hr (Nat.le_of_ble_eq_true rfl) (Nat.le_of_ble_eq_true rfl) ⟨by rw [if_pos h11], by unfold s_not; rw [if_pos h11]; exact zMK.uu⟩ dX7_nearest_19

