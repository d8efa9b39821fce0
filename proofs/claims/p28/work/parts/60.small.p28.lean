theorem dX6_stationAt_0 : decode cX6_stationAt 0 = .ok (.iload_n 1, 1) := by decide +kernel
theorem dX6_stationAt_1 : decode cX6_stationAt 1 = .ok (.ifCond .lt 14, 3) := by decide +kernel
theorem dX6_stationAt_4 : decode cX6_stationAt 4 = .ok (.iload_n 1, 1) := by decide +kernel
theorem dX6_stationAt_5 : decode cX6_stationAt 5 = .ok (.aload_n 0, 1) := by decide +kernel
theorem dX6_stationAt_6 : decode cX6_stationAt 6 = .ok (.getfield 10, 3) := by decide +kernel
theorem dX6_stationAt_9 : decode cX6_stationAt 9 = .ok (.invokevirtual 62, 3) := by decide +kernel
theorem dX6_stationAt_12 : decode cX6_stationAt 12 = .ok (.if_icmp .lt 14, 3) := by decide +kernel
theorem dX6_stationAt_15 : decode cX6_stationAt 15 = .ok (.new 165, 3) := by decide +kernel
theorem dX6_stationAt_18 : decode cX6_stationAt 18 = .ok (.dup, 1) := by decide +kernel
theorem dX6_stationAt_19 : decode cX6_stationAt 19 = .ok (.ldc_w 318, 3) := by decide +kernel
theorem dX6_stationAt_22 : decode cX6_stationAt 22 = .ok (.invokespecial 169, 3) := by decide +kernel
theorem dX6_stationAt_25 : decode cX6_stationAt 25 = .ok (.athrow, 1) := by decide +kernel
theorem dX6_stationAt_26 : decode cX6_stationAt 26 = .ok (.aload_n 0, 1) := by decide +kernel
theorem dX6_stationAt_27 : decode cX6_stationAt 27 = .ok (.getfield 10, 3) := by decide +kernel
theorem dX6_stationAt_30 : decode cX6_stationAt 30 = .ok (.iload_n 1, 1) := by decide +kernel
theorem dX6_stationAt_31 : decode cX6_stationAt 31 = .ok (.invokevirtual 90, 3) := by decide +kernel
theorem dX6_stationAt_34 : decode cX6_stationAt 34 = .ok (.checkcast 71, 3) := by decide +kernel
theorem dX6_stationAt_37 : decode cX6_stationAt 37 = .ok (.areturn, 1) := by decide +kernel
theorem kc_X6_stationAt_9 : ∀ w ∈ ([Cond.methodLink "QuakeBench" 62 yJx4a65c_size_8abf5, Cond.instanceMethod yJx4a65c_size_8abf5, Cond.selects "java/util/ArrayList" yJx4a65c_size_8abf5 yJx4a65c_size_8abf5, Cond.initialized "java/util/ArrayList", Cond.code yJx4a65c_size_8abf5 prog_25_method_8_code 1 (Option.some Jvm.ClassFile.FieldType.int)] : List Cond), w ∈ lw_all := zin [180, 181, 182, 27, 183] (by decide +kernel)
theorem kc_X6_stationAt_31 : ∀ w ∈ ([Cond.methodLink "QuakeBench" 90 yJx4a65c_get_915e3, Cond.instanceMethod yJx4a65c_get_915e3, Cond.selects "java/util/ArrayList" yJx4a65c_get_915e3 yJx4a65c_get_915e3, Cond.initialized "java/util/ArrayList", Cond.code yJx4a65c_get_915e3 prog_25_method_20_code 2 (Option.some (Jvm.ClassFile.FieldType.object "java/lang/Object"))] : List Cond), w ∈ lw_all := zin [252, 253, 254, 27, 255] (by decide +kernel)
theorem kw_266 : Cond.classLink "QuakeBench" 71 "QuakeBench$Station" ∈ lw_all := zin1 266 (by decide +kernel)
theorem dX6_pickAt_0 : decode cX6_pickAt 0 = .ok (.iload_n 1, 1) := by decide +kernel
theorem dX6_pickAt_1 : decode cX6_pickAt 1 = .ok (.ifCond .lt 14, 3) := by decide +kernel
theorem dX6_pickAt_4 : decode cX6_pickAt 4 = .ok (.iload_n 1, 1) := by decide +kernel
theorem dX6_pickAt_5 : decode cX6_pickAt 5 = .ok (.aload_n 0, 1) := by decide +kernel
theorem dX6_pickAt_6 : decode cX6_pickAt 6 = .ok (.getfield 16, 3) := by decide +kernel
theorem dX6_pickAt_9 : decode cX6_pickAt 9 = .ok (.invokevirtual 62, 3) := by decide +kernel
theorem dX6_pickAt_12 : decode cX6_pickAt 12 = .ok (.if_icmp .lt 14, 3) := by decide +kernel
theorem dX6_pickAt_15 : decode cX6_pickAt 15 = .ok (.new 165, 3) := by decide +kernel
theorem dX6_pickAt_18 : decode cX6_pickAt 18 = .ok (.dup, 1) := by decide +kernel
theorem dX6_pickAt_19 : decode cX6_pickAt 19 = .ok (.ldc_w 320, 3) := by decide +kernel
theorem dX6_pickAt_22 : decode cX6_pickAt 22 = .ok (.invokespecial 169, 3) := by decide +kernel
theorem dX6_pickAt_25 : decode cX6_pickAt 25 = .ok (.athrow, 1) := by decide +kernel
theorem dX6_pickAt_26 : decode cX6_pickAt 26 = .ok (.aload_n 0, 1) := by decide +kernel
theorem dX6_pickAt_27 : decode cX6_pickAt 27 = .ok (.getfield 16, 3) := by decide +kernel
theorem dX6_pickAt_30 : decode cX6_pickAt 30 = .ok (.iload_n 1, 1) := by decide +kernel
theorem dX6_pickAt_31 : decode cX6_pickAt 31 = .ok (.invokevirtual 90, 3) := by decide +kernel
theorem dX6_pickAt_34 : decode cX6_pickAt 34 = .ok (.checkcast 130, 3) := by decide +kernel
theorem dX6_pickAt_37 : decode cX6_pickAt 37 = .ok (.areturn, 1) := by decide +kernel
theorem kc_X6_pickAt_9 : ∀ w ∈ ([Cond.methodLink "QuakeBench" 62 yJx4a65c_size_8abf5, Cond.instanceMethod yJx4a65c_size_8abf5, Cond.selects "java/util/ArrayList" yJx4a65c_size_8abf5 yJx4a65c_size_8abf5, Cond.initialized "java/util/ArrayList", Cond.code yJx4a65c_size_8abf5 prog_25_method_8_code 1 (Option.some Jvm.ClassFile.FieldType.int)] : List Cond), w ∈ lw_all := zin [180, 181, 182, 27, 183] (by decide +kernel)
theorem kc_X6_pickAt_31 : ∀ w ∈ ([Cond.methodLink "QuakeBench" 90 yJx4a65c_get_915e3, Cond.instanceMethod yJx4a65c_get_915e3, Cond.selects "java/util/ArrayList" yJx4a65c_get_915e3 yJx4a65c_get_915e3, Cond.initialized "java/util/ArrayList", Cond.code yJx4a65c_get_915e3 prog_25_method_20_code 2 (Option.some (Jvm.ClassFile.FieldType.object "java/lang/Object"))] : List Cond), w ∈ lw_all := zin [252, 253, 254, 27, 255] (by decide +kernel)
theorem kw_300 : Cond.classLink "QuakeBench" 130 "QuakeBench$Pick" ∈ lw_all := zin1 300 (by decide +kernel)
theorem dX6_eventAt_0 : decode cX6_eventAt 0 = .ok (.iload_n 1, 1) := by decide +kernel
theorem dX6_eventAt_1 : decode cX6_eventAt 1 = .ok (.ifCond .lt 14, 3) := by decide +kernel
theorem dX6_eventAt_4 : decode cX6_eventAt 4 = .ok (.iload_n 1, 1) := by decide +kernel
theorem dX6_eventAt_5 : decode cX6_eventAt 5 = .ok (.aload_n 0, 1) := by decide +kernel
theorem dX6_eventAt_6 : decode cX6_eventAt 6 = .ok (.getfield 19, 3) := by decide +kernel
theorem dX6_eventAt_9 : decode cX6_eventAt 9 = .ok (.invokevirtual 62, 3) := by decide +kernel
theorem dX6_eventAt_12 : decode cX6_eventAt 12 = .ok (.if_icmp .lt 14, 3) := by decide +kernel
theorem dX6_eventAt_15 : decode cX6_eventAt 15 = .ok (.new 165, 3) := by decide +kernel
theorem dX6_eventAt_18 : decode cX6_eventAt 18 = .ok (.dup, 1) := by decide +kernel
theorem dX6_eventAt_19 : decode cX6_eventAt 19 = .ok (.ldc_w 322, 3) := by decide +kernel
theorem dX6_eventAt_22 : decode cX6_eventAt 22 = .ok (.invokespecial 169, 3) := by decide +kernel
theorem dX6_eventAt_25 : decode cX6_eventAt 25 = .ok (.athrow, 1) := by decide +kernel
theorem dX6_eventAt_26 : decode cX6_eventAt 26 = .ok (.aload_n 0, 1) := by decide +kernel
theorem dX6_eventAt_27 : decode cX6_eventAt 27 = .ok (.getfield 19, 3) := by decide +kernel
theorem dX6_eventAt_30 : decode cX6_eventAt 30 = .ok (.iload_n 1, 1) := by decide +kernel
theorem dX6_eventAt_31 : decode cX6_eventAt 31 = .ok (.invokevirtual 90, 3) := by decide +kernel
theorem dX6_eventAt_34 : decode cX6_eventAt 34 = .ok (.checkcast 94, 3) := by decide +kernel
theorem dX6_eventAt_37 : decode cX6_eventAt 37 = .ok (.areturn, 1) := by decide +kernel
theorem kc_X6_eventAt_9 : ∀ w ∈ ([Cond.methodLink "QuakeBench" 62 yJx4a65c_size_8abf5, Cond.instanceMethod yJx4a65c_size_8abf5, Cond.selects "java/util/ArrayList" yJx4a65c_size_8abf5 yJx4a65c_size_8abf5, Cond.initialized "java/util/ArrayList", Cond.code yJx4a65c_size_8abf5 prog_25_method_8_code 1 (Option.some Jvm.ClassFile.FieldType.int)] : List Cond), w ∈ lw_all := zin [180, 181, 182, 27, 183] (by decide +kernel)
theorem kc_X6_eventAt_31 : ∀ w ∈ ([Cond.methodLink "QuakeBench" 90 yJx4a65c_get_915e3, Cond.instanceMethod yJx4a65c_get_915e3, Cond.selects "java/util/ArrayList" yJx4a65c_get_915e3 yJx4a65c_get_915e3, Cond.initialized "java/util/ArrayList", Cond.code yJx4a65c_get_915e3 prog_25_method_20_code 2 (Option.some (Jvm.ClassFile.FieldType.object "java/lang/Object"))] : List Cond), w ∈ lw_all := zin [252, 253, 254, 27, 255] (by decide +kernel)
theorem kw_428 : Cond.classLink "QuakeBench" 94 "QuakeBench$Event" ∈ lw_all := zin1 428 (by decide +kernel)
theorem dX6_requireFound_0 : decode cX6_requireFound 0 = .ok (.aload_n 0, 1) := by decide +kernel
theorem dX6_requireFound_1 : decode cX6_requireFound 1 = .ok (.getfield 100, 3) := by decide +kernel
theorem dX6_requireFound_4 : decode cX6_requireFound 4 = .ok (.ifCond .ne 14, 3) := by decide +kernel
theorem dX6_requireFound_7 : decode cX6_requireFound 7 = .ok (.new 66, 3) := by decide +kernel
theorem dX6_requireFound_10 : decode cX6_requireFound 10 = .ok (.dup, 1) := by decide +kernel
theorem dX6_requireFound_11 : decode cX6_requireFound 11 = .ok (.ldc_w 312, 3) := by decide +kernel
theorem dX6_requireFound_14 : decode cX6_requireFound 14 = .ok (.invokespecial 70, 3) := by decide +kernel
theorem dX6_requireFound_17 : decode cX6_requireFound 17 = .ok (.athrow, 1) := by decide +kernel
theorem dX6_requireFound_18 : decode cX6_requireFound 18 = .ok (.return_, 1) := by decide +kernel
theorem kw_443 : Cond.fieldLink "QuakeBench" 100 "QuakeBench$Event" "found" "Z" ∈ lw_all := zin1 443 (by decide +kernel)
theorem dX6_requirePlace_0 : decode cX6_requirePlace 0 = .ok (.iload_n 0, 1) := by decide +kernel
theorem dX6_requirePlace_1 : decode cX6_requirePlace 1 = .ok (.iload_n 1, 1) := by decide +kernel
theorem dX6_requirePlace_2 : decode cX6_requirePlace 2 = .ok (.iload_n 2, 1) := by decide +kernel
theorem dX6_requirePlace_3 : decode cX6_requirePlace 3 = .ok (.invokestatic 51, 3) := by decide +kernel
theorem dX6_requirePlace_6 : decode cX6_requirePlace 6 = .ok (.ifCond .ne 14, 3) := by decide +kernel
theorem dX6_requirePlace_9 : decode cX6_requirePlace 9 = .ok (.new 55, 3) := by decide +kernel
theorem dX6_requirePlace_12 : decode cX6_requirePlace 12 = .ok (.dup, 1) := by decide +kernel
theorem dX6_requirePlace_13 : decode cX6_requirePlace 13 = .ok (.ldc_w 310, 3) := by decide +kernel
theorem dX6_requirePlace_16 : decode cX6_requirePlace 16 = .ok (.invokespecial 59, 3) := by decide +kernel
theorem dX6_requirePlace_19 : decode cX6_requirePlace 19 = .ok (.athrow, 1) := by decide +kernel
theorem dX6_requirePlace_20 : decode cX6_requirePlace 20 = .ok (.return_, 1) := by decide +kernel
theorem kc_X6_requirePlace_3 : ∀ w ∈ ([Cond.methodLink "QuakeBench" 51 yX6_isPlace, Cond.static yX6_isPlace, Cond.initialized "QuakeBench", Cond.code yX6_isPlace prog_1_method_27_code 3 (Option.some Jvm.ClassFile.FieldType.boolean)] : List Cond), w ∈ lw_all := zin [652, 580, 24, 581] (by decide +kernel)
theorem dX6_requireLimits_0 : decode cX6_requireLimits 0 = .ok (.iload_n 0, 1) := by decide +kernel
theorem dX6_requireLimits_1 : decode cX6_requireLimits 1 = .ok (.ifCond .lt 10, 3) := by decide +kernel
theorem dX6_requireLimits_4 : decode cX6_requireLimits 4 = .ok (.iload_n 0, 1) := by decide +kernel
theorem dX6_requireLimits_5 : decode cX6_requireLimits 5 = .ok (.sipush 500, 3) := by decide +kernel
theorem dX6_requireLimits_8 : decode cX6_requireLimits 8 = .ok (.if_icmp .le 14, 3) := by decide +kernel
theorem dX6_requireLimits_11 : decode cX6_requireLimits 11 = .ok (.new 55, 3) := by decide +kernel
theorem dX6_requireLimits_14 : decode cX6_requireLimits 14 = .ok (.dup, 1) := by decide +kernel
theorem dX6_requireLimits_15 : decode cX6_requireLimits 15 = .ok (.ldc_w 314, 3) := by decide +kernel
theorem dX6_requireLimits_18 : decode cX6_requireLimits 18 = .ok (.invokespecial 59, 3) := by decide +kernel
theorem dX6_requireLimits_21 : decode cX6_requireLimits 21 = .ok (.athrow, 1) := by decide +kernel
theorem dX6_requireLimits_22 : decode cX6_requireLimits 22 = .ok (.iload_n 1, 1) := by decide +kernel
theorem dX6_requireLimits_23 : decode cX6_requireLimits 23 = .ok (.ifCond .lt 9, 3) := by decide +kernel
theorem dX6_requireLimits_26 : decode cX6_requireLimits 26 = .ok (.iload_n 1, 1) := by decide +kernel
theorem dX6_requireLimits_27 : decode cX6_requireLimits 27 = .ok (.ldc 125, 2) := by decide +kernel
theorem dX6_requireLimits_29 : decode cX6_requireLimits 29 = .ok (.if_icmp .le 14, 3) := by decide +kernel
theorem dX6_requireLimits_32 : decode cX6_requireLimits 32 = .ok (.new 55, 3) := by decide +kernel
theorem dX6_requireLimits_35 : decode cX6_requireLimits 35 = .ok (.dup, 1) := by decide +kernel
theorem dX6_requireLimits_36 : decode cX6_requireLimits 36 = .ok (.ldc_w 316, 3) := by decide +kernel
theorem dX6_requireLimits_39 : decode cX6_requireLimits 39 = .ok (.invokespecial 59, 3) := by decide +kernel
theorem dX6_requireLimits_42 : decode cX6_requireLimits 42 = .ok (.athrow, 1) := by decide +kernel
theorem dX6_requireLimits_43 : decode cX6_requireLimits 43 = .ok (.return_, 1) := by decide +kernel
theorem kw_267 : Cond.constant "QuakeBench" 125 10000000 ∈ lw_all := zin1 267 (by decide +kernel)
theorem dX6_numberOf_0 : decode cX6_numberOf 0 = .ok (.aload_n 0, 1) := by decide +kernel
theorem dX6_numberOf_1 : decode cX6_numberOf 1 = .ok (.ifnonnull 7, 3) := by decide +kernel
theorem dX6_numberOf_4 : decode cX6_numberOf 4 = .ok (.iconst (-1), 1) := by decide +kernel
theorem dX6_numberOf_5 : decode cX6_numberOf 5 = .ok (.goto 7, 3) := by decide +kernel
theorem dX6_numberOf_8 : decode cX6_numberOf 8 = .ok (.aload_n 0, 1) := by decide +kernel
theorem dX6_numberOf_9 : decode cX6_numberOf 9 = .ok (.getfield 176, 3) := by decide +kernel
theorem dX6_numberOf_12 : decode cX6_numberOf 12 = .ok (.ireturn, 1) := by decide +kernel
theorem kw_437 : Cond.fieldLink "QuakeBench" 176 "QuakeBench$Event" "number" "I" ∈ lw_all := zin1 437 (by decide +kernel)
theorem dX0_distanceTo_0 : decode cX0_distanceTo 0 = .ok (.aload_n 0, 1) := by decide +kernel
theorem dX0_distanceTo_1 : decode cX0_distanceTo 1 = .ok (.getfield 58, 3) := by decide +kernel
theorem dX0_distanceTo_4 : decode cX0_distanceTo 4 = .ok (.iload_n 1, 1) := by decide +kernel
theorem dX0_distanceTo_5 : decode cX0_distanceTo 5 = .ok (.isub, 1) := by decide +kernel
theorem dX0_distanceTo_6 : decode cX0_distanceTo 6 = .ok (.invokestatic 61, 3) := by decide +kernel
theorem dX0_distanceTo_9 : decode cX0_distanceTo 9 = .ok (.aload_n 0, 1) := by decide +kernel
theorem dX0_distanceTo_10 : decode cX0_distanceTo 10 = .ok (.getfield 66, 3) := by decide +kernel
theorem dX0_distanceTo_13 : decode cX0_distanceTo 13 = .ok (.iload_n 2, 1) := by decide +kernel
theorem dX0_distanceTo_14 : decode cX0_distanceTo 14 = .ok (.isub, 1) := by decide +kernel
theorem dX0_distanceTo_15 : decode cX0_distanceTo 15 = .ok (.invokestatic 61, 3) := by decide +kernel
theorem dX0_distanceTo_18 : decode cX0_distanceTo 18 = .ok (.iadd, 1) := by decide +kernel
theorem dX0_distanceTo_19 : decode cX0_distanceTo 19 = .ok (.aload_n 0, 1) := by decide +kernel
theorem dX0_distanceTo_20 : decode cX0_distanceTo 20 = .ok (.getfield 69, 3) := by decide +kernel
theorem dX0_distanceTo_23 : decode cX0_distanceTo 23 = .ok (.iload_n 3, 1) := by decide +kernel
theorem dX0_distanceTo_24 : decode cX0_distanceTo 24 = .ok (.isub, 1) := by decide +kernel
theorem dX0_distanceTo_25 : decode cX0_distanceTo 25 = .ok (.invokestatic 61, 3) := by decide +kernel
theorem dX0_distanceTo_28 : decode cX0_distanceTo 28 = .ok (.iadd, 1) := by decide +kernel
theorem dX0_distanceTo_29 : decode cX0_distanceTo 29 = .ok (.ireturn, 1) := by decide +kernel
theorem kw_446 : Cond.fieldLink "QuakeBench$Event" 58 "QuakeBench$Event" "x" "I" ∈ lw_all := zin1 446 (by decide +kernel)
theorem km_X0_distanceTo_6 : ∀ w ∈ ([Cond.methodLink "QuakeBench$Event" 61 yJ9_abs_0f7a4, Cond.static yJ9_abs_0f7a4, Cond.initialized "java/lang/Math", Cond.code yJ9_abs_0f7a4 prog_18_method_59_code 1 (Option.some Jvm.ClassFile.FieldType.int)] : List Cond), w ∈ lw_all := zin [721, 552, 38, 553] (by decide +kernel)
theorem kw_450 : Cond.fieldLink "QuakeBench$Event" 66 "QuakeBench$Event" "y" "I" ∈ lw_all := zin1 450 (by decide +kernel)
theorem km_X0_distanceTo_15 : ∀ w ∈ ([Cond.methodLink "QuakeBench$Event" 61 yJ9_abs_0f7a4, Cond.static yJ9_abs_0f7a4, Cond.initialized "java/lang/Math", Cond.code yJ9_abs_0f7a4 prog_18_method_59_code 1 (Option.some Jvm.ClassFile.FieldType.int)] : List Cond), w ∈ lw_all := zin [721, 552, 38, 553] (by decide +kernel)
theorem kw_454 : Cond.fieldLink "QuakeBench$Event" 69 "QuakeBench$Event" "z" "I" ∈ lw_all := zin1 454 (by decide +kernel)
theorem km_X0_distanceTo_25 : ∀ w ∈ ([Cond.methodLink "QuakeBench$Event" 61 yJ9_abs_0f7a4, Cond.static yJ9_abs_0f7a4, Cond.initialized "java/lang/Math", Cond.code yJ9_abs_0f7a4 prog_18_method_59_code 1 (Option.some Jvm.ClassFile.FieldType.int)] : List Cond), w ∈ lw_all := zin [721, 552, 38, 553] (by decide +kernel)
theorem dX0_isRelated_0 : decode cX0_isRelated 0 = .ok (.aload_n 0, 1) := by decide +kernel
theorem dX0_isRelated_1 : decode cX0_isRelated 1 = .ok (.getfield 72, 3) := by decide +kernel
theorem dX0_isRelated_4 : decode cX0_isRelated 4 = .ok (.ifCond .eq 50, 3) := by decide +kernel
theorem dX0_isRelated_7 : decode cX0_isRelated 7 = .ok (.aload_n 1, 1) := by decide +kernel
theorem dX0_isRelated_8 : decode cX0_isRelated 8 = .ok (.getfield 72, 3) := by decide +kernel
theorem dX0_isRelated_11 : decode cX0_isRelated 11 = .ok (.ifCond .eq 43, 3) := by decide +kernel
theorem dX0_isRelated_14 : decode cX0_isRelated 14 = .ok (.aload_n 0, 1) := by decide +kernel
theorem dX0_isRelated_15 : decode cX0_isRelated 15 = .ok (.aload_n 1, 1) := by decide +kernel
theorem dX0_isRelated_16 : decode cX0_isRelated 16 = .ok (.getfield 58, 3) := by decide +kernel
theorem dX0_isRelated_19 : decode cX0_isRelated 19 = .ok (.aload_n 1, 1) := by decide +kernel
theorem dX0_isRelated_20 : decode cX0_isRelated 20 = .ok (.getfield 66, 3) := by decide +kernel
theorem dX0_isRelated_23 : decode cX0_isRelated 23 = .ok (.aload_n 1, 1) := by decide +kernel
theorem dX0_isRelated_24 : decode cX0_isRelated 24 = .ok (.getfield 69, 3) := by decide +kernel
theorem dX0_isRelated_27 : decode cX0_isRelated 27 = .ok (.invokevirtual 75, 3) := by decide +kernel
theorem dX0_isRelated_30 : decode cX0_isRelated 30 = .ok (.iload_n 2, 1) := by decide +kernel
theorem dX0_isRelated_31 : decode cX0_isRelated 31 = .ok (.if_icmp .gt 23, 3) := by decide +kernel
theorem dX0_isRelated_34 : decode cX0_isRelated 34 = .ok (.aload_n 0, 1) := by decide +kernel
theorem dX0_isRelated_35 : decode cX0_isRelated 35 = .ok (.getfield 79, 3) := by decide +kernel
theorem dX0_isRelated_38 : decode cX0_isRelated 38 = .ok (.aload_n 1, 1) := by decide +kernel
theorem dX0_isRelated_39 : decode cX0_isRelated 39 = .ok (.getfield 79, 3) := by decide +kernel
theorem dX0_isRelated_42 : decode cX0_isRelated 42 = .ok (.isub, 1) := by decide +kernel
theorem dX0_isRelated_43 : decode cX0_isRelated 43 = .ok (.invokestatic 61, 3) := by decide +kernel
theorem dX0_isRelated_46 : decode cX0_isRelated 46 = .ok (.iload_n 3, 1) := by decide +kernel
theorem dX0_isRelated_47 : decode cX0_isRelated 47 = .ok (.if_icmp .gt 7, 3) := by decide +kernel
theorem dX0_isRelated_50 : decode cX0_isRelated 50 = .ok (.iconst 1, 1) := by decide +kernel
theorem dX0_isRelated_51 : decode cX0_isRelated 51 = .ok (.goto 4, 3) := by decide +kernel
theorem dX0_isRelated_54 : decode cX0_isRelated 54 = .ok (.iconst 0, 1) := by decide +kernel
theorem dX0_isRelated_55 : decode cX0_isRelated 55 = .ok (.ireturn, 1) := by decide +kernel
theorem kw_442 : Cond.fieldLink "QuakeBench$Event" 72 "QuakeBench$Event" "found" "Z" ∈ lw_all := zin1 442 (by decide +kernel)
theorem ky_X0_distanceTo : yX0_distanceTo.cls ≠ "java/lang/invoke/MethodHandle" ∧ yX0_distanceTo.cls ≠ "java/lang/invoke/VarHandle" ∧ (parseMethodDescriptor yX0_distanceTo.desc).map (fun d => d.parameters.length) = some 3 := by decide +kernel
theorem kc_X0_isRelated_27 : ∀ w ∈ ([Cond.methodLink "QuakeBench$Event" 75 yX0_distanceTo, Cond.instanceMethod yX0_distanceTo, Cond.selects "QuakeBench$Event" yX0_distanceTo yX0_distanceTo, Cond.initialized "QuakeBench$Event", Cond.code yX0_distanceTo prog_2_method_7_code 4 (Option.some Jvm.ClassFile.FieldType.int)] : List Cond), w ∈ lw_all := zin [717, 718, 719, 41, 720] (by decide +kernel)
theorem kw_458 : Cond.fieldLink "QuakeBench$Event" 79 "QuakeBench$Event" "time" "I" ∈ lw_all := zin1 458 (by decide +kernel)
theorem km_X0_isRelated_43 : ∀ w ∈ ([Cond.methodLink "QuakeBench$Event" 61 yJ9_abs_0f7a4, Cond.static yJ9_abs_0f7a4, Cond.initialized "java/lang/Math", Cond.code yJ9_abs_0f7a4 prog_18_method_59_code 1 (Option.some Jvm.ClassFile.FieldType.int)] : List Cond), w ∈ lw_all := zin [721, 552, 38, 553] (by decide +kernel)
/-! the class on a running bench: its small methods -/
abbrev rm_c_stationAt : Room := { frames := 3, cells := 0, slots := 0, locals := 64 }
set_option maxHeartbeats 4000000 in
set_option maxRecDepth 100000 in
theorem c_stationAt (l : Launch) (Γ : zY) (G : zG) {b s0 p0 e0 w r q lo co arr i y : Nat} {xs : List Nat} {fs : List Value} (hb : G b = some (oQB s0 p0 e0 w r q lo co)) (hL : zLs Γ G s0 arr xs) (hy : xs[i]? = some y) (hn : xs.length ≤ 33) (hG : G y = some (.inr (5, fs))) : ZM l yX6_stationAt cX6_stationAt 2 (some (FieldType.object "QuakeBench$Station")) rm_c_stationAt Γ [.ref b, .int (nI i)] G (zRd G (.ref y)) := by
  obtain ⟨mcl, hl0⟩ := hL.at
  have hi : i < xs.length := (List.getElem?_eq_some_iff.mp hy).1
  refine z_start (by decide +kernel) [some (.ref b), some (.int (nI i))] rfl (Nat.le_of_ble_eq_true rfl) ?_
  intro p e s m args below meth c Q A C F hr hnm
  refine z_iload_n C dX6_stationAt_0 rfl ?_
  refine z_if_lt (tgt := 15) C dX6_stationAt_1 (by decide) (fun h1 => ?_) (fun h1 => ?_)
  · exact absurd h1 (nI_pos (by omega))
  · refine z_iload_n C dX6_stationAt_4 rfl ?_
    first | refine z_rload_n C dX6_stationAt_5 rfl ?_ | refine z_nload_n C dX6_stationAt_5 rfl ?_ | refine z_aload_n C dX6_stationAt_5 rfl ?_
    refine z_getf (T := TX6) (N := 8) C (by first | assumption | exact zU_same _ _ _) rfl 0 (by decide) kw_147 (Or.inl rfl) rfl dX6_stationAt_6 ?_
    refine z_callV (q := (RJx4a65c, TJx4a65c, 3)) C (c_size l Γ G hL) kc_X6_stationAt_9 (by first | assumption | exact zU_same _ _ _) rfl rfl rfl rfl ky_Jx4a65c_size_8abf5 ⟨(Nat.le_of_ble_eq_true rfl), (Nat.le_of_ble_eq_true rfl)⟩ (Nat.le_of_ble_eq_true rfl) ⟨(Nat.le_of_ble_eq_true rfl), (Nat.le_of_ble_eq_true rfl)⟩ dX6_stationAt_9 (fun v9 G9 hp9 => ?_)
    obtain ⟨rfl, rfl⟩ := hp9
    refine z_icmp_lt (tgt := 26) C dX6_stationAt_12 (by decide) (fun h12 => ?_) (fun h12 => ?_)
    · first | refine z_rload_n C dX6_stationAt_26 rfl ?_ | refine z_nload_n C dX6_stationAt_26 rfl ?_ | refine z_aload_n C dX6_stationAt_26 rfl ?_
      refine z_getf (T := TX6) (N := 8) C (by first | assumption | exact zU_same _ _ _) rfl 0 (by decide) kw_147 (Or.inl rfl) rfl dX6_stationAt_27 ?_
      refine z_iload_n C dX6_stationAt_30 rfl ?_
      refine z_callV (q := (RJx4a65c, TJx4a65c, 3)) C (c_get l Γ G hL hy) kc_X6_stationAt_31 (by first | assumption | exact zU_same _ _ _) rfl rfl rfl rfl ky_Jx4a65c_get_915e3 ⟨(Nat.le_of_ble_eq_true rfl), (Nat.le_of_ble_eq_true rfl)⟩ (Nat.le_of_ble_eq_true rfl) ⟨(Nat.le_of_ble_eq_true rfl), (Nat.le_of_ble_eq_true rfl)⟩ dX6_stationAt_31 (fun v31 G31 hp31 => ?_)
      obtain ⟨rfl, rfl⟩ := hp31
      refine z_cast (q := (RX4, TX4, 4)) C kw_266 (by first | assumption | exact zU_same _ _ _) rfl dX6_stationAt_34 ?_
      exact z_rret C F hr (Or.inl ⟨_, rfl⟩) (Nat.le_of_ble_eq_true rfl) (Nat.le_of_ble_eq_true rfl) ⟨rfl, rfl⟩ dX6_stationAt_37
    · exact absurd (nI_lt hi (by omega)) h12
abbrev rm_c_pickAt : Room := { frames := 3, cells := 0, slots := 0, locals := 64 }
set_option maxHeartbeats 4000000 in
set_option maxRecDepth 100000 in
theorem c_pickAt (l : Launch) (Γ : zY) (G : zG) {b s0 p0 e0 w r q lo co arr i y : Nat} {xs : List Nat} {fs : List Value} (hb : G b = some (oQB s0 p0 e0 w r q lo co)) (hL : zLs Γ G p0 arr xs) (hy : xs[i]? = some y) (hn : xs.length ≤ 33) (hG : G y = some (.inr (2, fs))) : ZM l yX6_pickAt cX6_pickAt 2 (some (FieldType.object "QuakeBench$Pick")) rm_c_pickAt Γ [.ref b, .int (nI i)] G (zRd G (.ref y)) := by
  obtain ⟨mcl, hl0⟩ := hL.at
  have hi : i < xs.length := (List.getElem?_eq_some_iff.mp hy).1
  refine z_start (by decide +kernel) [some (.ref b), some (.int (nI i))] rfl (Nat.le_of_ble_eq_true rfl) ?_
  intro p e s m args below meth c Q A C F hr hnm
  refine z_iload_n C dX6_pickAt_0 rfl ?_
  refine z_if_lt (tgt := 15) C dX6_pickAt_1 (by decide) (fun h1 => ?_) (fun h1 => ?_)
  · exact absurd h1 (nI_pos (by omega))
  · refine z_iload_n C dX6_pickAt_4 rfl ?_
    first | refine z_rload_n C dX6_pickAt_5 rfl ?_ | refine z_nload_n C dX6_pickAt_5 rfl ?_ | refine z_aload_n C dX6_pickAt_5 rfl ?_
    refine z_getf (T := TX6) (N := 8) C (by first | assumption | exact zU_same _ _ _) rfl 1 (by decide) kw_148 (Or.inl rfl) rfl dX6_pickAt_6 ?_
    refine z_callV (q := (RJx4a65c, TJx4a65c, 3)) C (c_size l Γ G hL) kc_X6_pickAt_9 (by first | assumption | exact zU_same _ _ _) rfl rfl rfl rfl ky_Jx4a65c_size_8abf5 ⟨(Nat.le_of_ble_eq_true rfl), (Nat.le_of_ble_eq_true rfl)⟩ (Nat.le_of_ble_eq_true rfl) ⟨(Nat.le_of_ble_eq_true rfl), (Nat.le_of_ble_eq_true rfl)⟩ dX6_pickAt_9 (fun v9 G9 hp9 => ?_)
    obtain ⟨rfl, rfl⟩ := hp9
    refine z_icmp_lt (tgt := 26) C dX6_pickAt_12 (by decide) (fun h12 => ?_) (fun h12 => ?_)
    · first | refine z_rload_n C dX6_pickAt_26 rfl ?_ | refine z_nload_n C dX6_pickAt_26 rfl ?_ | refine z_aload_n C dX6_pickAt_26 rfl ?_
      refine z_getf (T := TX6) (N := 8) C (by first | assumption | exact zU_same _ _ _) rfl 1 (by decide) kw_148 (Or.inl rfl) rfl dX6_pickAt_27 ?_
      refine z_iload_n C dX6_pickAt_30 rfl ?_
      refine z_callV (q := (RJx4a65c, TJx4a65c, 3)) C (c_get l Γ G hL hy) kc_X6_pickAt_31 (by first | assumption | exact zU_same _ _ _) rfl rfl rfl rfl ky_Jx4a65c_get_915e3 ⟨(Nat.le_of_ble_eq_true rfl), (Nat.le_of_ble_eq_true rfl)⟩ (Nat.le_of_ble_eq_true rfl) ⟨(Nat.le_of_ble_eq_true rfl), (Nat.le_of_ble_eq_true rfl)⟩ dX6_pickAt_31 (fun v31 G31 hp31 => ?_)
      obtain ⟨rfl, rfl⟩ := hp31
      refine z_cast (q := (RX1, TX1, 7)) C kw_300 (by first | assumption | exact zU_same _ _ _) rfl dX6_pickAt_34 ?_
      exact z_rret C F hr (Or.inl ⟨_, rfl⟩) (Nat.le_of_ble_eq_true rfl) (Nat.le_of_ble_eq_true rfl) ⟨rfl, rfl⟩ dX6_pickAt_37
    · exact absurd (nI_lt hi (by omega)) h12
abbrev rm_c_eventAt : Room := { frames := 3, cells := 0, slots := 0, locals := 64 }
set_option maxHeartbeats 4000000 in
set_option maxRecDepth 100000 in
theorem c_eventAt (l : Launch) (Γ : zY) (G : zG) {b s0 p0 e0 w r q lo co arr i y : Nat} {xs : List Nat} {fs : List Value} (hb : G b = some (oQB s0 p0 e0 w r q lo co)) (hL : zLs Γ G e0 arr xs) (hy : xs[i]? = some y) (hn : xs.length ≤ 33) (hG : G y = some (.inr (1, fs))) : ZM l yX6_eventAt cX6_eventAt 2 (some (FieldType.object "QuakeBench$Event")) rm_c_eventAt Γ [.ref b, .int (nI i)] G (zRd G (.ref y)) := by
  obtain ⟨mcl, hl0⟩ := hL.at
  have hi : i < xs.length := (List.getElem?_eq_some_iff.mp hy).1
  refine z_start (by decide +kernel) [some (.ref b), some (.int (nI i))] rfl (Nat.le_of_ble_eq_true rfl) ?_
  intro p e s m args below meth c Q A C F hr hnm
  refine z_iload_n C dX6_eventAt_0 rfl ?_
  refine z_if_lt (tgt := 15) C dX6_eventAt_1 (by decide) (fun h1 => ?_) (fun h1 => ?_)
  · exact absurd h1 (nI_pos (by omega))
  · refine z_iload_n C dX6_eventAt_4 rfl ?_
    first | refine z_rload_n C dX6_eventAt_5 rfl ?_ | refine z_nload_n C dX6_eventAt_5 rfl ?_ | refine z_aload_n C dX6_eventAt_5 rfl ?_
    refine z_getf (T := TX6) (N := 8) C (by first | assumption | exact zU_same _ _ _) rfl 2 (by decide) kw_149 (Or.inl rfl) rfl dX6_eventAt_6 ?_
    refine z_callV (q := (RJx4a65c, TJx4a65c, 3)) C (c_size l Γ G hL) kc_X6_eventAt_9 (by first | assumption | exact zU_same _ _ _) rfl rfl rfl rfl ky_Jx4a65c_size_8abf5 ⟨(Nat.le_of_ble_eq_true rfl), (Nat.le_of_ble_eq_true rfl)⟩ (Nat.le_of_ble_eq_true rfl) ⟨(Nat.le_of_ble_eq_true rfl), (Nat.le_of_ble_eq_true rfl)⟩ dX6_eventAt_9 (fun v9 G9 hp9 => ?_)
    obtain ⟨rfl, rfl⟩ := hp9
    refine z_icmp_lt (tgt := 26) C dX6_eventAt_12 (by decide) (fun h12 => ?_) (fun h12 => ?_)
    · first | refine z_rload_n C dX6_eventAt_26 rfl ?_ | refine z_nload_n C dX6_eventAt_26 rfl ?_ | refine z_aload_n C dX6_eventAt_26 rfl ?_
      refine z_getf (T := TX6) (N := 8) C (by first | assumption | exact zU_same _ _ _) rfl 2 (by decide) kw_149 (Or.inl rfl) rfl dX6_eventAt_27 ?_
      refine z_iload_n C dX6_eventAt_30 rfl ?_
      refine z_callV (q := (RJx4a65c, TJx4a65c, 3)) C (c_get l Γ G hL hy) kc_X6_eventAt_31 (by first | assumption | exact zU_same _ _ _) rfl rfl rfl rfl ky_Jx4a65c_get_915e3 ⟨(Nat.le_of_ble_eq_true rfl), (Nat.le_of_ble_eq_true rfl)⟩ (Nat.le_of_ble_eq_true rfl) ⟨(Nat.le_of_ble_eq_true rfl), (Nat.le_of_ble_eq_true rfl)⟩ dX6_eventAt_31 (fun v31 G31 hp31 => ?_)
      obtain ⟨rfl, rfl⟩ := hp31
      refine z_cast (q := (RX0, TX0, 8)) C kw_428 (by first | assumption | exact zU_same _ _ _) rfl dX6_eventAt_34 ?_
      exact z_rret C F hr (Or.inl ⟨_, rfl⟩) (Nat.le_of_ble_eq_true rfl) (Nat.le_of_ble_eq_true rfl) ⟨rfl, rfl⟩ dX6_eventAt_37
    · exact absurd (nI_lt hi (by omega)) h12
abbrev rm_c_reqFound : Room := { frames := 0, cells := 0, slots := 0, locals := 0 }
set_option maxHeartbeats 4000000 in
set_option maxRecDepth 100000 in
theorem c_reqFound (l : Launch) (Γ : zY) (G : zG) {y ml : Nat} {n fo ex ey ez et lb : Int32} (hG : G y = some (oEv n ml fo ex ey ez et lb)) (hfo : ¬ fo = 0) : ZM l yX6_requireFound cX6_requireFound 1 (none) rm_c_reqFound Γ [.ref y] G (fun v G' => none = v ∧ G = G') := by
  refine z_start (by decide +kernel) [some (.ref y)] rfl (Nat.le_of_ble_eq_true rfl) ?_
  intro p e s m args below meth c Q A C F hr hnm
  first | refine z_rload_n C dX6_requireFound_0 rfl ?_ | refine z_nload_n C dX6_requireFound_0 rfl ?_ | refine z_aload_n C dX6_requireFound_0 rfl ?_
  refine z_getf (T := TX0) (N := 8) C (by first | assumption | exact zU_same _ _ _) rfl 2 (by decide) kw_443 (Or.inl rfl) rfl dX6_requireFound_1 ?_
  refine z_if_ne (tgt := 18) C dX6_requireFound_4 (by decide) (fun h4 => ?_) (fun h4 => ?_)
  · exact z_vret C F hr (Nat.le_of_ble_eq_true rfl) (Nat.le_of_ble_eq_true rfl) ⟨rfl, rfl⟩ dX6_requireFound_18
  · exact absurd h4 hfo
abbrev rm_c_reqPlace : Room := { frames := 1, cells := 0, slots := 0, locals := 22 }
set_option maxHeartbeats 4000000 in
set_option maxRecDepth 100000 in
theorem c_reqPlace (l : Launch) (Γ : zY) (G : zG) (x y z : Int32) (h : ¬ s_pl x y z = 0) : ZM l yX6_requirePlace cX6_requirePlace 3 (none) rm_c_reqPlace Γ [.int x, .int y, .int z] G (fun v G' => none = v ∧ G = G') := by
  refine z_start (by decide +kernel) [some (.int x), some (.int y), some (.int z)] rfl (Nat.le_of_ble_eq_true rfl) ?_
  intro p e s m args below meth c Q A C F hr hnm
  refine z_iload_n C dX6_requirePlace_0 rfl ?_
  refine z_iload_n C dX6_requirePlace_1 rfl ?_
  refine z_iload_n C dX6_requirePlace_2 rfl ?_
  refine z_callS C (c_isPlace l Γ _ x y z) kc_X6_requirePlace_3 rfl rfl ky_X6_isPlace ⟨(Nat.le_of_ble_eq_true rfl), (Nat.le_of_ble_eq_true rfl)⟩ (Nat.le_of_ble_eq_true rfl) ⟨(Nat.le_of_ble_eq_true rfl), (Nat.le_of_ble_eq_true rfl)⟩ dX6_requirePlace_3 (fun v3 G3 hp3 => ?_)
  obtain ⟨rfl, rfl⟩ := hp3
  refine z_if_ne (tgt := 20) C dX6_requirePlace_6 (by decide) (fun h6 => ?_) (fun h6 => ?_)
  · exact z_vret C F hr (Nat.le_of_ble_eq_true rfl) (Nat.le_of_ble_eq_true rfl) ⟨rfl, rfl⟩ dX6_requirePlace_20
  · exact absurd h6 h
abbrev rm_c_reqLimits : Room := { frames := 0, cells := 0, slots := 0, locals := 0 }
set_option maxHeartbeats 4000000 in
set_option maxRecDepth 100000 in
theorem c_reqLimits (l : Launch) (Γ : zY) (G : zG) (x y : Int32) (h1 : 0 ≤ x) (h2 : x ≤ 500) (h3 : 0 ≤ y) (h4 : y ≤ 10000000) : ZM l yX6_requireLimits cX6_requireLimits 2 (none) rm_c_reqLimits Γ [.int x, .int y] G (fun v G' => none = v ∧ G = G') := by
  refine z_start (by decide +kernel) [some (.int x), some (.int y)] rfl (Nat.le_of_ble_eq_true rfl) ?_
  intro p e s m args below meth c Q A C F hr hnm
  refine z_iload_n C dX6_requireLimits_0 rfl ?_
  refine z_if_lt (tgt := 11) C dX6_requireLimits_1 (by decide) (fun h1 => ?_) (fun h1 => ?_)
  · exact absurd h1 (i_nlt ‹0 ≤ x›)
  · refine z_iload_n C dX6_requireLimits_4 rfl ?_
    refine z_sipush (v := 500) C dX6_requireLimits_5 rfl ?_
    refine z_icmp_le (tgt := 22) C dX6_requireLimits_8 (by decide) (fun h8 => ?_) (fun h8 => ?_)
    · refine z_iload_n C dX6_requireLimits_22 rfl ?_
      refine z_if_lt (tgt := 32) C dX6_requireLimits_23 (by decide) (fun h23 => ?_) (fun h23 => ?_)
      · exact absurd h23 (i_nlt h3)
      · refine z_iload_n C dX6_requireLimits_26 rfl ?_
        refine z_ldc C kw_267 dX6_requireLimits_27 ?_
        refine z_icmp_le (tgt := 43) C dX6_requireLimits_29 (by decide) (fun h29 => ?_) (fun h29 => ?_)
        · exact z_vret C F hr (Nat.le_of_ble_eq_true rfl) (Nat.le_of_ble_eq_true rfl) ⟨rfl, rfl⟩ dX6_requireLimits_43
        · exact absurd h4 h29
    · exact absurd h2 h8
abbrev rm_c_numberOf : Room := { frames := 0, cells := 0, slots := 0, locals := 0 }
set_option maxHeartbeats 4000000 in
set_option maxRecDepth 100000 in
theorem c_numberOf (l : Launch) (Γ : zY) (G : zG) {y ml : Nat} {n fo ex ey ez et lb : Int32} (hG : G y = some (oEv n ml fo ex ey ez et lb)) : ZM l yX6_numberOf cX6_numberOf 1 (some FieldType.int) rm_c_numberOf Γ [.ref y] G (zRd G (.int n)) := by
  refine z_start (by decide +kernel) [some (.ref y)] rfl (Nat.le_of_ble_eq_true rfl) ?_
  intro p e s m args below meth c Q A C F hr hnm
  first | refine z_rload_n C dX6_numberOf_0 rfl ?_ | refine z_nload_n C dX6_numberOf_0 rfl ?_ | refine z_aload_n C dX6_numberOf_0 rfl ?_
  refine z_ifnonnull (x := some y) (tgt := 8) C dX6_numberOf_1 (by decide) (fun a1 h1 => ?_) (fun h1 => ?_)
  · obtain rfl : a1 = y := by cases h1; rfl
    first | refine z_rload_n C dX6_numberOf_8 rfl ?_ | refine z_nload_n C dX6_numberOf_8 rfl ?_ | refine z_aload_n C dX6_numberOf_8 rfl ?_
    refine z_getf (T := TX0) (N := 8) C (by first | assumption | exact zU_same _ _ _) rfl 0 (by decide) kw_437 (Or.inl rfl) rfl dX6_numberOf_9 ?_
    exact z_iret C F hr (Nat.le_of_ble_eq_true rfl) (Nat.le_of_ble_eq_true rfl) ⟨rfl, rfl⟩ dX6_numberOf_12
  · cases h1
abbrev rm_c_numberOfN : Room := { frames := 0, cells := 0, slots := 0, locals := 0 }
set_option maxHeartbeats 4000000 in
set_option maxRecDepth 100000 in
theorem c_numberOfN (l : Launch) (Γ : zY) (G : zG) : ZM l yX6_numberOf cX6_numberOf 1 (some FieldType.int) rm_c_numberOfN Γ [.null] G (zRd G (.int (-1))) := by
  refine z_start (by decide +kernel) [some .null] rfl (Nat.le_of_ble_eq_true rfl) ?_
  intro p e s m args below meth c Q A C F hr hnm
  first | refine z_rload_n C dX6_numberOf_0 rfl ?_ | refine z_nload_n C dX6_numberOf_0 rfl ?_ | refine z_aload_n C dX6_numberOf_0 rfl ?_
  refine z_ifnonnull (x := none) (tgt := 8) C dX6_numberOf_1 (by decide) (fun a1 h1 => ?_) (fun h1 => ?_)
  · cases h1
  · refine z_iconst (v := (-1)) C dX6_numberOf_4 rfl ?_
    refine z_goto (tgt := 12) C dX6_numberOf_5 (by decide) ?_
    exact z_iret C F hr (Nat.le_of_ble_eq_true rfl) (Nat.le_of_ble_eq_true rfl) ⟨rfl, rfl⟩ dX6_numberOf_12
abbrev rm_c_distTo : Room := { frames := 1, cells := 0, slots := 0, locals := 40 }
set_option maxHeartbeats 4000000 in
set_option maxRecDepth 100000 in
theorem c_distTo (l : Launch) (Γ : zY) (G : zG) {y ml : Nat} {n fo ex ey ez et lb : Int32} (x0 y0 z0 : Int32) (hG : G y = some (oEv n ml fo ex ey ez et lb)) : ZM l yX0_distanceTo cX0_distanceTo 4 (some FieldType.int) rm_c_distTo Γ [.ref y, .int x0, .int y0, .int z0] G (zRd G (.int (z_abs1 (ex - x0) + z_abs1 (ey - y0) + z_abs1 (ez - z0)))) := by
  refine z_start (by decide +kernel) [some (.ref y), some (.int x0), some (.int y0), some (.int z0)] rfl (Nat.le_of_ble_eq_true rfl) ?_
  intro p e s m args below meth c Q A C F hr hnm
  first | refine z_rload_n C dX0_distanceTo_0 rfl ?_ | refine z_nload_n C dX0_distanceTo_0 rfl ?_ | refine z_aload_n C dX0_distanceTo_0 rfl ?_
  refine z_getf (T := TX0) (N := 8) C (by first | assumption | exact zU_same _ _ _) rfl 3 (by decide) kw_446 (Or.inl rfl) rfl dX0_distanceTo_1 ?_
  refine z_iload_n C dX0_distanceTo_4 rfl ?_
  refine z_isub C dX0_distanceTo_5 ?_
  refine z_abs C km_X0_distanceTo_6 (Nat.le_of_ble_eq_true rfl) (Nat.le_of_ble_eq_true rfl) (Nat.le_of_ble_eq_true rfl) (Nat.le_of_ble_eq_true rfl) dX0_distanceTo_6 ?_
  first | refine z_rload_n C dX0_distanceTo_9 rfl ?_ | refine z_nload_n C dX0_distanceTo_9 rfl ?_ | refine z_aload_n C dX0_distanceTo_9 rfl ?_
  refine z_getf (T := TX0) (N := 8) C (by first | assumption | exact zU_same _ _ _) rfl 4 (by decide) kw_450 (Or.inl rfl) rfl dX0_distanceTo_10 ?_
  refine z_iload_n C dX0_distanceTo_13 rfl ?_
  refine z_isub C dX0_distanceTo_14 ?_
  refine z_abs C km_X0_distanceTo_15 (Nat.le_of_ble_eq_true rfl) (Nat.le_of_ble_eq_true rfl) (Nat.le_of_ble_eq_true rfl) (Nat.le_of_ble_eq_true rfl) dX0_distanceTo_15 ?_
  refine z_iadd C dX0_distanceTo_18 ?_
  first | refine z_rload_n C dX0_distanceTo_19 rfl ?_ | refine z_nload_n C dX0_distanceTo_19 rfl ?_ | refine z_aload_n C dX0_distanceTo_19 rfl ?_
  refine z_getf (T := TX0) (N := 8) C (by first | assumption | exact zU_same _ _ _) rfl 5 (by decide) kw_454 (Or.inl rfl) rfl dX0_distanceTo_20 ?_
  refine z_iload_n C dX0_distanceTo_23 rfl ?_
  refine z_isub C dX0_distanceTo_24 ?_
  refine z_abs C km_X0_distanceTo_25 (Nat.le_of_ble_eq_true rfl) (Nat.le_of_ble_eq_true rfl) (Nat.le_of_ble_eq_true rfl) (Nat.le_of_ble_eq_true rfl) dX0_distanceTo_25 ?_
  refine z_iadd C dX0_distanceTo_28 ?_
  exact z_iret C F hr (Nat.le_of_ble_eq_true rfl) (Nat.le_of_ble_eq_true rfl) ⟨rfl, rfl⟩ dX0_distanceTo_29
def s_rel (f1 f2 d near t soon : Int32) : Int32 := if f1 = 0 then 0 else if f2 = 0 then 0 else if ¬ d ≤ near then 0 else if ¬ t ≤ soon then 0 else 1
abbrev rm_c_isRel : Room := { frames := 2, cells := 0, slots := 0, locals := 63 }
set_option maxHeartbeats 4000000 in
set_option maxRecDepth 100000 in
theorem c_isRel (l : Launch) (Γ : zY) (G : zG) {y ml y2 ml2 : Nat} {n fo ex ey ez et lb n2 fo2 ex2 ey2 ez2 et2 lb2 : Int32} (near soon : Int32) (hG : G y = some (oEv n ml fo ex ey ez et lb)) (hG2 : G y2 = some (oEv n2 ml2 fo2 ex2 ey2 ez2 et2 lb2)) : ZM l yX0_isRelated cX0_isRelated 4 (some FieldType.boolean) rm_c_isRel Γ [.ref y, .ref y2, .int near, .int soon] G (zRd G (.int (s_rel fo fo2 (z_abs1 (ex - ex2) + z_abs1 (ey - ey2) + z_abs1 (ez - ez2)) near (z_abs1 (et - et2)) soon))) := by
  refine z_start (by decide +kernel) [some (.ref y), some (.ref y2), some (.int near), some (.int soon)] rfl (Nat.le_of_ble_eq_true rfl) ?_
  intro p e s m args below meth c Q A C F hr hnm
  first | refine z_rload_n C dX0_isRelated_0 rfl ?_ | refine z_nload_n C dX0_isRelated_0 rfl ?_ | refine z_aload_n C dX0_isRelated_0 rfl ?_
  refine z_getf (T := TX0) (N := 8) C (by first | exact hG | exact hG2) rfl 2 (by decide) kw_442 (Or.inl rfl) rfl dX0_isRelated_1 ?_
  refine z_if_eq (tgt := 54) C dX0_isRelated_4 (by decide) (fun h4 => ?_) (fun h4 => ?_)
  · refine z_iconst (v := 0) C dX0_isRelated_54 rfl ?_
    exact z_bret C F hr rfl (Nat.le_of_ble_eq_true rfl) (Nat.le_of_ble_eq_true rfl) ⟨by unfold s_rel; rw [if_pos h4], rfl⟩ dX0_isRelated_55
  · first | refine z_rload_n C dX0_isRelated_7 rfl ?_ | refine z_nload_n C dX0_isRelated_7 rfl ?_ | refine z_aload_n C dX0_isRelated_7 rfl ?_
    refine z_getf (T := TX0) (N := 8) C hG2 rfl 2 (by decide) kw_442 (Or.inl rfl) rfl dX0_isRelated_8 ?_
    refine z_if_eq (tgt := 54) C dX0_isRelated_11 (by decide) (fun h11 => ?_) (fun h11 => ?_)
    · refine z_iconst (v := 0) C dX0_isRelated_54 rfl ?_
      exact z_bret C F hr rfl (Nat.le_of_ble_eq_true rfl) (Nat.le_of_ble_eq_true rfl) ⟨by unfold s_rel; rw [if_neg h4, if_pos h11], rfl⟩ dX0_isRelated_55
    · first | refine z_rload_n C dX0_isRelated_14 rfl ?_ | refine z_nload_n C dX0_isRelated_14 rfl ?_ | refine z_aload_n C dX0_isRelated_14 rfl ?_
      first | refine z_rload_n C dX0_isRelated_15 rfl ?_ | refine z_nload_n C dX0_isRelated_15 rfl ?_ | refine z_aload_n C dX0_isRelated_15 rfl ?_
      refine z_getf (T := TX0) (N := 8) C hG2 rfl 3 (by decide) kw_446 (Or.inl rfl) rfl dX0_isRelated_16 ?_
      first | refine z_rload_n C dX0_isRelated_19 rfl ?_ | refine z_nload_n C dX0_isRelated_19 rfl ?_ | refine z_aload_n C dX0_isRelated_19 rfl ?_
      refine z_getf (T := TX0) (N := 8) C hG2 rfl 4 (by decide) kw_450 (Or.inl rfl) rfl dX0_isRelated_20 ?_
      first | refine z_rload_n C dX0_isRelated_23 rfl ?_ | refine z_nload_n C dX0_isRelated_23 rfl ?_ | refine z_aload_n C dX0_isRelated_23 rfl ?_
      refine z_getf (T := TX0) (N := 8) C hG2 rfl 5 (by decide) kw_454 (Or.inl rfl) rfl dX0_isRelated_24 ?_
      refine z_callV (q := (RX0, TX0, 8)) C (c_distTo l Γ _ ex2 ey2 ez2 hG) kc_X0_isRelated_27 (by first | exact hG | exact hG2) rfl rfl rfl rfl ky_X0_distanceTo ⟨(Nat.le_of_ble_eq_true rfl), (Nat.le_of_ble_eq_true rfl)⟩ (Nat.le_of_ble_eq_true rfl) ⟨(Nat.le_of_ble_eq_true rfl), (Nat.le_of_ble_eq_true rfl)⟩ dX0_isRelated_27 (fun v27 G27 hp27 => ?_)
      obtain ⟨rfl, rfl⟩ := hp27
      refine z_iload_n C dX0_isRelated_30 rfl ?_
      refine z_icmp_gt (tgt := 54) C dX0_isRelated_31 (by decide) (fun h31 => ?_) (fun h31 => ?_)
      · refine z_iconst (v := 0) C dX0_isRelated_54 rfl ?_
        exact z_bret C F hr rfl (Nat.le_of_ble_eq_true rfl) (Nat.le_of_ble_eq_true rfl) ⟨by unfold s_rel; rw [if_neg h4, if_neg h11, if_pos h31], rfl⟩ dX0_isRelated_55
      · first | refine z_rload_n C dX0_isRelated_34 rfl ?_ | refine z_nload_n C dX0_isRelated_34 rfl ?_ | refine z_aload_n C dX0_isRelated_34 rfl ?_
        refine z_getf (T := TX0) (N := 8) C (by first | exact hG | exact hG2) rfl 6 (by decide) kw_458 (Or.inl rfl) rfl dX0_isRelated_35 ?_
        first | refine z_rload_n C dX0_isRelated_38 rfl ?_ | refine z_nload_n C dX0_isRelated_38 rfl ?_ | refine z_aload_n C dX0_isRelated_38 rfl ?_
        refine z_getf (T := TX0) (N := 8) C hG2 rfl 6 (by decide) kw_458 (Or.inl rfl) rfl dX0_isRelated_39 ?_
        refine z_isub C dX0_isRelated_42 ?_
        refine z_abs C km_X0_isRelated_43 (Nat.le_of_ble_eq_true rfl) (Nat.le_of_ble_eq_true rfl) (Nat.le_of_ble_eq_true rfl) (Nat.le_of_ble_eq_true rfl) dX0_isRelated_43 ?_
        refine z_iload_n C dX0_isRelated_46 rfl ?_
        refine z_icmp_gt (tgt := 54) C dX0_isRelated_47 (by decide) (fun h47 => ?_) (fun h47 => ?_)
        · refine z_iconst (v := 0) C dX0_isRelated_54 rfl ?_
          exact z_bret C F hr rfl (Nat.le_of_ble_eq_true rfl) (Nat.le_of_ble_eq_true rfl) ⟨by unfold s_rel; rw [if_neg h4, if_neg h11, if_neg h31, if_pos h47], rfl⟩ dX0_isRelated_55
        · refine z_iconst (v := 1) C dX0_isRelated_50 rfl ?_
          refine z_goto (tgt := 55) C dX0_isRelated_51 (by decide) ?_
          exact z_bret C F hr rfl (Nat.le_of_ble_eq_true rfl) (Nat.le_of_ble_eq_true rfl) ⟨by unfold s_rel; rw [if_neg h4, if_neg h11, if_neg h31, if_neg h47], rfl⟩ dX0_isRelated_55

