theorem dX6_requirePlace_0 : decode cX6_requirePlace 0 = .ok (.iload_n 0, 1) := by decide +kernel
theorem dX6_requirePlace_1 : decode cX6_requirePlace 1 = .ok (.iload_n 1, 1) := by decide +kernel
theorem dX6_requirePlace_2 : decode cX6_requirePlace 2 = .ok (.iload_n 2, 1) := by decide +kernel
theorem dX6_requirePlace_3 : decode cX6_requirePlace 3 = .ok (.invokestatic 51, 3) := by decide +kernel
theorem dX6_requirePlace_6 : decode cX6_requirePlace 6 = .ok (.ifCond .ne 14, 3) := by decide +kernel
theorem dX6_requirePlace_9 : decode cX6_requirePlace 9 = .ok (.new 55, 3) := by decide +kernel
theorem dX6_requirePlace_12 : decode cX6_requirePlace 12 = .ok (.dup, 1) := by decide +kernel
theorem dX6_requirePlace_13 : decode cX6_requirePlace 13 = .ok (.ldc_w 310, 3) := by decide +kernel
theorem dX6_requirePlace_16 : decode cX6_requirePlace 16 = .ok (.invokespecial 59, 3) := by decide +kernel
theorem dX6_requirePlace_19 : decode cX6_requirePlace 19 = .ok (.athrow, 1) := by decide +kernel
theorem dX6_requirePlace_20 : decode cX6_requirePlace 20 = .ok (.return_, 1) := by decide +kernel
theorem kc_X6_requirePlace_3 : ∀ w ∈ ([Cond.methodLink "QuakeBench" 51 yX6_isPlace, Cond.static yX6_isPlace, Cond.initialized "QuakeBench", Cond.code yX6_isPlace prog_1_method_27_code 3 (Option.some Jvm.ClassFile.FieldType.boolean)] : List Cond), w ∈ lw_all := zin [828, 739, 54, 740] (by decide +kernel)
theorem zt_X6_requirePlace_9 : zThrow "QuakeBench" "java/lang/IllegalArgumentException" "no place" ["java/lang/RuntimeException", "java/lang/Exception"] 55 310 59 := ⟨by decide +kernel, by decide +kernel, by decide +kernel, by decide +kernel, by decide +kernel, by decide +kernel⟩
theorem dX6_requireLimits_0 : decode cX6_requireLimits 0 = .ok (.iload_n 0, 1) := by decide +kernel
theorem dX6_requireLimits_1 : decode cX6_requireLimits 1 = .ok (.ifCond .lt 10, 3) := by decide +kernel
theorem dX6_requireLimits_4 : decode cX6_requireLimits 4 = .ok (.iload_n 0, 1) := by decide +kernel
theorem dX6_requireLimits_5 : decode cX6_requireLimits 5 = .ok (.sipush 500, 3) := by decide +kernel
theorem dX6_requireLimits_8 : decode cX6_requireLimits 8 = .ok (.if_icmp .le 14, 3) := by decide +kernel
theorem dX6_requireLimits_11 : decode cX6_requireLimits 11 = .ok (.new 55, 3) := by decide +kernel
theorem dX6_requireLimits_14 : decode cX6_requireLimits 14 = .ok (.dup, 1) := by decide +kernel
theorem dX6_requireLimits_15 : decode cX6_requireLimits 15 = .ok (.ldc_w 314, 3) := by decide +kernel
theorem dX6_requireLimits_18 : decode cX6_requireLimits 18 = .ok (.invokespecial 59, 3) := by decide +kernel
theorem dX6_requireLimits_21 : decode cX6_requireLimits 21 = .ok (.athrow, 1) := by decide +kernel
theorem dX6_requireLimits_22 : decode cX6_requireLimits 22 = .ok (.iload_n 1, 1) := by decide +kernel
theorem dX6_requireLimits_23 : decode cX6_requireLimits 23 = .ok (.ifCond .lt 9, 3) := by decide +kernel
theorem dX6_requireLimits_26 : decode cX6_requireLimits 26 = .ok (.iload_n 1, 1) := by decide +kernel
theorem dX6_requireLimits_27 : decode cX6_requireLimits 27 = .ok (.ldc 125, 2) := by decide +kernel
theorem dX6_requireLimits_29 : decode cX6_requireLimits 29 = .ok (.if_icmp .le 14, 3) := by decide +kernel
theorem dX6_requireLimits_32 : decode cX6_requireLimits 32 = .ok (.new 55, 3) := by decide +kernel
theorem dX6_requireLimits_35 : decode cX6_requireLimits 35 = .ok (.dup, 1) := by decide +kernel
theorem dX6_requireLimits_36 : decode cX6_requireLimits 36 = .ok (.ldc_w 316, 3) := by decide +kernel
theorem dX6_requireLimits_39 : decode cX6_requireLimits 39 = .ok (.invokespecial 59, 3) := by decide +kernel
theorem dX6_requireLimits_42 : decode cX6_requireLimits 42 = .ok (.athrow, 1) := by decide +kernel
theorem dX6_requireLimits_43 : decode cX6_requireLimits 43 = .ok (.return_, 1) := by decide +kernel
theorem zt_X6_requireLimits_11 : zThrow "QuakeBench" "java/lang/IllegalArgumentException" "near is outside" ["java/lang/RuntimeException", "java/lang/Exception"] 55 314 59 := ⟨by decide +kernel, by decide +kernel, by decide +kernel, by decide +kernel, by decide +kernel, by decide +kernel⟩
theorem zt_X6_requireLimits_32 : zThrow "QuakeBench" "java/lang/IllegalArgumentException" "soon is outside" ["java/lang/RuntimeException", "java/lang/Exception"] 55 316 59 := ⟨by decide +kernel, by decide +kernel, by decide +kernel, by decide +kernel, by decide +kernel, by decide +kernel⟩
theorem kw_926 : Cond.constant "QuakeBench" 125 10000000 ∈ lw_all := zin1 926 (by decide +kernel)
theorem dX6_countFound_0 : decode cX6_countFound 0 = .ok (.iconst 0, 1) := by decide +kernel
theorem dX6_countFound_1 : decode cX6_countFound 1 = .ok (.istore_n 1, 1) := by decide +kernel
theorem dX6_countFound_2 : decode cX6_countFound 2 = .ok (.iconst 0, 1) := by decide +kernel
theorem dX6_countFound_3 : decode cX6_countFound 3 = .ok (.istore_n 2, 1) := by decide +kernel
theorem dX6_countFound_4 : decode cX6_countFound 4 = .ok (.iload_n 2, 1) := by decide +kernel
theorem dX6_countFound_5 : decode cX6_countFound 5 = .ok (.aload_n 0, 1) := by decide +kernel
theorem dX6_countFound_6 : decode cX6_countFound 6 = .ok (.getfield 19, 3) := by decide +kernel
theorem dX6_countFound_9 : decode cX6_countFound 9 = .ok (.invokevirtual 62, 3) := by decide +kernel
theorem dX6_countFound_12 : decode cX6_countFound 12 = .ok (.if_icmp .ge 29, 3) := by decide +kernel
theorem dX6_countFound_15 : decode cX6_countFound 15 = .ok (.aload_n 0, 1) := by decide +kernel
theorem dX6_countFound_16 : decode cX6_countFound 16 = .ok (.getfield 19, 3) := by decide +kernel
theorem dX6_countFound_19 : decode cX6_countFound 19 = .ok (.iload_n 2, 1) := by decide +kernel
theorem dX6_countFound_20 : decode cX6_countFound 20 = .ok (.invokevirtual 90, 3) := by decide +kernel
theorem dX6_countFound_23 : decode cX6_countFound 23 = .ok (.checkcast 94, 3) := by decide +kernel
theorem dX6_countFound_26 : decode cX6_countFound 26 = .ok (.getfield 100, 3) := by decide +kernel
theorem dX6_countFound_29 : decode cX6_countFound 29 = .ok (.ifCond .eq 6, 3) := by decide +kernel
theorem dX6_countFound_32 : decode cX6_countFound 32 = .ok (.iinc 1 1, 3) := by decide +kernel
theorem dX6_countFound_35 : decode cX6_countFound 35 = .ok (.iinc 2 1, 3) := by decide +kernel
theorem dX6_countFound_38 : decode cX6_countFound 38 = .ok (.goto (-34), 3) := by decide +kernel
theorem dX6_countFound_41 : decode cX6_countFound 41 = .ok (.iload_n 1, 1) := by decide +kernel
theorem dX6_countFound_42 : decode cX6_countFound 42 = .ok (.ireturn, 1) := by decide +kernel
theorem kc_X6_countFound_9 : ∀ w ∈ ([Cond.methodLink "QuakeBench" 62 yJx4a65c_size_8abf5, Cond.instanceMethod yJx4a65c_size_8abf5, Cond.selects "java/util/ArrayList" yJx4a65c_size_8abf5 yJx4a65c_size_8abf5, Cond.initialized "java/util/ArrayList", Cond.code yJx4a65c_size_8abf5 prog_35_method_8_code 1 (Option.some Jvm.ClassFile.FieldType.int)] : List Cond), w ∈ lw_all := zin [222, 223, 224, 57, 225] (by decide +kernel)
theorem dX6_countLoose_0 : decode cX6_countLoose 0 = .ok (.iconst 0, 1) := by decide +kernel
theorem dX6_countLoose_1 : decode cX6_countLoose 1 = .ok (.istore_n 1, 1) := by decide +kernel
theorem dX6_countLoose_2 : decode cX6_countLoose 2 = .ok (.iconst 0, 1) := by decide +kernel
theorem dX6_countLoose_3 : decode cX6_countLoose 3 = .ok (.istore_n 2, 1) := by decide +kernel
theorem dX6_countLoose_4 : decode cX6_countLoose 4 = .ok (.iload_n 2, 1) := by decide +kernel
theorem dX6_countLoose_5 : decode cX6_countLoose 5 = .ok (.aload_n 0, 1) := by decide +kernel
theorem dX6_countLoose_6 : decode cX6_countLoose 6 = .ok (.getfield 16, 3) := by decide +kernel
theorem dX6_countLoose_9 : decode cX6_countLoose 9 = .ok (.invokevirtual 62, 3) := by decide +kernel
theorem dX6_countLoose_12 : decode cX6_countLoose 12 = .ok (.if_icmp .ge 29, 3) := by decide +kernel
theorem dX6_countLoose_15 : decode cX6_countLoose 15 = .ok (.aload_n 0, 1) := by decide +kernel
theorem dX6_countLoose_16 : decode cX6_countLoose 16 = .ok (.getfield 16, 3) := by decide +kernel
theorem dX6_countLoose_19 : decode cX6_countLoose 19 = .ok (.iload_n 2, 1) := by decide +kernel
theorem dX6_countLoose_20 : decode cX6_countLoose 20 = .ok (.invokevirtual 90, 3) := by decide +kernel
theorem dX6_countLoose_23 : decode cX6_countLoose 23 = .ok (.checkcast 130, 3) := by decide +kernel
theorem dX6_countLoose_26 : decode cX6_countLoose 26 = .ok (.getfield 144, 3) := by decide +kernel
theorem dX6_countLoose_29 : decode cX6_countLoose 29 = .ok (.ifnonnull 6, 3) := by decide +kernel
theorem dX6_countLoose_32 : decode cX6_countLoose 32 = .ok (.iinc 1 1, 3) := by decide +kernel
theorem dX6_countLoose_35 : decode cX6_countLoose 35 = .ok (.iinc 2 1, 3) := by decide +kernel
theorem dX6_countLoose_38 : decode cX6_countLoose 38 = .ok (.goto (-34), 3) := by decide +kernel
theorem dX6_countLoose_41 : decode cX6_countLoose 41 = .ok (.iload_n 1, 1) := by decide +kernel
theorem dX6_countLoose_42 : decode cX6_countLoose 42 = .ok (.ireturn, 1) := by decide +kernel
theorem kc_X6_countLoose_9 : ∀ w ∈ ([Cond.methodLink "QuakeBench" 62 yJx4a65c_size_8abf5, Cond.instanceMethod yJx4a65c_size_8abf5, Cond.selects "java/util/ArrayList" yJx4a65c_size_8abf5 yJx4a65c_size_8abf5, Cond.initialized "java/util/ArrayList", Cond.code yJx4a65c_size_8abf5 prog_35_method_8_code 1 (Option.some Jvm.ClassFile.FieldType.int)] : List Cond), w ∈ lw_all := zin [222, 223, 224, 57, 225] (by decide +kernel)
theorem dX6_labelFamilies_0 : decode cX6_labelFamilies 0 = .ok (.iconst 0, 1) := by decide +kernel
theorem dX6_labelFamilies_1 : decode cX6_labelFamilies 1 = .ok (.istore_n 3, 1) := by decide +kernel
theorem dX6_labelFamilies_2 : decode cX6_labelFamilies 2 = .ok (.iload_n 3, 1) := by decide +kernel
theorem dX6_labelFamilies_3 : decode cX6_labelFamilies 3 = .ok (.aload_n 0, 1) := by decide +kernel
theorem dX6_labelFamilies_4 : decode cX6_labelFamilies 4 = .ok (.getfield 19, 3) := by decide +kernel
theorem dX6_labelFamilies_7 : decode cX6_labelFamilies 7 = .ok (.invokevirtual 62, 3) := by decide +kernel
theorem dX6_labelFamilies_10 : decode cX6_labelFamilies 10 = .ok (.if_icmp .ge 24, 3) := by decide +kernel
theorem dX6_labelFamilies_13 : decode cX6_labelFamilies 13 = .ok (.aload_n 0, 1) := by decide +kernel
theorem dX6_labelFamilies_14 : decode cX6_labelFamilies 14 = .ok (.getfield 19, 3) := by decide +kernel
theorem dX6_labelFamilies_17 : decode cX6_labelFamilies 17 = .ok (.iload_n 3, 1) := by decide +kernel
theorem dX6_labelFamilies_18 : decode cX6_labelFamilies 18 = .ok (.invokevirtual 90, 3) := by decide +kernel
theorem dX6_labelFamilies_21 : decode cX6_labelFamilies 21 = .ok (.checkcast 94, 3) := by decide +kernel
theorem dX6_labelFamilies_24 : decode cX6_labelFamilies 24 = .ok (.iload_n 3, 1) := by decide +kernel
theorem dX6_labelFamilies_25 : decode cX6_labelFamilies 25 = .ok (.putfield 288, 3) := by decide +kernel
theorem dX6_labelFamilies_28 : decode cX6_labelFamilies 28 = .ok (.iinc 3 1, 3) := by decide +kernel
theorem dX6_labelFamilies_31 : decode cX6_labelFamilies 31 = .ok (.goto (-29), 3) := by decide +kernel
theorem dX6_labelFamilies_34 : decode cX6_labelFamilies 34 = .ok (.iconst 0, 1) := by decide +kernel
theorem dX6_labelFamilies_35 : decode cX6_labelFamilies 35 = .ok (.istore_n 3, 1) := by decide +kernel
theorem dX6_labelFamilies_36 : decode cX6_labelFamilies 36 = .ok (.iload_n 3, 1) := by decide +kernel
theorem dX6_labelFamilies_37 : decode cX6_labelFamilies 37 = .ok (.aload_n 0, 1) := by decide +kernel
theorem dX6_labelFamilies_38 : decode cX6_labelFamilies 38 = .ok (.getfield 19, 3) := by decide +kernel
theorem dX6_labelFamilies_41 : decode cX6_labelFamilies 41 = .ok (.invokevirtual 62, 3) := by decide +kernel
theorem dX6_labelFamilies_44 : decode cX6_labelFamilies 44 = .ok (.if_icmp .ge 88, 3) := by decide +kernel
theorem dX6_labelFamilies_47 : decode cX6_labelFamilies 47 = .ok (.iconst 0, 1) := by decide +kernel
theorem dX6_labelFamilies_48 : decode cX6_labelFamilies 48 = .ok (.istore 4, 2) := by decide +kernel
theorem dX6_labelFamilies_50 : decode cX6_labelFamilies 50 = .ok (.iload 4, 2) := by decide +kernel
theorem dX6_labelFamilies_52 : decode cX6_labelFamilies 52 = .ok (.iload_n 3, 1) := by decide +kernel
theorem dX6_labelFamilies_53 : decode cX6_labelFamilies 53 = .ok (.if_icmp .ge 73, 3) := by decide +kernel
theorem dX6_labelFamilies_56 : decode cX6_labelFamilies 56 = .ok (.aload_n 0, 1) := by decide +kernel
theorem dX6_labelFamilies_57 : decode cX6_labelFamilies 57 = .ok (.getfield 19, 3) := by decide +kernel
theorem dX6_labelFamilies_60 : decode cX6_labelFamilies 60 = .ok (.iload_n 3, 1) := by decide +kernel
theorem dX6_labelFamilies_61 : decode cX6_labelFamilies 61 = .ok (.invokevirtual 90, 3) := by decide +kernel
theorem dX6_labelFamilies_64 : decode cX6_labelFamilies 64 = .ok (.checkcast 94, 3) := by decide +kernel
theorem dX6_labelFamilies_67 : decode cX6_labelFamilies 67 = .ok (.aload_n 0, 1) := by decide +kernel
theorem dX6_labelFamilies_68 : decode cX6_labelFamilies 68 = .ok (.getfield 19, 3) := by decide +kernel
theorem dX6_labelFamilies_71 : decode cX6_labelFamilies 71 = .ok (.iload 4, 2) := by decide +kernel
theorem dX6_labelFamilies_73 : decode cX6_labelFamilies 73 = .ok (.invokevirtual 90, 3) := by decide +kernel
theorem dX6_labelFamilies_76 : decode cX6_labelFamilies 76 = .ok (.checkcast 94, 3) := by decide +kernel
theorem dX6_labelFamilies_79 : decode cX6_labelFamilies 79 = .ok (.iload_n 1, 1) := by decide +kernel
theorem dX6_labelFamilies_80 : decode cX6_labelFamilies 80 = .ok (.iload_n 2, 1) := by decide +kernel
theorem dX6_labelFamilies_81 : decode cX6_labelFamilies 81 = .ok (.invokevirtual 355, 3) := by decide +kernel
theorem dX6_labelFamilies_84 : decode cX6_labelFamilies 84 = .ok (.ifCond .eq 36, 3) := by decide +kernel
theorem dX6_labelFamilies_87 : decode cX6_labelFamilies 87 = .ok (.aload_n 0, 1) := by decide +kernel
theorem dX6_labelFamilies_88 : decode cX6_labelFamilies 88 = .ok (.aload_n 0, 1) := by decide +kernel
theorem dX6_labelFamilies_89 : decode cX6_labelFamilies 89 = .ok (.getfield 19, 3) := by decide +kernel
theorem dX6_labelFamilies_92 : decode cX6_labelFamilies 92 = .ok (.iload_n 3, 1) := by decide +kernel
theorem dX6_labelFamilies_93 : decode cX6_labelFamilies 93 = .ok (.invokevirtual 90, 3) := by decide +kernel
theorem dX6_labelFamilies_96 : decode cX6_labelFamilies 96 = .ok (.checkcast 94, 3) := by decide +kernel
theorem dX6_labelFamilies_99 : decode cX6_labelFamilies 99 = .ok (.getfield 288, 3) := by decide +kernel
theorem dX6_labelFamilies_102 : decode cX6_labelFamilies 102 = .ok (.aload_n 0, 1) := by decide +kernel
theorem dX6_labelFamilies_103 : decode cX6_labelFamilies 103 = .ok (.getfield 19, 3) := by decide +kernel
theorem dX6_labelFamilies_106 : decode cX6_labelFamilies 106 = .ok (.iload 4, 2) := by decide +kernel
theorem dX6_labelFamilies_108 : decode cX6_labelFamilies 108 = .ok (.invokevirtual 90, 3) := by decide +kernel
theorem dX6_labelFamilies_111 : decode cX6_labelFamilies 111 = .ok (.checkcast 94, 3) := by decide +kernel
theorem dX6_labelFamilies_114 : decode cX6_labelFamilies 114 = .ok (.getfield 288, 3) := by decide +kernel
theorem dX6_labelFamilies_117 : decode cX6_labelFamilies 117 = .ok (.invokevirtual 359, 3) := by decide +kernel
theorem dX6_labelFamilies_120 : decode cX6_labelFamilies 120 = .ok (.iinc 4 1, 3) := by decide +kernel
theorem dX6_labelFamilies_123 : decode cX6_labelFamilies 123 = .ok (.goto (-73), 3) := by decide +kernel
theorem dX6_labelFamilies_126 : decode cX6_labelFamilies 126 = .ok (.iinc 3 1, 3) := by decide +kernel
theorem dX6_labelFamilies_129 : decode cX6_labelFamilies 129 = .ok (.goto (-93), 3) := by decide +kernel
theorem dX6_labelFamilies_132 : decode cX6_labelFamilies 132 = .ok (.return_, 1) := by decide +kernel
theorem kc_X6_labelFamilies_7 : ∀ w ∈ ([Cond.methodLink "QuakeBench" 62 yJx4a65c_size_8abf5, Cond.instanceMethod yJx4a65c_size_8abf5, Cond.selects "java/util/ArrayList" yJx4a65c_size_8abf5 yJx4a65c_size_8abf5, Cond.initialized "java/util/ArrayList", Cond.code yJx4a65c_size_8abf5 prog_35_method_8_code 1 (Option.some Jvm.ClassFile.FieldType.int)] : List Cond), w ∈ lw_all := zin [222, 223, 224, 57, 225] (by decide +kernel)
theorem kc_X6_labelFamilies_41 : ∀ w ∈ ([Cond.methodLink "QuakeBench" 62 yJx4a65c_size_8abf5, Cond.instanceMethod yJx4a65c_size_8abf5, Cond.selects "java/util/ArrayList" yJx4a65c_size_8abf5 yJx4a65c_size_8abf5, Cond.initialized "java/util/ArrayList", Cond.code yJx4a65c_size_8abf5 prog_35_method_8_code 1 (Option.some Jvm.ClassFile.FieldType.int)] : List Cond), w ∈ lw_all := zin [222, 223, 224, 57, 225] (by decide +kernel)
theorem dX6_families_0 : decode cX6_families 0 = .ok (.iload_n 1, 1) := by decide +kernel
theorem dX6_families_1 : decode cX6_families 1 = .ok (.iload_n 2, 1) := by decide +kernel
theorem dX6_families_2 : decode cX6_families 2 = .ok (.invokestatic 281, 3) := by decide +kernel
theorem dX6_families_5 : decode cX6_families 5 = .ok (.aload_n 0, 1) := by decide +kernel
theorem dX6_families_6 : decode cX6_families 6 = .ok (.iload_n 1, 1) := by decide +kernel
theorem dX6_families_7 : decode cX6_families 7 = .ok (.iload_n 2, 1) := by decide +kernel
theorem dX6_families_8 : decode cX6_families 8 = .ok (.invokevirtual 285, 3) := by decide +kernel
theorem dX6_families_11 : decode cX6_families 11 = .ok (.iconst 0, 1) := by decide +kernel
theorem dX6_families_12 : decode cX6_families 12 = .ok (.istore_n 3, 1) := by decide +kernel
theorem dX6_families_13 : decode cX6_families 13 = .ok (.iconst 0, 1) := by decide +kernel
theorem dX6_families_14 : decode cX6_families 14 = .ok (.istore 4, 2) := by decide +kernel
theorem dX6_families_16 : decode cX6_families 16 = .ok (.iload 4, 2) := by decide +kernel
theorem dX6_families_18 : decode cX6_families 18 = .ok (.aload_n 0, 1) := by decide +kernel
theorem dX6_families_19 : decode cX6_families 19 = .ok (.getfield 19, 3) := by decide +kernel
theorem dX6_families_22 : decode cX6_families 22 = .ok (.invokevirtual 62, 3) := by decide +kernel
theorem dX6_families_25 : decode cX6_families 25 = .ok (.if_icmp .ge 47, 3) := by decide +kernel
theorem dX6_families_28 : decode cX6_families 28 = .ok (.aload_n 0, 1) := by decide +kernel
theorem dX6_families_29 : decode cX6_families 29 = .ok (.getfield 19, 3) := by decide +kernel
theorem dX6_families_32 : decode cX6_families 32 = .ok (.iload 4, 2) := by decide +kernel
theorem dX6_families_34 : decode cX6_families 34 = .ok (.invokevirtual 90, 3) := by decide +kernel
theorem dX6_families_37 : decode cX6_families 37 = .ok (.checkcast 94, 3) := by decide +kernel
theorem dX6_families_40 : decode cX6_families 40 = .ok (.astore 5, 2) := by decide +kernel
theorem dX6_families_42 : decode cX6_families 42 = .ok (.aload 5, 2) := by decide +kernel
theorem dX6_families_44 : decode cX6_families 44 = .ok (.getfield 100, 3) := by decide +kernel
theorem dX6_families_47 : decode cX6_families 47 = .ok (.ifCond .eq 19, 3) := by decide +kernel
theorem dX6_families_50 : decode cX6_families 50 = .ok (.aload 5, 2) := by decide +kernel
theorem dX6_families_52 : decode cX6_families 52 = .ok (.getfield 288, 3) := by decide +kernel
theorem dX6_families_55 : decode cX6_families 55 = .ok (.aload 5, 2) := by decide +kernel
theorem dX6_families_57 : decode cX6_families 57 = .ok (.getfield 176, 3) := by decide +kernel
theorem dX6_families_60 : decode cX6_families 60 = .ok (.if_icmp .ne 6, 3) := by decide +kernel
theorem dX6_families_63 : decode cX6_families 63 = .ok (.iinc 3 1, 3) := by decide +kernel
theorem dX6_families_66 : decode cX6_families 66 = .ok (.iinc 4 1, 3) := by decide +kernel
theorem dX6_families_69 : decode cX6_families 69 = .ok (.goto (-53), 3) := by decide +kernel
theorem dX6_families_72 : decode cX6_families 72 = .ok (.iload_n 3, 1) := by decide +kernel
theorem dX6_families_73 : decode cX6_families 73 = .ok (.ireturn, 1) := by decide +kernel
theorem ky_X6_requireLimits : yX6_requireLimits.cls ≠ "java/lang/invoke/MethodHandle" ∧ yX6_requireLimits.cls ≠ "java/lang/invoke/VarHandle" ∧ (parseMethodDescriptor yX6_requireLimits.desc).map (fun d => d.parameters.length) = some 2 := by decide +kernel
theorem kc_X6_families_2 : ∀ w ∈ ([Cond.methodLink "QuakeBench" 281 yX6_requireLimits, Cond.static yX6_requireLimits, Cond.initialized "QuakeBench", Cond.code yX6_requireLimits prog_1_method_30_code 2 (Option.none : Option Jvm.ClassFile.FieldType)] : List Cond), w ∈ lw_all := zin [1123, 1124, 54, 1125] (by decide +kernel)
theorem ky_X6_labelFamilies : yX6_labelFamilies.cls ≠ "java/lang/invoke/MethodHandle" ∧ yX6_labelFamilies.cls ≠ "java/lang/invoke/VarHandle" ∧ (parseMethodDescriptor yX6_labelFamilies.desc).map (fun d => d.parameters.length) = some 2 := by decide +kernel
theorem kc_X6_families_8 : ∀ w ∈ ([Cond.methodLink "QuakeBench" 285 yX6_labelFamilies, Cond.instanceMethod yX6_labelFamilies, Cond.selects "QuakeBench" yX6_labelFamilies yX6_labelFamilies, Cond.initialized "QuakeBench", Cond.code yX6_labelFamilies prog_1_method_47_code 5 (Option.none : Option Jvm.ClassFile.FieldType)] : List Cond), w ∈ lw_all := zin [1128, 1130, 23, 54, 1131] (by decide +kernel)
theorem kc_X6_families_22 : ∀ w ∈ ([Cond.methodLink "QuakeBench" 62 yJx4a65c_size_8abf5, Cond.instanceMethod yJx4a65c_size_8abf5, Cond.selects "java/util/ArrayList" yJx4a65c_size_8abf5 yJx4a65c_size_8abf5, Cond.initialized "java/util/ArrayList", Cond.code yJx4a65c_size_8abf5 prog_35_method_8_code 1 (Option.some Jvm.ClassFile.FieldType.int)] : List Cond), w ∈ lw_all := zin [222, 223, 224, 57, 225] (by decide +kernel)
theorem dX6_nearest_0 : decode cX6_nearest 0 = .ok (.iload_n 1, 1) := by decide +kernel
theorem dX6_nearest_1 : decode cX6_nearest 1 = .ok (.iload_n 2, 1) := by decide +kernel
theorem dX6_nearest_2 : decode cX6_nearest 2 = .ok (.iload_n 3, 1) := by decide +kernel
theorem dX6_nearest_3 : decode cX6_nearest 3 = .ok (.invokestatic 114, 3) := by decide +kernel
theorem dX6_nearest_6 : decode cX6_nearest 6 = .ok (.iconst (-1), 1) := by decide +kernel
theorem dX6_nearest_7 : decode cX6_nearest 7 = .ok (.istore 4, 2) := by decide +kernel
theorem dX6_nearest_9 : decode cX6_nearest 9 = .ok (.iconst 0, 1) := by decide +kernel
theorem dX6_nearest_10 : decode cX6_nearest 10 = .ok (.istore 5, 2) := by decide +kernel
theorem dX6_nearest_12 : decode cX6_nearest 12 = .ok (.iconst 0, 1) := by decide +kernel
theorem dX6_nearest_13 : decode cX6_nearest 13 = .ok (.istore 6, 2) := by decide +kernel
theorem dX6_nearest_15 : decode cX6_nearest 15 = .ok (.iload 6, 2) := by decide +kernel
theorem dX6_nearest_17 : decode cX6_nearest 17 = .ok (.aload_n 0, 1) := by decide +kernel
theorem dX6_nearest_18 : decode cX6_nearest 18 = .ok (.getfield 19, 3) := by decide +kernel
theorem dX6_nearest_21 : decode cX6_nearest 21 = .ok (.invokevirtual 62, 3) := by decide +kernel
theorem dX6_nearest_24 : decode cX6_nearest 24 = .ok (.if_icmp .ge 65, 3) := by decide +kernel
theorem dX6_nearest_27 : decode cX6_nearest 27 = .ok (.aload_n 0, 1) := by decide +kernel
theorem dX6_nearest_28 : decode cX6_nearest 28 = .ok (.getfield 19, 3) := by decide +kernel
theorem dX6_nearest_31 : decode cX6_nearest 31 = .ok (.iload 6, 2) := by decide +kernel
theorem dX6_nearest_33 : decode cX6_nearest 33 = .ok (.invokevirtual 90, 3) := by decide +kernel
theorem dX6_nearest_36 : decode cX6_nearest 36 = .ok (.checkcast 94, 3) := by decide +kernel
theorem dX6_nearest_39 : decode cX6_nearest 39 = .ok (.astore 7, 2) := by decide +kernel
theorem dX6_nearest_41 : decode cX6_nearest 41 = .ok (.aload 7, 2) := by decide +kernel
theorem dX6_nearest_43 : decode cX6_nearest 43 = .ok (.getfield 100, 3) := by decide +kernel
theorem dX6_nearest_46 : decode cX6_nearest 46 = .ok (.ifCond .eq 37, 3) := by decide +kernel
theorem dX6_nearest_49 : decode cX6_nearest 49 = .ok (.aload 7, 2) := by decide +kernel
theorem dX6_nearest_51 : decode cX6_nearest 51 = .ok (.iload_n 1, 1) := by decide +kernel
theorem dX6_nearest_52 : decode cX6_nearest 52 = .ok (.iload_n 2, 1) := by decide +kernel
theorem dX6_nearest_53 : decode cX6_nearest 53 = .ok (.iload_n 3, 1) := by decide +kernel
theorem dX6_nearest_54 : decode cX6_nearest 54 = .ok (.invokevirtual 291, 3) := by decide +kernel
theorem dX6_nearest_57 : decode cX6_nearest 57 = .ok (.istore 8, 2) := by decide +kernel
theorem dX6_nearest_59 : decode cX6_nearest 59 = .ok (.iload 4, 2) := by decide +kernel
theorem dX6_nearest_61 : decode cX6_nearest 61 = .ok (.iconst (-1), 1) := by decide +kernel
theorem dX6_nearest_62 : decode cX6_nearest 62 = .ok (.if_icmp .eq 10, 3) := by decide +kernel
theorem dX6_nearest_65 : decode cX6_nearest 65 = .ok (.iload 8, 2) := by decide +kernel
theorem dX6_nearest_67 : decode cX6_nearest 67 = .ok (.iload 5, 2) := by decide +kernel
theorem dX6_nearest_69 : decode cX6_nearest 69 = .ok (.if_icmp .ge 14, 3) := by decide +kernel
theorem dX6_nearest_72 : decode cX6_nearest 72 = .ok (.aload 7, 2) := by decide +kernel
theorem dX6_nearest_74 : decode cX6_nearest 74 = .ok (.getfield 176, 3) := by decide +kernel
theorem dX6_nearest_77 : decode cX6_nearest 77 = .ok (.istore 4, 2) := by decide +kernel
theorem dX6_nearest_79 : decode cX6_nearest 79 = .ok (.iload 8, 2) := by decide +kernel
theorem dX6_nearest_81 : decode cX6_nearest 81 = .ok (.istore 5, 2) := by decide +kernel
theorem dX6_nearest_83 : decode cX6_nearest 83 = .ok (.iinc 6 1, 3) := by decide +kernel
theorem dX6_nearest_86 : decode cX6_nearest 86 = .ok (.goto (-71), 3) := by decide +kernel
theorem dX6_nearest_89 : decode cX6_nearest 89 = .ok (.iload 4, 2) := by decide +kernel
theorem dX6_nearest_91 : decode cX6_nearest 91 = .ok (.ireturn, 1) := by decide +kernel
theorem ky_X6_requirePlace : yX6_requirePlace.cls ≠ "java/lang/invoke/MethodHandle" ∧ yX6_requirePlace.cls ≠ "java/lang/invoke/VarHandle" ∧ (parseMethodDescriptor yX6_requirePlace.desc).map (fun d => d.parameters.length) = some 3 := by decide +kernel
theorem kc_X6_nearest_3 : ∀ w ∈ ([Cond.methodLink "QuakeBench" 114 yX6_requirePlace, Cond.static yX6_requirePlace, Cond.initialized "QuakeBench", Cond.code yX6_requirePlace prog_1_method_28_code 3 (Option.none : Option Jvm.ClassFile.FieldType)] : List Cond), w ∈ lw_all := zin [907, 908, 54, 909] (by decide +kernel)
theorem kc_X6_nearest_21 : ∀ w ∈ ([Cond.methodLink "QuakeBench" 62 yJx4a65c_size_8abf5, Cond.instanceMethod yJx4a65c_size_8abf5, Cond.selects "java/util/ArrayList" yJx4a65c_size_8abf5 yJx4a65c_size_8abf5, Cond.initialized "java/util/ArrayList", Cond.code yJx4a65c_size_8abf5 prog_35_method_8_code 1 (Option.some Jvm.ClassFile.FieldType.int)] : List Cond), w ∈ lw_all := zin [222, 223, 224, 57, 225] (by decide +kernel)
theorem dX6_count_0 : decode cX6_count 0 = .ok (.iload_n 1, 1) := by decide +kernel
theorem dX6_count_1 : decode cX6_count 1 = .ok (.tableswitch 69 0 4 #[35, 43, 51, 59, 64], 35) := by decide +kernel
theorem dX6_count_36 : decode cX6_count 36 = .ok (.aload_n 0, 1) := by decide +kernel
theorem dX6_count_37 : decode cX6_count 37 = .ok (.getfield 10, 3) := by decide +kernel
theorem dX6_count_40 : decode cX6_count 40 = .ok (.invokevirtual 62, 3) := by decide +kernel
theorem dX6_count_43 : decode cX6_count 43 = .ok (.ireturn, 1) := by decide +kernel
theorem dX6_count_44 : decode cX6_count 44 = .ok (.aload_n 0, 1) := by decide +kernel
theorem dX6_count_45 : decode cX6_count 45 = .ok (.getfield 16, 3) := by decide +kernel
theorem dX6_count_48 : decode cX6_count 48 = .ok (.invokevirtual 62, 3) := by decide +kernel
theorem dX6_count_51 : decode cX6_count 51 = .ok (.ireturn, 1) := by decide +kernel
theorem dX6_count_52 : decode cX6_count 52 = .ok (.aload_n 0, 1) := by decide +kernel
theorem dX6_count_53 : decode cX6_count 53 = .ok (.getfield 19, 3) := by decide +kernel
theorem dX6_count_56 : decode cX6_count 56 = .ok (.invokevirtual 62, 3) := by decide +kernel
theorem dX6_count_59 : decode cX6_count 59 = .ok (.ireturn, 1) := by decide +kernel
theorem dX6_count_60 : decode cX6_count 60 = .ok (.aload_n 0, 1) := by decide +kernel
theorem dX6_count_61 : decode cX6_count 61 = .ok (.invokevirtual 212, 3) := by decide +kernel
theorem dX6_count_64 : decode cX6_count 64 = .ok (.ireturn, 1) := by decide +kernel
theorem dX6_count_65 : decode cX6_count 65 = .ok (.aload_n 0, 1) := by decide +kernel
theorem dX6_count_66 : decode cX6_count 66 = .ok (.invokevirtual 215, 3) := by decide +kernel
theorem dX6_count_69 : decode cX6_count 69 = .ok (.ireturn, 1) := by decide +kernel
theorem dX6_count_70 : decode cX6_count 70 = .ok (.new 165, 3) := by decide +kernel
theorem dX6_count_73 : decode cX6_count 73 = .ok (.dup, 1) := by decide +kernel
theorem dX6_count_74 : decode cX6_count 74 = .ok (.ldc 167, 2) := by decide +kernel
theorem dX6_count_76 : decode cX6_count 76 = .ok (.invokespecial 169, 3) := by decide +kernel
theorem dX6_count_79 : decode cX6_count 79 = .ok (.athrow, 1) := by decide +kernel
theorem kc_X6_count_40 : ∀ w ∈ ([Cond.methodLink "QuakeBench" 62 yJx4a65c_size_8abf5, Cond.instanceMethod yJx4a65c_size_8abf5, Cond.selects "java/util/ArrayList" yJx4a65c_size_8abf5 yJx4a65c_size_8abf5, Cond.initialized "java/util/ArrayList", Cond.code yJx4a65c_size_8abf5 prog_35_method_8_code 1 (Option.some Jvm.ClassFile.FieldType.int)] : List Cond), w ∈ lw_all := zin [222, 223, 224, 57, 225] (by decide +kernel)
theorem kc_X6_count_48 : ∀ w ∈ ([Cond.methodLink "QuakeBench" 62 yJx4a65c_size_8abf5, Cond.instanceMethod yJx4a65c_size_8abf5, Cond.selects "java/util/ArrayList" yJx4a65c_size_8abf5 yJx4a65c_size_8abf5, Cond.initialized "java/util/ArrayList", Cond.code yJx4a65c_size_8abf5 prog_35_method_8_code 1 (Option.some Jvm.ClassFile.FieldType.int)] : List Cond), w ∈ lw_all := zin [222, 223, 224, 57, 225] (by decide +kernel)
theorem kc_X6_count_56 : ∀ w ∈ ([Cond.methodLink "QuakeBench" 62 yJx4a65c_size_8abf5, Cond.instanceMethod yJx4a65c_size_8abf5, Cond.selects "java/util/ArrayList" yJx4a65c_size_8abf5 yJx4a65c_size_8abf5, Cond.initialized "java/util/ArrayList", Cond.code yJx4a65c_size_8abf5 prog_35_method_8_code 1 (Option.some Jvm.ClassFile.FieldType.int)] : List Cond), w ∈ lw_all := zin [222, 223, 224, 57, 225] (by decide +kernel)
theorem ky_X6_countFound : yX6_countFound.cls ≠ "java/lang/invoke/MethodHandle" ∧ yX6_countFound.cls ≠ "java/lang/invoke/VarHandle" ∧ (parseMethodDescriptor yX6_countFound.desc).map (fun d => d.parameters.length) = some 0 := by decide +kernel
theorem kc_X6_count_61 : ∀ w ∈ ([Cond.methodLink "QuakeBench" 212 yX6_countFound, Cond.instanceMethod yX6_countFound, Cond.selects "QuakeBench" yX6_countFound yX6_countFound, Cond.initialized "QuakeBench", Cond.code yX6_countFound prog_1_method_35_code 3 (Option.some Jvm.ClassFile.FieldType.int)] : List Cond), w ∈ lw_all := zin [774, 776, 14, 54, 777] (by decide +kernel)
theorem ky_X6_countLoose : yX6_countLoose.cls ≠ "java/lang/invoke/MethodHandle" ∧ yX6_countLoose.cls ≠ "java/lang/invoke/VarHandle" ∧ (parseMethodDescriptor yX6_countLoose.desc).map (fun d => d.parameters.length) = some 0 := by decide +kernel
theorem kc_X6_count_66 : ∀ w ∈ ([Cond.methodLink "QuakeBench" 215 yX6_countLoose, Cond.instanceMethod yX6_countLoose, Cond.selects "QuakeBench" yX6_countLoose yX6_countLoose, Cond.initialized "QuakeBench", Cond.code yX6_countLoose prog_1_method_36_code 3 (Option.some Jvm.ClassFile.FieldType.int)] : List Cond), w ∈ lw_all := zin [778, 780, 15, 54, 781] (by decide +kernel)
theorem zt_X6_count_70 : zThrow "QuakeBench" "java/lang/IndexOutOfBoundsException" "what is not 0 to 4" ["java/lang/RuntimeException", "java/lang/Exception"] 165 167 169 := ⟨by decide +kernel, by decide +kernel, by decide +kernel, by decide +kernel, by decide +kernel, by decide +kernel⟩
theorem dX6_setSpeeds_0 : decode cX6_setSpeeds 0 = .ok (.iload_n 1, 1) := by decide +kernel
theorem dX6_setSpeeds_1 : decode cX6_setSpeeds 1 = .ok (.sipush 3000, 3) := by decide +kernel
theorem dX6_setSpeeds_4 : decode cX6_setSpeeds 4 = .ok (.if_icmp .lt 10, 3) := by decide +kernel
theorem dX6_setSpeeds_7 : decode cX6_setSpeeds 7 = .ok (.iload_n 1, 1) := by decide +kernel
theorem dX6_setSpeeds_8 : decode cX6_setSpeeds 8 = .ok (.sipush 9000, 3) := by decide +kernel
theorem dX6_setSpeeds_11 : decode cX6_setSpeeds 11 = .ok (.if_icmp .le 13, 3) := by decide +kernel
theorem dX6_setSpeeds_14 : decode cX6_setSpeeds 14 = .ok (.new 55, 3) := by decide +kernel
theorem dX6_setSpeeds_17 : decode cX6_setSpeeds 17 = .ok (.dup, 1) := by decide +kernel
theorem dX6_setSpeeds_18 : decode cX6_setSpeeds 18 = .ok (.ldc 104, 2) := by decide +kernel
theorem dX6_setSpeeds_20 : decode cX6_setSpeeds 20 = .ok (.invokespecial 59, 3) := by decide +kernel
theorem dX6_setSpeeds_23 : decode cX6_setSpeeds 23 = .ok (.athrow, 1) := by decide +kernel
theorem dX6_setSpeeds_24 : decode cX6_setSpeeds 24 = .ok (.iload_n 2, 1) := by decide +kernel
theorem dX6_setSpeeds_25 : decode cX6_setSpeeds 25 = .ok (.sipush 150, 3) := by decide +kernel
theorem dX6_setSpeeds_28 : decode cX6_setSpeeds 28 = .ok (.if_icmp .lt 10, 3) := by decide +kernel
theorem dX6_setSpeeds_31 : decode cX6_setSpeeds 31 = .ok (.iload_n 2, 1) := by decide +kernel
theorem dX6_setSpeeds_32 : decode cX6_setSpeeds 32 = .ok (.sipush 200, 3) := by decide +kernel
theorem dX6_setSpeeds_35 : decode cX6_setSpeeds 35 = .ok (.if_icmp .le 13, 3) := by decide +kernel
theorem dX6_setSpeeds_38 : decode cX6_setSpeeds 38 = .ok (.new 55, 3) := by decide +kernel
theorem dX6_setSpeeds_41 : decode cX6_setSpeeds 41 = .ok (.dup, 1) := by decide +kernel
theorem dX6_setSpeeds_42 : decode cX6_setSpeeds 42 = .ok (.ldc 106, 2) := by decide +kernel
theorem dX6_setSpeeds_44 : decode cX6_setSpeeds 44 = .ok (.invokespecial 59, 3) := by decide +kernel
theorem dX6_setSpeeds_47 : decode cX6_setSpeeds 47 = .ok (.athrow, 1) := by decide +kernel
theorem dX6_setSpeeds_48 : decode cX6_setSpeeds 48 = .ok (.aload_n 0, 1) := by decide +kernel
theorem dX6_setSpeeds_49 : decode cX6_setSpeeds 49 = .ok (.getfield 25, 3) := by decide +kernel
theorem dX6_setSpeeds_52 : decode cX6_setSpeeds 52 = .ok (.iload_n 1, 1) := by decide +kernel
theorem dX6_setSpeeds_53 : decode cX6_setSpeeds 53 = .ok (.putfield 108, 3) := by decide +kernel
theorem dX6_setSpeeds_56 : decode cX6_setSpeeds 56 = .ok (.aload_n 0, 1) := by decide +kernel
theorem dX6_setSpeeds_57 : decode cX6_setSpeeds 57 = .ok (.getfield 25, 3) := by decide +kernel
theorem dX6_setSpeeds_60 : decode cX6_setSpeeds 60 = .ok (.iload_n 1, 1) := by decide +kernel
theorem dX6_setSpeeds_61 : decode cX6_setSpeeds 61 = .ok (.bipush 100, 2) := by decide +kernel
theorem dX6_setSpeeds_63 : decode cX6_setSpeeds 63 = .ok (.imul, 1) := by decide +kernel
theorem dX6_setSpeeds_64 : decode cX6_setSpeeds 64 = .ok (.iload_n 2, 1) := by decide +kernel
theorem dX6_setSpeeds_65 : decode cX6_setSpeeds 65 = .ok (.idiv, 1) := by decide +kernel
theorem dX6_setSpeeds_66 : decode cX6_setSpeeds 66 = .ok (.putfield 111, 3) := by decide +kernel
theorem dX6_setSpeeds_69 : decode cX6_setSpeeds 69 = .ok (.iconst 0, 1) := by decide +kernel
theorem dX6_setSpeeds_70 : decode cX6_setSpeeds 70 = .ok (.istore_n 3, 1) := by decide +kernel
theorem dX6_setSpeeds_71 : decode cX6_setSpeeds 71 = .ok (.iload_n 3, 1) := by decide +kernel
theorem dX6_setSpeeds_72 : decode cX6_setSpeeds 72 = .ok (.aload_n 0, 1) := by decide +kernel
theorem dX6_setSpeeds_73 : decode cX6_setSpeeds 73 = .ok (.getfield 19, 3) := by decide +kernel
theorem dX6_setSpeeds_76 : decode cX6_setSpeeds 76 = .ok (.invokevirtual 62, 3) := by decide +kernel
theorem dX6_setSpeeds_79 : decode cX6_setSpeeds 79 = .ok (.if_icmp .ge 24, 3) := by decide +kernel
theorem dX6_setSpeeds_82 : decode cX6_setSpeeds 82 = .ok (.aload_n 0, 1) := by decide +kernel
theorem dX6_setSpeeds_83 : decode cX6_setSpeeds 83 = .ok (.getfield 19, 3) := by decide +kernel
theorem dX6_setSpeeds_86 : decode cX6_setSpeeds 86 = .ok (.iload_n 3, 1) := by decide +kernel
theorem dX6_setSpeeds_87 : decode cX6_setSpeeds 87 = .ok (.invokevirtual 90, 3) := by decide +kernel
theorem dX6_setSpeeds_90 : decode cX6_setSpeeds 90 = .ok (.checkcast 94, 3) := by decide +kernel
theorem dX6_setSpeeds_93 : decode cX6_setSpeeds 93 = .ok (.iconst 0, 1) := by decide +kernel
theorem dX6_setSpeeds_94 : decode cX6_setSpeeds 94 = .ok (.putfield 100, 3) := by decide +kernel
theorem dX6_setSpeeds_97 : decode cX6_setSpeeds 97 = .ok (.iinc 3 1, 3) := by decide +kernel
theorem dX6_setSpeeds_100 : decode cX6_setSpeeds 100 = .ok (.goto (-29), 3) := by decide +kernel
theorem dX6_setSpeeds_103 : decode cX6_setSpeeds 103 = .ok (.aload_n 0, 1) := by decide +kernel
theorem dX6_setSpeeds_104 : decode cX6_setSpeeds 104 = .ok (.getfield 25, 3) := by decide +kernel
theorem dX6_setSpeeds_107 : decode cX6_setSpeeds 107 = .ok (.getfield 111, 3) := by decide +kernel
theorem dX6_setSpeeds_110 : decode cX6_setSpeeds 110 = .ok (.ireturn, 1) := by decide +kernel
theorem zt_X6_setSpeeds_14 : zThrow "QuakeBench" "java/lang/IllegalArgumentException" "v is outside" ["java/lang/RuntimeException", "java/lang/Exception"] 55 104 59 := ⟨by decide +kernel, by decide +kernel, by decide +kernel, by decide +kernel, by decide +kernel, by decide +kernel⟩
theorem zt_X6_setSpeeds_38 : zThrow "QuakeBench" "java/lang/IllegalArgumentException" "r is outside" ["java/lang/RuntimeException", "java/lang/Exception"] 55 106 59 := ⟨by decide +kernel, by decide +kernel, by decide +kernel, by decide +kernel, by decide +kernel, by decide +kernel⟩
theorem kw_125 : Cond.fieldLink "QuakeBench" 108 "QuakeBench$Waves" "speedOfP" "I" ∈ lw_all := zin1 125 (by decide +kernel)
theorem kw_127 : Cond.fieldLink "QuakeBench" 111 "QuakeBench$Waves" "speedOfS" "I" ∈ lw_all := zin1 127 (by decide +kernel)
theorem kc_X6_setSpeeds_76 : ∀ w ∈ ([Cond.methodLink "QuakeBench" 62 yJx4a65c_size_8abf5, Cond.instanceMethod yJx4a65c_size_8abf5, Cond.selects "java/util/ArrayList" yJx4a65c_size_8abf5 yJx4a65c_size_8abf5, Cond.initialized "java/util/ArrayList", Cond.code yJx4a65c_size_8abf5 prog_35_method_8_code 1 (Option.some Jvm.ClassFile.FieldType.int)] : List Cond), w ∈ lw_all := zin [222, 223, 224, 57, 225] (by decide +kernel)
theorem dX6_orderLoosePicks_0 : decode cX6_orderLoosePicks 0 = .ok (.aload_n 0, 1) := by decide +kernel
theorem dX6_orderLoosePicks_1 : decode cX6_orderLoosePicks 1 = .ok (.getfield 45, 3) := by decide +kernel
theorem dX6_orderLoosePicks_4 : decode cX6_orderLoosePicks 4 = .ok (.invokevirtual 327, 3) := by decide +kernel
theorem dX6_orderLoosePicks_7 : decode cX6_orderLoosePicks 7 = .ok (.iconst 0, 1) := by decide +kernel
theorem dX6_orderLoosePicks_8 : decode cX6_orderLoosePicks 8 = .ok (.istore_n 1, 1) := by decide +kernel
theorem dX6_orderLoosePicks_9 : decode cX6_orderLoosePicks 9 = .ok (.iload_n 1, 1) := by decide +kernel
theorem dX6_orderLoosePicks_10 : decode cX6_orderLoosePicks 10 = .ok (.aload_n 0, 1) := by decide +kernel
theorem dX6_orderLoosePicks_11 : decode cX6_orderLoosePicks 11 = .ok (.getfield 16, 3) := by decide +kernel
theorem dX6_orderLoosePicks_14 : decode cX6_orderLoosePicks 14 = .ok (.invokevirtual 62, 3) := by decide +kernel
theorem dX6_orderLoosePicks_17 : decode cX6_orderLoosePicks 17 = .ok (.if_icmp .ge 78, 3) := by decide +kernel
theorem dX6_orderLoosePicks_20 : decode cX6_orderLoosePicks 20 = .ok (.aload_n 0, 1) := by decide +kernel
theorem dX6_orderLoosePicks_21 : decode cX6_orderLoosePicks 21 = .ok (.getfield 16, 3) := by decide +kernel
theorem dX6_orderLoosePicks_24 : decode cX6_orderLoosePicks 24 = .ok (.iload_n 1, 1) := by decide +kernel
theorem dX6_orderLoosePicks_25 : decode cX6_orderLoosePicks 25 = .ok (.invokevirtual 90, 3) := by decide +kernel
theorem dX6_orderLoosePicks_28 : decode cX6_orderLoosePicks 28 = .ok (.checkcast 130, 3) := by decide +kernel
theorem dX6_orderLoosePicks_31 : decode cX6_orderLoosePicks 31 = .ok (.astore_n 2, 1) := by decide +kernel
theorem dX6_orderLoosePicks_32 : decode cX6_orderLoosePicks 32 = .ok (.aload_n 2, 1) := by decide +kernel
theorem dX6_orderLoosePicks_33 : decode cX6_orderLoosePicks 33 = .ok (.getfield 144, 3) := by decide +kernel
theorem dX6_orderLoosePicks_36 : decode cX6_orderLoosePicks 36 = .ok (.ifnonnull 53, 3) := by decide +kernel
theorem dX6_orderLoosePicks_39 : decode cX6_orderLoosePicks 39 = .ok (.aload_n 0, 1) := by decide +kernel
theorem dX6_orderLoosePicks_40 : decode cX6_orderLoosePicks 40 = .ok (.getfield 45, 3) := by decide +kernel
theorem dX6_orderLoosePicks_43 : decode cX6_orderLoosePicks 43 = .ok (.invokevirtual 62, 3) := by decide +kernel
theorem dX6_orderLoosePicks_46 : decode cX6_orderLoosePicks 46 = .ok (.istore_n 3, 1) := by decide +kernel
theorem dX6_orderLoosePicks_47 : decode cX6_orderLoosePicks 47 = .ok (.iload_n 3, 1) := by decide +kernel
theorem dX6_orderLoosePicks_48 : decode cX6_orderLoosePicks 48 = .ok (.ifCond .le 32, 3) := by decide +kernel
theorem dX6_orderLoosePicks_51 : decode cX6_orderLoosePicks 51 = .ok (.aload_n 0, 1) := by decide +kernel
theorem dX6_orderLoosePicks_52 : decode cX6_orderLoosePicks 52 = .ok (.getfield 45, 3) := by decide +kernel
theorem dX6_orderLoosePicks_55 : decode cX6_orderLoosePicks 55 = .ok (.iload_n 3, 1) := by decide +kernel
theorem dX6_orderLoosePicks_56 : decode cX6_orderLoosePicks 56 = .ok (.iconst 1, 1) := by decide +kernel
theorem dX6_orderLoosePicks_57 : decode cX6_orderLoosePicks 57 = .ok (.isub, 1) := by decide +kernel
theorem dX6_orderLoosePicks_58 : decode cX6_orderLoosePicks 58 = .ok (.invokevirtual 90, 3) := by decide +kernel
theorem dX6_orderLoosePicks_61 : decode cX6_orderLoosePicks 61 = .ok (.checkcast 130, 3) := by decide +kernel
theorem dX6_orderLoosePicks_64 : decode cX6_orderLoosePicks 64 = .ok (.getfield 158, 3) := by decide +kernel
theorem dX6_orderLoosePicks_67 : decode cX6_orderLoosePicks 67 = .ok (.aload_n 2, 1) := by decide +kernel
theorem dX6_orderLoosePicks_68 : decode cX6_orderLoosePicks 68 = .ok (.getfield 158, 3) := by decide +kernel
theorem dX6_orderLoosePicks_71 : decode cX6_orderLoosePicks 71 = .ok (.if_icmp .le 9, 3) := by decide +kernel
theorem dX6_orderLoosePicks_74 : decode cX6_orderLoosePicks 74 = .ok (.iinc 3 (-1), 3) := by decide +kernel
theorem dX6_orderLoosePicks_77 : decode cX6_orderLoosePicks 77 = .ok (.goto (-30), 3) := by decide +kernel
theorem dX6_orderLoosePicks_80 : decode cX6_orderLoosePicks 80 = .ok (.aload_n 0, 1) := by decide +kernel
theorem dX6_orderLoosePicks_81 : decode cX6_orderLoosePicks 81 = .ok (.getfield 45, 3) := by decide +kernel
theorem dX6_orderLoosePicks_84 : decode cX6_orderLoosePicks 84 = .ok (.iload_n 3, 1) := by decide +kernel
theorem dX6_orderLoosePicks_85 : decode cX6_orderLoosePicks 85 = .ok (.aload_n 2, 1) := by decide +kernel
theorem dX6_orderLoosePicks_86 : decode cX6_orderLoosePicks 86 = .ok (.invokevirtual 330, 3) := by decide +kernel
theorem dX6_orderLoosePicks_89 : decode cX6_orderLoosePicks 89 = .ok (.iinc 1 1, 3) := by decide +kernel
theorem dX6_orderLoosePicks_92 : decode cX6_orderLoosePicks 92 = .ok (.goto (-83), 3) := by decide +kernel
theorem dX6_orderLoosePicks_95 : decode cX6_orderLoosePicks 95 = .ok (.return_, 1) := by decide +kernel
theorem ky_Jx4a65c_clear_da8c8 : yJx4a65c_clear_da8c8.cls ≠ "java/lang/invoke/MethodHandle" ∧ yJx4a65c_clear_da8c8.cls ≠ "java/lang/invoke/VarHandle" ∧ (parseMethodDescriptor yJx4a65c_clear_da8c8.desc).map (fun d => d.parameters.length) = some 0 := by decide +kernel
theorem kc_X6_orderLoosePicks_4 : ∀ w ∈ ([Cond.methodLink "QuakeBench" 327 yJx4a65c_clear_da8c8, Cond.instanceMethod yJx4a65c_clear_da8c8, Cond.selects "java/util/ArrayList" yJx4a65c_clear_da8c8 yJx4a65c_clear_da8c8, Cond.initialized "java/util/ArrayList", Cond.code yJx4a65c_clear_da8c8 prog_35_method_40_code 4 (Option.none : Option Jvm.ClassFile.FieldType)] : List Cond), w ∈ lw_all := zin [218, 219, 220, 57, 221] (by decide +kernel)
theorem kc_X6_orderLoosePicks_14 : ∀ w ∈ ([Cond.methodLink "QuakeBench" 62 yJx4a65c_size_8abf5, Cond.instanceMethod yJx4a65c_size_8abf5, Cond.selects "java/util/ArrayList" yJx4a65c_size_8abf5 yJx4a65c_size_8abf5, Cond.initialized "java/util/ArrayList", Cond.code yJx4a65c_size_8abf5 prog_35_method_8_code 1 (Option.some Jvm.ClassFile.FieldType.int)] : List Cond), w ∈ lw_all := zin [222, 223, 224, 57, 225] (by decide +kernel)
theorem dX6_associate_0 : decode cX6_associate 0 = .ok (.aload_n 0, 1) := by decide +kernel
theorem dX6_associate_1 : decode cX6_associate 1 = .ok (.invokevirtual 194, 3) := by decide +kernel
theorem dX6_associate_4 : decode cX6_associate 4 = .ok (.iconst 0, 1) := by decide +kernel
theorem dX6_associate_5 : decode cX6_associate 5 = .ok (.istore_n 1, 1) := by decide +kernel
theorem dX6_associate_6 : decode cX6_associate 6 = .ok (.iconst 0, 1) := by decide +kernel
theorem dX6_associate_7 : decode cX6_associate 7 = .ok (.istore_n 2, 1) := by decide +kernel
theorem dX6_associate_8 : decode cX6_associate 8 = .ok (.iload_n 2, 1) := by decide +kernel
theorem dX6_associate_9 : decode cX6_associate 9 = .ok (.aload_n 0, 1) := by decide +kernel
theorem dX6_associate_10 : decode cX6_associate 10 = .ok (.getfield 45, 3) := by decide +kernel
theorem dX6_associate_13 : decode cX6_associate 13 = .ok (.invokevirtual 62, 3) := by decide +kernel
theorem dX6_associate_16 : decode cX6_associate 16 = .ok (.if_icmp .ge 118, 3) := by decide +kernel
theorem dX6_associate_19 : decode cX6_associate 19 = .ok (.aload_n 0, 1) := by decide +kernel
theorem dX6_associate_20 : decode cX6_associate 20 = .ok (.getfield 45, 3) := by decide +kernel
theorem dX6_associate_23 : decode cX6_associate 23 = .ok (.iload_n 2, 1) := by decide +kernel
theorem dX6_associate_24 : decode cX6_associate 24 = .ok (.invokevirtual 90, 3) := by decide +kernel
theorem dX6_associate_27 : decode cX6_associate 27 = .ok (.checkcast 130, 3) := by decide +kernel
theorem dX6_associate_30 : decode cX6_associate 30 = .ok (.astore_n 3, 1) := by decide +kernel
theorem dX6_associate_31 : decode cX6_associate 31 = .ok (.aload_n 3, 1) := by decide +kernel
theorem dX6_associate_32 : decode cX6_associate 32 = .ok (.getfield 144, 3) := by decide +kernel
theorem dX6_associate_35 : decode cX6_associate 35 = .ok (.ifnull 6, 3) := by decide +kernel
theorem dX6_associate_38 : decode cX6_associate 38 = .ok (.goto 90, 3) := by decide +kernel
theorem dX6_associate_41 : decode cX6_associate 41 = .ok (.aload_n 0, 1) := by decide +kernel
theorem dX6_associate_42 : decode cX6_associate 42 = .ok (.aload_n 3, 1) := by decide +kernel
theorem dX6_associate_43 : decode cX6_associate 43 = .ok (.invokevirtual 197, 3) := by decide +kernel
theorem dX6_associate_46 : decode cX6_associate 46 = .ok (.astore 4, 2) := by decide +kernel
theorem dX6_associate_48 : decode cX6_associate 48 = .ok (.aload 4, 2) := by decide +kernel
theorem dX6_associate_50 : decode cX6_associate 50 = .ok (.ifnull 15, 3) := by decide +kernel
theorem dX6_associate_53 : decode cX6_associate 53 = .ok (.aload 4, 2) := by decide +kernel
theorem dX6_associate_55 : decode cX6_associate 55 = .ok (.aload_n 3, 1) := by decide +kernel
theorem dX6_associate_56 : decode cX6_associate 56 = .ok (.invokevirtual 191, 3) := by decide +kernel
theorem dX6_associate_59 : decode cX6_associate 59 = .ok (.iinc 1 1, 3) := by decide +kernel
theorem dX6_associate_62 : decode cX6_associate 62 = .ok (.goto 66, 3) := by decide +kernel
theorem dX6_associate_65 : decode cX6_associate 65 = .ok (.aload_n 3, 1) := by decide +kernel
theorem dX6_associate_66 : decode cX6_associate 66 = .ok (.getfield 155, 3) := by decide +kernel
theorem dX6_associate_69 : decode cX6_associate 69 = .ok (.ifCond .ne 59, 3) := by decide +kernel
theorem dX6_associate_72 : decode cX6_associate 72 = .ok (.aload_n 0, 1) := by decide +kernel
theorem dX6_associate_73 : decode cX6_associate 73 = .ok (.aload_n 3, 1) := by decide +kernel
theorem dX6_associate_74 : decode cX6_associate 74 = .ok (.iload_n 2, 1) := by decide +kernel
theorem dX6_associate_75 : decode cX6_associate 75 = .ok (.iconst 1, 1) := by decide +kernel
theorem dX6_associate_76 : decode cX6_associate 76 = .ok (.iadd, 1) := by decide +kernel
theorem dX6_associate_77 : decode cX6_associate 77 = .ok (.invokevirtual 201, 3) := by decide +kernel
theorem dX6_associate_80 : decode cX6_associate 80 = .ok (.aload_n 0, 1) := by decide +kernel
theorem dX6_associate_81 : decode cX6_associate 81 = .ok (.getfield 48, 3) := by decide +kernel
theorem dX6_associate_84 : decode cX6_associate 84 = .ok (.invokevirtual 62, 3) := by decide +kernel
theorem dX6_associate_87 : decode cX6_associate 87 = .ok (.iconst 3, 1) := by decide +kernel
theorem dX6_associate_88 : decode cX6_associate 88 = .ok (.if_icmp .lt 40, 3) := by decide +kernel
theorem dX6_associate_91 : decode cX6_associate 91 = .ok (.aload_n 0, 1) := by decide +kernel
theorem dX6_associate_92 : decode cX6_associate 92 = .ok (.getfield 19, 3) := by decide +kernel
theorem dX6_associate_95 : decode cX6_associate 95 = .ok (.invokevirtual 62, 3) := by decide +kernel
theorem dX6_associate_98 : decode cX6_associate 98 = .ok (.bipush 12, 2) := by decide +kernel
theorem dX6_associate_100 : decode cX6_associate 100 = .ok (.if_icmp .ge 28, 3) := by decide +kernel
theorem dX6_associate_103 : decode cX6_associate 103 = .ok (.aload_n 0, 1) := by decide +kernel
theorem dX6_associate_104 : decode cX6_associate 104 = .ok (.getfield 41, 3) := by decide +kernel
theorem dX6_associate_107 : decode cX6_associate 107 = .ok (.aload_n 0, 1) := by decide +kernel
theorem dX6_associate_108 : decode cX6_associate 108 = .ok (.aload_n 3, 1) := by decide +kernel
theorem dX6_associate_109 : decode cX6_associate 109 = .ok (.invokevirtual 205, 3) := by decide +kernel
theorem dX6_associate_112 : decode cX6_associate 112 = .ok (.invokevirtual 208, 3) := by decide +kernel
theorem dX6_associate_115 : decode cX6_associate 115 = .ok (.pop2, 1) := by decide +kernel
theorem dX6_associate_116 : decode cX6_associate 116 = .ok (.iload_n 1, 1) := by decide +kernel
theorem dX6_associate_117 : decode cX6_associate 117 = .ok (.iconst 1, 1) := by decide +kernel
theorem dX6_associate_118 : decode cX6_associate 118 = .ok (.aload_n 0, 1) := by decide +kernel
theorem dX6_associate_119 : decode cX6_associate 119 = .ok (.getfield 48, 3) := by decide +kernel
theorem dX6_associate_122 : decode cX6_associate 122 = .ok (.invokevirtual 62, 3) := by decide +kernel
theorem dX6_associate_125 : decode cX6_associate 125 = .ok (.iadd, 1) := by decide +kernel
theorem dX6_associate_126 : decode cX6_associate 126 = .ok (.iadd, 1) := by decide +kernel
theorem dX6_associate_127 : decode cX6_associate 127 = .ok (.istore_n 1, 1) := by decide +kernel
theorem dX6_associate_128 : decode cX6_associate 128 = .ok (.iinc 2 1, 3) := by decide +kernel
theorem dX6_associate_131 : decode cX6_associate 131 = .ok (.goto (-123), 3) := by decide +kernel
theorem dX6_associate_134 : decode cX6_associate 134 = .ok (.iload_n 1, 1) := by decide +kernel
theorem dX6_associate_135 : decode cX6_associate 135 = .ok (.ireturn, 1) := by decide +kernel
theorem ky_X6_orderLoosePicks : yX6_orderLoosePicks.cls ≠ "java/lang/invoke/MethodHandle" ∧ yX6_orderLoosePicks.cls ≠ "java/lang/invoke/VarHandle" ∧ (parseMethodDescriptor yX6_orderLoosePicks.desc).map (fun d => d.parameters.length) = some 0 := by decide +kernel
theorem kc_X6_associate_1 : ∀ w ∈ ([Cond.methodLink "QuakeBench" 194 yX6_orderLoosePicks, Cond.instanceMethod yX6_orderLoosePicks, Cond.selects "QuakeBench" yX6_orderLoosePicks yX6_orderLoosePicks, Cond.initialized "QuakeBench", Cond.code yX6_orderLoosePicks prog_1_method_38_code 4 (Option.none : Option Jvm.ClassFile.FieldType)] : List Cond), w ∈ lw_all := zin [214, 216, 0, 54, 217] (by decide +kernel)
theorem kc_X6_associate_13 : ∀ w ∈ ([Cond.methodLink "QuakeBench" 62 yJx4a65c_size_8abf5, Cond.instanceMethod yJx4a65c_size_8abf5, Cond.selects "java/util/ArrayList" yJx4a65c_size_8abf5 yJx4a65c_size_8abf5, Cond.initialized "java/util/ArrayList", Cond.code yJx4a65c_size_8abf5 prog_35_method_8_code 1 (Option.some Jvm.ClassFile.FieldType.int)] : List Cond), w ∈ lw_all := zin [222, 223, 224, 57, 225] (by decide +kernel)
theorem dX6_addStation_0 : decode cX6_addStation 0 = .ok (.iload_n 1, 1) := by decide +kernel
theorem dX6_addStation_1 : decode cX6_addStation 1 = .ok (.iload_n 2, 1) := by decide +kernel
theorem dX6_addStation_2 : decode cX6_addStation 2 = .ok (.iconst 0, 1) := by decide +kernel
theorem dX6_addStation_3 : decode cX6_addStation 3 = .ok (.invokestatic 51, 3) := by decide +kernel
theorem dX6_addStation_6 : decode cX6_addStation 6 = .ok (.ifCond .ne 13, 3) := by decide +kernel
theorem dX6_addStation_9 : decode cX6_addStation 9 = .ok (.new 55, 3) := by decide +kernel
theorem dX6_addStation_12 : decode cX6_addStation 12 = .ok (.dup, 1) := by decide +kernel
theorem dX6_addStation_13 : decode cX6_addStation 13 = .ok (.ldc 57, 2) := by decide +kernel
theorem dX6_addStation_15 : decode cX6_addStation 15 = .ok (.invokespecial 59, 3) := by decide +kernel
theorem dX6_addStation_18 : decode cX6_addStation 18 = .ok (.athrow, 1) := by decide +kernel
theorem dX6_addStation_19 : decode cX6_addStation 19 = .ok (.aload_n 0, 1) := by decide +kernel
theorem dX6_addStation_20 : decode cX6_addStation 20 = .ok (.getfield 10, 3) := by decide +kernel
theorem dX6_addStation_23 : decode cX6_addStation 23 = .ok (.invokevirtual 62, 3) := by decide +kernel
theorem dX6_addStation_26 : decode cX6_addStation 26 = .ok (.bipush 10, 2) := by decide +kernel
theorem dX6_addStation_28 : decode cX6_addStation 28 = .ok (.if_icmp .lt 13, 3) := by decide +kernel
theorem dX6_addStation_31 : decode cX6_addStation 31 = .ok (.new 66, 3) := by decide +kernel
theorem dX6_addStation_34 : decode cX6_addStation 34 = .ok (.dup, 1) := by decide +kernel
theorem dX6_addStation_35 : decode cX6_addStation 35 = .ok (.ldc 68, 2) := by decide +kernel
theorem dX6_addStation_37 : decode cX6_addStation 37 = .ok (.invokespecial 70, 3) := by decide +kernel
theorem dX6_addStation_40 : decode cX6_addStation 40 = .ok (.athrow, 1) := by decide +kernel
theorem dX6_addStation_41 : decode cX6_addStation 41 = .ok (.aload_n 0, 1) := by decide +kernel
theorem dX6_addStation_42 : decode cX6_addStation 42 = .ok (.getfield 10, 3) := by decide +kernel
theorem dX6_addStation_45 : decode cX6_addStation 45 = .ok (.invokevirtual 62, 3) := by decide +kernel
theorem dX6_addStation_48 : decode cX6_addStation 48 = .ok (.istore_n 3, 1) := by decide +kernel
theorem dX6_addStation_49 : decode cX6_addStation 49 = .ok (.aload_n 0, 1) := by decide +kernel
theorem dX6_addStation_50 : decode cX6_addStation 50 = .ok (.getfield 10, 3) := by decide +kernel
theorem dX6_addStation_53 : decode cX6_addStation 53 = .ok (.new 71, 3) := by decide +kernel
theorem dX6_addStation_56 : decode cX6_addStation 56 = .ok (.dup, 1) := by decide +kernel
theorem dX6_addStation_57 : decode cX6_addStation 57 = .ok (.iload_n 3, 1) := by decide +kernel
theorem dX6_addStation_58 : decode cX6_addStation 58 = .ok (.iload_n 1, 1) := by decide +kernel
theorem dX6_addStation_59 : decode cX6_addStation 59 = .ok (.iload_n 2, 1) := by decide +kernel
theorem dX6_addStation_60 : decode cX6_addStation 60 = .ok (.invokespecial 73, 3) := by decide +kernel
theorem dX6_addStation_63 : decode cX6_addStation 63 = .ok (.invokevirtual 76, 3) := by decide +kernel
theorem dX6_addStation_66 : decode cX6_addStation 66 = .ok (.pop, 1) := by decide +kernel
theorem dX6_addStation_67 : decode cX6_addStation 67 = .ok (.iload_n 3, 1) := by decide +kernel
theorem dX6_addStation_68 : decode cX6_addStation 68 = .ok (.ireturn, 1) := by decide +kernel
theorem kc_X6_addStation_3 : ∀ w ∈ ([Cond.methodLink "QuakeBench" 51 yX6_isPlace, Cond.static yX6_isPlace, Cond.initialized "QuakeBench", Cond.code yX6_isPlace prog_1_method_27_code 3 (Option.some Jvm.ClassFile.FieldType.boolean)] : List Cond), w ∈ lw_all := zin [828, 739, 54, 740] (by decide +kernel)
theorem kc_X6_addStation_23 : ∀ w ∈ ([Cond.methodLink "QuakeBench" 62 yJx4a65c_size_8abf5, Cond.instanceMethod yJx4a65c_size_8abf5, Cond.selects "java/util/ArrayList" yJx4a65c_size_8abf5 yJx4a65c_size_8abf5, Cond.initialized "java/util/ArrayList", Cond.code yJx4a65c_size_8abf5 prog_35_method_8_code 1 (Option.some Jvm.ClassFile.FieldType.int)] : List Cond), w ∈ lw_all := zin [222, 223, 224, 57, 225] (by decide +kernel)
theorem kc_X6_addStation_45 : ∀ w ∈ ([Cond.methodLink "QuakeBench" 62 yJx4a65c_size_8abf5, Cond.instanceMethod yJx4a65c_size_8abf5, Cond.selects "java/util/ArrayList" yJx4a65c_size_8abf5 yJx4a65c_size_8abf5, Cond.initialized "java/util/ArrayList", Cond.code yJx4a65c_size_8abf5 prog_35_method_8_code 1 (Option.some Jvm.ClassFile.FieldType.int)] : List Cond), w ∈ lw_all := zin [222, 223, 224, 57, 225] (by decide +kernel)
theorem kn_X6_addStation_53 : ∀ w ∈ ([Cond.classLink "QuakeBench" 71 "QuakeBench$Station", Cond.instantiable "QuakeBench$Station" 4, Cond.initialized "QuakeBench$Station"] : List Cond), w ∈ lw_all := zin [782, 848, 67] (by decide +kernel)
theorem ky_X4_init : yX4_init.cls ≠ "java/lang/invoke/MethodHandle" ∧ yX4_init.cls ≠ "java/lang/invoke/VarHandle" ∧ (parseMethodDescriptor yX4_init.desc).map (fun d => d.parameters.length) = some 3 := by decide +kernel
theorem kc_X6_addStation_60 : ∀ w ∈ ([Cond.methodLink "QuakeBench" 73 yX4_init, Cond.instanceMethod yX4_init, Cond.initialized "QuakeBench$Station", Cond.code yX4_init prog_6_method_1_code 4 (Option.none : Option Jvm.ClassFile.FieldType)] : List Cond), w ∈ lw_all := zin [849, 850, 67, 851] (by decide +kernel)
theorem ky_Jx4a65c_add_9ea2d : yJx4a65c_add_9ea2d.cls ≠ "java/lang/invoke/MethodHandle" ∧ yJx4a65c_add_9ea2d.cls ≠ "java/lang/invoke/VarHandle" ∧ (parseMethodDescriptor yJx4a65c_add_9ea2d.desc).map (fun d => d.parameters.length) = some 1 := by decide +kernel
theorem kc_X6_addStation_63 : ∀ w ∈ ([Cond.methodLink "QuakeBench" 76 yJx4a65c_add_9ea2d, Cond.instanceMethod yJx4a65c_add_9ea2d, Cond.selects "java/util/ArrayList" yJx4a65c_add_9ea2d yJx4a65c_add_9ea2d, Cond.initialized "java/util/ArrayList", Cond.code yJx4a65c_add_9ea2d prog_35_method_25_code 2 (Option.some Jvm.ClassFile.FieldType.boolean)] : List Cond), w ∈ lw_all := zin [668, 652, 653, 57, 654] (by decide +kernel)
theorem zt_X6_addStation_9 : zThrow "QuakeBench" "java/lang/IllegalArgumentException" "x or y is outside" ["java/lang/RuntimeException", "java/lang/Exception"] 55 57 59 := ⟨by decide +kernel, by decide +kernel, by decide +kernel, by decide +kernel, by decide +kernel, by decide +kernel⟩
theorem dX6_openEvent_0 : decode cX6_openEvent 0 = .ok (.new 94, 3) := by decide +kernel
theorem dX6_openEvent_3 : decode cX6_openEvent 3 = .ok (.dup, 1) := by decide +kernel
theorem dX6_openEvent_4 : decode cX6_openEvent 4 = .ok (.aload_n 0, 1) := by decide +kernel
theorem dX6_openEvent_5 : decode cX6_openEvent 5 = .ok (.getfield 19, 3) := by decide +kernel
theorem dX6_openEvent_8 : decode cX6_openEvent 8 = .ok (.invokevirtual 62, 3) := by decide +kernel
theorem dX6_openEvent_11 : decode cX6_openEvent 11 = .ok (.invokespecial 324, 3) := by decide +kernel
theorem dX6_openEvent_14 : decode cX6_openEvent 14 = .ok (.astore_n 1, 1) := by decide +kernel
theorem dX6_openEvent_15 : decode cX6_openEvent 15 = .ok (.aload_n 0, 1) := by decide +kernel
theorem dX6_openEvent_16 : decode cX6_openEvent 16 = .ok (.getfield 19, 3) := by decide +kernel
theorem dX6_openEvent_19 : decode cX6_openEvent 19 = .ok (.aload_n 1, 1) := by decide +kernel
theorem dX6_openEvent_20 : decode cX6_openEvent 20 = .ok (.invokevirtual 76, 3) := by decide +kernel
theorem dX6_openEvent_23 : decode cX6_openEvent 23 = .ok (.pop, 1) := by decide +kernel
theorem dX6_openEvent_24 : decode cX6_openEvent 24 = .ok (.aload_n 1, 1) := by decide +kernel
theorem dX6_openEvent_25 : decode cX6_openEvent 25 = .ok (.areturn, 1) := by decide +kernel
theorem kn_X6_openEvent_0 : ∀ w ∈ ([Cond.classLink "QuakeBench" 94 "QuakeBench$Event", Cond.instantiable "QuakeBench$Event" 8, Cond.initialized "QuakeBench$Event"] : List Cond), w ∈ lw_all := zin [622, 677, 76] (by decide +kernel)
theorem kc_X6_openEvent_8 : ∀ w ∈ ([Cond.methodLink "QuakeBench" 62 yJx4a65c_size_8abf5, Cond.instanceMethod yJx4a65c_size_8abf5, Cond.selects "java/util/ArrayList" yJx4a65c_size_8abf5 yJx4a65c_size_8abf5, Cond.initialized "java/util/ArrayList", Cond.code yJx4a65c_size_8abf5 prog_35_method_8_code 1 (Option.some Jvm.ClassFile.FieldType.int)] : List Cond), w ∈ lw_all := zin [222, 223, 224, 57, 225] (by decide +kernel)
theorem ky_X0_init : yX0_init.cls ≠ "java/lang/invoke/MethodHandle" ∧ yX0_init.cls ≠ "java/lang/invoke/VarHandle" ∧ (parseMethodDescriptor yX0_init.desc).map (fun d => d.parameters.length) = some 1 := by decide +kernel
theorem kc_X6_openEvent_11 : ∀ w ∈ ([Cond.methodLink "QuakeBench" 324 yX0_init, Cond.instanceMethod yX0_init, Cond.initialized "QuakeBench$Event", Cond.code yX0_init prog_2_method_1_code 2 (Option.none : Option Jvm.ClassFile.FieldType)] : List Cond), w ∈ lw_all := zin [678, 679, 76, 680] (by decide +kernel)
theorem kc_X6_openEvent_20 : ∀ w ∈ ([Cond.methodLink "QuakeBench" 76 yJx4a65c_add_9ea2d, Cond.instanceMethod yJx4a65c_add_9ea2d, Cond.selects "java/util/ArrayList" yJx4a65c_add_9ea2d yJx4a65c_add_9ea2d, Cond.initialized "java/util/ArrayList", Cond.code yJx4a65c_add_9ea2d prog_35_method_25_code 2 (Option.some Jvm.ClassFile.FieldType.boolean)] : List Cond), w ∈ lw_all := zin [668, 652, 653, 57, 654] (by decide +kernel)
theorem dX6_addEvent_0 : decode cX6_addEvent 0 = .ok (.aload_n 0, 1) := by decide +kernel
theorem dX6_addEvent_1 : decode cX6_addEvent 1 = .ok (.getfield 19, 3) := by decide +kernel
theorem dX6_addEvent_4 : decode cX6_addEvent 4 = .ok (.invokevirtual 62, 3) := by decide +kernel
theorem dX6_addEvent_7 : decode cX6_addEvent 7 = .ok (.bipush 12, 2) := by decide +kernel
theorem dX6_addEvent_9 : decode cX6_addEvent 9 = .ok (.if_icmp .lt 13, 3) := by decide +kernel
theorem dX6_addEvent_12 : decode cX6_addEvent 12 = .ok (.new 66, 3) := by decide +kernel
theorem dX6_addEvent_15 : decode cX6_addEvent 15 = .ok (.dup, 1) := by decide +kernel
theorem dX6_addEvent_16 : decode cX6_addEvent 16 = .ok (.ldc 170, 2) := by decide +kernel
theorem dX6_addEvent_18 : decode cX6_addEvent 18 = .ok (.invokespecial 70, 3) := by decide +kernel
theorem dX6_addEvent_21 : decode cX6_addEvent 21 = .ok (.athrow, 1) := by decide +kernel
theorem dX6_addEvent_22 : decode cX6_addEvent 22 = .ok (.aload_n 0, 1) := by decide +kernel
theorem dX6_addEvent_23 : decode cX6_addEvent 23 = .ok (.invokevirtual 172, 3) := by decide +kernel
theorem dX6_addEvent_26 : decode cX6_addEvent 26 = .ok (.getfield 176, 3) := by decide +kernel
theorem dX6_addEvent_29 : decode cX6_addEvent 29 = .ok (.ireturn, 1) := by decide +kernel
theorem kc_X6_addEvent_4 : ∀ w ∈ ([Cond.methodLink "QuakeBench" 62 yJx4a65c_size_8abf5, Cond.instanceMethod yJx4a65c_size_8abf5, Cond.selects "java/util/ArrayList" yJx4a65c_size_8abf5 yJx4a65c_size_8abf5, Cond.initialized "java/util/ArrayList", Cond.code yJx4a65c_size_8abf5 prog_35_method_8_code 1 (Option.some Jvm.ClassFile.FieldType.int)] : List Cond), w ∈ lw_all := zin [222, 223, 224, 57, 225] (by decide +kernel)
theorem ky_X6_openEvent : yX6_openEvent.cls ≠ "java/lang/invoke/MethodHandle" ∧ yX6_openEvent.cls ≠ "java/lang/invoke/VarHandle" ∧ (parseMethodDescriptor yX6_openEvent.desc).map (fun d => d.parameters.length) = some 0 := by decide +kernel
theorem kc_X6_addEvent_23 : ∀ w ∈ ([Cond.methodLink "QuakeBench" 172 yX6_openEvent, Cond.instanceMethod yX6_openEvent, Cond.selects "QuakeBench" yX6_openEvent yX6_openEvent, Cond.initialized "QuakeBench", Cond.code yX6_openEvent prog_1_method_37_code 2 (Option.some (Jvm.ClassFile.FieldType.object "QuakeBench$Event"))] : List Cond), w ∈ lw_all := zin [673, 675, 11, 54, 676] (by decide +kernel)
theorem kw_685 : Cond.fieldLink "QuakeBench" 176 "QuakeBench$Event" "number" "I" ∈ lw_all := zin1 685 (by decide +kernel)
theorem dX6_digest_0 : decode cX6_digest 0 = .ok (.ldc2_w 294, 3) := by decide +kernel
theorem dX6_digest_3 : decode cX6_digest 3 = .ok (.lstore_n 1, 1) := by decide +kernel
theorem dX6_digest_4 : decode cX6_digest 4 = .ok (.lload_n 1, 1) := by decide +kernel
theorem dX6_digest_5 : decode cX6_digest 5 = .ok (.ldc2_w 296, 3) := by decide +kernel
theorem dX6_digest_8 : decode cX6_digest 8 = .ok (.lmul, 1) := by decide +kernel
theorem dX6_digest_9 : decode cX6_digest 9 = .ok (.aload_n 0, 1) := by decide +kernel
theorem dX6_digest_10 : decode cX6_digest 10 = .ok (.getfield 10, 3) := by decide +kernel
theorem dX6_digest_13 : decode cX6_digest 13 = .ok (.invokevirtual 62, 3) := by decide +kernel
theorem dX6_digest_16 : decode cX6_digest 16 = .ok (.i2l, 1) := by decide +kernel
theorem dX6_digest_17 : decode cX6_digest 17 = .ok (.ladd, 1) := by decide +kernel
theorem dX6_digest_18 : decode cX6_digest 18 = .ok (.lstore_n 1, 1) := by decide +kernel
theorem dX6_digest_19 : decode cX6_digest 19 = .ok (.lload_n 1, 1) := by decide +kernel
theorem dX6_digest_20 : decode cX6_digest 20 = .ok (.ldc2_w 296, 3) := by decide +kernel
theorem dX6_digest_23 : decode cX6_digest 23 = .ok (.lmul, 1) := by decide +kernel
theorem dX6_digest_24 : decode cX6_digest 24 = .ok (.aload_n 0, 1) := by decide +kernel
theorem dX6_digest_25 : decode cX6_digest 25 = .ok (.getfield 16, 3) := by decide +kernel
theorem dX6_digest_28 : decode cX6_digest 28 = .ok (.invokevirtual 62, 3) := by decide +kernel
theorem dX6_digest_31 : decode cX6_digest 31 = .ok (.i2l, 1) := by decide +kernel
theorem dX6_digest_32 : decode cX6_digest 32 = .ok (.ladd, 1) := by decide +kernel
theorem dX6_digest_33 : decode cX6_digest 33 = .ok (.lstore_n 1, 1) := by decide +kernel
theorem dX6_digest_34 : decode cX6_digest 34 = .ok (.lload_n 1, 1) := by decide +kernel
theorem dX6_digest_35 : decode cX6_digest 35 = .ok (.ldc2_w 296, 3) := by decide +kernel
theorem dX6_digest_38 : decode cX6_digest 38 = .ok (.lmul, 1) := by decide +kernel
theorem dX6_digest_39 : decode cX6_digest 39 = .ok (.aload_n 0, 1) := by decide +kernel
theorem dX6_digest_40 : decode cX6_digest 40 = .ok (.getfield 19, 3) := by decide +kernel
theorem dX6_digest_43 : decode cX6_digest 43 = .ok (.invokevirtual 62, 3) := by decide +kernel
theorem dX6_digest_46 : decode cX6_digest 46 = .ok (.i2l, 1) := by decide +kernel
theorem dX6_digest_47 : decode cX6_digest 47 = .ok (.ladd, 1) := by decide +kernel
theorem dX6_digest_48 : decode cX6_digest 48 = .ok (.lstore_n 1, 1) := by decide +kernel
theorem dX6_digest_49 : decode cX6_digest 49 = .ok (.lload_n 1, 1) := by decide +kernel
theorem dX6_digest_50 : decode cX6_digest 50 = .ok (.ldc2_w 296, 3) := by decide +kernel
theorem dX6_digest_53 : decode cX6_digest 53 = .ok (.lmul, 1) := by decide +kernel
theorem dX6_digest_54 : decode cX6_digest 54 = .ok (.aload_n 0, 1) := by decide +kernel
theorem dX6_digest_55 : decode cX6_digest 55 = .ok (.invokevirtual 212, 3) := by decide +kernel
theorem dX6_digest_58 : decode cX6_digest 58 = .ok (.i2l, 1) := by decide +kernel
theorem dX6_digest_59 : decode cX6_digest 59 = .ok (.ladd, 1) := by decide +kernel
theorem dX6_digest_60 : decode cX6_digest 60 = .ok (.lstore_n 1, 1) := by decide +kernel
theorem dX6_digest_61 : decode cX6_digest 61 = .ok (.lload_n 1, 1) := by decide +kernel
theorem dX6_digest_62 : decode cX6_digest 62 = .ok (.ldc2_w 296, 3) := by decide +kernel
theorem dX6_digest_65 : decode cX6_digest 65 = .ok (.lmul, 1) := by decide +kernel
theorem dX6_digest_66 : decode cX6_digest 66 = .ok (.aload_n 0, 1) := by decide +kernel
theorem dX6_digest_67 : decode cX6_digest 67 = .ok (.invokevirtual 215, 3) := by decide +kernel
theorem dX6_digest_70 : decode cX6_digest 70 = .ok (.i2l, 1) := by decide +kernel
theorem dX6_digest_71 : decode cX6_digest 71 = .ok (.ladd, 1) := by decide +kernel
theorem dX6_digest_72 : decode cX6_digest 72 = .ok (.lstore_n 1, 1) := by decide +kernel
theorem dX6_digest_73 : decode cX6_digest 73 = .ok (.lload_n 1, 1) := by decide +kernel
theorem dX6_digest_74 : decode cX6_digest 74 = .ok (.ldc2_w 296, 3) := by decide +kernel
theorem dX6_digest_77 : decode cX6_digest 77 = .ok (.lmul, 1) := by decide +kernel
theorem dX6_digest_78 : decode cX6_digest 78 = .ok (.aload_n 0, 1) := by decide +kernel
theorem dX6_digest_79 : decode cX6_digest 79 = .ok (.getfield 25, 3) := by decide +kernel
theorem dX6_digest_82 : decode cX6_digest 82 = .ok (.getfield 108, 3) := by decide +kernel
theorem dX6_digest_85 : decode cX6_digest 85 = .ok (.i2l, 1) := by decide +kernel
theorem dX6_digest_86 : decode cX6_digest 86 = .ok (.ladd, 1) := by decide +kernel
theorem dX6_digest_87 : decode cX6_digest 87 = .ok (.lstore_n 1, 1) := by decide +kernel
theorem dX6_digest_88 : decode cX6_digest 88 = .ok (.lload_n 1, 1) := by decide +kernel
theorem dX6_digest_89 : decode cX6_digest 89 = .ok (.ldc2_w 296, 3) := by decide +kernel
theorem dX6_digest_92 : decode cX6_digest 92 = .ok (.lmul, 1) := by decide +kernel
theorem dX6_digest_93 : decode cX6_digest 93 = .ok (.aload_n 0, 1) := by decide +kernel
theorem dX6_digest_94 : decode cX6_digest 94 = .ok (.getfield 25, 3) := by decide +kernel
theorem dX6_digest_97 : decode cX6_digest 97 = .ok (.getfield 111, 3) := by decide +kernel
theorem dX6_digest_100 : decode cX6_digest 100 = .ok (.i2l, 1) := by decide +kernel
theorem dX6_digest_101 : decode cX6_digest 101 = .ok (.ladd, 1) := by decide +kernel
theorem dX6_digest_102 : decode cX6_digest 102 = .ok (.lstore_n 1, 1) := by decide +kernel
theorem dX6_digest_103 : decode cX6_digest 103 = .ok (.iconst 0, 1) := by decide +kernel
theorem dX6_digest_104 : decode cX6_digest 104 = .ok (.istore_n 3, 1) := by decide +kernel
theorem dX6_digest_105 : decode cX6_digest 105 = .ok (.iload_n 3, 1) := by decide +kernel
theorem dX6_digest_106 : decode cX6_digest 106 = .ok (.aload_n 0, 1) := by decide +kernel
theorem dX6_digest_107 : decode cX6_digest 107 = .ok (.getfield 10, 3) := by decide +kernel
theorem dX6_digest_110 : decode cX6_digest 110 = .ok (.invokevirtual 62, 3) := by decide +kernel
theorem dX6_digest_113 : decode cX6_digest 113 = .ok (.if_icmp .ge 25, 3) := by decide +kernel
theorem dX6_digest_116 : decode cX6_digest 116 = .ok (.lload_n 1, 1) := by decide +kernel
theorem dX6_digest_117 : decode cX6_digest 117 = .ok (.aload_n 0, 1) := by decide +kernel
theorem dX6_digest_118 : decode cX6_digest 118 = .ok (.getfield 10, 3) := by decide +kernel
theorem dX6_digest_121 : decode cX6_digest 121 = .ok (.iload_n 3, 1) := by decide +kernel
theorem dX6_digest_122 : decode cX6_digest 122 = .ok (.invokevirtual 90, 3) := by decide +kernel
theorem dX6_digest_125 : decode cX6_digest 125 = .ok (.checkcast 71, 3) := by decide +kernel
theorem dX6_digest_128 : decode cX6_digest 128 = .ok (.invokestatic 298, 3) := by decide +kernel
theorem dX6_digest_131 : decode cX6_digest 131 = .ok (.lstore_n 1, 1) := by decide +kernel
theorem dX6_digest_132 : decode cX6_digest 132 = .ok (.iinc 3 1, 3) := by decide +kernel
theorem dX6_digest_135 : decode cX6_digest 135 = .ok (.goto (-30), 3) := by decide +kernel
theorem dX6_digest_138 : decode cX6_digest 138 = .ok (.iconst 0, 1) := by decide +kernel
theorem dX6_digest_139 : decode cX6_digest 139 = .ok (.istore_n 3, 1) := by decide +kernel
theorem dX6_digest_140 : decode cX6_digest 140 = .ok (.iload_n 3, 1) := by decide +kernel
theorem dX6_digest_141 : decode cX6_digest 141 = .ok (.aload_n 0, 1) := by decide +kernel
theorem dX6_digest_142 : decode cX6_digest 142 = .ok (.getfield 16, 3) := by decide +kernel
theorem dX6_digest_145 : decode cX6_digest 145 = .ok (.invokevirtual 62, 3) := by decide +kernel
theorem dX6_digest_148 : decode cX6_digest 148 = .ok (.if_icmp .ge 25, 3) := by decide +kernel
theorem dX6_digest_151 : decode cX6_digest 151 = .ok (.lload_n 1, 1) := by decide +kernel
theorem dX6_digest_152 : decode cX6_digest 152 = .ok (.aload_n 0, 1) := by decide +kernel
theorem dX6_digest_153 : decode cX6_digest 153 = .ok (.getfield 16, 3) := by decide +kernel
theorem dX6_digest_156 : decode cX6_digest 156 = .ok (.iload_n 3, 1) := by decide +kernel
theorem dX6_digest_157 : decode cX6_digest 157 = .ok (.invokevirtual 90, 3) := by decide +kernel
theorem dX6_digest_160 : decode cX6_digest 160 = .ok (.checkcast 130, 3) := by decide +kernel
theorem dX6_digest_163 : decode cX6_digest 163 = .ok (.invokestatic 302, 3) := by decide +kernel
theorem dX6_digest_166 : decode cX6_digest 166 = .ok (.lstore_n 1, 1) := by decide +kernel
theorem dX6_digest_167 : decode cX6_digest 167 = .ok (.iinc 3 1, 3) := by decide +kernel
theorem dX6_digest_170 : decode cX6_digest 170 = .ok (.goto (-30), 3) := by decide +kernel
theorem dX6_digest_173 : decode cX6_digest 173 = .ok (.iconst 0, 1) := by decide +kernel
theorem dX6_digest_174 : decode cX6_digest 174 = .ok (.istore_n 3, 1) := by decide +kernel
theorem dX6_digest_175 : decode cX6_digest 175 = .ok (.iload_n 3, 1) := by decide +kernel
theorem dX6_digest_176 : decode cX6_digest 176 = .ok (.aload_n 0, 1) := by decide +kernel
theorem dX6_digest_177 : decode cX6_digest 177 = .ok (.getfield 19, 3) := by decide +kernel
theorem dX6_digest_180 : decode cX6_digest 180 = .ok (.invokevirtual 62, 3) := by decide +kernel
theorem dX6_digest_183 : decode cX6_digest 183 = .ok (.if_icmp .ge 26, 3) := by decide +kernel
theorem dX6_digest_186 : decode cX6_digest 186 = .ok (.aload_n 0, 1) := by decide +kernel
theorem dX6_digest_187 : decode cX6_digest 187 = .ok (.lload_n 1, 1) := by decide +kernel
theorem dX6_digest_188 : decode cX6_digest 188 = .ok (.aload_n 0, 1) := by decide +kernel
theorem dX6_digest_189 : decode cX6_digest 189 = .ok (.getfield 19, 3) := by decide +kernel
theorem dX6_digest_192 : decode cX6_digest 192 = .ok (.iload_n 3, 1) := by decide +kernel
theorem dX6_digest_193 : decode cX6_digest 193 = .ok (.invokevirtual 90, 3) := by decide +kernel
theorem dX6_digest_196 : decode cX6_digest 196 = .ok (.checkcast 94, 3) := by decide +kernel
theorem dX6_digest_199 : decode cX6_digest 199 = .ok (.invokevirtual 306, 3) := by decide +kernel
theorem dX6_digest_202 : decode cX6_digest 202 = .ok (.lstore_n 1, 1) := by decide +kernel
theorem dX6_digest_203 : decode cX6_digest 203 = .ok (.iinc 3 1, 3) := by decide +kernel
theorem dX6_digest_206 : decode cX6_digest 206 = .ok (.goto (-31), 3) := by decide +kernel
theorem dX6_digest_209 : decode cX6_digest 209 = .ok (.lload_n 1, 1) := by decide +kernel
theorem dX6_digest_210 : decode cX6_digest 210 = .ok (.lreturn, 1) := by decide +kernel
theorem kw_772 : Cond.constantLong "QuakeBench" 294 337 ∈ lw_all := zin1 772 (by decide +kernel)
theorem kw_773 : Cond.constantLong "QuakeBench" 296 31 ∈ lw_all := zin1 773 (by decide +kernel)
theorem kc_X6_digest_13 : ∀ w ∈ ([Cond.methodLink "QuakeBench" 62 yJx4a65c_size_8abf5, Cond.instanceMethod yJx4a65c_size_8abf5, Cond.selects "java/util/ArrayList" yJx4a65c_size_8abf5 yJx4a65c_size_8abf5, Cond.initialized "java/util/ArrayList", Cond.code yJx4a65c_size_8abf5 prog_35_method_8_code 1 (Option.some Jvm.ClassFile.FieldType.int)] : List Cond), w ∈ lw_all := zin [222, 223, 224, 57, 225] (by decide +kernel)
theorem kc_X6_digest_28 : ∀ w ∈ ([Cond.methodLink "QuakeBench" 62 yJx4a65c_size_8abf5, Cond.instanceMethod yJx4a65c_size_8abf5, Cond.selects "java/util/ArrayList" yJx4a65c_size_8abf5 yJx4a65c_size_8abf5, Cond.initialized "java/util/ArrayList", Cond.code yJx4a65c_size_8abf5 prog_35_method_8_code 1 (Option.some Jvm.ClassFile.FieldType.int)] : List Cond), w ∈ lw_all := zin [222, 223, 224, 57, 225] (by decide +kernel)
theorem kc_X6_digest_43 : ∀ w ∈ ([Cond.methodLink "QuakeBench" 62 yJx4a65c_size_8abf5, Cond.instanceMethod yJx4a65c_size_8abf5, Cond.selects "java/util/ArrayList" yJx4a65c_size_8abf5 yJx4a65c_size_8abf5, Cond.initialized "java/util/ArrayList", Cond.code yJx4a65c_size_8abf5 prog_35_method_8_code 1 (Option.some Jvm.ClassFile.FieldType.int)] : List Cond), w ∈ lw_all := zin [222, 223, 224, 57, 225] (by decide +kernel)
theorem kc_X6_digest_55 : ∀ w ∈ ([Cond.methodLink "QuakeBench" 212 yX6_countFound, Cond.instanceMethod yX6_countFound, Cond.selects "QuakeBench" yX6_countFound yX6_countFound, Cond.initialized "QuakeBench", Cond.code yX6_countFound prog_1_method_35_code 3 (Option.some Jvm.ClassFile.FieldType.int)] : List Cond), w ∈ lw_all := zin [774, 776, 14, 54, 777] (by decide +kernel)
theorem kc_X6_digest_67 : ∀ w ∈ ([Cond.methodLink "QuakeBench" 215 yX6_countLoose, Cond.instanceMethod yX6_countLoose, Cond.selects "QuakeBench" yX6_countLoose yX6_countLoose, Cond.initialized "QuakeBench", Cond.code yX6_countLoose prog_1_method_36_code 3 (Option.some Jvm.ClassFile.FieldType.int)] : List Cond), w ∈ lw_all := zin [778, 780, 15, 54, 781] (by decide +kernel)
theorem kc_X6_digest_110 : ∀ w ∈ ([Cond.methodLink "QuakeBench" 62 yJx4a65c_size_8abf5, Cond.instanceMethod yJx4a65c_size_8abf5, Cond.selects "java/util/ArrayList" yJx4a65c_size_8abf5 yJx4a65c_size_8abf5, Cond.initialized "java/util/ArrayList", Cond.code yJx4a65c_size_8abf5 prog_35_method_8_code 1 (Option.some Jvm.ClassFile.FieldType.int)] : List Cond), w ∈ lw_all := zin [222, 223, 224, 57, 225] (by decide +kernel)
theorem kc_X6_digest_145 : ∀ w ∈ ([Cond.methodLink "QuakeBench" 62 yJx4a65c_size_8abf5, Cond.instanceMethod yJx4a65c_size_8abf5, Cond.selects "java/util/ArrayList" yJx4a65c_size_8abf5 yJx4a65c_size_8abf5, Cond.initialized "java/util/ArrayList", Cond.code yJx4a65c_size_8abf5 prog_35_method_8_code 1 (Option.some Jvm.ClassFile.FieldType.int)] : List Cond), w ∈ lw_all := zin [222, 223, 224, 57, 225] (by decide +kernel)
theorem kc_X6_digest_180 : ∀ w ∈ ([Cond.methodLink "QuakeBench" 62 yJx4a65c_size_8abf5, Cond.instanceMethod yJx4a65c_size_8abf5, Cond.selects "java/util/ArrayList" yJx4a65c_size_8abf5 yJx4a65c_size_8abf5, Cond.initialized "java/util/ArrayList", Cond.code yJx4a65c_size_8abf5 prog_35_method_8_code 1 (Option.some Jvm.ClassFile.FieldType.int)] : List Cond), w ∈ lw_all := zin [222, 223, 224, 57, 225] (by decide +kernel)
/-! the class: its other calls on a new bench -/
theorem s_in_lo {x lo hi : Int32} (h : x < lo) : s_in x lo hi = 0 := if_pos h
theorem s_in_hi {x lo hi : Int32} (h : x > hi) : s_in x lo hi = 0 := by
  unfold s_in
  by_cases h1 : x < lo
  · exact if_pos h1
  · rw [if_neg h1]; exact if_pos h
theorem s_in_ok {x lo hi : Int32} (h : ¬ x < lo) (h2 : ¬ x > hi) : s_in x lo hi = 1 := by
  unfold s_in
  rw [if_neg h, if_neg h2]
theorem s_pl_3 (x y z : Int32) : s_pl x y z = s_pl3 x y z := by
  unfold s_pl s_pl3 s_in
  by_cases h1 : x < 0 <;> by_cases h2 : 200 < x <;> by_cases h3 : y < 0 <;> by_cases h4 : 200 < y <;> by_cases h5 : z < 0 <;> by_cases h6 : 60 < z <;> simp [h1, h2, h3, h4, h5, h6]
theorem s_pl_xy (x y : Int32) : s_xyk x y = s_not (s_pl x y 0) := by
  rw [s_pl_3]
  unfold s_pl3 s_xyk s_not s_in
  by_cases h1 : x < 0 <;> by_cases h2 : 200 < x <;> by_cases h3 : y < 0 <;> by_cases h4 : 200 < y <;> simp [h1, h2, h3, h4]
theorem zLs.kw {Γ : zY} {G : zG} {a arr w ci : Nat} {xs : List Nat} {fs : List Value} (hL : zLs Γ G a arr xs) (hw : G w = some (.inr (ci, fs))) (h : a ≠ w) (x : va_E) : zLs Γ (zU G w x) a arr xs := by
  obtain ⟨mc, cap, h1, h2, h3, h4⟩ := hL
  refine ⟨mc, cap, (zU_ne h).trans h1, h2, h3, ?_⟩
  rcases h4 with h4 | ⟨h4, f, h5, h6⟩
  · exact Or.inl h4
  · exact Or.inr ⟨h4, f, (zU_ne (zG_ne h5 hw (by intro z; cases z))).trans h5, h6⟩
theorem zLs.kn {Γ : zY} {G G' : zG} {a arr : Nat} {xs : List Nat} (hL : zLs Γ G a arr xs) (h : ∀ q e, G q = some e → G' q = some e) : zLs Γ G' a arr xs := hL.keep (fun q e _ hq => h q e hq)
theorem zLs.na {Γ : zY} {G : zG} {a arr q : Nat} {xs : List Nat} {e : va_E} (hL : zLs Γ G a arr xs) (h0 : G (Γ.2.2 0) = none) (hq : G q = some e) (he : ∀ n f, e ≠ zO Γ n f) : q ≠ arr := by
  intro z
  subst z
  obtain ⟨mc, cap, h1, h2, h3, h4⟩ := hL
  rcases h4 with ⟨h4, -⟩ | ⟨h4, f, h5, h6⟩
  · rw [h4, h0] at hq; cases hq
  · exact he _ _ (Option.some.inj (hq.symm.trans h5))
theorem zKd.no {Γ : zY} {e : va_E} (he : zKd e) : ∀ n f, e ≠ zO Γ n f := fun n f z => by subst z; exact he
theorem zKp.nw {G : zG} {a : Nat} {x : va_E} (h : G a = none) : zKp G (zU G a x) := fun q e hq _ => zU_new hq h
theorem zKp.tr {G G1 G2 : zG} (h : zKp G G1) (h2 : zKp G1 G2) : zKp G G2 := fun q e hq he => h2 q e (h q e hq he) he
theorem zAdd.kp {Γ : zY} {G G' : zG} {a arr x : Nat} {xs : List Nat} (h : zAdd Γ G a arr xs x G') (hL : zLs Γ G a arr xs) (h0 : G (Γ.2.2 0) = none) : zKp G G' := by
  obtain ⟨arr', h1, h2, h3⟩ := h
  obtain ⟨mc, ha⟩ := hL.at
  intro q e hq he
  refine (h3 q (zKp.al ha hq he) ?_).trans hq
  rcases h1 with rfl | h1
  · exact hL.na h0 hq he.no
  · exact zG_nn hq h1
theorem i_gt {a b : Int32} (h : ¬ a ≤ b) : a > b := i_lt h
abbrev rm_x_requirePlace : Room := { frames := 6, cells := 1, slots := 6, locals := 90 }
set_option maxHeartbeats 4000000 in
set_option maxRecDepth 100000 in
theorem x_requirePlace (l : Launch) (hst : l.stackTraces = false) (Γ : zY) (G : zG) (x y z : Int32) : ZX l yX6_requirePlace cX6_requirePlace 3 (none) rm_x_requirePlace Γ [.int x, .int y, .int z] G (fun v G' => none = v ∧ ¬ s_pl3 x y z = 0 ∧ G = G') (zIAE (s_pl3 x y z = 0) G) := by
  rw [← s_pl_3]
  refine z_startX (by decide +kernel) [some (.int x), some (.int y), some (.int z)] rfl (Nat.le_of_ble_eq_true rfl) ?_
  intro p e s m args below meth c Q A C F hT hr hnm
  refine z_iload_n C dX6_requirePlace_0 rfl ?_
  refine z_iload_n C dX6_requirePlace_1 rfl ?_
  refine z_iload_n C dX6_requirePlace_2 rfl ?_
  refine z_callS C (c_isPlace l Γ _ x y z) kc_X6_requirePlace_3 rfl rfl ky_X6_isPlace ⟨(Nat.le_of_ble_eq_true rfl), (Nat.le_of_ble_eq_true rfl)⟩ (Nat.le_of_ble_eq_true rfl) ⟨(Nat.le_of_ble_eq_true rfl), (Nat.le_of_ble_eq_true rfl)⟩ dX6_requirePlace_3 (fun v3 G3 hp3 => ?_)
  obtain ⟨rfl, rfl⟩ := hp3
  refine z_if_ne (tgt := 20) C dX6_requirePlace_6 (by decide) (fun h6 => ?_) (fun h6 => ?_)
  · refine z_x F (fun Q F => ?_)
    exact z_vret C F hr (Nat.le_of_ble_eq_true rfl) (Nat.le_of_ble_eq_true rfl) ⟨rfl, h6, rfl⟩ dX6_requirePlace_20
  · exact z_throwW C F hT hst zt_X6_requirePlace_9 dX6_requirePlace_9 dX6_requirePlace_12 dX6_requirePlace_13 dX6_requirePlace_16 dX6_requirePlace_19 (Nat.le_of_ble_eq_true rfl) (Nat.le_of_ble_eq_true rfl) (Nat.le_of_ble_eq_true rfl) (Nat.le_of_ble_eq_true rfl) (Nat.le_of_ble_eq_true rfl) (Nat.le_of_ble_eq_true rfl) ⟨rfl, h6, rfl⟩
abbrev rm_x_requireLimits : Room := { frames := 6, cells := 1, slots := 6, locals := 90 }
set_option maxHeartbeats 4000000 in
set_option maxRecDepth 100000 in
theorem x_requireLimits (l : Launch) (hst : l.stackTraces = false) (Γ : zY) (G : zG) (x y : Int32) : ZX l yX6_requireLimits cX6_requireLimits 2 (none) rm_x_requireLimits Γ [.int x, .int y] G (fun v G' => none = v ∧ s_rng x y = 1 ∧ G = G') (zIAE (s_rng x y = 0) G) := by
  refine z_startX (by decide +kernel) [some (.int x), some (.int y)] rfl (Nat.le_of_ble_eq_true rfl) ?_
  intro p e s m args below meth c Q A C F hT hr hnm
  refine z_iload_n C dX6_requireLimits_0 rfl ?_
  refine z_if_lt (tgt := 11) C dX6_requireLimits_1 (by decide) (fun h1 => ?_) (fun h1 => ?_)
  · exact z_throwW C F hT hst zt_X6_requireLimits_11 dX6_requireLimits_11 dX6_requireLimits_14 dX6_requireLimits_15 dX6_requireLimits_18 dX6_requireLimits_21 (Nat.le_of_ble_eq_true rfl) (Nat.le_of_ble_eq_true rfl) (Nat.le_of_ble_eq_true rfl) (Nat.le_of_ble_eq_true rfl) (Nat.le_of_ble_eq_true rfl) (Nat.le_of_ble_eq_true rfl) ⟨rfl, by unfold s_rng; rw [if_pos (s_in_lo h1)], rfl⟩
  · refine z_iload_n C dX6_requireLimits_4 rfl ?_
    refine z_sipush (v := 500) C dX6_requireLimits_5 rfl ?_
    refine z_icmp_le (tgt := 22) C dX6_requireLimits_8 (by decide) (fun h8 => ?_) (fun h8 => ?_)
    · have hx : ¬ s_in x 0 500 = 0 := by rw [s_in_ok h1 (i_nlt h8)]; decide
      refine z_iload_n C dX6_requireLimits_22 rfl ?_
      refine z_if_lt (tgt := 32) C dX6_requireLimits_23 (by decide) (fun h23 => ?_) (fun h23 => ?_)
      · exact z_throwW C F hT hst zt_X6_requireLimits_32 dX6_requireLimits_32 dX6_requireLimits_35 dX6_requireLimits_36 dX6_requireLimits_39 dX6_requireLimits_42 (Nat.le_of_ble_eq_true rfl) (Nat.le_of_ble_eq_true rfl) (Nat.le_of_ble_eq_true rfl) (Nat.le_of_ble_eq_true rfl) (Nat.le_of_ble_eq_true rfl) (Nat.le_of_ble_eq_true rfl) ⟨rfl, by unfold s_rng; rw [if_neg hx, if_pos (s_in_lo h23)], rfl⟩
      · refine z_iload_n C dX6_requireLimits_26 rfl ?_
        refine z_ldc C kw_926 dX6_requireLimits_27 ?_
        refine z_icmp_le (tgt := 43) C dX6_requireLimits_29 (by decide) (fun h29 => ?_) (fun h29 => ?_)
        · have hy : ¬ s_in y 0 10000000 = 0 := by rw [s_in_ok h23 (i_nlt h29)]; decide
          refine z_x F (fun Q F => ?_)
          exact z_vret C F hr (Nat.le_of_ble_eq_true rfl) (Nat.le_of_ble_eq_true rfl) ⟨rfl, by unfold s_rng; rw [if_neg hx, if_neg hy], rfl⟩ dX6_requireLimits_43
        · exact z_throwW C F hT hst zt_X6_requireLimits_32 dX6_requireLimits_32 dX6_requireLimits_35 dX6_requireLimits_36 dX6_requireLimits_39 dX6_requireLimits_42 (Nat.le_of_ble_eq_true rfl) (Nat.le_of_ble_eq_true rfl) (Nat.le_of_ble_eq_true rfl) (Nat.le_of_ble_eq_true rfl) (Nat.le_of_ble_eq_true rfl) (Nat.le_of_ble_eq_true rfl) ⟨rfl, by unfold s_rng; rw [if_neg hx, if_pos (s_in_hi (i_gt h29))], rfl⟩
    · exact z_throwW C F hT hst zt_X6_requireLimits_11 dX6_requireLimits_11 dX6_requireLimits_14 dX6_requireLimits_15 dX6_requireLimits_18 dX6_requireLimits_21 (Nat.le_of_ble_eq_true rfl) (Nat.le_of_ble_eq_true rfl) (Nat.le_of_ble_eq_true rfl) (Nat.le_of_ble_eq_true rfl) (Nat.le_of_ble_eq_true rfl) (Nat.le_of_ble_eq_true rfl) ⟨rfl, by unfold s_rng; rw [if_pos (s_in_hi (i_gt h8))], rfl⟩
abbrev rm_x_countFound : Room := { frames := 1, cells := 0, slots := 0, locals := 20 }
set_option maxHeartbeats 4000000 in
set_option maxRecDepth 100000 in
theorem x_countFound (l : Launch) (Γ : zY) (G : zG) {b : Nat} (hC : zC0 Γ G b) : ZM l yX6_countFound cX6_countFound 3 (some FieldType.int) rm_x_countFound Γ [.ref b] G (zRd G (.int 0)) := by
  obtain ⟨ls, lp, le, w, r, q, lo, co, as, ap, ae, alo, hb, hLs, hLp, hLe, hLlo, hw⟩ := id hC
  obtain ⟨mcs, hs⟩ := hLs.at
  obtain ⟨mcp, hp⟩ := hLp.at
  obtain ⟨mce, he⟩ := hLe.at
  obtain ⟨mclo, hlo⟩ := hLlo.at
  refine z_start (by decide +kernel) [some (.ref b), none, none] rfl (Nat.le_of_ble_eq_true rfl) ?_
  intro p e s m args below meth c Q A C F hr hnm
  refine z_iconst (v := 0) C dX6_countFound_0 rfl ?_
  refine z_istore_n C dX6_countFound_1 (by decide) ?_
  refine z_iconst (v := 0) C dX6_countFound_2 rfl ?_
  refine z_istore_n C dX6_countFound_3 (by decide) ?_
  refine z_iload_n C dX6_countFound_4 rfl ?_
  first | refine z_rload_n C dX6_countFound_5 rfl ?_ | refine z_nload_n C dX6_countFound_5 rfl ?_ | refine z_aload_n C dX6_countFound_5 rfl ?_
  refine z_getf (T := TX6) (N := 8) C (by first | assumption | exact zU_same _ _ _) rfl 2 (by decide) kw_187 (Or.inl rfl) rfl dX6_countFound_6 ?_
  refine z_callV (q := (RJx4a65c, TJx4a65c, 3)) C (c_size l Γ G hLe) kc_X6_countFound_9 (by first | assumption | exact zU_same _ _ _) rfl rfl rfl rfl ky_Jx4a65c_size_8abf5 ⟨(Nat.le_of_ble_eq_true rfl), (Nat.le_of_ble_eq_true rfl)⟩ (Nat.le_of_ble_eq_true rfl) ⟨(Nat.le_of_ble_eq_true rfl), (Nat.le_of_ble_eq_true rfl)⟩ dX6_countFound_9 (fun v9 G9 hp9 => ?_)
  obtain ⟨rfl, rfl⟩ := hp9
  refine z_icmp_ge (tgt := 41) C dX6_countFound_12 (by decide) (fun h12 => ?_) (fun h12 => ?_)
  · refine z_iload_n C dX6_countFound_41 rfl ?_
    exact z_iret C F hr (Nat.le_of_ble_eq_true rfl) (Nat.le_of_ble_eq_true rfl) ⟨rfl, rfl⟩ dX6_countFound_42
  · exact absurd (by decide) h12
abbrev rm_x_countLoose : Room := { frames := 1, cells := 0, slots := 0, locals := 20 }
set_option maxHeartbeats 4000000 in
set_option maxRecDepth 100000 in
theorem x_countLoose (l : Launch) (Γ : zY) (G : zG) {b : Nat} (hC : zC0 Γ G b) : ZM l yX6_countLoose cX6_countLoose 3 (some FieldType.int) rm_x_countLoose Γ [.ref b] G (zRd G (.int 0)) := by
  obtain ⟨ls, lp, le, w, r, q, lo, co, as, ap, ae, alo, hb, hLs, hLp, hLe, hLlo, hw⟩ := id hC
  obtain ⟨mcs, hs⟩ := hLs.at
  obtain ⟨mcp, hp⟩ := hLp.at
  obtain ⟨mce, he⟩ := hLe.at
  obtain ⟨mclo, hlo⟩ := hLlo.at
  refine z_start (by decide +kernel) [some (.ref b), none, none] rfl (Nat.le_of_ble_eq_true rfl) ?_
  intro p e s m args below meth c Q A C F hr hnm
  refine z_iconst (v := 0) C dX6_countLoose_0 rfl ?_
  refine z_istore_n C dX6_countLoose_1 (by decide) ?_
  refine z_iconst (v := 0) C dX6_countLoose_2 rfl ?_
  refine z_istore_n C dX6_countLoose_3 (by decide) ?_
  refine z_iload_n C dX6_countLoose_4 rfl ?_
  first | refine z_rload_n C dX6_countLoose_5 rfl ?_ | refine z_nload_n C dX6_countLoose_5 rfl ?_ | refine z_aload_n C dX6_countLoose_5 rfl ?_
  refine z_getf (T := TX6) (N := 8) C (by first | assumption | exact zU_same _ _ _) rfl 1 (by decide) kw_186 (Or.inl rfl) rfl dX6_countLoose_6 ?_
  refine z_callV (q := (RJx4a65c, TJx4a65c, 3)) C (c_size l Γ G hLp) kc_X6_countLoose_9 (by first | assumption | exact zU_same _ _ _) rfl rfl rfl rfl ky_Jx4a65c_size_8abf5 ⟨(Nat.le_of_ble_eq_true rfl), (Nat.le_of_ble_eq_true rfl)⟩ (Nat.le_of_ble_eq_true rfl) ⟨(Nat.le_of_ble_eq_true rfl), (Nat.le_of_ble_eq_true rfl)⟩ dX6_countLoose_9 (fun v9 G9 hp9 => ?_)
  obtain ⟨rfl, rfl⟩ := hp9
  refine z_icmp_ge (tgt := 41) C dX6_countLoose_12 (by decide) (fun h12 => ?_) (fun h12 => ?_)
  · refine z_iload_n C dX6_countLoose_41 rfl ?_
    exact z_iret C F hr (Nat.le_of_ble_eq_true rfl) (Nat.le_of_ble_eq_true rfl) ⟨rfl, rfl⟩ dX6_countLoose_42
  · exact absurd (by decide) h12
abbrev rm_x_label : Room := { frames := 1, cells := 0, slots := 0, locals := 20 }
set_option maxHeartbeats 4000000 in
set_option maxRecDepth 100000 in
theorem x_label (l : Launch) (Γ : zY) (G : zG) {b : Nat} (x y : Int32) (hC : zC0 Γ G b) : ZM l yX6_labelFamilies cX6_labelFamilies 5 (none) rm_x_label Γ [.ref b, .int x, .int y] G (fun v G' => none = v ∧ G = G') := by
  obtain ⟨ls, lp, le, w, r, q, lo, co, as, ap, ae, alo, hb, hLs, hLp, hLe, hLlo, hw⟩ := id hC
  obtain ⟨mcs, hs⟩ := hLs.at
  obtain ⟨mcp, hp⟩ := hLp.at
  obtain ⟨mce, he⟩ := hLe.at
  obtain ⟨mclo, hlo⟩ := hLlo.at
  refine z_start (by decide +kernel) [some (.ref b), some (.int x), some (.int y), none, none] rfl (Nat.le_of_ble_eq_true rfl) ?_
  intro p e s m args below meth c Q A C F hr hnm
  refine z_iconst (v := 0) C dX6_labelFamilies_0 rfl ?_
  refine z_istore_n C dX6_labelFamilies_1 (by decide) ?_
  refine z_iload_n C dX6_labelFamilies_2 rfl ?_
  first | refine z_rload_n C dX6_labelFamilies_3 rfl ?_ | refine z_nload_n C dX6_labelFamilies_3 rfl ?_ | refine z_aload_n C dX6_labelFamilies_3 rfl ?_
  refine z_getf (T := TX6) (N := 8) C (by first | assumption | exact zU_same _ _ _) rfl 2 (by decide) kw_187 (Or.inl rfl) rfl dX6_labelFamilies_4 ?_
  refine z_callV (q := (RJx4a65c, TJx4a65c, 3)) C (c_size l Γ G hLe) kc_X6_labelFamilies_7 (by first | assumption | exact zU_same _ _ _) rfl rfl rfl rfl ky_Jx4a65c_size_8abf5 ⟨(Nat.le_of_ble_eq_true rfl), (Nat.le_of_ble_eq_true rfl)⟩ (Nat.le_of_ble_eq_true rfl) ⟨(Nat.le_of_ble_eq_true rfl), (Nat.le_of_ble_eq_true rfl)⟩ dX6_labelFamilies_7 (fun v7 G7 hp7 => ?_)
  obtain ⟨rfl, rfl⟩ := hp7
  refine z_icmp_ge (tgt := 34) C dX6_labelFamilies_10 (by decide) (fun h10 => ?_) (fun h10 => ?_)
  · refine z_iconst (v := 0) C dX6_labelFamilies_34 rfl ?_
    refine z_istore_n C dX6_labelFamilies_35 (by decide) ?_
    refine z_iload_n C dX6_labelFamilies_36 rfl ?_
    first | refine z_rload_n C dX6_labelFamilies_37 rfl ?_ | refine z_nload_n C dX6_labelFamilies_37 rfl ?_ | refine z_aload_n C dX6_labelFamilies_37 rfl ?_
    refine z_getf (T := TX6) (N := 8) C (by first | assumption | exact zU_same _ _ _) rfl 2 (by decide) kw_187 (Or.inl rfl) rfl dX6_labelFamilies_38 ?_
    refine z_callV (q := (RJx4a65c, TJx4a65c, 3)) C (c_size l Γ G hLe) kc_X6_labelFamilies_41 (by first | assumption | exact zU_same _ _ _) rfl rfl rfl rfl ky_Jx4a65c_size_8abf5 ⟨(Nat.le_of_ble_eq_true rfl), (Nat.le_of_ble_eq_true rfl)⟩ (Nat.le_of_ble_eq_true rfl) ⟨(Nat.le_of_ble_eq_true rfl), (Nat.le_of_ble_eq_true rfl)⟩ dX6_labelFamilies_41 (fun v41 G41 hp41 => ?_)
    obtain ⟨rfl, rfl⟩ := hp41
    refine z_icmp_ge (tgt := 132) C dX6_labelFamilies_44 (by decide) (fun h44 => ?_) (fun h44 => ?_)
    · exact z_vret C F hr (Nat.le_of_ble_eq_true rfl) (Nat.le_of_ble_eq_true rfl) ⟨rfl, rfl⟩ dX6_labelFamilies_132
    · exact absurd (by decide) h44
  · exact absurd (by decide) h10
abbrev rm_x_families : Room := { frames := 7, cells := 1, slots := 6, locals := 111 }
set_option maxHeartbeats 4000000 in
set_option maxRecDepth 100000 in
theorem x_families (l : Launch) (hst : l.stackTraces = false) (Γ : zY) (G : zG) {b : Nat} (x y : Int32) (hC : zC0 Γ G b) : ZX l yX6_families cX6_families 6 (some FieldType.int) rm_x_families Γ [.ref b, .int x, .int y] G (fun v G' => some (.int 0) = v ∧ s_rng x y = 1 ∧ G = G') (zIAE (s_rng x y = 0) G) := by
  obtain ⟨ls, lp, le, w, r, q, lo, co, as, ap, ae, alo, hb, hLs, hLp, hLe, hLlo, hw⟩ := id hC
  obtain ⟨mcs, hs⟩ := hLs.at
  obtain ⟨mcp, hp⟩ := hLp.at
  obtain ⟨mce, he⟩ := hLe.at
  obtain ⟨mclo, hlo⟩ := hLlo.at
  refine z_startX (by decide +kernel) [some (.ref b), some (.int x), some (.int y), none, none, none] rfl (Nat.le_of_ble_eq_true rfl) ?_
  intro p e s m args below meth c Q A C F hT hr hnm
  refine z_iload_n C dX6_families_0 rfl ?_
  refine z_iload_n C dX6_families_1 rfl ?_
  refine z_callSX C (x_requireLimits l hst Γ G x y) kc_X6_families_2 rfl rfl ky_X6_requireLimits ⟨(Nat.le_of_ble_eq_true rfl), (Nat.le_of_ble_eq_true rfl)⟩ (Nat.le_of_ble_eq_true rfl) ⟨(Nat.le_of_ble_eq_true rfl), (Nat.le_of_ble_eq_true rfl)⟩ dX6_families_2 (fun E2 G2 hx2 => z_out C F hT (Nat.le_of_ble_eq_true rfl) (Nat.le_of_ble_eq_true rfl) hx2) (fun v2 G2 hp2 => ?_)
  obtain ⟨rfl, hr1, rfl⟩ := hp2
  first | refine z_rload_n C dX6_families_5 rfl ?_ | refine z_nload_n C dX6_families_5 rfl ?_ | refine z_aload_n C dX6_families_5 rfl ?_
  refine z_iload_n C dX6_families_6 rfl ?_
  refine z_iload_n C dX6_families_7 rfl ?_
  refine z_callV (q := (RX6, TX6, 8)) C (x_label l Γ G x y hC) kc_X6_families_8 (by first | assumption | exact zU_same _ _ _) rfl rfl rfl rfl ky_X6_labelFamilies ⟨(Nat.le_of_ble_eq_true rfl), (Nat.le_of_ble_eq_true rfl)⟩ (Nat.le_of_ble_eq_true rfl) ⟨(Nat.le_of_ble_eq_true rfl), (Nat.le_of_ble_eq_true rfl)⟩ dX6_families_8 (fun v8 G8 hp8 => ?_)
  obtain ⟨rfl, rfl⟩ := hp8
  refine z_iconst (v := 0) C dX6_families_11 rfl ?_
  refine z_istore_n C dX6_families_12 (by decide) ?_
  refine z_iconst (v := 0) C dX6_families_13 rfl ?_
  refine z_istore C dX6_families_14 (by decide) ?_
  refine z_iload C dX6_families_16 rfl ?_
  first | refine z_rload_n C dX6_families_18 rfl ?_ | refine z_nload_n C dX6_families_18 rfl ?_ | refine z_aload_n C dX6_families_18 rfl ?_
  refine z_getf (T := TX6) (N := 8) C (by first | assumption | exact zU_same _ _ _) rfl 2 (by decide) kw_187 (Or.inl rfl) rfl dX6_families_19 ?_
  refine z_callV (q := (RJx4a65c, TJx4a65c, 3)) C (c_size l Γ G hLe) kc_X6_families_22 (by first | assumption | exact zU_same _ _ _) rfl rfl rfl rfl ky_Jx4a65c_size_8abf5 ⟨(Nat.le_of_ble_eq_true rfl), (Nat.le_of_ble_eq_true rfl)⟩ (Nat.le_of_ble_eq_true rfl) ⟨(Nat.le_of_ble_eq_true rfl), (Nat.le_of_ble_eq_true rfl)⟩ dX6_families_22 (fun v22 G22 hp22 => ?_)
  obtain ⟨rfl, rfl⟩ := hp22
  refine z_icmp_ge (tgt := 72) C dX6_families_25 (by decide) (fun h25 => ?_) (fun h25 => ?_)
  · refine z_iload_n C dX6_families_72 rfl ?_
    refine z_x F (fun Q F => ?_)
    exact z_iret C F hr (Nat.le_of_ble_eq_true rfl) (Nat.le_of_ble_eq_true rfl) ⟨rfl, hr1, rfl⟩ dX6_families_73
  · exact absurd (by decide) h25
abbrev rm_x_nearest : Room := { frames := 7, cells := 1, slots := 6, locals := 112 }
set_option maxHeartbeats 4000000 in
set_option maxRecDepth 100000 in
theorem x_nearest (l : Launch) (hst : l.stackTraces = false) (Γ : zY) (G : zG) {b : Nat} (x y z : Int32) (hC : zC0 Γ G b) : ZX l yX6_nearest cX6_nearest 9 (some FieldType.int) rm_x_nearest Γ [.ref b, .int x, .int y, .int z] G (fun v G' => some (.int (-1)) = v ∧ ¬ s_pl3 x y z = 0 ∧ G = G') (zIAE (s_pl3 x y z = 0) G) := by
  obtain ⟨ls, lp, le, w, r, q, lo, co, as, ap, ae, alo, hb, hLs, hLp, hLe, hLlo, hw⟩ := id hC
  obtain ⟨mcs, hs⟩ := hLs.at
  obtain ⟨mcp, hp⟩ := hLp.at
  obtain ⟨mce, he⟩ := hLe.at
  obtain ⟨mclo, hlo⟩ := hLlo.at
  refine z_startX (by decide +kernel) [some (.ref b), some (.int x), some (.int y), some (.int z), none, none, none, none, none] rfl (Nat.le_of_ble_eq_true rfl) ?_
  intro p e s m args below meth c Q A C F hT hr hnm
  refine z_iload_n C dX6_nearest_0 rfl ?_
  refine z_iload_n C dX6_nearest_1 rfl ?_
  refine z_iload_n C dX6_nearest_2 rfl ?_
  refine z_callSX C (x_requirePlace l hst Γ G x y z) kc_X6_nearest_3 rfl rfl ky_X6_requirePlace ⟨(Nat.le_of_ble_eq_true rfl), (Nat.le_of_ble_eq_true rfl)⟩ (Nat.le_of_ble_eq_true rfl) ⟨(Nat.le_of_ble_eq_true rfl), (Nat.le_of_ble_eq_true rfl)⟩ dX6_nearest_3 (fun E3 G3 hx3 => z_out C F hT (Nat.le_of_ble_eq_true rfl) (Nat.le_of_ble_eq_true rfl) hx3) (fun v3 G3 hp3 => ?_)
  obtain ⟨rfl, hr1, rfl⟩ := hp3
  refine z_iconst (v := (-1)) C dX6_nearest_6 rfl ?_
  refine z_istore C dX6_nearest_7 (by decide) ?_
  refine z_iconst (v := 0) C dX6_nearest_9 rfl ?_
  refine z_istore C dX6_nearest_10 (by decide) ?_
  refine z_iconst (v := 0) C dX6_nearest_12 rfl ?_
  refine z_istore C dX6_nearest_13 (by decide) ?_
  refine z_iload C dX6_nearest_15 rfl ?_
  first | refine z_rload_n C dX6_nearest_17 rfl ?_ | refine z_nload_n C dX6_nearest_17 rfl ?_ | refine z_aload_n C dX6_nearest_17 rfl ?_
  refine z_getf (T := TX6) (N := 8) C (by first | assumption | exact zU_same _ _ _) rfl 2 (by decide) kw_187 (Or.inl rfl) rfl dX6_nearest_18 ?_
  refine z_callV (q := (RJx4a65c, TJx4a65c, 3)) C (c_size l Γ G hLe) kc_X6_nearest_21 (by first | assumption | exact zU_same _ _ _) rfl rfl rfl rfl ky_Jx4a65c_size_8abf5 ⟨(Nat.le_of_ble_eq_true rfl), (Nat.le_of_ble_eq_true rfl)⟩ (Nat.le_of_ble_eq_true rfl) ⟨(Nat.le_of_ble_eq_true rfl), (Nat.le_of_ble_eq_true rfl)⟩ dX6_nearest_21 (fun v21 G21 hp21 => ?_)
  obtain ⟨rfl, rfl⟩ := hp21
  refine z_icmp_ge (tgt := 89) C dX6_nearest_24 (by decide) (fun h24 => ?_) (fun h24 => ?_)
  · refine z_iload C dX6_nearest_89 rfl ?_
    refine z_x F (fun Q F => ?_)
    exact z_iret C F hr (Nat.le_of_ble_eq_true rfl) (Nat.le_of_ble_eq_true rfl) ⟨rfl, hr1, rfl⟩ dX6_nearest_91
  · exact absurd (by decide) h24
abbrev rm_x_count : Room := { frames := 6, cells := 1, slots := 6, locals := 90 }
set_option maxHeartbeats 4000000 in
set_option maxRecDepth 100000 in
theorem x_count (l : Launch) (hst : l.stackTraces = false) (Γ : zY) (G : zG) {b : Nat} (x : Int32) (hC : zC0 Γ G b) : ZX l yX6_count cX6_count 2 (some FieldType.int) rm_x_count Γ [.ref b, .int x] G (fun v G' => some (.int 0) = v ∧ s_in x 0 4 = 1 ∧ G = G') (fun E G' => E = "java/lang/IndexOutOfBoundsException" ∧ s_in x 0 4 = 0 ∧ G = G') := by
  obtain ⟨ls, lp, le, w, r, q, lo, co, as, ap, ae, alo, hb, hLs, hLp, hLe, hLlo, hw⟩ := id hC
  obtain ⟨mcs, hs⟩ := hLs.at
  obtain ⟨mcp, hp⟩ := hLp.at
  obtain ⟨mce, he⟩ := hLe.at
  obtain ⟨mclo, hlo⟩ := hLlo.at
  refine z_startX (by decide +kernel) [some (.ref b), some (.int x)] rfl (Nat.le_of_ble_eq_true rfl) ?_
  intro p e s m args below meth c Q A C F hT hr hnm
  have t0 : (0 : Int32).toInt = 0 := by decide
  have t4 : (4 : Int32).toInt = 4 := by decide
  refine z_iload_n C dX6_count_0 rfl ?_
  by_cases hx : 0 ≤ x.toInt ∧ x.toInt ≤ 4
  · have hin : s_in x 0 4 = 1 := s_in_ok (by rw [Int32.lt_iff_toInt_lt]; omega) (by rw [gt_iff_lt, Int32.lt_iff_toInt_lt]; omega)
    obtain e0 | e1 | e2 | e3 | e4 : x.toInt = 0 ∨ x.toInt = 1 ∨ x.toInt = 2 ∨ x.toInt = 3 ∨ x.toInt = 4 := by omega
    · refine z_tabIn (tgt := 36) (of := 35) C dX6_count_1 hx.1 hx.2 (by rw [e0]; rfl) rfl ?_
      first | refine z_rload_n C dX6_count_36 rfl ?_ | refine z_nload_n C dX6_count_36 rfl ?_ | refine z_aload_n C dX6_count_36 rfl ?_
      refine z_getf (T := TX6) (N := 8) C (by first | assumption | exact zU_same _ _ _) rfl 0 (by decide) kw_185 (Or.inl rfl) rfl dX6_count_37 ?_
      refine z_callV (q := (RJx4a65c, TJx4a65c, 3)) C (c_size l Γ G hLs) kc_X6_count_40 (by first | assumption | exact zU_same _ _ _) rfl rfl rfl rfl ky_Jx4a65c_size_8abf5 ⟨(Nat.le_of_ble_eq_true rfl), (Nat.le_of_ble_eq_true rfl)⟩ (Nat.le_of_ble_eq_true rfl) ⟨(Nat.le_of_ble_eq_true rfl), (Nat.le_of_ble_eq_true rfl)⟩ dX6_count_40 (fun v40 G40 hp40 => ?_)
      obtain ⟨rfl, rfl⟩ := hp40
      refine z_x F (fun Q F => ?_)
      exact z_iret C F hr (Nat.le_of_ble_eq_true rfl) (Nat.le_of_ble_eq_true rfl) ⟨rfl, hin, rfl⟩ dX6_count_43
    · refine z_tabIn (tgt := 44) (of := 43) C dX6_count_1 hx.1 hx.2 (by rw [e1]; rfl) rfl ?_
      first | refine z_rload_n C dX6_count_44 rfl ?_ | refine z_nload_n C dX6_count_44 rfl ?_ | refine z_aload_n C dX6_count_44 rfl ?_
      refine z_getf (T := TX6) (N := 8) C (by first | assumption | exact zU_same _ _ _) rfl 1 (by decide) kw_186 (Or.inl rfl) rfl dX6_count_45 ?_
      refine z_callV (q := (RJx4a65c, TJx4a65c, 3)) C (c_size l Γ G hLp) kc_X6_count_48 (by first | assumption | exact zU_same _ _ _) rfl rfl rfl rfl ky_Jx4a65c_size_8abf5 ⟨(Nat.le_of_ble_eq_true rfl), (Nat.le_of_ble_eq_true rfl)⟩ (Nat.le_of_ble_eq_true rfl) ⟨(Nat.le_of_ble_eq_true rfl), (Nat.le_of_ble_eq_true rfl)⟩ dX6_count_48 (fun v48 G48 hp48 => ?_)
      obtain ⟨rfl, rfl⟩ := hp48
      refine z_x F (fun Q F => ?_)
      exact z_iret C F hr (Nat.le_of_ble_eq_true rfl) (Nat.le_of_ble_eq_true rfl) ⟨rfl, hin, rfl⟩ dX6_count_51
    · refine z_tabIn (tgt := 52) (of := 51) C dX6_count_1 hx.1 hx.2 (by rw [e2]; rfl) rfl ?_
      first | refine z_rload_n C dX6_count_52 rfl ?_ | refine z_nload_n C dX6_count_52 rfl ?_ | refine z_aload_n C dX6_count_52 rfl ?_
      refine z_getf (T := TX6) (N := 8) C (by first | assumption | exact zU_same _ _ _) rfl 2 (by decide) kw_187 (Or.inl rfl) rfl dX6_count_53 ?_
      refine z_callV (q := (RJx4a65c, TJx4a65c, 3)) C (c_size l Γ G hLe) kc_X6_count_56 (by first | assumption | exact zU_same _ _ _) rfl rfl rfl rfl ky_Jx4a65c_size_8abf5 ⟨(Nat.le_of_ble_eq_true rfl), (Nat.le_of_ble_eq_true rfl)⟩ (Nat.le_of_ble_eq_true rfl) ⟨(Nat.le_of_ble_eq_true rfl), (Nat.le_of_ble_eq_true rfl)⟩ dX6_count_56 (fun v56 G56 hp56 => ?_)
      obtain ⟨rfl, rfl⟩ := hp56
      refine z_x F (fun Q F => ?_)
      exact z_iret C F hr (Nat.le_of_ble_eq_true rfl) (Nat.le_of_ble_eq_true rfl) ⟨rfl, hin, rfl⟩ dX6_count_59
    · refine z_tabIn (tgt := 60) (of := 59) C dX6_count_1 hx.1 hx.2 (by rw [e3]; rfl) rfl ?_
      first | refine z_rload_n C dX6_count_60 rfl ?_ | refine z_nload_n C dX6_count_60 rfl ?_ | refine z_aload_n C dX6_count_60 rfl ?_
      refine z_callV (q := (RX6, TX6, 8)) C (x_countFound l Γ G hC) kc_X6_count_61 (by first | assumption | exact zU_same _ _ _) rfl rfl rfl rfl ky_X6_countFound ⟨(Nat.le_of_ble_eq_true rfl), (Nat.le_of_ble_eq_true rfl)⟩ (Nat.le_of_ble_eq_true rfl) ⟨(Nat.le_of_ble_eq_true rfl), (Nat.le_of_ble_eq_true rfl)⟩ dX6_count_61 (fun v61 G61 hp61 => ?_)
      obtain ⟨rfl, rfl⟩ := hp61
      refine z_x F (fun Q F => ?_)
      exact z_iret C F hr (Nat.le_of_ble_eq_true rfl) (Nat.le_of_ble_eq_true rfl) ⟨rfl, hin, rfl⟩ dX6_count_64
    · refine z_tabIn (tgt := 65) (of := 64) C dX6_count_1 hx.1 hx.2 (by rw [e4]; rfl) rfl ?_
      first | refine z_rload_n C dX6_count_65 rfl ?_ | refine z_nload_n C dX6_count_65 rfl ?_ | refine z_aload_n C dX6_count_65 rfl ?_
      refine z_callV (q := (RX6, TX6, 8)) C (x_countLoose l Γ G hC) kc_X6_count_66 (by first | assumption | exact zU_same _ _ _) rfl rfl rfl rfl ky_X6_countLoose ⟨(Nat.le_of_ble_eq_true rfl), (Nat.le_of_ble_eq_true rfl)⟩ (Nat.le_of_ble_eq_true rfl) ⟨(Nat.le_of_ble_eq_true rfl), (Nat.le_of_ble_eq_true rfl)⟩ dX6_count_66 (fun v66 G66 hp66 => ?_)
      obtain ⟨rfl, rfl⟩ := hp66
      refine z_x F (fun Q F => ?_)
      exact z_iret C F hr (Nat.le_of_ble_eq_true rfl) (Nat.le_of_ble_eq_true rfl) ⟨rfl, hin, rfl⟩ dX6_count_69
  · refine z_tabOut (tgt := 70) C dX6_count_1 (by omega) rfl ?_
    have hin : s_in x 0 4 = 0 := by
      by_cases h : x < 0
      · exact s_in_lo h
      · refine s_in_hi ?_
        rw [gt_iff_lt, Int32.lt_iff_toInt_lt]
        rw [Int32.lt_iff_toInt_lt] at h
        omega
    exact z_throw C F hT hst zt_X6_count_70 dX6_count_70 dX6_count_73 dX6_count_74 dX6_count_76 dX6_count_79 (Nat.le_of_ble_eq_true rfl) (Nat.le_of_ble_eq_true rfl) (Nat.le_of_ble_eq_true rfl) (Nat.le_of_ble_eq_true rfl) (Nat.le_of_ble_eq_true rfl) (Nat.le_of_ble_eq_true rfl) ⟨rfl, hin, rfl⟩
abbrev rm_x_setSpeeds : Room := { frames := 6, cells := 1, slots := 6, locals := 90 }
set_option maxHeartbeats 4000000 in
set_option maxRecDepth 100000 in
theorem x_setSpeeds (l : Launch) (hst : l.stackTraces = false) (Γ : zY) (G : zG) {b : Nat} (x y : Int32) (hC : zC0 Γ G b) : ZX l yX6_setSpeeds cX6_setSpeeds 4 (some FieldType.int) rm_x_setSpeeds Γ [.ref b, .int x, .int y] G (fun v G' => some (.int (x * 100 / y)) = v ∧ s_spk x y = 0 ∧ zKp G G') (zIAE (s_spk x y = 1) G) := by
  obtain ⟨ls, lp, le, w, r, q, lo, co, as, ap, ae, alo, hb, hLs, hLp, hLe, hLlo, hw⟩ := id hC
  obtain ⟨mcs, hs⟩ := hLs.at
  obtain ⟨mcp, hp⟩ := hLp.at
  obtain ⟨mce, he⟩ := hLe.at
  obtain ⟨mclo, hlo⟩ := hLlo.at
  have bw : b ≠ w := fun z => by rw [z, hw] at hb; cases hb
  have bl : le ≠ w := fun z => by rw [z, hw] at he; cases he
  refine z_startX (by decide +kernel) [some (.ref b), some (.int x), some (.int y), none] rfl (Nat.le_of_ble_eq_true rfl) ?_
  intro p e s m args below meth c Q A C F hT hr hnm
  refine z_iload_n C dX6_setSpeeds_0 rfl ?_
  refine z_sipush (v := 3000) C dX6_setSpeeds_1 rfl ?_
  refine z_icmp_lt (tgt := 14) C dX6_setSpeeds_4 (by decide) (fun h4 => ?_) (fun h4 => ?_)
  · exact z_throw C F hT hst zt_X6_setSpeeds_14 dX6_setSpeeds_14 dX6_setSpeeds_17 dX6_setSpeeds_18 dX6_setSpeeds_20 dX6_setSpeeds_23 (Nat.le_of_ble_eq_true rfl) (Nat.le_of_ble_eq_true rfl) (Nat.le_of_ble_eq_true rfl) (Nat.le_of_ble_eq_true rfl) (Nat.le_of_ble_eq_true rfl) (Nat.le_of_ble_eq_true rfl) ⟨rfl, by unfold s_spk; rw [if_pos (by first | exact s_in_lo h4 | exact s_in_hi (i_gt h11))], rfl⟩
  · refine z_iload_n C dX6_setSpeeds_7 rfl ?_
    refine z_sipush (v := 9000) C dX6_setSpeeds_8 rfl ?_
    refine z_icmp_le (tgt := 24) C dX6_setSpeeds_11 (by decide) (fun h11 => ?_) (fun h11 => ?_)
    · have hx : ¬ s_in x 3000 9000 = 0 := by rw [s_in_ok h4 (i_nlt h11)]; decide
      refine z_iload_n C dX6_setSpeeds_24 rfl ?_
      refine z_sipush (v := 150) C dX6_setSpeeds_25 rfl ?_
      refine z_icmp_lt (tgt := 38) C dX6_setSpeeds_28 (by decide) (fun h28 => ?_) (fun h28 => ?_)
      · exact z_throw C F hT hst zt_X6_setSpeeds_38 dX6_setSpeeds_38 dX6_setSpeeds_41 dX6_setSpeeds_42 dX6_setSpeeds_44 dX6_setSpeeds_47 (Nat.le_of_ble_eq_true rfl) (Nat.le_of_ble_eq_true rfl) (Nat.le_of_ble_eq_true rfl) (Nat.le_of_ble_eq_true rfl) (Nat.le_of_ble_eq_true rfl) (Nat.le_of_ble_eq_true rfl) ⟨rfl, by unfold s_spk; rw [if_neg hx, if_pos (by first | exact s_in_lo h28 | exact s_in_hi (i_gt h35))], rfl⟩
      · refine z_iload_n C dX6_setSpeeds_31 rfl ?_
        refine z_sipush (v := 200) C dX6_setSpeeds_32 rfl ?_
        refine z_icmp_le (tgt := 48) C dX6_setSpeeds_35 (by decide) (fun h35 => ?_) (fun h35 => ?_)
        · have hy : ¬ s_in y 150 200 = 0 := by rw [s_in_ok h28 (i_nlt h35)]; decide
          have hy0 : ¬ y = 0 := fun z => by rw [z] at h28; exact h28 (by decide)
          have hbw : ∀ e1 e2, zU (zU G w e1) w e2 b = some (oQB ls lp le w r q lo co) := fun e1 e2 => (zU_ne bw).trans ((zU_ne bw).trans hb)
          have hLe2 : ∀ e1 e2, zLs Γ (zU (zU G w (.inr (6, e1))) w e2) le ae [] := fun e1 e2 => (hLe.kw hw bl (.inr (6, e1))).kw (zU_same _ _ _) bl e2
          first | refine z_rload_n C dX6_setSpeeds_48 rfl ?_ | refine z_nload_n C dX6_setSpeeds_48 rfl ?_ | refine z_aload_n C dX6_setSpeeds_48 rfl ?_
          refine z_getf (T := TX6) (N := 8) C (by first | assumption | exact zU_same _ _ _) rfl 3 (by decide) kw_188 (Or.inl rfl) rfl dX6_setSpeeds_49 ?_
          refine z_iload_n C dX6_setSpeeds_52 rfl ?_
          refine z_putf (T := TX5) (N := 2) C (by first | assumption | exact zU_same _ _ _) rfl 0 (by decide) kw_125 (Or.inl rfl) rfl (tyX5_ok 0 (by decide)) rfl rfl (Nat.le_of_ble_eq_true rfl) dX6_setSpeeds_53 ?_
          first | refine z_rload_n C dX6_setSpeeds_56 rfl ?_ | refine z_nload_n C dX6_setSpeeds_56 rfl ?_ | refine z_aload_n C dX6_setSpeeds_56 rfl ?_
          refine z_getf (T := TX6) (N := 8) C ((zU_ne bw).trans hb) rfl 3 (by decide) kw_188 (Or.inl rfl) rfl dX6_setSpeeds_57 ?_
          refine z_iload_n C dX6_setSpeeds_60 rfl ?_
          refine z_bipush (v := 100) C dX6_setSpeeds_61 rfl ?_
          refine z_imul C dX6_setSpeeds_63 ?_
          refine z_iload_n C dX6_setSpeeds_64 rfl ?_
          refine z_idiv C hy0 dX6_setSpeeds_65 ?_
          refine z_putf (T := TX5) (N := 2) C (by first | assumption | exact zU_same _ _ _) rfl 1 (by decide) kw_127 (Or.inl rfl) rfl (tyX5_ok 1 (by decide)) rfl rfl (Nat.le_of_ble_eq_true rfl) dX6_setSpeeds_66 ?_
          refine z_iconst (v := 0) C dX6_setSpeeds_69 rfl ?_
          refine z_istore_n C dX6_setSpeeds_70 (by decide) ?_
          refine z_iload_n C dX6_setSpeeds_71 rfl ?_
          first | refine z_rload_n C dX6_setSpeeds_72 rfl ?_ | refine z_nload_n C dX6_setSpeeds_72 rfl ?_ | refine z_aload_n C dX6_setSpeeds_72 rfl ?_
          refine z_getf (T := TX6) (N := 8) C (hbw _ _) rfl 2 (by decide) kw_187 (Or.inl rfl) rfl dX6_setSpeeds_73 ?_
          refine z_callV (q := (RJx4a65c, TJx4a65c, 3)) C (c_size l Γ _ (hLe2 _ _)) kc_X6_setSpeeds_76 ((zU_ne bl).trans ((zU_ne bl).trans he)) rfl rfl rfl rfl ky_Jx4a65c_size_8abf5 ⟨(Nat.le_of_ble_eq_true rfl), (Nat.le_of_ble_eq_true rfl)⟩ (Nat.le_of_ble_eq_true rfl) ⟨(Nat.le_of_ble_eq_true rfl), (Nat.le_of_ble_eq_true rfl)⟩ dX6_setSpeeds_76 (fun v76 G76 hp76 => ?_)
          obtain ⟨rfl, rfl⟩ := hp76
          refine z_icmp_ge (tgt := 103) C dX6_setSpeeds_79 (by decide) (fun h79 => ?_) (fun h79 => ?_)
          · first | refine z_rload_n C dX6_setSpeeds_103 rfl ?_ | refine z_nload_n C dX6_setSpeeds_103 rfl ?_ | refine z_aload_n C dX6_setSpeeds_103 rfl ?_
            refine z_getf (T := TX6) (N := 8) C (hbw _ _) rfl 3 (by decide) kw_188 (Or.inl rfl) rfl dX6_setSpeeds_104 ?_
            refine z_getf (T := TX5) (N := 2) C (by first | assumption | exact zU_same _ _ _) rfl 1 (by decide) kw_127 (Or.inl rfl) rfl dX6_setSpeeds_107 ?_
            refine z_x F (fun Q F => ?_)
            exact z_iret C F hr (Nat.le_of_ble_eq_true rfl) (Nat.le_of_ble_eq_true rfl) ⟨rfl, by unfold s_spk; rw [if_neg hx, if_neg hy], fun q e hq hk => (zU_ne (fun z => by subst z; rw [hw] at hq; cases hq; exact absurd hk (by intro h; change (6 : Nat) = 8 at h; omega))).trans ((zU_ne (fun z => by subst z; rw [hw] at hq; cases hq; exact absurd hk (by intro h; change (6 : Nat) = 8 at h; omega))).trans hq)⟩ dX6_setSpeeds_110
          · exact absurd (by decide) h79
        · exact z_throw C F hT hst zt_X6_setSpeeds_38 dX6_setSpeeds_38 dX6_setSpeeds_41 dX6_setSpeeds_42 dX6_setSpeeds_44 dX6_setSpeeds_47 (Nat.le_of_ble_eq_true rfl) (Nat.le_of_ble_eq_true rfl) (Nat.le_of_ble_eq_true rfl) (Nat.le_of_ble_eq_true rfl) (Nat.le_of_ble_eq_true rfl) (Nat.le_of_ble_eq_true rfl) ⟨rfl, by unfold s_spk; rw [if_neg hx, if_pos (by first | exact s_in_lo h28 | exact s_in_hi (i_gt h35))], rfl⟩
    · exact z_throw C F hT hst zt_X6_setSpeeds_14 dX6_setSpeeds_14 dX6_setSpeeds_17 dX6_setSpeeds_18 dX6_setSpeeds_20 dX6_setSpeeds_23 (Nat.le_of_ble_eq_true rfl) (Nat.le_of_ble_eq_true rfl) (Nat.le_of_ble_eq_true rfl) (Nat.le_of_ble_eq_true rfl) (Nat.le_of_ble_eq_true rfl) (Nat.le_of_ble_eq_true rfl) ⟨rfl, by unfold s_spk; rw [if_pos (by first | exact s_in_lo h4 | exact s_in_hi (i_gt h11))], rfl⟩
abbrev rm_x_order : Room := { frames := 1, cells := 0, slots := 0, locals := 23 }
set_option maxHeartbeats 4000000 in
set_option maxRecDepth 100000 in
theorem x_order (l : Launch) (Γ : zY) (G : zG) {b : Nat} (hC : zC0 Γ G b) : ZM l yX6_orderLoosePicks cX6_orderLoosePicks 4 (none) rm_x_order Γ [.ref b] G (fun v G' => none = v ∧ zKp G G' ∧ ∃ ls lp le w r q lo co alo, G' b = some (oQB ls lp le w r q lo co) ∧ zLs Γ G' lo alo []) := by
  obtain ⟨ls, lp, le, w, r, q, lo, co, as, ap, ae, alo, hb, hLs, hLp, hLe, hLlo, hw⟩ := id hC
  obtain ⟨mcs, hs⟩ := hLs.at
  obtain ⟨mcp, hp⟩ := hLp.at
  obtain ⟨mce, he⟩ := hLe.at
  obtain ⟨mclo, hlo⟩ := hLlo.at
  have bo : b ≠ lo := fun z => by rw [z, hlo] at hb; cases hb
  refine z_start (by decide +kernel) [some (.ref b), none, none, none] rfl (Nat.le_of_ble_eq_true rfl) ?_
  intro p e s m args below meth c Q A C F hr hnm
  refine z_et C (fun het => ?_)
  first | refine z_rload_n C dX6_orderLoosePicks_0 rfl ?_ | refine z_nload_n C dX6_orderLoosePicks_0 rfl ?_ | refine z_aload_n C dX6_orderLoosePicks_0 rfl ?_
  refine z_getf (T := TX6) (N := 8) C (by first | assumption | exact zU_same _ _ _) rfl 6 (by decide) kw_191 (Or.inl rfl) rfl dX6_orderLoosePicks_1 ?_
  refine z_callV (q := (RJx4a65c, TJx4a65c, 3)) C (c_clear l Γ G hLlo) kc_X6_orderLoosePicks_4 (by first | assumption | exact zU_same _ _ _) rfl rfl rfl rfl ky_Jx4a65c_clear_da8c8 ⟨(Nat.le_of_ble_eq_true rfl), (Nat.le_of_ble_eq_true rfl)⟩ (Nat.le_of_ble_eq_true rfl) ⟨(Nat.le_of_ble_eq_true rfl), (Nat.le_of_ble_eq_true rfl)⟩ dX6_orderLoosePicks_4 (fun v4 G4 hp4 => ?_)
  obtain ⟨rfl, hL2, hk⟩ := hp4
  have hb2 : G4 b = some (oQB ls lp le w r q lo co) := (hk b bo (hLlo.na het hb (fun _ _ z => by cases z))).trans hb
  have hLp2 : zLs Γ G4 lp (if lp = lo then alo else ap) [] := by
    by_cases h : lp = lo
    · rw [if_pos h, h]; exact hL2
    · rw [if_neg h]
      obtain ⟨mc9, cap9, h1, h2, h3, h4⟩ := hLp
      have hlp4 := (hk lp h (hLlo.na het h1 (fun _ _ z => by cases z))).trans h1
      rcases h4 with h4 | ⟨h4, f9, h5, h6⟩
      · exact ⟨mc9, cap9, hlp4, h2, h3, Or.inl h4⟩
      · by_cases h7 : ap = alo
        · obtain ⟨mc8, cap8, g1, g2, g3, g4⟩ := hL2
          rcases g4 with ⟨g4, -⟩ | ⟨g4, f8, g5, g6⟩
          · rw [h7, g4, het] at h5; cases h5
          · exact ⟨mc9, cap8, hlp4, Nat.zero_le _, g3, Or.inr ⟨g4, f8, by rw [h7]; exact g5, fun i hi => absurd hi (Nat.not_lt_zero i)⟩⟩
        · exact ⟨mc9, cap9, hlp4, h2, h3, Or.inr ⟨h4, f9, (hk ap (zG_ne h5 hlo (fun z => by cases z)) h7).trans h5, h6⟩⟩
  obtain ⟨mcp2, hp2⟩ := hLp2.at
  refine z_iconst (v := 0) C dX6_orderLoosePicks_7 rfl ?_
  refine z_istore_n C dX6_orderLoosePicks_8 (by decide) ?_
  refine z_iload_n C dX6_orderLoosePicks_9 rfl ?_
  first | refine z_rload_n C dX6_orderLoosePicks_10 rfl ?_ | refine z_nload_n C dX6_orderLoosePicks_10 rfl ?_ | refine z_aload_n C dX6_orderLoosePicks_10 rfl ?_
  refine z_getf (T := TX6) (N := 8) C (by first | assumption | exact zU_same _ _ _) rfl 1 (by decide) kw_186 (Or.inl rfl) rfl dX6_orderLoosePicks_11 ?_
  refine z_callV (q := (RJx4a65c, TJx4a65c, 3)) C (c_size l Γ _ hLp2) kc_X6_orderLoosePicks_14 hp2 rfl rfl rfl rfl ky_Jx4a65c_size_8abf5 ⟨(Nat.le_of_ble_eq_true rfl), (Nat.le_of_ble_eq_true rfl)⟩ (Nat.le_of_ble_eq_true rfl) ⟨(Nat.le_of_ble_eq_true rfl), (Nat.le_of_ble_eq_true rfl)⟩ dX6_orderLoosePicks_14 (fun v14 G14 hp14 => ?_)
  obtain ⟨rfl, rfl⟩ := hp14
  refine z_icmp_ge (tgt := 95) C dX6_orderLoosePicks_17 (by decide) (fun h17 => ?_) (fun h17 => ?_)
  · exact z_vret C F hr (Nat.le_of_ble_eq_true rfl) (Nat.le_of_ble_eq_true rfl) ⟨rfl, fun q e hq he => (hk q (zKp.al hlo hq he) (hLlo.na het hq (fun _ _ z => by subst z; exact he))).trans hq, _, _, _, _, _, _, _, _, _, hb2, hL2⟩ dX6_orderLoosePicks_95
  · exact absurd (by decide) h17
abbrev rm_x_associate : Room := { frames := 2, cells := 0, slots := 0, locals := 46 }
set_option maxHeartbeats 4000000 in
set_option maxRecDepth 100000 in
theorem x_associate (l : Launch) (Γ : zY) (G : zG) {b : Nat} (hC : zC0 Γ G b) : ZM l yX6_associate cX6_associate 5 (some FieldType.int) rm_x_associate Γ [.ref b] G (fun v G' => some (.int 0) = v ∧ zKp G G') := by
  obtain ⟨ls, lp, le, w, r, q, lo, co, as, ap, ae, alo, hb, hLs, hLp, hLe, hLlo, hw⟩ := id hC
  obtain ⟨mcs, hs⟩ := hLs.at
  obtain ⟨mcp, hp⟩ := hLp.at
  obtain ⟨mce, he⟩ := hLe.at
  obtain ⟨mclo, hlo⟩ := hLlo.at
  refine z_start (by decide +kernel) [some (.ref b), none, none, none, none] rfl (Nat.le_of_ble_eq_true rfl) ?_
  intro p e s m args below meth c Q A C F hr hnm
  first | refine z_rload_n C dX6_associate_0 rfl ?_ | refine z_nload_n C dX6_associate_0 rfl ?_ | refine z_aload_n C dX6_associate_0 rfl ?_
  refine z_callV (q := (RX6, TX6, 8)) C (x_order l Γ G hC) kc_X6_associate_1 (by first | assumption | exact zU_same _ _ _) rfl rfl rfl rfl ky_X6_orderLoosePicks ⟨(Nat.le_of_ble_eq_true rfl), (Nat.le_of_ble_eq_true rfl)⟩ (Nat.le_of_ble_eq_true rfl) ⟨(Nat.le_of_ble_eq_true rfl), (Nat.le_of_ble_eq_true rfl)⟩ dX6_associate_1 (fun v1 G1 hp1 => ?_)
  obtain ⟨rfl, hkp, ls2, lp2, le2, w2, r2, q2, lo2, co2, alo2, hb2, hL2⟩ := hp1
  obtain ⟨mc2, hlo2⟩ := hL2.at
  refine z_iconst (v := 0) C dX6_associate_4 rfl ?_
  refine z_istore_n C dX6_associate_5 (by decide) ?_
  refine z_iconst (v := 0) C dX6_associate_6 rfl ?_
  refine z_istore_n C dX6_associate_7 (by decide) ?_
  refine z_iload_n C dX6_associate_8 rfl ?_
  first | refine z_rload_n C dX6_associate_9 rfl ?_ | refine z_nload_n C dX6_associate_9 rfl ?_ | refine z_aload_n C dX6_associate_9 rfl ?_
  refine z_getf (T := TX6) (N := 8) C (by first | assumption | exact zU_same _ _ _) rfl 6 (by decide) kw_191 (Or.inl rfl) rfl dX6_associate_10 ?_
  refine z_callV (q := (RJx4a65c, TJx4a65c, 3)) C (c_size l Γ _ hL2) kc_X6_associate_13 (by first | assumption | exact zU_same _ _ _) rfl rfl rfl rfl ky_Jx4a65c_size_8abf5 ⟨(Nat.le_of_ble_eq_true rfl), (Nat.le_of_ble_eq_true rfl)⟩ (Nat.le_of_ble_eq_true rfl) ⟨(Nat.le_of_ble_eq_true rfl), (Nat.le_of_ble_eq_true rfl)⟩ dX6_associate_13 (fun v13 G13 hp13 => ?_)
  obtain ⟨rfl, rfl⟩ := hp13
  refine z_icmp_ge (tgt := 134) C dX6_associate_16 (by decide) (fun h16 => ?_) (fun h16 => ?_)
  · refine z_iload_n C dX6_associate_134 rfl ?_
    exact z_iret C F hr (Nat.le_of_ble_eq_true rfl) (Nat.le_of_ble_eq_true rfl) ⟨rfl, hkp⟩ dX6_associate_135
  · exact absurd (by decide) h16
abbrev rm_x_addStation : Room := { frames := 7, cells := 2, slots := 37, locals := 171 }
set_option maxHeartbeats 4000000 in
set_option maxRecDepth 100000 in
theorem x_addStation (l : Launch) (hst : l.stackTraces = false) (Γ : zY) (G : zG) {b : Nat} (x y : Int32) (hC : zC0 Γ G b) : ZX l yX6_addStation cX6_addStation 4 (some FieldType.int) rm_x_addStation Γ [.ref b, .int x, .int y] G (fun v G' => some (.int 0) = v ∧ s_xyk x y = 0 ∧ zKp G G') (zIAE (s_xyk x y = 1) G) := by
  obtain ⟨ls, lp, le, w, r, q, lo, co, as, ap, ae, alo, hb, hLs, hLp, hLe, hLlo, hw⟩ := id hC
  obtain ⟨mcs, hs⟩ := hLs.at
  obtain ⟨mcp, hp⟩ := hLp.at
  obtain ⟨mce, he⟩ := hLe.at
  obtain ⟨mclo, hlo⟩ := hLlo.at
  rw [s_pl_xy]
  refine z_startX (by decide +kernel) [some (.ref b), some (.int x), some (.int y), none] rfl (Nat.le_of_ble_eq_true rfl) ?_
  intro p e s m args below meth c Q A C F hT hr hnm
  refine z_et C (fun het => ?_)
  refine z_iload_n C dX6_addStation_0 rfl ?_
  refine z_iload_n C dX6_addStation_1 rfl ?_
  refine z_iconst (v := 0) C dX6_addStation_2 rfl ?_
  refine z_callS C (c_isPlace l Γ _ x y 0) kc_X6_addStation_3 rfl rfl ky_X6_isPlace ⟨(Nat.le_of_ble_eq_true rfl), (Nat.le_of_ble_eq_true rfl)⟩ (Nat.le_of_ble_eq_true rfl) ⟨(Nat.le_of_ble_eq_true rfl), (Nat.le_of_ble_eq_true rfl)⟩ dX6_addStation_3 (fun v3 G3 hp3 => ?_)
  obtain ⟨rfl, rfl⟩ := hp3
  refine z_if_ne (tgt := 19) C dX6_addStation_6 (by decide) (fun h6 => ?_) (fun h6 => ?_)
  · first | refine z_rload_n C dX6_addStation_19 rfl ?_ | refine z_nload_n C dX6_addStation_19 rfl ?_ | refine z_aload_n C dX6_addStation_19 rfl ?_
    refine z_getf (T := TX6) (N := 8) C (by first | assumption | exact zU_same _ _ _) rfl 0 (by decide) kw_185 (Or.inl rfl) rfl dX6_addStation_20 ?_
    refine z_callV (q := (RJx4a65c, TJx4a65c, 3)) C (c_size l Γ _ hLs) kc_X6_addStation_23 (by first | assumption | exact zU_same _ _ _) rfl rfl rfl rfl ky_Jx4a65c_size_8abf5 ⟨(Nat.le_of_ble_eq_true rfl), (Nat.le_of_ble_eq_true rfl)⟩ (Nat.le_of_ble_eq_true rfl) ⟨(Nat.le_of_ble_eq_true rfl), (Nat.le_of_ble_eq_true rfl)⟩ dX6_addStation_23 (fun v23 G23 hp23 => ?_)
    obtain ⟨rfl, rfl⟩ := hp23
    refine z_bipush (v := 10) C dX6_addStation_26 rfl ?_
    refine z_icmp_lt (tgt := 41) C dX6_addStation_28 (by decide) (fun h28 => ?_) (fun h28 => ?_)
    · first | refine z_rload_n C dX6_addStation_41 rfl ?_ | refine z_nload_n C dX6_addStation_41 rfl ?_ | refine z_aload_n C dX6_addStation_41 rfl ?_
      refine z_getf (T := TX6) (N := 8) C (by first | assumption | exact zU_same _ _ _) rfl 0 (by decide) kw_185 (Or.inl rfl) rfl dX6_addStation_42 ?_
      refine z_callV (q := (RJx4a65c, TJx4a65c, 3)) C (c_size l Γ _ hLs) kc_X6_addStation_45 (by first | assumption | exact zU_same _ _ _) rfl rfl rfl rfl ky_Jx4a65c_size_8abf5 ⟨(Nat.le_of_ble_eq_true rfl), (Nat.le_of_ble_eq_true rfl)⟩ (Nat.le_of_ble_eq_true rfl) ⟨(Nat.le_of_ble_eq_true rfl), (Nat.le_of_ble_eq_true rfl)⟩ dX6_addStation_45 (fun v45 G45 hp45 => ?_)
      obtain ⟨rfl, rfl⟩ := hp45
      refine z_istore_n C dX6_addStation_48 (by decide) ?_
      first | refine z_rload_n C dX6_addStation_49 rfl ?_ | refine z_nload_n C dX6_addStation_49 rfl ?_ | refine z_aload_n C dX6_addStation_49 rfl ?_
      refine z_getf (T := TX6) (N := 8) C (by first | assumption | exact zU_same _ _ _) rfl 0 (by decide) kw_185 (Or.inl rfl) rfl dX6_addStation_50 ?_
      refine z_new (ci := 5) (fs := [.int 0, .int 0, .int 0, .int 0]) C kn_X6_addStation_53 rfl tyX4 tyX4_ok (fun j hj => by match j, hj with | 0, _ => rfl | 1, _ => rfl | 2, _ => rfl | 3, _ => rfl) (Nat.le_of_ble_eq_true rfl) (Nat.le_of_ble_eq_true rfl) dX6_addStation_53 (fun a53 n53 => ?_)
      refine z_dup C rfl dX6_addStation_56 ?_
      refine z_iload_n C dX6_addStation_57 rfl ?_
      refine z_iload_n C dX6_addStation_58 rfl ?_
      refine z_iload_n C dX6_addStation_59 rfl ?_
      refine z_callI C (c_Sta_init l Γ _ (nI 0) x y (zU_same _ _ _)) kc_X6_addStation_60 rfl rfl rfl ky_X4_init ⟨(Nat.le_of_ble_eq_true rfl), (Nat.le_of_ble_eq_true rfl)⟩ (Nat.le_of_ble_eq_true rfl) ⟨(Nat.le_of_ble_eq_true rfl), (Nat.le_of_ble_eq_true rfl)⟩ dX6_addStation_60 (fun v60 G60 hp60 => ?_)
      obtain ⟨rfl, rfl⟩ := hp60
      have ne : a53 ≠ ls := (zG_nn hs n53).symm
      rw [zU_zU]
      have hLs2 : zLs Γ (zU G a53 (oSta (nI 0) x y 0)) ls as [] := hLs.kn (fun q e hq => zU_new hq n53)
      refine z_et C (fun het2 => ?_)
      refine z_callV (q := (RJx4a65c, TJx4a65c, 3)) C (c_add l Γ _ hLs2 (by decide) (fun y hy => nomatch hy) ⟨_, _, _, zU_same _ _ _, rfl⟩ ne (fun h => nomatch h)) kc_X6_addStation_63 ((zU_ne ne.symm).trans hs) rfl rfl rfl rfl ky_Jx4a65c_add_9ea2d ⟨(Nat.le_of_ble_eq_true rfl), (Nat.le_of_ble_eq_true rfl)⟩ (Nat.le_of_ble_eq_true rfl) ⟨(Nat.le_of_ble_eq_true rfl), (Nat.le_of_ble_eq_true rfl)⟩ dX6_addStation_63 (fun v63 G63 hp63 => ?_)
      obtain ⟨rfl, had⟩ := hp63
      refine z_pop C rfl dX6_addStation_66 ?_
      refine z_iload_n C dX6_addStation_67 rfl ?_
      refine z_x F (fun Q F => ?_)
      exact z_iret C F hr (Nat.le_of_ble_eq_true rfl) (Nat.le_of_ble_eq_true rfl) ⟨rfl, by unfold s_not; rw [if_neg h6], (zKp.nw n53).tr (had.kp hLs2 het2)⟩ dX6_addStation_68
    · exact absurd (by decide) h28
  · exact z_throw C F hT hst zt_X6_addStation_9 dX6_addStation_9 dX6_addStation_12 dX6_addStation_13 dX6_addStation_15 dX6_addStation_18 (Nat.le_of_ble_eq_true rfl) (Nat.le_of_ble_eq_true rfl) (Nat.le_of_ble_eq_true rfl) (Nat.le_of_ble_eq_true rfl) (Nat.le_of_ble_eq_true rfl) (Nat.le_of_ble_eq_true rfl) ⟨rfl, by unfold s_not; rw [if_pos h6], rfl⟩
abbrev rm_x_openEvent : Room := { frames := 7, cells := 3, slots := 44, locals := 171 }
set_option maxHeartbeats 4000000 in
set_option maxRecDepth 100000 in
theorem x_openEvent (l : Launch) (Γ : zY) (G : zG) {b : Nat} (hC : zC0 Γ G b) : ZM l yX6_openEvent cX6_openEvent 2 (some (FieldType.object "QuakeBench$Event")) rm_x_openEvent Γ [.ref b] G (fun v G' => ∃ ev ml, some (.ref ev) = v ∧ G' ev = some (oEv 0 ml 0 0 0 0 0 0) ∧ zKp G G') := by
  obtain ⟨ls, lp, le, w, r, q, lo, co, as, ap, ae, alo, hb, hLs, hLp, hLe, hLlo, hw⟩ := id hC
  obtain ⟨mcs, hs⟩ := hLs.at
  obtain ⟨mcp, hp⟩ := hLp.at
  obtain ⟨mce, he⟩ := hLe.at
  obtain ⟨mclo, hlo⟩ := hLlo.at
  refine z_start (by decide +kernel) [some (.ref b), none] rfl (Nat.le_of_ble_eq_true rfl) ?_
  intro p e s m args below meth c Q A C F hr hnm
  refine z_et C (fun het => ?_)
  refine z_new (ci := 1) (fs := [.int 0, .null, .int 0, .int 0, .int 0, .int 0, .int 0, .int 0]) C kn_X6_openEvent_0 rfl tyX0 tyX0_ok (fun j hj => by match j, hj with | 0, _ => rfl | 1, _ => rfl | 2, _ => rfl | 3, _ => rfl | 4, _ => rfl | 5, _ => rfl | 6, _ => rfl | 7, _ => rfl) (Nat.le_of_ble_eq_true rfl) (Nat.le_of_ble_eq_true rfl) dX6_openEvent_0 (fun a0 n0 => ?_)
  refine z_dup C rfl dX6_openEvent_3 ?_
  first | refine z_rload_n C dX6_openEvent_4 rfl ?_ | refine z_nload_n C dX6_openEvent_4 rfl ?_ | refine z_aload_n C dX6_openEvent_4 rfl ?_
  refine z_getf (T := TX6) (N := 8) C (zU_new hb n0) rfl 2 (by decide) kw_187 (Or.inl rfl) rfl dX6_openEvent_5 ?_
  refine z_callV (q := (RJx4a65c, TJx4a65c, 3)) C (c_size l Γ _ (hLe.kn (fun q e hq => zU_new hq n0))) kc_X6_openEvent_8 (zU_new he n0) rfl rfl rfl rfl ky_Jx4a65c_size_8abf5 ⟨(Nat.le_of_ble_eq_true rfl), (Nat.le_of_ble_eq_true rfl)⟩ (Nat.le_of_ble_eq_true rfl) ⟨(Nat.le_of_ble_eq_true rfl), (Nat.le_of_ble_eq_true rfl)⟩ dX6_openEvent_8 (fun v8 G8 hp8 => ?_)
  obtain ⟨rfl, rfl⟩ := hp8
  refine z_callI C (c_Ev_init l Γ _ (nI 0) (zU_same _ _ _)) kc_X6_openEvent_11 rfl rfl rfl ky_X0_init ⟨(Nat.le_of_ble_eq_true rfl), (Nat.le_of_ble_eq_true rfl)⟩ (Nat.le_of_ble_eq_true rfl) ⟨(Nat.le_of_ble_eq_true rfl), (Nat.le_of_ble_eq_true rfl)⟩ dX6_openEvent_11 (fun v11 G11 hp11 => ?_)
  obtain ⟨rfl, ml, hml, hev, hmv, hk⟩ := hp11
  have k11 : ∀ q e, G q = some e → G11 q = some e := fun q e hq => by
    have h1 := zU_new (e := (.inr (1, [.int 0, .null, .int 0, .int 0, .int 0, .int 0, .int 0, .int 0]))) hq n0
    exact (hk q (zG_nn hq n0) (zG_nn h1 hml)).trans h1
  have he2 := k11 _ _ he
  have ne : a0 ≠ le := (zG_nn he n0).symm
  refine z_et C (fun het2 => ?_)
  first | refine z_rstore_n C dX6_openEvent_14 (by decide) ?_ | refine z_nstore_n C dX6_openEvent_14 (by decide) ?_ | refine z_astore_n C dX6_openEvent_14 (by decide) ?_
  first | refine z_rload_n C dX6_openEvent_15 rfl ?_ | refine z_nload_n C dX6_openEvent_15 rfl ?_ | refine z_aload_n C dX6_openEvent_15 rfl ?_
  refine z_getf (T := TX6) (N := 8) C (k11 _ _ hb) rfl 2 (by decide) kw_187 (Or.inl rfl) rfl dX6_openEvent_16 ?_
  first | refine z_rload_n C dX6_openEvent_19 rfl ?_ | refine z_nload_n C dX6_openEvent_19 rfl ?_ | refine z_aload_n C dX6_openEvent_19 rfl ?_
  refine z_callV (q := (RJx4a65c, TJx4a65c, 3)) C (c_add l Γ _ (hLe.kn k11) (by decide) (fun y hy => nomatch hy) ⟨_, _, _, hev, rfl⟩ ne (fun h => nomatch h)) kc_X6_openEvent_20 he2 rfl rfl rfl rfl ky_Jx4a65c_add_9ea2d ⟨(Nat.le_of_ble_eq_true rfl), (Nat.le_of_ble_eq_true rfl)⟩ (Nat.le_of_ble_eq_true rfl) ⟨(Nat.le_of_ble_eq_true rfl), (Nat.le_of_ble_eq_true rfl)⟩ dX6_openEvent_20 (fun v20 G20 hp20 => ?_)
  obtain ⟨rfl, had⟩ := hp20
  refine z_pop C rfl dX6_openEvent_23 ?_
  first | refine z_rload_n C dX6_openEvent_24 rfl ?_ | refine z_nload_n C dX6_openEvent_24 rfl ?_ | refine z_aload_n C dX6_openEvent_24 rfl ?_
  exact z_rret C F hr (Or.inl ⟨_, rfl⟩) (Nat.le_of_ble_eq_true rfl) (Nat.le_of_ble_eq_true rfl) ⟨a0, ml, rfl, by obtain ⟨arr', h1, h2, h3⟩ := had; exact (h3 a0 ne (by rcases h1 with rfl | h1; exact (hLe.kn k11).na het2 hev (fun _ _ z => by cases z); exact zG_nn hev h1)).trans hev, zKp.tr (fun q e hq _ => k11 q e hq) (had.kp (hLe.kn k11) het2)⟩ dX6_openEvent_25
abbrev rm_x_addEvent : Room := { frames := 8, cells := 3, slots := 44, locals := 192 }
set_option maxHeartbeats 4000000 in
set_option maxRecDepth 100000 in
theorem x_addEvent (l : Launch) (hst : l.stackTraces = false) (Γ : zY) (G : zG) {b : Nat} (hC : zC0 Γ G b) : ZX l yX6_addEvent cX6_addEvent 1 (some FieldType.int) rm_x_addEvent Γ [.ref b] G (fun v G' => some (.int 0) = v ∧ zKp G G') (fun _ _ => False) := by
  obtain ⟨ls, lp, le, w, r, q, lo, co, as, ap, ae, alo, hb, hLs, hLp, hLe, hLlo, hw⟩ := id hC
  obtain ⟨mcs, hs⟩ := hLs.at
  obtain ⟨mcp, hp⟩ := hLp.at
  obtain ⟨mce, he⟩ := hLe.at
  obtain ⟨mclo, hlo⟩ := hLlo.at
  refine z_startX (by decide +kernel) [some (.ref b)] rfl (Nat.le_of_ble_eq_true rfl) ?_
  intro p e s m args below meth c Q A C F hT hr hnm
  first | refine z_rload_n C dX6_addEvent_0 rfl ?_ | refine z_nload_n C dX6_addEvent_0 rfl ?_ | refine z_aload_n C dX6_addEvent_0 rfl ?_
  refine z_getf (T := TX6) (N := 8) C (by first | assumption | exact zU_same _ _ _) rfl 2 (by decide) kw_187 (Or.inl rfl) rfl dX6_addEvent_1 ?_
  refine z_callV (q := (RJx4a65c, TJx4a65c, 3)) C (c_size l Γ _ hLe) kc_X6_addEvent_4 (by first | assumption | exact zU_same _ _ _) rfl rfl rfl rfl ky_Jx4a65c_size_8abf5 ⟨(Nat.le_of_ble_eq_true rfl), (Nat.le_of_ble_eq_true rfl)⟩ (Nat.le_of_ble_eq_true rfl) ⟨(Nat.le_of_ble_eq_true rfl), (Nat.le_of_ble_eq_true rfl)⟩ dX6_addEvent_4 (fun v4 G4 hp4 => ?_)
  obtain ⟨rfl, rfl⟩ := hp4
  refine z_bipush (v := 12) C dX6_addEvent_7 rfl ?_
  refine z_icmp_lt (tgt := 22) C dX6_addEvent_9 (by decide) (fun h9 => ?_) (fun h9 => ?_)
  · first | refine z_rload_n C dX6_addEvent_22 rfl ?_ | refine z_nload_n C dX6_addEvent_22 rfl ?_ | refine z_aload_n C dX6_addEvent_22 rfl ?_
    refine z_callV (q := (RX6, TX6, 8)) C (x_openEvent l Γ G hC) kc_X6_addEvent_23 (by first | assumption | exact zU_same _ _ _) rfl rfl rfl rfl ky_X6_openEvent ⟨(Nat.le_of_ble_eq_true rfl), (Nat.le_of_ble_eq_true rfl)⟩ (Nat.le_of_ble_eq_true rfl) ⟨(Nat.le_of_ble_eq_true rfl), (Nat.le_of_ble_eq_true rfl)⟩ dX6_addEvent_23 (fun v23 G23 hp23 => ?_)
    obtain ⟨ev, ml, rfl, hev, hkp⟩ := hp23
    refine z_getf (T := TX0) (N := 8) C (by first | assumption | exact zU_same _ _ _) rfl 0 (by decide) kw_685 (Or.inl rfl) rfl dX6_addEvent_26 ?_
    refine z_x F (fun Q F => ?_)
    exact z_iret C F hr (Nat.le_of_ble_eq_true rfl) (Nat.le_of_ble_eq_true rfl) ⟨rfl, hkp⟩ dX6_addEvent_29
  · exact absurd (by decide) h9
abbrev rm_x_digest : Room := { frames := 2, cells := 0, slots := 0, locals := 42 }
set_option maxHeartbeats 4000000 in
set_option maxRecDepth 100000 in
theorem x_digest (l : Launch) (Γ : zY) (G : zG) {b : Nat} (hC : zC0 Γ G b) : ZM l yX6_digest cX6_digest 4 (some FieldType.long) rm_x_digest Γ [.ref b] G (zRd G (.long s_dig)) := by
  obtain ⟨ls, lp, le, w, r, q, lo, co, as, ap, ae, alo, hb, hLs, hLp, hLe, hLlo, hw⟩ := id hC
  obtain ⟨mcs, hs⟩ := hLs.at
  obtain ⟨mcp, hp⟩ := hLp.at
  obtain ⟨mce, he⟩ := hLe.at
  obtain ⟨mclo, hlo⟩ := hLlo.at
  refine z_start (by decide +kernel) [some (.ref b), none, none, none] rfl (Nat.le_of_ble_eq_true rfl) ?_
  intro p e s m args below meth c Q A C F hr hnm
  refine z_ldc2 C kw_772 dX6_digest_0 ?_
  refine z_lstore_n C dX6_digest_3 (by decide) ?_
  refine z_lload_n C dX6_digest_4 rfl ?_
  refine z_ldc2 C kw_773 dX6_digest_5 ?_
  refine z_lmul C dX6_digest_8 ?_
  first | refine z_rload_n C dX6_digest_9 rfl ?_ | refine z_nload_n C dX6_digest_9 rfl ?_ | refine z_aload_n C dX6_digest_9 rfl ?_
  refine z_getf (T := TX6) (N := 8) C (by first | assumption | exact zU_same _ _ _) rfl 0 (by decide) kw_185 (Or.inl rfl) rfl dX6_digest_10 ?_
  refine z_callV (q := (RJx4a65c, TJx4a65c, 3)) C (c_size l Γ _ hLs) kc_X6_digest_13 (by first | assumption | exact zU_same _ _ _) rfl rfl rfl rfl ky_Jx4a65c_size_8abf5 ⟨(Nat.le_of_ble_eq_true rfl), (Nat.le_of_ble_eq_true rfl)⟩ (Nat.le_of_ble_eq_true rfl) ⟨(Nat.le_of_ble_eq_true rfl), (Nat.le_of_ble_eq_true rfl)⟩ dX6_digest_13 (fun v13 G13 hp13 => ?_)
  obtain ⟨rfl, rfl⟩ := hp13
  refine z_i2l C dX6_digest_16 ?_
  refine z_ladd C dX6_digest_17 ?_
  refine z_lstore_n C dX6_digest_18 (by decide) ?_
  refine z_lload_n C dX6_digest_19 rfl ?_
  refine z_ldc2 C kw_773 dX6_digest_20 ?_
  refine z_lmul C dX6_digest_23 ?_
  first | refine z_rload_n C dX6_digest_24 rfl ?_ | refine z_nload_n C dX6_digest_24 rfl ?_ | refine z_aload_n C dX6_digest_24 rfl ?_
  refine z_getf (T := TX6) (N := 8) C (by first | assumption | exact zU_same _ _ _) rfl 1 (by decide) kw_186 (Or.inl rfl) rfl dX6_digest_25 ?_
  refine z_callV (q := (RJx4a65c, TJx4a65c, 3)) C (c_size l Γ _ hLp) kc_X6_digest_28 (by first | assumption | exact zU_same _ _ _) rfl rfl rfl rfl ky_Jx4a65c_size_8abf5 ⟨(Nat.le_of_ble_eq_true rfl), (Nat.le_of_ble_eq_true rfl)⟩ (Nat.le_of_ble_eq_true rfl) ⟨(Nat.le_of_ble_eq_true rfl), (Nat.le_of_ble_eq_true rfl)⟩ dX6_digest_28 (fun v28 G28 hp28 => ?_)
  obtain ⟨rfl, rfl⟩ := hp28
  refine z_i2l C dX6_digest_31 ?_
  refine z_ladd C dX6_digest_32 ?_
  refine z_lstore_n C dX6_digest_33 (by decide) ?_
  refine z_lload_n C dX6_digest_34 rfl ?_
  refine z_ldc2 C kw_773 dX6_digest_35 ?_
  refine z_lmul C dX6_digest_38 ?_
  first | refine z_rload_n C dX6_digest_39 rfl ?_ | refine z_nload_n C dX6_digest_39 rfl ?_ | refine z_aload_n C dX6_digest_39 rfl ?_
  refine z_getf (T := TX6) (N := 8) C (by first | assumption | exact zU_same _ _ _) rfl 2 (by decide) kw_187 (Or.inl rfl) rfl dX6_digest_40 ?_
  refine z_callV (q := (RJx4a65c, TJx4a65c, 3)) C (c_size l Γ _ hLe) kc_X6_digest_43 (by first | assumption | exact zU_same _ _ _) rfl rfl rfl rfl ky_Jx4a65c_size_8abf5 ⟨(Nat.le_of_ble_eq_true rfl), (Nat.le_of_ble_eq_true rfl)⟩ (Nat.le_of_ble_eq_true rfl) ⟨(Nat.le_of_ble_eq_true rfl), (Nat.le_of_ble_eq_true rfl)⟩ dX6_digest_43 (fun v43 G43 hp43 => ?_)
  obtain ⟨rfl, rfl⟩ := hp43
  refine z_i2l C dX6_digest_46 ?_
  refine z_ladd C dX6_digest_47 ?_
  refine z_lstore_n C dX6_digest_48 (by decide) ?_
  refine z_lload_n C dX6_digest_49 rfl ?_
  refine z_ldc2 C kw_773 dX6_digest_50 ?_
  refine z_lmul C dX6_digest_53 ?_
  first | refine z_rload_n C dX6_digest_54 rfl ?_ | refine z_nload_n C dX6_digest_54 rfl ?_ | refine z_aload_n C dX6_digest_54 rfl ?_
  refine z_callV (q := (RX6, TX6, 8)) C (x_countFound l Γ _ hC) kc_X6_digest_55 (by first | assumption | exact zU_same _ _ _) rfl rfl rfl rfl ky_X6_countFound ⟨(Nat.le_of_ble_eq_true rfl), (Nat.le_of_ble_eq_true rfl)⟩ (Nat.le_of_ble_eq_true rfl) ⟨(Nat.le_of_ble_eq_true rfl), (Nat.le_of_ble_eq_true rfl)⟩ dX6_digest_55 (fun v55 G55 hp55 => ?_)
  obtain ⟨rfl, rfl⟩ := hp55
  refine z_i2l C dX6_digest_58 ?_
  refine z_ladd C dX6_digest_59 ?_
  refine z_lstore_n C dX6_digest_60 (by decide) ?_
  refine z_lload_n C dX6_digest_61 rfl ?_
  refine z_ldc2 C kw_773 dX6_digest_62 ?_
  refine z_lmul C dX6_digest_65 ?_
  first | refine z_rload_n C dX6_digest_66 rfl ?_ | refine z_nload_n C dX6_digest_66 rfl ?_ | refine z_aload_n C dX6_digest_66 rfl ?_
  refine z_callV (q := (RX6, TX6, 8)) C (x_countLoose l Γ _ hC) kc_X6_digest_67 (by first | assumption | exact zU_same _ _ _) rfl rfl rfl rfl ky_X6_countLoose ⟨(Nat.le_of_ble_eq_true rfl), (Nat.le_of_ble_eq_true rfl)⟩ (Nat.le_of_ble_eq_true rfl) ⟨(Nat.le_of_ble_eq_true rfl), (Nat.le_of_ble_eq_true rfl)⟩ dX6_digest_67 (fun v67 G67 hp67 => ?_)
  obtain ⟨rfl, rfl⟩ := hp67
  refine z_i2l C dX6_digest_70 ?_
  refine z_ladd C dX6_digest_71 ?_
  refine z_lstore_n C dX6_digest_72 (by decide) ?_
  refine z_lload_n C dX6_digest_73 rfl ?_
  refine z_ldc2 C kw_773 dX6_digest_74 ?_
  refine z_lmul C dX6_digest_77 ?_
  first | refine z_rload_n C dX6_digest_78 rfl ?_ | refine z_nload_n C dX6_digest_78 rfl ?_ | refine z_aload_n C dX6_digest_78 rfl ?_
  refine z_getf (T := TX6) (N := 8) C (by first | assumption | exact zU_same _ _ _) rfl 3 (by decide) kw_188 (Or.inl rfl) rfl dX6_digest_79 ?_
  refine z_getf (T := TX5) (N := 2) C (by first | assumption | exact zU_same _ _ _) rfl 0 (by decide) kw_125 (Or.inl rfl) rfl dX6_digest_82 ?_
  refine z_i2l C dX6_digest_85 ?_
  refine z_ladd C dX6_digest_86 ?_
  refine z_lstore_n C dX6_digest_87 (by decide) ?_
  refine z_lload_n C dX6_digest_88 rfl ?_
  refine z_ldc2 C kw_773 dX6_digest_89 ?_
  refine z_lmul C dX6_digest_92 ?_
  first | refine z_rload_n C dX6_digest_93 rfl ?_ | refine z_nload_n C dX6_digest_93 rfl ?_ | refine z_aload_n C dX6_digest_93 rfl ?_
  refine z_getf (T := TX6) (N := 8) C (by first | assumption | exact zU_same _ _ _) rfl 3 (by decide) kw_188 (Or.inl rfl) rfl dX6_digest_94 ?_
  refine z_getf (T := TX5) (N := 2) C (by first | assumption | exact zU_same _ _ _) rfl 1 (by decide) kw_127 (Or.inl rfl) rfl dX6_digest_97 ?_
  refine z_i2l C dX6_digest_100 ?_
  refine z_ladd C dX6_digest_101 ?_
  refine z_lstore_n C dX6_digest_102 (by decide) ?_
  refine z_iconst (v := 0) C dX6_digest_103 rfl ?_
  refine z_istore_n C dX6_digest_104 (by decide) ?_
  refine z_iload_n C dX6_digest_105 rfl ?_
  first | refine z_rload_n C dX6_digest_106 rfl ?_ | refine z_nload_n C dX6_digest_106 rfl ?_ | refine z_aload_n C dX6_digest_106 rfl ?_
  refine z_getf (T := TX6) (N := 8) C (by first | assumption | exact zU_same _ _ _) rfl 0 (by decide) kw_185 (Or.inl rfl) rfl dX6_digest_107 ?_
  refine z_callV (q := (RJx4a65c, TJx4a65c, 3)) C (c_size l Γ _ hLs) kc_X6_digest_110 (by first | assumption | exact zU_same _ _ _) rfl rfl rfl rfl ky_Jx4a65c_size_8abf5 ⟨(Nat.le_of_ble_eq_true rfl), (Nat.le_of_ble_eq_true rfl)⟩ (Nat.le_of_ble_eq_true rfl) ⟨(Nat.le_of_ble_eq_true rfl), (Nat.le_of_ble_eq_true rfl)⟩ dX6_digest_110 (fun v110 G110 hp110 => ?_)
  obtain ⟨rfl, rfl⟩ := hp110
  refine z_icmp_ge (tgt := 138) C dX6_digest_113 (by decide) (fun h113 => ?_) (fun h113 => ?_)
  · refine z_iconst (v := 0) C dX6_digest_138 rfl ?_
    refine z_istore_n C dX6_digest_139 (by decide) ?_
    refine z_iload_n C dX6_digest_140 rfl ?_
    first | refine z_rload_n C dX6_digest_141 rfl ?_ | refine z_nload_n C dX6_digest_141 rfl ?_ | refine z_aload_n C dX6_digest_141 rfl ?_
    refine z_getf (T := TX6) (N := 8) C (by first | assumption | exact zU_same _ _ _) rfl 1 (by decide) kw_186 (Or.inl rfl) rfl dX6_digest_142 ?_
    refine z_callV (q := (RJx4a65c, TJx4a65c, 3)) C (c_size l Γ _ hLp) kc_X6_digest_145 (by first | assumption | exact zU_same _ _ _) rfl rfl rfl rfl ky_Jx4a65c_size_8abf5 ⟨(Nat.le_of_ble_eq_true rfl), (Nat.le_of_ble_eq_true rfl)⟩ (Nat.le_of_ble_eq_true rfl) ⟨(Nat.le_of_ble_eq_true rfl), (Nat.le_of_ble_eq_true rfl)⟩ dX6_digest_145 (fun v145 G145 hp145 => ?_)
    obtain ⟨rfl, rfl⟩ := hp145
    refine z_icmp_ge (tgt := 173) C dX6_digest_148 (by decide) (fun h148 => ?_) (fun h148 => ?_)
    · refine z_iconst (v := 0) C dX6_digest_173 rfl ?_
      refine z_istore_n C dX6_digest_174 (by decide) ?_
      refine z_iload_n C dX6_digest_175 rfl ?_
      first | refine z_rload_n C dX6_digest_176 rfl ?_ | refine z_nload_n C dX6_digest_176 rfl ?_ | refine z_aload_n C dX6_digest_176 rfl ?_
      refine z_getf (T := TX6) (N := 8) C (by first | assumption | exact zU_same _ _ _) rfl 2 (by decide) kw_187 (Or.inl rfl) rfl dX6_digest_177 ?_
      refine z_callV (q := (RJx4a65c, TJx4a65c, 3)) C (c_size l Γ _ hLe) kc_X6_digest_180 (by first | assumption | exact zU_same _ _ _) rfl rfl rfl rfl ky_Jx4a65c_size_8abf5 ⟨(Nat.le_of_ble_eq_true rfl), (Nat.le_of_ble_eq_true rfl)⟩ (Nat.le_of_ble_eq_true rfl) ⟨(Nat.le_of_ble_eq_true rfl), (Nat.le_of_ble_eq_true rfl)⟩ dX6_digest_180 (fun v180 G180 hp180 => ?_)
      obtain ⟨rfl, rfl⟩ := hp180
      refine z_icmp_ge (tgt := 209) C dX6_digest_183 (by decide) (fun h183 => ?_) (fun h183 => ?_)
      · refine z_lload_n C dX6_digest_209 rfl ?_
        exact z_lret C F hr (Nat.le_of_ble_eq_true rfl) (Nat.le_of_ble_eq_true rfl) ⟨rfl, rfl⟩ dX6_digest_210
      · exact absurd (by decide) h183
    · exact absurd (by decide) h148
  · exact absurd (by decide) h113

