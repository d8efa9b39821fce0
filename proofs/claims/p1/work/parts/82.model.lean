theorem dX7_heads_0 : decode cX7_heads 0 = .ok (.bipush 12, 2) := by decide +kernel
theorem dX7_heads_2 : decode cX7_heads 2 = .ok (.newarray .int, 2) := by decide +kernel
theorem dX7_heads_4 : decode cX7_heads 4 = .ok (.astore_n 3, 1) := by decide +kernel
theorem dX7_heads_5 : decode cX7_heads 5 = .ok (.iconst 0, 1) := by decide +kernel
theorem dX7_heads_6 : decode cX7_heads 6 = .ok (.istore 4, 2) := by decide +kernel
theorem dX7_heads_8 : decode cX7_heads 8 = .ok (.iload 4, 2) := by decide +kernel
theorem dX7_heads_10 : decode cX7_heads 10 = .ok (.bipush 12, 2) := by decide +kernel
theorem dX7_heads_12 : decode cX7_heads 12 = .ok (.if_icmp .ge 38, 3) := by decide +kernel
theorem dX7_heads_15 : decode cX7_heads 15 = .ok (.aload_n 3, 1) := by decide +kernel
theorem dX7_heads_16 : decode cX7_heads 16 = .ok (.iload 4, 2) := by decide +kernel
theorem dX7_heads_18 : decode cX7_heads 18 = .ok (.iload 4, 2) := by decide +kernel
theorem dX7_heads_20 : decode cX7_heads 20 = .ok (.aload_n 0, 1) := by decide +kernel
theorem dX7_heads_21 : decode cX7_heads 21 = .ok (.getfield 67, 3) := by decide +kernel
theorem dX7_heads_24 : decode cX7_heads 24 = .ok (.if_icmp .ge 18, 3) := by decide +kernel
theorem dX7_heads_27 : decode cX7_heads 27 = .ok (.aload_n 0, 1) := by decide +kernel
theorem dX7_heads_28 : decode cX7_heads 28 = .ok (.getfield 45, 3) := by decide +kernel
theorem dX7_heads_31 : decode cX7_heads 31 = .ok (.iload 4, 2) := by decide +kernel
theorem dX7_heads_33 : decode cX7_heads 33 = .ok (.baload, 1) := by decide +kernel
theorem dX7_heads_34 : decode cX7_heads 34 = .ok (.ifCond .eq 8, 3) := by decide +kernel
theorem dX7_heads_37 : decode cX7_heads 37 = .ok (.iload 4, 2) := by decide +kernel
theorem dX7_heads_39 : decode cX7_heads 39 = .ok (.goto 4, 3) := by decide +kernel
theorem dX7_heads_42 : decode cX7_heads 42 = .ok (.iconst (-1), 1) := by decide +kernel
theorem dX7_heads_43 : decode cX7_heads 43 = .ok (.iastore, 1) := by decide +kernel
theorem dX7_heads_44 : decode cX7_heads 44 = .ok (.iinc 4 1, 3) := by decide +kernel
theorem dX7_heads_47 : decode cX7_heads 47 = .ok (.goto (-39), 3) := by decide +kernel
theorem dX7_heads_50 : decode cX7_heads 50 = .ok (.iconst 0, 1) := by decide +kernel
theorem dX7_heads_51 : decode cX7_heads 51 = .ok (.istore 4, 2) := by decide +kernel
theorem dX7_heads_53 : decode cX7_heads 53 = .ok (.iload 4, 2) := by decide +kernel
theorem dX7_heads_55 : decode cX7_heads 55 = .ok (.aload_n 0, 1) := by decide +kernel
theorem dX7_heads_56 : decode cX7_heads 56 = .ok (.getfield 67, 3) := by decide +kernel
theorem dX7_heads_59 : decode cX7_heads 59 = .ok (.if_icmp .ge 89, 3) := by decide +kernel
theorem dX7_heads_62 : decode cX7_heads 62 = .ok (.iconst 0, 1) := by decide +kernel
theorem dX7_heads_63 : decode cX7_heads 63 = .ok (.istore 5, 2) := by decide +kernel
theorem dX7_heads_65 : decode cX7_heads 65 = .ok (.iload 5, 2) := by decide +kernel
theorem dX7_heads_67 : decode cX7_heads 67 = .ok (.aload_n 0, 1) := by decide +kernel
theorem dX7_heads_68 : decode cX7_heads 68 = .ok (.getfield 67, 3) := by decide +kernel
theorem dX7_heads_71 : decode cX7_heads 71 = .ok (.if_icmp .ge 71, 3) := by decide +kernel
theorem dX7_heads_74 : decode cX7_heads 74 = .ok (.iconst 0, 1) := by decide +kernel
theorem dX7_heads_75 : decode cX7_heads 75 = .ok (.istore 6, 2) := by decide +kernel
theorem dX7_heads_77 : decode cX7_heads 77 = .ok (.iload 6, 2) := by decide +kernel
theorem dX7_heads_79 : decode cX7_heads 79 = .ok (.aload_n 0, 1) := by decide +kernel
theorem dX7_heads_80 : decode cX7_heads 80 = .ok (.getfield 67, 3) := by decide +kernel
theorem dX7_heads_83 : decode cX7_heads 83 = .ok (.if_icmp .ge 53, 3) := by decide +kernel
theorem dX7_heads_86 : decode cX7_heads 86 = .ok (.aload_n 3, 1) := by decide +kernel
theorem dX7_heads_87 : decode cX7_heads 87 = .ok (.iload 5, 2) := by decide +kernel
theorem dX7_heads_89 : decode cX7_heads 89 = .ok (.iaload, 1) := by decide +kernel
theorem dX7_heads_90 : decode cX7_heads 90 = .ok (.iconst (-1), 1) := by decide +kernel
theorem dX7_heads_91 : decode cX7_heads 91 = .ok (.if_icmp .eq 39, 3) := by decide +kernel
theorem dX7_heads_94 : decode cX7_heads 94 = .ok (.aload_n 3, 1) := by decide +kernel
theorem dX7_heads_95 : decode cX7_heads 95 = .ok (.iload 6, 2) := by decide +kernel
theorem dX7_heads_97 : decode cX7_heads 97 = .ok (.iaload, 1) := by decide +kernel
theorem dX7_heads_98 : decode cX7_heads 98 = .ok (.iconst (-1), 1) := by decide +kernel
theorem dX7_heads_99 : decode cX7_heads 99 = .ok (.if_icmp .eq 31, 3) := by decide +kernel
theorem dX7_heads_102 : decode cX7_heads 102 = .ok (.aload_n 0, 1) := by decide +kernel
theorem dX7_heads_103 : decode cX7_heads 103 = .ok (.iload 5, 2) := by decide +kernel
theorem dX7_heads_105 : decode cX7_heads 105 = .ok (.iload 6, 2) := by decide +kernel
theorem dX7_heads_107 : decode cX7_heads 107 = .ok (.iload_n 1, 1) := by decide +kernel
theorem dX7_heads_108 : decode cX7_heads 108 = .ok (.iload_n 2, 1) := by decide +kernel
theorem dX7_heads_109 : decode cX7_heads 109 = .ok (.invokevirtual 194, 3) := by decide +kernel
theorem dX7_heads_112 : decode cX7_heads 112 = .ok (.ifCond .eq 18, 3) := by decide +kernel
theorem dX7_heads_115 : decode cX7_heads 115 = .ok (.aload_n 3, 1) := by decide +kernel
theorem dX7_heads_116 : decode cX7_heads 116 = .ok (.iload 5, 2) := by decide +kernel
theorem dX7_heads_118 : decode cX7_heads 118 = .ok (.aload_n 3, 1) := by decide +kernel
theorem dX7_heads_119 : decode cX7_heads 119 = .ok (.iload 5, 2) := by decide +kernel
theorem dX7_heads_121 : decode cX7_heads 121 = .ok (.iaload, 1) := by decide +kernel
theorem dX7_heads_122 : decode cX7_heads 122 = .ok (.aload_n 3, 1) := by decide +kernel
theorem dX7_heads_123 : decode cX7_heads 123 = .ok (.iload 6, 2) := by decide +kernel
theorem dX7_heads_125 : decode cX7_heads 125 = .ok (.iaload, 1) := by decide +kernel
theorem dX7_heads_126 : decode cX7_heads 126 = .ok (.invokestatic 198, 3) := by decide +kernel
theorem dX7_heads_129 : decode cX7_heads 129 = .ok (.iastore, 1) := by decide +kernel
theorem dX7_heads_130 : decode cX7_heads 130 = .ok (.iinc 6 1, 3) := by decide +kernel
theorem dX7_heads_133 : decode cX7_heads 133 = .ok (.goto (-56), 3) := by decide +kernel
theorem dX7_heads_136 : decode cX7_heads 136 = .ok (.iinc 5 1, 3) := by decide +kernel
theorem dX7_heads_139 : decode cX7_heads 139 = .ok (.goto (-74), 3) := by decide +kernel
theorem dX7_heads_142 : decode cX7_heads 142 = .ok (.iinc 4 1, 3) := by decide +kernel
theorem dX7_heads_145 : decode cX7_heads 145 = .ok (.goto (-92), 3) := by decide +kernel
theorem dX7_heads_148 : decode cX7_heads 148 = .ok (.aload_n 3, 1) := by decide +kernel
theorem dX7_heads_149 : decode cX7_heads 149 = .ok (.areturn, 1) := by decide +kernel
theorem dX7_families_0 : decode cX7_families 0 = .ok (.aload_n 0, 1) := by decide +kernel
theorem dX7_families_1 : decode cX7_families 1 = .ok (.iconst 0, 1) := by decide +kernel
theorem dX7_families_2 : decode cX7_families 2 = .ok (.putfield 54, 3) := by decide +kernel
theorem dX7_families_5 : decode cX7_families 5 = .ok (.iload_n 1, 1) := by decide +kernel
theorem dX7_families_6 : decode cX7_families 6 = .ok (.iload_n 2, 1) := by decide +kernel
theorem dX7_families_7 : decode cX7_families 7 = .ok (.invokestatic 201, 3) := by decide +kernel
theorem dX7_families_10 : decode cX7_families 10 = .ok (.ifCond .ne 9, 3) := by decide +kernel
theorem dX7_families_13 : decode cX7_families 13 = .ok (.aload_n 0, 1) := by decide +kernel
theorem dX7_families_14 : decode cX7_families 14 = .ok (.iconst 1, 1) := by decide +kernel
theorem dX7_families_15 : decode cX7_families 15 = .ok (.invokevirtual 70, 3) := by decide +kernel
theorem dX7_families_18 : decode cX7_families 18 = .ok (.ireturn, 1) := by decide +kernel
theorem dX7_families_19 : decode cX7_families 19 = .ok (.aload_n 0, 1) := by decide +kernel
theorem dX7_families_20 : decode cX7_families 20 = .ok (.iload_n 1, 1) := by decide +kernel
theorem dX7_families_21 : decode cX7_families 21 = .ok (.iload_n 2, 1) := by decide +kernel
theorem dX7_families_22 : decode cX7_families 22 = .ok (.invokevirtual 204, 3) := by decide +kernel
theorem dX7_families_25 : decode cX7_families 25 = .ok (.astore_n 3, 1) := by decide +kernel
theorem dX7_families_26 : decode cX7_families 26 = .ok (.iconst 0, 1) := by decide +kernel
theorem dX7_families_27 : decode cX7_families 27 = .ok (.istore 4, 2) := by decide +kernel
theorem dX7_families_29 : decode cX7_families 29 = .ok (.iconst 0, 1) := by decide +kernel
theorem dX7_families_30 : decode cX7_families 30 = .ok (.istore 5, 2) := by decide +kernel
theorem dX7_families_32 : decode cX7_families 32 = .ok (.iload 5, 2) := by decide +kernel
theorem dX7_families_34 : decode cX7_families 34 = .ok (.aload_n 0, 1) := by decide +kernel
theorem dX7_families_35 : decode cX7_families 35 = .ok (.getfield 67, 3) := by decide +kernel
theorem dX7_families_38 : decode cX7_families 38 = .ok (.if_icmp .ge 28, 3) := by decide +kernel
theorem dX7_families_41 : decode cX7_families 41 = .ok (.iload 4, 2) := by decide +kernel
theorem dX7_families_43 : decode cX7_families 43 = .ok (.aload_n 3, 1) := by decide +kernel
theorem dX7_families_44 : decode cX7_families 44 = .ok (.iload 5, 2) := by decide +kernel
theorem dX7_families_46 : decode cX7_families 46 = .ok (.iaload, 1) := by decide +kernel
theorem dX7_families_47 : decode cX7_families 47 = .ok (.iload 5, 2) := by decide +kernel
theorem dX7_families_49 : decode cX7_families 49 = .ok (.if_icmp .ne 7, 3) := by decide +kernel
theorem dX7_families_52 : decode cX7_families 52 = .ok (.iconst 1, 1) := by decide +kernel
theorem dX7_families_53 : decode cX7_families 53 = .ok (.goto 4, 3) := by decide +kernel
theorem dX7_families_56 : decode cX7_families 56 = .ok (.iconst 0, 1) := by decide +kernel
theorem dX7_families_57 : decode cX7_families 57 = .ok (.iadd, 1) := by decide +kernel
theorem dX7_families_58 : decode cX7_families 58 = .ok (.istore 4, 2) := by decide +kernel
theorem dX7_families_60 : decode cX7_families 60 = .ok (.iinc 5 1, 3) := by decide +kernel
theorem dX7_families_63 : decode cX7_families 63 = .ok (.goto (-31), 3) := by decide +kernel
theorem dX7_families_66 : decode cX7_families 66 = .ok (.iload 4, 2) := by decide +kernel
theorem dX7_families_68 : decode cX7_families 68 = .ok (.ireturn, 1) := by decide +kernel
theorem ky_X7_isRange : yX7_isRange.cls ≠ "java/lang/invoke/MethodHandle" ∧ yX7_isRange.cls ≠ "java/lang/invoke/VarHandle" ∧ (parseMethodDescriptor yX7_isRange.desc).map (fun d => d.parameters.length) = some 2 := by decide +kernel
theorem kc_X7_families_7 : ∀ w ∈ ([Cond.methodLink "QuakeBenchModel" 201 yX7_isRange, Cond.static yX7_isRange, Cond.initialized "QuakeBenchModel", Cond.code yX7_isRange prog_9_method_52_code 2 (Option.some Jvm.ClassFile.FieldType.boolean)] : List Cond), w ∈ lw_all := zin [1438, 1439, 61, 1440] (by decide +kernel)
theorem ky_X7_heads : yX7_heads.cls ≠ "java/lang/invoke/MethodHandle" ∧ yX7_heads.cls ≠ "java/lang/invoke/VarHandle" ∧ (parseMethodDescriptor yX7_heads.desc).map (fun d => d.parameters.length) = some 2 := by decide +kernel
theorem kc_X7_families_22 : ∀ w ∈ ([Cond.methodLink "QuakeBenchModel" 204 yX7_heads, Cond.instanceMethod yX7_heads, Cond.selects "QuakeBenchModel" yX7_heads yX7_heads, Cond.initialized "QuakeBenchModel", Cond.code yX7_heads prog_9_method_55_code 7 (Option.some (Jvm.ClassFile.FieldType.array Jvm.ClassFile.FieldType.int))] : List Cond), w ∈ lw_all := zin [1441, 1443, 50, 61, 1444] (by decide +kernel)
theorem kc_X7_families_15 : ∀ w ∈ ([Cond.methodLink "QuakeBenchModel" 70 yX7_no, Cond.instanceMethod yX7_no, Cond.selects "QuakeBenchModel" yX7_no yX7_no, Cond.initialized "QuakeBenchModel", Cond.code yX7_no prog_9_method_3_code 2 (Option.some Jvm.ClassFile.FieldType.int)] : List Cond), w ∈ lw_all := zin [1238, 1240, 25, 61, 1241] (by decide +kernel)
theorem dX7_digest_0 : decode cX7_digest 0 = .ok (.aload_n 0, 1) := by decide +kernel
theorem dX7_digest_1 : decode cX7_digest 1 = .ok (.iconst 0, 1) := by decide +kernel
theorem dX7_digest_2 : decode cX7_digest 2 = .ok (.putfield 54, 3) := by decide +kernel
theorem dX7_digest_5 : decode cX7_digest 5 = .ok (.ldc2_w 208, 3) := by decide +kernel
theorem dX7_digest_8 : decode cX7_digest 8 = .ok (.lstore_n 1, 1) := by decide +kernel
theorem dX7_digest_9 : decode cX7_digest 9 = .ok (.iconst 0, 1) := by decide +kernel
theorem dX7_digest_10 : decode cX7_digest 10 = .ok (.istore_n 3, 1) := by decide +kernel
theorem dX7_digest_11 : decode cX7_digest 11 = .ok (.iload_n 3, 1) := by decide +kernel
theorem dX7_digest_12 : decode cX7_digest 12 = .ok (.iconst 5, 1) := by decide +kernel
theorem dX7_digest_13 : decode cX7_digest 13 = .ok (.if_icmp .ge 22, 3) := by decide +kernel
theorem dX7_digest_16 : decode cX7_digest 16 = .ok (.lload_n 1, 1) := by decide +kernel
theorem dX7_digest_17 : decode cX7_digest 17 = .ok (.ldc2_w 210, 3) := by decide +kernel
theorem dX7_digest_20 : decode cX7_digest 20 = .ok (.lmul, 1) := by decide +kernel
theorem dX7_digest_21 : decode cX7_digest 21 = .ok (.aload_n 0, 1) := by decide +kernel
theorem dX7_digest_22 : decode cX7_digest 22 = .ok (.iload_n 3, 1) := by decide +kernel
theorem dX7_digest_23 : decode cX7_digest 23 = .ok (.invokevirtual 143, 3) := by decide +kernel
theorem dX7_digest_26 : decode cX7_digest 26 = .ok (.i2l, 1) := by decide +kernel
theorem dX7_digest_27 : decode cX7_digest 27 = .ok (.ladd, 1) := by decide +kernel
theorem dX7_digest_28 : decode cX7_digest 28 = .ok (.lstore_n 1, 1) := by decide +kernel
theorem dX7_digest_29 : decode cX7_digest 29 = .ok (.iinc 3 1, 3) := by decide +kernel
theorem dX7_digest_32 : decode cX7_digest 32 = .ok (.goto (-21), 3) := by decide +kernel
theorem dX7_digest_35 : decode cX7_digest 35 = .ok (.lload_n 1, 1) := by decide +kernel
theorem dX7_digest_36 : decode cX7_digest 36 = .ok (.ldc2_w 210, 3) := by decide +kernel
theorem dX7_digest_39 : decode cX7_digest 39 = .ok (.lmul, 1) := by decide +kernel
theorem dX7_digest_40 : decode cX7_digest 40 = .ok (.aload_n 0, 1) := by decide +kernel
theorem dX7_digest_41 : decode cX7_digest 41 = .ok (.getfield 7, 3) := by decide +kernel
theorem dX7_digest_44 : decode cX7_digest 44 = .ok (.i2l, 1) := by decide +kernel
theorem dX7_digest_45 : decode cX7_digest 45 = .ok (.ladd, 1) := by decide +kernel
theorem dX7_digest_46 : decode cX7_digest 46 = .ok (.ldc2_w 210, 3) := by decide +kernel
theorem dX7_digest_49 : decode cX7_digest 49 = .ok (.lmul, 1) := by decide +kernel
theorem dX7_digest_50 : decode cX7_digest 50 = .ok (.aload_n 0, 1) := by decide +kernel
theorem dX7_digest_51 : decode cX7_digest 51 = .ok (.getfield 13, 3) := by decide +kernel
theorem dX7_digest_54 : decode cX7_digest 54 = .ok (.i2l, 1) := by decide +kernel
theorem dX7_digest_55 : decode cX7_digest 55 = .ok (.ladd, 1) := by decide +kernel
theorem dX7_digest_56 : decode cX7_digest 56 = .ok (.lstore_n 1, 1) := by decide +kernel
theorem dX7_digest_57 : decode cX7_digest 57 = .ok (.iconst 0, 1) := by decide +kernel
theorem dX7_digest_58 : decode cX7_digest 58 = .ok (.istore_n 3, 1) := by decide +kernel
theorem dX7_digest_59 : decode cX7_digest 59 = .ok (.iload_n 3, 1) := by decide +kernel
theorem dX7_digest_60 : decode cX7_digest 60 = .ok (.aload_n 0, 1) := by decide +kernel
theorem dX7_digest_61 : decode cX7_digest 61 = .ok (.getfield 57, 3) := by decide +kernel
theorem dX7_digest_64 : decode cX7_digest 64 = .ok (.if_icmp .ge 47, 3) := by decide +kernel
theorem dX7_digest_67 : decode cX7_digest 67 = .ok (.lload_n 1, 1) := by decide +kernel
theorem dX7_digest_68 : decode cX7_digest 68 = .ok (.ldc2_w 210, 3) := by decide +kernel
theorem dX7_digest_71 : decode cX7_digest 71 = .ok (.lmul, 1) := by decide +kernel
theorem dX7_digest_72 : decode cX7_digest 72 = .ok (.aload_n 0, 1) := by decide +kernel
theorem dX7_digest_73 : decode cX7_digest 73 = .ok (.getfield 16, 3) := by decide +kernel
theorem dX7_digest_76 : decode cX7_digest 76 = .ok (.iload_n 3, 1) := by decide +kernel
theorem dX7_digest_77 : decode cX7_digest 77 = .ok (.iaload, 1) := by decide +kernel
theorem dX7_digest_78 : decode cX7_digest 78 = .ok (.i2l, 1) := by decide +kernel
theorem dX7_digest_79 : decode cX7_digest 79 = .ok (.ladd, 1) := by decide +kernel
theorem dX7_digest_80 : decode cX7_digest 80 = .ok (.ldc2_w 210, 3) := by decide +kernel
theorem dX7_digest_83 : decode cX7_digest 83 = .ok (.lmul, 1) := by decide +kernel
theorem dX7_digest_84 : decode cX7_digest 84 = .ok (.aload_n 0, 1) := by decide +kernel
theorem dX7_digest_85 : decode cX7_digest 85 = .ok (.getfield 20, 3) := by decide +kernel
theorem dX7_digest_88 : decode cX7_digest 88 = .ok (.iload_n 3, 1) := by decide +kernel
theorem dX7_digest_89 : decode cX7_digest 89 = .ok (.iaload, 1) := by decide +kernel
theorem dX7_digest_90 : decode cX7_digest 90 = .ok (.i2l, 1) := by decide +kernel
theorem dX7_digest_91 : decode cX7_digest 91 = .ok (.ladd, 1) := by decide +kernel
theorem dX7_digest_92 : decode cX7_digest 92 = .ok (.ldc2_w 210, 3) := by decide +kernel
theorem dX7_digest_95 : decode cX7_digest 95 = .ok (.lmul, 1) := by decide +kernel
theorem dX7_digest_96 : decode cX7_digest 96 = .ok (.aload_n 0, 1) := by decide +kernel
theorem dX7_digest_97 : decode cX7_digest 97 = .ok (.getfield 23, 3) := by decide +kernel
theorem dX7_digest_100 : decode cX7_digest 100 = .ok (.iload_n 3, 1) := by decide +kernel
theorem dX7_digest_101 : decode cX7_digest 101 = .ok (.iaload, 1) := by decide +kernel
theorem dX7_digest_102 : decode cX7_digest 102 = .ok (.i2l, 1) := by decide +kernel
theorem dX7_digest_103 : decode cX7_digest 103 = .ok (.ladd, 1) := by decide +kernel
theorem dX7_digest_104 : decode cX7_digest 104 = .ok (.lstore_n 1, 1) := by decide +kernel
theorem dX7_digest_105 : decode cX7_digest 105 = .ok (.iinc 3 1, 3) := by decide +kernel
theorem dX7_digest_108 : decode cX7_digest 108 = .ok (.goto (-49), 3) := by decide +kernel
theorem dX7_digest_111 : decode cX7_digest 111 = .ok (.iconst 0, 1) := by decide +kernel
theorem dX7_digest_112 : decode cX7_digest 112 = .ok (.istore_n 3, 1) := by decide +kernel
theorem dX7_digest_113 : decode cX7_digest 113 = .ok (.iload_n 3, 1) := by decide +kernel
theorem dX7_digest_114 : decode cX7_digest 114 = .ok (.aload_n 0, 1) := by decide +kernel
theorem dX7_digest_115 : decode cX7_digest 115 = .ok (.getfield 64, 3) := by decide +kernel
theorem dX7_digest_118 : decode cX7_digest 118 = .ok (.if_icmp .ge 53, 3) := by decide +kernel
theorem dX7_digest_121 : decode cX7_digest 121 = .ok (.iconst 0, 1) := by decide +kernel
theorem dX7_digest_122 : decode cX7_digest 122 = .ok (.istore 4, 2) := by decide +kernel
theorem dX7_digest_124 : decode cX7_digest 124 = .ok (.iload 4, 2) := by decide +kernel
theorem dX7_digest_126 : decode cX7_digest 126 = .ok (.iconst 5, 1) := by decide +kernel
theorem dX7_digest_127 : decode cX7_digest 127 = .ok (.if_icmp .ge 24, 3) := by decide +kernel
theorem dX7_digest_130 : decode cX7_digest 130 = .ok (.lload_n 1, 1) := by decide +kernel
theorem dX7_digest_131 : decode cX7_digest 131 = .ok (.ldc2_w 210, 3) := by decide +kernel
theorem dX7_digest_134 : decode cX7_digest 134 = .ok (.lmul, 1) := by decide +kernel
theorem dX7_digest_135 : decode cX7_digest 135 = .ok (.aload_n 0, 1) := by decide +kernel
theorem dX7_digest_136 : decode cX7_digest 136 = .ok (.iload_n 3, 1) := by decide +kernel
theorem dX7_digest_137 : decode cX7_digest 137 = .ok (.iload 4, 2) := by decide +kernel
theorem dX7_digest_139 : decode cX7_digest 139 = .ok (.invokevirtual 103, 3) := by decide +kernel
theorem dX7_digest_142 : decode cX7_digest 142 = .ok (.i2l, 1) := by decide +kernel
theorem dX7_digest_143 : decode cX7_digest 143 = .ok (.ladd, 1) := by decide +kernel
theorem dX7_digest_144 : decode cX7_digest 144 = .ok (.lstore_n 1, 1) := by decide +kernel
theorem dX7_digest_145 : decode cX7_digest 145 = .ok (.iinc 4 1, 3) := by decide +kernel
theorem dX7_digest_148 : decode cX7_digest 148 = .ok (.goto (-24), 3) := by decide +kernel
theorem dX7_digest_151 : decode cX7_digest 151 = .ok (.lload_n 1, 1) := by decide +kernel
theorem dX7_digest_152 : decode cX7_digest 152 = .ok (.ldc2_w 210, 3) := by decide +kernel
theorem dX7_digest_155 : decode cX7_digest 155 = .ok (.lmul, 1) := by decide +kernel
theorem dX7_digest_156 : decode cX7_digest 156 = .ok (.aload_n 0, 1) := by decide +kernel
theorem dX7_digest_157 : decode cX7_digest 157 = .ok (.getfield 42, 3) := by decide +kernel
theorem dX7_digest_160 : decode cX7_digest 160 = .ok (.iload_n 3, 1) := by decide +kernel
theorem dX7_digest_161 : decode cX7_digest 161 = .ok (.iaload, 1) := by decide +kernel
theorem dX7_digest_162 : decode cX7_digest 162 = .ok (.i2l, 1) := by decide +kernel
theorem dX7_digest_163 : decode cX7_digest 163 = .ok (.ladd, 1) := by decide +kernel
theorem dX7_digest_164 : decode cX7_digest 164 = .ok (.lstore_n 1, 1) := by decide +kernel
theorem dX7_digest_165 : decode cX7_digest 165 = .ok (.iinc 3 1, 3) := by decide +kernel
theorem dX7_digest_168 : decode cX7_digest 168 = .ok (.goto (-55), 3) := by decide +kernel
theorem dX7_digest_171 : decode cX7_digest 171 = .ok (.iconst 0, 1) := by decide +kernel
theorem dX7_digest_172 : decode cX7_digest 172 = .ok (.istore_n 3, 1) := by decide +kernel
theorem dX7_digest_173 : decode cX7_digest 173 = .ok (.iload_n 3, 1) := by decide +kernel
theorem dX7_digest_174 : decode cX7_digest 174 = .ok (.aload_n 0, 1) := by decide +kernel
theorem dX7_digest_175 : decode cX7_digest 175 = .ok (.getfield 67, 3) := by decide +kernel
theorem dX7_digest_178 : decode cX7_digest 178 = .ok (.if_icmp .ge 92, 3) := by decide +kernel
theorem dX7_digest_181 : decode cX7_digest 181 = .ok (.lload_n 1, 1) := by decide +kernel
theorem dX7_digest_182 : decode cX7_digest 182 = .ok (.ldc2_w 210, 3) := by decide +kernel
theorem dX7_digest_185 : decode cX7_digest 185 = .ok (.lmul, 1) := by decide +kernel
theorem dX7_digest_186 : decode cX7_digest 186 = .ok (.aload_n 0, 1) := by decide +kernel
theorem dX7_digest_187 : decode cX7_digest 187 = .ok (.iload_n 3, 1) := by decide +kernel
theorem dX7_digest_188 : decode cX7_digest 188 = .ok (.invokevirtual 140, 3) := by decide +kernel
theorem dX7_digest_191 : decode cX7_digest 191 = .ok (.i2l, 1) := by decide +kernel
theorem dX7_digest_192 : decode cX7_digest 192 = .ok (.ladd, 1) := by decide +kernel
theorem dX7_digest_193 : decode cX7_digest 193 = .ok (.lstore_n 1, 1) := by decide +kernel
theorem dX7_digest_194 : decode cX7_digest 194 = .ok (.aload_n 0, 1) := by decide +kernel
theorem dX7_digest_195 : decode cX7_digest 195 = .ok (.getfield 45, 3) := by decide +kernel
theorem dX7_digest_198 : decode cX7_digest 198 = .ok (.iload_n 3, 1) := by decide +kernel
theorem dX7_digest_199 : decode cX7_digest 199 = .ok (.baload, 1) := by decide +kernel
theorem dX7_digest_200 : decode cX7_digest 200 = .ok (.ifCond .ne 6, 3) := by decide +kernel
theorem dX7_digest_203 : decode cX7_digest 203 = .ok (.goto 61, 3) := by decide +kernel
theorem dX7_digest_206 : decode cX7_digest 206 = .ok (.iconst 0, 1) := by decide +kernel
theorem dX7_digest_207 : decode cX7_digest 207 = .ok (.istore 4, 2) := by decide +kernel
theorem dX7_digest_209 : decode cX7_digest 209 = .ok (.iload 4, 2) := by decide +kernel
theorem dX7_digest_211 : decode cX7_digest 211 = .ok (.iconst 4, 1) := by decide +kernel
theorem dX7_digest_212 : decode cX7_digest 212 = .ok (.if_icmp .ge 28, 3) := by decide +kernel
theorem dX7_digest_215 : decode cX7_digest 215 = .ok (.lload_n 1, 1) := by decide +kernel
theorem dX7_digest_216 : decode cX7_digest 216 = .ok (.ldc2_w 210, 3) := by decide +kernel
theorem dX7_digest_219 : decode cX7_digest 219 = .ok (.lmul, 1) := by decide +kernel
theorem dX7_digest_220 : decode cX7_digest 220 = .ok (.aload_n 0, 1) := by decide +kernel
theorem dX7_digest_221 : decode cX7_digest 221 = .ok (.getfield 48, 3) := by decide +kernel
theorem dX7_digest_224 : decode cX7_digest 224 = .ok (.iconst 4, 1) := by decide +kernel
theorem dX7_digest_225 : decode cX7_digest 225 = .ok (.iload_n 3, 1) := by decide +kernel
theorem dX7_digest_226 : decode cX7_digest 226 = .ok (.imul, 1) := by decide +kernel
theorem dX7_digest_227 : decode cX7_digest 227 = .ok (.iload 4, 2) := by decide +kernel
theorem dX7_digest_229 : decode cX7_digest 229 = .ok (.iadd, 1) := by decide +kernel
theorem dX7_digest_230 : decode cX7_digest 230 = .ok (.iaload, 1) := by decide +kernel
theorem dX7_digest_231 : decode cX7_digest 231 = .ok (.i2l, 1) := by decide +kernel
theorem dX7_digest_232 : decode cX7_digest 232 = .ok (.ladd, 1) := by decide +kernel
theorem dX7_digest_233 : decode cX7_digest 233 = .ok (.lstore_n 1, 1) := by decide +kernel
theorem dX7_digest_234 : decode cX7_digest 234 = .ok (.iinc 4 1, 3) := by decide +kernel
theorem dX7_digest_237 : decode cX7_digest 237 = .ok (.goto (-28), 3) := by decide +kernel
theorem dX7_digest_240 : decode cX7_digest 240 = .ok (.lload_n 1, 1) := by decide +kernel
theorem dX7_digest_241 : decode cX7_digest 241 = .ok (.ldc2_w 210, 3) := by decide +kernel
theorem dX7_digest_244 : decode cX7_digest 244 = .ok (.lmul, 1) := by decide +kernel
theorem dX7_digest_245 : decode cX7_digest 245 = .ok (.aload_n 0, 1) := by decide +kernel
theorem dX7_digest_246 : decode cX7_digest 246 = .ok (.iload_n 3, 1) := by decide +kernel
theorem dX7_digest_247 : decode cX7_digest 247 = .ok (.invokevirtual 181, 3) := by decide +kernel
theorem dX7_digest_250 : decode cX7_digest 250 = .ok (.i2l, 1) := by decide +kernel
theorem dX7_digest_251 : decode cX7_digest 251 = .ok (.ladd, 1) := by decide +kernel
theorem dX7_digest_252 : decode cX7_digest 252 = .ok (.ldc2_w 210, 3) := by decide +kernel
theorem dX7_digest_255 : decode cX7_digest 255 = .ok (.lmul, 1) := by decide +kernel
theorem dX7_digest_256 : decode cX7_digest 256 = .ok (.aload_n 0, 1) := by decide +kernel
theorem dX7_digest_257 : decode cX7_digest 257 = .ok (.iload_n 3, 1) := by decide +kernel
theorem dX7_digest_258 : decode cX7_digest 258 = .ok (.invokevirtual 188, 3) := by decide +kernel
theorem dX7_digest_261 : decode cX7_digest 261 = .ok (.i2l, 1) := by decide +kernel
theorem dX7_digest_262 : decode cX7_digest 262 = .ok (.ladd, 1) := by decide +kernel
theorem dX7_digest_263 : decode cX7_digest 263 = .ok (.lstore_n 1, 1) := by decide +kernel
theorem dX7_digest_264 : decode cX7_digest 264 = .ok (.iinc 3 1, 3) := by decide +kernel
theorem dX7_digest_267 : decode cX7_digest 267 = .ok (.goto (-94), 3) := by decide +kernel
theorem dX7_digest_270 : decode cX7_digest 270 = .ok (.lload_n 1, 1) := by decide +kernel
theorem dX7_digest_271 : decode cX7_digest 271 = .ok (.lreturn, 1) := by decide +kernel
theorem kw_1466 : Cond.constantLong "QuakeBenchModel" 208 337 ∈ lw_all := zin1 1466 (by decide +kernel)
theorem kw_1467 : Cond.constantLong "QuakeBenchModel" 210 31 ∈ lw_all := zin1 1467 (by decide +kernel)
theorem kc_X7_digest_23 : ∀ w ∈ ([Cond.methodLink "QuakeBenchModel" 143 yX7_counted, Cond.instanceMethod yX7_counted, Cond.selects "QuakeBenchModel" yX7_counted yX7_counted, Cond.initialized "QuakeBenchModel", Cond.code yX7_counted prog_9_method_30_code 2 (Option.some Jvm.ClassFile.FieldType.int)] : List Cond), w ∈ lw_all := zin [1357, 1359, 41, 61, 1360] (by decide +kernel)
/-! the reference: families, digest and constructor -/
abbrev rm_m_heads : Room := { frames := 0, cells := 1, slots := 12, locals := 0 }
set_option maxHeartbeats 4000000 in
set_option maxRecDepth 100000 in
theorem m_heads (l : Launch) (Γ : zY) (G : zG) {mo : Nat} {th : Int32} {μ : Nat → Nat} (x y : Int32) (hm : G mo = some (oM0 th μ)) : ZM l yX7_heads cX7_heads 7 (some (FieldType.array FieldType.int)) rm_m_heads Γ [.ref mo, .int x, .int y] G (fun v G' => ∃ hd, some (.ref hd) = v ∧ G hd = none ∧ ∃ f, zU G hd (zI Γ 12 f) = G') := by
  refine z_start (by decide +kernel) [some (.ref mo), some (.int x), some (.int y), none, none, none, none] rfl (Nat.le_of_ble_eq_true rfl) ?_
  intro p e s m args below meth c Q A C F hr hnm
  refine z_bipush (v := 12) C dX7_heads_0 rfl ?_
  refine z_newi (N := 12) C kw_153 (by decide) (by decide) (Nat.le_of_ble_eq_true rfl) (Nat.le_of_ble_eq_true rfl) (Nat.le_of_ble_eq_true rfl) dX7_heads_2 (fun a2 n2 => ?_)
  first | refine z_rstore_n C dX7_heads_4 (by decide) ?_ | refine z_nstore_n C dX7_heads_4 (by decide) ?_ | refine z_astore_n C dX7_heads_4 (by decide) ?_
  refine z_iconst (v := 0) C dX7_heads_5 rfl ?_
  refine z_istore C dX7_heads_6 (by decide) ?_
  have da : mo ≠ a2 := zG_nn hm n2
  have loop : ∀ (d i : Nat) (f : Nat → Int32), i + d = 12 → Z p l e rm_m_heads s m args below meth c Q 7 Γ A (zU G a2 (zI Γ 12 f)) 1 12 8 [some (.ref mo), some (.int x), some (.int y), some (.ref a2), some (.int (nI i)), none, none] [] := by
    intro d
    induction d with
    | zero =>
      intro i f hi
      obtain rfl : i = 12 := by omega
      refine z_iload C dX7_heads_8 rfl ?_
      refine z_bipush (v := 12) C dX7_heads_10 rfl ?_
      refine z_icmp_ge (tgt := 50) C dX7_heads_12 (by decide) (fun h12 => ?_) (fun h12 => ?_)
      · refine z_iconst (v := 0) C dX7_heads_50 rfl ?_
        refine z_istore C dX7_heads_51 (by decide) ?_
        refine z_iload C dX7_heads_53 rfl ?_
        first | refine z_rload_n C dX7_heads_55 rfl ?_ | refine z_nload_n C dX7_heads_55 rfl ?_ | refine z_aload_n C dX7_heads_55 rfl ?_
        refine z_getf (T := TX7) (N := 19) C ((zU_ne da).trans hm) rfl 14 (by decide) kw_1182 (Or.inl rfl) rfl dX7_heads_56 ?_
        refine z_icmp_ge (tgt := 148) C dX7_heads_59 (by decide) (fun h59 => ?_) (fun h59 => ?_)
        · first | refine z_rload_n C dX7_heads_148 rfl ?_ | refine z_nload_n C dX7_heads_148 rfl ?_ | refine z_aload_n C dX7_heads_148 rfl ?_
          exact z_rret C F hr (Or.inr ⟨_, rfl⟩) (Nat.le_of_ble_eq_true rfl) (Nat.le_of_ble_eq_true rfl) ⟨a2, rfl, n2, f, rfl⟩ dX7_heads_149
        · exact absurd (by decide) h59
      · exact absurd (by decide) h12
    | succ d ih =>
      intro i f hi
      refine z_iload C dX7_heads_8 rfl ?_
      refine z_bipush (v := 12) C dX7_heads_10 rfl ?_
      refine z_icmp_ge (tgt := 50) C dX7_heads_12 (by decide) (fun h12 => ?_) (fun h12 => ?_)
      · exact absurd h12 (nI_ge (b := 12) (by omega) (by omega))
      · first | refine z_rload_n C dX7_heads_15 rfl ?_ | refine z_nload_n C dX7_heads_15 rfl ?_ | refine z_aload_n C dX7_heads_15 rfl ?_
        refine z_iload C dX7_heads_16 rfl ?_
        refine z_iload C dX7_heads_18 rfl ?_
        first | refine z_rload_n C dX7_heads_20 rfl ?_ | refine z_nload_n C dX7_heads_20 rfl ?_ | refine z_aload_n C dX7_heads_20 rfl ?_
        refine z_getf (T := TX7) (N := 19) C ((zU_ne da).trans hm) rfl 14 (by decide) kw_1182 (Or.inl rfl) rfl dX7_heads_21 ?_
        refine z_icmp_ge (tgt := 42) C dX7_heads_24 (by decide) (fun h24 => ?_) (fun h24 => ?_)
        · refine z_iconst (v := (-1)) C dX7_heads_42 rfl ?_
          refine z_iast C (by first | assumption | exact zU_same _ _ _) (vp_in_nI (by omega) (by decide)) dX7_heads_43 ?_
          refine z_iinc (w := 1) C dX7_heads_44 rfl rfl (by decide) ?_
          rw [zU_zU, ← nI_succ]
          refine z_goto (tgt := 8) C dX7_heads_47 (by decide) ?_
          exact ih (i + 1) _ (by omega)
        · exact absurd (nI_le (a := 0) (b := i) (by omega) (by omega)) h24
  exact loop 12 0 _ rfl
abbrev rm_m_families : Room := { frames := 2, cells := 1, slots := 12, locals := 43 }
set_option maxHeartbeats 4000000 in
set_option maxRecDepth 100000 in
theorem m_families (l : Launch) (Γ : zY) (G : zG) {mo : Nat} {th : Int32} {μ : Nat → Nat} (x y : Int32) (hm : G mo = some (oM0 th μ)) : ZM l yX7_families cX7_families 6 (some FieldType.int) rm_m_families Γ [.ref mo, .int x, .int y] G (fun v G' => some (.int 0) = v ∧ zMK G G' mo μ (s_not (s_rng x y))) := by
  refine z_start (by decide +kernel) [some (.ref mo), some (.int x), some (.int y), none, none, none] rfl (Nat.le_of_ble_eq_true rfl) ?_
  intro p e s m args below meth c Q A C F hr hnm
  first | refine z_rload_n C dX7_families_0 rfl ?_ | refine z_nload_n C dX7_families_0 rfl ?_ | refine z_aload_n C dX7_families_0 rfl ?_
  refine z_iconst (v := 0) C dX7_families_1 rfl ?_
  refine z_putf (T := TX7) (N := 19) C (by first | assumption | exact zU_same _ _ _) rfl 0 (by decide) kw_1168 (Or.inl rfl) rfl (tyX7_ok 0 (by decide)) rfl rfl (Nat.le_of_ble_eq_true rfl) dX7_families_2 ?_
  refine z_iload_n C dX7_families_5 rfl ?_
  refine z_iload_n C dX7_families_6 rfl ?_
  refine z_callS C (m_isRange l Γ _ x y) kc_X7_families_7 rfl rfl ky_X7_isRange ⟨(Nat.le_of_ble_eq_true rfl), (Nat.le_of_ble_eq_true rfl)⟩ (Nat.le_of_ble_eq_true rfl) ⟨(Nat.le_of_ble_eq_true rfl), (Nat.le_of_ble_eq_true rfl)⟩ dX7_families_7 (fun v7 G7 hp7 => ?_)
  obtain ⟨rfl, rfl⟩ := hp7
  refine z_if_ne (tgt := 19) C dX7_families_10 (by decide) (fun h10 => ?_) (fun h10 => ?_)
  · first | refine z_rload_n C dX7_families_19 rfl ?_ | refine z_nload_n C dX7_families_19 rfl ?_ | refine z_aload_n C dX7_families_19 rfl ?_
    refine z_iload_n C dX7_families_20 rfl ?_
    refine z_iload_n C dX7_families_21 rfl ?_
    refine z_callV (q := (RX7, TX7, 19)) C (m_heads l Γ _ x y (zU_same G mo (oM0 0 μ))) kc_X7_families_22 (by first | assumption | exact zU_same _ _ _) rfl rfl rfl rfl ky_X7_heads ⟨(Nat.le_of_ble_eq_true rfl), (Nat.le_of_ble_eq_true rfl)⟩ (Nat.le_of_ble_eq_true rfl) ⟨(Nat.le_of_ble_eq_true rfl), (Nat.le_of_ble_eq_true rfl)⟩ dX7_families_22 (fun v22 G22 hp22 => ?_)
    obtain ⟨hd, rfl, hn, f, rfl⟩ := hp22
    have da : mo ≠ hd := zG_nn (zU_same _ _ _) hn
    first | refine z_rstore_n C dX7_families_25 (by decide) ?_ | refine z_nstore_n C dX7_families_25 (by decide) ?_ | refine z_astore_n C dX7_families_25 (by decide) ?_
    refine z_iconst (v := 0) C dX7_families_26 rfl ?_
    refine z_istore C dX7_families_27 (by decide) ?_
    refine z_iconst (v := 0) C dX7_families_29 rfl ?_
    refine z_istore C dX7_families_30 (by decide) ?_
    refine z_iload C dX7_families_32 rfl ?_
    first | refine z_rload_n C dX7_families_34 rfl ?_ | refine z_nload_n C dX7_families_34 rfl ?_ | refine z_aload_n C dX7_families_34 rfl ?_
    refine z_getf (T := TX7) (N := 19) C ((zU_ne da).trans (zU_same _ _ _)) rfl 14 (by decide) kw_1182 (Or.inl rfl) rfl dX7_families_35 ?_
    refine z_icmp_ge (tgt := 66) C dX7_families_38 (by decide) (fun h38 => ?_) (fun h38 => ?_)
    · refine z_iload C dX7_families_66 rfl ?_
      exact z_iret C F hr (Nat.le_of_ble_eq_true rfl) (Nat.le_of_ble_eq_true rfl) ⟨rfl, by unfold s_not; rw [if_neg h10]; exact ⟨⟨_, (zU_ne da).trans (zU_same _ _ _)⟩, fun q e h k1 k2 => (zU_ne (zG_nn ((zU_ne k1).trans h) hn)).trans ((zU_ne k1).trans h)⟩⟩ dX7_families_68
    · exact absurd (by decide) h38
  · first | refine z_rload_n C dX7_families_13 rfl ?_ | refine z_nload_n C dX7_families_13 rfl ?_ | refine z_aload_n C dX7_families_13 rfl ?_
    refine z_iconst (v := 1) C dX7_families_14 rfl ?_
    refine z_callV (q := (RX7, TX7, 19)) C (m_no l Γ _ 1 (zU_same G mo (oM0 0 μ))) kc_X7_families_15 (by first | assumption | exact zU_same _ _ _) rfl rfl rfl rfl ky_X7_no ⟨(Nat.le_of_ble_eq_true rfl), (Nat.le_of_ble_eq_true rfl)⟩ (Nat.le_of_ble_eq_true rfl) ⟨(Nat.le_of_ble_eq_true rfl), (Nat.le_of_ble_eq_true rfl)⟩ dX7_families_15 (fun v15 G15 hp15 => ?_)
    obtain ⟨rfl, rfl⟩ := hp15
    exact z_iret C F hr (Nat.le_of_ble_eq_true rfl) (Nat.le_of_ble_eq_true rfl) ⟨rfl, by unfold s_not; rw [if_pos h10]; exact zMK.uu⟩ dX7_families_18
def s_rep : Nat → Int64 → Int64
  | 0, D => D
  | d + 1, D => s_rep d (D * 31 + (0 : Int32).toInt64)
def s_dig : Int64 := ((((((337 * 31 + (0 : Int32).toInt64) * 31 + (0 : Int32).toInt64) * 31 + (0 : Int32).toInt64) * 31 + (0 : Int32).toInt64) * 31 + (0 : Int32).toInt64) * 31 + (6000 : Int32).toInt64) * 31 + (3468 : Int32).toInt64
abbrev rm_m_digest : Room := { frames := 2, cells := 0, slots := 0, locals := 44 }
set_option maxHeartbeats 4000000 in
set_option maxRecDepth 100000 in
theorem m_digest (l : Launch) (Γ : zY) (G : zG) {mo : Nat} {th : Int32} {μ : Nat → Nat} (hm : G mo = some (oM0 th μ)) : ZM l yX7_digest cX7_digest 5 (some FieldType.long) rm_m_digest Γ [.ref mo] G (fun v G' => some (.long s_dig) = v ∧ zMK G G' mo μ 0) := by
  refine z_start (by decide +kernel) [some (.ref mo), none, none, none, none] rfl (Nat.le_of_ble_eq_true rfl) ?_
  intro p e s m args below meth c Q A C F hr hnm
  first | refine z_rload_n C dX7_digest_0 rfl ?_ | refine z_nload_n C dX7_digest_0 rfl ?_ | refine z_aload_n C dX7_digest_0 rfl ?_
  refine z_iconst (v := 0) C dX7_digest_1 rfl ?_
  refine z_putf (T := TX7) (N := 19) C (by first | assumption | exact zU_same _ _ _) rfl 0 (by decide) kw_1168 (Or.inl rfl) rfl (tyX7_ok 0 (by decide)) rfl rfl (Nat.le_of_ble_eq_true rfl) dX7_digest_2 ?_
  refine z_ldc2 C kw_1466 dX7_digest_5 ?_
  refine z_lstore_n C dX7_digest_8 (by decide) ?_
  refine z_iconst (v := 0) C dX7_digest_9 rfl ?_
  refine z_istore_n C dX7_digest_10 (by decide) ?_
  have loop : ∀ (d i : Nat) (D : Int64), i + d = 5 → s_rep d D = s_rep 5 337 → Z p l e rm_m_digest s m args below meth c Q 5 Γ A (zU G mo (oM0 0 μ)) 0 0 11 [some (.ref mo), some (.long D), none, some (.int (nI i)), none] [] := by
    intro d
    induction d with
    | zero =>
      intro i D hi hD
      obtain rfl : i = 5 := by omega
      change D = _ at hD
      subst hD
      refine z_iload_n C dX7_digest_11 rfl ?_
      refine z_iconst (v := 5) C dX7_digest_12 rfl ?_
      refine z_icmp_ge (tgt := 35) C dX7_digest_13 (by decide) (fun h13 => ?_) (fun h13 => ?_)
      · refine z_lload_n C dX7_digest_35 rfl ?_
        refine z_ldc2 C kw_1467 dX7_digest_36 ?_
        refine z_lmul C dX7_digest_39 ?_
        first | refine z_rload_n C dX7_digest_40 rfl ?_ | refine z_nload_n C dX7_digest_40 rfl ?_ | refine z_aload_n C dX7_digest_40 rfl ?_
        refine z_getf (T := TX7) (N := 19) C (by first | assumption | exact zU_same _ _ _) rfl 1 (by decide) kw_1169 (Or.inl rfl) rfl dX7_digest_41 ?_
        refine z_i2l C dX7_digest_44 ?_
        refine z_ladd C dX7_digest_45 ?_
        refine z_ldc2 C kw_1467 dX7_digest_46 ?_
        refine z_lmul C dX7_digest_49 ?_
        first | refine z_rload_n C dX7_digest_50 rfl ?_ | refine z_nload_n C dX7_digest_50 rfl ?_ | refine z_aload_n C dX7_digest_50 rfl ?_
        refine z_getf (T := TX7) (N := 19) C (by first | assumption | exact zU_same _ _ _) rfl 2 (by decide) kw_1170 (Or.inl rfl) rfl dX7_digest_51 ?_
        refine z_i2l C dX7_digest_54 ?_
        refine z_ladd C dX7_digest_55 ?_
        refine z_lstore_n C dX7_digest_56 (by decide) ?_
        refine z_iconst (v := 0) C dX7_digest_57 rfl ?_
        refine z_istore_n C dX7_digest_58 (by decide) ?_
        refine z_iload_n C dX7_digest_59 rfl ?_
        first | refine z_rload_n C dX7_digest_60 rfl ?_ | refine z_nload_n C dX7_digest_60 rfl ?_ | refine z_aload_n C dX7_digest_60 rfl ?_
        refine z_getf (T := TX7) (N := 19) C (by first | assumption | exact zU_same _ _ _) rfl 3 (by decide) kw_1171 (Or.inl rfl) rfl dX7_digest_61 ?_
        refine z_icmp_ge (tgt := 111) C dX7_digest_64 (by decide) (fun h64 => ?_) (fun h64 => ?_)
        · refine z_iconst (v := 0) C dX7_digest_111 rfl ?_
          refine z_istore_n C dX7_digest_112 (by decide) ?_
          refine z_iload_n C dX7_digest_113 rfl ?_
          first | refine z_rload_n C dX7_digest_114 rfl ?_ | refine z_nload_n C dX7_digest_114 rfl ?_ | refine z_aload_n C dX7_digest_114 rfl ?_
          refine z_getf (T := TX7) (N := 19) C (by first | assumption | exact zU_same _ _ _) rfl 7 (by decide) kw_1175 (Or.inl rfl) rfl dX7_digest_115 ?_
          refine z_icmp_ge (tgt := 171) C dX7_digest_118 (by decide) (fun h118 => ?_) (fun h118 => ?_)
          · refine z_iconst (v := 0) C dX7_digest_171 rfl ?_
            refine z_istore_n C dX7_digest_172 (by decide) ?_
            refine z_iload_n C dX7_digest_173 rfl ?_
            first | refine z_rload_n C dX7_digest_174 rfl ?_ | refine z_nload_n C dX7_digest_174 rfl ?_ | refine z_aload_n C dX7_digest_174 rfl ?_
            refine z_getf (T := TX7) (N := 19) C (by first | assumption | exact zU_same _ _ _) rfl 14 (by decide) kw_1182 (Or.inl rfl) rfl dX7_digest_175 ?_
            refine z_icmp_ge (tgt := 270) C dX7_digest_178 (by decide) (fun h178 => ?_) (fun h178 => ?_)
            · refine z_lload_n C dX7_digest_270 rfl ?_
              exact z_lret C F hr (Nat.le_of_ble_eq_true rfl) (Nat.le_of_ble_eq_true rfl) ⟨rfl, zMK.u⟩ dX7_digest_271
            · exact absurd (by decide) h178
          · exact absurd (by decide) h118
        · exact absurd (by decide) h64
      · exact absurd (by decide) h13
    | succ d ih =>
      intro i D hi hD
      refine z_iload_n C dX7_digest_11 rfl ?_
      refine z_iconst (v := 5) C dX7_digest_12 rfl ?_
      refine z_icmp_ge (tgt := 35) C dX7_digest_13 (by decide) (fun h13 => ?_) (fun h13 => ?_)
      · exact absurd h13 (nI_ge (b := 5) (by omega) (by omega))
      · refine z_lload_n C dX7_digest_16 rfl ?_
        refine z_ldc2 C kw_1467 dX7_digest_17 ?_
        refine z_lmul C dX7_digest_20 ?_
        first | refine z_rload_n C dX7_digest_21 rfl ?_ | refine z_nload_n C dX7_digest_21 rfl ?_ | refine z_aload_n C dX7_digest_21 rfl ?_
        refine z_iload_n C dX7_digest_22 rfl ?_
        refine z_callV (q := (RX7, TX7, 19)) C (m_counted l Γ _ (nI i) (zU_same G mo (oM0 0 μ))) kc_X7_digest_23 (by first | assumption | exact zU_same _ _ _) rfl rfl rfl rfl ky_X7_counted ⟨(Nat.le_of_ble_eq_true rfl), (Nat.le_of_ble_eq_true rfl)⟩ (Nat.le_of_ble_eq_true rfl) ⟨(Nat.le_of_ble_eq_true rfl), (Nat.le_of_ble_eq_true rfl)⟩ dX7_digest_23 (fun v23 G23 hp23 => ?_)
        obtain ⟨rfl, rfl⟩ := hp23
        refine z_i2l C dX7_digest_26 ?_
        refine z_ladd C dX7_digest_27 ?_
        refine z_lstore_n C dX7_digest_28 (by decide) ?_
        refine z_iinc (w := 1) C dX7_digest_29 rfl rfl (by decide) ?_
        rw [← nI_succ]
        refine z_goto (tgt := 11) C dX7_digest_32 (by decide) ?_
        exact ih (i + 1) _ (by omega) hD
  exact loop 5 0 337 rfl rfl

