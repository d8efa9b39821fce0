theorem dJ7_copyOf_6403c_0 : decode cJ7_copyOf_6403c 0 = .ok (.aload_n 2, 1) := by decide +kernel
theorem dJ7_copyOf_6403c_1 : decode cJ7_copyOf_6403c 1 = .ok (.ldc 110, 2) := by decide +kernel
theorem dJ7_copyOf_6403c_3 : decode cJ7_copyOf_6403c 3 = .ok (.if_acmp .ne 10, 3) := by decide +kernel
theorem dJ7_copyOf_6403c_6 : decode cJ7_copyOf_6403c 6 = .ok (.iload_n 1, 1) := by decide +kernel
theorem dJ7_copyOf_6403c_7 : decode cJ7_copyOf_6403c 7 = .ok (.anewarray 2, 3) := by decide +kernel
theorem dJ7_copyOf_6403c_10 : decode cJ7_copyOf_6403c 10 = .ok (.goto 14, 3) := by decide +kernel
theorem dJ7_copyOf_6403c_13 : decode cJ7_copyOf_6403c 13 = .ok (.aload_n 2, 1) := by decide +kernel
theorem dJ7_copyOf_6403c_14 : decode cJ7_copyOf_6403c 14 = .ok (.invokevirtual 90, 3) := by decide +kernel
theorem dJ7_copyOf_6403c_17 : decode cJ7_copyOf_6403c 17 = .ok (.iload_n 1, 1) := by decide +kernel
theorem dJ7_copyOf_6403c_18 : decode cJ7_copyOf_6403c 18 = .ok (.invokestatic 95, 3) := by decide +kernel
theorem dJ7_copyOf_6403c_21 : decode cJ7_copyOf_6403c 21 = .ok (.checkcast 110, 3) := by decide +kernel
theorem dJ7_copyOf_6403c_24 : decode cJ7_copyOf_6403c 24 = .ok (.astore_n 3, 1) := by decide +kernel
theorem dJ7_copyOf_6403c_25 : decode cJ7_copyOf_6403c 25 = .ok (.aload_n 0, 1) := by decide +kernel
theorem dJ7_copyOf_6403c_26 : decode cJ7_copyOf_6403c 26 = .ok (.iconst 0, 1) := by decide +kernel
theorem dJ7_copyOf_6403c_27 : decode cJ7_copyOf_6403c 27 = .ok (.aload_n 3, 1) := by decide +kernel
theorem dJ7_copyOf_6403c_28 : decode cJ7_copyOf_6403c 28 = .ok (.iconst 0, 1) := by decide +kernel
theorem dJ7_copyOf_6403c_29 : decode cJ7_copyOf_6403c 29 = .ok (.aload_n 0, 1) := by decide +kernel
theorem dJ7_copyOf_6403c_30 : decode cJ7_copyOf_6403c 30 = .ok (.arraylength, 1) := by decide +kernel
theorem dJ7_copyOf_6403c_31 : decode cJ7_copyOf_6403c 31 = .ok (.iload_n 1, 1) := by decide +kernel
theorem dJ7_copyOf_6403c_32 : decode cJ7_copyOf_6403c 32 = .ok (.invokestatic 304, 3) := by decide +kernel
theorem dJ7_copyOf_6403c_35 : decode cJ7_copyOf_6403c 35 = .ok (.invokestatic 150, 3) := by decide +kernel
theorem dJ7_copyOf_6403c_38 : decode cJ7_copyOf_6403c 38 = .ok (.aload_n 3, 1) := by decide +kernel
theorem dJ7_copyOf_6403c_39 : decode cJ7_copyOf_6403c 39 = .ok (.areturn, 1) := by decide +kernel
theorem kw_390 : Cond.classLink "java/util/Arrays" 110 "[Ljava/lang/Object;" ∈ lw_all := zin1 390 (by decide +kernel)
theorem kw_392 : Cond.classLink "java/util/Arrays" 2 "java/lang/Object" ∈ lw_all := zin1 392 (by decide +kernel)
theorem km_J7_copyOf_6403c_32 : ∀ w ∈ ([Cond.methodLink "java/util/Arrays" 304 yJ9_min_7cf53, Cond.static yJ9_min_7cf53, Cond.initialized "java/lang/Math", Cond.code yJ9_min_7cf53 prog_18_method_69_code 2 (Option.some Jvm.ClassFile.FieldType.int)] : List Cond), w ∈ lw_all := zin [393, 394, 38, 395] (by decide +kernel)
theorem kx_J7_copyOf_6403c_35 : ∀ w ∈ ([Cond.methodLink "java/util/Arrays" 150 ⟨"java/lang/System", "arraycopy", "(Ljava/lang/Object;ILjava/lang/Object;II)V"⟩, Cond.native ⟨"java/lang/System", "arraycopy", "(Ljava/lang/Object;ILjava/lang/Object;II)V"⟩, Cond.static ⟨"java/lang/System", "arraycopy", "(Ljava/lang/Object;ILjava/lang/Object;II)V"⟩, Cond.initialized "java/lang/System"] : List Cond), w ∈ lw_all := zin [396, 398, 397, 40] (by decide +kernel)
theorem dJ7_copyOf_1904c_0 : decode cJ7_copyOf_1904c 0 = .ok (.aload_n 0, 1) := by decide +kernel
theorem dJ7_copyOf_1904c_1 : decode cJ7_copyOf_1904c 1 = .ok (.iload_n 1, 1) := by decide +kernel
theorem dJ7_copyOf_1904c_2 : decode cJ7_copyOf_1904c 2 = .ok (.aload_n 0, 1) := by decide +kernel
theorem dJ7_copyOf_1904c_3 : decode cJ7_copyOf_1904c 3 = .ok (.invokevirtual 86, 3) := by decide +kernel
theorem dJ7_copyOf_1904c_6 : decode cJ7_copyOf_1904c 6 = .ok (.invokestatic 300, 3) := by decide +kernel
theorem dJ7_copyOf_1904c_9 : decode cJ7_copyOf_1904c 9 = .ok (.areturn, 1) := by decide +kernel
theorem kx_J7_copyOf_1904c_3 : ∀ w ∈ ([Cond.methodLink "java/util/Arrays" 86 ⟨"java/lang/Object", "getClass", "()Ljava/lang/Class;"⟩, Cond.selects "[Ljava/lang/Object;" ⟨"java/lang/Object", "getClass", "()Ljava/lang/Class;"⟩ ⟨"java/lang/Object", "getClass", "()Ljava/lang/Class;"⟩, Cond.instanceMethod ⟨"java/lang/Object", "getClass", "()Ljava/lang/Class;"⟩, Cond.native ⟨"java/lang/Object", "getClass", "()Ljava/lang/Class;"⟩] : List Cond), w ∈ lw_all := zin [372, 787, 373, 386] (by decide +kernel)
theorem ky_J7_copyOf_6403c : yJ7_copyOf_6403c.cls ≠ "java/lang/invoke/MethodHandle" ∧ yJ7_copyOf_6403c.cls ≠ "java/lang/invoke/VarHandle" ∧ (parseMethodDescriptor yJ7_copyOf_6403c.desc).map (fun d => d.parameters.length) = some 3 := by decide +kernel
theorem kc_J7_copyOf_1904c_6 : ∀ w ∈ ([Cond.methodLink "java/util/Arrays" 300 yJ7_copyOf_6403c, Cond.static yJ7_copyOf_6403c, Cond.initialized "java/util/Arrays", Cond.code yJ7_copyOf_6403c prog_26_method_120_code 4 (Option.some (Jvm.ClassFile.FieldType.array (Jvm.ClassFile.FieldType.object "java/lang/Object")))] : List Cond), w ∈ lw_all := zin [387, 388, 39, 389] (by decide +kernel)
theorem dJx4a65c_grow_92f84_0 : decode cJx4a65c_grow_92f84 0 = .ok (.aload_n 0, 1) := by decide +kernel
theorem dJx4a65c_grow_92f84_1 : decode cJx4a65c_grow_92f84 1 = .ok (.getfield 9, 3) := by decide +kernel
theorem dJx4a65c_grow_92f84_4 : decode cJx4a65c_grow_92f84 4 = .ok (.arraylength, 1) := by decide +kernel
theorem dJx4a65c_grow_92f84_5 : decode cJx4a65c_grow_92f84 5 = .ok (.istore_n 2, 1) := by decide +kernel
theorem dJx4a65c_grow_92f84_6 : decode cJx4a65c_grow_92f84 6 = .ok (.iload_n 2, 1) := by decide +kernel
theorem dJx4a65c_grow_92f84_7 : decode cJx4a65c_grow_92f84 7 = .ok (.ifCond .gt 13, 3) := by decide +kernel
theorem dJx4a65c_grow_92f84_10 : decode cJx4a65c_grow_92f84 10 = .ok (.aload_n 0, 1) := by decide +kernel
theorem dJx4a65c_grow_92f84_11 : decode cJx4a65c_grow_92f84 11 = .ok (.getfield 9, 3) := by decide +kernel
theorem dJx4a65c_grow_92f84_14 : decode cJx4a65c_grow_92f84 14 = .ok (.getstatic 39, 3) := by decide +kernel
theorem dJx4a65c_grow_92f84_17 : decode cJx4a65c_grow_92f84 17 = .ok (.if_acmp .eq 28, 3) := by decide +kernel
theorem dJx4a65c_grow_92f84_20 : decode cJx4a65c_grow_92f84 20 = .ok (.iload_n 2, 1) := by decide +kernel
theorem dJx4a65c_grow_92f84_21 : decode cJx4a65c_grow_92f84 21 = .ok (.iload_n 1, 1) := by decide +kernel
theorem dJx4a65c_grow_92f84_22 : decode cJx4a65c_grow_92f84 22 = .ok (.iload_n 2, 1) := by decide +kernel
theorem dJx4a65c_grow_92f84_23 : decode cJx4a65c_grow_92f84 23 = .ok (.isub, 1) := by decide +kernel
theorem dJx4a65c_grow_92f84_24 : decode cJx4a65c_grow_92f84 24 = .ok (.iload_n 2, 1) := by decide +kernel
theorem dJx4a65c_grow_92f84_25 : decode cJx4a65c_grow_92f84 25 = .ok (.iconst 1, 1) := by decide +kernel
theorem dJx4a65c_grow_92f84_26 : decode cJx4a65c_grow_92f84 26 = .ok (.ishr, 1) := by decide +kernel
theorem dJx4a65c_grow_92f84_27 : decode cJx4a65c_grow_92f84 27 = .ok (.invokestatic 73, 3) := by decide +kernel
theorem dJx4a65c_grow_92f84_30 : decode cJx4a65c_grow_92f84 30 = .ok (.istore_n 3, 1) := by decide +kernel
theorem dJx4a65c_grow_92f84_31 : decode cJx4a65c_grow_92f84 31 = .ok (.aload_n 0, 1) := by decide +kernel
theorem dJx4a65c_grow_92f84_32 : decode cJx4a65c_grow_92f84 32 = .ok (.aload_n 0, 1) := by decide +kernel
theorem dJx4a65c_grow_92f84_33 : decode cJx4a65c_grow_92f84 33 = .ok (.getfield 9, 3) := by decide +kernel
theorem dJx4a65c_grow_92f84_36 : decode cJx4a65c_grow_92f84 36 = .ok (.iload_n 3, 1) := by decide +kernel
theorem dJx4a65c_grow_92f84_37 : decode cJx4a65c_grow_92f84 37 = .ok (.invokestatic 66, 3) := by decide +kernel
theorem dJx4a65c_grow_92f84_40 : decode cJx4a65c_grow_92f84 40 = .ok (.dup_x1, 1) := by decide +kernel
theorem dJx4a65c_grow_92f84_41 : decode cJx4a65c_grow_92f84 41 = .ok (.putfield 9, 3) := by decide +kernel
theorem dJx4a65c_grow_92f84_44 : decode cJx4a65c_grow_92f84 44 = .ok (.areturn, 1) := by decide +kernel
theorem dJx4a65c_grow_92f84_45 : decode cJx4a65c_grow_92f84 45 = .ok (.aload_n 0, 1) := by decide +kernel
theorem dJx4a65c_grow_92f84_46 : decode cJx4a65c_grow_92f84 46 = .ok (.bipush 10, 2) := by decide +kernel
theorem dJx4a65c_grow_92f84_48 : decode cJx4a65c_grow_92f84 48 = .ok (.iload_n 1, 1) := by decide +kernel
theorem dJx4a65c_grow_92f84_49 : decode cJx4a65c_grow_92f84 49 = .ok (.invokestatic 79, 3) := by decide +kernel
theorem dJx4a65c_grow_92f84_52 : decode cJx4a65c_grow_92f84 52 = .ok (.anewarray 7, 3) := by decide +kernel
theorem dJx4a65c_grow_92f84_55 : decode cJx4a65c_grow_92f84 55 = .ok (.dup_x1, 1) := by decide +kernel
theorem dJx4a65c_grow_92f84_56 : decode cJx4a65c_grow_92f84 56 = .ok (.putfield 9, 3) := by decide +kernel
theorem dJx4a65c_grow_92f84_59 : decode cJx4a65c_grow_92f84 59 = .ok (.areturn, 1) := by decide +kernel
theorem ky_J8_newLength_cabcc : yJ8_newLength_cabcc.cls ≠ "java/lang/invoke/MethodHandle" ∧ yJ8_newLength_cabcc.cls ≠ "java/lang/invoke/VarHandle" ∧ (parseMethodDescriptor yJ8_newLength_cabcc.desc).map (fun d => d.parameters.length) = some 3 := by decide +kernel
theorem kc_Jx4a65c_grow_92f84_27 : ∀ w ∈ ([Cond.methodLink "java/util/ArrayList" 73 yJ8_newLength_cabcc, Cond.static yJ8_newLength_cabcc, Cond.initialized "jdk/internal/util/ArraysSupport", Cond.code yJ8_newLength_cabcc prog_32_method_27_code 4 (Option.some Jvm.ClassFile.FieldType.int)] : List Cond), w ∈ lw_all := zin [359, 360, 37, 361] (by decide +kernel)
theorem ky_J7_copyOf_1904c : yJ7_copyOf_1904c.cls ≠ "java/lang/invoke/MethodHandle" ∧ yJ7_copyOf_1904c.cls ≠ "java/lang/invoke/VarHandle" ∧ (parseMethodDescriptor yJ7_copyOf_1904c.desc).map (fun d => d.parameters.length) = some 2 := by decide +kernel
theorem kc_Jx4a65c_grow_92f84_37 : ∀ w ∈ ([Cond.methodLink "java/util/ArrayList" 66 yJ7_copyOf_1904c, Cond.static yJ7_copyOf_1904c, Cond.initialized "java/util/Arrays", Cond.code yJ7_copyOf_1904c prog_26_method_119_code 2 (Option.some (Jvm.ClassFile.FieldType.array (Jvm.ClassFile.FieldType.object "java/lang/Object")))] : List Cond), w ∈ lw_all := zin [369, 370, 39, 371] (by decide +kernel)
theorem km_Jx4a65c_grow_92f84_49 : ∀ w ∈ ([Cond.methodLink "java/util/ArrayList" 79 yJ9_max_7cf53, Cond.static yJ9_max_7cf53, Cond.initialized "java/lang/Math", Cond.code yJ9_max_7cf53 prog_18_method_65_code 2 (Option.some Jvm.ClassFile.FieldType.int)] : List Cond), w ∈ lw_all := zin [399, 363, 38, 364] (by decide +kernel)
theorem kw_400 : Cond.classLink "java/util/ArrayList" 7 "java/lang/Object" ∈ lw_all := zin1 400 (by decide +kernel)
theorem dJx4a65c_grow_d5877_0 : decode cJx4a65c_grow_d5877 0 = .ok (.aload_n 0, 1) := by decide +kernel
theorem dJx4a65c_grow_d5877_1 : decode cJx4a65c_grow_d5877 1 = .ok (.aload_n 0, 1) := by decide +kernel
theorem dJx4a65c_grow_d5877_2 : decode cJx4a65c_grow_d5877 2 = .ok (.getfield 48, 3) := by decide +kernel
theorem dJx4a65c_grow_d5877_5 : decode cJx4a65c_grow_d5877 5 = .ok (.iconst 1, 1) := by decide +kernel
theorem dJx4a65c_grow_d5877_6 : decode cJx4a65c_grow_d5877 6 = .ok (.iadd, 1) := by decide +kernel
theorem dJx4a65c_grow_d5877_7 : decode cJx4a65c_grow_d5877 7 = .ok (.invokevirtual 69, 3) := by decide +kernel
theorem dJx4a65c_grow_d5877_10 : decode cJx4a65c_grow_d5877 10 = .ok (.areturn, 1) := by decide +kernel
theorem ky_Jx4a65c_grow_92f84 : yJx4a65c_grow_92f84.cls ≠ "java/lang/invoke/MethodHandle" ∧ yJx4a65c_grow_92f84.cls ≠ "java/lang/invoke/VarHandle" ∧ (parseMethodDescriptor yJx4a65c_grow_92f84.desc).map (fun d => d.parameters.length) = some 1 := by decide +kernel
theorem kc_Jx4a65c_grow_d5877_7 : ∀ w ∈ ([Cond.methodLink "java/util/ArrayList" 69 yJx4a65c_grow_92f84, Cond.instanceMethod yJx4a65c_grow_92f84, Cond.selects "java/util/ArrayList" yJx4a65c_grow_92f84 yJx4a65c_grow_92f84, Cond.initialized "java/util/ArrayList", Cond.code yJx4a65c_grow_92f84 prog_25_method_6_code 4 (Option.some (Jvm.ClassFile.FieldType.array (Jvm.ClassFile.FieldType.object "java/lang/Object")))] : List Cond), w ∈ lw_all := zin [355, 357, 4, 27, 358] (by decide +kernel)
theorem dJx4a65c_add_72be8_0 : decode cJx4a65c_add_72be8 0 = .ok (.iload_n 3, 1) := by decide +kernel
theorem dJx4a65c_add_72be8_1 : decode cJx4a65c_add_72be8 1 = .ok (.aload_n 2, 1) := by decide +kernel
theorem dJx4a65c_add_72be8_2 : decode cJx4a65c_add_72be8 2 = .ok (.arraylength, 1) := by decide +kernel
theorem dJx4a65c_add_72be8_3 : decode cJx4a65c_add_72be8 3 = .ok (.if_icmp .ne 8, 3) := by decide +kernel
theorem dJx4a65c_add_72be8_6 : decode cJx4a65c_add_72be8 6 = .ok (.aload_n 0, 1) := by decide +kernel
theorem dJx4a65c_add_72be8_7 : decode cJx4a65c_add_72be8 7 = .ok (.invokevirtual 129, 3) := by decide +kernel
theorem dJx4a65c_add_72be8_10 : decode cJx4a65c_add_72be8 10 = .ok (.astore_n 2, 1) := by decide +kernel
theorem dJx4a65c_add_72be8_11 : decode cJx4a65c_add_72be8 11 = .ok (.aload_n 2, 1) := by decide +kernel
theorem dJx4a65c_add_72be8_12 : decode cJx4a65c_add_72be8 12 = .ok (.iload_n 3, 1) := by decide +kernel
theorem dJx4a65c_add_72be8_13 : decode cJx4a65c_add_72be8 13 = .ok (.aload_n 1, 1) := by decide +kernel
theorem dJx4a65c_add_72be8_14 : decode cJx4a65c_add_72be8 14 = .ok (.aastore, 1) := by decide +kernel
theorem dJx4a65c_add_72be8_15 : decode cJx4a65c_add_72be8 15 = .ok (.aload_n 0, 1) := by decide +kernel
theorem dJx4a65c_add_72be8_16 : decode cJx4a65c_add_72be8 16 = .ok (.iload_n 3, 1) := by decide +kernel
theorem dJx4a65c_add_72be8_17 : decode cJx4a65c_add_72be8 17 = .ok (.iconst 1, 1) := by decide +kernel
theorem dJx4a65c_add_72be8_18 : decode cJx4a65c_add_72be8 18 = .ok (.iadd, 1) := by decide +kernel
theorem dJx4a65c_add_72be8_19 : decode cJx4a65c_add_72be8 19 = .ok (.putfield 48, 3) := by decide +kernel
theorem dJx4a65c_add_72be8_22 : decode cJx4a65c_add_72be8 22 = .ok (.return_, 1) := by decide +kernel
theorem ky_Jx4a65c_grow_d5877 : yJx4a65c_grow_d5877.cls ≠ "java/lang/invoke/MethodHandle" ∧ yJx4a65c_grow_d5877.cls ≠ "java/lang/invoke/VarHandle" ∧ (parseMethodDescriptor yJx4a65c_grow_d5877.desc).map (fun d => d.parameters.length) = some 0 := by decide +kernel
theorem kc_Jx4a65c_add_72be8_7 : ∀ w ∈ ([Cond.methodLink "java/util/ArrayList" 129 yJx4a65c_grow_d5877, Cond.instanceMethod yJx4a65c_grow_d5877, Cond.selects "java/util/ArrayList" yJx4a65c_grow_d5877 yJx4a65c_grow_d5877, Cond.initialized "java/util/ArrayList", Cond.code yJx4a65c_grow_d5877 prog_25_method_7_code 1 (Option.some (Jvm.ClassFile.FieldType.array (Jvm.ClassFile.FieldType.object "java/lang/Object")))] : List Cond), w ∈ lw_all := zin [351, 353, 3, 27, 354] (by decide +kernel)
theorem dJx4a65c_add_9ea2d_0 : decode cJx4a65c_add_9ea2d 0 = .ok (.aload_n 0, 1) := by decide +kernel
theorem dJx4a65c_add_9ea2d_1 : decode cJx4a65c_add_9ea2d 1 = .ok (.dup, 1) := by decide +kernel
theorem dJx4a65c_add_9ea2d_2 : decode cJx4a65c_add_9ea2d 2 = .ok (.getfield 63, 3) := by decide +kernel
theorem dJx4a65c_add_9ea2d_5 : decode cJx4a65c_add_9ea2d 5 = .ok (.iconst 1, 1) := by decide +kernel
theorem dJx4a65c_add_9ea2d_6 : decode cJx4a65c_add_9ea2d 6 = .ok (.iadd, 1) := by decide +kernel
theorem dJx4a65c_add_9ea2d_7 : decode cJx4a65c_add_9ea2d 7 = .ok (.putfield 63, 3) := by decide +kernel
theorem dJx4a65c_add_9ea2d_10 : decode cJx4a65c_add_9ea2d 10 = .ok (.aload_n 0, 1) := by decide +kernel
theorem dJx4a65c_add_9ea2d_11 : decode cJx4a65c_add_9ea2d 11 = .ok (.aload_n 1, 1) := by decide +kernel
theorem dJx4a65c_add_9ea2d_12 : decode cJx4a65c_add_9ea2d 12 = .ok (.aload_n 0, 1) := by decide +kernel
theorem dJx4a65c_add_9ea2d_13 : decode cJx4a65c_add_9ea2d 13 = .ok (.getfield 9, 3) := by decide +kernel
theorem dJx4a65c_add_9ea2d_16 : decode cJx4a65c_add_9ea2d 16 = .ok (.aload_n 0, 1) := by decide +kernel
theorem dJx4a65c_add_9ea2d_17 : decode cJx4a65c_add_9ea2d 17 = .ok (.getfield 48, 3) := by decide +kernel
theorem dJx4a65c_add_9ea2d_20 : decode cJx4a65c_add_9ea2d 20 = .ok (.invokevirtual 131, 3) := by decide +kernel
theorem dJx4a65c_add_9ea2d_23 : decode cJx4a65c_add_9ea2d 23 = .ok (.iconst 1, 1) := by decide +kernel
theorem dJx4a65c_add_9ea2d_24 : decode cJx4a65c_add_9ea2d 24 = .ok (.ireturn, 1) := by decide +kernel
theorem kw_73 : Cond.fieldLink "java/util/ArrayList" 63 "java/util/ArrayList" "modCount" "I" ∈ lw_all := zin1 73 (by decide +kernel)
theorem kw_74 : Cond.sameField "java/util/ArrayList" "java/util/AbstractList" "modCount" "I" ∈ lw_all := zin1 74 (by decide +kernel)
theorem ky_Jx4a65c_add_72be8 : yJx4a65c_add_72be8.cls ≠ "java/lang/invoke/MethodHandle" ∧ yJx4a65c_add_72be8.cls ≠ "java/lang/invoke/VarHandle" ∧ (parseMethodDescriptor yJx4a65c_add_72be8.desc).map (fun d => d.parameters.length) = some 3 := by decide +kernel
theorem kc_Jx4a65c_add_9ea2d_20 : ∀ w ∈ ([Cond.methodLink "java/util/ArrayList" 131 yJx4a65c_add_72be8, Cond.instanceMethod yJx4a65c_add_72be8, Cond.selects "java/util/ArrayList" yJx4a65c_add_72be8 yJx4a65c_add_72be8, Cond.initialized "java/util/ArrayList", Cond.code yJx4a65c_add_72be8 prog_25_method_24_code 4 (Option.none : Option Jvm.ClassFile.FieldType)] : List Cond), w ∈ lw_all := zin [347, 349, 2, 27, 350] (by decide +kernel)
/-! ArrayList: growth, add, clear, add at a place -/
abbrev rm_c_copyOf3 : Room := { frames := 1, cells := 1, slots := 33, locals := 40 }
set_option maxHeartbeats 4000000 in
set_option maxRecDepth 100000 in
theorem c_copyOf3 (l : Launch) (Γ : zY) (G : zG) {a n k : Nat} {f : Nat → Option Nat} (ha : G a = some (zO Γ n f)) (hk : k ≤ 33) (hn : n ≤ k) (hel : ∀ i, i < n → ∀ y, f i = some y → zOb G y) : ZM l yJ7_copyOf_6403c cJ7_copyOf_6403c 4 (some (FieldType.array (FieldType.object "java/lang/Object"))) rm_c_copyOf3 Γ [.ref a, .int (nI k), .ref (Γ.2.2 2)] G (fun v G' => ∃ q, some (.ref q) = v ∧ G q = none ∧ zU G q (zO Γ k (va_cpy f (fun _ => none) 0 0 n)) = G') := by
  refine z_start (by decide +kernel) [some (.ref a), some (.int (nI k)), some (.ref (Γ.2.2 2)), none] rfl (Nat.le_of_ble_eq_true rfl) ?_
  intro p e s m args below meth c Q A C F hr hnm
  have hmi := z_mi C
  first | refine z_rload_n C dJ7_copyOf_6403c_0 rfl ?_ | refine z_nload_n C dJ7_copyOf_6403c_0 rfl ?_ | refine z_aload_n C dJ7_copyOf_6403c_0 rfl ?_
  refine z_ldcM C hmi kw_390 dJ7_copyOf_6403c_1 ?_
  refine z_acmp_ne (tgt := 13) C dJ7_copyOf_6403c_3 (by decide) (fun h3 => ?_) (fun h3 => ?_)
  · exact absurd rfl h3
  · refine z_iload_n C dJ7_copyOf_6403c_6 rfl ?_
    refine z_newo (N := k) C kw_392 (nI_pos (by omega)) (nI_clamp (by omega)) (by omega) (Nat.le_of_ble_eq_true rfl) (by show 0 + k ≤ 33; omega) dJ7_copyOf_6403c_7 (fun a7 n7 => ?_)
    refine z_goto (tgt := 24) C dJ7_copyOf_6403c_10 (by decide) ?_
    refine z_widen (k' := 1) (n' := 33) (Nat.le_refl _) (by show 0 + k ≤ 33; omega) ?_
    have em : (if nI k < nI n then nI k else nI n) = nI n := if_neg (nI_nlt hn (by omega))
    first | refine z_rstore_n C dJ7_copyOf_6403c_24 (by decide) ?_ | refine z_nstore_n C dJ7_copyOf_6403c_24 (by decide) ?_ | refine z_astore_n C dJ7_copyOf_6403c_24 (by decide) ?_
    first | refine z_rload_n C dJ7_copyOf_6403c_25 rfl ?_ | refine z_nload_n C dJ7_copyOf_6403c_25 rfl ?_ | refine z_aload_n C dJ7_copyOf_6403c_25 rfl ?_
    refine z_iconst (v := 0) C dJ7_copyOf_6403c_26 rfl ?_
    first | refine z_rload_n C dJ7_copyOf_6403c_27 rfl ?_ | refine z_nload_n C dJ7_copyOf_6403c_27 rfl ?_ | refine z_aload_n C dJ7_copyOf_6403c_27 rfl ?_
    refine z_iconst (v := 0) C dJ7_copyOf_6403c_28 rfl ?_
    first | refine z_rload_n C dJ7_copyOf_6403c_29 rfl ?_ | refine z_nload_n C dJ7_copyOf_6403c_29 rfl ?_ | refine z_aload_n C dJ7_copyOf_6403c_29 rfl ?_
    refine z_olen C (zU_new ha n7) dJ7_copyOf_6403c_30 ?_
    refine z_iload_n C dJ7_copyOf_6403c_31 rfl ?_
    refine z_min C km_J7_copyOf_6403c_32 (Nat.le_of_ble_eq_true rfl) (Nat.le_of_ble_eq_true rfl) (Nat.le_of_ble_eq_true rfl) (Nat.le_of_ble_eq_true rfl) dJ7_copyOf_6403c_32 ?_
    rw [em]
    refine z_copy C (zU_new ha n7) (zU_same _ _ _) kx_J7_copyOf_6403c_35 0 0 n rfl rfl rfl ⟨by decide, by decide, by omega⟩ (by omega) (by omega) (fun i hi y hy => by rw [Nat.zero_add] at hy; obtain ⟨ci, fs, q', h1, h2⟩ := hel i hi y hy; exact ⟨ci, fs, q', zU_new h1 n7, h2⟩) (Nat.le_of_ble_eq_true rfl) (Nat.le_of_ble_eq_true rfl) dJ7_copyOf_6403c_35 ?_
    first | refine z_rload_n C dJ7_copyOf_6403c_38 rfl ?_ | refine z_nload_n C dJ7_copyOf_6403c_38 rfl ?_ | refine z_aload_n C dJ7_copyOf_6403c_38 rfl ?_
    exact z_rret C F hr (Or.inr ⟨_, rfl⟩) (Nat.le_of_ble_eq_true rfl) (Nat.le_of_ble_eq_true rfl) ⟨a7, rfl, n7, (zU_zU _ _ _ _).symm⟩ dJ7_copyOf_6403c_39
abbrev rm_c_copyOf2 : Room := { frames := 2, cells := 1, slots := 33, locals := 63 }
set_option maxHeartbeats 4000000 in
set_option maxRecDepth 100000 in
theorem c_copyOf2 (l : Launch) (Γ : zY) (G : zG) {a n k : Nat} {f : Nat → Option Nat} (ha : G a = some (zO Γ n f)) (hk : k ≤ 33) (hn : n ≤ k) (hel : ∀ i, i < n → ∀ y, f i = some y → zOb G y) : ZM l yJ7_copyOf_1904c cJ7_copyOf_1904c 2 (some (FieldType.array (FieldType.object "java/lang/Object"))) rm_c_copyOf2 Γ [.ref a, .int (nI k)] G (fun v G' => ∃ q, some (.ref q) = v ∧ G q = none ∧ zU G q (zO Γ k (va_cpy f (fun _ => none) 0 0 n)) = G') := by
  refine z_start (by decide +kernel) [some (.ref a), some (.int (nI k))] rfl (Nat.le_of_ble_eq_true rfl) ?_
  intro p e s m args below meth c Q A C F hr hnm
  have hmi := z_mi C
  first | refine z_rload_n C dJ7_copyOf_1904c_0 rfl ?_ | refine z_nload_n C dJ7_copyOf_1904c_0 rfl ?_ | refine z_aload_n C dJ7_copyOf_1904c_0 rfl ?_
  refine z_iload_n C dJ7_copyOf_1904c_1 rfl ?_
  first | refine z_rload_n C dJ7_copyOf_1904c_2 rfl ?_ | refine z_nload_n C dJ7_copyOf_1904c_2 rfl ?_ | refine z_aload_n C dJ7_copyOf_1904c_2 rfl ?_
  refine z_getC C (by first | assumption | exact zU_same _ _ _) hmi kx_J7_copyOf_1904c_3 (Nat.le_of_ble_eq_true rfl) (Nat.le_of_ble_eq_true rfl) dJ7_copyOf_1904c_3 ?_
  refine z_callS C (c_copyOf3 l Γ G ha hk hn hel) kc_J7_copyOf_1904c_6 rfl rfl ky_J7_copyOf_6403c ⟨(Nat.le_of_ble_eq_true rfl), (Nat.le_of_ble_eq_true rfl)⟩ (Nat.le_of_ble_eq_true rfl) ⟨(Nat.le_of_ble_eq_true rfl), (Nat.le_of_ble_eq_true rfl)⟩ dJ7_copyOf_1904c_6 (fun v6 G6 hp6 => ?_)
  obtain ⟨q, rfl, hq, rfl⟩ := hp6
  exact z_rret C F hr (Or.inr ⟨_, rfl⟩) (Nat.le_of_ble_eq_true rfl) (Nat.le_of_ble_eq_true rfl) ⟨q, rfl, hq, rfl⟩ dJ7_copyOf_1904c_9
/-- growth of a full list of its own array -/
abbrev rm_c_growF : Room := { frames := 3, cells := 1, slots := 33, locals := 84 }
set_option maxHeartbeats 4000000 in
set_option maxRecDepth 100000 in
theorem c_growF (l : Launch) (Γ : zY) (G : zG) {a arr n : Nat} {mc : Int32} {f : Nat → Option Nat} (ha : G a = some (oAL mc arr (nI n))) (hz : G arr = some (zO Γ n f)) (h1 : 1 ≤ n) (hn : n < 22) (hel : ∀ i, i < n → ∀ y, f i = some y → zOb G y) : ZM l yJx4a65c_grow_92f84 cJx4a65c_grow_92f84 4 (some (FieldType.array (FieldType.object "java/lang/Object"))) rm_c_growF Γ [.ref a, .int (nI (n + 1))] G (fun v G' => ∃ q k, some (.ref q) = v ∧ G q = none ∧ n + 1 ≤ k ∧ k ≤ 33 ∧ zU (zU G q (zO Γ k (va_cpy f (fun _ => none) 0 0 n))) a (oAL mc q (nI n)) = G') := by
  refine z_start (by decide +kernel) [some (.ref a), some (.int (nI (n + 1))), none, none] rfl (Nat.le_of_ble_eq_true rfl) ?_
  intro p e s m args below meth c Q A C F hr hnm
  first | refine z_rload_n C dJx4a65c_grow_92f84_0 rfl ?_ | refine z_nload_n C dJx4a65c_grow_92f84_0 rfl ?_ | refine z_aload_n C dJx4a65c_grow_92f84_0 rfl ?_
  refine z_getf (T := TJx4a65c) (N := 3) C (by first | assumption | exact zU_same _ _ _) rfl 1 (by decide) kw_70 (Or.inl rfl) rfl dJx4a65c_grow_92f84_1 ?_
  refine z_olen C (by first | assumption | exact zU_same _ _ _) dJx4a65c_grow_92f84_4 ?_
  refine z_istore_n C dJx4a65c_grow_92f84_5 (by decide) ?_
  refine z_iload_n C dJx4a65c_grow_92f84_6 rfl ?_
  refine z_if_gt (tgt := 20) C dJx4a65c_grow_92f84_7 (by decide) (fun h7 => ?_) (fun h7 => ?_)
  · have es : nI n >>> ((1 : Int32) &&& 31) = nI (n / 2) := pk_shrN (n := n) (by omega) ((1 : Int32) &&& 31) 1 (by decide)
    have ed : nI (n + 1) - nI n = nI 1 := by
      rw [pk_sub (by omega)]
      congr 1
      omega
    refine z_iload_n C dJx4a65c_grow_92f84_20 rfl ?_
    refine z_iload_n C dJx4a65c_grow_92f84_21 rfl ?_
    refine z_iload_n C dJx4a65c_grow_92f84_22 rfl ?_
    refine z_isub C dJx4a65c_grow_92f84_23 ?_
    refine z_iload_n C dJx4a65c_grow_92f84_24 rfl ?_
    refine z_iconst (v := 1) C dJx4a65c_grow_92f84_25 rfl ?_
    refine z_ishr C es dJx4a65c_grow_92f84_26 ?_
    rw [ed]
    refine z_callS C (c_newLen l Γ G (a := n) (d := 1) (h := n / 2) (by omega) (by decide) (by omega) (by decide)) kc_Jx4a65c_grow_92f84_27 rfl rfl ky_J8_newLength_cabcc ⟨(Nat.le_of_ble_eq_true rfl), (Nat.le_of_ble_eq_true rfl)⟩ (Nat.le_of_ble_eq_true rfl) ⟨(Nat.le_of_ble_eq_true rfl), (Nat.le_of_ble_eq_true rfl)⟩ dJx4a65c_grow_92f84_27 (fun v27 G27 hp27 => ?_)
    obtain ⟨rfl, rfl⟩ := hp27
    refine z_istore_n C dJx4a65c_grow_92f84_30 (by decide) ?_
    first | refine z_rload_n C dJx4a65c_grow_92f84_31 rfl ?_ | refine z_nload_n C dJx4a65c_grow_92f84_31 rfl ?_ | refine z_aload_n C dJx4a65c_grow_92f84_31 rfl ?_
    first | refine z_rload_n C dJx4a65c_grow_92f84_32 rfl ?_ | refine z_nload_n C dJx4a65c_grow_92f84_32 rfl ?_ | refine z_aload_n C dJx4a65c_grow_92f84_32 rfl ?_
    refine z_getf (T := TJx4a65c) (N := 3) C (by first | assumption | exact zU_same _ _ _) rfl 1 (by decide) kw_70 (Or.inl rfl) rfl dJx4a65c_grow_92f84_33 ?_
    refine z_iload_n C dJx4a65c_grow_92f84_36 rfl ?_
    refine z_callS C (c_copyOf2 l Γ G hz (k := n + max 1 (n / 2)) (by omega) (by omega) hel) kc_Jx4a65c_grow_92f84_37 rfl rfl ky_J7_copyOf_1904c ⟨(Nat.le_of_ble_eq_true rfl), (Nat.le_of_ble_eq_true rfl)⟩ (Nat.le_of_ble_eq_true rfl) ⟨(Nat.le_of_ble_eq_true rfl), (Nat.le_of_ble_eq_true rfl)⟩ dJx4a65c_grow_92f84_37 (fun v37 G37 hp37 => ?_)
    obtain ⟨q, rfl, hq, rfl⟩ := hp37
    refine z_dup_x1 C rfl rfl dJx4a65c_grow_92f84_40 ?_
    refine z_putf (T := TJx4a65c) (N := 3) C (zU_new ha hq) rfl 1 (by decide) kw_70 (Or.inl rfl) rfl (tyJx4a65c_ok 1 (by decide)) rfl rfl (Nat.le_of_ble_eq_true rfl) dJx4a65c_grow_92f84_41 ?_
    exact z_rret C F hr (Or.inr ⟨_, rfl⟩) (Nat.le_of_ble_eq_true rfl) (Nat.le_of_ble_eq_true rfl) ⟨q, _, rfl, hq, (by omega), (by omega), rfl⟩ dJx4a65c_grow_92f84_44
  · exact absurd (zpos (n := n) (by omega) (by omega)) h7
/-- growth of a list that was empty from the first -/
abbrev rm_c_growE : Room := { frames := 1, cells := 1, slots := 33, locals := 40 }
set_option maxHeartbeats 4000000 in
set_option maxRecDepth 100000 in
theorem c_growE (l : Launch) (Γ : zY) (G : zG) {a : Nat} {mc : Int32} (ha : G a = some (oAL mc (Γ.2.2 0) (nI 0))) : ZM l yJx4a65c_grow_92f84 cJx4a65c_grow_92f84 4 (some (FieldType.array (FieldType.object "java/lang/Object"))) rm_c_growE Γ [.ref a, .int (nI 1)] G (fun v G' => ∃ q, some (.ref q) = v ∧ G q = none ∧ zU (zU G q (zO Γ 10 (fun _ => none))) a (oAL mc q (nI 0)) = G') := by
  refine z_start (by decide +kernel) [some (.ref a), some (.int (nI 1)), none, none] rfl (Nat.le_of_ble_eq_true rfl) ?_
  intro p e s m args below meth c Q A C F hr hnm
  first | refine z_rload_n C dJx4a65c_grow_92f84_0 rfl ?_ | refine z_nload_n C dJx4a65c_grow_92f84_0 rfl ?_ | refine z_aload_n C dJx4a65c_grow_92f84_0 rfl ?_
  refine z_getf (T := TJx4a65c) (N := 3) C (by first | assumption | exact zU_same _ _ _) rfl 1 (by decide) kw_70 (Or.inl rfl) rfl dJx4a65c_grow_92f84_1 ?_
  refine z_elen C dJx4a65c_grow_92f84_4 ?_
  refine z_istore_n C dJx4a65c_grow_92f84_5 (by decide) ?_
  refine z_iload_n C dJx4a65c_grow_92f84_6 rfl ?_
  refine z_if_gt (tgt := 20) C dJx4a65c_grow_92f84_7 (by decide) (fun h7 => ?_) (fun h7 => ?_)
  · exact absurd h7 (by decide)
  · first | refine z_rload_n C dJx4a65c_grow_92f84_10 rfl ?_ | refine z_nload_n C dJx4a65c_grow_92f84_10 rfl ?_ | refine z_aload_n C dJx4a65c_grow_92f84_10 rfl ?_
    refine z_getf (T := TJx4a65c) (N := 3) C (by first | assumption | exact zU_same _ _ _) rfl 1 (by decide) kw_70 (Or.inl rfl) rfl dJx4a65c_grow_92f84_11 ?_
    refine z_gete C kw_68 dJx4a65c_grow_92f84_14 ?_
    refine z_acmp_eq (tgt := 45) C dJx4a65c_grow_92f84_17 (by decide) (fun h17 => ?_) (fun h17 => ?_)
    · first | refine z_rload_n C dJx4a65c_grow_92f84_45 rfl ?_ | refine z_nload_n C dJx4a65c_grow_92f84_45 rfl ?_ | refine z_aload_n C dJx4a65c_grow_92f84_45 rfl ?_
      refine z_bipush (v := 10) C dJx4a65c_grow_92f84_46 rfl ?_
      refine z_iload_n C dJx4a65c_grow_92f84_48 rfl ?_
      refine z_max C km_Jx4a65c_grow_92f84_49 (Nat.le_of_ble_eq_true rfl) (Nat.le_of_ble_eq_true rfl) (Nat.le_of_ble_eq_true rfl) (Nat.le_of_ble_eq_true rfl) dJx4a65c_grow_92f84_49 ?_
      refine z_newo (N := 10) C kw_400 (by decide) (by decide) (Nat.le_of_ble_eq_true rfl) (Nat.le_of_ble_eq_true rfl) (Nat.le_of_ble_eq_true rfl) dJx4a65c_grow_92f84_52 (fun a52 n52 => ?_)
      refine z_widen (k' := 1) (n' := 33) (Nat.le_refl _) (Nat.le_of_ble_eq_true rfl) ?_
      refine z_dup_x1 C rfl rfl dJx4a65c_grow_92f84_55 ?_
      refine z_putf (T := TJx4a65c) (N := 3) C (zU_new ha n52) rfl 1 (by decide) kw_70 (Or.inl rfl) rfl (tyJx4a65c_ok 1 (by decide)) rfl rfl (Nat.le_of_ble_eq_true rfl) dJx4a65c_grow_92f84_56 ?_
      exact z_rret C F hr (Or.inr ⟨_, rfl⟩) (Nat.le_of_ble_eq_true rfl) (Nat.le_of_ble_eq_true rfl) ⟨a52, rfl, n52, rfl⟩ dJx4a65c_grow_92f84_59
    · exact absurd rfl h17
/-- grow() of a list, full or empty from the first: what it leaves -/
abbrev rm_c_grow0 : Room := { frames := 4, cells := 1, slots := 33, locals := 107 }
set_option maxHeartbeats 4000000 in
set_option maxRecDepth 100000 in
theorem c_grow0 (l : Launch) (Γ : zY) (G : zG) {a arr : Nat} {mc : Int32} {xs : List Nat} (ha : G a = some (oAL mc arr (nI xs.length))) (hn : xs.length < 22) (h : (arr = Γ.2.2 0 ∧ xs = []) ∨ (1 ≤ xs.length ∧ ∃ f, G arr = some (zO Γ xs.length f) ∧ ∀ i, i < xs.length → f i = xs[i]?)) (hx : ∀ y ∈ xs, zOb G y) :
    ZM l yJx4a65c_grow_d5877 cJx4a65c_grow_d5877 1 (some (FieldType.array (FieldType.object "java/lang/Object"))) rm_c_grow0 Γ [.ref a] G (fun v G' => ∃ q k f, some (.ref q) = v ∧ G q = none ∧ xs.length + 1 ≤ k ∧ k ≤ 33 ∧ (∀ i, i < xs.length → f i = xs[i]?) ∧ zU (zU G q (zO Γ k f)) a (oAL mc q (nI xs.length)) = G') := by
  refine z_start (by decide +kernel) [some (.ref a)] rfl (Nat.le_of_ble_eq_true rfl) ?_
  intro p e s m args below meth c Q A C F hr hnm
  first | refine z_rload_n C dJx4a65c_grow_d5877_0 rfl ?_ | refine z_nload_n C dJx4a65c_grow_d5877_0 rfl ?_ | refine z_aload_n C dJx4a65c_grow_d5877_0 rfl ?_
  first | refine z_rload_n C dJx4a65c_grow_d5877_1 rfl ?_ | refine z_nload_n C dJx4a65c_grow_d5877_1 rfl ?_ | refine z_aload_n C dJx4a65c_grow_d5877_1 rfl ?_
  refine z_getf (T := TJx4a65c) (N := 3) C (by first | assumption | exact zU_same _ _ _) rfl 2 (by decide) kw_71 (Or.inl rfl) rfl dJx4a65c_grow_d5877_2 ?_
  refine z_iconst (v := 1) C dJx4a65c_grow_d5877_5 rfl ?_
  refine z_iadd C dJx4a65c_grow_d5877_6 ?_
  rcases h with ⟨h1, h2⟩ | ⟨h1, f, hf, he⟩
  · subst h1 h2
    refine z_callV (q := (RJx4a65c, TJx4a65c, 3)) C (c_growE l Γ G ha) kc_Jx4a65c_grow_d5877_7 (by first | assumption | exact zU_same _ _ _) rfl rfl rfl rfl ky_Jx4a65c_grow_92f84 ⟨(Nat.le_of_ble_eq_true rfl), (Nat.le_of_ble_eq_true rfl)⟩ (Nat.le_of_ble_eq_true rfl) ⟨(Nat.le_of_ble_eq_true rfl), (Nat.le_of_ble_eq_true rfl)⟩ dJx4a65c_grow_d5877_7 (fun v7 G7 hp7 => ?_)
    obtain ⟨q, rfl, hq, rfl⟩ := hp7
    exact z_rret C F hr (Or.inr ⟨_, rfl⟩) (Nat.le_of_ble_eq_true rfl) (Nat.le_of_ble_eq_true rfl) ⟨q, 10, _, rfl, hq, by decide, by decide, fun i hi => absurd hi (Nat.not_lt_zero i), rfl⟩ dJx4a65c_grow_d5877_10
  · rw [← nI_succ]
    refine z_callV (q := (RJx4a65c, TJx4a65c, 3)) C (c_growF l Γ G ha hf h1 hn (fun i hi y hy => hx y (List.mem_of_getElem? ((he i hi).symm.trans hy)))) kc_Jx4a65c_grow_d5877_7 (by first | assumption | exact zU_same _ _ _) rfl rfl rfl rfl ky_Jx4a65c_grow_92f84 ⟨(Nat.le_of_ble_eq_true rfl), (Nat.le_of_ble_eq_true rfl)⟩ (Nat.le_of_ble_eq_true rfl) ⟨(Nat.le_of_ble_eq_true rfl), (Nat.le_of_ble_eq_true rfl)⟩ dJx4a65c_grow_d5877_7 (fun v7 G7 hp7 => ?_)
    obtain ⟨q, k, rfl, hq, hk1, hk2, rfl⟩ := hp7
    exact z_rret C F hr (Or.inr ⟨_, rfl⟩) (Nat.le_of_ble_eq_true rfl) (Nat.le_of_ble_eq_true rfl) ⟨q, k, _, rfl, hq, hk1, hk2, fun i hi => (by rw [← he i hi]; exact pk_cpy_in (Nat.zero_le _) (by omega) |>.trans (by rw [Nat.zero_add, Nat.sub_zero])), rfl⟩ dJx4a65c_grow_d5877_10
/-- what add leaves: the array may be another -/
def zAdd (Γ : zY) (G : zG) (a arr : Nat) (xs : List Nat) (x : Nat) (G' : zG) : Prop := ∃ arr', (arr' = arr ∨ G arr' = none) ∧ zLs Γ G' a arr' (xs ++ [x]) ∧ ∀ q, q ≠ a → q ≠ arr' → G' q = G q
theorem zO_ne_AL {Γ : zY} {n : Nat} {f : Nat → Option Nat} {o : Nat × List Value} : zO Γ n f ≠ .inr o := fun h => by cases h
theorem zG_ne {G : zG} {a b : Nat} {x y : va_E} (ha : G a = some x) (hb : G b = some y) (h : x ≠ y) : a ≠ b := fun z => h (by subst z; exact Option.some.inj (ha.symm.trans hb))
theorem zG_nn {G : zG} {a b : Nat} {x : va_E} (ha : G a = some x) (hb : G b = none) : a ≠ b := fun z => by subst z; rw [ha] at hb; cases hb
abbrev rm_c_add3 : Room := { frames := 5, cells := 1, slots := 33, locals := 127 }
set_option maxHeartbeats 4000000 in
set_option maxRecDepth 100000 in
theorem c_add3 (l : Launch) (Γ : zY) (G : zG) {a arr x : Nat} {xs : List Nat} (hL : zLs Γ G a arr xs) (hn : xs.length < 22) (hx : ∀ y ∈ xs, zOb G y) (hxo : zOb G x) (hxa : x ≠ a) :
    ZM l yJx4a65c_add_72be8 cJx4a65c_add_72be8 4 (none) rm_c_add3 Γ [.ref a, .ref x, .ref arr, .int (nI xs.length)] G (fun v G' => none = v ∧ zAdd Γ G a arr xs x G') := by
  obtain ⟨mc, cap, ha, h1, h2, h3⟩ := hL
  obtain ⟨ci, fs, q0, hxo, hc⟩ := hxo
  refine z_start (by decide +kernel) [some (.ref a), some (.ref x), some (.ref arr), some (.int (nI xs.length))] rfl (Nat.le_of_ble_eq_true rfl) ?_
  intro p e s m args below meth c Q A C F hr hnm
  have tail : ∀ (G1 : zG) (r cp : Nat) (f : Nat → Option Nat) (k n : Nat), k ≤ 1 → n ≤ 33 → (r = arr ∨ G r = none) → r ≠ a → G1 r = some (zO Γ cp f) → xs.length < cp → cp ≤ 33 → (∀ i, i < xs.length → f i = xs[i]?) → G1 a = some (oAL mc r (nI xs.length)) → G1 x = some (.inr (ci, fs)) → (∀ q, q ≠ a → q ≠ r → G1 q = G q) → Z p l e rm_c_add3 s m args below meth c Q 4 Γ A G1 k n 11 [some (.ref a), some (.ref x), some (.ref r), some (.int (nI xs.length))] [] := by
    intro G1 r cp f k n hk hn2 hr1 hra hr3 hc1 hc2 hf ha1 hx1 hfr
    first | refine z_rload_n C dJx4a65c_add_72be8_11 rfl ?_ | refine z_nload_n C dJx4a65c_add_72be8_11 rfl ?_ | refine z_aload_n C dJx4a65c_add_72be8_11 rfl ?_
    refine z_iload_n C dJx4a65c_add_72be8_12 rfl ?_
    first | refine z_rload_n C dJx4a65c_add_72be8_13 rfl ?_ | refine z_nload_n C dJx4a65c_add_72be8_13 rfl ?_ | refine z_aload_n C dJx4a65c_add_72be8_13 rfl ?_
    refine z_aast C (by first | assumption | exact zU_same _ _ _) hx1 hc (vp_in_nI hc1 (by omega)) dJx4a65c_add_72be8_14 ?_
    rw [nI_clamp (by omega)]
    first | refine z_rload_n C dJx4a65c_add_72be8_15 rfl ?_ | refine z_nload_n C dJx4a65c_add_72be8_15 rfl ?_ | refine z_aload_n C dJx4a65c_add_72be8_15 rfl ?_
    refine z_iload_n C dJx4a65c_add_72be8_16 rfl ?_
    refine z_iconst (v := 1) C dJx4a65c_add_72be8_17 rfl ?_
    refine z_iadd C dJx4a65c_add_72be8_18 ?_
    rw [← nI_succ]
    refine z_putf (T := TJx4a65c) (N := 3) C (zU_get ha1 hr3 (fun h => zO_ne_AL h.symm)) rfl 2 (by decide) kw_71 (Or.inl rfl) rfl (tyJx4a65c_ok 2 (by decide)) rfl rfl (Nat.le_of_ble_eq_true rfl) dJx4a65c_add_72be8_19 ?_
    refine z_vret C F hr hk hn2 ?_ dJx4a65c_add_72be8_22
    refine ⟨rfl, r, hr1, ⟨mc, cp, by rw [List.length_append]; exact zU_same _ _ _, by rw [List.length_append]; exact hc1, hc2, Or.inr ⟨by omega, _, by rw [zU_ne hra]; exact zU_same _ _ _, fun i hi => ?_⟩⟩, fun q h1 h2 => by rw [zU_ne h1, zU_ne h2]; exact hfr q h1 h2⟩
    rw [List.length_append, List.length_singleton] at hi
    by_cases e : i = xs.length
    · subst e
      rw [List.getElem?_append_right (Nat.le_refl _), Nat.sub_self]
      exact if_pos rfl
    · rw [List.getElem?_append_left (by omega)]
      exact (if_neg e).trans (hf i (by omega))
  have grow : ((arr = Γ.2.2 0 ∧ xs = []) ∨ (1 ≤ xs.length ∧ ∃ f, G arr = some (zO Γ xs.length f) ∧ ∀ i, i < xs.length → f i = xs[i]?)) → Z p l e rm_c_add3 s m args below meth c Q 4 Γ A G 0 0 6 [some (.ref a), some (.ref x), some (.ref arr), some (.int (nI xs.length))] [] := by
    intro hg
    first | refine z_rload_n C dJx4a65c_add_72be8_6 rfl ?_ | refine z_nload_n C dJx4a65c_add_72be8_6 rfl ?_ | refine z_aload_n C dJx4a65c_add_72be8_6 rfl ?_
    refine z_callV (q := (RJx4a65c, TJx4a65c, 3)) C (c_grow0 l Γ G ha hn hg hx) kc_Jx4a65c_add_72be8_7 (by first | assumption | exact zU_same _ _ _) rfl rfl rfl rfl ky_Jx4a65c_grow_d5877 ⟨(Nat.le_of_ble_eq_true rfl), (Nat.le_of_ble_eq_true rfl)⟩ (Nat.le_of_ble_eq_true rfl) ⟨(Nat.le_of_ble_eq_true rfl), (Nat.le_of_ble_eq_true rfl)⟩ dJx4a65c_add_72be8_7 (fun v7 G7 hp7 => ?_)
    obtain ⟨r, cp, f, rfl, hq, hk1, hk2, hf, rfl⟩ := hp7
    first | refine z_rstore_n C dJx4a65c_add_72be8_10 (by decide) ?_ | refine z_nstore_n C dJx4a65c_add_72be8_10 (by decide) ?_ | refine z_astore_n C dJx4a65c_add_72be8_10 (by decide) ?_
    have hra : r ≠ a := (zG_nn ha hq).symm
    refine tail _ r cp f _ _ (Nat.le_of_ble_eq_true rfl) (Nat.le_of_ble_eq_true rfl) (Or.inr hq) hra ?_ hk1 hk2 hf (zU_same _ _ _) ?_ (fun q h1 h2 => by rw [zU_ne h1, zU_ne h2])
    · rw [zU_ne hra]; exact zU_same _ _ _
    · rw [zU_ne hxa]; exact zU_new hxo hq
  rcases h3 with ⟨e1, e2⟩ | ⟨hc1, f, hf, hff⟩
  · have e3 : xs = [] := List.eq_nil_of_length_eq_zero (by omega)
    subst e1
    refine z_iload_n C dJx4a65c_add_72be8_0 rfl ?_
    first | refine z_rload_n C dJx4a65c_add_72be8_1 rfl ?_ | refine z_nload_n C dJx4a65c_add_72be8_1 rfl ?_ | refine z_aload_n C dJx4a65c_add_72be8_1 rfl ?_
    refine z_elen C dJx4a65c_add_72be8_2 ?_
    refine z_icmp_ne (tgt := 11) C dJx4a65c_add_72be8_3 (by decide) (fun h3 => ?_) (fun h3 => ?_)
    · exact absurd (by rw [e3]; rfl) h3
    · exact grow (Or.inl ⟨rfl, e3⟩)
  · refine z_iload_n C dJx4a65c_add_72be8_0 rfl ?_
    first | refine z_rload_n C dJx4a65c_add_72be8_1 rfl ?_ | refine z_nload_n C dJx4a65c_add_72be8_1 rfl ?_ | refine z_aload_n C dJx4a65c_add_72be8_1 rfl ?_
    refine z_olen C (by first | assumption | exact zU_same _ _ _) dJx4a65c_add_72be8_2 ?_
    refine z_icmp_ne (tgt := 11) C dJx4a65c_add_72be8_3 (by decide) (fun h3 => ?_) (fun h3 => ?_)
    · have hlt : xs.length < cap := by
        rcases Nat.lt_or_ge xs.length cap with q | q
        · exact q
        · exact absurd (by rw [show xs.length = cap by omega]) h3
      exact tail G arr cap f 0 0 (Nat.zero_le _) (Nat.zero_le _) (Or.inl rfl) (zG_ne hf ha zO_ne_AL) hf hlt h2 hff ha hxo (fun _ _ _ => rfl)
    · have e3 : xs.length = cap := (nI_eq (by omega) (by omega)).mp h3
      subst e3
      exact grow (Or.inr ⟨hc1, f, hf, hff⟩)
abbrev rm_c_add : Room := { frames := 6, cells := 1, slots := 33, locals := 150 }
set_option maxHeartbeats 4000000 in
set_option maxRecDepth 100000 in
theorem c_add (l : Launch) (Γ : zY) (G : zG) {a arr x : Nat} {xs : List Nat} (hL : zLs Γ G a arr xs) (hn : xs.length < 22) (hx : ∀ y ∈ xs, zOb G y) (hxo : zOb G x) (hxa : x ≠ a) (hya : a ∉ xs) :
    ZM l yJx4a65c_add_9ea2d cJx4a65c_add_9ea2d 2 (some FieldType.boolean) rm_c_add Γ [.ref a, .ref x] G (fun v G' => some (.int 1) = v ∧ zAdd Γ G a arr xs x G') := by
  obtain ⟨mc, cap, ha, h1, h2, h3⟩ := hL
  refine z_start (by decide +kernel) [some (.ref a), some (.ref x)] rfl (Nat.le_of_ble_eq_true rfl) ?_
  intro p e s m args below meth c Q A C F hr hnm
  first | refine z_rload_n C dJx4a65c_add_9ea2d_0 rfl ?_ | refine z_nload_n C dJx4a65c_add_9ea2d_0 rfl ?_ | refine z_aload_n C dJx4a65c_add_9ea2d_0 rfl ?_
  refine z_dup C rfl dJx4a65c_add_9ea2d_1 ?_
  refine z_getf (T := TJx4a65c) (N := 3) C (by first | assumption | exact zU_same _ _ _) rfl 0 (by decide) kw_73 (Or.inr kw_74) rfl dJx4a65c_add_9ea2d_2 ?_
  refine z_iconst (v := 1) C dJx4a65c_add_9ea2d_5 rfl ?_
  refine z_iadd C dJx4a65c_add_9ea2d_6 ?_
  refine z_putf (T := TJx4a65c) (N := 3) C (by first | assumption | exact zU_same _ _ _) rfl 0 (by decide) kw_73 (Or.inr kw_74) rfl (tyJx4a65c_ok 0 (by decide)) rfl rfl (Nat.le_of_ble_eq_true rfl) dJx4a65c_add_9ea2d_7 ?_
  first | refine z_rload_n C dJx4a65c_add_9ea2d_10 rfl ?_ | refine z_nload_n C dJx4a65c_add_9ea2d_10 rfl ?_ | refine z_aload_n C dJx4a65c_add_9ea2d_10 rfl ?_
  first | refine z_rload_n C dJx4a65c_add_9ea2d_11 rfl ?_ | refine z_nload_n C dJx4a65c_add_9ea2d_11 rfl ?_ | refine z_aload_n C dJx4a65c_add_9ea2d_11 rfl ?_
  first | refine z_rload_n C dJx4a65c_add_9ea2d_12 rfl ?_ | refine z_nload_n C dJx4a65c_add_9ea2d_12 rfl ?_ | refine z_aload_n C dJx4a65c_add_9ea2d_12 rfl ?_
  refine z_getf (T := TJx4a65c) (N := 3) C (by first | assumption | exact zU_same _ _ _) rfl 1 (by decide) kw_70 (Or.inl rfl) rfl dJx4a65c_add_9ea2d_13 ?_
  first | refine z_rload_n C dJx4a65c_add_9ea2d_16 rfl ?_ | refine z_nload_n C dJx4a65c_add_9ea2d_16 rfl ?_ | refine z_aload_n C dJx4a65c_add_9ea2d_16 rfl ?_
  refine z_getf (T := TJx4a65c) (N := 3) C (by first | assumption | exact zU_same _ _ _) rfl 2 (by decide) kw_71 (Or.inl rfl) rfl dJx4a65c_add_9ea2d_17 ?_
  have ob : ∀ y, y ≠ a → zOb G y → zOb (zU G a (oAL (mc + 1) arr (nI xs.length))) y := fun y hy ⟨ci, fs, q, h4, h5⟩ => ⟨ci, fs, q, (zU_ne hy).trans h4, h5⟩
  have hL1 : zLs Γ (zU G a (oAL (mc + 1) arr (nI xs.length))) a arr xs := by
    refine ⟨_, cap, zU_same _ _ _, h1, h2, ?_⟩
    rcases h3 with h3 | ⟨h4, f, h5, h6⟩
    · exact Or.inl h3
    · exact Or.inr ⟨h4, f, by rw [zU_ne (zG_ne h5 ha zO_ne_AL)]; exact h5, h6⟩
  refine z_callV (q := (RJx4a65c, TJx4a65c, 3)) C (c_add3 l Γ _ hL1 hn (fun y hy => ob y (fun z => hya (z ▸ hy)) (hx y hy)) (ob x hxa hxo) hxa) kc_Jx4a65c_add_9ea2d_20 (by first | assumption | exact zU_same _ _ _) rfl rfl rfl rfl ky_Jx4a65c_add_72be8 ⟨(Nat.le_of_ble_eq_true rfl), (Nat.le_of_ble_eq_true rfl)⟩ (Nat.le_of_ble_eq_true rfl) ⟨(Nat.le_of_ble_eq_true rfl), (Nat.le_of_ble_eq_true rfl)⟩ dJx4a65c_add_9ea2d_20 (fun v20 G20 hp20 => ?_)
  obtain ⟨rfl, arr', h4, h5, h6⟩ := hp20
  have h7 : arr' = arr ∨ G arr' = none := by
    rcases h4 with h4 | h4
    · exact Or.inl h4
    · refine Or.inr ?_
      by_cases q : arr' = a
      · rw [q, zU_same] at h4; cases h4
      · rw [zU_ne q] at h4; exact h4
  refine z_iconst (v := 1) C dJx4a65c_add_9ea2d_23 rfl ?_
  exact z_bret C F hr rfl (Nat.le_of_ble_eq_true rfl) (Nat.le_of_ble_eq_true rfl) ⟨rfl, arr', h7, h5, fun q q1 q2 => (h6 q q1 q2).trans (zU_ne q1)⟩ dJx4a65c_add_9ea2d_24

