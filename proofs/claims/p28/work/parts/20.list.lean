theorem dJxa1e45_init_da8c8_0 : decode cJxa1e45_init_da8c8 0 = .ok (.aload_n 0, 1) := by decide +kernel
theorem dJxa1e45_init_da8c8_1 : decode cJxa1e45_init_da8c8 1 = .ok (.invokespecial 1, 3) := by decide +kernel
theorem dJxa1e45_init_da8c8_4 : decode cJxa1e45_init_da8c8 4 = .ok (.return_, 1) := by decide +kernel
theorem ko_Jxa1e45_init_da8c8_1 : ∀ w ∈ ([Cond.methodLink "java/util/AbstractCollection" 1 ⟨"java/lang/Object", "<init>", "()V"⟩, Cond.instanceMethod ⟨"java/lang/Object", "<init>", "()V"⟩, Cond.code ⟨"java/lang/Object", "<init>", "()V"⟩ object_method_1_code 1 (Option.none : Option Jvm.ClassFile.FieldType)] : List Cond), w ∈ lw_all := zin [67, 54, 55] (by decide +kernel)
theorem dJxc12de_init_da8c8_0 : decode cJxc12de_init_da8c8 0 = .ok (.aload_n 0, 1) := by decide +kernel
theorem dJxc12de_init_da8c8_1 : decode cJxc12de_init_da8c8 1 = .ok (.invokespecial 1, 3) := by decide +kernel
theorem dJxc12de_init_da8c8_4 : decode cJxc12de_init_da8c8 4 = .ok (.aload_n 0, 1) := by decide +kernel
theorem dJxc12de_init_da8c8_5 : decode cJxc12de_init_da8c8 5 = .ok (.iconst 0, 1) := by decide +kernel
theorem dJxc12de_init_da8c8_6 : decode cJxc12de_init_da8c8 6 = .ok (.putfield 7, 3) := by decide +kernel
theorem dJxc12de_init_da8c8_9 : decode cJxc12de_init_da8c8 9 = .ok (.return_, 1) := by decide +kernel
theorem ky_Jxa1e45_init_da8c8 : yJxa1e45_init_da8c8.cls ≠ "java/lang/invoke/MethodHandle" ∧ yJxa1e45_init_da8c8.cls ≠ "java/lang/invoke/VarHandle" ∧ (parseMethodDescriptor yJxa1e45_init_da8c8.desc).map (fun d => d.parameters.length) = some 0 := by decide +kernel
theorem kc_Jxc12de_init_da8c8_1 : ∀ w ∈ ([Cond.methodLink "java/util/AbstractList" 1 yJxa1e45_init_da8c8, Cond.instanceMethod yJxa1e45_init_da8c8, Cond.initialized "java/util/AbstractCollection", Cond.code yJxa1e45_init_da8c8 prog_23_method_1_code 1 (Option.none : Option Jvm.ClassFile.FieldType)] : List Cond), w ∈ lw_all := zin [64, 65, 25, 66] (by decide +kernel)
theorem kw_72 : Cond.fieldLink "java/util/AbstractList" 7 "java/util/AbstractList" "modCount" "I" ∈ lw_all := zin1 72 (by decide +kernel)
theorem dJx4a65c_init_da8c8_0 : decode cJx4a65c_init_da8c8 0 = .ok (.aload_n 0, 1) := by decide +kernel
theorem dJx4a65c_init_da8c8_1 : decode cJx4a65c_init_da8c8 1 = .ok (.invokespecial 1, 3) := by decide +kernel
theorem dJx4a65c_init_da8c8_4 : decode cJx4a65c_init_da8c8 4 = .ok (.aload_n 0, 1) := by decide +kernel
theorem dJx4a65c_init_da8c8_5 : decode cJx4a65c_init_da8c8 5 = .ok (.getstatic 39, 3) := by decide +kernel
theorem dJx4a65c_init_da8c8_8 : decode cJx4a65c_init_da8c8 8 = .ok (.putfield 9, 3) := by decide +kernel
theorem dJx4a65c_init_da8c8_11 : decode cJx4a65c_init_da8c8 11 = .ok (.return_, 1) := by decide +kernel
theorem ky_Jxc12de_init_da8c8 : yJxc12de_init_da8c8.cls ≠ "java/lang/invoke/MethodHandle" ∧ yJxc12de_init_da8c8.cls ≠ "java/lang/invoke/VarHandle" ∧ (parseMethodDescriptor yJxc12de_init_da8c8.desc).map (fun d => d.parameters.length) = some 0 := by decide +kernel
theorem kc_Jx4a65c_init_da8c8_1 : ∀ w ∈ ([Cond.methodLink "java/util/ArrayList" 1 yJxc12de_init_da8c8, Cond.instanceMethod yJxc12de_init_da8c8, Cond.initialized "java/util/AbstractList", Cond.code yJxc12de_init_da8c8 prog_24_method_1_code 1 (Option.none : Option Jvm.ClassFile.FieldType)] : List Cond), w ∈ lw_all := zin [61, 62, 26, 63] (by decide +kernel)
theorem kw_68 : Cond.fieldLink "java/util/ArrayList" 39 "java/util/ArrayList" "DEFAULTCAPACITY_EMPTY_ELEMENTDATA" "[Ljava/lang/Object;" ∈ lw_all := zin1 68 (by decide +kernel)
theorem kw_70 : Cond.fieldLink "java/util/ArrayList" 9 "java/util/ArrayList" "elementData" "[Ljava/lang/Object;" ∈ lw_all := zin1 70 (by decide +kernel)
theorem dJx4a65c_size_8abf5_0 : decode cJx4a65c_size_8abf5 0 = .ok (.aload_n 0, 1) := by decide +kernel
theorem dJx4a65c_size_8abf5_1 : decode cJx4a65c_size_8abf5 1 = .ok (.getfield 48, 3) := by decide +kernel
theorem dJx4a65c_size_8abf5_4 : decode cJx4a65c_size_8abf5 4 = .ok (.ireturn, 1) := by decide +kernel
theorem kw_71 : Cond.fieldLink "java/util/ArrayList" 48 "java/util/ArrayList" "size" "I" ∈ lw_all := zin1 71 (by decide +kernel)
theorem dJ3_checkIndex_8e157_0 : decode cJ3_checkIndex_8e157 0 = .ok (.iload_n 0, 1) := by decide +kernel
theorem dJ3_checkIndex_8e157_1 : decode cJ3_checkIndex_8e157 1 = .ok (.ifCond .lt 8, 3) := by decide +kernel
theorem dJ3_checkIndex_8e157_4 : decode cJ3_checkIndex_8e157 4 = .ok (.iload_n 0, 1) := by decide +kernel
theorem dJ3_checkIndex_8e157_5 : decode cJ3_checkIndex_8e157 5 = .ok (.iload_n 1, 1) := by decide +kernel
theorem dJ3_checkIndex_8e157_6 : decode cJ3_checkIndex_8e157 6 = .ok (.if_icmp .lt 10, 3) := by decide +kernel
theorem dJ3_checkIndex_8e157_9 : decode cJ3_checkIndex_8e157 9 = .ok (.aload_n 2, 1) := by decide +kernel
theorem dJ3_checkIndex_8e157_10 : decode cJ3_checkIndex_8e157 10 = .ok (.iload_n 0, 1) := by decide +kernel
theorem dJ3_checkIndex_8e157_11 : decode cJ3_checkIndex_8e157 11 = .ok (.iload_n 1, 1) := by decide +kernel
theorem dJ3_checkIndex_8e157_12 : decode cJ3_checkIndex_8e157 12 = .ok (.invokestatic 95, 3) := by decide +kernel
theorem dJ3_checkIndex_8e157_15 : decode cJ3_checkIndex_8e157 15 = .ok (.athrow, 1) := by decide +kernel
theorem dJ3_checkIndex_8e157_16 : decode cJ3_checkIndex_8e157 16 = .ok (.iload_n 0, 1) := by decide +kernel
theorem dJ3_checkIndex_8e157_17 : decode cJ3_checkIndex_8e157 17 = .ok (.ireturn, 1) := by decide +kernel
theorem dJ15_checkIndex_7cf53_0 : decode cJ15_checkIndex_7cf53 0 = .ok (.iload_n 0, 1) := by decide +kernel
theorem dJ15_checkIndex_7cf53_1 : decode cJ15_checkIndex_7cf53 1 = .ok (.iload_n 1, 1) := by decide +kernel
theorem dJ15_checkIndex_7cf53_2 : decode cJ15_checkIndex_7cf53 2 = .ok (.aconst_null, 1) := by decide +kernel
theorem dJ15_checkIndex_7cf53_3 : decode cJ15_checkIndex_7cf53 3 = .ok (.invokestatic 105, 3) := by decide +kernel
theorem dJ15_checkIndex_7cf53_6 : decode cJ15_checkIndex_7cf53 6 = .ok (.ireturn, 1) := by decide +kernel
theorem ky_J3_checkIndex_8e157 : yJ3_checkIndex_8e157.cls ≠ "java/lang/invoke/MethodHandle" ∧ yJ3_checkIndex_8e157.cls ≠ "java/lang/invoke/VarHandle" ∧ (parseMethodDescriptor yJ3_checkIndex_8e157.desc).map (fun d => d.parameters.length) = some 3 := by decide +kernel
theorem kc_J15_checkIndex_7cf53_3 : ∀ w ∈ ([Cond.methodLink "java/util/Objects" 105 yJ3_checkIndex_8e157, Cond.static yJ3_checkIndex_8e157, Cond.initialized "jdk/internal/util/Preconditions", Cond.code yJ3_checkIndex_8e157 prog_33_method_11_code 3 (Option.some Jvm.ClassFile.FieldType.int)] : List Cond), w ∈ lw_all := zin [259, 260, 44, 261] (by decide +kernel)
theorem dJx4a65c_elementData_915e3_0 : decode cJx4a65c_elementData_915e3 0 = .ok (.aload_n 0, 1) := by decide +kernel
theorem dJx4a65c_elementData_915e3_1 : decode cJx4a65c_elementData_915e3 1 = .ok (.getfield 9, 3) := by decide +kernel
theorem dJx4a65c_elementData_915e3_4 : decode cJx4a65c_elementData_915e3 4 = .ok (.iload_n 1, 1) := by decide +kernel
theorem dJx4a65c_elementData_915e3_5 : decode cJx4a65c_elementData_915e3 5 = .ok (.aaload, 1) := by decide +kernel
theorem dJx4a65c_elementData_915e3_6 : decode cJx4a65c_elementData_915e3 6 = .ok (.areturn, 1) := by decide +kernel
theorem dJx4a65c_get_915e3_0 : decode cJx4a65c_get_915e3 0 = .ok (.iload_n 1, 1) := by decide +kernel
theorem dJx4a65c_get_915e3_1 : decode cJx4a65c_get_915e3 1 = .ok (.aload_n 0, 1) := by decide +kernel
theorem dJx4a65c_get_915e3_2 : decode cJx4a65c_get_915e3 2 = .ok (.getfield 48, 3) := by decide +kernel
theorem dJx4a65c_get_915e3_5 : decode cJx4a65c_get_915e3 5 = .ok (.invokestatic 118, 3) := by decide +kernel
theorem dJx4a65c_get_915e3_8 : decode cJx4a65c_get_915e3 8 = .ok (.pop, 1) := by decide +kernel
theorem dJx4a65c_get_915e3_9 : decode cJx4a65c_get_915e3 9 = .ok (.aload_n 0, 1) := by decide +kernel
theorem dJx4a65c_get_915e3_10 : decode cJx4a65c_get_915e3 10 = .ok (.iload_n 1, 1) := by decide +kernel
theorem dJx4a65c_get_915e3_11 : decode cJx4a65c_get_915e3 11 = .ok (.invokevirtual 123, 3) := by decide +kernel
theorem dJx4a65c_get_915e3_14 : decode cJx4a65c_get_915e3 14 = .ok (.areturn, 1) := by decide +kernel
theorem ky_J15_checkIndex_7cf53 : yJ15_checkIndex_7cf53.cls ≠ "java/lang/invoke/MethodHandle" ∧ yJ15_checkIndex_7cf53.cls ≠ "java/lang/invoke/VarHandle" ∧ (parseMethodDescriptor yJ15_checkIndex_7cf53.desc).map (fun d => d.parameters.length) = some 2 := by decide +kernel
theorem kc_Jx4a65c_get_915e3_5 : ∀ w ∈ ([Cond.methodLink "java/util/ArrayList" 118 yJ15_checkIndex_7cf53, Cond.static yJ15_checkIndex_7cf53, Cond.initialized "java/util/Objects", Cond.code yJ15_checkIndex_7cf53 prog_29_method_17_code 2 (Option.some Jvm.ClassFile.FieldType.int)] : List Cond), w ∈ lw_all := zin [256, 257, 43, 258] (by decide +kernel)
theorem ky_Jx4a65c_elementData_915e3 : yJx4a65c_elementData_915e3.cls ≠ "java/lang/invoke/MethodHandle" ∧ yJx4a65c_elementData_915e3.cls ≠ "java/lang/invoke/VarHandle" ∧ (parseMethodDescriptor yJx4a65c_elementData_915e3.desc).map (fun d => d.parameters.length) = some 1 := by decide +kernel
theorem kc_Jx4a65c_get_915e3_11 : ∀ w ∈ ([Cond.methodLink "java/util/ArrayList" 123 yJx4a65c_elementData_915e3, Cond.instanceMethod yJx4a65c_elementData_915e3, Cond.selects "java/util/ArrayList" yJx4a65c_elementData_915e3 yJx4a65c_elementData_915e3, Cond.initialized "java/util/ArrayList", Cond.code yJx4a65c_elementData_915e3 prog_25_method_18_code 2 (Option.some (Jvm.ClassFile.FieldType.object "java/lang/Object"))] : List Cond), w ∈ lw_all := zin [262, 263, 264, 27, 265] (by decide +kernel)
theorem dJ8_newLength_cabcc_0 : decode cJ8_newLength_cabcc 0 = .ok (.iload_n 0, 1) := by decide +kernel
theorem dJ8_newLength_cabcc_1 : decode cJ8_newLength_cabcc 1 = .ok (.iload_n 1, 1) := by decide +kernel
theorem dJ8_newLength_cabcc_2 : decode cJ8_newLength_cabcc 2 = .ok (.iload_n 2, 1) := by decide +kernel
theorem dJ8_newLength_cabcc_3 : decode cJ8_newLength_cabcc 3 = .ok (.invokestatic 194, 3) := by decide +kernel
theorem dJ8_newLength_cabcc_6 : decode cJ8_newLength_cabcc 6 = .ok (.iadd, 1) := by decide +kernel
theorem dJ8_newLength_cabcc_7 : decode cJ8_newLength_cabcc 7 = .ok (.istore_n 3, 1) := by decide +kernel
theorem dJ8_newLength_cabcc_8 : decode cJ8_newLength_cabcc 8 = .ok (.iconst 0, 1) := by decide +kernel
theorem dJ8_newLength_cabcc_9 : decode cJ8_newLength_cabcc 9 = .ok (.iload_n 3, 1) := by decide +kernel
theorem dJ8_newLength_cabcc_10 : decode cJ8_newLength_cabcc 10 = .ok (.if_icmp .ge 11, 3) := by decide +kernel
theorem dJ8_newLength_cabcc_13 : decode cJ8_newLength_cabcc 13 = .ok (.iload_n 3, 1) := by decide +kernel
theorem dJ8_newLength_cabcc_14 : decode cJ8_newLength_cabcc 14 = .ok (.ldc 200, 2) := by decide +kernel
theorem dJ8_newLength_cabcc_16 : decode cJ8_newLength_cabcc 16 = .ok (.if_icmp .gt 5, 3) := by decide +kernel
theorem dJ8_newLength_cabcc_19 : decode cJ8_newLength_cabcc 19 = .ok (.iload_n 3, 1) := by decide +kernel
theorem dJ8_newLength_cabcc_20 : decode cJ8_newLength_cabcc 20 = .ok (.ireturn, 1) := by decide +kernel
theorem dJ8_newLength_cabcc_21 : decode cJ8_newLength_cabcc 21 = .ok (.iload_n 0, 1) := by decide +kernel
theorem dJ8_newLength_cabcc_22 : decode cJ8_newLength_cabcc 22 = .ok (.iload_n 1, 1) := by decide +kernel
theorem dJ8_newLength_cabcc_23 : decode cJ8_newLength_cabcc 23 = .ok (.invokestatic 201, 3) := by decide +kernel
theorem dJ8_newLength_cabcc_26 : decode cJ8_newLength_cabcc 26 = .ok (.ireturn, 1) := by decide +kernel
theorem km_J8_newLength_cabcc_3 : ∀ w ∈ ([Cond.methodLink "jdk/internal/util/ArraysSupport" 194 yJ9_max_7cf53, Cond.static yJ9_max_7cf53, Cond.initialized "java/lang/Math", Cond.code yJ9_max_7cf53 prog_18_method_65_code 2 (Option.some Jvm.ClassFile.FieldType.int)] : List Cond), w ∈ lw_all := zin [362, 363, 38, 364] (by decide +kernel)
theorem kw_365 : Cond.constant "jdk/internal/util/ArraysSupport" 200 2147483639 ∈ lw_all := zin1 365 (by decide +kernel)
/-! ArrayList, as far as the class uses it -/
def zOb (G : zG) (y : Nat) : Prop := ∃ (ci : Nat) (fs : List Value) (q : vw_C), G y = some (.inr (ci, fs)) ∧ zCl[ci]? = some q
/-- a list at a, its array at arr (its own empty one, or one of its own), its elements xs -/
def zLs (Γ : zY) (G : zG) (a arr : Nat) (xs : List Nat) : Prop :=
  ∃ (mc : Int32) (cap : Nat), G a = some (oAL mc arr (nI xs.length)) ∧ xs.length ≤ cap ∧ cap ≤ 33 ∧ ((arr = Γ.2.2 0 ∧ cap = 0) ∨ (1 ≤ cap ∧ ∃ f, G arr = some (zO Γ cap f) ∧ ∀ i, i < xs.length → f i = xs[i]?))
abbrev rm_c_ACol_init : Room := { frames := 1, cells := 0, slots := 0, locals := 20 }
set_option maxHeartbeats 4000000 in
set_option maxRecDepth 100000 in
theorem c_ACol_init (l : Launch) (Γ : zY) (G : zG) (b : Nat) : ZM l yJxa1e45_init_da8c8 cJxa1e45_init_da8c8 1 (none) rm_c_ACol_init Γ [.ref b] G (fun v G' => none = v ∧ G = G') := by
  refine z_start (by decide +kernel) [some (.ref b)] rfl (Nat.le_of_ble_eq_true rfl) ?_
  intro p e s m args below meth c Q A C F hr hnm
  first | refine z_rload_n C dJxa1e45_init_da8c8_0 rfl ?_ | refine z_nload_n C dJxa1e45_init_da8c8_0 rfl ?_ | refine z_aload_n C dJxa1e45_init_da8c8_0 rfl ?_
  refine z_obj C ko_Jxa1e45_init_da8c8_1 (Nat.le_of_ble_eq_true rfl) (Nat.le_of_ble_eq_true rfl) (Nat.le_of_ble_eq_true rfl) (Nat.le_of_ble_eq_true rfl) dJxa1e45_init_da8c8_1 ?_
  exact z_vret C F hr (Nat.le_of_ble_eq_true rfl) (Nat.le_of_ble_eq_true rfl) ⟨rfl, rfl⟩ dJxa1e45_init_da8c8_4
abbrev rm_c_ALst_init : Room := { frames := 2, cells := 0, slots := 0, locals := 40 }
set_option maxHeartbeats 4000000 in
set_option maxRecDepth 100000 in
theorem c_ALst_init (l : Launch) (Γ : zY) (G : zG) (b : Nat) (m : Int32) (x : Value) (z : Int32) (hb : G b = some (.inr (7, [.int m, x, .int z]))) : ZM l yJxc12de_init_da8c8 cJxc12de_init_da8c8 1 (none) rm_c_ALst_init Γ [.ref b] G (fun v G' => none = v ∧ zU G b (.inr (7, [.int 0, x, .int z])) = G') := by
  refine z_start (by decide +kernel) [some (.ref b)] rfl (Nat.le_of_ble_eq_true rfl) ?_
  intro p e s m args below meth c Q A C F hr hnm
  first | refine z_rload_n C dJxc12de_init_da8c8_0 rfl ?_ | refine z_nload_n C dJxc12de_init_da8c8_0 rfl ?_ | refine z_aload_n C dJxc12de_init_da8c8_0 rfl ?_
  refine z_callI C (c_ACol_init l Γ G b) kc_Jxc12de_init_da8c8_1 rfl rfl rfl ky_Jxa1e45_init_da8c8 ⟨(Nat.le_of_ble_eq_true rfl), (Nat.le_of_ble_eq_true rfl)⟩ (Nat.le_of_ble_eq_true rfl) ⟨(Nat.le_of_ble_eq_true rfl), (Nat.le_of_ble_eq_true rfl)⟩ dJxc12de_init_da8c8_1 (fun v1 G1 hp1 => ?_)
  obtain ⟨rfl, rfl⟩ := hp1
  first | refine z_rload_n C dJxc12de_init_da8c8_4 rfl ?_ | refine z_nload_n C dJxc12de_init_da8c8_4 rfl ?_ | refine z_aload_n C dJxc12de_init_da8c8_4 rfl ?_
  refine z_iconst (v := 0) C dJxc12de_init_da8c8_5 rfl ?_
  refine z_putf (T := TJx4a65c) (N := 3) C (by first | assumption | exact zU_same _ _ _) rfl 0 (by decide) kw_72 (Or.inl rfl) rfl (tyJx4a65c_ok 0 (by decide)) rfl rfl (Nat.le_of_ble_eq_true rfl) dJxc12de_init_da8c8_6 ?_
  exact z_vret C F hr (Nat.le_of_ble_eq_true rfl) (Nat.le_of_ble_eq_true rfl) ⟨rfl, rfl⟩ dJxc12de_init_da8c8_9
abbrev rm_c_AL_init : Room := { frames := 3, cells := 0, slots := 0, locals := 60 }
set_option maxHeartbeats 4000000 in
set_option maxRecDepth 100000 in
theorem c_AL_init (l : Launch) (Γ : zY) (G : zG) (b : Nat) (hb : G b = some (.inr (7, [.int 0, .null, .int 0]))) : ZM l yJx4a65c_init_da8c8 cJx4a65c_init_da8c8 1 (none) rm_c_AL_init Γ [.ref b] G (fun v G' => none = v ∧ zU G b (oAL 0 (Γ.2.2 0) 0) = G') := by
  refine z_start (by decide +kernel) [some (.ref b)] rfl (Nat.le_of_ble_eq_true rfl) ?_
  intro p e s m args below meth c Q A C F hr hnm
  first | refine z_rload_n C dJx4a65c_init_da8c8_0 rfl ?_ | refine z_nload_n C dJx4a65c_init_da8c8_0 rfl ?_ | refine z_aload_n C dJx4a65c_init_da8c8_0 rfl ?_
  refine z_callI C (c_ALst_init l Γ G b 0 .null 0 hb) kc_Jx4a65c_init_da8c8_1 rfl rfl rfl ky_Jxc12de_init_da8c8 ⟨(Nat.le_of_ble_eq_true rfl), (Nat.le_of_ble_eq_true rfl)⟩ (Nat.le_of_ble_eq_true rfl) ⟨(Nat.le_of_ble_eq_true rfl), (Nat.le_of_ble_eq_true rfl)⟩ dJx4a65c_init_da8c8_1 (fun v1 G1 hp1 => ?_)
  obtain ⟨rfl, rfl⟩ := hp1
  first | refine z_rload_n C dJx4a65c_init_da8c8_4 rfl ?_ | refine z_nload_n C dJx4a65c_init_da8c8_4 rfl ?_ | refine z_aload_n C dJx4a65c_init_da8c8_4 rfl ?_
  refine z_gete C kw_68 dJx4a65c_init_da8c8_5 ?_
  refine z_putf (T := TJx4a65c) (N := 3) C (by first | assumption | exact zU_same _ _ _) rfl 1 (by decide) kw_70 (Or.inl rfl) rfl (tyJx4a65c_ok 1 (by decide)) rfl rfl (Nat.le_of_ble_eq_true rfl) dJx4a65c_init_da8c8_8 ?_
  exact z_vret C F hr (Nat.le_of_ble_eq_true rfl) (Nat.le_of_ble_eq_true rfl) ⟨rfl, (zU_zU _ _ _ _).symm⟩ dJx4a65c_init_da8c8_11
abbrev rm_c_size : Room := { frames := 0, cells := 0, slots := 0, locals := 0 }
set_option maxHeartbeats 4000000 in
set_option maxRecDepth 100000 in
theorem c_size (l : Launch) (Γ : zY) (G : zG) {b arr : Nat} {xs : List Nat} (hL : zLs Γ G b arr xs) : ZM l yJx4a65c_size_8abf5 cJx4a65c_size_8abf5 1 (some FieldType.int) rm_c_size Γ [.ref b] G (zRd G (.int (nI xs.length))) := by
  obtain ⟨mc, cap, hb, -⟩ := hL
  refine z_start (by decide +kernel) [some (.ref b)] rfl (Nat.le_of_ble_eq_true rfl) ?_
  intro p e s m args below meth c Q A C F hr hnm
  first | refine z_rload_n C dJx4a65c_size_8abf5_0 rfl ?_ | refine z_nload_n C dJx4a65c_size_8abf5_0 rfl ?_ | refine z_aload_n C dJx4a65c_size_8abf5_0 rfl ?_
  refine z_getf (T := TJx4a65c) (N := 3) C (by first | assumption | exact zU_same _ _ _) rfl 2 (by decide) kw_71 (Or.inl rfl) rfl dJx4a65c_size_8abf5_1 ?_
  exact z_iret C F hr (Nat.le_of_ble_eq_true rfl) (Nat.le_of_ble_eq_true rfl) ⟨rfl, rfl⟩ dJx4a65c_size_8abf5_4
abbrev rm_c_preCheck : Room := { frames := 0, cells := 0, slots := 0, locals := 0 }
set_option maxHeartbeats 4000000 in
set_option maxRecDepth 100000 in
theorem c_preCheck (l : Launch) (Γ : zY) (G : zG) {i n : Nat} (h : i < n) (hn : n < 2 ^ 31) : ZM l yJ3_checkIndex_8e157 cJ3_checkIndex_8e157 3 (some FieldType.int) rm_c_preCheck Γ [.int (nI i), .int (nI n), .null] G (zRd G (.int (nI i))) := by
  refine z_start (by decide +kernel) [some (.int (nI i)), some (.int (nI n)), some .null] rfl (Nat.le_of_ble_eq_true rfl) ?_
  intro p e s m args below meth c Q A C F hr hnm
  refine z_iload_n C dJ3_checkIndex_8e157_0 rfl ?_
  refine z_if_lt (tgt := 9) C dJ3_checkIndex_8e157_1 (by decide) (fun h1 => ?_) (fun h1 => ?_)
  · exact absurd h1 (nI_pos (by omega))
  · refine z_iload_n C dJ3_checkIndex_8e157_4 rfl ?_
    refine z_iload_n C dJ3_checkIndex_8e157_5 rfl ?_
    refine z_icmp_lt (tgt := 16) C dJ3_checkIndex_8e157_6 (by decide) (fun h6 => ?_) (fun h6 => ?_)
    · refine z_iload_n C dJ3_checkIndex_8e157_16 rfl ?_
      exact z_iret C F hr (Nat.le_of_ble_eq_true rfl) (Nat.le_of_ble_eq_true rfl) ⟨rfl, rfl⟩ dJ3_checkIndex_8e157_17
    · exact absurd (nI_lt h hn) h6
abbrev rm_c_objCheck : Room := { frames := 1, cells := 0, slots := 0, locals := 22 }
set_option maxHeartbeats 4000000 in
set_option maxRecDepth 100000 in
theorem c_objCheck (l : Launch) (Γ : zY) (G : zG) {i n : Nat} (h : i < n) (hn : n < 2 ^ 31) : ZM l yJ15_checkIndex_7cf53 cJ15_checkIndex_7cf53 2 (some FieldType.int) rm_c_objCheck Γ [.int (nI i), .int (nI n)] G (zRd G (.int (nI i))) := by
  refine z_start (by decide +kernel) [some (.int (nI i)), some (.int (nI n))] rfl (Nat.le_of_ble_eq_true rfl) ?_
  intro p e s m args below meth c Q A C F hr hnm
  refine z_iload_n C dJ15_checkIndex_7cf53_0 rfl ?_
  refine z_iload_n C dJ15_checkIndex_7cf53_1 rfl ?_
  refine z_null C dJ15_checkIndex_7cf53_2 ?_
  refine z_callS C (c_preCheck l Γ G h hn) kc_J15_checkIndex_7cf53_3 rfl rfl ky_J3_checkIndex_8e157 ⟨(Nat.le_of_ble_eq_true rfl), (Nat.le_of_ble_eq_true rfl)⟩ (Nat.le_of_ble_eq_true rfl) ⟨(Nat.le_of_ble_eq_true rfl), (Nat.le_of_ble_eq_true rfl)⟩ dJ15_checkIndex_7cf53_3 (fun v3 G3 hp3 => ?_)
  obtain ⟨rfl, rfl⟩ := hp3
  exact z_iret C F hr (Nat.le_of_ble_eq_true rfl) (Nat.le_of_ble_eq_true rfl) ⟨rfl, rfl⟩ dJ15_checkIndex_7cf53_6
abbrev rm_c_elData : Room := { frames := 0, cells := 0, slots := 0, locals := 0 }
set_option maxHeartbeats 4000000 in
set_option maxRecDepth 100000 in
theorem c_elData (l : Launch) (Γ : zY) (G : zG) {b arr cap i y : Nat} {mc sz : Int32} {f : Nat → Option Nat} (hb : G b = some (oAL mc arr sz)) (ha : G arr = some (zO Γ cap f)) (hi : i < cap) (hc : cap ≤ 33) (hy : f i = some y) : ZM l yJx4a65c_elementData_915e3 cJx4a65c_elementData_915e3 2 (some (FieldType.object "java/lang/Object")) rm_c_elData Γ [.ref b, .int (nI i)] G (zRd G (.ref y)) := by
  refine z_start (by decide +kernel) [some (.ref b), some (.int (nI i))] rfl (Nat.le_of_ble_eq_true rfl) ?_
  intro p e s m args below meth c Q A C F hr hnm
  first | refine z_rload_n C dJx4a65c_elementData_915e3_0 rfl ?_ | refine z_nload_n C dJx4a65c_elementData_915e3_0 rfl ?_ | refine z_aload_n C dJx4a65c_elementData_915e3_0 rfl ?_
  refine z_getf (T := TJx4a65c) (N := 3) C (by first | assumption | exact zU_same _ _ _) rfl 1 (by decide) kw_70 (Or.inl rfl) rfl dJx4a65c_elementData_915e3_1 ?_
  refine z_iload_n C dJx4a65c_elementData_915e3_4 rfl ?_
  refine z_aald C (by first | assumption | exact zU_same _ _ _) (vp_in_nI hi (by omega)) ((congrArg f (nI_clamp (by omega))).trans hy) dJx4a65c_elementData_915e3_5 ?_
  exact z_rret C F hr (Or.inl ⟨_, rfl⟩) (Nat.le_of_ble_eq_true rfl) (Nat.le_of_ble_eq_true rfl) ⟨rfl, rfl⟩ dJx4a65c_elementData_915e3_6
abbrev rm_c_get : Room := { frames := 2, cells := 0, slots := 0, locals := 43 }
set_option maxHeartbeats 4000000 in
set_option maxRecDepth 100000 in
theorem c_get (l : Launch) (Γ : zY) (G : zG) {b arr i y : Nat} {xs : List Nat} (hL : zLs Γ G b arr xs) (hy : xs[i]? = some y) : ZM l yJx4a65c_get_915e3 cJx4a65c_get_915e3 2 (some (FieldType.object "java/lang/Object")) rm_c_get Γ [.ref b, .int (nI i)] G (zRd G (.ref y)) := by
  obtain ⟨mc, cap, hb, h1, h2, h3⟩ := hL
  have hi : i < xs.length := (List.getElem?_eq_some_iff.mp hy).1
  rcases h3 with ⟨-, h3⟩ | ⟨-, f, ha, hf⟩
  · omega
  refine z_start (by decide +kernel) [some (.ref b), some (.int (nI i))] rfl (Nat.le_of_ble_eq_true rfl) ?_
  intro p e s m args below meth c Q A C F hr hnm
  refine z_iload_n C dJx4a65c_get_915e3_0 rfl ?_
  first | refine z_rload_n C dJx4a65c_get_915e3_1 rfl ?_ | refine z_nload_n C dJx4a65c_get_915e3_1 rfl ?_ | refine z_aload_n C dJx4a65c_get_915e3_1 rfl ?_
  refine z_getf (T := TJx4a65c) (N := 3) C (by first | assumption | exact zU_same _ _ _) rfl 2 (by decide) kw_71 (Or.inl rfl) rfl dJx4a65c_get_915e3_2 ?_
  refine z_callS C (c_objCheck l Γ G (i := i) (n := xs.length) hi (by omega)) kc_Jx4a65c_get_915e3_5 rfl rfl ky_J15_checkIndex_7cf53 ⟨(Nat.le_of_ble_eq_true rfl), (Nat.le_of_ble_eq_true rfl)⟩ (Nat.le_of_ble_eq_true rfl) ⟨(Nat.le_of_ble_eq_true rfl), (Nat.le_of_ble_eq_true rfl)⟩ dJx4a65c_get_915e3_5 (fun v5 G5 hp5 => ?_)
  obtain ⟨rfl, rfl⟩ := hp5
  refine z_pop C rfl dJx4a65c_get_915e3_8 ?_
  first | refine z_rload_n C dJx4a65c_get_915e3_9 rfl ?_ | refine z_nload_n C dJx4a65c_get_915e3_9 rfl ?_ | refine z_aload_n C dJx4a65c_get_915e3_9 rfl ?_
  refine z_iload_n C dJx4a65c_get_915e3_10 rfl ?_
  refine z_callV (q := (RJx4a65c, TJx4a65c, 3)) C (c_elData l Γ G hb ha (show i < cap by omega) h2 ((hf i hi).trans hy)) kc_Jx4a65c_get_915e3_11 (by first | assumption | exact zU_same _ _ _) rfl rfl rfl rfl ky_Jx4a65c_elementData_915e3 ⟨(Nat.le_of_ble_eq_true rfl), (Nat.le_of_ble_eq_true rfl)⟩ (Nat.le_of_ble_eq_true rfl) ⟨(Nat.le_of_ble_eq_true rfl), (Nat.le_of_ble_eq_true rfl)⟩ dJx4a65c_get_915e3_11 (fun v11 G11 hp11 => ?_)
  obtain ⟨rfl, rfl⟩ := hp11
  exact z_rret C F hr (Or.inl ⟨_, rfl⟩) (Nat.le_of_ble_eq_true rfl) (Nat.le_of_ble_eq_true rfl) ⟨rfl, rfl⟩ dJx4a65c_get_915e3_14
abbrev rm_c_newLen : Room := { frames := 1, cells := 0, slots := 0, locals := 40 }
set_option maxHeartbeats 4000000 in
set_option maxRecDepth 100000 in
theorem c_newLen (l : Launch) (Γ : zY) (G : zG) {a d h : Nat} (ha : a ≤ 1000) (hd : d ≤ 1000) (hh : h ≤ 1000) (h0 : 1 ≤ d) : ZM l yJ8_newLength_cabcc cJ8_newLength_cabcc 4 (some FieldType.int) rm_c_newLen Γ [.int (nI a), .int (nI d), .int (nI h)] G (zRd G (.int (nI (a + max d h)))) := by
  refine z_start (by decide +kernel) [some (.int (nI a)), some (.int (nI d)), some (.int (nI h)), none] rfl (Nat.le_of_ble_eq_true rfl) ?_
  intro p e s m args below meth c Q A C F hr hnm
  have em : (if nI d < nI h then nI h else nI d) = nI (max d h) := by
    by_cases q : d < h
    · rw [if_pos (nI_lt q (by omega)), Nat.max_eq_right (by omega)]
    · rw [if_neg (nI_nlt (by omega) (by omega)), Nat.max_eq_left (by omega)]
  refine z_iload_n C dJ8_newLength_cabcc_0 rfl ?_
  refine z_iload_n C dJ8_newLength_cabcc_1 rfl ?_
  refine z_iload_n C dJ8_newLength_cabcc_2 rfl ?_
  refine z_max C km_J8_newLength_cabcc_3 (Nat.le_of_ble_eq_true rfl) (Nat.le_of_ble_eq_true rfl) (Nat.le_of_ble_eq_true rfl) (Nat.le_of_ble_eq_true rfl) dJ8_newLength_cabcc_3 ?_
  rw [em]
  refine z_iadd C dJ8_newLength_cabcc_6 ?_
  rw [nI_add]
  refine z_istore_n C dJ8_newLength_cabcc_7 (by decide) ?_
  refine z_iconst (v := 0) C dJ8_newLength_cabcc_8 rfl ?_
  refine z_iload_n C dJ8_newLength_cabcc_9 rfl ?_
  refine z_icmp_ge (tgt := 21) C dJ8_newLength_cabcc_10 (by decide) (fun h10 => ?_) (fun h10 => ?_)
  · exact absurd h10 (nI_nle (by omega) (by omega))
  · refine z_iload_n C dJ8_newLength_cabcc_13 rfl ?_
    refine z_ldc C kw_365 dJ8_newLength_cabcc_14 ?_
    refine z_icmp_gt (tgt := 21) C dJ8_newLength_cabcc_16 (by decide) (fun h16 => ?_) (fun h16 => ?_)
    · exact absurd h16 (show ¬ (2147483639 : Int32) < nI (a + max d h) from nI_nlt (a := 2147483639) (b := a + max d h) (by omega) (by decide))
    · refine z_iload_n C dJ8_newLength_cabcc_19 rfl ?_
      exact z_iret C F hr (Nat.le_of_ble_eq_true rfl) (Nat.le_of_ble_eq_true rfl) ⟨rfl, rfl⟩ dJ8_newLength_cabcc_20

