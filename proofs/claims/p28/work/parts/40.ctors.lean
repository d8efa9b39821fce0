theorem dX4_init_0 : decode cX4_init 0 = .ok (.aload_n 0, 1) := by decide +kernel
theorem dX4_init_1 : decode cX4_init 1 = .ok (.invokespecial 1, 3) := by decide +kernel
theorem dX4_init_4 : decode cX4_init 4 = .ok (.aload_n 0, 1) := by decide +kernel
theorem dX4_init_5 : decode cX4_init 5 = .ok (.iload_n 1, 1) := by decide +kernel
theorem dX4_init_6 : decode cX4_init 6 = .ok (.putfield 7, 3) := by decide +kernel
theorem dX4_init_9 : decode cX4_init 9 = .ok (.aload_n 0, 1) := by decide +kernel
theorem dX4_init_10 : decode cX4_init 10 = .ok (.iload_n 2, 1) := by decide +kernel
theorem dX4_init_11 : decode cX4_init 11 = .ok (.putfield 13, 3) := by decide +kernel
theorem dX4_init_14 : decode cX4_init 14 = .ok (.aload_n 0, 1) := by decide +kernel
theorem dX4_init_15 : decode cX4_init 15 = .ok (.iload_n 3, 1) := by decide +kernel
theorem dX4_init_16 : decode cX4_init 16 = .ok (.putfield 16, 3) := by decide +kernel
theorem dX4_init_19 : decode cX4_init 19 = .ok (.return_, 1) := by decide +kernel
theorem ko_X4_init_1 : ∀ w ∈ ([Cond.methodLink "QuakeBench$Station" 1 ⟨"java/lang/Object", "<init>", "()V"⟩, Cond.instanceMethod ⟨"java/lang/Object", "<init>", "()V"⟩, Cond.code ⟨"java/lang/Object", "<init>", "()V"⟩ object_method_1_code 1 (Option.none : Option Jvm.ClassFile.FieldType)] : List Cond), w ∈ lw_all := zin [749, 54, 55] (by decide +kernel)
theorem kw_750 : Cond.fieldLink "QuakeBench$Station" 7 "QuakeBench$Station" "number" "I" ∈ lw_all := zin1 750 (by decide +kernel)
theorem dX1_init_0 : decode cX1_init 0 = .ok (.aload_n 0, 1) := by decide +kernel
theorem dX1_init_1 : decode cX1_init 1 = .ok (.invokespecial 3, 3) := by decide +kernel
theorem dX1_init_4 : decode cX1_init 4 = .ok (.aload_n 0, 1) := by decide +kernel
theorem dX1_init_5 : decode cX1_init 5 = .ok (.iconst 4, 1) := by decide +kernel
theorem dX1_init_6 : decode cX1_init 6 = .ok (.putfield 9, 3) := by decide +kernel
theorem dX1_init_9 : decode cX1_init 9 = .ok (.aload_n 0, 1) := by decide +kernel
theorem dX1_init_10 : decode cX1_init 10 = .ok (.iload_n 1, 1) := by decide +kernel
theorem dX1_init_11 : decode cX1_init 11 = .ok (.putfield 15, 3) := by decide +kernel
theorem dX1_init_14 : decode cX1_init 14 = .ok (.aload_n 0, 1) := by decide +kernel
theorem dX1_init_15 : decode cX1_init 15 = .ok (.aload_n 2, 1) := by decide +kernel
theorem dX1_init_16 : decode cX1_init 16 = .ok (.putfield 18, 3) := by decide +kernel
theorem dX1_init_19 : decode cX1_init 19 = .ok (.aload_n 0, 1) := by decide +kernel
theorem dX1_init_20 : decode cX1_init 20 = .ok (.iload_n 3, 1) := by decide +kernel
theorem dX1_init_21 : decode cX1_init 21 = .ok (.putfield 22, 3) := by decide +kernel
theorem dX1_init_24 : decode cX1_init 24 = .ok (.aload_n 0, 1) := by decide +kernel
theorem dX1_init_25 : decode cX1_init 25 = .ok (.iload 4, 2) := by decide +kernel
theorem dX1_init_27 : decode cX1_init 27 = .ok (.putfield 26, 3) := by decide +kernel
theorem dX1_init_30 : decode cX1_init 30 = .ok (.return_, 1) := by decide +kernel
theorem ko_X1_init_1 : ∀ w ∈ ([Cond.methodLink "QuakeBench$Pick" 3 ⟨"java/lang/Object", "<init>", "()V"⟩, Cond.instanceMethod ⟨"java/lang/Object", "<init>", "()V"⟩, Cond.code ⟨"java/lang/Object", "<init>", "()V"⟩ object_method_1_code 1 (Option.none : Option Jvm.ClassFile.FieldType)] : List Cond), w ∈ lw_all := zin [305, 54, 55] (by decide +kernel)
theorem kw_322 : Cond.fieldLink "QuakeBench$Pick" 9 "QuakeBench$Pick" "weight" "I" ∈ lw_all := zin1 322 (by decide +kernel)
theorem kw_306 : Cond.fieldLink "QuakeBench$Pick" 15 "QuakeBench$Pick" "number" "I" ∈ lw_all := zin1 306 (by decide +kernel)
theorem kw_308 : Cond.fieldLink "QuakeBench$Pick" 18 "QuakeBench$Pick" "station" "LQuakeBench$Station;" ∈ lw_all := zin1 308 (by decide +kernel)
theorem kw_313 : Cond.fieldLink "QuakeBench$Pick" 22 "QuakeBench$Pick" "isS" "Z" ∈ lw_all := zin1 313 (by decide +kernel)
theorem kw_318 : Cond.fieldLink "QuakeBench$Pick" 26 "QuakeBench$Pick" "time" "I" ∈ lw_all := zin1 318 (by decide +kernel)
theorem dX0_init_0 : decode cX0_init 0 = .ok (.aload_n 0, 1) := by decide +kernel
theorem dX0_init_1 : decode cX0_init 1 = .ok (.invokespecial 1, 3) := by decide +kernel
theorem dX0_init_4 : decode cX0_init 4 = .ok (.aload_n 0, 1) := by decide +kernel
theorem dX0_init_5 : decode cX0_init 5 = .ok (.new 7, 3) := by decide +kernel
theorem dX0_init_8 : decode cX0_init 8 = .ok (.dup, 1) := by decide +kernel
theorem dX0_init_9 : decode cX0_init 9 = .ok (.invokespecial 9, 3) := by decide +kernel
theorem dX0_init_12 : decode cX0_init 12 = .ok (.putfield 10, 3) := by decide +kernel
theorem dX0_init_15 : decode cX0_init 15 = .ok (.aload_n 0, 1) := by decide +kernel
theorem dX0_init_16 : decode cX0_init 16 = .ok (.iload_n 1, 1) := by decide +kernel
theorem dX0_init_17 : decode cX0_init 17 = .ok (.putfield 16, 3) := by decide +kernel
theorem dX0_init_20 : decode cX0_init 20 = .ok (.return_, 1) := by decide +kernel
theorem ko_X0_init_1 : ∀ w ∈ ([Cond.methodLink "QuakeBench$Event" 1 ⟨"java/lang/Object", "<init>", "()V"⟩, Cond.instanceMethod ⟨"java/lang/Object", "<init>", "()V"⟩, Cond.code ⟨"java/lang/Object", "<init>", "()V"⟩ object_method_1_code 1 (Option.none : Option Jvm.ClassFile.FieldType)] : List Cond), w ∈ lw_all := zin [433, 54, 55] (by decide +kernel)
theorem kn_X0_init_5 : ∀ w ∈ ([Cond.classLink "QuakeBench$Event" 7 "java/util/ArrayList", Cond.instantiable "java/util/ArrayList" 3, Cond.initialized "java/util/ArrayList"] : List Cond), w ∈ lw_all := zin [434, 57, 27] (by decide +kernel)
theorem ky_Jx4a65c_init_da8c8 : yJx4a65c_init_da8c8.cls ≠ "java/lang/invoke/MethodHandle" ∧ yJx4a65c_init_da8c8.cls ≠ "java/lang/invoke/VarHandle" ∧ (parseMethodDescriptor yJx4a65c_init_da8c8.desc).map (fun d => d.parameters.length) = some 0 := by decide +kernel
theorem kc_X0_init_9 : ∀ w ∈ ([Cond.methodLink "QuakeBench$Event" 9 yJx4a65c_init_da8c8, Cond.instanceMethod yJx4a65c_init_da8c8, Cond.initialized "java/util/ArrayList", Cond.code yJx4a65c_init_da8c8 prog_25_method_2_code 1 (Option.none : Option Jvm.ClassFile.FieldType)] : List Cond), w ∈ lw_all := zin [435, 59, 27, 60] (by decide +kernel)
theorem kw_438 : Cond.fieldLink "QuakeBench$Event" 10 "QuakeBench$Event" "members" "Ljava/util/ArrayList;" ∈ lw_all := zin1 438 (by decide +kernel)
theorem kw_436 : Cond.fieldLink "QuakeBench$Event" 16 "QuakeBench$Event" "number" "I" ∈ lw_all := zin1 436 (by decide +kernel)
theorem dX2_init_0 : decode cX2_init 0 = .ok (.aload_n 0, 1) := by decide +kernel
theorem dX2_init_1 : decode cX2_init 1 = .ok (.invokespecial 3, 3) := by decide +kernel
theorem dX2_init_4 : decode cX2_init 4 = .ok (.aload_n 0, 1) := by decide +kernel
theorem dX2_init_5 : decode cX2_init 5 = .ok (.bipush 80, 2) := by decide +kernel
theorem dX2_init_7 : decode cX2_init 7 = .ok (.newarray .int, 2) := by decide +kernel
theorem dX2_init_9 : decode cX2_init 9 = .ok (.putfield 9, 3) := by decide +kernel
theorem dX2_init_12 : decode cX2_init 12 = .ok (.aload_n 0, 1) := by decide +kernel
theorem dX2_init_13 : decode cX2_init 13 = .ok (.bipush 80, 2) := by decide +kernel
theorem dX2_init_15 : decode cX2_init 15 = .ok (.newarray .int, 2) := by decide +kernel
theorem dX2_init_17 : decode cX2_init 17 = .ok (.putfield 15, 3) := by decide +kernel
theorem dX2_init_20 : decode cX2_init 20 = .ok (.return_, 1) := by decide +kernel
theorem ko_X2_init_1 : ∀ w ∈ ([Cond.methodLink "QuakeBench$Row" 3 ⟨"java/lang/Object", "<init>", "()V"⟩, Cond.instanceMethod ⟨"java/lang/Object", "<init>", "()V"⟩, Cond.code ⟨"java/lang/Object", "<init>", "()V"⟩ object_method_1_code 1 (Option.none : Option Jvm.ClassFile.FieldType)] : List Cond), w ∈ lw_all := zin [100, 54, 55] (by decide +kernel)
theorem kw_115 : Cond.arrayClass Jvm.ClassFile.FieldType.int ∈ lw_all := zin1 115 (by decide +kernel)
theorem dX5_init_0 : decode cX5_init 0 = .ok (.aload_n 0, 1) := by decide +kernel
theorem dX5_init_1 : decode cX5_init 1 = .ok (.invokespecial 3, 3) := by decide +kernel
theorem dX5_init_4 : decode cX5_init 4 = .ok (.aload_n 0, 1) := by decide +kernel
theorem dX5_init_5 : decode cX5_init 5 = .ok (.sipush 6000, 3) := by decide +kernel
theorem dX5_init_8 : decode cX5_init 8 = .ok (.putfield 9, 3) := by decide +kernel
theorem dX5_init_11 : decode cX5_init 11 = .ok (.aload_n 0, 1) := by decide +kernel
theorem dX5_init_12 : decode cX5_init 12 = .ok (.sipush 3468, 3) := by decide +kernel
theorem dX5_init_15 : decode cX5_init 15 = .ok (.putfield 15, 3) := by decide +kernel
theorem dX5_init_18 : decode cX5_init 18 = .ok (.return_, 1) := by decide +kernel
theorem ko_X5_init_1 : ∀ w ∈ ([Cond.methodLink "QuakeBench$Waves" 3 ⟨"java/lang/Object", "<init>", "()V"⟩, Cond.instanceMethod ⟨"java/lang/Object", "<init>", "()V"⟩, Cond.code ⟨"java/lang/Object", "<init>", "()V"⟩ object_method_1_code 1 (Option.none : Option Jvm.ClassFile.FieldType)] : List Cond), w ∈ lw_all := zin [87, 54, 55] (by decide +kernel)
theorem dX3_init_0 : decode cX3_init 0 = .ok (.aload_n 0, 1) := by decide +kernel
theorem dX3_init_1 : decode cX3_init 1 = .ok (.invokespecial 3, 3) := by decide +kernel
theorem dX3_init_4 : decode cX3_init 4 = .ok (.aload_n 0, 1) := by decide +kernel
theorem dX3_init_5 : decode cX3_init 5 = .ok (.aload_n 1, 1) := by decide +kernel
theorem dX3_init_6 : decode cX3_init 6 = .ok (.putfield 9, 3) := by decide +kernel
theorem dX3_init_9 : decode cX3_init 9 = .ok (.aload_n 0, 1) := by decide +kernel
theorem dX3_init_10 : decode cX3_init 10 = .ok (.aload_n 2, 1) := by decide +kernel
theorem dX3_init_11 : decode cX3_init 11 = .ok (.putfield 15, 3) := by decide +kernel
theorem dX3_init_14 : decode cX3_init 14 = .ok (.return_, 1) := by decide +kernel
theorem ko_X3_init_1 : ∀ w ∈ ([Cond.methodLink "QuakeBench$Search" 3 ⟨"java/lang/Object", "<init>", "()V"⟩, Cond.instanceMethod ⟨"java/lang/Object", "<init>", "()V"⟩, Cond.code ⟨"java/lang/Object", "<init>", "()V"⟩ object_method_1_code 1 (Option.none : Option Jvm.ClassFile.FieldType)] : List Cond), w ∈ lw_all := zin [121, 54, 55] (by decide +kernel)
/-! constructors -/
abbrev rm_c_Sta_init : Room := { frames := 1, cells := 0, slots := 0, locals := 20 }
set_option maxHeartbeats 4000000 in
set_option maxRecDepth 100000 in
theorem c_Sta_init (l : Launch) (Γ : zY) (G : zG) {a : Nat} (n x y : Int32) (ha : G a = some (oSta 0 0 0 0)) : ZM l yX4_init cX4_init 4 (none) rm_c_Sta_init Γ [.ref a, .int n, .int x, .int y] G (fun v G' => none = v ∧ zU G a (oSta n x y 0) = G') := by
  refine z_start (by decide +kernel) [some (.ref a), some (.int n), some (.int x), some (.int y)] rfl (Nat.le_of_ble_eq_true rfl) ?_
  intro p e s m args below meth c Q A C F hr hnm
  first | refine z_rload_n C dX4_init_0 rfl ?_ | refine z_nload_n C dX4_init_0 rfl ?_ | refine z_aload_n C dX4_init_0 rfl ?_
  refine z_obj C ko_X4_init_1 (Nat.le_of_ble_eq_true rfl) (Nat.le_of_ble_eq_true rfl) (Nat.le_of_ble_eq_true rfl) (Nat.le_of_ble_eq_true rfl) dX4_init_1 ?_
  first | refine z_rload_n C dX4_init_4 rfl ?_ | refine z_nload_n C dX4_init_4 rfl ?_ | refine z_aload_n C dX4_init_4 rfl ?_
  refine z_iload_n C dX4_init_5 rfl ?_
  refine z_putF (T := TX4) (N := 4) C (by first | assumption | exact zU_same _ _ _) rfl 0 (by decide) kw_750 (Or.inl rfl) rfl hnm rfl (tyX4_ok 0 (by decide)) rfl rfl (Nat.le_of_ble_eq_true rfl) dX4_init_6 ?_
  first | refine z_rload_n C dX4_init_9 rfl ?_ | refine z_nload_n C dX4_init_9 rfl ?_ | refine z_aload_n C dX4_init_9 rfl ?_
  refine z_iload_n C dX4_init_10 rfl ?_
  refine z_putF (T := TX4) (N := 4) C (by first | assumption | exact zU_same _ _ _) rfl 1 (by decide) kw_753 (Or.inl rfl) rfl hnm rfl (tyX4_ok 1 (by decide)) rfl rfl (Nat.le_of_ble_eq_true rfl) dX4_init_11 ?_
  first | refine z_rload_n C dX4_init_14 rfl ?_ | refine z_nload_n C dX4_init_14 rfl ?_ | refine z_aload_n C dX4_init_14 rfl ?_
  refine z_iload_n C dX4_init_15 rfl ?_
  refine z_putF (T := TX4) (N := 4) C (by first | assumption | exact zU_same _ _ _) rfl 2 (by decide) kw_755 (Or.inl rfl) rfl hnm rfl (tyX4_ok 2 (by decide)) rfl rfl (Nat.le_of_ble_eq_true rfl) dX4_init_16 ?_
  exact z_vret C F hr (Nat.le_of_ble_eq_true rfl) (Nat.le_of_ble_eq_true rfl) ⟨rfl, by rw [zU_zU, zU_zU]; rfl⟩ dX4_init_19
abbrev rm_c_Pk_init : Room := { frames := 1, cells := 0, slots := 0, locals := 20 }
set_option maxHeartbeats 4000000 in
set_option maxRecDepth 100000 in
theorem c_Pk_init (l : Launch) (Γ : zY) (G : zG) {a : Nat} (n : Int32) (st : Nat) (iS t : Int32) (hb : narrow .boolean (.int iS) = .int iS) (hf : fits .boolean (.int iS) = true) (ha : G a = some (.inr (2, [.int 0, .null, .int 0, .int 0, .int 0, .int 0, .null]))) : ZM l yX1_init cX1_init 5 (none) rm_c_Pk_init Γ [.ref a, .int n, .ref st, .int iS, .int t] G (fun v G' => none = v ∧ zU G a (oPk n st iS t 4 0 none) = G') := by
  refine z_start (by decide +kernel) [some (.ref a), some (.int n), some (.ref st), some (.int iS), some (.int t)] rfl (Nat.le_of_ble_eq_true rfl) ?_
  intro p e s m args below meth c Q A C F hr hnm
  first | refine z_rload_n C dX1_init_0 rfl ?_ | refine z_nload_n C dX1_init_0 rfl ?_ | refine z_aload_n C dX1_init_0 rfl ?_
  refine z_obj C ko_X1_init_1 (Nat.le_of_ble_eq_true rfl) (Nat.le_of_ble_eq_true rfl) (Nat.le_of_ble_eq_true rfl) (Nat.le_of_ble_eq_true rfl) dX1_init_1 ?_
  first | refine z_rload_n C dX1_init_4 rfl ?_ | refine z_nload_n C dX1_init_4 rfl ?_ | refine z_aload_n C dX1_init_4 rfl ?_
  refine z_iconst (v := 4) C dX1_init_5 rfl ?_
  refine z_putf (T := TX1) (N := 7) C (by first | assumption | exact zU_same _ _ _) rfl 4 (by decide) kw_322 (Or.inl rfl) rfl (tyX1_ok 4 (by decide)) rfl rfl (Nat.le_of_ble_eq_true rfl) dX1_init_6 ?_
  first | refine z_rload_n C dX1_init_9 rfl ?_ | refine z_nload_n C dX1_init_9 rfl ?_ | refine z_aload_n C dX1_init_9 rfl ?_
  refine z_iload_n C dX1_init_10 rfl ?_
  refine z_putF (T := TX1) (N := 7) C (by first | assumption | exact zU_same _ _ _) rfl 0 (by decide) kw_306 (Or.inl rfl) rfl hnm rfl (tyX1_ok 0 (by decide)) rfl rfl (Nat.le_of_ble_eq_true rfl) dX1_init_11 ?_
  first | refine z_rload_n C dX1_init_14 rfl ?_ | refine z_nload_n C dX1_init_14 rfl ?_ | refine z_aload_n C dX1_init_14 rfl ?_
  first | refine z_rload_n C dX1_init_15 rfl ?_ | refine z_nload_n C dX1_init_15 rfl ?_ | refine z_aload_n C dX1_init_15 rfl ?_
  refine z_putF (T := TX1) (N := 7) C (by first | assumption | exact zU_same _ _ _) rfl 1 (by decide) kw_308 (Or.inl rfl) rfl hnm rfl (tyX1_ok 1 (by decide)) rfl rfl (Nat.le_of_ble_eq_true rfl) dX1_init_16 ?_
  first | refine z_rload_n C dX1_init_19 rfl ?_ | refine z_nload_n C dX1_init_19 rfl ?_ | refine z_aload_n C dX1_init_19 rfl ?_
  refine z_iload_n C dX1_init_20 rfl ?_
  refine z_putF (T := TX1) (N := 7) C (by first | assumption | exact zU_same _ _ _) rfl 2 (by decide) kw_313 (Or.inl rfl) rfl hnm rfl (tyX1_ok 2 (by decide)) hb hf (Nat.le_of_ble_eq_true rfl) dX1_init_21 ?_
  first | refine z_rload_n C dX1_init_24 rfl ?_ | refine z_nload_n C dX1_init_24 rfl ?_ | refine z_aload_n C dX1_init_24 rfl ?_
  refine z_iload C dX1_init_25 rfl ?_
  refine z_putF (T := TX1) (N := 7) C (by first | assumption | exact zU_same _ _ _) rfl 3 (by decide) kw_318 (Or.inl rfl) rfl hnm rfl (tyX1_ok 3 (by decide)) rfl rfl (Nat.le_of_ble_eq_true rfl) dX1_init_27 ?_
  exact z_vret C F hr (Nat.le_of_ble_eq_true rfl) (Nat.le_of_ble_eq_true rfl) ⟨rfl, by rw [zU_zU, zU_zU, zU_zU, zU_zU]; rfl⟩ dX1_init_30
abbrev rm_c_Ev_init : Room := { frames := 4, cells := 1, slots := 3, locals := 80 }
set_option maxHeartbeats 4000000 in
set_option maxRecDepth 100000 in
theorem c_Ev_init (l : Launch) (Γ : zY) (G : zG) {a : Nat} (n : Int32) (ha : G a = some (.inr (1, [.int 0, .null, .int 0, .int 0, .int 0, .int 0, .int 0, .int 0]))) : ZM l yX0_init cX0_init 2 (none) rm_c_Ev_init Γ [.ref a, .int n] G (fun v G' => none = v ∧ ∃ ml, G ml = none ∧ G' a = some (oEv n ml 0 0 0 0 0 0) ∧ G' ml = some (oAL 0 (Γ.2.2 0) 0) ∧ ∀ q, q ≠ a → q ≠ ml → G' q = G q) := by
  refine z_start (by decide +kernel) [some (.ref a), some (.int n)] rfl (Nat.le_of_ble_eq_true rfl) ?_
  intro p e s m args below meth c Q A C F hr hnm
  first | refine z_rload_n C dX0_init_0 rfl ?_ | refine z_nload_n C dX0_init_0 rfl ?_ | refine z_aload_n C dX0_init_0 rfl ?_
  refine z_obj C ko_X0_init_1 (Nat.le_of_ble_eq_true rfl) (Nat.le_of_ble_eq_true rfl) (Nat.le_of_ble_eq_true rfl) (Nat.le_of_ble_eq_true rfl) dX0_init_1 ?_
  first | refine z_rload_n C dX0_init_4 rfl ?_ | refine z_nload_n C dX0_init_4 rfl ?_ | refine z_aload_n C dX0_init_4 rfl ?_
  refine z_new (ci := 7) (fs := [.int 0, .null, .int 0]) C kn_X0_init_5 rfl tyJx4a65c tyJx4a65c_ok (fun j hj => by match j, hj with | 0, _ => rfl | 1, _ => rfl | 2, _ => rfl) (Nat.le_of_ble_eq_true rfl) (Nat.le_of_ble_eq_true rfl) dX0_init_5 (fun a5 n5 => ?_)
  refine z_dup C rfl dX0_init_8 ?_
  have hne : a5 ≠ a := (zG_nn ha n5).symm
  refine z_callI C (c_AL_init l Γ _ a5 (zU_same G a5 _)) kc_X0_init_9 rfl rfl rfl ky_Jx4a65c_init_da8c8 ⟨(Nat.le_of_ble_eq_true rfl), (Nat.le_of_ble_eq_true rfl)⟩ (Nat.le_of_ble_eq_true rfl) ⟨(Nat.le_of_ble_eq_true rfl), (Nat.le_of_ble_eq_true rfl)⟩ dX0_init_9 (fun v9 G9 hp9 => ?_)
  obtain ⟨rfl, rfl⟩ := hp9
  refine z_putF (T := TX0) (N := 8) C ((zU_ne hne.symm).trans ((zU_ne hne.symm).trans ha)) rfl 1 (by decide) kw_438 (Or.inl rfl) rfl hnm rfl (tyX0_ok 1 (by decide)) rfl rfl (Nat.le_of_ble_eq_true rfl) dX0_init_12 ?_
  first | refine z_rload_n C dX0_init_15 rfl ?_ | refine z_nload_n C dX0_init_15 rfl ?_ | refine z_aload_n C dX0_init_15 rfl ?_
  refine z_iload_n C dX0_init_16 rfl ?_
  refine z_putF (T := TX0) (N := 8) C (by first | assumption | exact zU_same _ _ _) rfl 0 (by decide) kw_436 (Or.inl rfl) rfl hnm rfl (tyX0_ok 0 (by decide)) rfl rfl (Nat.le_of_ble_eq_true rfl) dX0_init_17 ?_
  exact z_vret C F hr (Nat.le_of_ble_eq_true rfl) (Nat.le_of_ble_eq_true rfl) ⟨rfl, a5, n5, (zU_same _ _ _), by rw [zU_ne hne, zU_ne hne]; exact zU_same _ _ _, fun q h1 h2 => by rw [zU_ne h1, zU_ne h1, zU_ne h2, zU_ne h2]⟩ dX0_init_20
abbrev rm_c_Row_init : Room := { frames := 1, cells := 2, slots := 160, locals := 20 }
set_option maxHeartbeats 4000000 in
set_option maxRecDepth 100000 in
theorem c_Row_init (l : Launch) (Γ : zY) (G : zG) {a : Nat} (ha : G a = some (.inr (3, [.null, .null, .int 0, .int 0]))) : ZM l yX2_init cX2_init 1 (none) rm_c_Row_init Γ [.ref a] G (fun v G' => none = v ∧ ∃ na wa, G na = none ∧ G wa = none ∧ na ≠ wa ∧ G' a = some (oRow na wa 0 0) ∧ G' na = some (zI Γ 80 (fun _ => 0)) ∧ G' wa = some (zI Γ 80 (fun _ => 0)) ∧ ∀ q, q ≠ a → q ≠ na → q ≠ wa → G' q = G q) := by
  refine z_start (by decide +kernel) [some (.ref a)] rfl (Nat.le_of_ble_eq_true rfl) ?_
  intro p e s m args below meth c Q A C F hr hnm
  first | refine z_rload_n C dX2_init_0 rfl ?_ | refine z_nload_n C dX2_init_0 rfl ?_ | refine z_aload_n C dX2_init_0 rfl ?_
  refine z_obj C ko_X2_init_1 (Nat.le_of_ble_eq_true rfl) (Nat.le_of_ble_eq_true rfl) (Nat.le_of_ble_eq_true rfl) (Nat.le_of_ble_eq_true rfl) dX2_init_1 ?_
  first | refine z_rload_n C dX2_init_4 rfl ?_ | refine z_nload_n C dX2_init_4 rfl ?_ | refine z_aload_n C dX2_init_4 rfl ?_
  refine z_bipush (v := 80) C dX2_init_5 rfl ?_
  refine z_newi (N := 80) C kw_115 (by decide) (by decide) (Nat.le_of_ble_eq_true rfl) (Nat.le_of_ble_eq_true rfl) (Nat.le_of_ble_eq_true rfl) dX2_init_7 (fun a7 n7 => ?_)
  have hne : a7 ≠ a := (zG_nn ha n7).symm
  refine z_putF (T := TX2) (N := 4) C ((zU_ne hne.symm).trans ha) rfl 0 (by decide) kw_101 (Or.inl rfl) rfl hnm rfl (tyX2_ok 0 (by decide)) rfl rfl (Nat.le_of_ble_eq_true rfl) dX2_init_9 ?_
  first | refine z_rload_n C dX2_init_12 rfl ?_ | refine z_nload_n C dX2_init_12 rfl ?_ | refine z_aload_n C dX2_init_12 rfl ?_
  refine z_bipush (v := 80) C dX2_init_13 rfl ?_
  refine z_newi (N := 80) C kw_115 (by decide) (by decide) (Nat.le_of_ble_eq_true rfl) (Nat.le_of_ble_eq_true rfl) (Nat.le_of_ble_eq_true rfl) dX2_init_15 (fun a15 n15 => ?_)
  have hne2 : a15 ≠ a := fun z => by rw [z, zU_same] at n15; cases n15
  have hne3 : a15 ≠ a7 := fun z => by rw [z, zU_ne hne, zU_same] at n15; cases n15
  have n15' : G a15 = none := by rw [zU_ne hne2, zU_ne hne3] at n15; exact n15
  refine z_putF (T := TX2) (N := 4) C ((zU_ne hne2.symm).trans (zU_same _ _ _)) rfl 1 (by decide) kw_102 (Or.inl rfl) rfl hnm rfl (tyX2_ok 1 (by decide)) rfl rfl (Nat.le_of_ble_eq_true rfl) dX2_init_17 ?_
  exact z_vret C F hr (Nat.le_of_ble_eq_true rfl) (Nat.le_of_ble_eq_true rfl) ⟨rfl, a7, a15, n7, n15', hne3.symm, zU_same _ _ _, by rw [zU_ne hne, zU_ne hne3.symm, zU_ne hne]; exact zU_same _ _ _, by rw [zU_ne hne2]; exact zU_same _ _ _, fun q h1 h2 h3 => by rw [zU_ne h1, zU_ne h3, zU_ne h1, zU_ne h2]⟩ dX2_init_20
abbrev rm_c_Wav_init : Room := { frames := 1, cells := 0, slots := 0, locals := 20 }
set_option maxHeartbeats 4000000 in
set_option maxRecDepth 100000 in
theorem c_Wav_init (l : Launch) (Γ : zY) (G : zG) {a : Nat} (ha : G a = some (oWav 0 0)) : ZM l yX5_init cX5_init 1 (none) rm_c_Wav_init Γ [.ref a] G (fun v G' => none = v ∧ zU G a (oWav 6000 3468) = G') := by
  refine z_start (by decide +kernel) [some (.ref a)] rfl (Nat.le_of_ble_eq_true rfl) ?_
  intro p e s m args below meth c Q A C F hr hnm
  first | refine z_rload_n C dX5_init_0 rfl ?_ | refine z_nload_n C dX5_init_0 rfl ?_ | refine z_aload_n C dX5_init_0 rfl ?_
  refine z_obj C ko_X5_init_1 (Nat.le_of_ble_eq_true rfl) (Nat.le_of_ble_eq_true rfl) (Nat.le_of_ble_eq_true rfl) (Nat.le_of_ble_eq_true rfl) dX5_init_1 ?_
  first | refine z_rload_n C dX5_init_4 rfl ?_ | refine z_nload_n C dX5_init_4 rfl ?_ | refine z_aload_n C dX5_init_4 rfl ?_
  refine z_sipush (v := 6000) C dX5_init_5 rfl ?_
  refine z_putf (T := TX5) (N := 2) C (by first | assumption | exact zU_same _ _ _) rfl 0 (by decide) kw_88 (Or.inl rfl) rfl (tyX5_ok 0 (by decide)) rfl rfl (Nat.le_of_ble_eq_true rfl) dX5_init_8 ?_
  first | refine z_rload_n C dX5_init_11 rfl ?_ | refine z_nload_n C dX5_init_11 rfl ?_ | refine z_aload_n C dX5_init_11 rfl ?_
  refine z_sipush (v := 3468) C dX5_init_12 rfl ?_
  refine z_putf (T := TX5) (N := 2) C (by first | assumption | exact zU_same _ _ _) rfl 1 (by decide) kw_89 (Or.inl rfl) rfl (tyX5_ok 1 (by decide)) rfl rfl (Nat.le_of_ble_eq_true rfl) dX5_init_15 ?_
  exact z_vret C F hr (Nat.le_of_ble_eq_true rfl) (Nat.le_of_ble_eq_true rfl) ⟨rfl, by rw [zU_zU]; rfl⟩ dX5_init_18
abbrev rm_c_Sea_init : Room := { frames := 1, cells := 0, slots := 0, locals := 20 }
set_option maxHeartbeats 4000000 in
set_option maxRecDepth 100000 in
theorem c_Sea_init (l : Launch) (Γ : zY) (G : zG) {a : Nat} (wv ro : Nat) (ha : G a = some (.inr (4, [.null, .null, .int 0, .int 0, .int 0, .int 0, .int 0, .long 0]))) : ZM l yX3_init cX3_init 3 (none) rm_c_Sea_init Γ [.ref a, .ref wv, .ref ro] G (fun v G' => none = v ∧ zU G a (oSea wv ro 0 0 0 0 0 0) = G') := by
  refine z_start (by decide +kernel) [some (.ref a), some (.ref wv), some (.ref ro)] rfl (Nat.le_of_ble_eq_true rfl) ?_
  intro p e s m args below meth c Q A C F hr hnm
  first | refine z_rload_n C dX3_init_0 rfl ?_ | refine z_nload_n C dX3_init_0 rfl ?_ | refine z_aload_n C dX3_init_0 rfl ?_
  refine z_obj C ko_X3_init_1 (Nat.le_of_ble_eq_true rfl) (Nat.le_of_ble_eq_true rfl) (Nat.le_of_ble_eq_true rfl) (Nat.le_of_ble_eq_true rfl) dX3_init_1 ?_
  first | refine z_rload_n C dX3_init_4 rfl ?_ | refine z_nload_n C dX3_init_4 rfl ?_ | refine z_aload_n C dX3_init_4 rfl ?_
  first | refine z_rload_n C dX3_init_5 rfl ?_ | refine z_nload_n C dX3_init_5 rfl ?_ | refine z_aload_n C dX3_init_5 rfl ?_
  refine z_putF (T := TX3) (N := 8) C (by first | assumption | exact zU_same _ _ _) rfl 0 (by decide) kw_122 (Or.inl rfl) rfl hnm rfl (tyX3_ok 0 (by decide)) rfl rfl (Nat.le_of_ble_eq_true rfl) dX3_init_6 ?_
  first | refine z_rload_n C dX3_init_9 rfl ?_ | refine z_nload_n C dX3_init_9 rfl ?_ | refine z_aload_n C dX3_init_9 rfl ?_
  first | refine z_rload_n C dX3_init_10 rfl ?_ | refine z_nload_n C dX3_init_10 rfl ?_ | refine z_aload_n C dX3_init_10 rfl ?_
  refine z_putF (T := TX3) (N := 8) C (by first | assumption | exact zU_same _ _ _) rfl 1 (by decide) kw_123 (Or.inl rfl) rfl hnm rfl (tyX3_ok 1 (by decide)) rfl rfl (Nat.le_of_ble_eq_true rfl) dX3_init_11 ?_
  exact z_vret C F hr (Nat.le_of_ble_eq_true rfl) (Nat.le_of_ble_eq_true rfl) ⟨rfl, by rw [zU_zU]; rfl⟩ dX3_init_14

