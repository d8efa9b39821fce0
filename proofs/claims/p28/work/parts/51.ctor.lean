theorem dX6_init_0 : decode cX6_init 0 = .ok (.aload_n 0, 1) := by decide +kernel
theorem dX6_init_1 : decode cX6_init 1 = .ok (.invokespecial 1, 3) := by decide +kernel
theorem dX6_init_4 : decode cX6_init 4 = .ok (.aload_n 0, 1) := by decide +kernel
theorem dX6_init_5 : decode cX6_init 5 = .ok (.new 7, 3) := by decide +kernel
theorem dX6_init_8 : decode cX6_init 8 = .ok (.dup, 1) := by decide +kernel
theorem dX6_init_9 : decode cX6_init 9 = .ok (.invokespecial 9, 3) := by decide +kernel
theorem dX6_init_12 : decode cX6_init 12 = .ok (.putfield 10, 3) := by decide +kernel
theorem dX6_init_15 : decode cX6_init 15 = .ok (.aload_n 0, 1) := by decide +kernel
theorem dX6_init_16 : decode cX6_init 16 = .ok (.new 7, 3) := by decide +kernel
theorem dX6_init_19 : decode cX6_init 19 = .ok (.dup, 1) := by decide +kernel
theorem dX6_init_20 : decode cX6_init 20 = .ok (.invokespecial 9, 3) := by decide +kernel
theorem dX6_init_23 : decode cX6_init 23 = .ok (.putfield 16, 3) := by decide +kernel
theorem dX6_init_26 : decode cX6_init 26 = .ok (.aload_n 0, 1) := by decide +kernel
theorem dX6_init_27 : decode cX6_init 27 = .ok (.new 7, 3) := by decide +kernel
theorem dX6_init_30 : decode cX6_init 30 = .ok (.dup, 1) := by decide +kernel
theorem dX6_init_31 : decode cX6_init 31 = .ok (.invokespecial 9, 3) := by decide +kernel
theorem dX6_init_34 : decode cX6_init 34 = .ok (.putfield 19, 3) := by decide +kernel
theorem dX6_init_37 : decode cX6_init 37 = .ok (.aload_n 0, 1) := by decide +kernel
theorem dX6_init_38 : decode cX6_init 38 = .ok (.new 22, 3) := by decide +kernel
theorem dX6_init_41 : decode cX6_init 41 = .ok (.dup, 1) := by decide +kernel
theorem dX6_init_42 : decode cX6_init 42 = .ok (.invokespecial 24, 3) := by decide +kernel
theorem dX6_init_45 : decode cX6_init 45 = .ok (.putfield 25, 3) := by decide +kernel
theorem dX6_init_48 : decode cX6_init 48 = .ok (.aload_n 0, 1) := by decide +kernel
theorem dX6_init_49 : decode cX6_init 49 = .ok (.new 29, 3) := by decide +kernel
theorem dX6_init_52 : decode cX6_init 52 = .ok (.dup, 1) := by decide +kernel
theorem dX6_init_53 : decode cX6_init 53 = .ok (.invokespecial 31, 3) := by decide +kernel
theorem dX6_init_56 : decode cX6_init 56 = .ok (.putfield 32, 3) := by decide +kernel
theorem dX6_init_59 : decode cX6_init 59 = .ok (.aload_n 0, 1) := by decide +kernel
theorem dX6_init_60 : decode cX6_init 60 = .ok (.new 36, 3) := by decide +kernel
theorem dX6_init_63 : decode cX6_init 63 = .ok (.dup, 1) := by decide +kernel
theorem dX6_init_64 : decode cX6_init 64 = .ok (.aload_n 0, 1) := by decide +kernel
theorem dX6_init_65 : decode cX6_init 65 = .ok (.getfield 25, 3) := by decide +kernel
theorem dX6_init_68 : decode cX6_init 68 = .ok (.aload_n 0, 1) := by decide +kernel
theorem dX6_init_69 : decode cX6_init 69 = .ok (.getfield 32, 3) := by decide +kernel
theorem dX6_init_72 : decode cX6_init 72 = .ok (.invokespecial 38, 3) := by decide +kernel
theorem dX6_init_75 : decode cX6_init 75 = .ok (.putfield 41, 3) := by decide +kernel
theorem dX6_init_78 : decode cX6_init 78 = .ok (.aload_n 0, 1) := by decide +kernel
theorem dX6_init_79 : decode cX6_init 79 = .ok (.new 7, 3) := by decide +kernel
theorem dX6_init_82 : decode cX6_init 82 = .ok (.dup, 1) := by decide +kernel
theorem dX6_init_83 : decode cX6_init 83 = .ok (.invokespecial 9, 3) := by decide +kernel
theorem dX6_init_86 : decode cX6_init 86 = .ok (.putfield 45, 3) := by decide +kernel
theorem dX6_init_89 : decode cX6_init 89 = .ok (.aload_n 0, 1) := by decide +kernel
theorem dX6_init_90 : decode cX6_init 90 = .ok (.new 7, 3) := by decide +kernel
theorem dX6_init_93 : decode cX6_init 93 = .ok (.dup, 1) := by decide +kernel
theorem dX6_init_94 : decode cX6_init 94 = .ok (.invokespecial 9, 3) := by decide +kernel
theorem dX6_init_97 : decode cX6_init 97 = .ok (.putfield 48, 3) := by decide +kernel
theorem dX6_init_100 : decode cX6_init 100 = .ok (.return_, 1) := by decide +kernel
theorem ko_X6_init_1 : ∀ w ∈ ([Cond.methodLink "QuakeBench" 1 ⟨"java/lang/Object", "<init>", "()V"⟩, Cond.instanceMethod ⟨"java/lang/Object", "<init>", "()V"⟩, Cond.code ⟨"java/lang/Object", "<init>", "()V"⟩ object_method_1_code 1 (Option.none : Option Jvm.ClassFile.FieldType)] : List Cond), w ∈ lw_all := zin [53, 54, 55] (by decide +kernel)
theorem kn_X6_init_5 : ∀ w ∈ ([Cond.classLink "QuakeBench" 7 "java/util/ArrayList", Cond.instantiable "java/util/ArrayList" 3, Cond.initialized "java/util/ArrayList"] : List Cond), w ∈ lw_all := zin [56, 57, 27] (by decide +kernel)
theorem kc_X6_init_9 : ∀ w ∈ ([Cond.methodLink "QuakeBench" 9 yJx4a65c_init_da8c8, Cond.instanceMethod yJx4a65c_init_da8c8, Cond.initialized "java/util/ArrayList", Cond.code yJx4a65c_init_da8c8 prog_25_method_2_code 1 (Option.none : Option Jvm.ClassFile.FieldType)] : List Cond), w ∈ lw_all := zin [58, 59, 27, 60] (by decide +kernel)
theorem kw_147 : Cond.fieldLink "QuakeBench" 10 "QuakeBench" "stations" "Ljava/util/ArrayList;" ∈ lw_all := zin1 147 (by decide +kernel)
theorem kn_X6_init_16 : ∀ w ∈ ([Cond.classLink "QuakeBench" 7 "java/util/ArrayList", Cond.instantiable "java/util/ArrayList" 3, Cond.initialized "java/util/ArrayList"] : List Cond), w ∈ lw_all := zin [56, 57, 27] (by decide +kernel)
theorem kc_X6_init_20 : ∀ w ∈ ([Cond.methodLink "QuakeBench" 9 yJx4a65c_init_da8c8, Cond.instanceMethod yJx4a65c_init_da8c8, Cond.initialized "java/util/ArrayList", Cond.code yJx4a65c_init_da8c8 prog_25_method_2_code 1 (Option.none : Option Jvm.ClassFile.FieldType)] : List Cond), w ∈ lw_all := zin [58, 59, 27, 60] (by decide +kernel)
theorem kw_148 : Cond.fieldLink "QuakeBench" 16 "QuakeBench" "picks" "Ljava/util/ArrayList;" ∈ lw_all := zin1 148 (by decide +kernel)
theorem kn_X6_init_27 : ∀ w ∈ ([Cond.classLink "QuakeBench" 7 "java/util/ArrayList", Cond.instantiable "java/util/ArrayList" 3, Cond.initialized "java/util/ArrayList"] : List Cond), w ∈ lw_all := zin [56, 57, 27] (by decide +kernel)
theorem kc_X6_init_31 : ∀ w ∈ ([Cond.methodLink "QuakeBench" 9 yJx4a65c_init_da8c8, Cond.instanceMethod yJx4a65c_init_da8c8, Cond.initialized "java/util/ArrayList", Cond.code yJx4a65c_init_da8c8 prog_25_method_2_code 1 (Option.none : Option Jvm.ClassFile.FieldType)] : List Cond), w ∈ lw_all := zin [58, 59, 27, 60] (by decide +kernel)
theorem kw_149 : Cond.fieldLink "QuakeBench" 19 "QuakeBench" "events" "Ljava/util/ArrayList;" ∈ lw_all := zin1 149 (by decide +kernel)
theorem kn_X6_init_38 : ∀ w ∈ ([Cond.classLink "QuakeBench" 22 "QuakeBench$Waves", Cond.instantiable "QuakeBench$Waves" 2, Cond.initialized "QuakeBench$Waves"] : List Cond), w ∈ lw_all := zin [82, 83, 28] (by decide +kernel)
theorem ky_X5_init : yX5_init.cls ≠ "java/lang/invoke/MethodHandle" ∧ yX5_init.cls ≠ "java/lang/invoke/VarHandle" ∧ (parseMethodDescriptor yX5_init.desc).map (fun d => d.parameters.length) = some 0 := by decide +kernel
theorem kn_84 : Cond.methodLinkNest "QuakeBench" 24 yX5_init "QuakeBench" ∈ lw_nest := by decide +kernel
theorem kc_X6_init_42 : ∀ w ∈ ([Cond.instanceMethod yX5_init, Cond.initialized "QuakeBench$Waves", Cond.code yX5_init prog_7_method_1_code 1 (Option.none : Option Jvm.ClassFile.FieldType)] : List Cond), w ∈ lw_all := zin [85, 28, 86] (by decide +kernel)
theorem kw_150 : Cond.fieldLink "QuakeBench" 25 "QuakeBench" "waves" "LQuakeBench$Waves;" ∈ lw_all := zin1 150 (by decide +kernel)
theorem kn_X6_init_49 : ∀ w ∈ ([Cond.classLink "QuakeBench" 29 "QuakeBench$Row", Cond.instantiable "QuakeBench$Row" 4, Cond.initialized "QuakeBench$Row"] : List Cond), w ∈ lw_all := zin [95, 96, 29] (by decide +kernel)
theorem ky_X2_init : yX2_init.cls ≠ "java/lang/invoke/MethodHandle" ∧ yX2_init.cls ≠ "java/lang/invoke/VarHandle" ∧ (parseMethodDescriptor yX2_init.desc).map (fun d => d.parameters.length) = some 0 := by decide +kernel
theorem kn_97 : Cond.methodLinkNest "QuakeBench" 31 yX2_init "QuakeBench" ∈ lw_nest := by decide +kernel
theorem kc_X6_init_53 : ∀ w ∈ ([Cond.instanceMethod yX2_init, Cond.initialized "QuakeBench$Row", Cond.code yX2_init prog_4_method_1_code 1 (Option.none : Option Jvm.ClassFile.FieldType)] : List Cond), w ∈ lw_all := zin [98, 29, 99] (by decide +kernel)
theorem kw_151 : Cond.fieldLink "QuakeBench" 32 "QuakeBench" "row" "LQuakeBench$Row;" ∈ lw_all := zin1 151 (by decide +kernel)
theorem kn_X6_init_60 : ∀ w ∈ ([Cond.classLink "QuakeBench" 36 "QuakeBench$Search", Cond.instantiable "QuakeBench$Search" 8, Cond.initialized "QuakeBench$Search"] : List Cond), w ∈ lw_all := zin [116, 117, 30] (by decide +kernel)
theorem ky_X3_init : yX3_init.cls ≠ "java/lang/invoke/MethodHandle" ∧ yX3_init.cls ≠ "java/lang/invoke/VarHandle" ∧ (parseMethodDescriptor yX3_init.desc).map (fun d => d.parameters.length) = some 2 := by decide +kernel
theorem kc_X6_init_72 : ∀ w ∈ ([Cond.methodLink "QuakeBench" 38 yX3_init, Cond.instanceMethod yX3_init, Cond.initialized "QuakeBench$Search", Cond.code yX3_init prog_5_method_1_code 3 (Option.none : Option Jvm.ClassFile.FieldType)] : List Cond), w ∈ lw_all := zin [118, 119, 30, 120] (by decide +kernel)
theorem kw_152 : Cond.fieldLink "QuakeBench" 41 "QuakeBench" "search" "LQuakeBench$Search;" ∈ lw_all := zin1 152 (by decide +kernel)
theorem kn_X6_init_79 : ∀ w ∈ ([Cond.classLink "QuakeBench" 7 "java/util/ArrayList", Cond.instantiable "java/util/ArrayList" 3, Cond.initialized "java/util/ArrayList"] : List Cond), w ∈ lw_all := zin [56, 57, 27] (by decide +kernel)
theorem kc_X6_init_83 : ∀ w ∈ ([Cond.methodLink "QuakeBench" 9 yJx4a65c_init_da8c8, Cond.instanceMethod yJx4a65c_init_da8c8, Cond.initialized "java/util/ArrayList", Cond.code yJx4a65c_init_da8c8 prog_25_method_2_code 1 (Option.none : Option Jvm.ClassFile.FieldType)] : List Cond), w ∈ lw_all := zin [58, 59, 27, 60] (by decide +kernel)
theorem kw_153 : Cond.fieldLink "QuakeBench" 45 "QuakeBench" "loose" "Ljava/util/ArrayList;" ∈ lw_all := zin1 153 (by decide +kernel)
theorem kn_X6_init_90 : ∀ w ∈ ([Cond.classLink "QuakeBench" 7 "java/util/ArrayList", Cond.instantiable "java/util/ArrayList" 3, Cond.initialized "java/util/ArrayList"] : List Cond), w ∈ lw_all := zin [56, 57, 27] (by decide +kernel)
theorem kc_X6_init_94 : ∀ w ∈ ([Cond.methodLink "QuakeBench" 9 yJx4a65c_init_da8c8, Cond.instanceMethod yJx4a65c_init_da8c8, Cond.initialized "java/util/ArrayList", Cond.code yJx4a65c_init_da8c8 prog_25_method_2_code 1 (Option.none : Option Jvm.ClassFile.FieldType)] : List Cond), w ∈ lw_all := zin [58, 59, 27, 60] (by decide +kernel)
theorem kw_154 : Cond.fieldLink "QuakeBench" 48 "QuakeBench" "companions" "Ljava/util/ArrayList;" ∈ lw_all := zin1 154 (by decide +kernel)
/-! the bench's constructor -/
abbrev rm_c_QB_init : Room := { frames := 4, cells := 10, slots := 189, locals := 80 }
set_option maxHeartbeats 4000000 in
set_option maxRecDepth 100000 in
theorem c_QB_init (l : Launch) (Γ : zY) (G : zG) {b : Nat} (hb : G b = some (.inr (0, [.null, .null, .null, .null, .null, .null, .null, .null]))) : ZM l yX6_init cX6_init 1 (none) rm_c_QB_init Γ [.ref b] G (fun v G' => none = v ∧ ∃ α g, α 0 = b ∧ zBn Γ G' α g ∧ (∀ t, gXs g t = []) ∧ ∀ q e, G q = some e → q ≠ b → G' q = some e) := by
  refine z_start (by decide +kernel) [some (.ref b)] rfl (Nat.le_of_ble_eq_true rfl) ?_
  intro p e s m args below meth c Q A C F hr hnm
  have f_b := hb
  have f_old : ∀ q e, G q = some e → q ≠ b → G q = some e := fun q e h _ => h
  first | refine z_rload_n C dX6_init_0 rfl ?_ | refine z_nload_n C dX6_init_0 rfl ?_ | refine z_aload_n C dX6_init_0 rfl ?_
  refine z_obj C ko_X6_init_1 (Nat.le_of_ble_eq_true rfl) (Nat.le_of_ble_eq_true rfl) (Nat.le_of_ble_eq_true rfl) (Nat.le_of_ble_eq_true rfl) dX6_init_1 ?_
  first | refine z_rload_n C dX6_init_4 rfl ?_ | refine z_nload_n C dX6_init_4 rfl ?_ | refine z_aload_n C dX6_init_4 rfl ?_
  refine z_new (ci := 7) (fs := [.int 0, .null, .int 0]) C kn_X6_init_5 rfl tyJx4a65c tyJx4a65c_ok (fun j hj => by match j, hj with | 0, _ => rfl | 1, _ => rfl | 2, _ => rfl) (Nat.le_of_ble_eq_true rfl) (Nat.le_of_ble_eq_true rfl) dX6_init_5 (fun a5 n5 => ?_)
  have dd_b_a5 : b ≠ a5 := zG_nn f_b n5
  refine z_dup C rfl dX6_init_8 ?_
  refine z_callI C (c_AL_init l Γ _ a5 (zU_same _ _ _)) kc_X6_init_9 rfl rfl rfl ky_Jx4a65c_init_da8c8 ⟨(Nat.le_of_ble_eq_true rfl), (Nat.le_of_ble_eq_true rfl)⟩ (Nat.le_of_ble_eq_true rfl) ⟨(Nat.le_of_ble_eq_true rfl), (Nat.le_of_ble_eq_true rfl)⟩ dX6_init_9 (fun v9 G9 hp9 => ?_)
  obtain ⟨rfl, rfl⟩ := hp9
  have ne_b5 : b ≠ a5 := zG_nn f_b n5
  refine z_putF (T := TX6) (N := 8) C ((zU_ne ne_b5).trans ((zU_ne ne_b5).trans f_b)) rfl 0 (by decide) kw_147 (Or.inl rfl) rfl hnm rfl (tyX6_ok 0 (by decide)) rfl rfl (Nat.le_of_ble_eq_true rfl) dX6_init_12 ?_
  refine z_gen (fun G0_ e_0 => ?_)
  replace f_old : ∀ q e, G q = some e → q ≠ b → G0_ q = some e := fun q e h h2 => (e_0 q).trans ((zU_ne h2).trans (by have h3 := f_old q e h h2; exact (zU_ne (zG_nn h3 n5)).trans ((zU_ne (zG_nn h3 n5)).trans h3)))
  have f_a5 := (e_0 a5).trans ((zU_ne ne_b5.symm).trans (zU_same _ _ _))
  replace f_b : G0_ b = some (.inr (0, [.ref a5, .null, .null, .null, .null, .null, .null, .null])) := (e_0 b).trans (zU_same _ _ _)
  first | refine z_rload_n C dX6_init_15 rfl ?_ | refine z_nload_n C dX6_init_15 rfl ?_ | refine z_aload_n C dX6_init_15 rfl ?_
  refine z_new (ci := 7) (fs := [.int 0, .null, .int 0]) C kn_X6_init_16 rfl tyJx4a65c tyJx4a65c_ok (fun j hj => by match j, hj with | 0, _ => rfl | 1, _ => rfl | 2, _ => rfl) (Nat.le_of_ble_eq_true rfl) (Nat.le_of_ble_eq_true rfl) dX6_init_16 (fun a16 n16 => ?_)
  have dd_b_a16 : b ≠ a16 := zG_nn f_b n16
  have dd_a5_a16 : a5 ≠ a16 := zG_nn f_a5 n16
  refine z_dup C rfl dX6_init_19 ?_
  refine z_callI C (c_AL_init l Γ _ a16 (zU_same _ _ _)) kc_X6_init_20 rfl rfl rfl ky_Jx4a65c_init_da8c8 ⟨(Nat.le_of_ble_eq_true rfl), (Nat.le_of_ble_eq_true rfl)⟩ (Nat.le_of_ble_eq_true rfl) ⟨(Nat.le_of_ble_eq_true rfl), (Nat.le_of_ble_eq_true rfl)⟩ dX6_init_20 (fun v20 G20 hp20 => ?_)
  obtain ⟨rfl, rfl⟩ := hp20
  have ne_b16 : b ≠ a16 := zG_nn f_b n16
  refine z_putF (T := TX6) (N := 8) C ((zU_ne ne_b16).trans ((zU_ne ne_b16).trans f_b)) rfl 1 (by decide) kw_148 (Or.inl rfl) rfl hnm rfl (tyX6_ok 1 (by decide)) rfl rfl (Nat.le_of_ble_eq_true rfl) dX6_init_23 ?_
  refine z_gen (fun G1_ e_1 => ?_)
  replace f_old : ∀ q e, G q = some e → q ≠ b → G1_ q = some e := fun q e h h2 => (e_1 q).trans ((zU_ne h2).trans (by have h3 := f_old q e h h2; exact (zU_ne (zG_nn h3 n16)).trans ((zU_ne (zG_nn h3 n16)).trans h3)))
  replace f_a5 := (e_1 a5).trans ((zU_ne (ne_b5).symm).trans ((zU_ne (zG_nn f_a5 n16)).trans ((zU_ne (zG_nn f_a5 n16)).trans f_a5)))
  have f_a16 := (e_1 a16).trans ((zU_ne ne_b16.symm).trans (zU_same _ _ _))
  replace f_b : G1_ b = some (.inr (0, [.ref a5, .ref a16, .null, .null, .null, .null, .null, .null])) := (e_1 b).trans (zU_same _ _ _)
  first | refine z_rload_n C dX6_init_26 rfl ?_ | refine z_nload_n C dX6_init_26 rfl ?_ | refine z_aload_n C dX6_init_26 rfl ?_
  refine z_new (ci := 7) (fs := [.int 0, .null, .int 0]) C kn_X6_init_27 rfl tyJx4a65c tyJx4a65c_ok (fun j hj => by match j, hj with | 0, _ => rfl | 1, _ => rfl | 2, _ => rfl) (Nat.le_of_ble_eq_true rfl) (Nat.le_of_ble_eq_true rfl) dX6_init_27 (fun a27 n27 => ?_)
  have dd_b_a27 : b ≠ a27 := zG_nn f_b n27
  have dd_a5_a27 : a5 ≠ a27 := zG_nn f_a5 n27
  have dd_a16_a27 : a16 ≠ a27 := zG_nn f_a16 n27
  refine z_dup C rfl dX6_init_30 ?_
  refine z_callI C (c_AL_init l Γ _ a27 (zU_same _ _ _)) kc_X6_init_31 rfl rfl rfl ky_Jx4a65c_init_da8c8 ⟨(Nat.le_of_ble_eq_true rfl), (Nat.le_of_ble_eq_true rfl)⟩ (Nat.le_of_ble_eq_true rfl) ⟨(Nat.le_of_ble_eq_true rfl), (Nat.le_of_ble_eq_true rfl)⟩ dX6_init_31 (fun v31 G31 hp31 => ?_)
  obtain ⟨rfl, rfl⟩ := hp31
  have ne_b27 : b ≠ a27 := zG_nn f_b n27
  refine z_putF (T := TX6) (N := 8) C ((zU_ne ne_b27).trans ((zU_ne ne_b27).trans f_b)) rfl 2 (by decide) kw_149 (Or.inl rfl) rfl hnm rfl (tyX6_ok 2 (by decide)) rfl rfl (Nat.le_of_ble_eq_true rfl) dX6_init_34 ?_
  refine z_gen (fun G2_ e_2 => ?_)
  replace f_old : ∀ q e, G q = some e → q ≠ b → G2_ q = some e := fun q e h h2 => (e_2 q).trans ((zU_ne h2).trans (by have h3 := f_old q e h h2; exact (zU_ne (zG_nn h3 n27)).trans ((zU_ne (zG_nn h3 n27)).trans h3)))
  replace f_a5 := (e_2 a5).trans ((zU_ne (ne_b5).symm).trans ((zU_ne (zG_nn f_a5 n27)).trans ((zU_ne (zG_nn f_a5 n27)).trans f_a5)))
  replace f_a16 := (e_2 a16).trans ((zU_ne (ne_b16).symm).trans ((zU_ne (zG_nn f_a16 n27)).trans ((zU_ne (zG_nn f_a16 n27)).trans f_a16)))
  have f_a27 := (e_2 a27).trans ((zU_ne ne_b27.symm).trans (zU_same _ _ _))
  replace f_b : G2_ b = some (.inr (0, [.ref a5, .ref a16, .ref a27, .null, .null, .null, .null, .null])) := (e_2 b).trans (zU_same _ _ _)
  first | refine z_rload_n C dX6_init_37 rfl ?_ | refine z_nload_n C dX6_init_37 rfl ?_ | refine z_aload_n C dX6_init_37 rfl ?_
  refine z_new (ci := 6) (fs := [.int 0, .int 0]) C kn_X6_init_38 rfl tyX5 tyX5_ok (fun j hj => by match j, hj with | 0, _ => rfl | 1, _ => rfl) (Nat.le_of_ble_eq_true rfl) (Nat.le_of_ble_eq_true rfl) dX6_init_38 (fun a38 n38 => ?_)
  have dd_b_a38 : b ≠ a38 := zG_nn f_b n38
  have dd_a5_a38 : a5 ≠ a38 := zG_nn f_a5 n38
  have dd_a16_a38 : a16 ≠ a38 := zG_nn f_a16 n38
  have dd_a27_a38 : a27 ≠ a38 := zG_nn f_a27 n38
  refine z_dup C rfl dX6_init_41 ?_
  refine z_callIN C (c_Wav_init l Γ _ (zU_same _ a38 _)) kn_84 kc_X6_init_42 rfl rfl rfl ky_X5_init ⟨(Nat.le_of_ble_eq_true rfl), (Nat.le_of_ble_eq_true rfl)⟩ (Nat.le_of_ble_eq_true rfl) ⟨(Nat.le_of_ble_eq_true rfl), (Nat.le_of_ble_eq_true rfl)⟩ dX6_init_42 (fun v42 G42 hp42 => ?_)
  obtain ⟨rfl, rfl⟩ := hp42
  have ne_b38 : b ≠ a38 := zG_nn f_b n38
  refine z_putF (T := TX6) (N := 8) C ((zU_ne ne_b38).trans ((zU_ne ne_b38).trans f_b)) rfl 3 (by decide) kw_150 (Or.inl rfl) rfl hnm rfl (tyX6_ok 3 (by decide)) rfl rfl (Nat.le_of_ble_eq_true rfl) dX6_init_45 ?_
  refine z_gen (fun G3_ e_3 => ?_)
  replace f_old : ∀ q e, G q = some e → q ≠ b → G3_ q = some e := fun q e h h2 => (e_3 q).trans ((zU_ne h2).trans (by have h3 := f_old q e h h2; exact (zU_ne (zG_nn h3 n38)).trans ((zU_ne (zG_nn h3 n38)).trans h3)))
  replace f_a5 := (e_3 a5).trans ((zU_ne (ne_b5).symm).trans ((zU_ne (zG_nn f_a5 n38)).trans ((zU_ne (zG_nn f_a5 n38)).trans f_a5)))
  replace f_a16 := (e_3 a16).trans ((zU_ne (ne_b16).symm).trans ((zU_ne (zG_nn f_a16 n38)).trans ((zU_ne (zG_nn f_a16 n38)).trans f_a16)))
  replace f_a27 := (e_3 a27).trans ((zU_ne (ne_b27).symm).trans ((zU_ne (zG_nn f_a27 n38)).trans ((zU_ne (zG_nn f_a27 n38)).trans f_a27)))
  have f_a38 := (e_3 a38).trans ((zU_ne ne_b38.symm).trans (zU_same _ _ _))
  replace f_b : G3_ b = some (.inr (0, [.ref a5, .ref a16, .ref a27, .ref a38, .null, .null, .null, .null])) := (e_3 b).trans (zU_same _ _ _)
  first | refine z_rload_n C dX6_init_48 rfl ?_ | refine z_nload_n C dX6_init_48 rfl ?_ | refine z_aload_n C dX6_init_48 rfl ?_
  refine z_new (ci := 3) (fs := [.null, .null, .int 0, .int 0]) C kn_X6_init_49 rfl tyX2 tyX2_ok (fun j hj => by match j, hj with | 0, _ => rfl | 1, _ => rfl | 2, _ => rfl | 3, _ => rfl) (Nat.le_of_ble_eq_true rfl) (Nat.le_of_ble_eq_true rfl) dX6_init_49 (fun a49 n49 => ?_)
  have dd_b_a49 : b ≠ a49 := zG_nn f_b n49
  have dd_a5_a49 : a5 ≠ a49 := zG_nn f_a5 n49
  have dd_a16_a49 : a16 ≠ a49 := zG_nn f_a16 n49
  have dd_a27_a49 : a27 ≠ a49 := zG_nn f_a27 n49
  have dd_a38_a49 : a38 ≠ a49 := zG_nn f_a38 n49
  refine z_dup C rfl dX6_init_52 ?_
  refine z_callIN C (c_Row_init l Γ _ (zU_same _ a49 _)) kn_97 kc_X6_init_53 rfl rfl rfl ky_X2_init ⟨(Nat.le_of_ble_eq_true rfl), (Nat.le_of_ble_eq_true rfl)⟩ (Nat.le_of_ble_eq_true rfl) ⟨(Nat.le_of_ble_eq_true rfl), (Nat.le_of_ble_eq_true rfl)⟩ dX6_init_53 (fun v53 G53 hp53 => ?_)
  obtain ⟨rfl, na, wa, r_na, r_wa, r_nw, r_a, r_f, r_g, r_o⟩ := hp53
  have ne_b49 : b ≠ a49 := zG_nn f_b n49
  have r_nb : b ≠ na := fun z => by rw [← z, zU_ne ne_b49, f_b] at r_na; cases r_na
  have r_wb : b ≠ wa := fun z => by rw [← z, zU_ne ne_b49, f_b] at r_wa; cases r_wa
  have r_na2 : na ≠ a49 := fun z => by rw [z, zU_same] at r_na; cases r_na
  have r_wa2 : wa ≠ a49 := fun z => by rw [z, zU_same] at r_wa; cases r_wa
  have r_na3 : G3_ na = none := by rw [zU_ne r_na2] at r_na; exact r_na
  have r_wa3 : G3_ wa = none := by rw [zU_ne r_wa2] at r_wa; exact r_wa
  have dd_b_na : b ≠ na := zG_nn f_b r_na3
  have dd_b_wa : b ≠ wa := zG_nn f_b r_wa3
  have dd_a5_na : a5 ≠ na := zG_nn f_a5 r_na3
  have dd_a5_wa : a5 ≠ wa := zG_nn f_a5 r_wa3
  have dd_a16_na : a16 ≠ na := zG_nn f_a16 r_na3
  have dd_a16_wa : a16 ≠ wa := zG_nn f_a16 r_wa3
  have dd_a27_na : a27 ≠ na := zG_nn f_a27 r_na3
  have dd_a27_wa : a27 ≠ wa := zG_nn f_a27 r_wa3
  have dd_a38_na : a38 ≠ na := zG_nn f_a38 r_na3
  have dd_a38_wa : a38 ≠ wa := zG_nn f_a38 r_wa3
  refine z_putF (T := TX6) (N := 8) C ((r_o b ne_b49 r_nb r_wb).trans ((zU_ne ne_b49).trans f_b)) rfl 4 (by decide) kw_151 (Or.inl rfl) rfl hnm rfl (tyX6_ok 4 (by decide)) rfl rfl (Nat.le_of_ble_eq_true rfl) dX6_init_56 ?_
  refine z_gen (fun G4_ e_4 => ?_)
  replace f_old : ∀ q e, G q = some e → q ≠ b → G4_ q = some e := fun q e h h2 => (e_4 q).trans ((zU_ne h2).trans (by have h3 := f_old q e h h2; exact (r_o q (zG_nn h3 n49) (zG_nn h3 r_na3) (zG_nn h3 r_wa3)).trans ((zU_ne (zG_nn h3 n49)).trans h3)))
  replace f_a5 := (e_4 a5).trans ((zU_ne (ne_b5).symm).trans ((r_o a5 (zG_nn f_a5 n49) (zG_nn f_a5 r_na3) (zG_nn f_a5 r_wa3)).trans ((zU_ne (zG_nn f_a5 n49)).trans f_a5)))
  replace f_a16 := (e_4 a16).trans ((zU_ne (ne_b16).symm).trans ((r_o a16 (zG_nn f_a16 n49) (zG_nn f_a16 r_na3) (zG_nn f_a16 r_wa3)).trans ((zU_ne (zG_nn f_a16 n49)).trans f_a16)))
  replace f_a27 := (e_4 a27).trans ((zU_ne (ne_b27).symm).trans ((r_o a27 (zG_nn f_a27 n49) (zG_nn f_a27 r_na3) (zG_nn f_a27 r_wa3)).trans ((zU_ne (zG_nn f_a27 n49)).trans f_a27)))
  replace f_a38 := (e_4 a38).trans ((zU_ne (ne_b38).symm).trans ((r_o a38 (zG_nn f_a38 n49) (zG_nn f_a38 r_na3) (zG_nn f_a38 r_wa3)).trans ((zU_ne (zG_nn f_a38 n49)).trans f_a38)))
  have f_a49 := (e_4 a49).trans ((zU_ne ne_b49.symm).trans r_a)
  have ne_bna := r_nb
  have ne_bwa := r_wb
  have f_na := (e_4 na).trans ((zU_ne r_nb.symm).trans r_f)
  have f_wa := (e_4 wa).trans ((zU_ne r_wb.symm).trans r_g)
  replace f_b : G4_ b = some (.inr (0, [.ref a5, .ref a16, .ref a27, .ref a38, .ref a49, .null, .null, .null])) := (e_4 b).trans (zU_same _ _ _)
  first | refine z_rload_n C dX6_init_59 rfl ?_ | refine z_nload_n C dX6_init_59 rfl ?_ | refine z_aload_n C dX6_init_59 rfl ?_
  refine z_new (ci := 4) (fs := [.null, .null, .int 0, .int 0, .int 0, .int 0, .int 0, .long 0]) C kn_X6_init_60 rfl tyX3 tyX3_ok (fun j hj => by match j, hj with | 0, _ => rfl | 1, _ => rfl | 2, _ => rfl | 3, _ => rfl | 4, _ => rfl | 5, _ => rfl | 6, _ => rfl | 7, _ => rfl) (Nat.le_of_ble_eq_true rfl) (Nat.le_of_ble_eq_true rfl) dX6_init_60 (fun a60 n60 => ?_)
  have dd_b_a60 : b ≠ a60 := zG_nn f_b n60
  have dd_a5_a60 : a5 ≠ a60 := zG_nn f_a5 n60
  have dd_a16_a60 : a16 ≠ a60 := zG_nn f_a16 n60
  have dd_a27_a60 : a27 ≠ a60 := zG_nn f_a27 n60
  have dd_a38_a60 : a38 ≠ a60 := zG_nn f_a38 n60
  have dd_a49_a60 : a49 ≠ a60 := zG_nn f_a49 n60
  have dd_na_a60 : na ≠ a60 := zG_nn f_na n60
  have dd_wa_a60 : wa ≠ a60 := zG_nn f_wa n60
  have ne_b60 : b ≠ a60 := zG_nn f_b n60
  refine z_dup C rfl dX6_init_63 ?_
  first | refine z_rload_n C dX6_init_64 rfl ?_ | refine z_nload_n C dX6_init_64 rfl ?_ | refine z_aload_n C dX6_init_64 rfl ?_
  refine z_getf (T := TX6) (N := 8) C (by first | assumption | exact (zU_ne ne_b60).trans f_b | exact zU_same _ _ _) rfl 3 (by decide) kw_150 (Or.inl rfl) rfl dX6_init_65 ?_
  first | refine z_rload_n C dX6_init_68 rfl ?_ | refine z_nload_n C dX6_init_68 rfl ?_ | refine z_aload_n C dX6_init_68 rfl ?_
  refine z_getf (T := TX6) (N := 8) C (by first | assumption | exact (zU_ne ne_b60).trans f_b | exact zU_same _ _ _) rfl 4 (by decide) kw_151 (Or.inl rfl) rfl dX6_init_69 ?_
  refine z_callI C (c_Sea_init l Γ _ a38 a49 (zU_same _ a60 _)) kc_X6_init_72 rfl rfl rfl ky_X3_init ⟨(Nat.le_of_ble_eq_true rfl), (Nat.le_of_ble_eq_true rfl)⟩ (Nat.le_of_ble_eq_true rfl) ⟨(Nat.le_of_ble_eq_true rfl), (Nat.le_of_ble_eq_true rfl)⟩ dX6_init_72 (fun v72 G72 hp72 => ?_)
  obtain ⟨rfl, rfl⟩ := hp72
  refine z_putF (T := TX6) (N := 8) C ((zU_ne ne_b60).trans ((zU_ne ne_b60).trans f_b)) rfl 5 (by decide) kw_152 (Or.inl rfl) rfl hnm rfl (tyX6_ok 5 (by decide)) rfl rfl (Nat.le_of_ble_eq_true rfl) dX6_init_75 ?_
  refine z_gen (fun G5_ e_5 => ?_)
  replace f_old : ∀ q e, G q = some e → q ≠ b → G5_ q = some e := fun q e h h2 => (e_5 q).trans ((zU_ne h2).trans (by have h3 := f_old q e h h2; exact (zU_ne (zG_nn h3 n60)).trans ((zU_ne (zG_nn h3 n60)).trans h3)))
  replace f_a5 := (e_5 a5).trans ((zU_ne (ne_b5).symm).trans ((zU_ne (zG_nn f_a5 n60)).trans ((zU_ne (zG_nn f_a5 n60)).trans f_a5)))
  replace f_a16 := (e_5 a16).trans ((zU_ne (ne_b16).symm).trans ((zU_ne (zG_nn f_a16 n60)).trans ((zU_ne (zG_nn f_a16 n60)).trans f_a16)))
  replace f_a27 := (e_5 a27).trans ((zU_ne (ne_b27).symm).trans ((zU_ne (zG_nn f_a27 n60)).trans ((zU_ne (zG_nn f_a27 n60)).trans f_a27)))
  replace f_a38 := (e_5 a38).trans ((zU_ne (ne_b38).symm).trans ((zU_ne (zG_nn f_a38 n60)).trans ((zU_ne (zG_nn f_a38 n60)).trans f_a38)))
  replace f_a49 := (e_5 a49).trans ((zU_ne (ne_b49).symm).trans ((zU_ne (zG_nn f_a49 n60)).trans ((zU_ne (zG_nn f_a49 n60)).trans f_a49)))
  replace f_na := (e_5 na).trans ((zU_ne (ne_bna).symm).trans ((zU_ne (zG_nn f_na n60)).trans ((zU_ne (zG_nn f_na n60)).trans f_na)))
  replace f_wa := (e_5 wa).trans ((zU_ne (ne_bwa).symm).trans ((zU_ne (zG_nn f_wa n60)).trans ((zU_ne (zG_nn f_wa n60)).trans f_wa)))
  have f_a60 := (e_5 a60).trans ((zU_ne ne_b60.symm).trans (zU_same _ _ _))
  replace f_b : G5_ b = some (.inr (0, [.ref a5, .ref a16, .ref a27, .ref a38, .ref a49, .ref a60, .null, .null])) := (e_5 b).trans (zU_same _ _ _)
  first | refine z_rload_n C dX6_init_78 rfl ?_ | refine z_nload_n C dX6_init_78 rfl ?_ | refine z_aload_n C dX6_init_78 rfl ?_
  refine z_new (ci := 7) (fs := [.int 0, .null, .int 0]) C kn_X6_init_79 rfl tyJx4a65c tyJx4a65c_ok (fun j hj => by match j, hj with | 0, _ => rfl | 1, _ => rfl | 2, _ => rfl) (Nat.le_of_ble_eq_true rfl) (Nat.le_of_ble_eq_true rfl) dX6_init_79 (fun a79 n79 => ?_)
  have dd_b_a79 : b ≠ a79 := zG_nn f_b n79
  have dd_a5_a79 : a5 ≠ a79 := zG_nn f_a5 n79
  have dd_a16_a79 : a16 ≠ a79 := zG_nn f_a16 n79
  have dd_a27_a79 : a27 ≠ a79 := zG_nn f_a27 n79
  have dd_a38_a79 : a38 ≠ a79 := zG_nn f_a38 n79
  have dd_a49_a79 : a49 ≠ a79 := zG_nn f_a49 n79
  have dd_na_a79 : na ≠ a79 := zG_nn f_na n79
  have dd_wa_a79 : wa ≠ a79 := zG_nn f_wa n79
  have dd_a60_a79 : a60 ≠ a79 := zG_nn f_a60 n79
  refine z_dup C rfl dX6_init_82 ?_
  refine z_callI C (c_AL_init l Γ _ a79 (zU_same _ _ _)) kc_X6_init_83 rfl rfl rfl ky_Jx4a65c_init_da8c8 ⟨(Nat.le_of_ble_eq_true rfl), (Nat.le_of_ble_eq_true rfl)⟩ (Nat.le_of_ble_eq_true rfl) ⟨(Nat.le_of_ble_eq_true rfl), (Nat.le_of_ble_eq_true rfl)⟩ dX6_init_83 (fun v83 G83 hp83 => ?_)
  obtain ⟨rfl, rfl⟩ := hp83
  have ne_b79 : b ≠ a79 := zG_nn f_b n79
  refine z_putF (T := TX6) (N := 8) C ((zU_ne ne_b79).trans ((zU_ne ne_b79).trans f_b)) rfl 6 (by decide) kw_153 (Or.inl rfl) rfl hnm rfl (tyX6_ok 6 (by decide)) rfl rfl (Nat.le_of_ble_eq_true rfl) dX6_init_86 ?_
  refine z_gen (fun G6_ e_6 => ?_)
  replace f_old : ∀ q e, G q = some e → q ≠ b → G6_ q = some e := fun q e h h2 => (e_6 q).trans ((zU_ne h2).trans (by have h3 := f_old q e h h2; exact (zU_ne (zG_nn h3 n79)).trans ((zU_ne (zG_nn h3 n79)).trans h3)))
  replace f_a5 := (e_6 a5).trans ((zU_ne (ne_b5).symm).trans ((zU_ne (zG_nn f_a5 n79)).trans ((zU_ne (zG_nn f_a5 n79)).trans f_a5)))
  replace f_a16 := (e_6 a16).trans ((zU_ne (ne_b16).symm).trans ((zU_ne (zG_nn f_a16 n79)).trans ((zU_ne (zG_nn f_a16 n79)).trans f_a16)))
  replace f_a27 := (e_6 a27).trans ((zU_ne (ne_b27).symm).trans ((zU_ne (zG_nn f_a27 n79)).trans ((zU_ne (zG_nn f_a27 n79)).trans f_a27)))
  replace f_a38 := (e_6 a38).trans ((zU_ne (ne_b38).symm).trans ((zU_ne (zG_nn f_a38 n79)).trans ((zU_ne (zG_nn f_a38 n79)).trans f_a38)))
  replace f_a49 := (e_6 a49).trans ((zU_ne (ne_b49).symm).trans ((zU_ne (zG_nn f_a49 n79)).trans ((zU_ne (zG_nn f_a49 n79)).trans f_a49)))
  replace f_na := (e_6 na).trans ((zU_ne (ne_bna).symm).trans ((zU_ne (zG_nn f_na n79)).trans ((zU_ne (zG_nn f_na n79)).trans f_na)))
  replace f_wa := (e_6 wa).trans ((zU_ne (ne_bwa).symm).trans ((zU_ne (zG_nn f_wa n79)).trans ((zU_ne (zG_nn f_wa n79)).trans f_wa)))
  replace f_a60 := (e_6 a60).trans ((zU_ne (ne_b60).symm).trans ((zU_ne (zG_nn f_a60 n79)).trans ((zU_ne (zG_nn f_a60 n79)).trans f_a60)))
  have f_a79 := (e_6 a79).trans ((zU_ne ne_b79.symm).trans (zU_same _ _ _))
  replace f_b : G6_ b = some (.inr (0, [.ref a5, .ref a16, .ref a27, .ref a38, .ref a49, .ref a60, .ref a79, .null])) := (e_6 b).trans (zU_same _ _ _)
  first | refine z_rload_n C dX6_init_89 rfl ?_ | refine z_nload_n C dX6_init_89 rfl ?_ | refine z_aload_n C dX6_init_89 rfl ?_
  refine z_new (ci := 7) (fs := [.int 0, .null, .int 0]) C kn_X6_init_90 rfl tyJx4a65c tyJx4a65c_ok (fun j hj => by match j, hj with | 0, _ => rfl | 1, _ => rfl | 2, _ => rfl) (Nat.le_of_ble_eq_true rfl) (Nat.le_of_ble_eq_true rfl) dX6_init_90 (fun a90 n90 => ?_)
  have dd_b_a90 : b ≠ a90 := zG_nn f_b n90
  have dd_a5_a90 : a5 ≠ a90 := zG_nn f_a5 n90
  have dd_a16_a90 : a16 ≠ a90 := zG_nn f_a16 n90
  have dd_a27_a90 : a27 ≠ a90 := zG_nn f_a27 n90
  have dd_a38_a90 : a38 ≠ a90 := zG_nn f_a38 n90
  have dd_a49_a90 : a49 ≠ a90 := zG_nn f_a49 n90
  have dd_na_a90 : na ≠ a90 := zG_nn f_na n90
  have dd_wa_a90 : wa ≠ a90 := zG_nn f_wa n90
  have dd_a60_a90 : a60 ≠ a90 := zG_nn f_a60 n90
  have dd_a79_a90 : a79 ≠ a90 := zG_nn f_a79 n90
  refine z_dup C rfl dX6_init_93 ?_
  refine z_callI C (c_AL_init l Γ _ a90 (zU_same _ _ _)) kc_X6_init_94 rfl rfl rfl ky_Jx4a65c_init_da8c8 ⟨(Nat.le_of_ble_eq_true rfl), (Nat.le_of_ble_eq_true rfl)⟩ (Nat.le_of_ble_eq_true rfl) ⟨(Nat.le_of_ble_eq_true rfl), (Nat.le_of_ble_eq_true rfl)⟩ dX6_init_94 (fun v94 G94 hp94 => ?_)
  obtain ⟨rfl, rfl⟩ := hp94
  have ne_b90 : b ≠ a90 := zG_nn f_b n90
  refine z_putF (T := TX6) (N := 8) C ((zU_ne ne_b90).trans ((zU_ne ne_b90).trans f_b)) rfl 7 (by decide) kw_154 (Or.inl rfl) rfl hnm rfl (tyX6_ok 7 (by decide)) rfl rfl (Nat.le_of_ble_eq_true rfl) dX6_init_97 ?_
  refine z_gen (fun G7_ e_7 => ?_)
  replace f_old : ∀ q e, G q = some e → q ≠ b → G7_ q = some e := fun q e h h2 => (e_7 q).trans ((zU_ne h2).trans (by have h3 := f_old q e h h2; exact (zU_ne (zG_nn h3 n90)).trans ((zU_ne (zG_nn h3 n90)).trans h3)))
  replace f_a5 := (e_7 a5).trans ((zU_ne (ne_b5).symm).trans ((zU_ne (zG_nn f_a5 n90)).trans ((zU_ne (zG_nn f_a5 n90)).trans f_a5)))
  replace f_a16 := (e_7 a16).trans ((zU_ne (ne_b16).symm).trans ((zU_ne (zG_nn f_a16 n90)).trans ((zU_ne (zG_nn f_a16 n90)).trans f_a16)))
  replace f_a27 := (e_7 a27).trans ((zU_ne (ne_b27).symm).trans ((zU_ne (zG_nn f_a27 n90)).trans ((zU_ne (zG_nn f_a27 n90)).trans f_a27)))
  replace f_a38 := (e_7 a38).trans ((zU_ne (ne_b38).symm).trans ((zU_ne (zG_nn f_a38 n90)).trans ((zU_ne (zG_nn f_a38 n90)).trans f_a38)))
  replace f_a49 := (e_7 a49).trans ((zU_ne (ne_b49).symm).trans ((zU_ne (zG_nn f_a49 n90)).trans ((zU_ne (zG_nn f_a49 n90)).trans f_a49)))
  replace f_na := (e_7 na).trans ((zU_ne (ne_bna).symm).trans ((zU_ne (zG_nn f_na n90)).trans ((zU_ne (zG_nn f_na n90)).trans f_na)))
  replace f_wa := (e_7 wa).trans ((zU_ne (ne_bwa).symm).trans ((zU_ne (zG_nn f_wa n90)).trans ((zU_ne (zG_nn f_wa n90)).trans f_wa)))
  replace f_a60 := (e_7 a60).trans ((zU_ne (ne_b60).symm).trans ((zU_ne (zG_nn f_a60 n90)).trans ((zU_ne (zG_nn f_a60 n90)).trans f_a60)))
  replace f_a79 := (e_7 a79).trans ((zU_ne (ne_b79).symm).trans ((zU_ne (zG_nn f_a79 n90)).trans ((zU_ne (zG_nn f_a79 n90)).trans f_a79)))
  have f_a90 := (e_7 a90).trans ((zU_ne ne_b90.symm).trans (zU_same _ _ _))
  replace f_b : G7_ b = some (.inr (0, [.ref a5, .ref a16, .ref a27, .ref a38, .ref a49, .ref a60, .ref a79, .ref a90])) := (e_7 b).trans (zU_same _ _ _)
  refine z_et C (fun he => ?_)
  refine z_vret C F hr (Nat.le_of_ble_eq_true rfl) (Nat.le_of_ble_eq_true rfl) ?_ dX6_init_100
  refine ⟨rfl, fun i => if i = 0 then b else if i = 1 then a5 else if i = 2 then a16 else if i = 3 then a27 else if i = 4 then a38 else if i = 5 then a49 else if i = 6 then a60 else if i = 7 then a79 else if i = 8 then a90 else if i = 9 then na else wa, (fun q => if q = a5 then 1 else if q = a16 then 2 else if q = a27 then 3 else if q = a79 then 7 else if q = a90 then 8 else 0, fun _ => Γ.2.2 0, fun _ => [], fun _ _ => 0, fun _ _ => 0, fun _ => none), rfl, ⟨⟨⟨f_b, (if_neg dd_b_a5).trans ((if_neg dd_b_a16).trans ((if_neg dd_b_a27).trans ((if_neg dd_b_a79).trans (if_neg dd_b_a90))))⟩, ⟨f_a38, (if_neg dd_a5_a38.symm).trans ((if_neg dd_a16_a38.symm).trans ((if_neg dd_a27_a38.symm).trans ((if_neg dd_a38_a79).trans (if_neg dd_a38_a90))))⟩, ⟨⟨[], 0, r_nw, Nat.zero_le _, f_a49, _, _, f_na, f_wa, fun i hi => absurd hi (Nat.not_lt_zero i)⟩, (if_neg dd_a5_a49.symm).trans ((if_neg dd_a16_a49.symm).trans ((if_neg dd_a27_a49.symm).trans ((if_neg dd_a49_a79).trans (if_neg dd_a49_a90)))), (if_neg dd_a5_na.symm).trans ((if_neg dd_a16_na.symm).trans ((if_neg dd_a27_na.symm).trans ((if_neg dd_na_a79).trans (if_neg dd_na_a90)))), (if_neg dd_a5_wa.symm).trans ((if_neg dd_a16_wa.symm).trans ((if_neg dd_a27_wa.symm).trans ((if_neg dd_wa_a79).trans (if_neg dd_wa_a90))))⟩, ⟨⟨_, _, _, _, _, _, f_a60⟩, (if_neg dd_a5_a60.symm).trans ((if_neg dd_a16_a60.symm).trans ((if_neg dd_a27_a60.symm).trans ((if_neg dd_a60_a79).trans (if_neg dd_a60_a90))))⟩⟩, ?_, fun q hq => (by cases hq), fun i y hy => (by cases hy), fun i y hy => (by cases hy), fun i y hy => (by cases hy)⟩, fun _ => rfl, f_old⟩
  intro t ht
  have ls : ∀ {x : Nat}, G7_ x = some (oAL 0 (Γ.2.2 0) 0) → zLs Γ G7_ x (Γ.2.2 0) [] := fun h => ⟨0, 0, h, Nat.le_refl _, Nat.zero_le _, Or.inl ⟨rfl, rfl⟩⟩
  rcases ht with rfl | rfl | rfl | rfl | rfl
  · exact ⟨ls f_a5, if_pos rfl, Or.inl ⟨rfl, he⟩⟩
  · exact ⟨ls f_a16, (if_neg dd_a5_a16.symm).trans (if_pos rfl), Or.inl ⟨rfl, he⟩⟩
  · exact ⟨ls f_a27, (if_neg dd_a5_a27.symm).trans ((if_neg dd_a16_a27.symm).trans (if_pos rfl)), Or.inl ⟨rfl, he⟩⟩
  · exact ⟨ls f_a79, (if_neg dd_a5_a79.symm).trans ((if_neg dd_a16_a79.symm).trans ((if_neg dd_a27_a79.symm).trans (if_pos rfl))), Or.inl ⟨rfl, he⟩⟩
  · exact ⟨ls f_a90, (if_neg dd_a5_a90.symm).trans ((if_neg dd_a16_a90.symm).trans ((if_neg dd_a27_a90.symm).trans ((if_neg dd_a79_a90.symm).trans (if_pos rfl)))), Or.inl ⟨rfl, he⟩⟩

