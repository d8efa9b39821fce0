theorem dX6_isPlace_0 : decode cX6_isPlace 0 = .ok (.iload_n 0, 1) := by decide +kernel
theorem dX6_isPlace_1 : decode cX6_isPlace 1 = .ok (.ifCond .lt 35, 3) := by decide +kernel
theorem dX6_isPlace_4 : decode cX6_isPlace 4 = .ok (.iload_n 0, 1) := by decide +kernel
theorem dX6_isPlace_5 : decode cX6_isPlace 5 = .ok (.sipush 200, 3) := by decide +kernel
theorem dX6_isPlace_8 : decode cX6_isPlace 8 = .ok (.if_icmp .gt 28, 3) := by decide +kernel
theorem dX6_isPlace_11 : decode cX6_isPlace 11 = .ok (.iload_n 1, 1) := by decide +kernel
theorem dX6_isPlace_12 : decode cX6_isPlace 12 = .ok (.ifCond .lt 24, 3) := by decide +kernel
theorem dX6_isPlace_15 : decode cX6_isPlace 15 = .ok (.iload_n 1, 1) := by decide +kernel
theorem dX6_isPlace_16 : decode cX6_isPlace 16 = .ok (.sipush 200, 3) := by decide +kernel
theorem dX6_isPlace_19 : decode cX6_isPlace 19 = .ok (.if_icmp .gt 17, 3) := by decide +kernel
theorem dX6_isPlace_22 : decode cX6_isPlace 22 = .ok (.iload_n 2, 1) := by decide +kernel
theorem dX6_isPlace_23 : decode cX6_isPlace 23 = .ok (.ifCond .lt 13, 3) := by decide +kernel
theorem dX6_isPlace_26 : decode cX6_isPlace 26 = .ok (.iload_n 2, 1) := by decide +kernel
theorem dX6_isPlace_27 : decode cX6_isPlace 27 = .ok (.bipush 60, 2) := by decide +kernel
theorem dX6_isPlace_29 : decode cX6_isPlace 29 = .ok (.if_icmp .gt 7, 3) := by decide +kernel
theorem dX6_isPlace_32 : decode cX6_isPlace 32 = .ok (.iconst 1, 1) := by decide +kernel
theorem dX6_isPlace_33 : decode cX6_isPlace 33 = .ok (.goto 4, 3) := by decide +kernel
theorem dX6_isPlace_36 : decode cX6_isPlace 36 = .ok (.iconst 0, 1) := by decide +kernel
theorem dX6_isPlace_37 : decode cX6_isPlace 37 = .ok (.ireturn, 1) := by decide +kernel
theorem dX3_fillWithStarts_0 : decode cX3_fillWithStarts 0 = .ok (.aload_n 0, 1) := by decide +kernel
theorem dX3_fillWithStarts_1 : decode cX3_fillWithStarts 1 = .ok (.getfield 15, 3) := by decide +kernel
theorem dX3_fillWithStarts_4 : decode cX3_fillWithStarts 4 = .ok (.invokevirtual 86, 3) := by decide +kernel
theorem dX3_fillWithStarts_7 : decode cX3_fillWithStarts 7 = .ok (.iconst 0, 1) := by decide +kernel
theorem dX3_fillWithStarts_8 : decode cX3_fillWithStarts 8 = .ok (.istore 5, 2) := by decide +kernel
theorem dX3_fillWithStarts_10 : decode cX3_fillWithStarts 10 = .ok (.iload 5, 2) := by decide +kernel
theorem dX3_fillWithStarts_12 : decode cX3_fillWithStarts 12 = .ok (.aload_n 1, 1) := by decide +kernel
theorem dX3_fillWithStarts_13 : decode cX3_fillWithStarts 13 = .ok (.getfield 89, 3) := by decide +kernel
theorem dX3_fillWithStarts_16 : decode cX3_fillWithStarts 16 = .ok (.invokevirtual 93, 3) := by decide +kernel
theorem dX3_fillWithStarts_19 : decode cX3_fillWithStarts 19 = .ok (.if_icmp .ge 62, 3) := by decide +kernel
theorem dX3_fillWithStarts_22 : decode cX3_fillWithStarts 22 = .ok (.aload_n 1, 1) := by decide +kernel
theorem dX3_fillWithStarts_23 : decode cX3_fillWithStarts 23 = .ok (.getfield 89, 3) := by decide +kernel
theorem dX3_fillWithStarts_26 : decode cX3_fillWithStarts 26 = .ok (.iload 5, 2) := by decide +kernel
theorem dX3_fillWithStarts_28 : decode cX3_fillWithStarts 28 = .ok (.invokevirtual 98, 3) := by decide +kernel
theorem dX3_fillWithStarts_31 : decode cX3_fillWithStarts 31 = .ok (.checkcast 102, 3) := by decide +kernel
theorem dX3_fillWithStarts_34 : decode cX3_fillWithStarts 34 = .ok (.astore 6, 2) := by decide +kernel
theorem dX3_fillWithStarts_36 : decode cX3_fillWithStarts 36 = .ok (.aload_n 0, 1) := by decide +kernel
theorem dX3_fillWithStarts_37 : decode cX3_fillWithStarts 37 = .ok (.getfield 15, 3) := by decide +kernel
theorem dX3_fillWithStarts_40 : decode cX3_fillWithStarts 40 = .ok (.aload 6, 2) := by decide +kernel
theorem dX3_fillWithStarts_42 : decode cX3_fillWithStarts 42 = .ok (.getfield 104, 3) := by decide +kernel
theorem dX3_fillWithStarts_45 : decode cX3_fillWithStarts 45 = .ok (.aload_n 0, 1) := by decide +kernel
theorem dX3_fillWithStarts_46 : decode cX3_fillWithStarts 46 = .ok (.getfield 9, 3) := by decide +kernel
theorem dX3_fillWithStarts_49 : decode cX3_fillWithStarts 49 = .ok (.aload 6, 2) := by decide +kernel
theorem dX3_fillWithStarts_51 : decode cX3_fillWithStarts 51 = .ok (.getfield 105, 3) := by decide +kernel
theorem dX3_fillWithStarts_54 : decode cX3_fillWithStarts 54 = .ok (.iload_n 2, 1) := by decide +kernel
theorem dX3_fillWithStarts_55 : decode cX3_fillWithStarts 55 = .ok (.iload_n 3, 1) := by decide +kernel
theorem dX3_fillWithStarts_56 : decode cX3_fillWithStarts 56 = .ok (.iload 4, 2) := by decide +kernel
theorem dX3_fillWithStarts_58 : decode cX3_fillWithStarts 58 = .ok (.aload 6, 2) := by decide +kernel
theorem dX3_fillWithStarts_60 : decode cX3_fillWithStarts 60 = .ok (.getfield 109, 3) := by decide +kernel
theorem dX3_fillWithStarts_63 : decode cX3_fillWithStarts 63 = .ok (.invokevirtual 112, 3) := by decide +kernel
theorem dX3_fillWithStarts_66 : decode cX3_fillWithStarts 66 = .ok (.isub, 1) := by decide +kernel
theorem dX3_fillWithStarts_67 : decode cX3_fillWithStarts 67 = .ok (.aload 6, 2) := by decide +kernel
theorem dX3_fillWithStarts_69 : decode cX3_fillWithStarts 69 = .ok (.getfield 118, 3) := by decide +kernel
theorem dX3_fillWithStarts_72 : decode cX3_fillWithStarts 72 = .ok (.invokevirtual 121, 3) := by decide +kernel
theorem dX3_fillWithStarts_75 : decode cX3_fillWithStarts 75 = .ok (.iinc 5 1, 3) := by decide +kernel
theorem dX3_fillWithStarts_78 : decode cX3_fillWithStarts 78 = .ok (.goto (-68), 3) := by decide +kernel
theorem dX3_fillWithStarts_81 : decode cX3_fillWithStarts 81 = .ok (.return_, 1) := by decide +kernel
theorem kw_439 : Cond.fieldLink "QuakeBench$Search" 89 "QuakeBench$Event" "members" "Ljava/util/ArrayList;" ∈ lw_all := zin1 439 (by decide +kernel)
theorem ky_Jx4a65c_size_8abf5 : yJx4a65c_size_8abf5.cls ≠ "java/lang/invoke/MethodHandle" ∧ yJx4a65c_size_8abf5.cls ≠ "java/lang/invoke/VarHandle" ∧ (parseMethodDescriptor yJx4a65c_size_8abf5.desc).map (fun d => d.parameters.length) = some 0 := by decide +kernel
theorem kc_X3_fillWithStarts_16 : ∀ w ∈ ([Cond.methodLink "QuakeBench$Search" 93 yJx4a65c_size_8abf5, Cond.instanceMethod yJx4a65c_size_8abf5, Cond.selects "java/util/ArrayList" yJx4a65c_size_8abf5 yJx4a65c_size_8abf5, Cond.initialized "java/util/ArrayList", Cond.code yJx4a65c_size_8abf5 prog_25_method_8_code 1 (Option.some Jvm.ClassFile.FieldType.int)] : List Cond), w ∈ lw_all := zin [590, 181, 182, 27, 183] (by decide +kernel)
theorem ky_Jx4a65c_get_915e3 : yJx4a65c_get_915e3.cls ≠ "java/lang/invoke/MethodHandle" ∧ yJx4a65c_get_915e3.cls ≠ "java/lang/invoke/VarHandle" ∧ (parseMethodDescriptor yJx4a65c_get_915e3.desc).map (fun d => d.parameters.length) = some 1 := by decide +kernel
theorem kc_X3_fillWithStarts_28 : ∀ w ∈ ([Cond.methodLink "QuakeBench$Search" 98 yJx4a65c_get_915e3, Cond.instanceMethod yJx4a65c_get_915e3, Cond.selects "java/util/ArrayList" yJx4a65c_get_915e3 yJx4a65c_get_915e3, Cond.initialized "java/util/ArrayList", Cond.code yJx4a65c_get_915e3 prog_25_method_20_code 2 (Option.some (Jvm.ClassFile.FieldType.object "java/lang/Object"))] : List Cond), w ∈ lw_all := zin [591, 253, 254, 27, 255] (by decide +kernel)
theorem kw_592 : Cond.classLink "QuakeBench$Search" 102 "QuakeBench$Pick" ∈ lw_all := zin1 592 (by decide +kernel)
theorem kw_123 : Cond.fieldLink "QuakeBench$Search" 15 "QuakeBench$Search" "row" "LQuakeBench$Row;" ∈ lw_all := zin1 123 (by decide +kernel)
theorem kw_320 : Cond.fieldLink "QuakeBench$Search" 104 "QuakeBench$Pick" "time" "I" ∈ lw_all := zin1 320 (by decide +kernel)
theorem kw_122 : Cond.fieldLink "QuakeBench$Search" 9 "QuakeBench$Search" "waves" "LQuakeBench$Waves;" ∈ lw_all := zin1 122 (by decide +kernel)
theorem kw_311 : Cond.fieldLink "QuakeBench$Search" 105 "QuakeBench$Pick" "station" "LQuakeBench$Station;" ∈ lw_all := zin1 311 (by decide +kernel)
theorem kw_316 : Cond.fieldLink "QuakeBench$Search" 109 "QuakeBench$Pick" "isS" "Z" ∈ lw_all := zin1 316 (by decide +kernel)
theorem kc_X3_fillWithStarts_63 : ∀ w ∈ ([Cond.methodLink "QuakeBench$Search" 112 yX5_travel, Cond.instanceMethod yX5_travel, Cond.selects "QuakeBench$Waves" yX5_travel yX5_travel, Cond.initialized "QuakeBench$Waves", Cond.code yX5_travel prog_7_method_2_code 7 (Option.some Jvm.ClassFile.FieldType.int)] : List Cond), w ∈ lw_all := zin [593, 542, 543, 28, 544] (by decide +kernel)
theorem kw_323 : Cond.fieldLink "QuakeBench$Search" 118 "QuakeBench$Pick" "weight" "I" ∈ lw_all := zin1 323 (by decide +kernel)
theorem ky_X2_put : yX2_put.cls ≠ "java/lang/invoke/MethodHandle" ∧ yX2_put.cls ≠ "java/lang/invoke/VarHandle" ∧ (parseMethodDescriptor yX2_put.desc).map (fun d => d.parameters.length) = some 2 := by decide +kernel
theorem kc_X3_fillWithStarts_72 : ∀ w ∈ ([Cond.methodLink "QuakeBench$Search" 121 yX2_put, Cond.instanceMethod yX2_put, Cond.selects "QuakeBench$Row" yX2_put yX2_put, Cond.initialized "QuakeBench$Row", Cond.code yX2_put prog_4_method_3_code 4 (Option.none : Option Jvm.ClassFile.FieldType)] : List Cond), w ∈ lw_all := zin [594, 595, 596, 29, 597] (by decide +kernel)
theorem ky_X2_empty : yX2_empty.cls ≠ "java/lang/invoke/MethodHandle" ∧ yX2_empty.cls ≠ "java/lang/invoke/VarHandle" ∧ (parseMethodDescriptor yX2_empty.desc).map (fun d => d.parameters.length) = some 0 := by decide +kernel
theorem kc_X3_fillWithStarts_4 : ∀ w ∈ ([Cond.methodLink "QuakeBench$Search" 86 yX2_empty, Cond.instanceMethod yX2_empty, Cond.selects "QuakeBench$Row" yX2_empty yX2_empty, Cond.initialized "QuakeBench$Row", Cond.code yX2_empty prog_4_method_2_code 1 (Option.none : Option Jvm.ClassFile.FieldType)] : List Cond), w ∈ lw_all := zin [586, 587, 588, 29, 589] (by decide +kernel)
theorem dX3_offer_0 : decode cX3_offer 0 = .ok (.iload_n 2, 1) := by decide +kernel
theorem dX3_offer_1 : decode cX3_offer 1 = .ok (.iload_n 3, 1) := by decide +kernel
theorem dX3_offer_2 : decode cX3_offer 2 = .ok (.iload 4, 2) := by decide +kernel
theorem dX3_offer_4 : decode cX3_offer 4 = .ok (.invokestatic 69, 3) := by decide +kernel
theorem dX3_offer_7 : decode cX3_offer 7 = .ok (.ifCond .ne 4, 3) := by decide +kernel
theorem dX3_offer_10 : decode cX3_offer 10 = .ok (.return_, 1) := by decide +kernel
theorem dX3_offer_11 : decode cX3_offer 11 = .ok (.aload_n 0, 1) := by decide +kernel
theorem dX3_offer_12 : decode cX3_offer 12 = .ok (.aload_n 1, 1) := by decide +kernel
theorem dX3_offer_13 : decode cX3_offer 13 = .ok (.iload_n 2, 1) := by decide +kernel
theorem dX3_offer_14 : decode cX3_offer 14 = .ok (.iload_n 3, 1) := by decide +kernel
theorem dX3_offer_15 : decode cX3_offer 15 = .ok (.iload 4, 2) := by decide +kernel
theorem dX3_offer_17 : decode cX3_offer 17 = .ok (.invokevirtual 73, 3) := by decide +kernel
theorem dX3_offer_20 : decode cX3_offer 20 = .ok (.aload_n 0, 1) := by decide +kernel
theorem dX3_offer_21 : decode cX3_offer 21 = .ok (.getfield 15, 3) := by decide +kernel
theorem dX3_offer_24 : decode cX3_offer 24 = .ok (.invokevirtual 76, 3) := by decide +kernel
theorem dX3_offer_27 : decode cX3_offer 27 = .ok (.istore 5, 2) := by decide +kernel
theorem dX3_offer_29 : decode cX3_offer 29 = .ok (.aload_n 0, 1) := by decide +kernel
theorem dX3_offer_30 : decode cX3_offer 30 = .ok (.getfield 15, 3) := by decide +kernel
theorem dX3_offer_33 : decode cX3_offer 33 = .ok (.iload 5, 2) := by decide +kernel
theorem dX3_offer_35 : decode cX3_offer 35 = .ok (.invokevirtual 82, 3) := by decide +kernel
theorem dX3_offer_38 : decode cX3_offer 38 = .ok (.lstore 6, 2) := by decide +kernel
theorem dX3_offer_40 : decode cX3_offer 40 = .ok (.aload_n 0, 1) := by decide +kernel
theorem dX3_offer_41 : decode cX3_offer 41 = .ok (.getfield 62, 3) := by decide +kernel
theorem dX3_offer_44 : decode cX3_offer 44 = .ok (.ifCond .eq 13, 3) := by decide +kernel
theorem dX3_offer_47 : decode cX3_offer 47 = .ok (.lload 6, 2) := by decide +kernel
theorem dX3_offer_49 : decode cX3_offer 49 = .ok (.aload_n 0, 1) := by decide +kernel
theorem dX3_offer_50 : decode cX3_offer 50 = .ok (.getfield 58, 3) := by decide +kernel
theorem dX3_offer_53 : decode cX3_offer 53 = .ok (.lcmp, 1) := by decide +kernel
theorem dX3_offer_54 : decode cX3_offer 54 = .ok (.ifCond .ge 36, 3) := by decide +kernel
theorem dX3_offer_57 : decode cX3_offer 57 = .ok (.aload_n 0, 1) := by decide +kernel
theorem dX3_offer_58 : decode cX3_offer 58 = .ok (.iconst 1, 1) := by decide +kernel
theorem dX3_offer_59 : decode cX3_offer 59 = .ok (.putfield 62, 3) := by decide +kernel
theorem dX3_offer_62 : decode cX3_offer 62 = .ok (.aload_n 0, 1) := by decide +kernel
theorem dX3_offer_63 : decode cX3_offer 63 = .ok (.iload_n 2, 1) := by decide +kernel
theorem dX3_offer_64 : decode cX3_offer 64 = .ok (.putfield 27, 3) := by decide +kernel
theorem dX3_offer_67 : decode cX3_offer 67 = .ok (.aload_n 0, 1) := by decide +kernel
theorem dX3_offer_68 : decode cX3_offer 68 = .ok (.iload_n 3, 1) := by decide +kernel
theorem dX3_offer_69 : decode cX3_offer 69 = .ok (.putfield 31, 3) := by decide +kernel
theorem dX3_offer_72 : decode cX3_offer 72 = .ok (.aload_n 0, 1) := by decide +kernel
theorem dX3_offer_73 : decode cX3_offer 73 = .ok (.iload 4, 2) := by decide +kernel
theorem dX3_offer_75 : decode cX3_offer 75 = .ok (.putfield 34, 3) := by decide +kernel
theorem dX3_offer_78 : decode cX3_offer 78 = .ok (.aload_n 0, 1) := by decide +kernel
theorem dX3_offer_79 : decode cX3_offer 79 = .ok (.iload 5, 2) := by decide +kernel
theorem dX3_offer_81 : decode cX3_offer 81 = .ok (.putfield 48, 3) := by decide +kernel
theorem dX3_offer_84 : decode cX3_offer 84 = .ok (.aload_n 0, 1) := by decide +kernel
theorem dX3_offer_85 : decode cX3_offer 85 = .ok (.lload 6, 2) := by decide +kernel
theorem dX3_offer_87 : decode cX3_offer 87 = .ok (.putfield 58, 3) := by decide +kernel
theorem dX3_offer_90 : decode cX3_offer 90 = .ok (.return_, 1) := by decide +kernel
theorem ky_X6_isPlace : yX6_isPlace.cls ≠ "java/lang/invoke/MethodHandle" ∧ yX6_isPlace.cls ≠ "java/lang/invoke/VarHandle" ∧ (parseMethodDescriptor yX6_isPlace.desc).map (fun d => d.parameters.length) = some 3 := by decide +kernel
theorem kn_579 : Cond.methodLinkNest "QuakeBench$Search" 69 yX6_isPlace "QuakeBench" ∈ lw_nest := by decide +kernel
theorem kc_X3_offer_4 : ∀ w ∈ ([Cond.static yX6_isPlace, Cond.initialized "QuakeBench", Cond.code yX6_isPlace prog_1_method_27_code 3 (Option.some Jvm.ClassFile.FieldType.boolean)] : List Cond), w ∈ lw_all := zin [580, 24, 581] (by decide +kernel)
theorem ky_X3_fillWithStarts : yX3_fillWithStarts.cls ≠ "java/lang/invoke/MethodHandle" ∧ yX3_fillWithStarts.cls ≠ "java/lang/invoke/VarHandle" ∧ (parseMethodDescriptor yX3_fillWithStarts.desc).map (fun d => d.parameters.length) = some 4 := by decide +kernel
theorem kc_X3_offer_17 : ∀ w ∈ ([Cond.methodLink "QuakeBench$Search" 73 yX3_fillWithStarts, Cond.instanceMethod yX3_fillWithStarts, Cond.selects "QuakeBench$Search" yX3_fillWithStarts yX3_fillWithStarts, Cond.initialized "QuakeBench$Search", Cond.code yX3_fillWithStarts prog_5_method_5_code 7 (Option.none : Option Jvm.ClassFile.FieldType)] : List Cond), w ∈ lw_all := zin [582, 583, 584, 30, 585] (by decide +kernel)
theorem ky_X2_middle : yX2_middle.cls ≠ "java/lang/invoke/MethodHandle" ∧ yX2_middle.cls ≠ "java/lang/invoke/VarHandle" ∧ (parseMethodDescriptor yX2_middle.desc).map (fun d => d.parameters.length) = some 0 := by decide +kernel
theorem kc_X3_offer_24 : ∀ w ∈ ([Cond.methodLink "QuakeBench$Search" 76 yX2_middle, Cond.instanceMethod yX2_middle, Cond.selects "QuakeBench$Row" yX2_middle yX2_middle, Cond.initialized "QuakeBench$Row", Cond.code yX2_middle prog_4_method_4_code 3 (Option.some Jvm.ClassFile.FieldType.int)] : List Cond), w ∈ lw_all := zin [598, 599, 600, 29, 601] (by decide +kernel)
theorem ky_X2_distanceFrom : yX2_distanceFrom.cls ≠ "java/lang/invoke/MethodHandle" ∧ yX2_distanceFrom.cls ≠ "java/lang/invoke/VarHandle" ∧ (parseMethodDescriptor yX2_distanceFrom.desc).map (fun d => d.parameters.length) = some 1 := by decide +kernel
theorem kc_X3_offer_35 : ∀ w ∈ ([Cond.methodLink "QuakeBench$Search" 82 yX2_distanceFrom, Cond.instanceMethod yX2_distanceFrom, Cond.selects "QuakeBench$Row" yX2_distanceFrom yX2_distanceFrom, Cond.initialized "QuakeBench$Row", Cond.code yX2_distanceFrom prog_4_method_5_code 5 (Option.some Jvm.ClassFile.FieldType.long)] : List Cond), w ∈ lw_all := zin [602, 603, 604, 29, 605] (by decide +kernel)
theorem kw_124 : Cond.fieldLink "QuakeBench$Search" 62 "QuakeBench$Search" "hasBest" "Z" ∈ lw_all := zin1 124 (by decide +kernel)
theorem kw_125 : Cond.fieldLink "QuakeBench$Search" 27 "QuakeBench$Search" "bestX" "I" ∈ lw_all := zin1 125 (by decide +kernel)
theorem kw_126 : Cond.fieldLink "QuakeBench$Search" 31 "QuakeBench$Search" "bestY" "I" ∈ lw_all := zin1 126 (by decide +kernel)
theorem kw_127 : Cond.fieldLink "QuakeBench$Search" 34 "QuakeBench$Search" "bestZ" "I" ∈ lw_all := zin1 127 (by decide +kernel)
theorem kw_128 : Cond.fieldLink "QuakeBench$Search" 48 "QuakeBench$Search" "bestBegin" "I" ∈ lw_all := zin1 128 (by decide +kernel)
theorem kw_129 : Cond.fieldLink "QuakeBench$Search" 58 "QuakeBench$Search" "leastMisfit" "J" ∈ lw_all := zin1 129 (by decide +kernel)
/-! Search: places, the row of an event's starts, an offer, a scan, the whole search -/
def s_place (x y z : Int32) : Prop := (¬ x < 0 ∧ ¬ 200 < x) ∧ (¬ y < 0 ∧ ¬ 200 < y) ∧ (¬ z < 0 ∧ ¬ 60 < z)
def s_pl (x y z : Int32) : Int32 := if x < 0 then 0 else if 200 < x then 0 else if y < 0 then 0 else if 200 < y then 0 else if z < 0 then 0 else if 60 < z then 0 else 1
theorem s_pl_iff {x y z : Int32} : (s_pl x y z = 0 ↔ ¬ s_place x y z) ∧ (¬ s_pl x y z = 0 ↔ s_place x y z) := by
  unfold s_pl s_place
  by_cases h1 : x < 0 <;> by_cases h2 : 200 < x <;> by_cases h3 : y < 0 <;> by_cases h4 : 200 < y <;> by_cases h5 : z < 0 <;> by_cases h6 : 60 < z <;> simp [h1, h2, h3, h4, h5, h6]
abbrev rm_c_isPlace : Room := { frames := 0, cells := 0, slots := 0, locals := 0 }
set_option maxHeartbeats 4000000 in
set_option maxRecDepth 100000 in
theorem c_isPlace (l : Launch) (Γ : zY) (G : zG) (x y z : Int32) : ZM l yX6_isPlace cX6_isPlace 3 (some FieldType.boolean) rm_c_isPlace Γ [.int x, .int y, .int z] G (zRd G (.int (s_pl x y z))) := by
  refine z_start (by decide +kernel) [some (.int x), some (.int y), some (.int z)] rfl (Nat.le_of_ble_eq_true rfl) ?_
  intro p e s m args below meth c Q A C F hr hnm
  have no : s_pl x y z = 0 → Z p l e rm_c_isPlace s m args below meth c Q 3 Γ A G 0 0 36 [some (.int x), some (.int y), some (.int z)] [] := by
    intro h
    refine z_iconst (v := 0) C dX6_isPlace_36 rfl ?_
    exact z_bret C F hr rfl (Nat.le_of_ble_eq_true rfl) (Nat.le_of_ble_eq_true rfl) ⟨by rw [h], rfl⟩ dX6_isPlace_37
  refine z_iload_n C dX6_isPlace_0 rfl ?_
  refine z_if_lt (tgt := 36) C dX6_isPlace_1 (by decide) (fun h1 => ?_) (fun h1 => ?_)
  · exact no (by unfold s_pl; rw [if_pos h1])
  · refine z_iload_n C dX6_isPlace_4 rfl ?_
    refine z_sipush (v := 200) C dX6_isPlace_5 rfl ?_
    refine z_icmp_gt (tgt := 36) C dX6_isPlace_8 (by decide) (fun h8 => ?_) (fun h8 => ?_)
    · exact no (by unfold s_pl; rw [if_pos h8]; split <;> rfl)
    · refine z_iload_n C dX6_isPlace_11 rfl ?_
      refine z_if_lt (tgt := 36) C dX6_isPlace_12 (by decide) (fun h12 => ?_) (fun h12 => ?_)
      · exact no (by unfold s_pl; rw [if_pos h12]; simp)
      · refine z_iload_n C dX6_isPlace_15 rfl ?_
        refine z_sipush (v := 200) C dX6_isPlace_16 rfl ?_
        refine z_icmp_gt (tgt := 36) C dX6_isPlace_19 (by decide) (fun h19 => ?_) (fun h19 => ?_)
        · exact no (by unfold s_pl; rw [if_pos h19]; simp)
        · refine z_iload_n C dX6_isPlace_22 rfl ?_
          refine z_if_lt (tgt := 36) C dX6_isPlace_23 (by decide) (fun h23 => ?_) (fun h23 => ?_)
          · exact no (by unfold s_pl; rw [if_pos h23]; simp)
          · refine z_iload_n C dX6_isPlace_26 rfl ?_
            refine z_bipush (v := 60) C dX6_isPlace_27 rfl ?_
            refine z_icmp_gt (tgt := 36) C dX6_isPlace_29 (by decide) (fun h29 => ?_) (fun h29 => ?_)
            · exact no (by unfold s_pl; rw [if_pos h29]; simp)
            · refine z_iconst (v := 1) C dX6_isPlace_32 rfl ?_
              refine z_goto (tgt := 37) C dX6_isPlace_33 (by decide) ?_
              exact z_bret C F hr rfl (Nat.le_of_ble_eq_true rfl) (Nat.le_of_ble_eq_true rfl) ⟨by unfold s_pl; rw [if_neg h1, if_neg h8, if_neg h12, if_neg h19, if_neg h23, if_neg h29], rfl⟩ dX6_isPlace_37
/-- of a pick, by its address: time, weight, wave, its station's x, y, delay -/
abbrev zPD : Type := Nat → Int32 × Int32 × Int32 × Int32 × Int32 × Int32
def s_start (sp ss : Int32) (d : Int32 × Int32 × Int32 × Int32 × Int32 × Int32) (x y z : Int32) : Int32 := d.1 - s_trav sp ss d.2.2.2.1 d.2.2.2.2.1 d.2.2.2.2.2 x y z d.2.2.1
def s_row (sp ss : Int32) (pd : zPD) (ms : List Nat) (x y z : Int32) : List (Int32 × Int32) := ms.foldl (fun rs q => s_put (s_start sp ss (pd q) x y z) (pd q).2.1 rs) []
def s_tot (pd : zPD) (ms : List Nat) : Int32 := ms.foldl (fun a q => a + (pd q).2.1) 0
def zMem (G : zG) (ms : List Nat) (pd : zPD) : Prop := ∀ y ∈ ms, ∃ (n : Int32) (st : Nat) (am : Int32) (ev : Option Nat) (n2 : Int32), G y = some (oPk n st (pd y).2.2.1 (pd y).1 (pd y).2.1 am ev) ∧ G st = some (oSta n2 (pd y).2.2.2.1 (pd y).2.2.2.2.1 (pd y).2.2.2.2.2)
/-- only the row's three cells differ -/
def zF3 (G G' : zG) (r na wa : Nat) : Prop := ∀ q, q ≠ r → q ≠ na → q ≠ wa → G' q = G q
/-- what is neither a row nor an array of numbers -/
def zk : va_E → Bool
  | .inr (3, _) => false
  | .inl (_, _, .inl _) => false
  | _ => true
theorem zF3.get {Γ : zY} {G G' : zG} {r na wa : Nat} {rs : List (Int32 × Int32)} {tot : Int32} (hf : zF3 G G' r na wa) (hR : zRo Γ G r na wa rs tot) {q : Nat} {e : va_E} (hq : G q = some e) (hk : zk e = true) : G' q = some e := by
  obtain ⟨-, -, h1, f, g, h2, h3, -⟩ := hR
  rw [hf q (zG_ne hq h1 (fun z => by rw [z] at hk; cases hk)) (zG_ne hq h2 (fun z => by rw [z] at hk; cases hk)) (zG_ne hq h3 (fun z => by rw [z] at hk; cases hk))]
  exact hq
theorem zF3.lst {Γ : zY} {G G' : zG} {r na wa : Nat} {rs : List (Int32 × Int32)} {tot : Int32} (hf : zF3 G G' r na wa) (hR : zRo Γ G r na wa rs tot) {a arr : Nat} {xs : List Nat} (h : zLs Γ G a arr xs) : zLs Γ G' a arr xs := by
  obtain ⟨mc, cap, h1, h2, h3, h4⟩ := h
  refine ⟨mc, cap, hf.get hR h1 rfl, h2, h3, ?_⟩
  rcases h4 with h4 | ⟨h4, f, h5, h6⟩
  · exact Or.inl h4
  · exact Or.inr ⟨h4, f, hf.get hR h5 rfl, h6⟩
theorem zF3.mem {Γ : zY} {G G' : zG} {r na wa : Nat} {rs : List (Int32 × Int32)} {tot : Int32} (hf : zF3 G G' r na wa) (hR : zRo Γ G r na wa rs tot) {ms : List Nat} {pd : zPD} (h : zMem G ms pd) : zMem G' ms pd := by
  intro y hy
  obtain ⟨n, st, am, ev, n2, h1, h2⟩ := h y hy
  exact ⟨n, st, am, ev, n2, hf.get hR h1 rfl, hf.get hR h2 rfl⟩
theorem zF3.trans {G G' G2 : zG} {r na wa : Nat} (h : zF3 G G' r na wa) (h2 : zF3 G' G2 r na wa) : zF3 G G2 r na wa := fun q a b c => (h2 q a b c).trans (h q a b c)
theorem s_row_len (sp ss : Int32) (pd : zPD) (x y z : Int32) (ms : List Nat) : (s_row sp ss pd ms x y z).length = ms.length := by
  unfold s_row
  suffices K : ∀ rs : List (Int32 × Int32), (ms.foldl (fun rs q => s_put (s_start sp ss (pd q) x y z) (pd q).2.1 rs) rs).length = rs.length + ms.length by rw [K]; simp
  induction ms with
  | nil => intro rs; rfl
  | cons a r ih => intro rs; rw [List.foldl_cons, ih, s_put_len, List.length_cons]; omega
theorem s_row_snoc (sp ss : Int32) (pd : zPD) (x y z : Int32) (ms : List Nat) {i q : Nat} (h : ms[i]? = some q) : s_row sp ss pd (ms.take (i + 1)) x y z = s_put (s_start sp ss (pd q) x y z) (pd q).2.1 (s_row sp ss pd (ms.take i) x y z) := by
  unfold s_row
  rw [List.take_add_one, h, Option.toList_some, List.foldl_append]
  rfl
theorem s_tot_snoc (pd : zPD) (ms : List Nat) {i q : Nat} (h : ms[i]? = some q) : s_tot pd (ms.take (i + 1)) = s_tot pd (ms.take i) + (pd q).2.1 := by
  unfold s_tot
  rw [List.take_add_one, h, Option.toList_some, List.foldl_append]
  rfl
abbrev rm_c_fill : Room := { frames := 3, cells := 0, slots := 0, locals := 102 }
set_option maxHeartbeats 4000000 in
set_option maxRecDepth 100000 in
theorem c_fill (l : Launch) (Γ : zY) (G : zG) {se wv ro na wa q ml mAr : Nat} {hb bx bY bz bb sp ss n fo ex ey ez et lb : Int32} {lm : Int64} {rs : List (Int32 × Int32)} {tot : Int32} {ms : List Nat} {pd : zPD} (x y z : Int32)
    (hse : G se = some (oSea wv ro hb bx bY bz bb lm)) (hwv : G wv = some (oWav sp ss)) (hR : zRo Γ G ro na wa rs tot) (hq : G q = some (oEv n ml fo ex ey ez et lb)) (hl : zLs Γ G ml mAr ms) (hm : zMem G ms pd) (hn : ms.length ≤ 33) :
    ZM l yX3_fillWithStarts cX3_fillWithStarts 7 (none) rm_c_fill Γ [.ref se, .ref q, .int x, .int y, .int z] G (fun v G' => none = v ∧ zRo Γ G' ro na wa (s_row sp ss pd ms x y z) (s_tot pd ms) ∧ zF3 G G' ro na wa) := by
  refine z_start (by decide +kernel) [some (.ref se), some (.ref q), some (.int x), some (.int y), some (.int z), none, none] rfl (Nat.le_of_ble_eq_true rfl) ?_
  intro p e s m args below meth c Q A C F hr hnm
  have loop : ∀ (d i : Nat) (G1 : zG) (w : Option Value), i + d = ms.length → zRo Γ G1 ro na wa (s_row sp ss pd (ms.take i) x y z) (s_tot pd (ms.take i)) → zF3 G G1 ro na wa → Z p l e rm_c_fill s m args below meth c Q 7 Γ A G1 0 0 10 [some (.ref se), some (.ref q), some (.int x), some (.int y), some (.int z), some (.int (nI i)), w] [] := by
    intro d
    induction d with
    | zero =>
      intro i G1 w hi hR1 hf
      have hq1 := hf.get hR hq rfl
      have hl1 := hf.lst hR hl
      obtain ⟨mc, cap, hml, -⟩ := id hl1
      refine z_iload C dX3_fillWithStarts_10 rfl ?_
      first | refine z_rload_n C dX3_fillWithStarts_12 rfl ?_ | refine z_nload_n C dX3_fillWithStarts_12 rfl ?_ | refine z_aload_n C dX3_fillWithStarts_12 rfl ?_
      refine z_getf (T := TX0) (N := 8) C (by first | assumption | exact zU_same _ _ _) rfl 1 (by decide) kw_439 (Or.inl rfl) rfl dX3_fillWithStarts_13 ?_
      refine z_callV (q := (RJx4a65c, TJx4a65c, 3)) C (c_size l Γ G1 hl1) kc_X3_fillWithStarts_16 (by first | assumption | exact zU_same _ _ _) rfl rfl rfl rfl ky_Jx4a65c_size_8abf5 ⟨(Nat.le_of_ble_eq_true rfl), (Nat.le_of_ble_eq_true rfl)⟩ (Nat.le_of_ble_eq_true rfl) ⟨(Nat.le_of_ble_eq_true rfl), (Nat.le_of_ble_eq_true rfl)⟩ dX3_fillWithStarts_16 (fun v16 G16 hp16 => ?_)
      obtain ⟨rfl, rfl⟩ := hp16
      refine z_icmp_ge (tgt := 81) C dX3_fillWithStarts_19 (by decide) (fun h19 => ?_) (fun h19 => ?_)
      · rw [List.take_of_length_le (by omega)] at hR1
        exact z_vret C F hr (Nat.le_of_ble_eq_true rfl) (Nat.le_of_ble_eq_true rfl) ⟨rfl, hR1, hf⟩ dX3_fillWithStarts_81
      · exact absurd (nI_le (by omega) (by omega)) h19
    | succ d ih =>
      intro i G1 w hi hR1 hf
      have hq1 := hf.get hR hq rfl
      have hl1 := hf.lst hR hl
      have hse1 := hf.get hR hse rfl
      have hwv1 := hf.get hR hwv rfl
      obtain ⟨mc, cap, hml, -⟩ := id hl1
      obtain ⟨y0, hy0⟩ : ∃ y0, ms[i]? = some y0 := ⟨_, List.getElem?_eq_getElem (by omega)⟩
      obtain ⟨pn, st, am, ev, n2, hp, hs⟩ := hf.mem hR hm y0 (List.mem_of_getElem? hy0)
      refine z_iload C dX3_fillWithStarts_10 rfl ?_
      first | refine z_rload_n C dX3_fillWithStarts_12 rfl ?_ | refine z_nload_n C dX3_fillWithStarts_12 rfl ?_ | refine z_aload_n C dX3_fillWithStarts_12 rfl ?_
      refine z_getf (T := TX0) (N := 8) C (by first | assumption | exact zU_same _ _ _) rfl 1 (by decide) kw_439 (Or.inl rfl) rfl dX3_fillWithStarts_13 ?_
      refine z_callV (q := (RJx4a65c, TJx4a65c, 3)) C (c_size l Γ G1 hl1) kc_X3_fillWithStarts_16 (by first | assumption | exact zU_same _ _ _) rfl rfl rfl rfl ky_Jx4a65c_size_8abf5 ⟨(Nat.le_of_ble_eq_true rfl), (Nat.le_of_ble_eq_true rfl)⟩ (Nat.le_of_ble_eq_true rfl) ⟨(Nat.le_of_ble_eq_true rfl), (Nat.le_of_ble_eq_true rfl)⟩ dX3_fillWithStarts_16 (fun v16 G16 hp16 => ?_)
      obtain ⟨rfl, rfl⟩ := hp16
      refine z_icmp_ge (tgt := 81) C dX3_fillWithStarts_19 (by decide) (fun h19 => ?_) (fun h19 => ?_)
      · exact absurd h19 (nI_ge (by omega) (by omega))
      · first | refine z_rload_n C dX3_fillWithStarts_22 rfl ?_ | refine z_nload_n C dX3_fillWithStarts_22 rfl ?_ | refine z_aload_n C dX3_fillWithStarts_22 rfl ?_
        refine z_getf (T := TX0) (N := 8) C (by first | assumption | exact zU_same _ _ _) rfl 1 (by decide) kw_439 (Or.inl rfl) rfl dX3_fillWithStarts_23 ?_
        refine z_iload C dX3_fillWithStarts_26 rfl ?_
        refine z_callV (q := (RJx4a65c, TJx4a65c, 3)) C (c_get l Γ G1 hl1 hy0) kc_X3_fillWithStarts_28 (by first | assumption | exact zU_same _ _ _) rfl rfl rfl rfl ky_Jx4a65c_get_915e3 ⟨(Nat.le_of_ble_eq_true rfl), (Nat.le_of_ble_eq_true rfl)⟩ (Nat.le_of_ble_eq_true rfl) ⟨(Nat.le_of_ble_eq_true rfl), (Nat.le_of_ble_eq_true rfl)⟩ dX3_fillWithStarts_28 (fun v28 G28 hp28 => ?_)
        obtain ⟨rfl, rfl⟩ := hp28
        refine z_cast (q := (RX1, TX1, 7)) C kw_592 (by first | assumption | exact zU_same _ _ _) rfl dX3_fillWithStarts_31 ?_
        first | refine z_rstore C dX3_fillWithStarts_34 (by decide) ?_ | refine z_astore C dX3_fillWithStarts_34 (by decide) ?_
        first | refine z_rload_n C dX3_fillWithStarts_36 rfl ?_ | refine z_nload_n C dX3_fillWithStarts_36 rfl ?_ | refine z_aload_n C dX3_fillWithStarts_36 rfl ?_
        refine z_getf (T := TX3) (N := 8) C (by first | assumption | exact zU_same _ _ _) rfl 1 (by decide) kw_123 (Or.inl rfl) rfl dX3_fillWithStarts_37 ?_
        first | refine z_rload C dX3_fillWithStarts_40 rfl ?_ | refine z_aload C dX3_fillWithStarts_40 rfl ?_
        refine z_getf (T := TX1) (N := 7) C (by first | assumption | exact zU_same _ _ _) rfl 3 (by decide) kw_320 (Or.inl rfl) rfl dX3_fillWithStarts_42 ?_
        first | refine z_rload_n C dX3_fillWithStarts_45 rfl ?_ | refine z_nload_n C dX3_fillWithStarts_45 rfl ?_ | refine z_aload_n C dX3_fillWithStarts_45 rfl ?_
        refine z_getf (T := TX3) (N := 8) C (by first | assumption | exact zU_same _ _ _) rfl 0 (by decide) kw_122 (Or.inl rfl) rfl dX3_fillWithStarts_46 ?_
        first | refine z_rload C dX3_fillWithStarts_49 rfl ?_ | refine z_aload C dX3_fillWithStarts_49 rfl ?_
        refine z_getf (T := TX1) (N := 7) C (by first | assumption | exact zU_same _ _ _) rfl 1 (by decide) kw_311 (Or.inl rfl) rfl dX3_fillWithStarts_51 ?_
        refine z_iload_n C dX3_fillWithStarts_54 rfl ?_
        refine z_iload_n C dX3_fillWithStarts_55 rfl ?_
        refine z_iload C dX3_fillWithStarts_56 rfl ?_
        first | refine z_rload C dX3_fillWithStarts_58 rfl ?_ | refine z_aload C dX3_fillWithStarts_58 rfl ?_
        refine z_getf (T := TX1) (N := 7) C (by first | assumption | exact zU_same _ _ _) rfl 2 (by decide) kw_316 (Or.inl rfl) rfl dX3_fillWithStarts_60 ?_
        refine z_callV (q := (RX5, TX5, 2)) C (c_travel l Γ G1 wv st sp ss n2 _ _ _ x y z (pd y0).2.2.1 hwv1 hs) kc_X3_fillWithStarts_63 (by first | assumption | exact zU_same _ _ _) rfl rfl rfl rfl ky_X5_travel ⟨(Nat.le_of_ble_eq_true rfl), (Nat.le_of_ble_eq_true rfl)⟩ (Nat.le_of_ble_eq_true rfl) ⟨(Nat.le_of_ble_eq_true rfl), (Nat.le_of_ble_eq_true rfl)⟩ dX3_fillWithStarts_63 (fun v63 G63 hp63 => ?_)
        obtain ⟨rfl, rfl⟩ := hp63
        have hro := hR1.2.2.1
        refine z_isub C dX3_fillWithStarts_66 ?_
        first | refine z_rload C dX3_fillWithStarts_67 rfl ?_ | refine z_aload C dX3_fillWithStarts_67 rfl ?_
        refine z_getf (T := TX1) (N := 7) C (by first | assumption | exact zU_same _ _ _) rfl 4 (by decide) kw_323 (Or.inl rfl) rfl dX3_fillWithStarts_69 ?_
        refine z_callV (q := (RX2, TX2, 4)) C (c_put l Γ G1 (x := s_start sp ss (pd y0) x y z) (w := (pd y0).2.1) hR1 (by rw [s_row_len, List.length_take]; omega)) kc_X3_fillWithStarts_72 (by first | assumption | exact zU_same _ _ _) rfl rfl rfl rfl ky_X2_put ⟨(Nat.le_of_ble_eq_true rfl), (Nat.le_of_ble_eq_true rfl)⟩ (Nat.le_of_ble_eq_true rfl) ⟨(Nat.le_of_ble_eq_true rfl), (Nat.le_of_ble_eq_true rfl)⟩ dX3_fillWithStarts_72 (fun v72 G72 hp72 => ?_)
        obtain ⟨rfl, hR2, hf2⟩ := hp72
        refine z_iinc (w := 1) C dX3_fillWithStarts_75 rfl rfl (by decide) ?_
        refine z_goto (tgt := 10) C dX3_fillWithStarts_78 (by decide) ?_
        rw [← nI_succ]
        exact ih (i + 1) _ _ (by omega) (by rw [s_row_snoc sp ss pd x y z ms hy0, s_tot_snoc pd ms hy0]; exact hR2) (hf.trans hf2)
  have hro := hR.2.2.1
  first | refine z_rload_n C dX3_fillWithStarts_0 rfl ?_ | refine z_nload_n C dX3_fillWithStarts_0 rfl ?_ | refine z_aload_n C dX3_fillWithStarts_0 rfl ?_
  refine z_getf (T := TX3) (N := 8) C (by first | assumption | exact zU_same _ _ _) rfl 1 (by decide) kw_123 (Or.inl rfl) rfl dX3_fillWithStarts_1 ?_
  refine z_callV (q := (RX2, TX2, 4)) C (c_empty l Γ G hR) kc_X3_fillWithStarts_4 (by first | assumption | exact zU_same _ _ _) rfl rfl rfl rfl ky_X2_empty ⟨(Nat.le_of_ble_eq_true rfl), (Nat.le_of_ble_eq_true rfl)⟩ (Nat.le_of_ble_eq_true rfl) ⟨(Nat.le_of_ble_eq_true rfl), (Nat.le_of_ble_eq_true rfl)⟩ dX3_fillWithStarts_4 (fun v4 G4 hp4 => ?_)
  obtain ⟨rfl, hR2, hf2⟩ := hp4
  refine z_iconst (v := 0) C dX3_fillWithStarts_7 rfl ?_
  refine z_istore C dX3_fillWithStarts_8 (by decide) ?_
  exact loop ms.length 0 _ none (Nat.zero_add _) hR2 hf2
/-- the best place so far is a place, with its own begin and misfit -/
def zBest (sp ss : Int32) (pd : zPD) (ms : List Nat) (hb bx bY bz bb : Int32) (lm : Int64) : Prop :=
  (hb = 0 ∨ hb = 1) ∧ (hb = 1 → s_place bx bY bz ∧ bb = s_mid (s_row sp ss pd ms bx bY bz) ((s_tot pd ms - 1) / 2) ∧ lm = s_dist (s_row sp ss pd ms bx bY bz) bb)
/-- the search's cells and the row's alone differ -/
def zF4 (G G' : zG) (se r na wa : Nat) : Prop := ∀ q, q ≠ se → q ≠ r → q ≠ na → q ≠ wa → G' q = G q
theorem zF4.get {Γ : zY} {G G' : zG} {se r na wa : Nat} {rs : List (Int32 × Int32)} {tot : Int32} (hf : zF4 G G' se r na wa) (hR : zRo Γ G r na wa rs tot) {fs : List Value} (hse : G se = some (.inr (4, fs))) {q : Nat} {e : va_E} (hq : G q = some e) (hk : zk e = true) (h4 : ∀ gs, e ≠ .inr (4, gs)) : G' q = some e := by
  obtain ⟨-, -, h1, f, g, h2, h3, -⟩ := hR
  rw [hf q (zG_ne hq hse (h4 _)) (zG_ne hq h1 (fun z => by rw [z] at hk; cases hk)) (zG_ne hq h2 (fun z => by rw [z] at hk; cases hk)) (zG_ne hq h3 (fun z => by rw [z] at hk; cases hk))]
  exact hq
theorem zF4.lst {Γ : zY} {G G' : zG} {se r na wa : Nat} {rs : List (Int32 × Int32)} {tot : Int32} (hf : zF4 G G' se r na wa) (hR : zRo Γ G r na wa rs tot) {fs : List Value} (hse : G se = some (.inr (4, fs))) {a arr : Nat} {xs : List Nat} (h : zLs Γ G a arr xs) : zLs Γ G' a arr xs := by
  obtain ⟨mc, cap, h1, h2, h3, h4⟩ := h
  refine ⟨mc, cap, hf.get hR hse h1 rfl (fun _ z => by cases z), h2, h3, ?_⟩
  rcases h4 with h4 | ⟨h4, f, h5, h6⟩
  · exact Or.inl h4
  · exact Or.inr ⟨h4, f, hf.get hR hse h5 rfl (fun _ z => by cases z), h6⟩
theorem zF4.mem {Γ : zY} {G G' : zG} {se r na wa : Nat} {rs : List (Int32 × Int32)} {tot : Int32} (hf : zF4 G G' se r na wa) (hR : zRo Γ G r na wa rs tot) {fs : List Value} (hse : G se = some (.inr (4, fs))) {ms : List Nat} {pd : zPD} (h : zMem G ms pd) : zMem G' ms pd := by
  intro y hy
  obtain ⟨n, st, am, ev, n2, h1, h2⟩ := h y hy
  exact ⟨n, st, am, ev, n2, hf.get hR hse h1 rfl (fun _ z => by cases z), hf.get hR hse h2 rfl (fun _ z => by cases z)⟩
theorem zF4.trans {G G' G2 : zG} {se r na wa : Nat} (h : zF4 G G' se r na wa) (h2 : zF4 G' G2 se r na wa) : zF4 G G2 se r na wa := fun q z a b c => (h2 q z a b c).trans (h q z a b c)
/-- all that a search of the event at q rests on -/
def zSr (Γ : zY) (G : zG) (se wv ro na wa q ml mAr : Nat) (sp ss : Int32) (ms : List Nat) (pd : zPD) (hb bx bY bz bb : Int32) (lm : Int64) : Prop :=
  G se = some (oSea wv ro hb bx bY bz bb lm) ∧ G wv = some (oWav sp ss) ∧ (∃ rs tot, zRo Γ G ro na wa rs tot) ∧ (∃ n fo ex ey ez et lb, G q = some (oEv n ml fo ex ey ez et lb)) ∧ zLs Γ G ml mAr ms ∧ zMem G ms pd ∧ ms.length ≤ 33
abbrev rm_c_offer : Room := { frames := 4, cells := 0, slots := 0, locals := 128 }
set_option maxHeartbeats 4000000 in
set_option maxRecDepth 100000 in
theorem c_offer (l : Launch) (Γ : zY) (G : zG) {se wv ro na wa q ml mAr : Nat} {hb bx bY bz bb sp ss : Int32} {lm : Int64} {ms : List Nat} {pd : zPD} (x y z : Int32)
    (hS : zSr Γ G se wv ro na wa q ml mAr sp ss ms pd hb bx bY bz bb lm) (hB : zBest sp ss pd ms hb bx bY bz bb lm) :
    ZM l yX3_offer cX3_offer 8 (none) rm_c_offer Γ [.ref se, .ref q, .int x, .int y, .int z] G (fun v G' => none = v ∧ zF4 G G' se ro na wa ∧ ∃ hb' bx' bY' bz' bb' lm', zSr Γ G' se wv ro na wa q ml mAr sp ss ms pd hb' bx' bY' bz' bb' lm' ∧ zBest sp ss pd ms hb' bx' bY' bz' bb' lm' ∧ (hb = 1 → hb' = 1) ∧ (s_place x y z → hb' = 1)) := by
  obtain ⟨hse, hwv, ⟨rs, tot, hR⟩, ⟨n, fo, ex, ey, ez, et, lb, hq⟩, hl, hm, hn⟩ := id hS
  refine z_start (by decide +kernel) [some (.ref se), some (.ref q), some (.int x), some (.int y), some (.int z), none, none, none] rfl (Nat.le_of_ble_eq_true rfl) ?_
  intro p e s m args below meth c Q A C F hr hnm
  refine z_iload_n C dX3_offer_0 rfl ?_
  refine z_iload_n C dX3_offer_1 rfl ?_
  refine z_iload C dX3_offer_2 rfl ?_
  refine z_callSN C (c_isPlace l Γ G x y z) kn_579 kc_X3_offer_4 rfl rfl ky_X6_isPlace ⟨(Nat.le_of_ble_eq_true rfl), (Nat.le_of_ble_eq_true rfl)⟩ (Nat.le_of_ble_eq_true rfl) ⟨(Nat.le_of_ble_eq_true rfl), (Nat.le_of_ble_eq_true rfl)⟩ dX3_offer_4 (fun v4 G4 hp4 => ?_)
  obtain ⟨rfl, rfl⟩ := hp4
  refine z_if_ne (tgt := 11) C dX3_offer_7 (by decide) (fun h7 => ?_) (fun h7 => ?_)
  · have hp := s_pl_iff.2.mp h7
    first | refine z_rload_n C dX3_offer_11 rfl ?_ | refine z_nload_n C dX3_offer_11 rfl ?_ | refine z_aload_n C dX3_offer_11 rfl ?_
    first | refine z_rload_n C dX3_offer_12 rfl ?_ | refine z_nload_n C dX3_offer_12 rfl ?_ | refine z_aload_n C dX3_offer_12 rfl ?_
    refine z_iload_n C dX3_offer_13 rfl ?_
    refine z_iload_n C dX3_offer_14 rfl ?_
    refine z_iload C dX3_offer_15 rfl ?_
    refine z_callV (q := (RX3, TX3, 8)) C (c_fill l Γ G x y z hse hwv hR hq hl hm hn) kc_X3_offer_17 (by first | assumption | exact zU_same _ _ _) rfl rfl rfl rfl ky_X3_fillWithStarts ⟨(Nat.le_of_ble_eq_true rfl), (Nat.le_of_ble_eq_true rfl)⟩ (Nat.le_of_ble_eq_true rfl) ⟨(Nat.le_of_ble_eq_true rfl), (Nat.le_of_ble_eq_true rfl)⟩ dX3_offer_17 (fun v17 G17 hp17 => ?_)
    obtain ⟨rfl, hR2, hf2⟩ := hp17
    have hse2 := hf2.get hR hse rfl
    have hro2 := hR2.2.2.1
    first | refine z_rload_n C dX3_offer_20 rfl ?_ | refine z_nload_n C dX3_offer_20 rfl ?_ | refine z_aload_n C dX3_offer_20 rfl ?_
    refine z_getf (T := TX3) (N := 8) C (by first | assumption | exact zU_same _ _ _) rfl 1 (by decide) kw_123 (Or.inl rfl) rfl dX3_offer_21 ?_
    refine z_callV (q := (RX2, TX2, 4)) C (c_mid l Γ G17 hR2) kc_X3_offer_24 (by first | assumption | exact zU_same _ _ _) rfl rfl rfl rfl ky_X2_middle ⟨(Nat.le_of_ble_eq_true rfl), (Nat.le_of_ble_eq_true rfl)⟩ (Nat.le_of_ble_eq_true rfl) ⟨(Nat.le_of_ble_eq_true rfl), (Nat.le_of_ble_eq_true rfl)⟩ dX3_offer_24 (fun v24 G24 hp24 => ?_)
    obtain ⟨rfl, rfl⟩ := hp24
    obtain ⟨bg, hbg⟩ : ∃ bg, bg = s_mid (s_row sp ss pd ms x y z) ((s_tot pd ms - 1) / 2) := ⟨_, rfl⟩
    rw [← hbg]
    refine z_istore C dX3_offer_27 (by decide) ?_
    first | refine z_rload_n C dX3_offer_29 rfl ?_ | refine z_nload_n C dX3_offer_29 rfl ?_ | refine z_aload_n C dX3_offer_29 rfl ?_
    refine z_getf (T := TX3) (N := 8) C (by first | assumption | exact zU_same _ _ _) rfl 1 (by decide) kw_123 (Or.inl rfl) rfl dX3_offer_30 ?_
    refine z_iload C dX3_offer_33 rfl ?_
    refine z_callV (q := (RX2, TX2, 4)) C (c_dist l Γ G17 bg hR2) kc_X3_offer_35 (by first | assumption | exact zU_same _ _ _) rfl rfl rfl rfl ky_X2_distanceFrom ⟨(Nat.le_of_ble_eq_true rfl), (Nat.le_of_ble_eq_true rfl)⟩ (Nat.le_of_ble_eq_true rfl) ⟨(Nat.le_of_ble_eq_true rfl), (Nat.le_of_ble_eq_true rfl)⟩ dX3_offer_35 (fun v35 G35 hp35 => ?_)
    obtain ⟨rfl, rfl⟩ := hp35
    obtain ⟨ds, hds⟩ : ∃ ds, ds = s_dist (s_row sp ss pd ms x y z) bg := ⟨_, rfl⟩
    rw [← hds]
    have take : Z p l e rm_c_offer s m args below meth c Q 8 Γ A G17 0 0 57 [some (.ref se), some (.ref q), some (.int x), some (.int y), some (.int z), some (.int bg), some (.long ds), none] [] := by
      refine z_widen (Nat.le_refl _) (Nat.le_refl _) ?_
      first | refine z_rload_n C dX3_offer_57 rfl ?_ | refine z_nload_n C dX3_offer_57 rfl ?_ | refine z_aload_n C dX3_offer_57 rfl ?_
      refine z_iconst (v := 1) C dX3_offer_58 rfl ?_
      refine z_putf (T := TX3) (N := 8) C (by first | assumption | exact zU_same _ _ _) rfl 2 (by decide) kw_124 (Or.inl rfl) rfl (tyX3_ok 2 (by decide)) rfl rfl (Nat.le_of_ble_eq_true rfl) dX3_offer_59 ?_
      first | refine z_rload_n C dX3_offer_62 rfl ?_ | refine z_nload_n C dX3_offer_62 rfl ?_ | refine z_aload_n C dX3_offer_62 rfl ?_
      refine z_iload_n C dX3_offer_63 rfl ?_
      refine z_putf (T := TX3) (N := 8) C (by first | assumption | exact zU_same _ _ _) rfl 3 (by decide) kw_125 (Or.inl rfl) rfl (tyX3_ok 3 (by decide)) rfl rfl (Nat.le_of_ble_eq_true rfl) dX3_offer_64 ?_
      first | refine z_rload_n C dX3_offer_67 rfl ?_ | refine z_nload_n C dX3_offer_67 rfl ?_ | refine z_aload_n C dX3_offer_67 rfl ?_
      refine z_iload_n C dX3_offer_68 rfl ?_
      refine z_putf (T := TX3) (N := 8) C (by first | assumption | exact zU_same _ _ _) rfl 4 (by decide) kw_126 (Or.inl rfl) rfl (tyX3_ok 4 (by decide)) rfl rfl (Nat.le_of_ble_eq_true rfl) dX3_offer_69 ?_
      first | refine z_rload_n C dX3_offer_72 rfl ?_ | refine z_nload_n C dX3_offer_72 rfl ?_ | refine z_aload_n C dX3_offer_72 rfl ?_
      refine z_iload C dX3_offer_73 rfl ?_
      refine z_putf (T := TX3) (N := 8) C (by first | assumption | exact zU_same _ _ _) rfl 5 (by decide) kw_127 (Or.inl rfl) rfl (tyX3_ok 5 (by decide)) rfl rfl (Nat.le_of_ble_eq_true rfl) dX3_offer_75 ?_
      first | refine z_rload_n C dX3_offer_78 rfl ?_ | refine z_nload_n C dX3_offer_78 rfl ?_ | refine z_aload_n C dX3_offer_78 rfl ?_
      refine z_iload C dX3_offer_79 rfl ?_
      refine z_putf (T := TX3) (N := 8) C (by first | assumption | exact zU_same _ _ _) rfl 6 (by decide) kw_128 (Or.inl rfl) rfl (tyX3_ok 6 (by decide)) rfl rfl (Nat.le_of_ble_eq_true rfl) dX3_offer_81 ?_
      first | refine z_rload_n C dX3_offer_84 rfl ?_ | refine z_nload_n C dX3_offer_84 rfl ?_ | refine z_aload_n C dX3_offer_84 rfl ?_
      refine z_lload C dX3_offer_85 rfl ?_
      refine z_putf (T := TX3) (N := 8) C (by first | assumption | exact zU_same _ _ _) rfl 7 (by decide) kw_129 (Or.inl rfl) rfl (tyX3_ok 7 (by decide)) rfl rfl (Nat.le_of_ble_eq_true rfl) dX3_offer_87 ?_
      simp only [zU_zU]
      have hne : ∀ {a : Nat} {e : va_E}, G a = some e → (∀ gs, e ≠ .inr (4, gs)) → a ≠ se := fun ha h => zG_ne ha hse (h _)
      have hf4 : zF4 G (zU G17 se (oSea wv ro 1 x y z bg ds)) se ro na wa := fun q z a b c => (zU_ne z).trans (hf2 q a b c)
      refine z_vret C F hr (Nat.le_of_ble_eq_true rfl) (Nat.le_of_ble_eq_true rfl) ?_ dX3_offer_90
      refine ⟨rfl, hf4, 1, x, y, z, bg, ds, ⟨zU_same _ _ _, hf4.get hR hse hwv rfl (fun _ z => by cases z), ⟨_, _, hR2.1, hR2.2.1, (zU_ne (zG_ne hro2 hse2 (fun z => by cases z))).trans hro2, ?_⟩, ⟨n, fo, ex, ey, ez, et, lb, hf4.get hR hse hq rfl (fun _ z => by cases z)⟩, hf4.lst hR hse hl, hf4.mem hR hse hm, hn⟩, ⟨Or.inr rfl, fun _ => ⟨hp, hbg, hds⟩⟩, fun _ => rfl, fun _ => rfl⟩
      obtain ⟨f, g, h1, h2, h3⟩ := hR2.2.2.2
      exact ⟨f, g, (zU_ne (zG_ne h1 hse2 zI_ne)).trans h1, (zU_ne (zG_ne h2 hse2 zI_ne)).trans h2, h3⟩
    refine z_lstore C dX3_offer_38 (by decide) ?_
    first | refine z_rload_n C dX3_offer_40 rfl ?_ | refine z_nload_n C dX3_offer_40 rfl ?_ | refine z_aload_n C dX3_offer_40 rfl ?_
    refine z_getf (T := TX3) (N := 8) C (by first | assumption | exact zU_same _ _ _) rfl 2 (by decide) kw_124 (Or.inl rfl) rfl dX3_offer_41 ?_
    refine z_if_eq (tgt := 57) C dX3_offer_44 (by decide) (fun h44 => ?_) (fun h44 => ?_)
    · exact take
    · have h1 : hb = 1 := hB.1.resolve_left h44
      refine z_lload C dX3_offer_47 rfl ?_
      first | refine z_rload_n C dX3_offer_49 rfl ?_ | refine z_nload_n C dX3_offer_49 rfl ?_ | refine z_aload_n C dX3_offer_49 rfl ?_
      refine z_getf (T := TX3) (N := 8) C (by first | assumption | exact zU_same _ _ _) rfl 7 (by decide) kw_129 (Or.inl rfl) rfl dX3_offer_50 ?_
      refine z_lcmp C dX3_offer_53 ?_
      refine z_if_ge (tgt := 90) C dX3_offer_54 (by decide) (fun h54 => ?_) (fun h54 => ?_)
      · exact z_vret C F hr (Nat.le_of_ble_eq_true rfl) (Nat.le_of_ble_eq_true rfl) ⟨rfl, fun q z a b c => hf2 q a b c, hb, bx, bY, bz, bb, lm, ⟨hse2, hf2.get hR hwv rfl, ⟨_, _, hR2⟩, ⟨n, fo, ex, ey, ez, et, lb, hf2.get hR hq rfl⟩, hf2.lst hR hl, hf2.mem hR hm, hn⟩, hB, id, fun _ => h1⟩ dX3_offer_90
      · exact take
  · have hp := s_pl_iff.1.mp h7
    exact z_vret C F hr (Nat.le_of_ble_eq_true rfl) (Nat.le_of_ble_eq_true rfl) ⟨rfl, fun _ _ _ _ _ => rfl, hb, bx, bY, bz, bb, lm, hS, hB, id, fun z => absurd z hp⟩ dX3_offer_10

