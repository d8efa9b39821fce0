/-! names, taken from the claim's printed names; own lists behind them -/
def RX0 : String := "QuakeBench$Event"
def RX1 : String := "QuakeBench$Pick"
def RX2 : String := "QuakeBench$Row"
def RX3 : String := "QuakeBench$Search"
def RX4 : String := "QuakeBench$Station"
def RX5 : String := "QuakeBench$Waves"
def RX6 : String := "QuakeBench"
def RX7 : String := "QuakeBenchModel"
def RJx145de : String := "java/io/Serializable"
def RJx8e188 : String := "java/lang/Cloneable"
def RJ6 : String := "java/lang/Integer"
def RJxab1ab : String := "java/lang/Iterable"
def RJ9 : String := "java/lang/Math"
def RJ0 : String := "java/lang/String"
def RJ10 : String := "java/lang/System"
def RJxa1e45 : String := "java/util/AbstractCollection"
def RJxc12de : String := "java/util/AbstractList"
def RJx4a65c : String := "java/util/ArrayList"
def RJ7 : String := "java/util/Arrays"
def RJx5ef63 : String := "java/util/Collection"
def RJxbd725 : String := "java/util/List"
def RJ15 : String := "java/util/Objects"
def RJxf0a74 : String := "java/util/RandomAccess"
def RJxa66e6 : String := "java/util/SequencedCollection"
def RJ8 : String := "jdk/internal/util/ArraysSupport"
def RJ3 : String := "jdk/internal/util/Preconditions"
def RL : String := "QuakeBenchLaw"
def TX6 : u_T := fun k => match k with
  | 0 => ("QuakeBench", "stations", "Ljava/util/ArrayList;", true)
  | 1 => ("QuakeBench", "picks", "Ljava/util/ArrayList;", true)
  | 2 => ("QuakeBench", "events", "Ljava/util/ArrayList;", true)
  | 3 => ("QuakeBench", "waves", "LQuakeBench$Waves;", true)
  | 4 => ("QuakeBench", "row", "LQuakeBench$Row;", true)
  | 5 => ("QuakeBench", "search", "LQuakeBench$Search;", true)
  | 6 => ("QuakeBench", "loose", "Ljava/util/ArrayList;", true)
  | _ => ("QuakeBench", "companions", "Ljava/util/ArrayList;", true)
def tyX6 : Nat → FieldType := fun k => match k with
  | 0 => .object "java/util/ArrayList"
  | 1 => .object "java/util/ArrayList"
  | 2 => .object "java/util/ArrayList"
  | 3 => .object "QuakeBench$Waves"
  | 4 => .object "QuakeBench$Row"
  | 5 => .object "QuakeBench$Search"
  | 6 => .object "java/util/ArrayList"
  | _ => .object "java/util/ArrayList"
theorem nmX6 : ∀ a, a < 8 → ∀ b, b < 8 → a ≠ b → (TX6 a).2.1 ≠ (TX6 b).2.1 := by decide +kernel
theorem tyX6_ok : ∀ k, k < 8 → parseFieldDescriptor (TX6 k).2.2.1 = some (tyX6 k) := by decide +kernel
def TX0 : u_T := fun k => match k with
  | 0 => ("QuakeBench$Event", "number", "I", true)
  | 1 => ("QuakeBench$Event", "members", "Ljava/util/ArrayList;", true)
  | 2 => ("QuakeBench$Event", "found", "Z", false)
  | 3 => ("QuakeBench$Event", "x", "I", false)
  | 4 => ("QuakeBench$Event", "y", "I", false)
  | 5 => ("QuakeBench$Event", "z", "I", false)
  | 6 => ("QuakeBench$Event", "time", "I", false)
  | _ => ("QuakeBench$Event", "label", "I", false)
def tyX0 : Nat → FieldType := fun k => match k with
  | 0 => .int
  | 1 => .object "java/util/ArrayList"
  | 2 => .boolean
  | 3 => .int
  | 4 => .int
  | 5 => .int
  | 6 => .int
  | _ => .int
theorem nmX0 : ∀ a, a < 8 → ∀ b, b < 8 → a ≠ b → (TX0 a).2.1 ≠ (TX0 b).2.1 := by decide +kernel
theorem tyX0_ok : ∀ k, k < 8 → parseFieldDescriptor (TX0 k).2.2.1 = some (tyX0 k) := by decide +kernel
def TX1 : u_T := fun k => match k with
  | 0 => ("QuakeBench$Pick", "number", "I", true)
  | 1 => ("QuakeBench$Pick", "station", "LQuakeBench$Station;", true)
  | 2 => ("QuakeBench$Pick", "isS", "Z", true)
  | 3 => ("QuakeBench$Pick", "time", "I", true)
  | 4 => ("QuakeBench$Pick", "weight", "I", false)
  | 5 => ("QuakeBench$Pick", "amplitude", "I", false)
  | _ => ("QuakeBench$Pick", "event", "LQuakeBench$Event;", false)
def tyX1 : Nat → FieldType := fun k => match k with
  | 0 => .int
  | 1 => .object "QuakeBench$Station"
  | 2 => .boolean
  | 3 => .int
  | 4 => .int
  | 5 => .int
  | _ => .object "QuakeBench$Event"
theorem nmX1 : ∀ a, a < 7 → ∀ b, b < 7 → a ≠ b → (TX1 a).2.1 ≠ (TX1 b).2.1 := by decide +kernel
theorem tyX1_ok : ∀ k, k < 7 → parseFieldDescriptor (TX1 k).2.2.1 = some (tyX1 k) := by decide +kernel
def TX2 : u_T := fun k => match k with
  | 0 => ("QuakeBench$Row", "numbers", "[I", true)
  | 1 => ("QuakeBench$Row", "weights", "[I", true)
  | 2 => ("QuakeBench$Row", "size", "I", false)
  | _ => ("QuakeBench$Row", "total", "I", false)
def tyX2 : Nat → FieldType := fun k => match k with
  | 0 => .array .int
  | 1 => .array .int
  | 2 => .int
  | _ => .int
theorem nmX2 : ∀ a, a < 4 → ∀ b, b < 4 → a ≠ b → (TX2 a).2.1 ≠ (TX2 b).2.1 := by decide +kernel
theorem tyX2_ok : ∀ k, k < 4 → parseFieldDescriptor (TX2 k).2.2.1 = some (tyX2 k) := by decide +kernel
def TX3 : u_T := fun k => match k with
  | 0 => ("QuakeBench$Search", "waves", "LQuakeBench$Waves;", true)
  | 1 => ("QuakeBench$Search", "row", "LQuakeBench$Row;", true)
  | 2 => ("QuakeBench$Search", "hasBest", "Z", false)
  | 3 => ("QuakeBench$Search", "bestX", "I", false)
  | 4 => ("QuakeBench$Search", "bestY", "I", false)
  | 5 => ("QuakeBench$Search", "bestZ", "I", false)
  | 6 => ("QuakeBench$Search", "bestBegin", "I", false)
  | _ => ("QuakeBench$Search", "leastMisfit", "J", false)
def tyX3 : Nat → FieldType := fun k => match k with
  | 0 => .object "QuakeBench$Waves"
  | 1 => .object "QuakeBench$Row"
  | 2 => .boolean
  | 3 => .int
  | 4 => .int
  | 5 => .int
  | 6 => .int
  | _ => .long
theorem nmX3 : ∀ a, a < 8 → ∀ b, b < 8 → a ≠ b → (TX3 a).2.1 ≠ (TX3 b).2.1 := by decide +kernel
theorem tyX3_ok : ∀ k, k < 8 → parseFieldDescriptor (TX3 k).2.2.1 = some (tyX3 k) := by decide +kernel
def TX4 : u_T := fun k => match k with
  | 0 => ("QuakeBench$Station", "number", "I", true)
  | 1 => ("QuakeBench$Station", "x", "I", true)
  | 2 => ("QuakeBench$Station", "y", "I", true)
  | _ => ("QuakeBench$Station", "delay", "I", false)
def tyX4 : Nat → FieldType := fun k => match k with
  | 0 => .int
  | 1 => .int
  | 2 => .int
  | _ => .int
theorem nmX4 : ∀ a, a < 4 → ∀ b, b < 4 → a ≠ b → (TX4 a).2.1 ≠ (TX4 b).2.1 := by decide +kernel
theorem tyX4_ok : ∀ k, k < 4 → parseFieldDescriptor (TX4 k).2.2.1 = some (tyX4 k) := by decide +kernel
def TX5 : u_T := fun k => match k with
  | 0 => ("QuakeBench$Waves", "speedOfP", "I", false)
  | _ => ("QuakeBench$Waves", "speedOfS", "I", false)
def tyX5 : Nat → FieldType := fun k => match k with
  | 0 => .int
  | _ => .int
theorem nmX5 : ∀ a, a < 2 → ∀ b, b < 2 → a ≠ b → (TX5 a).2.1 ≠ (TX5 b).2.1 := by decide +kernel
theorem tyX5_ok : ∀ k, k < 2 → parseFieldDescriptor (TX5 k).2.2.1 = some (tyX5 k) := by decide +kernel
def TJx4a65c : u_T := fun k => match k with
  | 0 => ("java/util/AbstractList", "modCount", "I", false)
  | 1 => ("java/util/ArrayList", "elementData", "[Ljava/lang/Object;", false)
  | _ => ("java/util/ArrayList", "size", "I", false)
def tyJx4a65c : Nat → FieldType := fun k => match k with
  | 0 => .int
  | 1 => .array (.object "java/lang/Object")
  | _ => .int
theorem nmJx4a65c : ∀ a, a < 3 → ∀ b, b < 3 → a ≠ b → (TJx4a65c a).2.1 ≠ (TJx4a65c b).2.1 := by decide +kernel
theorem tyJx4a65c_ok : ∀ k, k < 3 → parseFieldDescriptor (TJx4a65c k).2.2.1 = some (tyJx4a65c k) := by decide +kernel
abbrev cX0_init : ByteArray := prog_2_method_1_code
def yX0_init : MethodName := ⟨RX0, "<init>", "(I)V"⟩
abbrev cX0_take : ByteArray := prog_2_method_2_code
def yX0_take : MethodName := ⟨RX0, "take", "(LQuakeBench$Pick;)V"⟩
abbrev cX0_drop : ByteArray := prog_2_method_3_code
def yX0_drop : MethodName := ⟨RX0, "drop", "(LQuakeBench$Pick;)V"⟩
abbrev cX0_hasAnotherLike : ByteArray := prog_2_method_5_code
def yX0_hasAnotherLike : MethodName := ⟨RX0, "hasAnotherLike", "(LQuakeBench$Pick;)Z"⟩
abbrev cX0_countStations : ByteArray := prog_2_method_6_code
def yX0_countStations : MethodName := ⟨RX0, "countStations", "()I"⟩
abbrev cX0_distanceTo : ByteArray := prog_2_method_7_code
def yX0_distanceTo : MethodName := ⟨RX0, "distanceTo", "(III)I"⟩
abbrev cX0_isRelated : ByteArray := prog_2_method_8_code
def yX0_isRelated : MethodName := ⟨RX0, "isRelated", "(LQuakeBench$Event;II)Z"⟩
abbrev cX1_init : ByteArray := prog_3_method_1_code
def yX1_init : MethodName := ⟨RX1, "<init>", "(ILQuakeBench$Station;ZI)V"⟩
abbrev cX2_init : ByteArray := prog_4_method_1_code
def yX2_init : MethodName := ⟨RX2, "<init>", "()V"⟩
abbrev cX2_empty : ByteArray := prog_4_method_2_code
def yX2_empty : MethodName := ⟨RX2, "empty", "()V"⟩
abbrev cX2_put : ByteArray := prog_4_method_3_code
def yX2_put : MethodName := ⟨RX2, "put", "(II)V"⟩
abbrev cX2_middle : ByteArray := prog_4_method_4_code
def yX2_middle : MethodName := ⟨RX2, "middle", "()I"⟩
abbrev cX2_distanceFrom : ByteArray := prog_4_method_5_code
def yX2_distanceFrom : MethodName := ⟨RX2, "distanceFrom", "(I)J"⟩
abbrev cX2_widestGap : ByteArray := prog_4_method_6_code
def yX2_widestGap : MethodName := ⟨RX2, "widestGap", "()I"⟩
abbrev cX3_init : ByteArray := prog_5_method_1_code
def yX3_init : MethodName := ⟨RX3, "<init>", "(LQuakeBench$Waves;LQuakeBench$Row;)V"⟩
abbrev cX3_locate : ByteArray := prog_5_method_2_code
def yX3_locate : MethodName := ⟨RX3, "locate", "(LQuakeBench$Event;)J"⟩
abbrev cX3_scan : ByteArray := prog_5_method_3_code
def yX3_scan : MethodName := ⟨RX3, "scan", "(LQuakeBench$Event;IIIIII)V"⟩
abbrev cX3_offer : ByteArray := prog_5_method_4_code
def yX3_offer : MethodName := ⟨RX3, "offer", "(LQuakeBench$Event;III)V"⟩
abbrev cX3_fillWithStarts : ByteArray := prog_5_method_5_code
def yX3_fillWithStarts : MethodName := ⟨RX3, "fillWithStarts", "(LQuakeBench$Event;III)V"⟩
abbrev cX4_init : ByteArray := prog_6_method_1_code
def yX4_init : MethodName := ⟨RX4, "<init>", "(III)V"⟩
abbrev cX4_wayTo : ByteArray := prog_6_method_2_code
def yX4_wayTo : MethodName := ⟨RX4, "wayTo", "(III)I"⟩
abbrev cX5_init : ByteArray := prog_7_method_1_code
def yX5_init : MethodName := ⟨RX5, "<init>", "()V"⟩
abbrev cX5_travel : ByteArray := prog_7_method_2_code
def yX5_travel : MethodName := ⟨RX5, "travel", "(LQuakeBench$Station;IIIZ)I"⟩
abbrev cX5_lateness : ByteArray := prog_7_method_3_code
def yX5_lateness : MethodName := ⟨RX5, "lateness", "(LQuakeBench$Pick;LQuakeBench$Event;)I"⟩
abbrev cX6_init : ByteArray := prog_1_method_1_code
def yX6_init : MethodName := ⟨RX6, "<init>", "()V"⟩
abbrev cX6_addStation : ByteArray := prog_1_method_2_code
def yX6_addStation : MethodName := ⟨RX6, "addStation", "(II)I"⟩
abbrev cX6_addPick : ByteArray := prog_1_method_7_code
def yX6_addPick : MethodName := ⟨RX6, "addPick", "(IZI)I"⟩
abbrev cX6_setWeight : ByteArray := prog_1_method_8_code
def yX6_setWeight : MethodName := ⟨RX6, "setWeight", "(II)I"⟩
abbrev cX6_pick : ByteArray := prog_1_method_9_code
def yX6_pick : MethodName := ⟨RX6, "pick", "(II)I"⟩
abbrev cX6_addEvent : ByteArray := prog_1_method_10_code
def yX6_addEvent : MethodName := ⟨RX6, "addEvent", "()I"⟩
abbrev cX6_give : ByteArray := prog_1_method_11_code
def yX6_give : MethodName := ⟨RX6, "give", "(II)I"⟩
abbrev cX6_associate : ByteArray := prog_1_method_12_code
def yX6_associate : MethodName := ⟨RX6, "associate", "()I"⟩
abbrev cX6_count : ByteArray := prog_1_method_13_code
def yX6_count : MethodName := ⟨RX6, "count", "(I)I"⟩
abbrev cX6_seek : ByteArray := prog_1_method_14_code
def yX6_seek : MethodName := ⟨RX6, "seek", "(I)J"⟩
abbrev cX6_event : ByteArray := prog_1_method_15_code
def yX6_event : MethodName := ⟨RX6, "event", "(II)I"⟩
abbrev cX6_misfit : ByteArray := prog_1_method_16_code
def yX6_misfit : MethodName := ⟨RX6, "misfit", "(IIII)J"⟩
abbrev cX6_residual : ByteArray := prog_1_method_17_code
def yX6_residual : MethodName := ⟨RX6, "residual", "(I)I"⟩
abbrev cX6_worst : ByteArray := prog_1_method_18_code
def yX6_worst : MethodName := ⟨RX6, "worst", "(I)I"⟩
abbrev cX6_spread : ByteArray := prog_1_method_19_code
def yX6_spread : MethodName := ⟨RX6, "spread", "(I)D"⟩
abbrev cX6_gap : ByteArray := prog_1_method_20_code
def yX6_gap : MethodName := ⟨RX6, "gap", "(I)I"⟩
abbrev cX6_magnitude : ByteArray := prog_1_method_22_code
def yX6_magnitude : MethodName := ⟨RX6, "magnitude", "(I)I"⟩
abbrev cX6_families : ByteArray := prog_1_method_23_code
def yX6_families : MethodName := ⟨RX6, "families", "(II)I"⟩
abbrev cX6_isPlace : ByteArray := prog_1_method_27_code
def yX6_isPlace : MethodName := ⟨RX6, "isPlace", "(III)Z"⟩
abbrev cX6_requirePlace : ByteArray := prog_1_method_28_code
def yX6_requirePlace : MethodName := ⟨RX6, "requirePlace", "(III)V"⟩
abbrev cX6_requireFound : ByteArray := prog_1_method_29_code
def yX6_requireFound : MethodName := ⟨RX6, "requireFound", "(LQuakeBench$Event;)V"⟩
abbrev cX6_requireLimits : ByteArray := prog_1_method_30_code
def yX6_requireLimits : MethodName := ⟨RX6, "requireLimits", "(II)V"⟩
abbrev cX6_stationAt : ByteArray := prog_1_method_31_code
def yX6_stationAt : MethodName := ⟨RX6, "stationAt", "(I)LQuakeBench$Station;"⟩
abbrev cX6_pickAt : ByteArray := prog_1_method_32_code
def yX6_pickAt : MethodName := ⟨RX6, "pickAt", "(I)LQuakeBench$Pick;"⟩
abbrev cX6_eventAt : ByteArray := prog_1_method_33_code
def yX6_eventAt : MethodName := ⟨RX6, "eventAt", "(I)LQuakeBench$Event;"⟩
abbrev cX6_numberOf : ByteArray := prog_1_method_34_code
def yX6_numberOf : MethodName := ⟨RX6, "numberOf", "(LQuakeBench$Event;)I"⟩
abbrev cX6_countFound : ByteArray := prog_1_method_35_code
def yX6_countFound : MethodName := ⟨RX6, "countFound", "()I"⟩
abbrev cX6_countLoose : ByteArray := prog_1_method_36_code
def yX6_countLoose : MethodName := ⟨RX6, "countLoose", "()I"⟩
abbrev cX6_openEvent : ByteArray := prog_1_method_37_code
def yX6_openEvent : MethodName := ⟨RX6, "openEvent", "()LQuakeBench$Event;"⟩
abbrev cX6_orderLoosePicks : ByteArray := prog_1_method_38_code
def yX6_orderLoosePicks : MethodName := ⟨RX6, "orderLoosePicks", "()V"⟩
abbrev cX6_hostFor : ByteArray := prog_1_method_39_code
def yX6_hostFor : MethodName := ⟨RX6, "hostFor", "(LQuakeBench$Pick;)LQuakeBench$Event;"⟩
abbrev cX6_gatherCompanions : ByteArray := prog_1_method_40_code
def yX6_gatherCompanions : MethodName := ⟨RX6, "gatherCompanions", "(LQuakeBench$Pick;I)V"⟩
abbrev cX6_companyHears : ByteArray := prog_1_method_41_code
def yX6_companyHears : MethodName := ⟨RX6, "companyHears", "(LQuakeBench$Station;)Z"⟩
abbrev cX6_openEventWithCompanions : ByteArray := prog_1_method_42_code
def yX6_openEventWithCompanions : MethodName := ⟨RX6, "openEventWithCompanions", "(LQuakeBench$Pick;)LQuakeBench$Event;"⟩
abbrev cX6_gapOf : ByteArray := prog_1_method_43_code
def yX6_gapOf : MethodName := ⟨RX6, "gapOf", "(LQuakeBench$Event;)I"⟩
abbrev cX6_bearing : ByteArray := prog_1_method_44_code
def yX6_bearing : MethodName := ⟨RX6, "bearing", "(II)I"⟩
abbrev cX6_magnitudeOf : ByteArray := prog_1_method_45_code
def yX6_magnitudeOf : MethodName := ⟨RX6, "magnitudeOf", "(LQuakeBench$Event;)I"⟩
abbrev cX6_binaryDigits : ByteArray := prog_1_method_46_code
def yX6_binaryDigits : MethodName := ⟨RX6, "binaryDigits", "(I)I"⟩
abbrev cX6_labelFamilies : ByteArray := prog_1_method_47_code
def yX6_labelFamilies : MethodName := ⟨RX6, "labelFamilies", "(II)V"⟩
abbrev cX6_joinLabels : ByteArray := prog_1_method_48_code
def yX6_joinLabels : MethodName := ⟨RX6, "joinLabels", "(II)V"⟩
abbrev cJ6_bitCount_0f7a4 : ByteArray := prog_16_method_49_code
def yJ6_bitCount_0f7a4 : MethodName := ⟨RJ6, "bitCount", "(I)I"⟩
abbrev cJ9_abs_0f7a4 : ByteArray := prog_18_method_59_code
def yJ9_abs_0f7a4 : MethodName := ⟨RJ9, "abs", "(I)I"⟩
abbrev cJ9_max_7cf53 : ByteArray := prog_18_method_65_code
def yJ9_max_7cf53 : MethodName := ⟨RJ9, "max", "(II)I"⟩
abbrev cJ9_min_7cf53 : ByteArray := prog_18_method_69_code
def yJ9_min_7cf53 : MethodName := ⟨RJ9, "min", "(II)I"⟩
abbrev cJxa1e45_init_da8c8 : ByteArray := prog_23_method_1_code
def yJxa1e45_init_da8c8 : MethodName := ⟨RJxa1e45, "<init>", "()V"⟩
abbrev cJxc12de_init_da8c8 : ByteArray := prog_24_method_1_code
def yJxc12de_init_da8c8 : MethodName := ⟨RJxc12de, "<init>", "()V"⟩
abbrev cJx4a65c_init_da8c8 : ByteArray := prog_25_method_2_code
def yJx4a65c_init_da8c8 : MethodName := ⟨RJx4a65c, "<init>", "()V"⟩
abbrev cJx4a65c_grow_92f84 : ByteArray := prog_25_method_6_code
def yJx4a65c_grow_92f84 : MethodName := ⟨RJx4a65c, "grow", "(I)[Ljava/lang/Object;"⟩
abbrev cJx4a65c_grow_d5877 : ByteArray := prog_25_method_7_code
def yJx4a65c_grow_d5877 : MethodName := ⟨RJx4a65c, "grow", "()[Ljava/lang/Object;"⟩
abbrev cJx4a65c_size_8abf5 : ByteArray := prog_25_method_8_code
def yJx4a65c_size_8abf5 : MethodName := ⟨RJx4a65c, "size", "()I"⟩
abbrev cJx4a65c_elementData_915e3 : ByteArray := prog_25_method_18_code
def yJx4a65c_elementData_915e3 : MethodName := ⟨RJx4a65c, "elementData", "(I)Ljava/lang/Object;"⟩
abbrev cJx4a65c_get_915e3 : ByteArray := prog_25_method_20_code
def yJx4a65c_get_915e3 : MethodName := ⟨RJx4a65c, "get", "(I)Ljava/lang/Object;"⟩
abbrev cJx4a65c_add_72be8 : ByteArray := prog_25_method_24_code
def yJx4a65c_add_72be8 : MethodName := ⟨RJx4a65c, "add", "(Ljava/lang/Object;[Ljava/lang/Object;I)V"⟩
abbrev cJx4a65c_add_9ea2d : ByteArray := prog_25_method_25_code
def yJx4a65c_add_9ea2d : MethodName := ⟨RJx4a65c, "add", "(Ljava/lang/Object;)Z"⟩
abbrev cJx4a65c_add_7a177 : ByteArray := prog_25_method_26_code
def yJx4a65c_add_7a177 : MethodName := ⟨RJx4a65c, "add", "(ILjava/lang/Object;)V"⟩
abbrev cJx4a65c_remove_915e3 : ByteArray := prog_25_method_29_code
def yJx4a65c_remove_915e3 : MethodName := ⟨RJx4a65c, "remove", "(I)Ljava/lang/Object;"⟩
abbrev cJx4a65c_fastRemove_b59b0 : ByteArray := prog_25_method_39_code
def yJx4a65c_fastRemove_b59b0 : MethodName := ⟨RJx4a65c, "fastRemove", "([Ljava/lang/Object;I)V"⟩
abbrev cJx4a65c_clear_da8c8 : ByteArray := prog_25_method_40_code
def yJx4a65c_clear_da8c8 : MethodName := ⟨RJx4a65c, "clear", "()V"⟩
abbrev cJx4a65c_rangeCheckForAdd_d00df : ByteArray := prog_25_method_45_code
def yJx4a65c_rangeCheckForAdd_d00df : MethodName := ⟨RJx4a65c, "rangeCheckForAdd", "(I)V"⟩
abbrev cJ7_copyOf_1904c : ByteArray := prog_26_method_119_code
def yJ7_copyOf_1904c : MethodName := ⟨RJ7, "copyOf", "([Ljava/lang/Object;I)[Ljava/lang/Object;"⟩
abbrev cJ7_copyOf_6403c : ByteArray := prog_26_method_120_code
def yJ7_copyOf_6403c : MethodName := ⟨RJ7, "copyOf", "([Ljava/lang/Object;ILjava/lang/Class;)[Ljava/lang/Object;"⟩
abbrev cJ15_checkIndex_7cf53 : ByteArray := prog_29_method_17_code
def yJ15_checkIndex_7cf53 : MethodName := ⟨RJ15, "checkIndex", "(II)I"⟩
abbrev cJ8_newLength_cabcc : ByteArray := prog_32_method_27_code
def yJ8_newLength_cabcc : MethodName := ⟨RJ8, "newLength", "(III)I"⟩
abbrev cJ8_hugeLength_7cf53 : ByteArray := prog_32_method_28_code
def yJ8_hugeLength_7cf53 : MethodName := ⟨RJ8, "hugeLength", "(II)I"⟩
abbrev cJ3_checkIndex_8e157 : ByteArray := prog_33_method_11_code
def yJ3_checkIndex_8e157 : MethodName := ⟨RJ3, "checkIndex", "(IILjava/util/function/BiFunction;)I"⟩
abbrev cL_below : ByteArray := method_2_code
def yL_below : MethodName := ⟨RL, "below", "(II)I"⟩
abbrev cL_cell : ByteArray := method_3_code
def yL_cell : MethodName := ⟨RL, "cell", "([II)I"⟩
abbrev cL_stations : ByteArray := method_4_code
def yL_stations : MethodName := ⟨RL, "stations", "(LQuakeBench;[III[I[I)I"⟩
abbrev cL_law : ByteArray := code
def yL_law : MethodName := ⟨RL, "law", "([I)Z"⟩
abbrev lw_all : List Cond := lw_tbl.filter goodWord
theorem zin {ws : List Cond} (ps : List Nat) (h : (decide (ps.map (fun i => lw_tbl[i]?) = ws.map some) && ws.all goodWord) = true) : ∀ w ∈ ws, w ∈ lw_all := by
  rw [Bool.and_eq_true, decide_eq_true_eq] at h
  intro w hw
  refine List.mem_filter.mpr ⟨?_, List.all_eq_true.mp h.2 w hw⟩
  have h1 : some w ∈ ws.map some := List.mem_map.mpr ⟨w, hw, rfl⟩
  rw [← h.1] at h1
  obtain ⟨i, -, hi⟩ := List.mem_map.mp h1
  exact List.mem_of_getElem? hi
theorem zin1 {w : Cond} (i : Nat) (h : (decide (lw_tbl[i]? = some w) && goodWord w) = true) : w ∈ lw_all := by
  rw [Bool.and_eq_true, decide_eq_true_eq] at h
  exact List.mem_filter.mpr ⟨List.mem_of_getElem? h.1, h.2⟩
abbrev zCl : List vw_C := [(RX6, TX6, 8), (RX0, TX0, 8), (RX1, TX1, 7), (RX2, TX2, 4), (RX3, TX3, 8), (RX4, TX4, 4), (RX5, TX5, 2), (RJx4a65c, TJx4a65c, 3)]
theorem zin_c0 : ∀ w ∈ u_ws RX6 TX6 8, w ∈ lw_all := zin [155, 157, 159, 161, 163, 165, 167, 169] (by decide +kernel)
theorem zin_c1 : ∀ w ∈ u_ws RX0 TX0 8, w ∈ lw_all := zin [461, 463, 465, 467, 469, 471, 473, 475] (by decide +kernel)
theorem zin_c2 : ∀ w ∈ u_ws RX1 TX1 7, w ∈ lw_all := zin [328, 330, 332, 334, 336, 338, 340] (by decide +kernel)
theorem zin_c3 : ∀ w ∈ u_ws RX2 TX2 4, w ∈ lw_all := zin [106, 108, 110, 112] (by decide +kernel)
theorem zin_c4 : ∀ w ∈ u_ws RX3 TX3 8, w ∈ lw_all := zin [130, 132, 134, 136, 138, 140, 142, 144] (by decide +kernel)
theorem zin_c5 : ∀ w ∈ u_ws RX4 TX4 4, w ∈ lw_all := zin [758, 760, 762, 764] (by decide +kernel)
theorem zin_c6 : ∀ w ∈ u_ws RX5 TX5 2, w ∈ lw_all := zin [90, 92] (by decide +kernel)
theorem zin_c7 : ∀ w ∈ u_ws RJx4a65c TJx4a65c 3, w ∈ lw_all := zin [79, 75, 77] (by decide +kernel)
theorem zCl_in {ci N : Nat} {Cn : String} {T : u_T} (h : zCl[ci]? = some (Cn, T, N)) : ∀ w ∈ u_ws Cn T N, w ∈ lw_all := by
  match ci, h with
  | 0, h => cases h; exact zin_c0
  | 1, h => cases h; exact zin_c1
  | 2, h => cases h; exact zin_c2
  | 3, h => cases h; exact zin_c3
  | 4, h => cases h; exact zin_c4
  | 5, h => cases h; exact zin_c5
  | 6, h => cases h; exact zin_c6
  | 7, h => cases h; exact zin_c7
  | k + 8, h => simp [zCl] at h
theorem zCl_ty {ci N : Nat} {Cn : String} {T : u_T} (h : zCl[ci]? = some (Cn, T, N)) : ∃ ty : Nat → FieldType, ∀ k, k < N → parseFieldDescriptor (T k).2.2.1 = some (ty k) := by
  match ci, h with
  | 0, h => cases h; exact ⟨tyX6, tyX6_ok⟩
  | 1, h => cases h; exact ⟨tyX0, tyX0_ok⟩
  | 2, h => cases h; exact ⟨tyX1, tyX1_ok⟩
  | 3, h => cases h; exact ⟨tyX2, tyX2_ok⟩
  | 4, h => cases h; exact ⟨tyX3, tyX3_ok⟩
  | 5, h => cases h; exact ⟨tyX4, tyX4_ok⟩
  | 6, h => cases h; exact ⟨tyX5, tyX5_ok⟩
  | 7, h => cases h; exact ⟨tyJx4a65c, tyJx4a65c_ok⟩
  | k + 8, h => simp [zCl] at h
theorem zCl_nm {ci N : Nat} {Cn : String} {T : u_T} (h : zCl[ci]? = some (Cn, T, N)) : ∀ a, a < N → ∀ b, b < N → a ≠ b → (T a).2.1 ≠ (T b).2.1 := by
  match ci, h with
  | 0, h => cases h; exact nmX6
  | 1, h => cases h; exact nmX0
  | 2, h => cases h; exact nmX1
  | 3, h => cases h; exact nmX2
  | 4, h => cases h; exact nmX3
  | 5, h => cases h; exact nmX4
  | 6, h => cases h; exact nmX5
  | 7, h => cases h; exact nmJx4a65c
  | k + 8, h => simp [zCl] at h
abbrev zT (cy : Nat → ClassId) : List (ClassId × FieldType) := [(cy 0, .int), (cy 1, .object "java/lang/Object")]
def lw_nest : List Cond := [Cond.methodLinkNest "QuakeBench" 24 yX5_init "QuakeBench", Cond.methodLinkNest "QuakeBench" 31 yX2_init "QuakeBench", Cond.fieldLinkNest "QuakeBench" 266 "QuakeBench$Row" "total" "I" "QuakeBench", Cond.methodLinkNest "QuakeBench$Search" 69 yX6_isPlace "QuakeBench", Cond.castable "QuakeBench" "java/lang/Object", Cond.castable "QuakeBench$Event" "java/lang/Object", Cond.castable "QuakeBench$Pick" "java/lang/Object", Cond.castable "QuakeBench$Row" "java/lang/Object", Cond.castable "QuakeBench$Search" "java/lang/Object", Cond.castable "QuakeBench$Station" "java/lang/Object", Cond.castable "QuakeBench$Waves" "java/lang/Object", Cond.castable "java/util/ArrayList" "java/lang/Object", Cond.castable "java/lang/IndexOutOfBoundsException" "java/lang/IndexOutOfBoundsException", Cond.castable "java/lang/IllegalArgumentException" "java/lang/IllegalArgumentException", Cond.castable "java/lang/IllegalStateException" "java/lang/IllegalStateException", Cond.declares ⟨"java/lang/RuntimeException", "<init>", "(Ljava/lang/String;)V"⟩, Cond.declares ⟨"java/lang/Exception", "<init>", "(Ljava/lang/String;)V"⟩, Cond.declares ⟨"java/lang/Throwable", "<init>", "(Ljava/lang/String;)V"⟩]
def zis_nest : Cond → Bool
  | .fieldLinkNest .. => true
  | .methodLinkNest .. => true
  | .castable .. => true
  | .declares .. => true
  | _ => false
theorem lw_nest_ok : ∀ w ∈ lw_nest, zis_nest w = true := by decide +kernel
theorem zob_0 : Cond.castable RX6 "java/lang/Object" ∈ lw_nest := by decide +kernel
theorem zob_1 : Cond.castable RX0 "java/lang/Object" ∈ lw_nest := by decide +kernel
theorem zob_2 : Cond.castable RX1 "java/lang/Object" ∈ lw_nest := by decide +kernel
theorem zob_3 : Cond.castable RX2 "java/lang/Object" ∈ lw_nest := by decide +kernel
theorem zob_4 : Cond.castable RX3 "java/lang/Object" ∈ lw_nest := by decide +kernel
theorem zob_5 : Cond.castable RX4 "java/lang/Object" ∈ lw_nest := by decide +kernel
theorem zob_6 : Cond.castable RX5 "java/lang/Object" ∈ lw_nest := by decide +kernel
theorem zob_7 : Cond.castable RJx4a65c "java/lang/Object" ∈ lw_nest := by decide +kernel
theorem zCl_obj {ci N : Nat} {Cn : String} {T : u_T} (h : zCl[ci]? = some (Cn, T, N)) : Cond.castable Cn "java/lang/Object" ∈ lw_nest := by
  match ci, h with
  | 0, h => cases h; exact zob_0
  | 1, h => cases h; exact zob_1
  | 2, h => cases h; exact zob_2
  | 3, h => cases h; exact zob_3
  | 4, h => cases h; exact zob_4
  | 5, h => cases h; exact zob_5
  | 6, h => cases h; exact zob_6
  | 7, h => cases h; exact zob_7
  | k + 8, h => simp [zCl] at h
def lw_strs : List (String × Nat × String) := [("QuakeBench", 318, "no such station"), ("QuakeBench", 126, "time is outside"), ("QuakeBench", 128, "no more picks"), ("QuakeBench", 320, "no such pick"), ("QuakeBench", 139, "weight is outside"), ("QuakeBench", 167, "what is not 0 to 4"), ("QuakeBench", 170, "no more events"), ("QuakeBench", 322, "no such event"), ("QuakeBench", 185, "the event has such a pick"), ("QuakeBench", 221, "picks of too few stations"), ("QuakeBench", 223, "what is not 0 to 5"), ("QuakeBench", 312, "the event is not found"), ("QuakeBench", 310, "no place"), ("QuakeBench", 253, "the pick has no event"), ("QuakeBench", 314, "near is outside"), ("QuakeBench", 316, "soon is outside"), ("QuakeBench", 57, "x or y is outside"), ("QuakeBench", 68, "no more stations")]
