theorem dX4_wayTo_0 : decode cX4_wayTo 0 = .ok (.ldc2_w 19, 3) := by decide +kernel
theorem dX4_wayTo_3 : decode cX4_wayTo 3 = .ok (.iload_n 1, 1) := by decide +kernel
theorem dX4_wayTo_4 : decode cX4_wayTo 4 = .ok (.aload_n 0, 1) := by decide +kernel
theorem dX4_wayTo_5 : decode cX4_wayTo 5 = .ok (.getfield 13, 3) := by decide +kernel
theorem dX4_wayTo_8 : decode cX4_wayTo 8 = .ok (.if_icmp .ge 12, 3) := by decide +kernel
theorem dX4_wayTo_11 : decode cX4_wayTo 11 = .ok (.aload_n 0, 1) := by decide +kernel
theorem dX4_wayTo_12 : decode cX4_wayTo 12 = .ok (.getfield 13, 3) := by decide +kernel
theorem dX4_wayTo_15 : decode cX4_wayTo 15 = .ok (.iload_n 1, 1) := by decide +kernel
theorem dX4_wayTo_16 : decode cX4_wayTo 16 = .ok (.isub, 1) := by decide +kernel
theorem dX4_wayTo_17 : decode cX4_wayTo 17 = .ok (.goto 9, 3) := by decide +kernel
theorem dX4_wayTo_20 : decode cX4_wayTo 20 = .ok (.iload_n 1, 1) := by decide +kernel
theorem dX4_wayTo_21 : decode cX4_wayTo 21 = .ok (.aload_n 0, 1) := by decide +kernel
theorem dX4_wayTo_22 : decode cX4_wayTo 22 = .ok (.getfield 13, 3) := by decide +kernel
theorem dX4_wayTo_25 : decode cX4_wayTo 25 = .ok (.isub, 1) := by decide +kernel
theorem dX4_wayTo_26 : decode cX4_wayTo 26 = .ok (.i2l, 1) := by decide +kernel
theorem dX4_wayTo_27 : decode cX4_wayTo 27 = .ok (.lmul, 1) := by decide +kernel
theorem dX4_wayTo_28 : decode cX4_wayTo 28 = .ok (.lstore 4, 2) := by decide +kernel
theorem dX4_wayTo_30 : decode cX4_wayTo 30 = .ok (.ldc2_w 19, 3) := by decide +kernel
theorem dX4_wayTo_33 : decode cX4_wayTo 33 = .ok (.iload_n 2, 1) := by decide +kernel
theorem dX4_wayTo_34 : decode cX4_wayTo 34 = .ok (.aload_n 0, 1) := by decide +kernel
theorem dX4_wayTo_35 : decode cX4_wayTo 35 = .ok (.getfield 16, 3) := by decide +kernel
theorem dX4_wayTo_38 : decode cX4_wayTo 38 = .ok (.if_icmp .ge 12, 3) := by decide +kernel
theorem dX4_wayTo_41 : decode cX4_wayTo 41 = .ok (.aload_n 0, 1) := by decide +kernel
theorem dX4_wayTo_42 : decode cX4_wayTo 42 = .ok (.getfield 16, 3) := by decide +kernel
theorem dX4_wayTo_45 : decode cX4_wayTo 45 = .ok (.iload_n 2, 1) := by decide +kernel
theorem dX4_wayTo_46 : decode cX4_wayTo 46 = .ok (.isub, 1) := by decide +kernel
theorem dX4_wayTo_47 : decode cX4_wayTo 47 = .ok (.goto 9, 3) := by decide +kernel
theorem dX4_wayTo_50 : decode cX4_wayTo 50 = .ok (.iload_n 2, 1) := by decide +kernel
theorem dX4_wayTo_51 : decode cX4_wayTo 51 = .ok (.aload_n 0, 1) := by decide +kernel
theorem dX4_wayTo_52 : decode cX4_wayTo 52 = .ok (.getfield 16, 3) := by decide +kernel
theorem dX4_wayTo_55 : decode cX4_wayTo 55 = .ok (.isub, 1) := by decide +kernel
theorem dX4_wayTo_56 : decode cX4_wayTo 56 = .ok (.i2l, 1) := by decide +kernel
theorem dX4_wayTo_57 : decode cX4_wayTo 57 = .ok (.lmul, 1) := by decide +kernel
theorem dX4_wayTo_58 : decode cX4_wayTo 58 = .ok (.lstore 6, 2) := by decide +kernel
theorem dX4_wayTo_60 : decode cX4_wayTo 60 = .ok (.ldc2_w 19, 3) := by decide +kernel
theorem dX4_wayTo_63 : decode cX4_wayTo 63 = .ok (.iload_n 3, 1) := by decide +kernel
theorem dX4_wayTo_64 : decode cX4_wayTo 64 = .ok (.i2l, 1) := by decide +kernel
theorem dX4_wayTo_65 : decode cX4_wayTo 65 = .ok (.lmul, 1) := by decide +kernel
theorem dX4_wayTo_66 : decode cX4_wayTo 66 = .ok (.lstore 8, 2) := by decide +kernel
theorem dX4_wayTo_68 : decode cX4_wayTo 68 = .ok (.lload 4, 2) := by decide +kernel
theorem dX4_wayTo_70 : decode cX4_wayTo 70 = .ok (.lload 4, 2) := by decide +kernel
theorem dX4_wayTo_72 : decode cX4_wayTo 72 = .ok (.lmul, 1) := by decide +kernel
theorem dX4_wayTo_73 : decode cX4_wayTo 73 = .ok (.lload 6, 2) := by decide +kernel
theorem dX4_wayTo_75 : decode cX4_wayTo 75 = .ok (.lload 6, 2) := by decide +kernel
theorem dX4_wayTo_77 : decode cX4_wayTo 77 = .ok (.lmul, 1) := by decide +kernel
theorem dX4_wayTo_78 : decode cX4_wayTo 78 = .ok (.ladd, 1) := by decide +kernel
theorem dX4_wayTo_79 : decode cX4_wayTo 79 = .ok (.lload 8, 2) := by decide +kernel
theorem dX4_wayTo_81 : decode cX4_wayTo 81 = .ok (.lload 8, 2) := by decide +kernel
theorem dX4_wayTo_83 : decode cX4_wayTo 83 = .ok (.lmul, 1) := by decide +kernel
theorem dX4_wayTo_84 : decode cX4_wayTo 84 = .ok (.ladd, 1) := by decide +kernel
theorem dX4_wayTo_85 : decode cX4_wayTo 85 = .ok (.lstore 10, 2) := by decide +kernel
theorem dX4_wayTo_87 : decode cX4_wayTo 87 = .ok (.lload 4, 2) := by decide +kernel
theorem dX4_wayTo_89 : decode cX4_wayTo 89 = .ok (.lload 6, 2) := by decide +kernel
theorem dX4_wayTo_91 : decode cX4_wayTo 91 = .ok (.ladd, 1) := by decide +kernel
theorem dX4_wayTo_92 : decode cX4_wayTo 92 = .ok (.lload 8, 2) := by decide +kernel
theorem dX4_wayTo_94 : decode cX4_wayTo 94 = .ok (.ladd, 1) := by decide +kernel
theorem dX4_wayTo_95 : decode cX4_wayTo 95 = .ok (.lstore 12, 2) := by decide +kernel
theorem dX4_wayTo_97 : decode cX4_wayTo 97 = .ok (.iconst 0, 1) := by decide +kernel
theorem dX4_wayTo_98 : decode cX4_wayTo 98 = .ok (.istore 14, 2) := by decide +kernel
theorem dX4_wayTo_100 : decode cX4_wayTo 100 = .ok (.iload 14, 2) := by decide +kernel
theorem dX4_wayTo_102 : decode cX4_wayTo 102 = .ok (.bipush 64, 2) := by decide +kernel
theorem dX4_wayTo_104 : decode cX4_wayTo 104 = .ok (.if_icmp .ge 45, 3) := by decide +kernel
theorem dX4_wayTo_107 : decode cX4_wayTo 107 = .ok (.lload 12, 2) := by decide +kernel
theorem dX4_wayTo_109 : decode cX4_wayTo 109 = .ok (.lconst 0, 1) := by decide +kernel
theorem dX4_wayTo_110 : decode cX4_wayTo 110 = .ok (.lcmp, 1) := by decide +kernel
theorem dX4_wayTo_111 : decode cX4_wayTo 111 = .ok (.ifCond .le 38, 3) := by decide +kernel
theorem dX4_wayTo_114 : decode cX4_wayTo 114 = .ok (.lload 12, 2) := by decide +kernel
theorem dX4_wayTo_116 : decode cX4_wayTo 116 = .ok (.lload 10, 2) := by decide +kernel
theorem dX4_wayTo_118 : decode cX4_wayTo 118 = .ok (.lload 12, 2) := by decide +kernel
theorem dX4_wayTo_120 : decode cX4_wayTo 120 = .ok (.ldiv, 1) := by decide +kernel
theorem dX4_wayTo_121 : decode cX4_wayTo 121 = .ok (.ladd, 1) := by decide +kernel
theorem dX4_wayTo_122 : decode cX4_wayTo 122 = .ok (.ldc2_w 21, 3) := by decide +kernel
theorem dX4_wayTo_125 : decode cX4_wayTo 125 = .ok (.ldiv, 1) := by decide +kernel
theorem dX4_wayTo_126 : decode cX4_wayTo 126 = .ok (.lstore 15, 2) := by decide +kernel
theorem dX4_wayTo_128 : decode cX4_wayTo 128 = .ok (.lload 15, 2) := by decide +kernel
theorem dX4_wayTo_130 : decode cX4_wayTo 130 = .ok (.lload 12, 2) := by decide +kernel
theorem dX4_wayTo_132 : decode cX4_wayTo 132 = .ok (.lcmp, 1) := by decide +kernel
theorem dX4_wayTo_133 : decode cX4_wayTo 133 = .ok (.ifCond .lt 6, 3) := by decide +kernel
theorem dX4_wayTo_136 : decode cX4_wayTo 136 = .ok (.goto 13, 3) := by decide +kernel
theorem dX4_wayTo_139 : decode cX4_wayTo 139 = .ok (.lload 15, 2) := by decide +kernel
theorem dX4_wayTo_141 : decode cX4_wayTo 141 = .ok (.lstore 12, 2) := by decide +kernel
theorem dX4_wayTo_143 : decode cX4_wayTo 143 = .ok (.iinc 14 1, 3) := by decide +kernel
theorem dX4_wayTo_146 : decode cX4_wayTo 146 = .ok (.goto (-46), 3) := by decide +kernel
theorem dX4_wayTo_149 : decode cX4_wayTo 149 = .ok (.lload 12, 2) := by decide +kernel
theorem dX4_wayTo_151 : decode cX4_wayTo 151 = .ok (.l2i, 1) := by decide +kernel
theorem dX4_wayTo_152 : decode cX4_wayTo 152 = .ok (.ireturn, 1) := by decide +kernel
theorem kw_550 : Cond.constantLong "QuakeBench$Station" 21 2 ∈ lw_all := zin1 550 (by decide +kernel)
theorem kw_549 : Cond.constantLong "QuakeBench$Station" 19 1000 ∈ lw_all := zin1 549 (by decide +kernel)
theorem kw_755 : Cond.fieldLink "QuakeBench$Station" 16 "QuakeBench$Station" "y" "I" ∈ lw_all := zin1 755 (by decide +kernel)
theorem kw_753 : Cond.fieldLink "QuakeBench$Station" 13 "QuakeBench$Station" "x" "I" ∈ lw_all := zin1 753 (by decide +kernel)
theorem dX5_travel_0 : decode cX5_travel 0 = .ok (.iload 5, 2) := by decide +kernel
theorem dX5_travel_2 : decode cX5_travel 2 = .ok (.ifCond .eq 10, 3) := by decide +kernel
theorem dX5_travel_5 : decode cX5_travel 5 = .ok (.aload_n 0, 1) := by decide +kernel
theorem dX5_travel_6 : decode cX5_travel 6 = .ok (.getfield 15, 3) := by decide +kernel
theorem dX5_travel_9 : decode cX5_travel 9 = .ok (.goto 7, 3) := by decide +kernel
theorem dX5_travel_12 : decode cX5_travel 12 = .ok (.aload_n 0, 1) := by decide +kernel
theorem dX5_travel_13 : decode cX5_travel 13 = .ok (.getfield 9, 3) := by decide +kernel
theorem dX5_travel_16 : decode cX5_travel 16 = .ok (.istore 6, 2) := by decide +kernel
theorem dX5_travel_18 : decode cX5_travel 18 = .ok (.iload 6, 2) := by decide +kernel
theorem dX5_travel_20 : decode cX5_travel 20 = .ok (.ifCond .le 26, 3) := by decide +kernel
theorem dX5_travel_23 : decode cX5_travel 23 = .ok (.aload_n 1, 1) := by decide +kernel
theorem dX5_travel_24 : decode cX5_travel 24 = .ok (.iload_n 2, 1) := by decide +kernel
theorem dX5_travel_25 : decode cX5_travel 25 = .ok (.iload_n 3, 1) := by decide +kernel
theorem dX5_travel_26 : decode cX5_travel 26 = .ok (.iload 4, 2) := by decide +kernel
theorem dX5_travel_28 : decode cX5_travel 28 = .ok (.invokevirtual 18, 3) := by decide +kernel
theorem dX5_travel_31 : decode cX5_travel 31 = .ok (.sipush 1000, 3) := by decide +kernel
theorem dX5_travel_34 : decode cX5_travel 34 = .ok (.imul, 1) := by decide +kernel
theorem dX5_travel_35 : decode cX5_travel 35 = .ok (.iload 6, 2) := by decide +kernel
theorem dX5_travel_37 : decode cX5_travel 37 = .ok (.idiv, 1) := by decide +kernel
theorem dX5_travel_38 : decode cX5_travel 38 = .ok (.aload_n 1, 1) := by decide +kernel
theorem dX5_travel_39 : decode cX5_travel 39 = .ok (.getfield 24, 3) := by decide +kernel
theorem dX5_travel_42 : decode cX5_travel 42 = .ok (.iadd, 1) := by decide +kernel
theorem dX5_travel_43 : decode cX5_travel 43 = .ok (.goto 7, 3) := by decide +kernel
theorem dX5_travel_46 : decode cX5_travel 46 = .ok (.aload_n 1, 1) := by decide +kernel
theorem dX5_travel_47 : decode cX5_travel 47 = .ok (.getfield 24, 3) := by decide +kernel
theorem dX5_travel_50 : decode cX5_travel 50 = .ok (.ireturn, 1) := by decide +kernel
theorem kw_757 : Cond.fieldLink "QuakeBench$Waves" 24 "QuakeBench$Station" "delay" "I" ∈ lw_all := zin1 757 (by decide +kernel)
theorem ky_X4_wayTo : yX4_wayTo.cls ≠ "java/lang/invoke/MethodHandle" ∧ yX4_wayTo.cls ≠ "java/lang/invoke/VarHandle" ∧ (parseMethodDescriptor yX4_wayTo.desc).map (fun d => d.parameters.length) = some 3 := by decide +kernel
theorem kc_X5_travel_28 : ∀ w ∈ ([Cond.methodLink "QuakeBench$Waves" 18 yX4_wayTo, Cond.instanceMethod yX4_wayTo, Cond.selects "QuakeBench$Station" yX4_wayTo yX4_wayTo, Cond.initialized "QuakeBench$Station", Cond.code yX4_wayTo prog_6_method_2_code 17 (Option.some Jvm.ClassFile.FieldType.int)] : List Cond), w ∈ lw_all := zin [545, 546, 547, 36, 548] (by decide +kernel)
theorem kw_88 : Cond.fieldLink "QuakeBench$Waves" 9 "QuakeBench$Waves" "speedOfP" "I" ∈ lw_all := zin1 88 (by decide +kernel)
theorem kw_89 : Cond.fieldLink "QuakeBench$Waves" 15 "QuakeBench$Waves" "speedOfS" "I" ∈ lw_all := zin1 89 (by decide +kernel)
theorem dX5_lateness_0 : decode cX5_lateness 0 = .ok (.aload_n 1, 1) := by decide +kernel
theorem dX5_lateness_1 : decode cX5_lateness 1 = .ok (.getfield 27, 3) := by decide +kernel
theorem dX5_lateness_4 : decode cX5_lateness 4 = .ok (.aload_n 0, 1) := by decide +kernel
theorem dX5_lateness_5 : decode cX5_lateness 5 = .ok (.aload_n 1, 1) := by decide +kernel
theorem dX5_lateness_6 : decode cX5_lateness 6 = .ok (.getfield 32, 3) := by decide +kernel
theorem dX5_lateness_9 : decode cX5_lateness 9 = .ok (.aload_n 2, 1) := by decide +kernel
theorem dX5_lateness_10 : decode cX5_lateness 10 = .ok (.getfield 36, 3) := by decide +kernel
theorem dX5_lateness_13 : decode cX5_lateness 13 = .ok (.aload_n 2, 1) := by decide +kernel
theorem dX5_lateness_14 : decode cX5_lateness 14 = .ok (.getfield 41, 3) := by decide +kernel
theorem dX5_lateness_17 : decode cX5_lateness 17 = .ok (.aload_n 2, 1) := by decide +kernel
theorem dX5_lateness_18 : decode cX5_lateness 18 = .ok (.getfield 44, 3) := by decide +kernel
theorem dX5_lateness_21 : decode cX5_lateness 21 = .ok (.aload_n 1, 1) := by decide +kernel
theorem dX5_lateness_22 : decode cX5_lateness 22 = .ok (.getfield 47, 3) := by decide +kernel
theorem dX5_lateness_25 : decode cX5_lateness 25 = .ok (.invokevirtual 51, 3) := by decide +kernel
theorem dX5_lateness_28 : decode cX5_lateness 28 = .ok (.isub, 1) := by decide +kernel
theorem dX5_lateness_29 : decode cX5_lateness 29 = .ok (.aload_n 2, 1) := by decide +kernel
theorem dX5_lateness_30 : decode cX5_lateness 30 = .ok (.getfield 55, 3) := by decide +kernel
theorem dX5_lateness_33 : decode cX5_lateness 33 = .ok (.isub, 1) := by decide +kernel
theorem dX5_lateness_34 : decode cX5_lateness 34 = .ok (.ireturn, 1) := by decide +kernel
theorem kw_319 : Cond.fieldLink "QuakeBench$Waves" 27 "QuakeBench$Pick" "time" "I" ∈ lw_all := zin1 319 (by decide +kernel)
theorem kw_309 : Cond.fieldLink "QuakeBench$Waves" 32 "QuakeBench$Pick" "station" "LQuakeBench$Station;" ∈ lw_all := zin1 309 (by decide +kernel)
theorem kw_445 : Cond.fieldLink "QuakeBench$Waves" 36 "QuakeBench$Event" "x" "I" ∈ lw_all := zin1 445 (by decide +kernel)
theorem kw_449 : Cond.fieldLink "QuakeBench$Waves" 41 "QuakeBench$Event" "y" "I" ∈ lw_all := zin1 449 (by decide +kernel)
theorem kw_453 : Cond.fieldLink "QuakeBench$Waves" 44 "QuakeBench$Event" "z" "I" ∈ lw_all := zin1 453 (by decide +kernel)
theorem kw_314 : Cond.fieldLink "QuakeBench$Waves" 47 "QuakeBench$Pick" "isS" "Z" ∈ lw_all := zin1 314 (by decide +kernel)
theorem ky_X5_travel : yX5_travel.cls ≠ "java/lang/invoke/MethodHandle" ∧ yX5_travel.cls ≠ "java/lang/invoke/VarHandle" ∧ (parseMethodDescriptor yX5_travel.desc).map (fun d => d.parameters.length) = some 5 := by decide +kernel
theorem kc_X5_lateness_25 : ∀ w ∈ ([Cond.methodLink "QuakeBench$Waves" 51 yX5_travel, Cond.instanceMethod yX5_travel, Cond.selects "QuakeBench$Waves" yX5_travel yX5_travel, Cond.initialized "QuakeBench$Waves", Cond.code yX5_travel prog_7_method_2_code 7 (Option.some Jvm.ClassFile.FieldType.int)] : List Cond), w ∈ lw_all := zin [541, 542, 543, 28, 544] (by decide +kernel)
theorem kw_457 : Cond.fieldLink "QuakeBench$Waves" 55 "QuakeBench$Event" "time" "I" ∈ lw_all := zin1 457 (by decide +kernel)
/-! leaves: what an object holds; Station, Waves, bearings, digits, places, relations -/
abbrev oQB (s p e w r q lo co : Nat) : va_E := .inr (0, [.ref s, .ref p, .ref e, .ref w, .ref r, .ref q, .ref lo, .ref co])
abbrev oEv (n : Int32) (ml : Nat) (fo x y z t lb : Int32) : va_E := .inr (1, [.int n, .ref ml, .int fo, .int x, .int y, .int z, .int t, .int lb])
abbrev oPk (n : Int32) (st : Nat) (iS t w am : Int32) (ev : Option Nat) : va_E := .inr (2, [.int n, .ref st, .int iS, .int t, .int w, .int am, va_rf ev])
abbrev oRow (na wa : Nat) (sz tot : Int32) : va_E := .inr (3, [.ref na, .ref wa, .int sz, .int tot])
abbrev oSea (wv ro : Nat) (hb bx by' bz bb : Int32) (lm : Int64) : va_E := .inr (4, [.ref wv, .ref ro, .int hb, .int bx, .int by', .int bz, .int bb, .long lm])
abbrev oSta (n x y d : Int32) : va_E := .inr (5, [.int n, .int x, .int y, .int d])
abbrev oWav (p s : Int32) : va_E := .inr (6, [.int p, .int s])
abbrev oAL (mc : Int32) (arr : Nat) (sz : Int32) : va_E := .inr (7, [.int mc, .ref arr, .int sz])
/-- a method that reads alone -/
abbrev zRd (G : zG) (r : Value) : Option Value → zG → Prop := fun v G' => some r = v ∧ G = G'
theorem i_nlt {a b : Int32} (h : a ≤ b) : ¬ b < a := fun q => by
  rw [Int32.le_iff_toInt_le] at h
  rw [Int32.lt_iff_toInt_lt] at q
  omega
theorem i_lt {a b : Int32} (h : ¬ a ≤ b) : b < a := by
  rw [Int32.le_iff_toInt_le] at h
  rw [Int32.lt_iff_toInt_lt]
  omega
theorem i_le {a b : Int32} (h : ¬ b < a) : a ≤ b := by
  rw [Int32.lt_iff_toInt_lt] at h
  rw [Int32.le_iff_toInt_le]
  omega
def s_newton : Nat → Int64 → Int64 → Int64
  | 0, _, r => r
  | n + 1, sq, r => if 0 < r then (if (r + sq / r) / 2 < r then s_newton n sq ((r + sq / r) / 2) else r) else r
def s_off (x sx : Int32) : Int32 := if sx ≤ x then x - sx else sx - x
def s_side (x sx : Int32) : Int64 := 1000 * (s_off x sx).toInt64
def s_way3 (a b c : Int64) : Int32 := (s_newton 64 (a * a + b * b + c * c) (a + b + c)).toInt32
def s_way (sx sy x y z : Int32) : Int32 := s_way3 (s_side x sx) (s_side y sy) (1000 * z.toInt64)
def s_trav (sp ss sx sy d x y z iS : Int32) : Int32 :=
  let v := if iS = 0 then sp else ss
  if v ≤ 0 then d else s_way sx sy x y z * 1000 / v + d
abbrev rm_c_wayTo : Room := { frames := 1, cells := 0, slots := 0, locals := 40 }
set_option maxHeartbeats 4000000 in
set_option maxRecDepth 100000 in
theorem c_wayTo (l : Launch) (Γ : zY) (G : zG) (b : Nat) (n sx sy d x y z : Int32) (hs : G b = some (oSta n sx sy d)) : ZM l yX4_wayTo cX4_wayTo 17 (some FieldType.int) rm_c_wayTo Γ [.ref b, .int x, .int y, .int z] G (zRd G (.int (s_way sx sy x y z))) := by
  refine z_start (by decide +kernel) [some (.ref b), some (.int x), some (.int y), some (.int z), none, none, none, none, none, none, none, none, none, none, none, none, none] rfl (Nat.le_of_ble_eq_true rfl) ?_
  intro p e s m args below meth c Q A C F hr hnm
  obtain ⟨a4, e4⟩ : ∃ v, v = s_side x sx := ⟨_, rfl⟩
  obtain ⟨a6, e6⟩ : ∃ v, v = s_side y sy := ⟨_, rfl⟩
  obtain ⟨a8, e8⟩ : ∃ v, v = 1000 * z.toInt64 := ⟨_, rfl⟩
  obtain ⟨sq, eq⟩ : ∃ v, v = a4 * a4 + a6 * a6 + a8 * a8 := ⟨_, rfl⟩
  have loop : ∀ (f j : Nat) (r : Int64) (w : Option Value), j + f = 64 → s_way sx sy x y z = (s_newton f sq r).toInt32 → Z p l e rm_c_wayTo s m args below meth c Q 17 Γ A G 0 0 100 [some (.ref b), some (.int x), some (.int y), some (.int z), some (.long a4), none, some (.long a6), none, some (.long a8), none, some (.long sq), none, some (.long r), none, some (.int (nI j)), w, none] [] := by
    intro f
    induction f with
    | zero =>
      intro j r w hj hr2
      have ej : j = 64 := by omega
      subst ej
      refine z_iload C dX4_wayTo_100 rfl ?_
      refine z_bipush (v := 64) C dX4_wayTo_102 rfl ?_
      refine z_icmp_ge (tgt := 149) C dX4_wayTo_104 (by decide) (fun h104 => ?_) (fun h104 => ?_)
      · refine z_lload C dX4_wayTo_149 rfl ?_
        refine z_l2i C dX4_wayTo_151 ?_
        exact z_iret C F hr (Nat.le_of_ble_eq_true rfl) (Nat.le_of_ble_eq_true rfl) ⟨by rw [hr2]; rfl, rfl⟩ dX4_wayTo_152
      · exact absurd (by decide) h104
    | succ f ih =>
      intro j r w hj hr2
      refine z_iload C dX4_wayTo_100 rfl ?_
      refine z_bipush (v := 64) C dX4_wayTo_102 rfl ?_
      refine z_icmp_ge (tgt := 149) C dX4_wayTo_104 (by decide) (fun h104 => ?_) (fun h104 => ?_)
      · exact absurd h104 (nI_ge (b := 64) (by omega) (by decide))
      · refine z_lload C dX4_wayTo_107 rfl ?_
        refine z_lconst (v := 0) C dX4_wayTo_109 rfl ?_
        refine z_lcmp C dX4_wayTo_110 ?_
        refine z_if_le (tgt := 149) C dX4_wayTo_111 (by decide) (fun h111 => ?_) (fun h111 => ?_)
        · have h0 : ¬ 0 < r := fun q => by
            have := (lg_cmp_le r 0).mp h111
            rw [Int64.lt_iff_toInt_lt] at q
            rw [Int64.le_iff_toInt_le] at this
            omega
          refine z_lload C dX4_wayTo_149 rfl ?_
          refine z_l2i C dX4_wayTo_151 ?_
          exact z_iret C F hr (Nat.le_of_ble_eq_true rfl) (Nat.le_of_ble_eq_true rfl) ⟨by rw [hr2, s_newton, if_neg h0], rfl⟩ dX4_wayTo_152
        · have h0 : 0 < r := by
            rcases Int64.lt_or_le 0 r with q | q
            · exact q
            · exact absurd ((lg_cmp_le r 0).mpr q) h111
          refine z_lload C dX4_wayTo_114 rfl ?_
          refine z_lload C dX4_wayTo_116 rfl ?_
          refine z_lload C dX4_wayTo_118 rfl ?_
          refine z_ldiv C (fun q => by rw [q] at h0; exact absurd h0 (by decide)) dX4_wayTo_120 ?_
          refine z_ladd C dX4_wayTo_121 ?_
          refine z_ldc2 C kw_550 dX4_wayTo_122 ?_
          refine z_ldiv C (by decide) dX4_wayTo_125 ?_
          refine z_lstore C dX4_wayTo_126 (by decide) ?_
          refine z_lload C dX4_wayTo_128 rfl ?_
          refine z_lload C dX4_wayTo_130 rfl ?_
          refine z_lcmp C dX4_wayTo_132 ?_
          refine z_if_lt (tgt := 139) C dX4_wayTo_133 (by decide) (fun h133 => ?_) (fun h133 => ?_)
          · have h1 := (lg_cmp_lt _ _).mp h133
            refine z_lload C dX4_wayTo_139 rfl ?_
            refine z_lstore C dX4_wayTo_141 (by decide) ?_
            refine z_iinc (w := 1) C dX4_wayTo_143 rfl rfl (by decide) ?_
            refine z_goto (tgt := 100) C dX4_wayTo_146 (by decide) ?_
            rw [← nI_succ]
            refine ih (j + 1) _ _ (by omega) ?_
            rw [hr2, s_newton, if_pos h0, if_pos h1]
          · have h1 : ¬ (r + sq / r) / 2 < r := fun q => h133 ((lg_cmp_lt _ _).mpr q)
            refine z_goto (tgt := 149) C dX4_wayTo_136 (by decide) ?_
            refine z_lload C dX4_wayTo_149 rfl ?_
            refine z_l2i C dX4_wayTo_151 ?_
            exact z_iret C F hr (Nat.le_of_ble_eq_true rfl) (Nat.le_of_ble_eq_true rfl) ⟨by rw [hr2, s_newton, if_pos h0, if_neg h1], rfl⟩ dX4_wayTo_152
  have t2 : ∀ vy : Int32, s_off y sy = vy → Z p l e rm_c_wayTo s m args below meth c Q 17 Γ A G 0 0 56 [some (.ref b), some (.int x), some (.int y), some (.int z), some (.long a4), none, none, none, none, none, none, none, none, none, none, none, none] [.int vy, .long 1000] := by
    intro vy hv
    have e6' : a6 = 1000 * vy.toInt64 := by rw [e6, s_side, hv]
    refine z_i2l C dX4_wayTo_56 ?_
    refine z_lmul C dX4_wayTo_57 ?_
    refine z_lstore C dX4_wayTo_58 (by decide) ?_
    refine z_ldc2 C kw_549 dX4_wayTo_60 ?_
    refine z_iload_n C dX4_wayTo_63 rfl ?_
    refine z_i2l C dX4_wayTo_64 ?_
    refine z_lmul C dX4_wayTo_65 ?_
    refine z_lstore C dX4_wayTo_66 (by decide) ?_
    refine z_lload C dX4_wayTo_68 rfl ?_
    refine z_lload C dX4_wayTo_70 rfl ?_
    refine z_lmul C dX4_wayTo_72 ?_
    refine z_lload C dX4_wayTo_73 rfl ?_
    refine z_lload C dX4_wayTo_75 rfl ?_
    refine z_lmul C dX4_wayTo_77 ?_
    refine z_ladd C dX4_wayTo_78 ?_
    refine z_lload C dX4_wayTo_79 rfl ?_
    refine z_lload C dX4_wayTo_81 rfl ?_
    refine z_lmul C dX4_wayTo_83 ?_
    refine z_ladd C dX4_wayTo_84 ?_
    refine z_lstore C dX4_wayTo_85 (by decide) ?_
    refine z_lload C dX4_wayTo_87 rfl ?_
    refine z_lload C dX4_wayTo_89 rfl ?_
    refine z_ladd C dX4_wayTo_91 ?_
    refine z_lload C dX4_wayTo_92 rfl ?_
    refine z_ladd C dX4_wayTo_94 ?_
    refine z_lstore C dX4_wayTo_95 (by decide) ?_
    refine z_iconst (v := 0) C dX4_wayTo_97 rfl ?_
    refine z_istore C dX4_wayTo_98 (by decide) ?_
    have fin := loop 64 0 (a4 + a6 + a8) none rfl (by rw [eq, e4, e6, e8]; rfl)
    rw [eq, e6', e8] at fin
    exact fin
  have t1 : ∀ vx : Int32, s_off x sx = vx → Z p l e rm_c_wayTo s m args below meth c Q 17 Γ A G 0 0 26 [some (.ref b), some (.int x), some (.int y), some (.int z), none, none, none, none, none, none, none, none, none, none, none, none, none] [.int vx, .long 1000] := by
    intro vx hv
    have e4' : a4 = 1000 * vx.toInt64 := by rw [e4, s_side, hv]
    rw [e4'] at t2
    refine z_i2l C dX4_wayTo_26 ?_
    refine z_lmul C dX4_wayTo_27 ?_
    refine z_lstore C dX4_wayTo_28 (by decide) ?_
    refine z_ldc2 C kw_549 dX4_wayTo_30 ?_
    refine z_iload_n C dX4_wayTo_33 rfl ?_
    first | refine z_rload_n C dX4_wayTo_34 rfl ?_ | refine z_nload_n C dX4_wayTo_34 rfl ?_ | refine z_aload_n C dX4_wayTo_34 rfl ?_
    refine z_getf (T := TX4) (N := 4) C (by first | assumption | exact zU_same _ _ _) rfl 2 (by decide) kw_755 (Or.inl rfl) rfl dX4_wayTo_35 ?_
    refine z_icmp_ge (tgt := 50) C dX4_wayTo_38 (by decide) (fun h38 => ?_) (fun h38 => ?_)
    · refine z_iload_n C dX4_wayTo_50 rfl ?_
      first | refine z_rload_n C dX4_wayTo_51 rfl ?_ | refine z_nload_n C dX4_wayTo_51 rfl ?_ | refine z_aload_n C dX4_wayTo_51 rfl ?_
      refine z_getf (T := TX4) (N := 4) C (by first | assumption | exact zU_same _ _ _) rfl 2 (by decide) kw_755 (Or.inl rfl) rfl dX4_wayTo_52 ?_
      refine z_isub C dX4_wayTo_55 ?_
      exact t2 _ (by rw [s_off, if_pos h38])
    · first | refine z_rload_n C dX4_wayTo_41 rfl ?_ | refine z_nload_n C dX4_wayTo_41 rfl ?_ | refine z_aload_n C dX4_wayTo_41 rfl ?_
      refine z_getf (T := TX4) (N := 4) C (by first | assumption | exact zU_same _ _ _) rfl 2 (by decide) kw_755 (Or.inl rfl) rfl dX4_wayTo_42 ?_
      refine z_iload_n C dX4_wayTo_45 rfl ?_
      refine z_isub C dX4_wayTo_46 ?_
      refine z_goto (tgt := 56) C dX4_wayTo_47 (by decide) ?_
      exact t2 _ (by rw [s_off, if_neg h38])
  refine z_ldc2 C kw_549 dX4_wayTo_0 ?_
  refine z_iload_n C dX4_wayTo_3 rfl ?_
  first | refine z_rload_n C dX4_wayTo_4 rfl ?_ | refine z_nload_n C dX4_wayTo_4 rfl ?_ | refine z_aload_n C dX4_wayTo_4 rfl ?_
  refine z_getf (T := TX4) (N := 4) C (by first | assumption | exact zU_same _ _ _) rfl 1 (by decide) kw_753 (Or.inl rfl) rfl dX4_wayTo_5 ?_
  refine z_icmp_ge (tgt := 20) C dX4_wayTo_8 (by decide) (fun h8 => ?_) (fun h8 => ?_)
  · refine z_iload_n C dX4_wayTo_20 rfl ?_
    first | refine z_rload_n C dX4_wayTo_21 rfl ?_ | refine z_nload_n C dX4_wayTo_21 rfl ?_ | refine z_aload_n C dX4_wayTo_21 rfl ?_
    refine z_getf (T := TX4) (N := 4) C (by first | assumption | exact zU_same _ _ _) rfl 1 (by decide) kw_753 (Or.inl rfl) rfl dX4_wayTo_22 ?_
    refine z_isub C dX4_wayTo_25 ?_
    exact t1 _ (by rw [s_off, if_pos h8])
  · first | refine z_rload_n C dX4_wayTo_11 rfl ?_ | refine z_nload_n C dX4_wayTo_11 rfl ?_ | refine z_aload_n C dX4_wayTo_11 rfl ?_
    refine z_getf (T := TX4) (N := 4) C (by first | assumption | exact zU_same _ _ _) rfl 1 (by decide) kw_753 (Or.inl rfl) rfl dX4_wayTo_12 ?_
    refine z_iload_n C dX4_wayTo_15 rfl ?_
    refine z_isub C dX4_wayTo_16 ?_
    refine z_goto (tgt := 26) C dX4_wayTo_17 (by decide) ?_
    exact t1 _ (by rw [s_off, if_neg h8])
abbrev rm_c_travel : Room := { frames := 2, cells := 0, slots := 0, locals := 76 }
set_option maxHeartbeats 4000000 in
set_option maxRecDepth 100000 in
theorem c_travel (l : Launch) (Γ : zY) (G : zG) (w b : Nat) (sp ss n sx sy d x y z iS : Int32) (hw : G w = some (oWav sp ss)) (hs : G b = some (oSta n sx sy d)) : ZM l yX5_travel cX5_travel 7 (some FieldType.int) rm_c_travel Γ [.ref w, .ref b, .int x, .int y, .int z, .int iS] G (zRd G (.int (s_trav sp ss sx sy d x y z iS))) := by
  refine z_start (by decide +kernel) [some (.ref w), some (.ref b), some (.int x), some (.int y), some (.int z), some (.int iS), none] rfl (Nat.le_of_ble_eq_true rfl) ?_
  intro p e s m args below meth c Q A C F hr hnm
  have tail : ∀ v : Int32, (if iS = 0 then sp else ss) = v → Z p l e rm_c_travel s m args below meth c Q 7 Γ A G 0 0 16 [some (.ref w), some (.ref b), some (.int x), some (.int y), some (.int z), some (.int iS), none] [.int v] := by
    intro v hv
    refine z_istore C dX5_travel_16 (by decide) ?_
    refine z_iload C dX5_travel_18 rfl ?_
    refine z_if_le (tgt := 46) C dX5_travel_20 (by decide) (fun h20 => ?_) (fun h20 => ?_)
    · first | refine z_rload_n C dX5_travel_46 rfl ?_ | refine z_nload_n C dX5_travel_46 rfl ?_ | refine z_aload_n C dX5_travel_46 rfl ?_
      refine z_getf (T := TX4) (N := 4) C (by first | assumption | exact zU_same _ _ _) rfl 3 (by decide) kw_757 (Or.inl rfl) rfl dX5_travel_47 ?_
      exact z_iret C F hr (Nat.le_of_ble_eq_true rfl) (Nat.le_of_ble_eq_true rfl) ⟨by simp only [s_trav, hv, if_pos h20], rfl⟩ dX5_travel_50
    · first | refine z_rload_n C dX5_travel_23 rfl ?_ | refine z_nload_n C dX5_travel_23 rfl ?_ | refine z_aload_n C dX5_travel_23 rfl ?_
      refine z_iload_n C dX5_travel_24 rfl ?_
      refine z_iload_n C dX5_travel_25 rfl ?_
      refine z_iload C dX5_travel_26 rfl ?_
      refine z_callV (q := (RX4, TX4, 4)) C (c_wayTo l Γ G b n sx sy d x y z hs) kc_X5_travel_28 (by first | assumption | exact zU_same _ _ _) rfl rfl rfl rfl ky_X4_wayTo ⟨(Nat.le_of_ble_eq_true rfl), (Nat.le_of_ble_eq_true rfl)⟩ (Nat.le_of_ble_eq_true rfl) ⟨(Nat.le_of_ble_eq_true rfl), (Nat.le_of_ble_eq_true rfl)⟩ dX5_travel_28 (fun v28 G28 hp28 => ?_)
      obtain ⟨rfl, rfl⟩ := hp28
      refine z_sipush (v := 1000) C dX5_travel_31 rfl ?_
      refine z_imul C dX5_travel_34 ?_
      refine z_iload C dX5_travel_35 rfl ?_
      refine z_idiv C (fun q => by rw [q] at h20; exact h20 (by decide)) dX5_travel_37 ?_
      first | refine z_rload_n C dX5_travel_38 rfl ?_ | refine z_nload_n C dX5_travel_38 rfl ?_ | refine z_aload_n C dX5_travel_38 rfl ?_
      refine z_getf (T := TX4) (N := 4) C (by first | assumption | exact zU_same _ _ _) rfl 3 (by decide) kw_757 (Or.inl rfl) rfl dX5_travel_39 ?_
      refine z_iadd C dX5_travel_42 ?_
      refine z_goto (tgt := 50) C dX5_travel_43 (by decide) ?_
      exact z_iret C F hr (Nat.le_of_ble_eq_true rfl) (Nat.le_of_ble_eq_true rfl) ⟨by simp only [s_trav, hv, if_neg h20], rfl⟩ dX5_travel_50
  refine z_iload C dX5_travel_0 rfl ?_
  refine z_if_eq (tgt := 12) C dX5_travel_2 (by decide) (fun h2 => ?_) (fun h2 => ?_)
  · first | refine z_rload_n C dX5_travel_12 rfl ?_ | refine z_nload_n C dX5_travel_12 rfl ?_ | refine z_aload_n C dX5_travel_12 rfl ?_
    refine z_getf (T := TX5) (N := 2) C (by first | assumption | exact zU_same _ _ _) rfl 0 (by decide) kw_88 (Or.inl rfl) rfl dX5_travel_13 ?_
    exact tail sp (by rw [if_pos h2])
  · first | refine z_rload_n C dX5_travel_5 rfl ?_ | refine z_nload_n C dX5_travel_5 rfl ?_ | refine z_aload_n C dX5_travel_5 rfl ?_
    refine z_getf (T := TX5) (N := 2) C (by first | assumption | exact zU_same _ _ _) rfl 1 (by decide) kw_89 (Or.inl rfl) rfl dX5_travel_6 ?_
    refine z_goto (tgt := 16) C dX5_travel_9 (by decide) ?_
    exact tail ss (by rw [if_neg h2])
abbrev rm_c_late : Room := { frames := 3, cells := 0, slots := 0, locals := 102 }
set_option maxHeartbeats 4000000 in
set_option maxRecDepth 100000 in
theorem c_late (l : Launch) (Γ : zY) (G : zG) (w b st ml : Nat) (ev : Option Nat) (sp ss n sx sy d n2 iS t wt am n3 fo x y z et lb : Int32) {q : Nat} (hw : G w = some (oWav sp ss)) (hb : G b = some (oPk n2 st iS t wt am ev)) (hs : G st = some (oSta n sx sy d)) (he : G q = some (oEv n3 ml fo x y z et lb)) : ZM l yX5_lateness cX5_lateness 3 (some FieldType.int) rm_c_late Γ [.ref w, .ref b, .ref q] G (zRd G (.int (t - s_trav sp ss sx sy d x y z iS - et))) := by
  refine z_start (by decide +kernel) [some (.ref w), some (.ref b), some (.ref q)] rfl (Nat.le_of_ble_eq_true rfl) ?_
  intro p e s m args below meth c Q A C F hr hnm
  first | refine z_rload_n C dX5_lateness_0 rfl ?_ | refine z_nload_n C dX5_lateness_0 rfl ?_ | refine z_aload_n C dX5_lateness_0 rfl ?_
  refine z_getf (T := TX1) (N := 7) C (by first | assumption | exact zU_same _ _ _) rfl 3 (by decide) kw_319 (Or.inl rfl) rfl dX5_lateness_1 ?_
  first | refine z_rload_n C dX5_lateness_4 rfl ?_ | refine z_nload_n C dX5_lateness_4 rfl ?_ | refine z_aload_n C dX5_lateness_4 rfl ?_
  first | refine z_rload_n C dX5_lateness_5 rfl ?_ | refine z_nload_n C dX5_lateness_5 rfl ?_ | refine z_aload_n C dX5_lateness_5 rfl ?_
  refine z_getf (T := TX1) (N := 7) C (by first | assumption | exact zU_same _ _ _) rfl 1 (by decide) kw_309 (Or.inl rfl) rfl dX5_lateness_6 ?_
  first | refine z_rload_n C dX5_lateness_9 rfl ?_ | refine z_nload_n C dX5_lateness_9 rfl ?_ | refine z_aload_n C dX5_lateness_9 rfl ?_
  refine z_getf (T := TX0) (N := 8) C (by first | assumption | exact zU_same _ _ _) rfl 3 (by decide) kw_445 (Or.inl rfl) rfl dX5_lateness_10 ?_
  first | refine z_rload_n C dX5_lateness_13 rfl ?_ | refine z_nload_n C dX5_lateness_13 rfl ?_ | refine z_aload_n C dX5_lateness_13 rfl ?_
  refine z_getf (T := TX0) (N := 8) C (by first | assumption | exact zU_same _ _ _) rfl 4 (by decide) kw_449 (Or.inl rfl) rfl dX5_lateness_14 ?_
  first | refine z_rload_n C dX5_lateness_17 rfl ?_ | refine z_nload_n C dX5_lateness_17 rfl ?_ | refine z_aload_n C dX5_lateness_17 rfl ?_
  refine z_getf (T := TX0) (N := 8) C (by first | assumption | exact zU_same _ _ _) rfl 5 (by decide) kw_453 (Or.inl rfl) rfl dX5_lateness_18 ?_
  first | refine z_rload_n C dX5_lateness_21 rfl ?_ | refine z_nload_n C dX5_lateness_21 rfl ?_ | refine z_aload_n C dX5_lateness_21 rfl ?_
  refine z_getf (T := TX1) (N := 7) C (by first | assumption | exact zU_same _ _ _) rfl 2 (by decide) kw_314 (Or.inl rfl) rfl dX5_lateness_22 ?_
  refine z_callV (q := (RX5, TX5, 2)) C (c_travel l Γ G w st sp ss n sx sy d x y z iS hw hs) kc_X5_lateness_25 (by first | assumption | exact zU_same _ _ _) rfl rfl rfl rfl ky_X5_travel ⟨(Nat.le_of_ble_eq_true rfl), (Nat.le_of_ble_eq_true rfl)⟩ (Nat.le_of_ble_eq_true rfl) ⟨(Nat.le_of_ble_eq_true rfl), (Nat.le_of_ble_eq_true rfl)⟩ dX5_lateness_25 (fun v25 G25 hp25 => ?_)
  obtain ⟨rfl, rfl⟩ := hp25
  refine z_isub C dX5_lateness_28 ?_
  first | refine z_rload_n C dX5_lateness_29 rfl ?_ | refine z_nload_n C dX5_lateness_29 rfl ?_ | refine z_aload_n C dX5_lateness_29 rfl ?_
  refine z_getf (T := TX0) (N := 8) C (by first | assumption | exact zU_same _ _ _) rfl 6 (by decide) kw_457 (Or.inl rfl) rfl dX5_lateness_30 ?_
  refine z_isub C dX5_lateness_33 ?_
  exact z_iret C F hr (Nat.le_of_ble_eq_true rfl) (Nat.le_of_ble_eq_true rfl) ⟨rfl, rfl⟩ dX5_lateness_34

