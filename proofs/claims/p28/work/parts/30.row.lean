theorem dX2_empty_0 : decode cX2_empty 0 = .ok (.aload_n 0, 1) := by decide +kernel
theorem dX2_empty_1 : decode cX2_empty 1 = .ok (.iconst 0, 1) := by decide +kernel
theorem dX2_empty_2 : decode cX2_empty 2 = .ok (.putfield 18, 3) := by decide +kernel
theorem dX2_empty_5 : decode cX2_empty 5 = .ok (.aload_n 0, 1) := by decide +kernel
theorem dX2_empty_6 : decode cX2_empty 6 = .ok (.iconst 0, 1) := by decide +kernel
theorem dX2_empty_7 : decode cX2_empty 7 = .ok (.putfield 22, 3) := by decide +kernel
theorem dX2_empty_10 : decode cX2_empty 10 = .ok (.return_, 1) := by decide +kernel
theorem kw_103 : Cond.fieldLink "QuakeBench$Row" 18 "QuakeBench$Row" "size" "I" ∈ lw_all := zin1 103 (by decide +kernel)
theorem kw_104 : Cond.fieldLink "QuakeBench$Row" 22 "QuakeBench$Row" "total" "I" ∈ lw_all := zin1 104 (by decide +kernel)
theorem dX2_put_0 : decode cX2_put 0 = .ok (.aload_n 0, 1) := by decide +kernel
theorem dX2_put_1 : decode cX2_put 1 = .ok (.getfield 18, 3) := by decide +kernel
theorem dX2_put_4 : decode cX2_put 4 = .ok (.aload_n 0, 1) := by decide +kernel
theorem dX2_put_5 : decode cX2_put 5 = .ok (.getfield 9, 3) := by decide +kernel
theorem dX2_put_8 : decode cX2_put 8 = .ok (.arraylength, 1) := by decide +kernel
theorem dX2_put_9 : decode cX2_put 9 = .ok (.if_icmp .lt 4, 3) := by decide +kernel
theorem dX2_put_12 : decode cX2_put 12 = .ok (.return_, 1) := by decide +kernel
theorem dX2_put_13 : decode cX2_put 13 = .ok (.aload_n 0, 1) := by decide +kernel
theorem dX2_put_14 : decode cX2_put 14 = .ok (.getfield 18, 3) := by decide +kernel
theorem dX2_put_17 : decode cX2_put 17 = .ok (.istore_n 3, 1) := by decide +kernel
theorem dX2_put_18 : decode cX2_put 18 = .ok (.iload_n 3, 1) := by decide +kernel
theorem dX2_put_19 : decode cX2_put 19 = .ok (.ifCond .le 49, 3) := by decide +kernel
theorem dX2_put_22 : decode cX2_put 22 = .ok (.aload_n 0, 1) := by decide +kernel
theorem dX2_put_23 : decode cX2_put 23 = .ok (.getfield 9, 3) := by decide +kernel
theorem dX2_put_26 : decode cX2_put 26 = .ok (.iload_n 3, 1) := by decide +kernel
theorem dX2_put_27 : decode cX2_put 27 = .ok (.iconst 1, 1) := by decide +kernel
theorem dX2_put_28 : decode cX2_put 28 = .ok (.isub, 1) := by decide +kernel
theorem dX2_put_29 : decode cX2_put 29 = .ok (.iaload, 1) := by decide +kernel
theorem dX2_put_30 : decode cX2_put 30 = .ok (.iload_n 1, 1) := by decide +kernel
theorem dX2_put_31 : decode cX2_put 31 = .ok (.if_icmp .le 37, 3) := by decide +kernel
theorem dX2_put_34 : decode cX2_put 34 = .ok (.aload_n 0, 1) := by decide +kernel
theorem dX2_put_35 : decode cX2_put 35 = .ok (.getfield 9, 3) := by decide +kernel
theorem dX2_put_38 : decode cX2_put 38 = .ok (.iload_n 3, 1) := by decide +kernel
theorem dX2_put_39 : decode cX2_put 39 = .ok (.aload_n 0, 1) := by decide +kernel
theorem dX2_put_40 : decode cX2_put 40 = .ok (.getfield 9, 3) := by decide +kernel
theorem dX2_put_43 : decode cX2_put 43 = .ok (.iload_n 3, 1) := by decide +kernel
theorem dX2_put_44 : decode cX2_put 44 = .ok (.iconst 1, 1) := by decide +kernel
theorem dX2_put_45 : decode cX2_put 45 = .ok (.isub, 1) := by decide +kernel
theorem dX2_put_46 : decode cX2_put 46 = .ok (.iaload, 1) := by decide +kernel
theorem dX2_put_47 : decode cX2_put 47 = .ok (.iastore, 1) := by decide +kernel
theorem dX2_put_48 : decode cX2_put 48 = .ok (.aload_n 0, 1) := by decide +kernel
theorem dX2_put_49 : decode cX2_put 49 = .ok (.getfield 15, 3) := by decide +kernel
theorem dX2_put_52 : decode cX2_put 52 = .ok (.iload_n 3, 1) := by decide +kernel
theorem dX2_put_53 : decode cX2_put 53 = .ok (.aload_n 0, 1) := by decide +kernel
theorem dX2_put_54 : decode cX2_put 54 = .ok (.getfield 15, 3) := by decide +kernel
theorem dX2_put_57 : decode cX2_put 57 = .ok (.iload_n 3, 1) := by decide +kernel
theorem dX2_put_58 : decode cX2_put 58 = .ok (.iconst 1, 1) := by decide +kernel
theorem dX2_put_59 : decode cX2_put 59 = .ok (.isub, 1) := by decide +kernel
theorem dX2_put_60 : decode cX2_put 60 = .ok (.iaload, 1) := by decide +kernel
theorem dX2_put_61 : decode cX2_put 61 = .ok (.iastore, 1) := by decide +kernel
theorem dX2_put_62 : decode cX2_put 62 = .ok (.iinc 3 (-1), 3) := by decide +kernel
theorem dX2_put_65 : decode cX2_put 65 = .ok (.goto (-47), 3) := by decide +kernel
theorem dX2_put_68 : decode cX2_put 68 = .ok (.aload_n 0, 1) := by decide +kernel
theorem dX2_put_69 : decode cX2_put 69 = .ok (.getfield 9, 3) := by decide +kernel
theorem dX2_put_72 : decode cX2_put 72 = .ok (.iload_n 3, 1) := by decide +kernel
theorem dX2_put_73 : decode cX2_put 73 = .ok (.iload_n 1, 1) := by decide +kernel
theorem dX2_put_74 : decode cX2_put 74 = .ok (.iastore, 1) := by decide +kernel
theorem dX2_put_75 : decode cX2_put 75 = .ok (.aload_n 0, 1) := by decide +kernel
theorem dX2_put_76 : decode cX2_put 76 = .ok (.getfield 15, 3) := by decide +kernel
theorem dX2_put_79 : decode cX2_put 79 = .ok (.iload_n 3, 1) := by decide +kernel
theorem dX2_put_80 : decode cX2_put 80 = .ok (.iload_n 2, 1) := by decide +kernel
theorem dX2_put_81 : decode cX2_put 81 = .ok (.iastore, 1) := by decide +kernel
theorem dX2_put_82 : decode cX2_put 82 = .ok (.aload_n 0, 1) := by decide +kernel
theorem dX2_put_83 : decode cX2_put 83 = .ok (.dup, 1) := by decide +kernel
theorem dX2_put_84 : decode cX2_put 84 = .ok (.getfield 18, 3) := by decide +kernel
theorem dX2_put_87 : decode cX2_put 87 = .ok (.iconst 1, 1) := by decide +kernel
theorem dX2_put_88 : decode cX2_put 88 = .ok (.iadd, 1) := by decide +kernel
theorem dX2_put_89 : decode cX2_put 89 = .ok (.putfield 18, 3) := by decide +kernel
theorem dX2_put_92 : decode cX2_put 92 = .ok (.aload_n 0, 1) := by decide +kernel
theorem dX2_put_93 : decode cX2_put 93 = .ok (.dup, 1) := by decide +kernel
theorem dX2_put_94 : decode cX2_put 94 = .ok (.getfield 22, 3) := by decide +kernel
theorem dX2_put_97 : decode cX2_put 97 = .ok (.iload_n 2, 1) := by decide +kernel
theorem dX2_put_98 : decode cX2_put 98 = .ok (.iadd, 1) := by decide +kernel
theorem dX2_put_99 : decode cX2_put 99 = .ok (.putfield 22, 3) := by decide +kernel
theorem dX2_put_102 : decode cX2_put 102 = .ok (.return_, 1) := by decide +kernel
theorem kw_101 : Cond.fieldLink "QuakeBench$Row" 9 "QuakeBench$Row" "numbers" "[I" ∈ lw_all := zin1 101 (by decide +kernel)
theorem kw_102 : Cond.fieldLink "QuakeBench$Row" 15 "QuakeBench$Row" "weights" "[I" ∈ lw_all := zin1 102 (by decide +kernel)
theorem dX2_middle_0 : decode cX2_middle 0 = .ok (.aload_n 0, 1) := by decide +kernel
theorem dX2_middle_1 : decode cX2_middle 1 = .ok (.getfield 22, 3) := by decide +kernel
theorem dX2_middle_4 : decode cX2_middle 4 = .ok (.iconst 1, 1) := by decide +kernel
theorem dX2_middle_5 : decode cX2_middle 5 = .ok (.isub, 1) := by decide +kernel
theorem dX2_middle_6 : decode cX2_middle 6 = .ok (.iconst 2, 1) := by decide +kernel
theorem dX2_middle_7 : decode cX2_middle 7 = .ok (.idiv, 1) := by decide +kernel
theorem dX2_middle_8 : decode cX2_middle 8 = .ok (.istore_n 1, 1) := by decide +kernel
theorem dX2_middle_9 : decode cX2_middle 9 = .ok (.iconst 0, 1) := by decide +kernel
theorem dX2_middle_10 : decode cX2_middle 10 = .ok (.istore_n 2, 1) := by decide +kernel
theorem dX2_middle_11 : decode cX2_middle 11 = .ok (.iload_n 2, 1) := by decide +kernel
theorem dX2_middle_12 : decode cX2_middle 12 = .ok (.aload_n 0, 1) := by decide +kernel
theorem dX2_middle_13 : decode cX2_middle 13 = .ok (.getfield 18, 3) := by decide +kernel
theorem dX2_middle_16 : decode cX2_middle 16 = .ok (.if_icmp .ge 29, 3) := by decide +kernel
theorem dX2_middle_19 : decode cX2_middle 19 = .ok (.iload_n 1, 1) := by decide +kernel
theorem dX2_middle_20 : decode cX2_middle 20 = .ok (.aload_n 0, 1) := by decide +kernel
theorem dX2_middle_21 : decode cX2_middle 21 = .ok (.getfield 15, 3) := by decide +kernel
theorem dX2_middle_24 : decode cX2_middle 24 = .ok (.iload_n 2, 1) := by decide +kernel
theorem dX2_middle_25 : decode cX2_middle 25 = .ok (.iaload, 1) := by decide +kernel
theorem dX2_middle_26 : decode cX2_middle 26 = .ok (.isub, 1) := by decide +kernel
theorem dX2_middle_27 : decode cX2_middle 27 = .ok (.istore_n 1, 1) := by decide +kernel
theorem dX2_middle_28 : decode cX2_middle 28 = .ok (.iload_n 1, 1) := by decide +kernel
theorem dX2_middle_29 : decode cX2_middle 29 = .ok (.ifCond .ge 10, 3) := by decide +kernel
theorem dX2_middle_32 : decode cX2_middle 32 = .ok (.aload_n 0, 1) := by decide +kernel
theorem dX2_middle_33 : decode cX2_middle 33 = .ok (.getfield 9, 3) := by decide +kernel
theorem dX2_middle_36 : decode cX2_middle 36 = .ok (.iload_n 2, 1) := by decide +kernel
theorem dX2_middle_37 : decode cX2_middle 37 = .ok (.iaload, 1) := by decide +kernel
theorem dX2_middle_38 : decode cX2_middle 38 = .ok (.ireturn, 1) := by decide +kernel
theorem dX2_middle_39 : decode cX2_middle 39 = .ok (.iinc 2 1, 3) := by decide +kernel
theorem dX2_middle_42 : decode cX2_middle 42 = .ok (.goto (-31), 3) := by decide +kernel
theorem dX2_middle_45 : decode cX2_middle 45 = .ok (.iconst 0, 1) := by decide +kernel
theorem dX2_middle_46 : decode cX2_middle 46 = .ok (.ireturn, 1) := by decide +kernel
theorem dX2_distanceFrom_0 : decode cX2_distanceFrom 0 = .ok (.lconst 0, 1) := by decide +kernel
theorem dX2_distanceFrom_1 : decode cX2_distanceFrom 1 = .ok (.lstore_n 2, 1) := by decide +kernel
theorem dX2_distanceFrom_2 : decode cX2_distanceFrom 2 = .ok (.iconst 0, 1) := by decide +kernel
theorem dX2_distanceFrom_3 : decode cX2_distanceFrom 3 = .ok (.istore 4, 2) := by decide +kernel
theorem dX2_distanceFrom_5 : decode cX2_distanceFrom 5 = .ok (.iload 4, 2) := by decide +kernel
theorem dX2_distanceFrom_7 : decode cX2_distanceFrom 7 = .ok (.aload_n 0, 1) := by decide +kernel
theorem dX2_distanceFrom_8 : decode cX2_distanceFrom 8 = .ok (.getfield 18, 3) := by decide +kernel
theorem dX2_distanceFrom_11 : decode cX2_distanceFrom 11 = .ok (.if_icmp .ge 34, 3) := by decide +kernel
theorem dX2_distanceFrom_14 : decode cX2_distanceFrom 14 = .ok (.lload_n 2, 1) := by decide +kernel
theorem dX2_distanceFrom_15 : decode cX2_distanceFrom 15 = .ok (.aload_n 0, 1) := by decide +kernel
theorem dX2_distanceFrom_16 : decode cX2_distanceFrom 16 = .ok (.getfield 15, 3) := by decide +kernel
theorem dX2_distanceFrom_19 : decode cX2_distanceFrom 19 = .ok (.iload 4, 2) := by decide +kernel
theorem dX2_distanceFrom_21 : decode cX2_distanceFrom 21 = .ok (.iaload, 1) := by decide +kernel
theorem dX2_distanceFrom_22 : decode cX2_distanceFrom 22 = .ok (.i2l, 1) := by decide +kernel
theorem dX2_distanceFrom_23 : decode cX2_distanceFrom 23 = .ok (.aload_n 0, 1) := by decide +kernel
theorem dX2_distanceFrom_24 : decode cX2_distanceFrom 24 = .ok (.getfield 9, 3) := by decide +kernel
theorem dX2_distanceFrom_27 : decode cX2_distanceFrom 27 = .ok (.iload 4, 2) := by decide +kernel
theorem dX2_distanceFrom_29 : decode cX2_distanceFrom 29 = .ok (.iaload, 1) := by decide +kernel
theorem dX2_distanceFrom_30 : decode cX2_distanceFrom 30 = .ok (.iload_n 1, 1) := by decide +kernel
theorem dX2_distanceFrom_31 : decode cX2_distanceFrom 31 = .ok (.isub, 1) := by decide +kernel
theorem dX2_distanceFrom_32 : decode cX2_distanceFrom 32 = .ok (.invokestatic 25, 3) := by decide +kernel
theorem dX2_distanceFrom_35 : decode cX2_distanceFrom 35 = .ok (.i2l, 1) := by decide +kernel
theorem dX2_distanceFrom_36 : decode cX2_distanceFrom 36 = .ok (.lmul, 1) := by decide +kernel
theorem dX2_distanceFrom_37 : decode cX2_distanceFrom 37 = .ok (.ladd, 1) := by decide +kernel
theorem dX2_distanceFrom_38 : decode cX2_distanceFrom 38 = .ok (.lstore_n 2, 1) := by decide +kernel
theorem dX2_distanceFrom_39 : decode cX2_distanceFrom 39 = .ok (.iinc 4 1, 3) := by decide +kernel
theorem dX2_distanceFrom_42 : decode cX2_distanceFrom 42 = .ok (.goto (-37), 3) := by decide +kernel
theorem dX2_distanceFrom_45 : decode cX2_distanceFrom 45 = .ok (.lload_n 2, 1) := by decide +kernel
theorem dX2_distanceFrom_46 : decode cX2_distanceFrom 46 = .ok (.lreturn, 1) := by decide +kernel
theorem km_X2_distanceFrom_32 : ∀ w ∈ ([Cond.methodLink "QuakeBench$Row" 25 yJ9_abs_0f7a4, Cond.static yJ9_abs_0f7a4, Cond.initialized "java/lang/Math", Cond.code yJ9_abs_0f7a4 prog_18_method_59_code 1 (Option.some Jvm.ClassFile.FieldType.int)] : List Cond), w ∈ lw_all := zin [606, 552, 38, 553] (by decide +kernel)
theorem dX2_widestGap_0 : decode cX2_widestGap 0 = .ok (.aload_n 0, 1) := by decide +kernel
theorem dX2_widestGap_1 : decode cX2_widestGap 1 = .ok (.getfield 18, 3) := by decide +kernel
theorem dX2_widestGap_4 : decode cX2_widestGap 4 = .ok (.iconst 2, 1) := by decide +kernel
theorem dX2_widestGap_5 : decode cX2_widestGap 5 = .ok (.if_icmp .ge 7, 3) := by decide +kernel
theorem dX2_widestGap_8 : decode cX2_widestGap 8 = .ok (.sipush 4000, 3) := by decide +kernel
theorem dX2_widestGap_11 : decode cX2_widestGap 11 = .ok (.ireturn, 1) := by decide +kernel
theorem dX2_widestGap_12 : decode cX2_widestGap 12 = .ok (.sipush 4000, 3) := by decide +kernel
theorem dX2_widestGap_15 : decode cX2_widestGap 15 = .ok (.aload_n 0, 1) := by decide +kernel
theorem dX2_widestGap_16 : decode cX2_widestGap 16 = .ok (.getfield 9, 3) := by decide +kernel
theorem dX2_widestGap_19 : decode cX2_widestGap 19 = .ok (.aload_n 0, 1) := by decide +kernel
theorem dX2_widestGap_20 : decode cX2_widestGap 20 = .ok (.getfield 18, 3) := by decide +kernel
theorem dX2_widestGap_23 : decode cX2_widestGap 23 = .ok (.iconst 1, 1) := by decide +kernel
theorem dX2_widestGap_24 : decode cX2_widestGap 24 = .ok (.isub, 1) := by decide +kernel
theorem dX2_widestGap_25 : decode cX2_widestGap 25 = .ok (.iaload, 1) := by decide +kernel
theorem dX2_widestGap_26 : decode cX2_widestGap 26 = .ok (.aload_n 0, 1) := by decide +kernel
theorem dX2_widestGap_27 : decode cX2_widestGap 27 = .ok (.getfield 9, 3) := by decide +kernel
theorem dX2_widestGap_30 : decode cX2_widestGap 30 = .ok (.iconst 0, 1) := by decide +kernel
theorem dX2_widestGap_31 : decode cX2_widestGap 31 = .ok (.iaload, 1) := by decide +kernel
theorem dX2_widestGap_32 : decode cX2_widestGap 32 = .ok (.isub, 1) := by decide +kernel
theorem dX2_widestGap_33 : decode cX2_widestGap 33 = .ok (.isub, 1) := by decide +kernel
theorem dX2_widestGap_34 : decode cX2_widestGap 34 = .ok (.istore_n 1, 1) := by decide +kernel
theorem dX2_widestGap_35 : decode cX2_widestGap 35 = .ok (.iconst 1, 1) := by decide +kernel
theorem dX2_widestGap_36 : decode cX2_widestGap 36 = .ok (.istore_n 2, 1) := by decide +kernel
theorem dX2_widestGap_37 : decode cX2_widestGap 37 = .ok (.iload_n 2, 1) := by decide +kernel
theorem dX2_widestGap_38 : decode cX2_widestGap 38 = .ok (.aload_n 0, 1) := by decide +kernel
theorem dX2_widestGap_39 : decode cX2_widestGap 39 = .ok (.getfield 18, 3) := by decide +kernel
theorem dX2_widestGap_42 : decode cX2_widestGap 42 = .ok (.if_icmp .ge 29, 3) := by decide +kernel
theorem dX2_widestGap_45 : decode cX2_widestGap 45 = .ok (.iload_n 1, 1) := by decide +kernel
theorem dX2_widestGap_46 : decode cX2_widestGap 46 = .ok (.aload_n 0, 1) := by decide +kernel
theorem dX2_widestGap_47 : decode cX2_widestGap 47 = .ok (.getfield 9, 3) := by decide +kernel
theorem dX2_widestGap_50 : decode cX2_widestGap 50 = .ok (.iload_n 2, 1) := by decide +kernel
theorem dX2_widestGap_51 : decode cX2_widestGap 51 = .ok (.iaload, 1) := by decide +kernel
theorem dX2_widestGap_52 : decode cX2_widestGap 52 = .ok (.aload_n 0, 1) := by decide +kernel
theorem dX2_widestGap_53 : decode cX2_widestGap 53 = .ok (.getfield 9, 3) := by decide +kernel
theorem dX2_widestGap_56 : decode cX2_widestGap 56 = .ok (.iload_n 2, 1) := by decide +kernel
theorem dX2_widestGap_57 : decode cX2_widestGap 57 = .ok (.iconst 1, 1) := by decide +kernel
theorem dX2_widestGap_58 : decode cX2_widestGap 58 = .ok (.isub, 1) := by decide +kernel
theorem dX2_widestGap_59 : decode cX2_widestGap 59 = .ok (.iaload, 1) := by decide +kernel
theorem dX2_widestGap_60 : decode cX2_widestGap 60 = .ok (.isub, 1) := by decide +kernel
theorem dX2_widestGap_61 : decode cX2_widestGap 61 = .ok (.invokestatic 31, 3) := by decide +kernel
theorem dX2_widestGap_64 : decode cX2_widestGap 64 = .ok (.istore_n 1, 1) := by decide +kernel
theorem dX2_widestGap_65 : decode cX2_widestGap 65 = .ok (.iinc 2 1, 3) := by decide +kernel
theorem dX2_widestGap_68 : decode cX2_widestGap 68 = .ok (.goto (-31), 3) := by decide +kernel
theorem dX2_widestGap_71 : decode cX2_widestGap 71 = .ok (.iload_n 1, 1) := by decide +kernel
theorem dX2_widestGap_72 : decode cX2_widestGap 72 = .ok (.ireturn, 1) := by decide +kernel
theorem km_X2_widestGap_61 : ∀ w ∈ ([Cond.methodLink "QuakeBench$Row" 31 yJ9_max_7cf53, Cond.static yJ9_max_7cf53, Cond.initialized "java/lang/Math", Cond.code yJ9_max_7cf53 prog_18_method_65_code 2 (Option.some Jvm.ClassFile.FieldType.int)] : List Cond), w ∈ lw_all := zin [687, 363, 38, 364] (by decide +kernel)
/-! Row: numbers with weights, in ascending order -/
/-- the world with the row's cells as told -/
def zRG (Γ : zY) (G : zG) (r na wa : Nat) (f g : Nat → Int32) (sz tot : Int32) : zG := zU (zU (zU G na (zI Γ 80 f)) wa (zI Γ 80 g)) r (oRow na wa sz tot)
/-- the row at r holds rs -/
def zRo (Γ : zY) (G : zG) (r na wa : Nat) (rs : List (Int32 × Int32)) (tot : Int32) : Prop :=
  na ≠ wa ∧ rs.length ≤ 80 ∧ G r = some (oRow na wa (nI rs.length) tot) ∧ ∃ f g, G na = some (zI Γ 80 f) ∧ G wa = some (zI Γ 80 g) ∧ ∀ i, i < rs.length → rs[i]? = some (f i, g i)
theorem zI_ne {Γ : zY} {n : Nat} {f : Nat → Int32} {o : Nat × List Value} : zI Γ n f ≠ .inr o := fun h => by cases h
section RG
variable {Γ : zY} {G : zG} {r na wa : Nat} {f g f2 : Nat → Int32} {sz tot sz2 tot2 : Int32}
theorem zRG_r : zRG Γ G r na wa f g sz tot r = some (oRow na wa sz tot) := zU_same _ _ _
theorem zRG_w (h : wa ≠ r) : zRG Γ G r na wa f g sz tot wa = some (zI Γ 80 g) := (zU_ne h).trans (zU_same _ _ _)
theorem zRG_n (h : na ≠ r) (h2 : na ≠ wa) : zRG Γ G r na wa f g sz tot na = some (zI Γ 80 f) := (zU_ne h).trans ((zU_ne h2).trans (zU_same _ _ _))
theorem zRG_o {q : Nat} (h : q ≠ r) (h2 : q ≠ na) (h3 : q ≠ wa) : zRG Γ G r na wa f g sz tot q = G q := (zU_ne h).trans ((zU_ne h3).trans (zU_ne h2))
theorem zRG_un (h : na ≠ r) (h2 : na ≠ wa) : zU (zRG Γ G r na wa f g sz tot) na (zI Γ 80 f2) = zRG Γ G r na wa f2 g sz tot := by
  unfold zRG
  rw [zU_sw _ _ _ h.symm, zU_sw _ _ _ h2.symm, zU_zU]
theorem zRG_uw (h : wa ≠ r) : zU (zRG Γ G r na wa f g sz tot) wa (zI Γ 80 f2) = zRG Γ G r na wa f f2 sz tot := by
  unfold zRG
  rw [zU_sw _ _ _ h.symm, zU_zU]
theorem zRG_ur : zU (zRG Γ G r na wa f g sz tot) r (oRow na wa sz2 tot2) = zRG Γ G r na wa f g sz2 tot2 := zU_zU _ _ _ _
theorem zRG_id (h : na ≠ r) (h2 : na ≠ wa) (h3 : wa ≠ r) (e1 : G r = some (oRow na wa sz tot)) (e2 : G na = some (zI Γ 80 f)) (e3 : G wa = some (zI Γ 80 g)) : zRG Γ G r na wa f g sz tot = G := by
  unfold zRG
  rw [zU_id e2, zU_id e3, zU_id e1]
end RG
def s_sh (f : Nat → Int32) (j n : Nat) : Nat → Int32 := fun i => if j < i ∧ i ≤ n then f (i - 1) else f i
theorem s_sh_n (f : Nat → Int32) (n : Nat) : s_sh f n n = f := by
  funext i
  unfold s_sh
  rw [if_neg (by omega)]
theorem s_sh_up (f : Nat → Int32) {j n : Nat} (h : j < n) : upd (s_sh f (j + 1) n) (j + 1) (f j) = s_sh f j n := by
  funext i
  by_cases e : i = j + 1
  · subst e
    rw [pk_us]
    unfold s_sh
    rw [if_pos (by omega)]
    rfl
  · rw [pk_un e]
    unfold s_sh
    by_cases h1 : j + 1 < i ∧ i ≤ n
    · rw [if_pos h1, if_pos (by omega)]
    · rw [if_neg h1, if_neg (by omega)]
/-- where a number goes: past the greater ones, from the end -/
def s_pos (x : Int32) (f : Nat → Int32) : Nat → Nat
  | 0 => 0
  | n + 1 => if x < f n then s_pos x f n else n + 1
theorem s_pos_le (x : Int32) (f : Nat → Int32) : ∀ n, s_pos x f n ≤ n
  | 0 => Nat.le_refl _
  | n + 1 => by
    rw [s_pos]
    split
    · exact Nat.le_succ_of_le (s_pos_le x f n)
    · exact Nat.le_refl _
def s_num (rs : List (Int32 × Int32)) (i : Nat) : Int32 := (rs.getD i (0, 0)).1
def s_put (x w : Int32) (rs : List (Int32 × Int32)) : List (Int32 × Int32) := rs.take (s_pos x (s_num rs) rs.length) ++ (x, w) :: rs.drop (s_pos x (s_num rs) rs.length)
theorem s_put_len (x w : Int32) (rs : List (Int32 × Int32)) : (s_put x w rs).length = rs.length + 1 := by
  have := s_pos_le x (s_num rs) rs.length
  unfold s_put
  rw [List.length_append, List.length_take, List.length_cons, List.length_drop]
  omega
theorem s_pos_cong (x : Int32) {f g : Nat → Int32} : ∀ n, (∀ i, i < n → f i = g i) → s_pos x f n = s_pos x g n
  | 0, _ => rfl
  | n + 1, h => by rw [s_pos, s_pos, h n (Nat.lt_succ_self n), s_pos_cong x n (fun i hi => h i (Nat.lt_succ_of_lt hi))]
theorem s_put_at (f g : Nat → Int32) (x w : Int32) {p n : Nat} (hp : p ≤ n) {rs : List (Int32 × Int32)} (hl : rs.length = n) (hr : ∀ i, i < n → rs[i]? = some (f i, g i)) : ∀ i, i < n + 1 → (rs.take p ++ (x, w) :: rs.drop p)[i]? = some (upd (s_sh f p n) p x i, upd (s_sh g p n) p w i) := by
  intro i hi
  have ht : (rs.take p).length = p := by rw [List.length_take]; omega
  rcases Nat.lt_trichotomy i p with h | h | h
  · rw [List.getElem?_append_left (by omega), List.getElem?_take_of_lt h, hr i (by omega), pk_un (by omega), pk_un (by omega)]
    unfold s_sh
    rw [if_neg (by omega), if_neg (by omega)]
  · subst h
    rw [List.getElem?_append_right (by omega), ht, Nat.sub_self, pk_us, pk_us]
    rfl
  · rw [List.getElem?_append_right (by omega), ht, show i - p = (i - 1 - p) + 1 by omega, List.getElem?_cons_succ, List.getElem?_drop, show p + (i - 1 - p) = i - 1 by omega, hr (i - 1) (by omega), pk_un (by omega), pk_un (by omega)]
    unfold s_sh
    rw [if_pos (by omega), if_pos (by omega)]
abbrev rm_c_empty : Room := { frames := 0, cells := 0, slots := 0, locals := 0 }
set_option maxHeartbeats 4000000 in
set_option maxRecDepth 100000 in
theorem c_empty (l : Launch) (Γ : zY) (G : zG) {r na wa : Nat} {rs : List (Int32 × Int32)} {tot : Int32} (hR : zRo Γ G r na wa rs tot) : ZM l yX2_empty cX2_empty 1 (none) rm_c_empty Γ [.ref r] G (fun v G' => none = v ∧ zRo Γ G' r na wa [] 0 ∧ ∀ q, q ≠ r → q ≠ na → q ≠ wa → G' q = G q) := by
  obtain ⟨hnw, -, h1, f, g, h2, h3, -⟩ := hR
  refine z_start (by decide +kernel) [some (.ref r)] rfl (Nat.le_of_ble_eq_true rfl) ?_
  intro p e s m args below meth c Q A C F hr hnm
  first | refine z_rload_n C dX2_empty_0 rfl ?_ | refine z_nload_n C dX2_empty_0 rfl ?_ | refine z_aload_n C dX2_empty_0 rfl ?_
  refine z_iconst (v := 0) C dX2_empty_1 rfl ?_
  refine z_putf (T := TX2) (N := 4) C (by first | assumption | exact zU_same _ _ _) rfl 2 (by decide) kw_103 (Or.inl rfl) rfl (tyX2_ok 2 (by decide)) rfl rfl (Nat.le_of_ble_eq_true rfl) dX2_empty_2 ?_
  first | refine z_rload_n C dX2_empty_5 rfl ?_ | refine z_nload_n C dX2_empty_5 rfl ?_ | refine z_aload_n C dX2_empty_5 rfl ?_
  refine z_iconst (v := 0) C dX2_empty_6 rfl ?_
  refine z_putf (T := TX2) (N := 4) C (by first | assumption | exact zU_same _ _ _) rfl 3 (by decide) kw_104 (Or.inl rfl) rfl (tyX2_ok 3 (by decide)) rfl rfl (Nat.le_of_ble_eq_true rfl) dX2_empty_7 ?_
  exact z_vret C F hr (Nat.le_of_ble_eq_true rfl) (Nat.le_of_ble_eq_true rfl) ⟨rfl, ⟨hnw, Nat.zero_le _, zU_same _ _ _, f, g, by rw [zU_ne (zG_ne h2 h1 zI_ne), zU_ne (zG_ne h2 h1 zI_ne)]; exact h2, by rw [zU_ne (zG_ne h3 h1 zI_ne), zU_ne (zG_ne h3 h1 zI_ne)]; exact h3, fun i hi => absurd hi (Nat.not_lt_zero i)⟩, fun q q1 _ _ => by rw [zU_ne q1, zU_ne q1]⟩ dX2_empty_10
abbrev rm_c_put : Room := { frames := 0, cells := 0, slots := 0, locals := 0 }
set_option maxHeartbeats 4000000 in
set_option maxRecDepth 100000 in
theorem c_put (l : Launch) (Γ : zY) (G : zG) {r na wa : Nat} {rs : List (Int32 × Int32)} {tot x w : Int32} (hR : zRo Γ G r na wa rs tot) (hlt : rs.length < 80) : ZM l yX2_put cX2_put 4 (none) rm_c_put Γ [.ref r, .int x, .int w] G (fun v G' => none = v ∧ zRo Γ G' r na wa (s_put x w rs) (tot + w) ∧ ∀ q, q ≠ r → q ≠ na → q ≠ wa → G' q = G q) := by
  obtain ⟨hnw, -, h1, f, g, h2, h3, h4⟩ := hR
  obtain ⟨n, hn⟩ : ∃ n, n = rs.length := ⟨_, rfl⟩
  rw [← hn] at hlt h1 h4
  have hnr : na ≠ r := zG_ne h2 h1 zI_ne
  have hwr : wa ≠ r := zG_ne h3 h1 zI_ne
  refine z_start (by decide +kernel) [some (.ref r), some (.int x), some (.int w), none] rfl (Nat.le_of_ble_eq_true rfl) ?_
  intro p e s m args below meth c Q A C F hr hnm
  have fin : ∀ po, po = s_pos x f n → Z p l e rm_c_put s m args below meth c Q 4 Γ A (zRG Γ G r na wa (s_sh f po n) (s_sh g po n) (nI n) tot) 0 0 68 [some (.ref r), some (.int x), some (.int w), some (.int (nI po))] [] := by
    intro po hp
    have hpl : po ≤ n := by rw [hp]; exact s_pos_le _ _ _
    have hv : vp_in (nI po) 80 := vp_in_nI (by omega) (by omega)
    first | refine z_rload_n C dX2_put_68 rfl ?_ | refine z_nload_n C dX2_put_68 rfl ?_ | refine z_aload_n C dX2_put_68 rfl ?_
    refine z_getf (T := TX2) (N := 4) C (by first | exact zRG_r | exact zRG_n hnr hnw | exact zRG_w hwr) rfl 0 (by decide) kw_101 (Or.inl rfl) rfl dX2_put_69 ?_
    refine z_iload_n C dX2_put_72 rfl ?_
    refine z_iload_n C dX2_put_73 rfl ?_
    refine z_iast C (by first | exact zRG_r | exact zRG_n hnr hnw | exact zRG_w hwr) (by assumption) dX2_put_74 ?_
    rw [nI_clamp (by omega), zRG_un hnr hnw]
    first | refine z_rload_n C dX2_put_75 rfl ?_ | refine z_nload_n C dX2_put_75 rfl ?_ | refine z_aload_n C dX2_put_75 rfl ?_
    refine z_getf (T := TX2) (N := 4) C (by first | exact zRG_r | exact zRG_n hnr hnw | exact zRG_w hwr) rfl 1 (by decide) kw_102 (Or.inl rfl) rfl dX2_put_76 ?_
    refine z_iload_n C dX2_put_79 rfl ?_
    refine z_iload_n C dX2_put_80 rfl ?_
    refine z_iast C (by first | exact zRG_r | exact zRG_n hnr hnw | exact zRG_w hwr) (by assumption) dX2_put_81 ?_
    rw [nI_clamp (by omega), zRG_uw hwr]
    first | refine z_rload_n C dX2_put_82 rfl ?_ | refine z_nload_n C dX2_put_82 rfl ?_ | refine z_aload_n C dX2_put_82 rfl ?_
    refine z_dup C rfl dX2_put_83 ?_
    refine z_getf (T := TX2) (N := 4) C (by first | exact zRG_r | exact zRG_n hnr hnw | exact zRG_w hwr) rfl 2 (by decide) kw_103 (Or.inl rfl) rfl dX2_put_84 ?_
    refine z_iconst (v := 1) C dX2_put_87 rfl ?_
    refine z_iadd C dX2_put_88 ?_
    rw [← nI_succ]
    refine z_putf (T := TX2) (N := 4) C (by first | exact zRG_r | exact zRG_n hnr hnw | exact zRG_w hwr) rfl 2 (by decide) kw_103 (Or.inl rfl) rfl (tyX2_ok 2 (by decide)) rfl rfl (Nat.le_of_ble_eq_true rfl) dX2_put_89 ?_
    show Z p l e rm_c_put s m args below meth c Q 4 Γ A (zU (zRG Γ G r na wa (upd (s_sh f po n) po x) (upd (s_sh g po n) po w) (nI n) tot) r (oRow na wa (nI (n + 1)) tot)) 0 0 92 _ _
    rw [zRG_ur]
    first | refine z_rload_n C dX2_put_92 rfl ?_ | refine z_nload_n C dX2_put_92 rfl ?_ | refine z_aload_n C dX2_put_92 rfl ?_
    refine z_dup C rfl dX2_put_93 ?_
    refine z_getf (T := TX2) (N := 4) C (by first | exact zRG_r | exact zRG_n hnr hnw | exact zRG_w hwr) rfl 3 (by decide) kw_104 (Or.inl rfl) rfl dX2_put_94 ?_
    refine z_iload_n C dX2_put_97 rfl ?_
    refine z_iadd C dX2_put_98 ?_
    refine z_putf (T := TX2) (N := 4) C (by first | exact zRG_r | exact zRG_n hnr hnw | exact zRG_w hwr) rfl 3 (by decide) kw_104 (Or.inl rfl) rfl (tyX2_ok 3 (by decide)) rfl rfl (Nat.le_of_ble_eq_true rfl) dX2_put_99 ?_
    show Z p l e rm_c_put s m args below meth c Q 4 Γ A (zU (zRG Γ G r na wa (upd (s_sh f po n) po x) (upd (s_sh g po n) po w) (nI (n + 1)) tot) r (oRow na wa (nI (n + 1)) (tot + w))) 0 0 102 _ _
    rw [zRG_ur]
    have ep : s_pos x (s_num rs) rs.length = po := by
      rw [hp, ← hn]
      refine s_pos_cong x n (fun i hi => ?_)
      unfold s_num
      rw [List.getD_eq_getElem?_getD, h4 i hi]
      rfl
    have el : (s_put x w rs).length = n + 1 := by rw [s_put_len, hn]
    exact z_vret C F hr (Nat.le_of_ble_eq_true rfl) (Nat.le_of_ble_eq_true rfl) ⟨rfl, ⟨hnw, by omega, by rw [el]; exact zRG_r, _, _, zRG_n hnr hnw, zRG_w hwr, fun i hi => by rw [el] at hi; unfold s_put; rw [ep]; exact s_put_at f g x w hpl hn.symm h4 i hi⟩, fun q q1 q2 q3 => zRG_o q1 q2 q3⟩ dX2_put_102
  have loop : ∀ j, j ≤ n → s_pos x f n = s_pos x f j → Z p l e rm_c_put s m args below meth c Q 4 Γ A (zRG Γ G r na wa (s_sh f j n) (s_sh g j n) (nI n) tot) 0 0 18 [some (.ref r), some (.int x), some (.int w), some (.int (nI j))] [] := by
    intro j
    induction j with
    | zero =>
      intro hj hp
      refine z_iload_n C dX2_put_18 rfl ?_
      refine z_if_le (tgt := 68) C dX2_put_19 (by decide) (fun h19 => ?_) (fun h19 => ?_)
      · exact fin 0 hp.symm
      · exact absurd (by decide) h19
    | succ j ih =>
      intro hj hp
      refine z_iload_n C dX2_put_18 rfl ?_
      refine z_if_le (tgt := 68) C dX2_put_19 (by decide) (fun h19 => ?_) (fun h19 => ?_)
      · exact absurd h19 (nI_nle (by omega) (by omega))
      · have hv : vp_in (nI j) 80 := vp_in_nI (by omega) (by omega)
        have hv1 : vp_in (nI (j + 1)) 80 := vp_in_nI (by omega) (by omega)
        first | refine z_rload_n C dX2_put_22 rfl ?_ | refine z_nload_n C dX2_put_22 rfl ?_ | refine z_aload_n C dX2_put_22 rfl ?_
        refine z_getf (T := TX2) (N := 4) C (by first | exact zRG_r | exact zRG_n hnr hnw | exact zRG_w hwr) rfl 0 (by decide) kw_101 (Or.inl rfl) rfl dX2_put_23 ?_
        refine z_iload_n C dX2_put_26 rfl ?_
        refine z_iconst (v := 1) C dX2_put_27 rfl ?_
        refine z_isub C dX2_put_28 ?_
        rw [nI_pred]
        refine z_iald C (by first | exact zRG_r | exact zRG_n hnr hnw | exact zRG_w hwr) (by assumption) dX2_put_29 ?_
        rw [nI_clamp (by omega), show s_sh f (j + 1) n j = f j from if_neg (by omega)]
        refine z_iload_n C dX2_put_30 rfl ?_
        refine z_icmp_le (tgt := 68) C dX2_put_31 (by decide) (fun h31 => ?_) (fun h31 => ?_)
        · refine fin (j + 1) ?_
          rw [hp, s_pos, if_neg (fun q => ?_)]
          rw [Int32.lt_iff_toInt_lt] at q
          rw [Int32.le_iff_toInt_le] at h31
          omega
        · first | refine z_rload_n C dX2_put_34 rfl ?_ | refine z_nload_n C dX2_put_34 rfl ?_ | refine z_aload_n C dX2_put_34 rfl ?_
          refine z_getf (T := TX2) (N := 4) C (by first | exact zRG_r | exact zRG_n hnr hnw | exact zRG_w hwr) rfl 0 (by decide) kw_101 (Or.inl rfl) rfl dX2_put_35 ?_
          refine z_iload_n C dX2_put_38 rfl ?_
          first | refine z_rload_n C dX2_put_39 rfl ?_ | refine z_nload_n C dX2_put_39 rfl ?_ | refine z_aload_n C dX2_put_39 rfl ?_
          refine z_getf (T := TX2) (N := 4) C (by first | exact zRG_r | exact zRG_n hnr hnw | exact zRG_w hwr) rfl 0 (by decide) kw_101 (Or.inl rfl) rfl dX2_put_40 ?_
          refine z_iload_n C dX2_put_43 rfl ?_
          refine z_iconst (v := 1) C dX2_put_44 rfl ?_
          refine z_isub C dX2_put_45 ?_
          rw [nI_pred]
          refine z_iald C (by first | exact zRG_r | exact zRG_n hnr hnw | exact zRG_w hwr) (by assumption) dX2_put_46 ?_
          refine z_iast C (by first | exact zRG_r | exact zRG_n hnr hnw | exact zRG_w hwr) (by assumption) dX2_put_47 ?_
          rw [nI_clamp (n := j) (by omega), nI_clamp (n := j + 1) (by omega), show s_sh f (j + 1) n j = f j from if_neg (by omega), zRG_un hnr hnw, s_sh_up f (by omega)]
          first | refine z_rload_n C dX2_put_48 rfl ?_ | refine z_nload_n C dX2_put_48 rfl ?_ | refine z_aload_n C dX2_put_48 rfl ?_
          refine z_getf (T := TX2) (N := 4) C (by first | exact zRG_r | exact zRG_n hnr hnw | exact zRG_w hwr) rfl 1 (by decide) kw_102 (Or.inl rfl) rfl dX2_put_49 ?_
          refine z_iload_n C dX2_put_52 rfl ?_
          first | refine z_rload_n C dX2_put_53 rfl ?_ | refine z_nload_n C dX2_put_53 rfl ?_ | refine z_aload_n C dX2_put_53 rfl ?_
          refine z_getf (T := TX2) (N := 4) C (by first | exact zRG_r | exact zRG_n hnr hnw | exact zRG_w hwr) rfl 1 (by decide) kw_102 (Or.inl rfl) rfl dX2_put_54 ?_
          refine z_iload_n C dX2_put_57 rfl ?_
          refine z_iconst (v := 1) C dX2_put_58 rfl ?_
          refine z_isub C dX2_put_59 ?_
          rw [nI_pred]
          refine z_iald C (by first | exact zRG_r | exact zRG_n hnr hnw | exact zRG_w hwr) (by assumption) dX2_put_60 ?_
          refine z_iast C (by first | exact zRG_r | exact zRG_n hnr hnw | exact zRG_w hwr) (by assumption) dX2_put_61 ?_
          rw [nI_clamp (n := j) (by omega), nI_clamp (n := j + 1) (by omega), show s_sh g (j + 1) n j = g j from if_neg (by omega), zRG_uw hwr, s_sh_up g (by omega)]
          refine z_iinc (w := (-1)) C dX2_put_62 rfl rfl (by decide) ?_
          refine z_goto (tgt := 18) C dX2_put_65 (by decide) ?_
          rw [pk_m1]
          refine ih (by omega) ?_
          rw [hp, s_pos, if_pos]
          rw [Int32.le_iff_toInt_le] at h31
          rw [Int32.lt_iff_toInt_lt]
          omega
  first | refine z_rload_n C dX2_put_0 rfl ?_ | refine z_nload_n C dX2_put_0 rfl ?_ | refine z_aload_n C dX2_put_0 rfl ?_
  refine z_getf (T := TX2) (N := 4) C (by first | assumption | exact zU_same _ _ _) rfl 2 (by decide) kw_103 (Or.inl rfl) rfl dX2_put_1 ?_
  first | refine z_rload_n C dX2_put_4 rfl ?_ | refine z_nload_n C dX2_put_4 rfl ?_ | refine z_aload_n C dX2_put_4 rfl ?_
  refine z_getf (T := TX2) (N := 4) C (by first | assumption | exact zU_same _ _ _) rfl 0 (by decide) kw_101 (Or.inl rfl) rfl dX2_put_5 ?_
  refine z_ilen C (by first | assumption | exact zU_same _ _ _) dX2_put_8 ?_
  refine z_icmp_lt (tgt := 13) C dX2_put_9 (by decide) (fun h9 => ?_) (fun h9 => ?_)
  · first | refine z_rload_n C dX2_put_13 rfl ?_ | refine z_nload_n C dX2_put_13 rfl ?_ | refine z_aload_n C dX2_put_13 rfl ?_
    refine z_getf (T := TX2) (N := 4) C (by first | assumption | exact zU_same _ _ _) rfl 2 (by decide) kw_103 (Or.inl rfl) rfl dX2_put_14 ?_
    refine z_istore_n C dX2_put_17 (by decide) ?_
    have fin2 := loop n (Nat.le_refl _) rfl
    rw [s_sh_n, s_sh_n, zRG_id hnr hnw hwr h1 h2 h3] at fin2
    exact fin2
  · exact absurd (nI_lt hlt (by omega)) h9
/-- the middle number by the weights, and the sum of the weighted distances -/
def s_mid : List (Int32 × Int32) → Int32 → Int32
  | [], _ => 0
  | e :: r, a => if a - e.2 < 0 then e.1 else s_mid r (a - e.2)
def s_dist (rs : List (Int32 × Int32)) (x : Int32) : Int64 := (rs.map fun e => e.2.toInt64 * (z_abs1 (e.1 - x)).toInt64).foldl (· + ·) 0
def s_gapAll : List (Int32 × Int32) → Int32 → Int32
  | e :: d :: r, a => s_gapAll (d :: r) (if a < d.1 - e.1 then d.1 - e.1 else a)
  | _, a => a
def s_wid (rs : List (Int32 × Int32)) : Int32 := if rs.length < 2 then 4000 else s_gapAll rs (4000 - ((rs.getLast?.getD (0, 0)).1 - (rs.headD (0, 0)).1))
theorem z_drop {rs : List (Int32 × Int32)} {f g : Nat → Int32} {i : Nat} (h : ∀ i, i < rs.length → rs[i]? = some (f i, g i)) (hi : i < rs.length) : rs.drop i = (f i, g i) :: rs.drop (i + 1) := by
  rw [List.drop_eq_getElem_cons hi]
  have := h i hi
  rw [List.getElem?_eq_getElem hi] at this
  rw [Option.some.inj this]
abbrev rm_c_mid : Room := { frames := 0, cells := 0, slots := 0, locals := 0 }
set_option maxHeartbeats 4000000 in
set_option maxRecDepth 100000 in
theorem c_mid (l : Launch) (Γ : zY) (G : zG) {r na wa : Nat} {rs : List (Int32 × Int32)} {tot : Int32} (hR : zRo Γ G r na wa rs tot) : ZM l yX2_middle cX2_middle 3 (some FieldType.int) rm_c_mid Γ [.ref r] G (zRd G (.int (s_mid rs ((tot - 1) / 2)))) := by
  obtain ⟨hnw, hle, h1, f, g, h2, h3, h4⟩ := hR
  refine z_start (by decide +kernel) [some (.ref r), none, none] rfl (Nat.le_of_ble_eq_true rfl) ?_
  intro p e s m args below meth c Q A C F hr hnm
  have loop : ∀ (d i : Nat) (a : Int32), i + d = rs.length → s_mid rs ((tot - 1) / 2) = s_mid (rs.drop i) a → Z p l e rm_c_mid s m args below meth c Q 3 Γ A G 0 0 11 [some (.ref r), some (.int a), some (.int (nI i))] [] := by
    intro d
    induction d with
    | zero =>
      intro i a hi hm
      refine z_iload_n C dX2_middle_11 rfl ?_
      first | refine z_rload_n C dX2_middle_12 rfl ?_ | refine z_nload_n C dX2_middle_12 rfl ?_ | refine z_aload_n C dX2_middle_12 rfl ?_
      refine z_getf (T := TX2) (N := 4) C (by first | assumption | exact zU_same _ _ _) rfl 2 (by decide) kw_103 (Or.inl rfl) rfl dX2_middle_13 ?_
      refine z_icmp_ge (tgt := 45) C dX2_middle_16 (by decide) (fun h16 => ?_) (fun h16 => ?_)
      · refine z_iconst (v := 0) C dX2_middle_45 rfl ?_
        exact z_iret C F hr (Nat.le_of_ble_eq_true rfl) (Nat.le_of_ble_eq_true rfl) ⟨by rw [hm, List.drop_eq_nil_of_le (by omega)]; rfl, rfl⟩ dX2_middle_46
      · exact absurd (nI_le (by omega) (by omega)) h16
    | succ d ih =>
      intro i a hi hm
      rw [z_drop h4 (by omega), s_mid] at hm
      refine z_iload_n C dX2_middle_11 rfl ?_
      first | refine z_rload_n C dX2_middle_12 rfl ?_ | refine z_nload_n C dX2_middle_12 rfl ?_ | refine z_aload_n C dX2_middle_12 rfl ?_
      refine z_getf (T := TX2) (N := 4) C (by first | assumption | exact zU_same _ _ _) rfl 2 (by decide) kw_103 (Or.inl rfl) rfl dX2_middle_13 ?_
      refine z_icmp_ge (tgt := 45) C dX2_middle_16 (by decide) (fun h16 => ?_) (fun h16 => ?_)
      · exact absurd h16 (nI_ge (by omega) (by omega))
      · have hv : vp_in (nI i) 80 := vp_in_nI (by omega) (by omega)
        refine z_iload_n C dX2_middle_19 rfl ?_
        first | refine z_rload_n C dX2_middle_20 rfl ?_ | refine z_nload_n C dX2_middle_20 rfl ?_ | refine z_aload_n C dX2_middle_20 rfl ?_
        refine z_getf (T := TX2) (N := 4) C (by first | assumption | exact zU_same _ _ _) rfl 1 (by decide) kw_102 (Or.inl rfl) rfl dX2_middle_21 ?_
        refine z_iload_n C dX2_middle_24 rfl ?_
        refine z_iald C (by first | assumption | exact zU_same _ _ _) (by assumption) dX2_middle_25 ?_
        rw [nI_clamp (by omega)]
        refine z_isub C dX2_middle_26 ?_
        refine z_istore_n C dX2_middle_27 (by decide) ?_
        refine z_iload_n C dX2_middle_28 rfl ?_
        refine z_if_ge (tgt := 39) C dX2_middle_29 (by decide) (fun h29 => ?_) (fun h29 => ?_)
        · refine z_iinc (w := 1) C dX2_middle_39 rfl rfl (by decide) ?_
          refine z_goto (tgt := 11) C dX2_middle_42 (by decide) ?_
          rw [← nI_succ]
          refine ih (i + 1) _ (by omega) ?_
          exact hm.trans (if_neg (i_nlt h29))
        · first | refine z_rload_n C dX2_middle_32 rfl ?_ | refine z_nload_n C dX2_middle_32 rfl ?_ | refine z_aload_n C dX2_middle_32 rfl ?_
          refine z_getf (T := TX2) (N := 4) C (by first | assumption | exact zU_same _ _ _) rfl 0 (by decide) kw_101 (Or.inl rfl) rfl dX2_middle_33 ?_
          refine z_iload_n C dX2_middle_36 rfl ?_
          refine z_iald C (by first | assumption | exact zU_same _ _ _) (by assumption) dX2_middle_37 ?_
          rw [nI_clamp (by omega)]
          exact z_iret C F hr (Nat.le_of_ble_eq_true rfl) (Nat.le_of_ble_eq_true rfl) ⟨congrArg (fun z => some (Value.int z)) (hm.trans (if_pos (i_lt h29))), rfl⟩ dX2_middle_38
  first | refine z_rload_n C dX2_middle_0 rfl ?_ | refine z_nload_n C dX2_middle_0 rfl ?_ | refine z_aload_n C dX2_middle_0 rfl ?_
  refine z_getf (T := TX2) (N := 4) C (by first | assumption | exact zU_same _ _ _) rfl 3 (by decide) kw_104 (Or.inl rfl) rfl dX2_middle_1 ?_
  refine z_iconst (v := 1) C dX2_middle_4 rfl ?_
  refine z_isub C dX2_middle_5 ?_
  refine z_iconst (v := 2) C dX2_middle_6 rfl ?_
  refine z_idiv C (by decide) dX2_middle_7 ?_
  refine z_istore_n C dX2_middle_8 (by decide) ?_
  refine z_iconst (v := 0) C dX2_middle_9 rfl ?_
  refine z_istore_n C dX2_middle_10 (by decide) ?_
  exact loop rs.length 0 _ (Nat.zero_add _) rfl
theorem s_fold (rs : List (Int32 × Int32)) (x : Int32) : ∀ a : Int64, (rs.map fun e => e.2.toInt64 * (z_abs1 (e.1 - x)).toInt64).foldl (· + ·) a = a + s_dist rs x := by
  unfold s_dist
  induction rs with
  | nil => intro a; simp
  | cons e r ih =>
    intro a
    rw [List.map_cons, List.foldl_cons, List.foldl_cons, ih, ih (0 + _), Int64.zero_add, Int64.add_assoc]
abbrev rm_c_dist : Room := { frames := 1, cells := 0, slots := 0, locals := 40 }
set_option maxHeartbeats 4000000 in
set_option maxRecDepth 100000 in
theorem c_dist (l : Launch) (Γ : zY) (G : zG) {r na wa : Nat} {rs : List (Int32 × Int32)} {tot : Int32} (x : Int32) (hR : zRo Γ G r na wa rs tot) : ZM l yX2_distanceFrom cX2_distanceFrom 5 (some FieldType.long) rm_c_dist Γ [.ref r, .int x] G (zRd G (.long (s_dist rs x))) := by
  obtain ⟨hnw, hle, h1, f, g, h2, h3, h4⟩ := hR
  refine z_start (by decide +kernel) [some (.ref r), some (.int x), none, none, none] rfl (Nat.le_of_ble_eq_true rfl) ?_
  intro p e s m args below meth c Q A C F hr hnm
  have loop : ∀ (d i : Nat) (a : Int64), i + d = rs.length → s_dist rs x = a + s_dist (rs.drop i) x → Z p l e rm_c_dist s m args below meth c Q 5 Γ A G 0 0 5 [some (.ref r), some (.int x), some (.long a), none, some (.int (nI i))] [] := by
    intro d
    induction d with
    | zero =>
      intro i a hi hm
      refine z_iload C dX2_distanceFrom_5 rfl ?_
      first | refine z_rload_n C dX2_distanceFrom_7 rfl ?_ | refine z_nload_n C dX2_distanceFrom_7 rfl ?_ | refine z_aload_n C dX2_distanceFrom_7 rfl ?_
      refine z_getf (T := TX2) (N := 4) C (by first | assumption | exact zU_same _ _ _) rfl 2 (by decide) kw_103 (Or.inl rfl) rfl dX2_distanceFrom_8 ?_
      refine z_icmp_ge (tgt := 45) C dX2_distanceFrom_11 (by decide) (fun h11 => ?_) (fun h11 => ?_)
      · refine z_lload_n C dX2_distanceFrom_45 rfl ?_
        exact z_lret C F hr (Nat.le_of_ble_eq_true rfl) (Nat.le_of_ble_eq_true rfl) ⟨by rw [hm, List.drop_eq_nil_of_le (by omega)]; exact congrArg (fun z => some (Value.long z)) (Int64.add_zero a), rfl⟩ dX2_distanceFrom_46
      · exact absurd (nI_le (by omega) (by omega)) h11
    | succ d ih =>
      intro i a hi hm
      have hs : s_dist (rs.drop i) x = (g i).toInt64 * (z_abs1 (f i - x)).toInt64 + s_dist (rs.drop (i + 1)) x := by
        rw [z_drop h4 (by omega)]
        conv => lhs; unfold s_dist
        rw [List.map_cons, List.foldl_cons, s_fold, Int64.zero_add]
      refine z_iload C dX2_distanceFrom_5 rfl ?_
      first | refine z_rload_n C dX2_distanceFrom_7 rfl ?_ | refine z_nload_n C dX2_distanceFrom_7 rfl ?_ | refine z_aload_n C dX2_distanceFrom_7 rfl ?_
      refine z_getf (T := TX2) (N := 4) C (by first | assumption | exact zU_same _ _ _) rfl 2 (by decide) kw_103 (Or.inl rfl) rfl dX2_distanceFrom_8 ?_
      refine z_icmp_ge (tgt := 45) C dX2_distanceFrom_11 (by decide) (fun h11 => ?_) (fun h11 => ?_)
      · exact absurd h11 (nI_ge (by omega) (by omega))
      · have hv : vp_in (nI i) 80 := vp_in_nI (by omega) (by omega)
        refine z_lload_n C dX2_distanceFrom_14 rfl ?_
        first | refine z_rload_n C dX2_distanceFrom_15 rfl ?_ | refine z_nload_n C dX2_distanceFrom_15 rfl ?_ | refine z_aload_n C dX2_distanceFrom_15 rfl ?_
        refine z_getf (T := TX2) (N := 4) C (by first | assumption | exact zU_same _ _ _) rfl 1 (by decide) kw_102 (Or.inl rfl) rfl dX2_distanceFrom_16 ?_
        refine z_iload C dX2_distanceFrom_19 rfl ?_
        refine z_iald C (by first | assumption | exact zU_same _ _ _) (by assumption) dX2_distanceFrom_21 ?_
        rw [nI_clamp (by omega)]
        refine z_i2l C dX2_distanceFrom_22 ?_
        first | refine z_rload_n C dX2_distanceFrom_23 rfl ?_ | refine z_nload_n C dX2_distanceFrom_23 rfl ?_ | refine z_aload_n C dX2_distanceFrom_23 rfl ?_
        refine z_getf (T := TX2) (N := 4) C (by first | assumption | exact zU_same _ _ _) rfl 0 (by decide) kw_101 (Or.inl rfl) rfl dX2_distanceFrom_24 ?_
        refine z_iload C dX2_distanceFrom_27 rfl ?_
        refine z_iald C (by first | assumption | exact zU_same _ _ _) (by assumption) dX2_distanceFrom_29 ?_
        rw [nI_clamp (by omega)]
        refine z_iload_n C dX2_distanceFrom_30 rfl ?_
        refine z_isub C dX2_distanceFrom_31 ?_
        refine z_abs C km_X2_distanceFrom_32 (Nat.le_of_ble_eq_true rfl) (Nat.le_of_ble_eq_true rfl) (Nat.le_of_ble_eq_true rfl) (Nat.le_of_ble_eq_true rfl) dX2_distanceFrom_32 ?_
        refine z_i2l C dX2_distanceFrom_35 ?_
        refine z_lmul C dX2_distanceFrom_36 ?_
        refine z_ladd C dX2_distanceFrom_37 ?_
        refine z_lstore_n C dX2_distanceFrom_38 (by decide) ?_
        refine z_iinc (w := 1) C dX2_distanceFrom_39 rfl rfl (by decide) ?_
        refine z_goto (tgt := 5) C dX2_distanceFrom_42 (by decide) ?_
        rw [← nI_succ]
        refine ih (i + 1) _ (by omega) ?_
        rw [hm, hs, Int64.add_assoc]
  refine z_lconst (v := 0) C dX2_distanceFrom_0 rfl ?_
  refine z_lstore_n C dX2_distanceFrom_1 (by decide) ?_
  refine z_iconst (v := 0) C dX2_distanceFrom_2 rfl ?_
  refine z_istore C dX2_distanceFrom_3 (by decide) ?_
  exact loop rs.length 0 0 (Nat.zero_add _) (Int64.zero_add _).symm
theorem s_fi {rs : List (Int32 × Int32)} {f g : Nat → Int32} (h : ∀ i, i < rs.length → rs[i]? = some (f i, g i)) (h2 : 2 ≤ rs.length) : s_wid rs = s_gapAll rs (4000 - (f (rs.length - 1) - f 0)) := by
  unfold s_wid
  rw [if_neg (by omega), List.getLast?_eq_getElem?, h _ (by omega), List.headD_eq_head?_getD, List.head?_eq_getElem?, h 0 (by omega)]
  rfl
abbrev rm_c_wid : Room := { frames := 1, cells := 0, slots := 0, locals := 40 }
set_option maxHeartbeats 4000000 in
set_option maxRecDepth 100000 in
theorem c_wid (l : Launch) (Γ : zY) (G : zG) {r na wa : Nat} {rs : List (Int32 × Int32)} {tot : Int32} (hR : zRo Γ G r na wa rs tot) : ZM l yX2_widestGap cX2_widestGap 3 (some FieldType.int) rm_c_wid Γ [.ref r] G (zRd G (.int (s_wid rs))) := by
  obtain ⟨hnw, hle, h1, f, g, h2, h3, h4⟩ := hR
  refine z_start (by decide +kernel) [some (.ref r), none, none] rfl (Nat.le_of_ble_eq_true rfl) ?_
  intro p e s m args below meth c Q A C F hr hnm
  have loop : ∀ (d i : Nat) (a : Int32), i + d = rs.length → 1 ≤ i → s_wid rs = s_gapAll (rs.drop (i - 1)) a → Z p l e rm_c_wid s m args below meth c Q 3 Γ A G 0 0 37 [some (.ref r), some (.int a), some (.int (nI i))] [] := by
    intro d
    induction d with
    | zero =>
      intro i a hi h1i hm
      refine z_iload_n C dX2_widestGap_37 rfl ?_
      first | refine z_rload_n C dX2_widestGap_38 rfl ?_ | refine z_nload_n C dX2_widestGap_38 rfl ?_ | refine z_aload_n C dX2_widestGap_38 rfl ?_
      refine z_getf (T := TX2) (N := 4) C (by first | assumption | exact zU_same _ _ _) rfl 2 (by decide) kw_103 (Or.inl rfl) rfl dX2_widestGap_39 ?_
      refine z_icmp_ge (tgt := 71) C dX2_widestGap_42 (by decide) (fun h42 => ?_) (fun h42 => ?_)
      · refine z_iload_n C dX2_widestGap_71 rfl ?_
        exact z_iret C F hr (Nat.le_of_ble_eq_true rfl) (Nat.le_of_ble_eq_true rfl) ⟨by rw [hm, List.drop_eq_getElem_cons (by omega), List.drop_eq_nil_of_le (by omega)]; rfl, rfl⟩ dX2_widestGap_72
      · exact absurd (nI_le (by omega) (by omega)) h42
    | succ d ih =>
      intro i a hi h1i hm
      obtain ⟨j, rfl⟩ : ∃ j, i = j + 1 := ⟨i - 1, by omega⟩
      rw [Nat.add_sub_cancel, z_drop h4 (by omega), z_drop (i := j + 1) h4 (by omega), s_gapAll, ← z_drop h4 (by omega)] at hm
      refine z_iload_n C dX2_widestGap_37 rfl ?_
      first | refine z_rload_n C dX2_widestGap_38 rfl ?_ | refine z_nload_n C dX2_widestGap_38 rfl ?_ | refine z_aload_n C dX2_widestGap_38 rfl ?_
      refine z_getf (T := TX2) (N := 4) C (by first | assumption | exact zU_same _ _ _) rfl 2 (by decide) kw_103 (Or.inl rfl) rfl dX2_widestGap_39 ?_
      refine z_icmp_ge (tgt := 71) C dX2_widestGap_42 (by decide) (fun h42 => ?_) (fun h42 => ?_)
      · exact absurd h42 (nI_ge (by omega) (by omega))
      · have hv : vp_in (nI (j + 1)) 80 := vp_in_nI (by omega) (by omega)
        have hv1 : vp_in (nI j) 80 := vp_in_nI (by omega) (by omega)
        refine z_iload_n C dX2_widestGap_45 rfl ?_
        first | refine z_rload_n C dX2_widestGap_46 rfl ?_ | refine z_nload_n C dX2_widestGap_46 rfl ?_ | refine z_aload_n C dX2_widestGap_46 rfl ?_
        refine z_getf (T := TX2) (N := 4) C (by first | assumption | exact zU_same _ _ _) rfl 0 (by decide) kw_101 (Or.inl rfl) rfl dX2_widestGap_47 ?_
        refine z_iload_n C dX2_widestGap_50 rfl ?_
        refine z_iald C (by first | assumption | exact zU_same _ _ _) (by assumption) dX2_widestGap_51 ?_
        rw [nI_clamp (by omega)]
        first | refine z_rload_n C dX2_widestGap_52 rfl ?_ | refine z_nload_n C dX2_widestGap_52 rfl ?_ | refine z_aload_n C dX2_widestGap_52 rfl ?_
        refine z_getf (T := TX2) (N := 4) C (by first | assumption | exact zU_same _ _ _) rfl 0 (by decide) kw_101 (Or.inl rfl) rfl dX2_widestGap_53 ?_
        refine z_iload_n C dX2_widestGap_56 rfl ?_
        refine z_iconst (v := 1) C dX2_widestGap_57 rfl ?_
        refine z_isub C dX2_widestGap_58 ?_
        rw [nI_pred]
        refine z_iald C (by first | assumption | exact zU_same _ _ _) (by assumption) dX2_widestGap_59 ?_
        rw [nI_clamp (by omega)]
        refine z_isub C dX2_widestGap_60 ?_
        refine z_max C km_X2_widestGap_61 (Nat.le_of_ble_eq_true rfl) (Nat.le_of_ble_eq_true rfl) (Nat.le_of_ble_eq_true rfl) (Nat.le_of_ble_eq_true rfl) dX2_widestGap_61 ?_
        refine z_istore_n C dX2_widestGap_64 (by decide) ?_
        refine z_iinc (w := 1) C dX2_widestGap_65 rfl rfl (by decide) ?_
        refine z_goto (tgt := 37) C dX2_widestGap_68 (by decide) ?_
        rw [← nI_succ]
        exact ih (j + 1 + 1) _ (by omega) (by omega) hm
  first | refine z_rload_n C dX2_widestGap_0 rfl ?_ | refine z_nload_n C dX2_widestGap_0 rfl ?_ | refine z_aload_n C dX2_widestGap_0 rfl ?_
  refine z_getf (T := TX2) (N := 4) C (by first | assumption | exact zU_same _ _ _) rfl 2 (by decide) kw_103 (Or.inl rfl) rfl dX2_widestGap_1 ?_
  refine z_iconst (v := 2) C dX2_widestGap_4 rfl ?_
  refine z_icmp_ge (tgt := 12) C dX2_widestGap_5 (by decide) (fun h5 => ?_) (fun h5 => ?_)
  · have h2l : 2 ≤ rs.length := by
      rcases Nat.lt_or_ge rs.length 2 with q | q
      · exact absurd h5 (nI_ge (b := 2) q (by decide))
      · exact q
    obtain ⟨j, hj⟩ : ∃ j, rs.length = j + 1 := ⟨rs.length - 1, by omega⟩
    have hv : vp_in (nI j) 80 := vp_in_nI (by omega) (by omega)
    have hv1 : vp_in 0 80 := by unfold vp_in; decide
    refine z_sipush (v := 4000) C dX2_widestGap_12 rfl ?_
    first | refine z_rload_n C dX2_widestGap_15 rfl ?_ | refine z_nload_n C dX2_widestGap_15 rfl ?_ | refine z_aload_n C dX2_widestGap_15 rfl ?_
    refine z_getf (T := TX2) (N := 4) C (by first | assumption | exact zU_same _ _ _) rfl 0 (by decide) kw_101 (Or.inl rfl) rfl dX2_widestGap_16 ?_
    first | refine z_rload_n C dX2_widestGap_19 rfl ?_ | refine z_nload_n C dX2_widestGap_19 rfl ?_ | refine z_aload_n C dX2_widestGap_19 rfl ?_
    refine z_getf (T := TX2) (N := 4) C (by first | assumption | exact zU_same _ _ _) rfl 2 (by decide) kw_103 (Or.inl rfl) rfl dX2_widestGap_20 ?_
    refine z_iconst (v := 1) C dX2_widestGap_23 rfl ?_
    refine z_isub C dX2_widestGap_24 ?_
    rw [hj, nI_pred]
    refine z_iald C (by first | assumption | exact zU_same _ _ _) (by assumption) dX2_widestGap_25 ?_
    rw [nI_clamp (by omega)]
    first | refine z_rload_n C dX2_widestGap_26 rfl ?_ | refine z_nload_n C dX2_widestGap_26 rfl ?_ | refine z_aload_n C dX2_widestGap_26 rfl ?_
    refine z_getf (T := TX2) (N := 4) C (by first | assumption | exact zU_same _ _ _) rfl 0 (by decide) kw_101 (Or.inl rfl) rfl dX2_widestGap_27 ?_
    refine z_iconst (v := 0) C dX2_widestGap_30 rfl ?_
    refine z_iald C (by first | assumption | exact zU_same _ _ _) (by assumption) dX2_widestGap_31 ?_
    refine z_isub C dX2_widestGap_32 ?_
    refine z_isub C dX2_widestGap_33 ?_
    refine z_istore_n C dX2_widestGap_34 (by decide) ?_
    refine z_iconst (v := 1) C dX2_widestGap_35 rfl ?_
    refine z_istore_n C dX2_widestGap_36 (by decide) ?_
    refine loop (rs.length - 1) 1 _ (by omega) (Nat.le_refl _) ?_
    rw [s_fi h4 h2l, hj]
    rfl
  · have h2l : rs.length < 2 := by
      rcases Nat.lt_or_ge rs.length 2 with q | q
      · exact q
      · exact absurd (nI_le (a := 2) q (by omega)) h5
    refine z_sipush (v := 4000) C dX2_widestGap_8 rfl ?_
    exact z_iret C F hr (Nat.le_of_ble_eq_true rfl) (Nat.le_of_ble_eq_true rfl) ⟨by unfold s_wid; rw [if_pos h2l], rfl⟩ dX2_widestGap_11

