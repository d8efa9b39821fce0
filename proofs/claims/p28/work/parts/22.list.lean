theorem dJx4a65c_clear_da8c8_0 : decode cJx4a65c_clear_da8c8 0 = .ok (.aload_n 0, 1) := by decide +kernel
theorem dJx4a65c_clear_da8c8_1 : decode cJx4a65c_clear_da8c8 1 = .ok (.dup, 1) := by decide +kernel
theorem dJx4a65c_clear_da8c8_2 : decode cJx4a65c_clear_da8c8 2 = .ok (.getfield 63, 3) := by decide +kernel
theorem dJx4a65c_clear_da8c8_5 : decode cJx4a65c_clear_da8c8 5 = .ok (.iconst 1, 1) := by decide +kernel
theorem dJx4a65c_clear_da8c8_6 : decode cJx4a65c_clear_da8c8 6 = .ok (.iadd, 1) := by decide +kernel
theorem dJx4a65c_clear_da8c8_7 : decode cJx4a65c_clear_da8c8 7 = .ok (.putfield 63, 3) := by decide +kernel
theorem dJx4a65c_clear_da8c8_10 : decode cJx4a65c_clear_da8c8 10 = .ok (.aload_n 0, 1) := by decide +kernel
theorem dJx4a65c_clear_da8c8_11 : decode cJx4a65c_clear_da8c8 11 = .ok (.getfield 9, 3) := by decide +kernel
theorem dJx4a65c_clear_da8c8_14 : decode cJx4a65c_clear_da8c8 14 = .ok (.astore_n 1, 1) := by decide +kernel
theorem dJx4a65c_clear_da8c8_15 : decode cJx4a65c_clear_da8c8 15 = .ok (.aload_n 0, 1) := by decide +kernel
theorem dJx4a65c_clear_da8c8_16 : decode cJx4a65c_clear_da8c8 16 = .ok (.getfield 48, 3) := by decide +kernel
theorem dJx4a65c_clear_da8c8_19 : decode cJx4a65c_clear_da8c8 19 = .ok (.istore_n 2, 1) := by decide +kernel
theorem dJx4a65c_clear_da8c8_20 : decode cJx4a65c_clear_da8c8 20 = .ok (.aload_n 0, 1) := by decide +kernel
theorem dJx4a65c_clear_da8c8_21 : decode cJx4a65c_clear_da8c8 21 = .ok (.iconst 0, 1) := by decide +kernel
theorem dJx4a65c_clear_da8c8_22 : decode cJx4a65c_clear_da8c8 22 = .ok (.dup_x1, 1) := by decide +kernel
theorem dJx4a65c_clear_da8c8_23 : decode cJx4a65c_clear_da8c8 23 = .ok (.putfield 48, 3) := by decide +kernel
theorem dJx4a65c_clear_da8c8_26 : decode cJx4a65c_clear_da8c8 26 = .ok (.istore_n 3, 1) := by decide +kernel
theorem dJx4a65c_clear_da8c8_27 : decode cJx4a65c_clear_da8c8 27 = .ok (.iload_n 3, 1) := by decide +kernel
theorem dJx4a65c_clear_da8c8_28 : decode cJx4a65c_clear_da8c8 28 = .ok (.iload_n 2, 1) := by decide +kernel
theorem dJx4a65c_clear_da8c8_29 : decode cJx4a65c_clear_da8c8 29 = .ok (.if_icmp .ge 13, 3) := by decide +kernel
theorem dJx4a65c_clear_da8c8_32 : decode cJx4a65c_clear_da8c8 32 = .ok (.aload_n 1, 1) := by decide +kernel
theorem dJx4a65c_clear_da8c8_33 : decode cJx4a65c_clear_da8c8 33 = .ok (.iload_n 3, 1) := by decide +kernel
theorem dJx4a65c_clear_da8c8_34 : decode cJx4a65c_clear_da8c8 34 = .ok (.aconst_null, 1) := by decide +kernel
theorem dJx4a65c_clear_da8c8_35 : decode cJx4a65c_clear_da8c8 35 = .ok (.aastore, 1) := by decide +kernel
theorem dJx4a65c_clear_da8c8_36 : decode cJx4a65c_clear_da8c8 36 = .ok (.iinc 3 1, 3) := by decide +kernel
theorem dJx4a65c_clear_da8c8_39 : decode cJx4a65c_clear_da8c8 39 = .ok (.goto (-12), 3) := by decide +kernel
theorem dJx4a65c_clear_da8c8_42 : decode cJx4a65c_clear_da8c8 42 = .ok (.return_, 1) := by decide +kernel
theorem dJx4a65c_rangeCheckForAdd_d00df_0 : decode cJx4a65c_rangeCheckForAdd_d00df 0 = .ok (.iload_n 1, 1) := by decide +kernel
theorem dJx4a65c_rangeCheckForAdd_d00df_1 : decode cJx4a65c_rangeCheckForAdd_d00df 1 = .ok (.aload_n 0, 1) := by decide +kernel
theorem dJx4a65c_rangeCheckForAdd_d00df_2 : decode cJx4a65c_rangeCheckForAdd_d00df 2 = .ok (.getfield 48, 3) := by decide +kernel
theorem dJx4a65c_rangeCheckForAdd_d00df_5 : decode cJx4a65c_rangeCheckForAdd_d00df 5 = .ok (.if_icmp .gt 7, 3) := by decide +kernel
theorem dJx4a65c_rangeCheckForAdd_d00df_8 : decode cJx4a65c_rangeCheckForAdd_d00df 8 = .ok (.iload_n 1, 1) := by decide +kernel
theorem dJx4a65c_rangeCheckForAdd_d00df_9 : decode cJx4a65c_rangeCheckForAdd_d00df 9 = .ok (.ifCond .ge 16, 3) := by decide +kernel
theorem dJx4a65c_rangeCheckForAdd_d00df_12 : decode cJx4a65c_rangeCheckForAdd_d00df 12 = .ok (.new 187, 3) := by decide +kernel
theorem dJx4a65c_rangeCheckForAdd_d00df_15 : decode cJx4a65c_rangeCheckForAdd_d00df 15 = .ok (.dup, 1) := by decide +kernel
theorem dJx4a65c_rangeCheckForAdd_d00df_16 : decode cJx4a65c_rangeCheckForAdd_d00df 16 = .ok (.aload_n 0, 1) := by decide +kernel
theorem dJx4a65c_rangeCheckForAdd_d00df_17 : decode cJx4a65c_rangeCheckForAdd_d00df 17 = .ok (.iload_n 1, 1) := by decide +kernel
theorem dJx4a65c_rangeCheckForAdd_d00df_18 : decode cJx4a65c_rangeCheckForAdd_d00df 18 = .ok (.invokevirtual 198, 3) := by decide +kernel
theorem dJx4a65c_rangeCheckForAdd_d00df_21 : decode cJx4a65c_rangeCheckForAdd_d00df 21 = .ok (.invokespecial 193, 3) := by decide +kernel
theorem dJx4a65c_rangeCheckForAdd_d00df_24 : decode cJx4a65c_rangeCheckForAdd_d00df 24 = .ok (.athrow, 1) := by decide +kernel
theorem dJx4a65c_rangeCheckForAdd_d00df_25 : decode cJx4a65c_rangeCheckForAdd_d00df 25 = .ok (.return_, 1) := by decide +kernel
theorem dJx4a65c_add_7a177_0 : decode cJx4a65c_add_7a177 0 = .ok (.aload_n 0, 1) := by decide +kernel
theorem dJx4a65c_add_7a177_1 : decode cJx4a65c_add_7a177 1 = .ok (.iload_n 1, 1) := by decide +kernel
theorem dJx4a65c_add_7a177_2 : decode cJx4a65c_add_7a177 2 = .ok (.invokevirtual 135, 3) := by decide +kernel
theorem dJx4a65c_add_7a177_5 : decode cJx4a65c_add_7a177 5 = .ok (.aload_n 0, 1) := by decide +kernel
theorem dJx4a65c_add_7a177_6 : decode cJx4a65c_add_7a177 6 = .ok (.dup, 1) := by decide +kernel
theorem dJx4a65c_add_7a177_7 : decode cJx4a65c_add_7a177 7 = .ok (.getfield 63, 3) := by decide +kernel
theorem dJx4a65c_add_7a177_10 : decode cJx4a65c_add_7a177 10 = .ok (.iconst 1, 1) := by decide +kernel
theorem dJx4a65c_add_7a177_11 : decode cJx4a65c_add_7a177 11 = .ok (.iadd, 1) := by decide +kernel
theorem dJx4a65c_add_7a177_12 : decode cJx4a65c_add_7a177 12 = .ok (.putfield 63, 3) := by decide +kernel
theorem dJx4a65c_add_7a177_15 : decode cJx4a65c_add_7a177 15 = .ok (.aload_n 0, 1) := by decide +kernel
theorem dJx4a65c_add_7a177_16 : decode cJx4a65c_add_7a177 16 = .ok (.getfield 48, 3) := by decide +kernel
theorem dJx4a65c_add_7a177_19 : decode cJx4a65c_add_7a177 19 = .ok (.dup, 1) := by decide +kernel
theorem dJx4a65c_add_7a177_20 : decode cJx4a65c_add_7a177 20 = .ok (.istore_n 3, 1) := by decide +kernel
theorem dJx4a65c_add_7a177_21 : decode cJx4a65c_add_7a177 21 = .ok (.aload_n 0, 1) := by decide +kernel
theorem dJx4a65c_add_7a177_22 : decode cJx4a65c_add_7a177 22 = .ok (.getfield 9, 3) := by decide +kernel
theorem dJx4a65c_add_7a177_25 : decode cJx4a65c_add_7a177 25 = .ok (.dup, 1) := by decide +kernel
theorem dJx4a65c_add_7a177_26 : decode cJx4a65c_add_7a177 26 = .ok (.astore 4, 2) := by decide +kernel
theorem dJx4a65c_add_7a177_28 : decode cJx4a65c_add_7a177 28 = .ok (.arraylength, 1) := by decide +kernel
theorem dJx4a65c_add_7a177_29 : decode cJx4a65c_add_7a177 29 = .ok (.if_icmp .ne 9, 3) := by decide +kernel
theorem dJx4a65c_add_7a177_32 : decode cJx4a65c_add_7a177 32 = .ok (.aload_n 0, 1) := by decide +kernel
theorem dJx4a65c_add_7a177_33 : decode cJx4a65c_add_7a177 33 = .ok (.invokevirtual 129, 3) := by decide +kernel
theorem dJx4a65c_add_7a177_36 : decode cJx4a65c_add_7a177 36 = .ok (.astore 4, 2) := by decide +kernel
theorem dJx4a65c_add_7a177_38 : decode cJx4a65c_add_7a177 38 = .ok (.aload 4, 2) := by decide +kernel
theorem dJx4a65c_add_7a177_40 : decode cJx4a65c_add_7a177 40 = .ok (.iload_n 1, 1) := by decide +kernel
theorem dJx4a65c_add_7a177_41 : decode cJx4a65c_add_7a177 41 = .ok (.aload 4, 2) := by decide +kernel
theorem dJx4a65c_add_7a177_43 : decode cJx4a65c_add_7a177 43 = .ok (.iload_n 1, 1) := by decide +kernel
theorem dJx4a65c_add_7a177_44 : decode cJx4a65c_add_7a177 44 = .ok (.iconst 1, 1) := by decide +kernel
theorem dJx4a65c_add_7a177_45 : decode cJx4a65c_add_7a177 45 = .ok (.iadd, 1) := by decide +kernel
theorem dJx4a65c_add_7a177_46 : decode cJx4a65c_add_7a177 46 = .ok (.iload_n 3, 1) := by decide +kernel
theorem dJx4a65c_add_7a177_47 : decode cJx4a65c_add_7a177 47 = .ok (.iload_n 1, 1) := by decide +kernel
theorem dJx4a65c_add_7a177_48 : decode cJx4a65c_add_7a177 48 = .ok (.isub, 1) := by decide +kernel
theorem dJx4a65c_add_7a177_49 : decode cJx4a65c_add_7a177 49 = .ok (.invokestatic 112, 3) := by decide +kernel
theorem dJx4a65c_add_7a177_52 : decode cJx4a65c_add_7a177 52 = .ok (.aload 4, 2) := by decide +kernel
theorem dJx4a65c_add_7a177_54 : decode cJx4a65c_add_7a177 54 = .ok (.iload_n 1, 1) := by decide +kernel
theorem dJx4a65c_add_7a177_55 : decode cJx4a65c_add_7a177 55 = .ok (.aload_n 2, 1) := by decide +kernel
theorem dJx4a65c_add_7a177_56 : decode cJx4a65c_add_7a177 56 = .ok (.aastore, 1) := by decide +kernel
theorem dJx4a65c_add_7a177_57 : decode cJx4a65c_add_7a177 57 = .ok (.aload_n 0, 1) := by decide +kernel
theorem dJx4a65c_add_7a177_58 : decode cJx4a65c_add_7a177 58 = .ok (.iload_n 3, 1) := by decide +kernel
theorem dJx4a65c_add_7a177_59 : decode cJx4a65c_add_7a177 59 = .ok (.iconst 1, 1) := by decide +kernel
theorem dJx4a65c_add_7a177_60 : decode cJx4a65c_add_7a177 60 = .ok (.iadd, 1) := by decide +kernel
theorem dJx4a65c_add_7a177_61 : decode cJx4a65c_add_7a177 61 = .ok (.putfield 48, 3) := by decide +kernel
theorem dJx4a65c_add_7a177_64 : decode cJx4a65c_add_7a177 64 = .ok (.return_, 1) := by decide +kernel
theorem kx_Jx4a65c_add_7a177_49 : ∀ w ∈ ([Cond.methodLink "java/util/ArrayList" 112 ⟨"java/lang/System", "arraycopy", "(Ljava/lang/Object;ILjava/lang/Object;II)V"⟩, Cond.native ⟨"java/lang/System", "arraycopy", "(Ljava/lang/Object;ILjava/lang/Object;II)V"⟩, Cond.static ⟨"java/lang/System", "arraycopy", "(Ljava/lang/Object;ILjava/lang/Object;II)V"⟩, Cond.initialized "java/lang/System"] : List Cond), w ∈ lw_all := zin [507, 398, 397, 40] (by decide +kernel)
theorem ky_Jx4a65c_rangeCheckForAdd_d00df : yJx4a65c_rangeCheckForAdd_d00df.cls ≠ "java/lang/invoke/MethodHandle" ∧ yJx4a65c_rangeCheckForAdd_d00df.cls ≠ "java/lang/invoke/VarHandle" ∧ (parseMethodDescriptor yJx4a65c_rangeCheckForAdd_d00df.desc).map (fun d => d.parameters.length) = some 1 := by decide +kernel
theorem kc_Jx4a65c_add_7a177_2 : ∀ w ∈ ([Cond.methodLink "java/util/ArrayList" 135 yJx4a65c_rangeCheckForAdd_d00df, Cond.instanceMethod yJx4a65c_rangeCheckForAdd_d00df, Cond.selects "java/util/ArrayList" yJx4a65c_rangeCheckForAdd_d00df yJx4a65c_rangeCheckForAdd_d00df, Cond.initialized "java/util/ArrayList", Cond.code yJx4a65c_rangeCheckForAdd_d00df prog_25_method_45_code 2 (Option.none : Option Jvm.ClassFile.FieldType)] : List Cond), w ∈ lw_all := zin [529, 531, 10, 27, 532] (by decide +kernel)
theorem kc_Jx4a65c_add_7a177_33 : ∀ w ∈ ([Cond.methodLink "java/util/ArrayList" 129 yJx4a65c_grow_d5877, Cond.instanceMethod yJx4a65c_grow_d5877, Cond.selects "java/util/ArrayList" yJx4a65c_grow_d5877 yJx4a65c_grow_d5877, Cond.initialized "java/util/ArrayList", Cond.code yJx4a65c_grow_d5877 prog_25_method_7_code 1 (Option.some (Jvm.ClassFile.FieldType.array (Jvm.ClassFile.FieldType.object "java/lang/Object")))] : List Cond), w ∈ lw_all := zin [351, 353, 3, 27, 354] (by decide +kernel)
/-! ArrayList: clear, add at a place -/
abbrev rm_c_clear : Room := { frames := 0, cells := 0, slots := 0, locals := 0 }
set_option maxHeartbeats 4000000 in
set_option maxRecDepth 100000 in
theorem c_clear (l : Launch) (Γ : zY) (G : zG) {a arr : Nat} {xs : List Nat} (hL : zLs Γ G a arr xs) : ZM l yJx4a65c_clear_da8c8 cJx4a65c_clear_da8c8 4 (none) rm_c_clear Γ [.ref a] G (fun v G' => none = v ∧ zLs Γ G' a arr [] ∧ ∀ q, q ≠ a → q ≠ arr → G' q = G q) := by
  obtain ⟨mc, cap, ha, h1, h2, h3⟩ := hL
  refine z_start (by decide +kernel) [some (.ref a), none, none, none] rfl (Nat.le_of_ble_eq_true rfl) ?_
  intro p e s m args below meth c Q A C F hr hnm
  first | refine z_rload_n C dJx4a65c_clear_da8c8_0 rfl ?_ | refine z_nload_n C dJx4a65c_clear_da8c8_0 rfl ?_ | refine z_aload_n C dJx4a65c_clear_da8c8_0 rfl ?_
  refine z_dup C rfl dJx4a65c_clear_da8c8_1 ?_
  refine z_getf (T := TJx4a65c) (N := 3) C (by first | assumption | exact zU_same _ _ _) rfl 0 (by decide) kw_73 (Or.inr kw_74) rfl dJx4a65c_clear_da8c8_2 ?_
  refine z_iconst (v := 1) C dJx4a65c_clear_da8c8_5 rfl ?_
  refine z_iadd C dJx4a65c_clear_da8c8_6 ?_
  refine z_putf (T := TJx4a65c) (N := 3) C (by first | assumption | exact zU_same _ _ _) rfl 0 (by decide) kw_73 (Or.inr kw_74) rfl (tyJx4a65c_ok 0 (by decide)) rfl rfl (Nat.le_of_ble_eq_true rfl) dJx4a65c_clear_da8c8_7 ?_
  first | refine z_rload_n C dJx4a65c_clear_da8c8_10 rfl ?_ | refine z_nload_n C dJx4a65c_clear_da8c8_10 rfl ?_ | refine z_aload_n C dJx4a65c_clear_da8c8_10 rfl ?_
  refine z_getf (T := TJx4a65c) (N := 3) C (by first | assumption | exact zU_same _ _ _) rfl 1 (by decide) kw_70 (Or.inl rfl) rfl dJx4a65c_clear_da8c8_11 ?_
  first | refine z_rstore_n C dJx4a65c_clear_da8c8_14 (by decide) ?_ | refine z_nstore_n C dJx4a65c_clear_da8c8_14 (by decide) ?_ | refine z_astore_n C dJx4a65c_clear_da8c8_14 (by decide) ?_
  first | refine z_rload_n C dJx4a65c_clear_da8c8_15 rfl ?_ | refine z_nload_n C dJx4a65c_clear_da8c8_15 rfl ?_ | refine z_aload_n C dJx4a65c_clear_da8c8_15 rfl ?_
  refine z_getf (T := TJx4a65c) (N := 3) C (by first | assumption | exact zU_same _ _ _) rfl 2 (by decide) kw_71 (Or.inl rfl) rfl dJx4a65c_clear_da8c8_16 ?_
  refine z_istore_n C dJx4a65c_clear_da8c8_19 (by decide) ?_
  first | refine z_rload_n C dJx4a65c_clear_da8c8_20 rfl ?_ | refine z_nload_n C dJx4a65c_clear_da8c8_20 rfl ?_ | refine z_aload_n C dJx4a65c_clear_da8c8_20 rfl ?_
  refine z_iconst (v := 0) C dJx4a65c_clear_da8c8_21 rfl ?_
  refine z_dup_x1 C rfl rfl dJx4a65c_clear_da8c8_22 ?_
  refine z_putf (T := TJx4a65c) (N := 3) C (by first | assumption | exact zU_same _ _ _) rfl 2 (by decide) kw_71 (Or.inl rfl) rfl (tyJx4a65c_ok 2 (by decide)) rfl rfl (Nat.le_of_ble_eq_true rfl) dJx4a65c_clear_da8c8_23 ?_
  refine z_istore_n C dJx4a65c_clear_da8c8_26 (by decide) ?_
  rw [zU_zU]
  have loop : ∀ (d i : Nat) (G1 : zG), i + d = xs.length → zLs Γ G1 a arr [] → (1 ≤ cap → ∃ f, G1 arr = some (zO Γ cap f)) → (∀ q, q ≠ a → q ≠ arr → G1 q = G q) → (xs.length = 0 ∨ 1 ≤ cap) → Z p l e rm_c_clear s m args below meth c Q 4 Γ A G1 0 0 27 [some (.ref a), some (.ref arr), some (.int (nI xs.length)), some (.int (nI i))] [] := by
    intro d
    induction d with
    | zero =>
      intro i G1 hd hl1 hf hfr hc
      refine z_iload_n C dJx4a65c_clear_da8c8_27 rfl ?_
      refine z_iload_n C dJx4a65c_clear_da8c8_28 rfl ?_
      refine z_icmp_ge (tgt := 42) C dJx4a65c_clear_da8c8_29 (by decide) (fun h29 => ?_) (fun h29 => ?_)
      · exact z_vret C F hr (Nat.le_of_ble_eq_true rfl) (Nat.le_of_ble_eq_true rfl) ⟨rfl, hl1, hfr⟩ dJx4a65c_clear_da8c8_42
      · exact absurd (nI_le (a := xs.length) (b := i) (by omega) (by omega)) h29
    | succ d ih =>
      intro i G1 hd hl1 hf hfr hc
      refine z_iload_n C dJx4a65c_clear_da8c8_27 rfl ?_
      refine z_iload_n C dJx4a65c_clear_da8c8_28 rfl ?_
      refine z_icmp_ge (tgt := 42) C dJx4a65c_clear_da8c8_29 (by decide) (fun h29 => ?_) (fun h29 => ?_)
      · exact absurd h29 (nI_ge (by omega) (by omega))
      · obtain ⟨f, hf⟩ := hf (by omega)
        first | refine z_rload_n C dJx4a65c_clear_da8c8_32 rfl ?_ | refine z_nload_n C dJx4a65c_clear_da8c8_32 rfl ?_ | refine z_aload_n C dJx4a65c_clear_da8c8_32 rfl ?_
        refine z_iload_n C dJx4a65c_clear_da8c8_33 rfl ?_
        refine z_null C dJx4a65c_clear_da8c8_34 ?_
        refine z_aastN C (by first | assumption | exact zU_same _ _ _) (vp_in_nI (n := i) (N := cap) (by omega) (by omega)) dJx4a65c_clear_da8c8_35 ?_
        rw [nI_clamp (by omega)]
        refine z_iinc (w := 1) C dJx4a65c_clear_da8c8_36 rfl rfl (by decide) ?_
        rw [← nI_succ]
        obtain ⟨m2, c2, g1, g2, g3, g4⟩ := hl1
        have hne : arr ≠ a := zG_ne hf g1 zO_ne_AL
        refine z_goto (tgt := 27) C dJx4a65c_clear_da8c8_39 (by decide) ?_
        refine ih (i + 1) _ (by omega) ⟨m2, c2, by rw [zU_ne hne.symm]; exact g1, g2, g3, ?_⟩ (fun _ => ⟨_, zU_same _ _ _⟩) (fun q q1 q2 => by rw [zU_ne q2]; exact hfr q q1 q2) hc
        rcases g4 with g4 | ⟨g4, f2, g5, g6⟩
        · exact Or.inl g4
        · rw [hf] at g5
          have ec : cap = c2 := by cases g5; rfl
          subst ec
          exact Or.inr ⟨g4, _, zU_same _ _ _, fun i hi => absurd hi (Nat.not_lt_zero i)⟩
  refine loop xs.length 0 _ (Nat.zero_add _) ?_ ?_ (fun q q1 _ => zU_ne q1) ?_
  · refine ⟨mc + 1, cap, zU_same _ _ _, Nat.zero_le _, h2, ?_⟩
    rcases h3 with h3 | ⟨h4, f, h5, h6⟩
    · exact Or.inl h3
    · exact Or.inr ⟨h4, f, by rw [zU_ne (zG_ne h5 ha zO_ne_AL)]; exact h5, fun i hi => absurd hi (Nat.not_lt_zero i)⟩
  · intro hc
    rcases h3 with ⟨h3, h4⟩ | ⟨h4, f, h5, h6⟩
    · omega
    · exact ⟨f, by rw [zU_ne (zG_ne h5 ha zO_ne_AL)]; exact h5⟩
  · rcases h3 with ⟨h3, h4⟩ | ⟨h4, f, h5, h6⟩
    · exact Or.inl (by omega)
    · exact Or.inr h4
abbrev rm_c_rangeAdd : Room := { frames := 0, cells := 0, slots := 0, locals := 0 }
set_option maxHeartbeats 4000000 in
set_option maxRecDepth 100000 in
theorem c_rangeAdd (l : Launch) (Γ : zY) (G : zG) {a arr i n : Nat} {mc : Int32} (ha : G a = some (oAL mc arr (nI n))) (hi : i ≤ n) (hn : n < 2 ^ 31) : ZM l yJx4a65c_rangeCheckForAdd_d00df cJx4a65c_rangeCheckForAdd_d00df 2 (none) rm_c_rangeAdd Γ [.ref a, .int (nI i)] G (fun v G' => none = v ∧ G = G') := by
  refine z_start (by decide +kernel) [some (.ref a), some (.int (nI i))] rfl (Nat.le_of_ble_eq_true rfl) ?_
  intro p e s m args below meth c Q A C F hr hnm
  refine z_iload_n C dJx4a65c_rangeCheckForAdd_d00df_0 rfl ?_
  first | refine z_rload_n C dJx4a65c_rangeCheckForAdd_d00df_1 rfl ?_ | refine z_nload_n C dJx4a65c_rangeCheckForAdd_d00df_1 rfl ?_ | refine z_aload_n C dJx4a65c_rangeCheckForAdd_d00df_1 rfl ?_
  refine z_getf (T := TJx4a65c) (N := 3) C (by first | assumption | exact zU_same _ _ _) rfl 2 (by decide) kw_71 (Or.inl rfl) rfl dJx4a65c_rangeCheckForAdd_d00df_2 ?_
  refine z_icmp_gt (tgt := 12) C dJx4a65c_rangeCheckForAdd_d00df_5 (by decide) (fun h5 => ?_) (fun h5 => ?_)
  · exact absurd h5 (nI_nlt hi hn)
  · refine z_iload_n C dJx4a65c_rangeCheckForAdd_d00df_8 rfl ?_
    refine z_if_ge (tgt := 25) C dJx4a65c_rangeCheckForAdd_d00df_9 (by decide) (fun h9 => ?_) (fun h9 => ?_)
    · exact z_vret C F hr (Nat.le_of_ble_eq_true rfl) (Nat.le_of_ble_eq_true rfl) ⟨rfl, rfl⟩ dJx4a65c_rangeCheckForAdd_d00df_25
    · exact absurd (nI_pos' (by omega)) h9
theorem s_insAt (f : Nat → Option Nat) (xs : List Nat) {i n x : Nat} (hi : i ≤ n) (hn : xs.length = n) (hf : ∀ j, j < n → f j = xs[j]?) : ∀ j, j < n + 1 → va_up (va_cpy f f i (i + 1) (n - i)) i (some x) j = (xs.take i ++ x :: xs.drop i)[j]? := by
  intro j hj
  have hl : (xs.take i).length = i := by rw [List.length_take]; omega
  rcases Nat.lt_trichotomy j i with h | h | h
  · rw [List.getElem?_append_left (by omega), List.getElem?_take_of_lt h]
    exact (if_neg (by omega)).trans ((pk_cpy_out (Or.inl (by omega))).trans (hf j (by omega)))
  · subst h
    rw [List.getElem?_append_right (by omega), hl, Nat.sub_self]
    exact if_pos rfl
  · rw [List.getElem?_append_right (by omega), hl, show j - i = (j - i - 1) + 1 by omega, List.getElem?_cons_succ, List.getElem?_drop]
    refine (if_neg (by omega)).trans ((pk_cpy_in (by omega) (by omega)).trans ((hf _ (by omega)).trans ?_))
    rw [show i + (j - (i + 1)) = i + (j - i - 1) by omega]
def zIns (Γ : zY) (G : zG) (a arr : Nat) (xs : List Nat) (i x : Nat) (G' : zG) : Prop := ∃ arr', (arr' = arr ∨ G arr' = none) ∧ zLs Γ G' a arr' (xs.take i ++ x :: xs.drop i) ∧ ∀ q, q ≠ a → q ≠ arr' → G' q = G q
abbrev rm_c_addAt : Room := { frames := 5, cells := 1, slots := 33, locals := 127 }
set_option maxHeartbeats 4000000 in
set_option maxRecDepth 100000 in
theorem c_addAt (l : Launch) (Γ : zY) (G : zG) {a arr x i : Nat} {xs : List Nat} (hL : zLs Γ G a arr xs) (hi : i ≤ xs.length) (hn : xs.length < 22) (hx : ∀ y ∈ xs, zOb G y) (hxo : zOb G x) (hxa : x ≠ a) (hya : a ∉ xs) :
    ZM l yJx4a65c_add_7a177 cJx4a65c_add_7a177 5 (none) rm_c_addAt Γ [.ref a, .int (nI i), .ref x] G (fun v G' => none = v ∧ zIns Γ G a arr xs i x G') := by
  obtain ⟨mc, cap, ha, h1, h2, h3⟩ := hL
  obtain ⟨ci, fs, q0, hxo, hc⟩ := hxo
  refine z_start (by decide +kernel) [some (.ref a), some (.int (nI i)), some (.ref x), none, none] rfl (Nat.le_of_ble_eq_true rfl) ?_
  intro p e s m args below meth c Q A C F hr hnm
  have hlen : (xs.take i ++ x :: xs.drop i).length = xs.length + 1 := by rw [List.length_append, List.length_take, List.length_cons, List.length_drop]; omega
  have tail : ∀ (G1 : zG) (r cp : Nat) (f : Nat → Option Nat) (k n : Nat), k ≤ 1 → n ≤ 33 → (r = arr ∨ G r = none) → r ≠ a → G1 r = some (zO Γ cp f) → xs.length < cp → cp ≤ 33 → (∀ i, i < xs.length → f i = xs[i]?) → (∃ m2, G1 a = some (oAL m2 r (nI xs.length))) → G1 x = some (.inr (ci, fs)) → (∀ y ∈ xs, zOb G1 y) → (∀ q, q ≠ a → q ≠ r → G1 q = G q) → Z p l e rm_c_addAt s m args below meth c Q 5 Γ A G1 k n 38 [some (.ref a), some (.int (nI i)), some (.ref x), some (.int (nI xs.length)), some (.ref r)] [] := by
    intro G1 r cp f k n hk hn2 hr1 hra hr3 hc1 hc2 hf ⟨m2, ha1⟩ hx1 hob hfr
    first | refine z_rload C dJx4a65c_add_7a177_38 rfl ?_ | refine z_aload C dJx4a65c_add_7a177_38 rfl ?_
    refine z_iload_n C dJx4a65c_add_7a177_40 rfl ?_
    first | refine z_rload C dJx4a65c_add_7a177_41 rfl ?_ | refine z_aload C dJx4a65c_add_7a177_41 rfl ?_
    refine z_iload_n C dJx4a65c_add_7a177_43 rfl ?_
    refine z_iconst (v := 1) C dJx4a65c_add_7a177_44 rfl ?_
    refine z_iadd C dJx4a65c_add_7a177_45 ?_
    refine z_iload_n C dJx4a65c_add_7a177_46 rfl ?_
    refine z_iload_n C dJx4a65c_add_7a177_47 rfl ?_
    refine z_isub C dJx4a65c_add_7a177_48 ?_
    have hxr : x ≠ r := zG_ne hx1 hr3 (fun h => zO_ne_AL h.symm)
    refine z_copy C hr3 hr3 kx_Jx4a65c_add_7a177_49 i (i + 1) (xs.length - i) rfl (nI_succ i).symm (pk_sub hi) ⟨by omega, by omega, by omega⟩ (by omega) (by omega) (fun j hj y hy => hob y (List.mem_of_getElem? ((hf (i + j) (by omega)).symm.trans hy))) (Nat.le_of_ble_eq_true rfl) (Nat.le_of_ble_eq_true rfl) dJx4a65c_add_7a177_49 ?_
    first | refine z_rload C dJx4a65c_add_7a177_52 rfl ?_ | refine z_aload C dJx4a65c_add_7a177_52 rfl ?_
    refine z_iload_n C dJx4a65c_add_7a177_54 rfl ?_
    first | refine z_rload_n C dJx4a65c_add_7a177_55 rfl ?_ | refine z_nload_n C dJx4a65c_add_7a177_55 rfl ?_ | refine z_aload_n C dJx4a65c_add_7a177_55 rfl ?_
    refine z_aast C (zU_same _ _ _) ((zU_ne hxr).trans hx1) hc (vp_in_nI (n := i) (N := cp) (by omega) (by omega)) dJx4a65c_add_7a177_56 ?_
    rw [zU_zU, nI_clamp (by omega)]
    first | refine z_rload_n C dJx4a65c_add_7a177_57 rfl ?_ | refine z_nload_n C dJx4a65c_add_7a177_57 rfl ?_ | refine z_aload_n C dJx4a65c_add_7a177_57 rfl ?_
    refine z_iload_n C dJx4a65c_add_7a177_58 rfl ?_
    refine z_iconst (v := 1) C dJx4a65c_add_7a177_59 rfl ?_
    refine z_iadd C dJx4a65c_add_7a177_60 ?_
    rw [← nI_succ]
    refine z_putf (T := TJx4a65c) (N := 3) C ((zU_ne hra.symm).trans ha1) rfl 2 (by decide) kw_71 (Or.inl rfl) rfl (tyJx4a65c_ok 2 (by decide)) rfl rfl (Nat.le_of_ble_eq_true rfl) dJx4a65c_add_7a177_61 ?_
    refine z_vret C F hr hk hn2 ?_ dJx4a65c_add_7a177_64
    refine ⟨rfl, r, hr1, ⟨m2, cp, by rw [hlen]; exact zU_same _ _ _, by rw [hlen]; exact hc1, hc2, Or.inr ⟨by omega, _, by rw [zU_ne hra]; exact zU_same _ _ _, fun j hj => ?_⟩⟩, fun q h1 h2 => by rw [zU_ne h1, zU_ne h2]; exact hfr q h1 h2⟩
    rw [hlen] at hj
    exact s_insAt f xs hi rfl hf j hj
  first | refine z_rload_n C dJx4a65c_add_7a177_0 rfl ?_ | refine z_nload_n C dJx4a65c_add_7a177_0 rfl ?_ | refine z_aload_n C dJx4a65c_add_7a177_0 rfl ?_
  refine z_iload_n C dJx4a65c_add_7a177_1 rfl ?_
  refine z_callV (q := (RJx4a65c, TJx4a65c, 3)) C (c_rangeAdd l Γ G ha hi (by omega)) kc_Jx4a65c_add_7a177_2 (by first | assumption | exact zU_same _ _ _) rfl rfl rfl rfl ky_Jx4a65c_rangeCheckForAdd_d00df ⟨(Nat.le_of_ble_eq_true rfl), (Nat.le_of_ble_eq_true rfl)⟩ (Nat.le_of_ble_eq_true rfl) ⟨(Nat.le_of_ble_eq_true rfl), (Nat.le_of_ble_eq_true rfl)⟩ dJx4a65c_add_7a177_2 (fun v2 G2 hp2 => ?_)
  obtain ⟨rfl, rfl⟩ := hp2
  have ob : ∀ y, y ≠ a → zOb G y → zOb (zU G a (oAL (mc + 1) arr (nI xs.length))) y := fun y hy ⟨ci, fs, q, h4, h5⟩ => ⟨ci, fs, q, (zU_ne hy).trans h4, h5⟩
  have hx2 : ∀ y ∈ xs, zOb (zU G a (oAL (mc + 1) arr (nI xs.length))) y := fun y hy => ob y (fun z => hya (z ▸ hy)) (hx y hy)
  have grow : ((arr = Γ.2.2 0 ∧ xs = []) ∨ (1 ≤ xs.length ∧ ∃ f, G arr = some (zO Γ xs.length f) ∧ ∀ i, i < xs.length → f i = xs[i]?)) → Z p l e rm_c_addAt s m args below meth c Q 5 Γ A (zU G a (oAL (mc + 1) arr (nI xs.length))) 0 0 32 [some (.ref a), some (.int (nI i)), some (.ref x), some (.int (nI xs.length)), some (.ref arr)] [] := by
    intro hg
    have hg2 : (arr = Γ.2.2 0 ∧ xs = []) ∨ (1 ≤ xs.length ∧ ∃ f, zU G a (oAL (mc + 1) arr (nI xs.length)) arr = some (zO Γ xs.length f) ∧ ∀ i, i < xs.length → f i = xs[i]?) := by
      rcases hg with hg | ⟨g1, f, g2, g3⟩
      · exact Or.inl hg
      · exact Or.inr ⟨g1, f, by rw [zU_ne (zG_ne g2 ha zO_ne_AL)]; exact g2, g3⟩
    first | refine z_rload_n C dJx4a65c_add_7a177_32 rfl ?_ | refine z_nload_n C dJx4a65c_add_7a177_32 rfl ?_ | refine z_aload_n C dJx4a65c_add_7a177_32 rfl ?_
    refine z_callV (q := (RJx4a65c, TJx4a65c, 3)) C (c_grow0 l Γ _ (zU_same _ _ _) hn hg2 hx2) kc_Jx4a65c_add_7a177_33 (zU_same _ _ _) rfl rfl rfl rfl ky_Jx4a65c_grow_d5877 ⟨(Nat.le_of_ble_eq_true rfl), (Nat.le_of_ble_eq_true rfl)⟩ (Nat.le_of_ble_eq_true rfl) ⟨(Nat.le_of_ble_eq_true rfl), (Nat.le_of_ble_eq_true rfl)⟩ dJx4a65c_add_7a177_33 (fun v33 G33 hp33 => ?_)
    obtain ⟨r, cp, f, rfl, hq, hk1, hk2, hf, rfl⟩ := hp33
    have hqa : r ≠ a := fun z => by rw [z, zU_same] at hq; cases hq
    have hqG : G r = none := by rw [zU_ne hqa] at hq; exact hq
    have hrx : x ≠ r := zG_nn hxo hqG
    first | refine z_rstore C dJx4a65c_add_7a177_36 (by decide) ?_ | refine z_astore C dJx4a65c_add_7a177_36 (by decide) ?_
    refine tail _ r cp f _ _ (Nat.le_of_ble_eq_true rfl) (Nat.le_of_ble_eq_true rfl) (Or.inr hqG) hqa ?_ hk1 hk2 hf ⟨_, zU_same _ _ _⟩ ?_ ?_ (fun q h1 h2 => by rw [zU_ne h1, zU_ne h2, zU_ne h1])
    · rw [zU_ne hqa]; exact zU_same _ _ _
    · rw [zU_ne hxa, zU_ne hrx, zU_ne hxa]; exact hxo
    · intro y hy
      obtain ⟨c1, f1, q1, g1, g2⟩ := hx y hy
      have hy2 : y ≠ a := fun z => hya (z ▸ hy)
      exact ⟨c1, f1, q1, by rw [zU_ne hy2, zU_ne (zG_nn g1 hqG), zU_ne hy2]; exact g1, g2⟩
  first | refine z_rload_n C dJx4a65c_add_7a177_5 rfl ?_ | refine z_nload_n C dJx4a65c_add_7a177_5 rfl ?_ | refine z_aload_n C dJx4a65c_add_7a177_5 rfl ?_
  refine z_dup C rfl dJx4a65c_add_7a177_6 ?_
  refine z_getf (T := TJx4a65c) (N := 3) C (by first | assumption | exact zU_same _ _ _) rfl 0 (by decide) kw_73 (Or.inr kw_74) rfl dJx4a65c_add_7a177_7 ?_
  refine z_iconst (v := 1) C dJx4a65c_add_7a177_10 rfl ?_
  refine z_iadd C dJx4a65c_add_7a177_11 ?_
  refine z_putf (T := TJx4a65c) (N := 3) C (by first | assumption | exact zU_same _ _ _) rfl 0 (by decide) kw_73 (Or.inr kw_74) rfl (tyJx4a65c_ok 0 (by decide)) rfl rfl (Nat.le_of_ble_eq_true rfl) dJx4a65c_add_7a177_12 ?_
  first | refine z_rload_n C dJx4a65c_add_7a177_15 rfl ?_ | refine z_nload_n C dJx4a65c_add_7a177_15 rfl ?_ | refine z_aload_n C dJx4a65c_add_7a177_15 rfl ?_
  refine z_getf (T := TJx4a65c) (N := 3) C (by first | assumption | exact zU_same _ _ _) rfl 2 (by decide) kw_71 (Or.inl rfl) rfl dJx4a65c_add_7a177_16 ?_
  refine z_dup C rfl dJx4a65c_add_7a177_19 ?_
  refine z_istore_n C dJx4a65c_add_7a177_20 (by decide) ?_
  first | refine z_rload_n C dJx4a65c_add_7a177_21 rfl ?_ | refine z_nload_n C dJx4a65c_add_7a177_21 rfl ?_ | refine z_aload_n C dJx4a65c_add_7a177_21 rfl ?_
  refine z_getf (T := TJx4a65c) (N := 3) C (by first | assumption | exact zU_same _ _ _) rfl 1 (by decide) kw_70 (Or.inl rfl) rfl dJx4a65c_add_7a177_22 ?_
  refine z_dup C rfl dJx4a65c_add_7a177_25 ?_
  first | refine z_rstore C dJx4a65c_add_7a177_26 (by decide) ?_ | refine z_astore C dJx4a65c_add_7a177_26 (by decide) ?_
  rcases h3 with ⟨e1, e2⟩ | ⟨hc1, f, hf, hff⟩
  · have e3 : xs = [] := List.eq_nil_of_length_eq_zero (by omega)
    subst e1
    refine z_elen C dJx4a65c_add_7a177_28 ?_
    refine z_icmp_ne (tgt := 38) C dJx4a65c_add_7a177_29 (by decide) (fun h29 => ?_) (fun h29 => ?_)
    · exact absurd (by rw [e3]; rfl) h29
    · exact grow (Or.inl ⟨rfl, e3⟩)
  · have hra : arr ≠ a := zG_ne hf ha zO_ne_AL
    refine z_olen C ((zU_ne hra).trans hf) dJx4a65c_add_7a177_28 ?_
    refine z_icmp_ne (tgt := 38) C dJx4a65c_add_7a177_29 (by decide) (fun h29 => ?_) (fun h29 => ?_)
    · have hlt : xs.length < cap := by
        rcases Nat.lt_or_ge xs.length cap with q | q
        · exact q
        · exact absurd (by rw [show xs.length = cap by omega]) h29
      exact tail _ arr cap f 0 0 (Nat.zero_le _) (Nat.zero_le _) (Or.inl rfl) hra ((zU_ne hra).trans hf) hlt h2 hff ⟨_, zU_same _ _ _⟩ ((zU_ne hxa).trans hxo) hx2 (fun q h1 _ => zU_ne h1)
    · have e3 : xs.length = cap := (nI_eq (by omega) (by omega)).mp h29
      subst e3
      exact grow (Or.inr ⟨hc1, f, hf, hff⟩)

