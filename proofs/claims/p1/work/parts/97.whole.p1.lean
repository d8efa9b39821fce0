theorem kn_L_law_0 : ∀ w ∈ ([Cond.classLink "QuakeBenchLaw" 8 "QuakeBench", Cond.instantiable "QuakeBench" 8, Cond.initialized "QuakeBench"] : List Cond), w ∈ lw_all := zin [84, 85, 54] (by decide +kernel)
theorem ky_X6_init : yX6_init.cls ≠ "java/lang/invoke/MethodHandle" ∧ yX6_init.cls ≠ "java/lang/invoke/VarHandle" ∧ (parseMethodDescriptor yX6_init.desc).map (fun d => d.parameters.length) = some 0 := by decide +kernel
theorem kc_L_law_4 : ∀ w ∈ ([Cond.methodLink "QuakeBenchLaw" 94 yX6_init, Cond.instanceMethod yX6_init, Cond.initialized "QuakeBench", Cond.code yX6_init prog_1_method_1_code 1 (Option.none : Option Jvm.ClassFile.FieldType)] : List Cond), w ∈ lw_all := zin [86, 87, 54, 88] (by decide +kernel)
theorem kn_L_law_8 : ∀ w ∈ ([Cond.classLink "QuakeBenchLaw" 95 "QuakeBenchModel", Cond.instantiable "QuakeBenchModel" 19, Cond.initialized "QuakeBenchModel"] : List Cond), w ∈ lw_all := zin [1162, 1163, 61] (by decide +kernel)
theorem ky_X7_init : yX7_init.cls ≠ "java/lang/invoke/MethodHandle" ∧ yX7_init.cls ≠ "java/lang/invoke/VarHandle" ∧ (parseMethodDescriptor yX7_init.desc).map (fun d => d.parameters.length) = some 0 := by decide +kernel
theorem kc_L_law_12 : ∀ w ∈ ([Cond.methodLink "QuakeBenchLaw" 97 yX7_init, Cond.instanceMethod yX7_init, Cond.initialized "QuakeBenchModel", Cond.code yX7_init prog_9_method_1_code 1 (Option.none : Option Jvm.ClassFile.FieldType)] : List Cond), w ∈ lw_all := zin [1164, 1165, 61, 1166] (by decide +kernel)
theorem kw_1468 : Cond.arrayClass Jvm.ClassFile.FieldType.long ∈ lw_all := zin1 1468 (by decide +kernel)
theorem kw_1469 : Cond.arrayClass Jvm.ClassFile.FieldType.double ∈ lw_all := zin1 1469 (by decide +kernel)
/-! the law, from its entry -/
theorem zC0.kp {Γ : zY} {G G' : zG} {b : Nat} (h : zC0 Γ G b) (k : ∀ q e, G q = some e → G' q = some e) : zC0 Γ G' b := by
  obtain ⟨ls, lp, le, w, r, q, lo, co, as, ap, ae, alo, hb, h1, h2, h3, h4, h5⟩ := h
  exact ⟨ls, lp, le, w, r, q, lo, co, as, ap, ae, alo, k _ _ hb, h1.kn k, h2.kn k, h3.kn k, h4.kn k, k _ _ h5⟩
theorem w_low (x : Int32) : 0 ≤ (x &&& 31).toInt ∧ (x &&& 31).toInt ≤ 31 := by
  have h : (x &&& 31).toBitVec = x.toBitVec &&& 31#32 := rfl
  have h1 : (x &&& 31).toBitVec.toNat ≤ 31 := by
    rw [h, BitVec.toNat_and]
    exact Nat.and_le_right
  have h2 : (x &&& 31).toInt = (x &&& 31).toBitVec.toInt := rfl
  rw [h2, BitVec.toInt_eq_toNat_of_lt (by omega)]
  omega
set_option maxHeartbeats 4000000 in
set_option maxRecDepth 100000 in
theorem whole_start {p : Program} {e : Env} {s : State} {m : MethodId} {below : List Frame} {meth : Method} {c : Code} (l : Launch) (hflags : l.flags = flags0) {b L : Nat} {xs : Nat → Int32} (hL : L ≤ 6) (C0 : lw_At p s m meth c b L xs) : W p l e room_1 s m #[Value.ref b] below meth c s.heap [] 0 0 (lw_Z below #[Value.ref b] s) (entryFrame m ([Value.ref b] : List Value).toArray 9) := by
  have hst : l.stackTraces = false := by unfold Launch.stackTraces; rw [hflags]; decide +kernel
  obtain ⟨Γ, C⟩ := w_facts C0
  obtain ⟨hx, hb, hr, hml, hown, hts, hX, hbl, hlocks, hgv⟩ := C0
  have hbA : ¬ (fun q : Nat => s.heap.size ≤ q) b := Nat.not_le.mpr hbl
  have hret : ∀ (G : zG) (k n pc : Nat) (lv : List (Option Value)), k ≤ 600002 → n ≤ 7302232 → decode code pc = .ok (.ireturn, 1) → Z p l e room_1 s m #[Value.ref b] below meth c (lw_Z below #[Value.ref b] s) 9 Γ (fun q : Nat => s.heap.size ≤ q) G k n pc lv [.int 1] :=
    fun G k n pc lv hk hn hd H locs ls ws hR hP hD hS hL => va_forget (fun q hq => hS.2.2 q hq) (W.widen hk hn (W.base (lw_ret (Drawn.sameBut.refl s.drawn lw_cs) hx hb hr hlocks hd)))
  suffices key : Z p l e room_1 s m #[Value.ref b] below meth c (lw_Z below #[Value.ref b] s) 9 Γ (fun q : Nat => s.heap.size ≤ q) (fun _ => none) 0 0 0 [some (.ref b), none, none, none, none, none, none, none, none] [] by
    have hl := lv_entry ([Value.ref b]) (n := 9) (Nat.le_of_ble_eq_true rfl)
    rw [lg_entry_eq]
    generalize (lg_sl ([Value.ref b]) ++ List.replicate (9 - (lg_sl ([Value.ref b])).length) Slot.unset).toArray = ls at hl ⊢
    exact key s.heap [] ls [] (show zR (fun _ => none) [] from fun q e => ⟨fun h => (by cases h), fun h => (by cases h)⟩) (fun k q h => (by simp at h)) ⟨fun i j p q h => (by simp at h), fun k q h => (by simp at h)⟩ va_S.rf hl
  refine z_new (ci := 0) (fs := [.null, .null, .null, .null, .null, .null, .null, .null]) C kn_L_law_0 rfl tyX6 tyX6_ok (fun j hj => by match j, hj with | 0, _ => rfl | 1, _ => rfl | 2, _ => rfl | 3, _ => rfl | 4, _ => rfl | 5, _ => rfl | 6, _ => rfl | 7, _ => rfl) (Nat.le_of_ble_eq_true rfl) (Nat.le_of_ble_eq_true rfl) dL_law_0 (fun a0 n0 => ?_)
  refine z_dup C rfl dL_law_3 ?_
  refine z_callI C (c_QB_init l Γ _ (zU_same _ _ _)) kc_L_law_4 rfl rfl rfl ky_X6_init ⟨(Nat.le_of_ble_eq_true rfl), (Nat.le_of_ble_eq_true rfl)⟩ (Nat.le_of_ble_eq_true rfl) ⟨(Nat.le_of_ble_eq_true rfl), (Nat.le_of_ble_eq_true rfl)⟩ dL_law_4 (fun v4 G4 hp4 => ?_)
  obtain ⟨rfl, α, g, hα, hBn, hnil, hold⟩ := hp4
  have hC4 : zC0 Γ G4 a0 := by
    obtain ⟨⟨⟨q0, -⟩, ⟨q4, -⟩, -⟩, hL5, -⟩ := hBn
    have h1 := (hL5 1 (by unfold zFive; decide)).1
    have h2 := (hL5 2 (by unfold zFive; decide)).1
    have h3 := (hL5 3 (by unfold zFive; decide)).1
    have h7 := (hL5 7 (by unfold zFive; decide)).1
    rw [hnil] at h1 h2 h3 h7
    rw [hα] at q0
    exact ⟨_, _, _, _, _, _, _, _, _, _, _, _, q0, h1, h2, h3, h7, q4⟩
  first | refine z_rstore_n C dL_law_7 (by decide) ?_ | refine z_nstore_n C dL_law_7 (by decide) ?_ | refine z_astore_n C dL_law_7 (by decide) ?_
  refine z_new (ci := 8) (fs := [.int 0, .int 0, .int 0, .int 0, .null, .null, .null, .int 0, .null, .null, .null, .null, .null, .null, .int 0, .null, .null, .null, .int 0]) C kn_L_law_8 rfl tyX7 tyX7_ok (fun j hj => by match j, hj with | 0, _ => rfl | 1, _ => rfl | 2, _ => rfl | 3, _ => rfl | 4, _ => rfl | 5, _ => rfl | 6, _ => rfl | 7, _ => rfl | 8, _ => rfl | 9, _ => rfl | 10, _ => rfl | 11, _ => rfl | 12, _ => rfl | 13, _ => rfl | 14, _ => rfl | 15, _ => rfl | 16, _ => rfl | 17, _ => rfl | 18, _ => rfl | k + 19, hk => exact absurd hk (by omega)) (Nat.le_of_ble_eq_true rfl) (Nat.le_of_ble_eq_true rfl) dL_law_8 (fun a8 n8 => ?_)
  refine z_dup C rfl dL_law_11 ?_
  refine z_callI C (m_init2 l Γ _ (zU_same _ _ _)) kc_L_law_12 rfl rfl rfl ky_X7_init ⟨(Nat.le_of_ble_eq_true rfl), (Nat.le_of_ble_eq_true rfl)⟩ (Nat.le_of_ble_eq_true rfl) ⟨(Nat.le_of_ble_eq_true rfl), (Nat.le_of_ble_eq_true rfl)⟩ dL_law_12 (fun v12 G12 hp12 => ?_)
  obtain ⟨rfl, μ, hmo, hmf, hμe, hold2⟩ := hp12
  first | refine z_rstore_n C dL_law_15 (by decide) ?_ | refine z_nstore_n C dL_law_15 (by decide) ?_ | refine z_astore_n C dL_law_15 (by decide) ?_
  refine z_iconst (v := 1) C dL_law_16 rfl ?_
  refine z_newj (N := 1) C kw_1468 (by decide) (by decide) (Nat.le_of_ble_eq_true rfl) (Nat.le_of_ble_eq_true rfl) (Nat.le_of_ble_eq_true rfl) dL_law_17 (fun a17 n17 => ?_)
  first | refine z_rstore_n C dL_law_19 (by decide) ?_ | refine z_nstore_n C dL_law_19 (by decide) ?_ | refine z_astore_n C dL_law_19 (by decide) ?_
  refine z_iconst (v := 1) C dL_law_20 rfl ?_
  refine z_newd (N := 1) C kw_1469 (by decide) (by decide) (Nat.le_of_ble_eq_true rfl) (Nat.le_of_ble_eq_true rfl) (Nat.le_of_ble_eq_true rfl) dL_law_21 (fun a21 n21 => ?_)
  first | refine z_rstore C dL_law_23 (by decide) ?_ | refine z_astore C dL_law_23 (by decide) ?_
  refine z_iconst (v := 0) C dL_law_25 rfl ?_
  refine z_istore C dL_law_26 (by decide) ?_
  have k4 : ∀ q e, G4 q = some e → zU (zU G12 a17 (zJ Γ 1 (fun _ => 0))) a21 (zDb Γ 1 (fun _ => 0)) q = some e := fun q e h => zU_new (zU_new (hold2 q e (zU_new h n8) (zG_nn h n8)) n17) n21
  have hC := hC4.kp k4
  have ho : zU (zU G12 a17 (zJ Γ 1 (fun _ => 0))) a21 (zDb Γ 1 (fun _ => 0)) a17 = some (zJ Γ 1 (fun _ => 0)) := zU_new (zU_same _ _ _) n21
  have hod : zU (zU G12 a17 (zJ Γ 1 (fun _ => 0))) a21 (zDb Γ 1 (fun _ => 0)) a21 = some (zDb Γ 1 (fun _ => 0)) := zU_same _ _ _
  have hm : zU (zU G12 a17 (zJ Γ 1 (fun _ => 0))) a21 (zDb Γ 1 (fun _ => 0)) a8 = some (oM0 0 μ) := zU_new (zU_new hmo n17) n21
  have hf : zMf Γ (zU (zU G12 a17 (zJ Γ 1 (fun _ => 0))) a21 (zDb Γ 1 (fun _ => 0))) μ := ⟨zU_new (zU_new hmf.1 n17) n21, zU_new (zU_new hmf.2.1 n17) n21, hmf.2.2.1, zU_new (zU_new hmf.2.2.2 n17) n21⟩
  have hou : ∀ i, a17 ≠ μ i := fun i => by obtain ⟨e, he⟩ := hμe i; exact (zG_nn he n17).symm
  refine z_widen (k' := 30) (n' := 1000) (Nat.le_of_ble_eq_true rfl) (Nat.le_of_ble_eq_true rfl) ?_
  generalize zU (zU G12 a17 (zJ Γ 1 (fun _ => 0))) a21 (zDb Γ 1 (fun _ => 0)) = G at hC ho hod hm hf ⊢
  by_cases h6 : L = 6
  · subst h6
    have hend : ∀ (G : zG) (k n : Nat) (a6 a7 a8' : Option Value), k ≤ 600002 → n ≤ 7302232 → Z p l e room_1 s m #[Value.ref b] below meth c (lw_Z below #[Value.ref b] s) 9 Γ (fun q : Nat => s.heap.size ≤ q) G k n 1814 [some (.ref b), some (.ref a0), some (.ref a8), some (.ref a17), some (.ref a21), some (.int 0), a6, a7, a8'] [] := by
      intro G k n a6 a7 a8' hk hn
      refine z_iinc (w := 6) C dL_law_1814 rfl rfl (by decide) ?_
      refine z_goto (tgt := 28) C dL_law_1817 (by decide) ?_
      refine z_iload C dL_law_28 rfl ?_
      first | refine z_rload_n C dL_law_30 rfl ?_ | refine z_nload_n C dL_law_30 rfl ?_ | refine z_aload_n C dL_law_30 rfl ?_
      refine z_slen C hX hbl hbA dL_law_31 ?_
      refine z_bipush (v := 6) C dL_law_32 rfl ?_
      refine z_isub C dL_law_34 ?_
      refine z_icmp_gt (tgt := 1820) C dL_law_35 (by decide) (fun h35 => ?_) (fun h35 => absurd (by decide) h35)
      refine z_iconst (v := 1) C dL_law_1820 rfl ?_
      exact hret _ _ _ _ _ hk hn dL_law_1821
    refine z_iload C dL_law_28 rfl ?_
    first | refine z_rload_n C dL_law_30 rfl ?_ | refine z_nload_n C dL_law_30 rfl ?_ | refine z_aload_n C dL_law_30 rfl ?_
    refine z_slen C hX hbl hbA dL_law_31 ?_
    refine z_bipush (v := 6) C dL_law_32 rfl ?_
    refine z_isub C dL_law_34 ?_
    refine z_icmp_gt (tgt := 1820) C dL_law_35 (by decide) (fun h35 => absurd h35 (by decide)) (fun h35 => ?_)
    first | refine z_rload_n C dL_law_38 rfl ?_ | refine z_nload_n C dL_law_38 rfl ?_ | refine z_aload_n C dL_law_38 rfl ?_
    refine z_iload C dL_law_39 rfl ?_
    refine z_sld C hX hbl hbA (by unfold vp_in; decide) dL_law_41 ?_
    refine z_bipush (v := 31) C dL_law_42 rfl ?_
    refine z_iand C dL_law_44 ?_
    generalize xs (0 : Int32).toNatClampNeg &&& 31 = v
    by_cases hv : 0 ≤ v.toInt ∧ v.toInt ≤ 24
    · obtain hv | hv | hv | hv | hv | hv | hv | hv | hv | hv | hv | hv | hv | hv | hv | hv | hv | hv | hv | hv | hv | hv | hv | hv | hv : v.toInt = 0 ∨ v.toInt = 1 ∨ v.toInt = 2 ∨ v.toInt = 3 ∨ v.toInt = 4 ∨ v.toInt = 5 ∨ v.toInt = 6 ∨ v.toInt = 7 ∨ v.toInt = 8 ∨ v.toInt = 9 ∨ v.toInt = 10 ∨ v.toInt = 11 ∨ v.toInt = 12 ∨ v.toInt = 13 ∨ v.toInt = 14 ∨ v.toInt = 15 ∨ v.toInt = 16 ∨ v.toInt = 17 ∨ v.toInt = 18 ∨ v.toInt = 19 ∨ v.toInt = 20 ∨ v.toInt = 21 ∨ v.toInt = 22 ∨ v.toInt = 23 ∨ v.toInt = 24 := by omega
      · refine z_tabIn (tgt := 160) (of := 115) C dL_law_45 (by rw [hv]; decide) (by rw [hv]; decide) (by rw [hv]; rfl) rfl ?_
        exact l_addStation hst C hX hbl hbA hend hC ho hod hm hf hou
      · refine z_tabIn (tgt := 228) (of := 183) C dL_law_45 (by rw [hv]; decide) (by rw [hv]; decide) (by rw [hv]; rfl) rfl ?_
        exact l_setDelay hst C hX hbl hbA hend hC ho hod hm hf hou
      · refine z_tabIn (tgt := 296) (of := 251) C dL_law_45 (by rw [hv]; decide) (by rw [hv]; decide) (by rw [hv]; rfl) rfl ?_
        exact l_setSpeeds hst C hX hbl hbA hend hC ho hod hm hf hou
      · refine z_tabIn (tgt := 364) (of := 319) C dL_law_45 (by rw [hv]; decide) (by rw [hv]; decide) (by rw [hv]; rfl) rfl ?_
        exact l_way hst C hX hbl hbA hend hC ho hod hm hf hou
      · refine z_tabIn (tgt := 456) (of := 411) C dL_law_45 (by rw [hv]; decide) (by rw [hv]; decide) (by rw [hv]; rfl) rfl ?_
        exact l_needs hst C hX hbl hbA hend hC ho hod hm hf hou
      · refine z_tabIn (tgt := 576) (of := 531) C dL_law_45 (by rw [hv]; decide) (by rw [hv]; decide) (by rw [hv]; rfl) rfl ?_
        exact l_addPick hst C hX hbl hbA hend hC ho hod hm hf hou
      · refine z_tabIn (tgt := 672) (of := 627) C dL_law_45 (by rw [hv]; decide) (by rw [hv]; decide) (by rw [hv]; rfl) rfl ?_
        exact l_setWeight hst C hX hbl hbA hend hC ho hod hm hf hou
      · refine z_tabIn (tgt := 740) (of := 695) C dL_law_45 (by rw [hv]; decide) (by rw [hv]; decide) (by rw [hv]; rfl) rfl ?_
        exact l_pick hst C hX hbl hbA hend hC ho hod hm hf hou
      · refine z_tabIn (tgt := 808) (of := 763) C dL_law_45 (by rw [hv]; decide) (by rw [hv]; decide) (by rw [hv]; rfl) rfl ?_
        exact l_addEvent hst C hX hbl hbA hend hC ho hod hm hf hou
      · refine z_tabIn (tgt := 852) (of := 807) C dL_law_45 (by rw [hv]; decide) (by rw [hv]; decide) (by rw [hv]; rfl) rfl ?_
        exact l_give hst C hX hbl hbA hend hC ho hod hm hf hou
      · refine z_tabIn (tgt := 920) (of := 875) C dL_law_45 (by rw [hv]; decide) (by rw [hv]; decide) (by rw [hv]; rfl) rfl ?_
        exact l_associate hst C hX hbl hbA hend hC ho hod hm hf hou
      · refine z_tabIn (tgt := 933) (of := 888) C dL_law_45 (by rw [hv]; decide) (by rw [hv]; decide) (by rw [hv]; rfl) rfl ?_
        exact l_count hst C hX hbl hbA hend hC ho hod hm hf hou
      · refine z_tabIn (tgt := 989) (of := 944) C dL_law_45 (by rw [hv]; decide) (by rw [hv]; decide) (by rw [hv]; rfl) rfl ?_
        exact l_seek hst C hX hbl hbA hend hC ho hod hm hf hou
      · refine z_tabIn (tgt := 1044) (of := 999) C dL_law_45 (by rw [hv]; decide) (by rw [hv]; decide) (by rw [hv]; rfl) rfl ?_
        exact l_event hst C hX hbl hbA hend hC ho hod hm hf hou
      · refine z_tabIn (tgt := 1112) (of := 1067) C dL_law_45 (by rw [hv]; decide) (by rw [hv]; decide) (by rw [hv]; rfl) rfl ?_
        exact l_misfit hst C hX hbl hbA hend hC ho hod hm hf hou
      · refine z_tabIn (tgt := 1203) (of := 1158) C dL_law_45 (by rw [hv]; decide) (by rw [hv]; decide) (by rw [hv]; rfl) rfl ?_
        exact l_residual hst C hX hbl hbA hend hC ho hod hm hf hou
      · refine z_tabIn (tgt := 1259) (of := 1214) C dL_law_45 (by rw [hv]; decide) (by rw [hv]; decide) (by rw [hv]; rfl) rfl ?_
        exact l_worst hst C hX hbl hbA hend hC ho hod hm hf hou
      · refine z_tabIn (tgt := 1315) (of := 1270) C dL_law_45 (by rw [hv]; decide) (by rw [hv]; decide) (by rw [hv]; rfl) rfl ?_
        exact l_spread hst C hX hbl hbA hend hC ho hod hm hf hou
      · refine z_tabIn (tgt := 1392) (of := 1347) C dL_law_45 (by rw [hv]; decide) (by rw [hv]; decide) (by rw [hv]; rfl) rfl ?_
        exact l_gap hst C hX hbl hbA hend hC ho hod hm hf hou
      · refine z_tabIn (tgt := 1448) (of := 1403) C dL_law_45 (by rw [hv]; decide) (by rw [hv]; decide) (by rw [hv]; rfl) rfl ?_
        exact l_setAmplitude hst C hX hbl hbA hend hC ho hod hm hf hou
      · refine z_tabIn (tgt := 1516) (of := 1471) C dL_law_45 (by rw [hv]; decide) (by rw [hv]; decide) (by rw [hv]; rfl) rfl ?_
        exact l_magnitude hst C hX hbl hbA hend hC ho hod hm hf hou
      · refine z_tabIn (tgt := 1572) (of := 1527) C dL_law_45 (by rw [hv]; decide) (by rw [hv]; decide) (by rw [hv]; rfl) rfl ?_
        exact l_families hst C hX hbl hbA hend hC ho hod hm hf hou
      · refine z_tabIn (tgt := 1640) (of := 1595) C dL_law_45 (by rw [hv]; decide) (by rw [hv]; decide) (by rw [hv]; rfl) rfl ?_
        exact l_family hst C hX hbl hbA hend hC ho hod hm hf hou
      · refine z_tabIn (tgt := 1720) (of := 1675) C dL_law_45 (by rw [hv]; decide) (by rw [hv]; decide) (by rw [hv]; rfl) rfl ?_
        exact l_nearest hst C hX hbl hbA hend hC ho hod hm hf hou
      · refine z_tabIn (tgt := 1800) (of := 1755) C dL_law_45 (by rw [hv]; decide) (by rw [hv]; decide) (by rw [hv]; rfl) rfl ?_
        exact l_digest hst C hX hbl hbA hend hC ho hod hm hf hou
    · refine z_tabOut (tgt := 1814) C dL_law_45 (by omega) rfl ?_
      exact hend _ _ _ _ _ _ (Nat.le_of_ble_eq_true rfl) (Nat.le_of_ble_eq_true rfl)
  · refine z_iload C dL_law_28 rfl ?_
    first | refine z_rload_n C dL_law_30 rfl ?_ | refine z_nload_n C dL_law_30 rfl ?_ | refine z_aload_n C dL_law_30 rfl ?_
    refine z_slen C hX hbl hbA dL_law_31 ?_
    refine z_bipush (v := 6) C dL_law_32 rfl ?_
    refine z_isub C dL_law_34 ?_
    refine z_icmp_gt (tgt := 1820) C dL_law_35 (by decide) (fun h35 => ?_) (fun h35 => ?_)
    · refine z_iconst (v := 1) C dL_law_1820 rfl ?_
      exact hret _ _ _ _ _ (Nat.le_of_ble_eq_true rfl) (Nat.le_of_ble_eq_true rfl) dL_law_1821
    · refine absurd ?_ h35
      obtain h | h | h | h | h | h : L = 0 ∨ L = 1 ∨ L = 2 ∨ L = 3 ∨ L = 4 ∨ L = 5 := by omega
      all_goals (subst h; decide)

