theorem dX3_scan_0 : decode cX3_scan 0 = .ok (.aload_n 0, 1) := by decide +kernel
theorem dX3_scan_1 : decode cX3_scan 1 = .ok (.iconst 0, 1) := by decide +kernel
theorem dX3_scan_2 : decode cX3_scan 2 = .ok (.putfield 62, 3) := by decide +kernel
theorem dX3_scan_5 : decode cX3_scan 5 = .ok (.iconst 0, 1) := by decide +kernel
theorem dX3_scan_6 : decode cX3_scan 6 = .ok (.istore 8, 2) := by decide +kernel
theorem dX3_scan_8 : decode cX3_scan 8 = .ok (.iload 8, 2) := by decide +kernel
theorem dX3_scan_10 : decode cX3_scan 10 = .ok (.iload 6, 2) := by decide +kernel
theorem dX3_scan_12 : decode cX3_scan 12 = .ok (.if_icmp .ge 68, 3) := by decide +kernel
theorem dX3_scan_15 : decode cX3_scan 15 = .ok (.iconst 0, 1) := by decide +kernel
theorem dX3_scan_16 : decode cX3_scan 16 = .ok (.istore 9, 2) := by decide +kernel
theorem dX3_scan_18 : decode cX3_scan 18 = .ok (.iload 9, 2) := by decide +kernel
theorem dX3_scan_20 : decode cX3_scan 20 = .ok (.iload 5, 2) := by decide +kernel
theorem dX3_scan_22 : decode cX3_scan 22 = .ok (.if_icmp .ge 52, 3) := by decide +kernel
theorem dX3_scan_25 : decode cX3_scan 25 = .ok (.iconst 0, 1) := by decide +kernel
theorem dX3_scan_26 : decode cX3_scan 26 = .ok (.istore 10, 2) := by decide +kernel
theorem dX3_scan_28 : decode cX3_scan 28 = .ok (.iload 10, 2) := by decide +kernel
theorem dX3_scan_30 : decode cX3_scan 30 = .ok (.iload 5, 2) := by decide +kernel
theorem dX3_scan_32 : decode cX3_scan 32 = .ok (.if_icmp .ge 36, 3) := by decide +kernel
theorem dX3_scan_35 : decode cX3_scan 35 = .ok (.aload_n 0, 1) := by decide +kernel
theorem dX3_scan_36 : decode cX3_scan 36 = .ok (.aload_n 1, 1) := by decide +kernel
theorem dX3_scan_37 : decode cX3_scan 37 = .ok (.iload_n 2, 1) := by decide +kernel
theorem dX3_scan_38 : decode cX3_scan 38 = .ok (.iload 9, 2) := by decide +kernel
theorem dX3_scan_40 : decode cX3_scan 40 = .ok (.iload 7, 2) := by decide +kernel
theorem dX3_scan_42 : decode cX3_scan 42 = .ok (.imul, 1) := by decide +kernel
theorem dX3_scan_43 : decode cX3_scan 43 = .ok (.iadd, 1) := by decide +kernel
theorem dX3_scan_44 : decode cX3_scan 44 = .ok (.iload_n 3, 1) := by decide +kernel
theorem dX3_scan_45 : decode cX3_scan 45 = .ok (.iload 10, 2) := by decide +kernel
theorem dX3_scan_47 : decode cX3_scan 47 = .ok (.iload 7, 2) := by decide +kernel
theorem dX3_scan_49 : decode cX3_scan 49 = .ok (.imul, 1) := by decide +kernel
theorem dX3_scan_50 : decode cX3_scan 50 = .ok (.iadd, 1) := by decide +kernel
theorem dX3_scan_51 : decode cX3_scan 51 = .ok (.iload 4, 2) := by decide +kernel
theorem dX3_scan_53 : decode cX3_scan 53 = .ok (.iload 8, 2) := by decide +kernel
theorem dX3_scan_55 : decode cX3_scan 55 = .ok (.iload 7, 2) := by decide +kernel
theorem dX3_scan_57 : decode cX3_scan 57 = .ok (.imul, 1) := by decide +kernel
theorem dX3_scan_58 : decode cX3_scan 58 = .ok (.iadd, 1) := by decide +kernel
theorem dX3_scan_59 : decode cX3_scan 59 = .ok (.invokevirtual 65, 3) := by decide +kernel
theorem dX3_scan_62 : decode cX3_scan 62 = .ok (.iinc 10 1, 3) := by decide +kernel
theorem dX3_scan_65 : decode cX3_scan 65 = .ok (.goto (-37), 3) := by decide +kernel
theorem dX3_scan_68 : decode cX3_scan 68 = .ok (.iinc 9 1, 3) := by decide +kernel
theorem dX3_scan_71 : decode cX3_scan 71 = .ok (.goto (-53), 3) := by decide +kernel
theorem dX3_scan_74 : decode cX3_scan 74 = .ok (.iinc 8 1, 3) := by decide +kernel
theorem dX3_scan_77 : decode cX3_scan 77 = .ok (.goto (-69), 3) := by decide +kernel
theorem dX3_scan_80 : decode cX3_scan 80 = .ok (.return_, 1) := by decide +kernel
theorem ky_X3_offer : yX3_offer.cls ≠ "java/lang/invoke/MethodHandle" ∧ yX3_offer.cls ≠ "java/lang/invoke/VarHandle" ∧ (parseMethodDescriptor yX3_offer.desc).map (fun d => d.parameters.length) = some 4 := by decide +kernel
theorem kc_X3_scan_59 : ∀ w ∈ ([Cond.methodLink "QuakeBench$Search" 65 yX3_offer, Cond.instanceMethod yX3_offer, Cond.selects "QuakeBench$Search" yX3_offer yX3_offer, Cond.initialized "QuakeBench$Search", Cond.code yX3_offer prog_5_method_4_code 8 (Option.none : Option Jvm.ClassFile.FieldType)] : List Cond), w ∈ lw_all := zin [575, 577, 16, 30, 578] (by decide +kernel)
theorem dX3_locate_0 : decode cX3_locate 0 = .ok (.aload_n 0, 1) := by decide +kernel
theorem dX3_locate_1 : decode cX3_locate 1 = .ok (.aload_n 1, 1) := by decide +kernel
theorem dX3_locate_2 : decode cX3_locate 2 = .ok (.iconst 0, 1) := by decide +kernel
theorem dX3_locate_3 : decode cX3_locate 3 = .ok (.iconst 0, 1) := by decide +kernel
theorem dX3_locate_4 : decode cX3_locate 4 = .ok (.iconst 0, 1) := by decide +kernel
theorem dX3_locate_5 : decode cX3_locate 5 = .ok (.bipush 11, 2) := by decide +kernel
theorem dX3_locate_7 : decode cX3_locate 7 = .ok (.iconst 4, 1) := by decide +kernel
theorem dX3_locate_8 : decode cX3_locate 8 = .ok (.bipush 20, 2) := by decide +kernel
theorem dX3_locate_10 : decode cX3_locate 10 = .ok (.invokevirtual 19, 3) := by decide +kernel
theorem dX3_locate_13 : decode cX3_locate 13 = .ok (.iconst 0, 1) := by decide +kernel
theorem dX3_locate_14 : decode cX3_locate 14 = .ok (.istore_n 2, 1) := by decide +kernel
theorem dX3_locate_15 : decode cX3_locate 15 = .ok (.iload_n 2, 1) := by decide +kernel
theorem dX3_locate_16 : decode cX3_locate 16 = .ok (.getstatic 23, 3) := by decide +kernel
theorem dX3_locate_19 : decode cX3_locate 19 = .ok (.arraylength, 1) := by decide +kernel
theorem dX3_locate_20 : decode cX3_locate 20 = .ok (.if_icmp .ge 41, 3) := by decide +kernel
theorem dX3_locate_23 : decode cX3_locate 23 = .ok (.getstatic 23, 3) := by decide +kernel
theorem dX3_locate_26 : decode cX3_locate 26 = .ok (.iload_n 2, 1) := by decide +kernel
theorem dX3_locate_27 : decode cX3_locate 27 = .ok (.iaload, 1) := by decide +kernel
theorem dX3_locate_28 : decode cX3_locate 28 = .ok (.istore_n 3, 1) := by decide +kernel
theorem dX3_locate_29 : decode cX3_locate 29 = .ok (.aload_n 0, 1) := by decide +kernel
theorem dX3_locate_30 : decode cX3_locate 30 = .ok (.aload_n 1, 1) := by decide +kernel
theorem dX3_locate_31 : decode cX3_locate 31 = .ok (.aload_n 0, 1) := by decide +kernel
theorem dX3_locate_32 : decode cX3_locate 32 = .ok (.getfield 27, 3) := by decide +kernel
theorem dX3_locate_35 : decode cX3_locate 35 = .ok (.iload_n 3, 1) := by decide +kernel
theorem dX3_locate_36 : decode cX3_locate 36 = .ok (.isub, 1) := by decide +kernel
theorem dX3_locate_37 : decode cX3_locate 37 = .ok (.aload_n 0, 1) := by decide +kernel
theorem dX3_locate_38 : decode cX3_locate 38 = .ok (.getfield 31, 3) := by decide +kernel
theorem dX3_locate_41 : decode cX3_locate 41 = .ok (.iload_n 3, 1) := by decide +kernel
theorem dX3_locate_42 : decode cX3_locate 42 = .ok (.isub, 1) := by decide +kernel
theorem dX3_locate_43 : decode cX3_locate 43 = .ok (.aload_n 0, 1) := by decide +kernel
theorem dX3_locate_44 : decode cX3_locate 44 = .ok (.getfield 34, 3) := by decide +kernel
theorem dX3_locate_47 : decode cX3_locate 47 = .ok (.iload_n 3, 1) := by decide +kernel
theorem dX3_locate_48 : decode cX3_locate 48 = .ok (.isub, 1) := by decide +kernel
theorem dX3_locate_49 : decode cX3_locate 49 = .ok (.iconst 3, 1) := by decide +kernel
theorem dX3_locate_50 : decode cX3_locate 50 = .ok (.iconst 3, 1) := by decide +kernel
theorem dX3_locate_51 : decode cX3_locate 51 = .ok (.iload_n 3, 1) := by decide +kernel
theorem dX3_locate_52 : decode cX3_locate 52 = .ok (.invokevirtual 19, 3) := by decide +kernel
theorem dX3_locate_55 : decode cX3_locate 55 = .ok (.iinc 2 1, 3) := by decide +kernel
theorem dX3_locate_58 : decode cX3_locate 58 = .ok (.goto (-43), 3) := by decide +kernel
theorem dX3_locate_61 : decode cX3_locate 61 = .ok (.aload_n 1, 1) := by decide +kernel
theorem dX3_locate_62 : decode cX3_locate 62 = .ok (.aload_n 0, 1) := by decide +kernel
theorem dX3_locate_63 : decode cX3_locate 63 = .ok (.getfield 27, 3) := by decide +kernel
theorem dX3_locate_66 : decode cX3_locate 66 = .ok (.putfield 37, 3) := by decide +kernel
theorem dX3_locate_69 : decode cX3_locate 69 = .ok (.aload_n 1, 1) := by decide +kernel
theorem dX3_locate_70 : decode cX3_locate 70 = .ok (.aload_n 0, 1) := by decide +kernel
theorem dX3_locate_71 : decode cX3_locate 71 = .ok (.getfield 31, 3) := by decide +kernel
theorem dX3_locate_74 : decode cX3_locate 74 = .ok (.putfield 42, 3) := by decide +kernel
theorem dX3_locate_77 : decode cX3_locate 77 = .ok (.aload_n 1, 1) := by decide +kernel
theorem dX3_locate_78 : decode cX3_locate 78 = .ok (.aload_n 0, 1) := by decide +kernel
theorem dX3_locate_79 : decode cX3_locate 79 = .ok (.getfield 34, 3) := by decide +kernel
theorem dX3_locate_82 : decode cX3_locate 82 = .ok (.putfield 45, 3) := by decide +kernel
theorem dX3_locate_85 : decode cX3_locate 85 = .ok (.aload_n 1, 1) := by decide +kernel
theorem dX3_locate_86 : decode cX3_locate 86 = .ok (.aload_n 0, 1) := by decide +kernel
theorem dX3_locate_87 : decode cX3_locate 87 = .ok (.getfield 48, 3) := by decide +kernel
theorem dX3_locate_90 : decode cX3_locate 90 = .ok (.putfield 51, 3) := by decide +kernel
theorem dX3_locate_93 : decode cX3_locate 93 = .ok (.aload_n 1, 1) := by decide +kernel
theorem dX3_locate_94 : decode cX3_locate 94 = .ok (.iconst 1, 1) := by decide +kernel
theorem dX3_locate_95 : decode cX3_locate 95 = .ok (.putfield 54, 3) := by decide +kernel
theorem dX3_locate_98 : decode cX3_locate 98 = .ok (.aload_n 0, 1) := by decide +kernel
theorem dX3_locate_99 : decode cX3_locate 99 = .ok (.getfield 58, 3) := by decide +kernel
theorem dX3_locate_102 : decode cX3_locate 102 = .ok (.lreturn, 1) := by decide +kernel
theorem kw_444 : Cond.fieldLink "QuakeBench$Search" 37 "QuakeBench$Event" "x" "I" ∈ lw_all := zin1 444 (by decide +kernel)
theorem kw_448 : Cond.fieldLink "QuakeBench$Search" 42 "QuakeBench$Event" "y" "I" ∈ lw_all := zin1 448 (by decide +kernel)
theorem kw_452 : Cond.fieldLink "QuakeBench$Search" 45 "QuakeBench$Event" "z" "I" ∈ lw_all := zin1 452 (by decide +kernel)
theorem kw_456 : Cond.fieldLink "QuakeBench$Search" 51 "QuakeBench$Event" "time" "I" ∈ lw_all := zin1 456 (by decide +kernel)
theorem kw_441 : Cond.fieldLink "QuakeBench$Search" 54 "QuakeBench$Event" "found" "Z" ∈ lw_all := zin1 441 (by decide +kernel)
theorem kw_607 : Cond.fieldLink "QuakeBench$Search" 23 "QuakeBench$Search" "FINER_STEPS" "[I" ∈ lw_all := zin1 607 (by decide +kernel)
theorem ky_X3_scan : yX3_scan.cls ≠ "java/lang/invoke/MethodHandle" ∧ yX3_scan.cls ≠ "java/lang/invoke/VarHandle" ∧ (parseMethodDescriptor yX3_scan.desc).map (fun d => d.parameters.length) = some 7 := by decide +kernel
theorem kc_X3_locate_52 : ∀ w ∈ ([Cond.methodLink "QuakeBench$Search" 19 yX3_scan, Cond.instanceMethod yX3_scan, Cond.selects "QuakeBench$Search" yX3_scan yX3_scan, Cond.initialized "QuakeBench$Search", Cond.code yX3_scan prog_5_method_3_code 11 (Option.none : Option Jvm.ClassFile.FieldType)] : List Cond), w ∈ lw_all := zin [571, 573, 15, 30, 574] (by decide +kernel)
theorem kc_X3_locate_10 : ∀ w ∈ ([Cond.methodLink "QuakeBench$Search" 19 yX3_scan, Cond.instanceMethod yX3_scan, Cond.selects "QuakeBench$Search" yX3_scan yX3_scan, Cond.initialized "QuakeBench$Search", Cond.code yX3_scan prog_5_method_3_code 11 (Option.none : Option Jvm.ClassFile.FieldType)] : List Cond), w ∈ lw_all := zin [571, 573, 15, 30, 574] (by decide +kernel)
/-! Search: a scan of a grid, and the whole search -/
def zSt (Γ : zY) (G G1 : zG) (se wv ro na wa q ml mAr : Nat) (sp ss : Int32) (ms : List Nat) (pd : zPD) (cond : Prop) : Prop :=
  zF4 G G1 se ro na wa ∧ ∃ hb bx bY bz bb lm, zSr Γ G1 se wv ro na wa q ml mAr sp ss ms pd hb bx bY bz bb lm ∧ zBest sp ss pd ms hb bx bY bz bb lm ∧ (cond → hb = 1)
abbrev rm_c_scan : Room := { frames := 5, cells := 0, slots := 0, locals := 155 }
set_option maxHeartbeats 4000000 in
set_option maxRecDepth 100000 in
theorem c_scan (l : Launch) (Γ : zY) (G : zG) {se wv ro na wa q ml mAr : Nat} {hb bx bY bz bb sp ss : Int32} {lm : Int64} {ms : List Nat} {pd : zPD} (lx ly lz sT : Int32) (a d i0 j0 k0 : Nat) (ha : a ≤ 11) (hd : d ≤ 4) (hi0 : i0 < a) (hj0 : j0 < a) (hk0 : k0 < d)
    (hpl : s_place (lx + nI i0 * sT) (ly + nI j0 * sT) (lz + nI k0 * sT)) (hS : zSr Γ G se wv ro na wa q ml mAr sp ss ms pd hb bx bY bz bb lm) :
    ZM l yX3_scan cX3_scan 11 (none) rm_c_scan Γ [.ref se, .ref q, .int lx, .int ly, .int lz, .int (nI a), .int (nI d), .int sT] G (fun v G' => none = v ∧ zSt Γ G G' se wv ro na wa q ml mAr sp ss ms pd True) := by
  obtain ⟨hse, hwv, ⟨rs, tot, hR⟩, ⟨n, fo, ex, ey, ez, et, lb, hq⟩, hl, hm, hn⟩ := id hS
  refine z_start (by decide +kernel) [some (.ref se), some (.ref q), some (.int lx), some (.int ly), some (.int lz), some (.int (nI a)), some (.int (nI d)), some (.int sT), none, none, none] rfl (Nat.le_of_ble_eq_true rfl) ?_
  intro p e s m args below meth c Q A C F hr hnm
  have inner : ∀ (kk i : Nat), i < a → kk < d → (∀ (G1 : zG) (w : Option Value), zSt Γ G G1 se wv ro na wa q ml mAr sp ss ms pd (k0 < kk ∨ (kk = k0 ∧ i0 < i + 1)) → Z p l e rm_c_scan s m args below meth c Q 11 Γ A G1 0 0 68 [some (.ref se), some (.ref q), some (.int lx), some (.int ly), some (.int lz), some (.int (nI a)), some (.int (nI d)), some (.int sT), some (.int (nI kk)), some (.int (nI i)), w] []) →
      ∀ (dj j : Nat) (G1 : zG), j + dj = a → zSt Γ G G1 se wv ro na wa q ml mAr sp ss ms pd (k0 < kk ∨ (kk = k0 ∧ (i0 < i ∨ (i = i0 ∧ j0 < j)))) → Z p l e rm_c_scan s m args below meth c Q 11 Γ A G1 0 0 28 [some (.ref se), some (.ref q), some (.int lx), some (.int ly), some (.int lz), some (.int (nI a)), some (.int (nI d)), some (.int sT), some (.int (nI kk)), some (.int (nI i)), some (.int (nI j))] [] := by
    intro kk i hi hkk cont dj
    induction dj with
    | zero =>
      intro j G1 hj hT
      refine z_iload C dX3_scan_28 rfl ?_
      refine z_iload C dX3_scan_30 rfl ?_
      refine z_icmp_ge (tgt := 68) C dX3_scan_32 (by decide) (fun h32 => ?_) (fun h32 => ?_)
      · refine cont G1 _ ⟨hT.1, ?_⟩
        obtain ⟨-, hb, bx, bY, bz, bb, lm, h1, h2, h3⟩ := hT
        exact ⟨hb, bx, bY, bz, bb, lm, h1, h2, fun z => h3 (by omega)⟩
      · exact absurd (nI_le (by omega) (by omega)) h32
    | succ dj ih =>
      intro j G1 hj hT
      refine z_iload C dX3_scan_28 rfl ?_
      refine z_iload C dX3_scan_30 rfl ?_
      refine z_icmp_ge (tgt := 68) C dX3_scan_32 (by decide) (fun h32 => ?_) (fun h32 => ?_)
      · exact absurd h32 (nI_ge (by omega) (by omega))
      · obtain ⟨hf, hb, bx, bY, bz, bb, lm, h1, h2, h3⟩ := hT
        have hse1 := h1.1
        first | refine z_rload_n C dX3_scan_35 rfl ?_ | refine z_nload_n C dX3_scan_35 rfl ?_ | refine z_aload_n C dX3_scan_35 rfl ?_
        first | refine z_rload_n C dX3_scan_36 rfl ?_ | refine z_nload_n C dX3_scan_36 rfl ?_ | refine z_aload_n C dX3_scan_36 rfl ?_
        refine z_iload_n C dX3_scan_37 rfl ?_
        refine z_iload C dX3_scan_38 rfl ?_
        refine z_iload C dX3_scan_40 rfl ?_
        refine z_imul C dX3_scan_42 ?_
        refine z_iadd C dX3_scan_43 ?_
        refine z_iload_n C dX3_scan_44 rfl ?_
        refine z_iload C dX3_scan_45 rfl ?_
        refine z_iload C dX3_scan_47 rfl ?_
        refine z_imul C dX3_scan_49 ?_
        refine z_iadd C dX3_scan_50 ?_
        refine z_iload C dX3_scan_51 rfl ?_
        refine z_iload C dX3_scan_53 rfl ?_
        refine z_iload C dX3_scan_55 rfl ?_
        refine z_imul C dX3_scan_57 ?_
        refine z_iadd C dX3_scan_58 ?_
        refine z_callV (q := (RX3, TX3, 8)) C (c_offer l Γ G1 (lx + nI i * sT) (ly + nI j * sT) (lz + nI kk * sT) h1 h2) kc_X3_scan_59 (by first | assumption | exact zU_same _ _ _) rfl rfl rfl rfl ky_X3_offer ⟨(Nat.le_of_ble_eq_true rfl), (Nat.le_of_ble_eq_true rfl)⟩ (Nat.le_of_ble_eq_true rfl) ⟨(Nat.le_of_ble_eq_true rfl), (Nat.le_of_ble_eq_true rfl)⟩ dX3_scan_59 (fun v59 G59 hp59 => ?_)
        obtain ⟨rfl, hf2, hb', bx', bY', bz', bb', lm', g1, g2, g3, g4⟩ := hp59
        refine z_iinc (w := 1) C dX3_scan_62 rfl rfl (by decide) ?_
        refine z_goto (tgt := 28) C dX3_scan_65 (by decide) ?_
        rw [← nI_succ]
        refine ih (j + 1) _ (by omega) ⟨hf.trans hf2, hb', bx', bY', bz', bb', lm', g1, g2, fun z => ?_⟩
        by_cases e : k0 < kk ∨ (kk = k0 ∧ (i0 < i ∨ (i = i0 ∧ j0 < j)))
        · exact g3 (h3 e)
        · have e1 : kk = k0 ∧ i = i0 ∧ j = j0 := by omega
          obtain ⟨rfl, rfl, rfl⟩ := e1
          exact g4 hpl
  have middle : ∀ (kk : Nat), kk < d → (∀ (G1 : zG) (w w2 : Option Value), zSt Γ G G1 se wv ro na wa q ml mAr sp ss ms pd (k0 < kk + 1) → Z p l e rm_c_scan s m args below meth c Q 11 Γ A G1 0 0 74 [some (.ref se), some (.ref q), some (.int lx), some (.int ly), some (.int lz), some (.int (nI a)), some (.int (nI d)), some (.int sT), some (.int (nI kk)), w, w2] []) →
      ∀ (di i : Nat) (G1 : zG) (w : Option Value), i + di = a → zSt Γ G G1 se wv ro na wa q ml mAr sp ss ms pd (k0 < kk ∨ (kk = k0 ∧ i0 < i)) → Z p l e rm_c_scan s m args below meth c Q 11 Γ A G1 0 0 18 [some (.ref se), some (.ref q), some (.int lx), some (.int ly), some (.int lz), some (.int (nI a)), some (.int (nI d)), some (.int sT), some (.int (nI kk)), some (.int (nI i)), w] [] := by
    intro kk hkk cont di
    induction di with
    | zero =>
      intro i G1 w hi hT
      refine z_iload C dX3_scan_18 rfl ?_
      refine z_iload C dX3_scan_20 rfl ?_
      refine z_icmp_ge (tgt := 74) C dX3_scan_22 (by decide) (fun h22 => ?_) (fun h22 => ?_)
      · refine cont G1 _ _ ⟨hT.1, ?_⟩
        obtain ⟨-, hb, bx, bY, bz, bb, lm, h1, h2, h3⟩ := hT
        exact ⟨hb, bx, bY, bz, bb, lm, h1, h2, fun z => h3 (by omega)⟩
      · exact absurd (nI_le (by omega) (by omega)) h22
    | succ di ih =>
      intro i G1 w hi hT
      refine z_iload C dX3_scan_18 rfl ?_
      refine z_iload C dX3_scan_20 rfl ?_
      refine z_icmp_ge (tgt := 74) C dX3_scan_22 (by decide) (fun h22 => ?_) (fun h22 => ?_)
      · exact absurd h22 (nI_ge (by omega) (by omega))
      · refine z_iconst (v := 0) C dX3_scan_25 rfl ?_
        refine z_istore C dX3_scan_26 (by decide) ?_
        refine inner kk i (by omega) hkk (fun G2 w2 hT2 => ?_) a 0 G1 (Nat.zero_add _) ⟨hT.1, ?_⟩
        · refine z_iinc (w := 1) C dX3_scan_68 rfl rfl (by decide) ?_
          refine z_goto (tgt := 18) C dX3_scan_71 (by decide) ?_
          rw [← nI_succ]
          exact ih (i + 1) G2 _ (by omega) hT2
        · obtain ⟨-, hb, bx, bY, bz, bb, lm, h1, h2, h3⟩ := hT
          exact ⟨hb, bx, bY, bz, bb, lm, h1, h2, fun z => h3 (by omega)⟩
  have outer : ∀ (dk kk : Nat) (G1 : zG) (w w2 : Option Value), kk + dk = d → zSt Γ G G1 se wv ro na wa q ml mAr sp ss ms pd (k0 < kk) → Z p l e rm_c_scan s m args below meth c Q 11 Γ A G1 0 0 8 [some (.ref se), some (.ref q), some (.int lx), some (.int ly), some (.int lz), some (.int (nI a)), some (.int (nI d)), some (.int sT), some (.int (nI kk)), w, w2] [] := by
    intro dk
    induction dk with
    | zero =>
      intro kk G1 w w2 hk hT
      refine z_iload C dX3_scan_8 rfl ?_
      refine z_iload C dX3_scan_10 rfl ?_
      refine z_icmp_ge (tgt := 80) C dX3_scan_12 (by decide) (fun h12 => ?_) (fun h12 => ?_)
      · obtain ⟨hf, hb, bx, bY, bz, bb, lm, h1, h2, h3⟩ := hT
        exact z_vret C F hr (Nat.le_of_ble_eq_true rfl) (Nat.le_of_ble_eq_true rfl) ⟨rfl, hf, hb, bx, bY, bz, bb, lm, h1, h2, fun _ => h3 (by omega)⟩ dX3_scan_80
      · exact absurd (nI_le (by omega) (by omega)) h12
    | succ dk ih =>
      intro kk G1 w w2 hk hT
      refine z_iload C dX3_scan_8 rfl ?_
      refine z_iload C dX3_scan_10 rfl ?_
      refine z_icmp_ge (tgt := 80) C dX3_scan_12 (by decide) (fun h12 => ?_) (fun h12 => ?_)
      · exact absurd h12 (nI_ge (by omega) (by omega))
      · refine z_iconst (v := 0) C dX3_scan_15 rfl ?_
        refine z_istore C dX3_scan_16 (by decide) ?_
        refine middle kk (by omega) (fun G2 w3 w4 hT2 => ?_) a 0 G1 _ (Nat.zero_add _) ⟨hT.1, ?_⟩
        · refine z_iinc (w := 1) C dX3_scan_74 rfl rfl (by decide) ?_
          refine z_goto (tgt := 8) C dX3_scan_77 (by decide) ?_
          rw [← nI_succ]
          exact ih (kk + 1) G2 _ _ (by omega) hT2
        · obtain ⟨-, hb, bx, bY, bz, bb, lm, h1, h2, h3⟩ := hT
          exact ⟨hb, bx, bY, bz, bb, lm, h1, h2, fun z => h3 (by omega)⟩
  first | refine z_rload_n C dX3_scan_0 rfl ?_ | refine z_nload_n C dX3_scan_0 rfl ?_ | refine z_aload_n C dX3_scan_0 rfl ?_
  refine z_iconst (v := 0) C dX3_scan_1 rfl ?_
  refine z_putf (T := TX3) (N := 8) C (by first | assumption | exact zU_same _ _ _) rfl 2 (by decide) kw_124 (Or.inl rfl) rfl (tyX3_ok 2 (by decide)) rfl rfl (Nat.le_of_ble_eq_true rfl) dX3_scan_2 ?_
  refine z_iconst (v := 0) C dX3_scan_5 rfl ?_
  refine z_istore C dX3_scan_6 (by decide) ?_
  have hf4 : zF4 G (zU G se (oSea wv ro 0 bx bY bz bb lm)) se ro na wa := fun q z _ _ _ => zU_ne z
  have hro := hR.2.2.1
  refine outer d 0 _ none none (Nat.zero_add _) ⟨hf4, 0, bx, bY, bz, bb, lm, ⟨zU_same _ _ _, hf4.get hR hse hwv rfl (fun _ z => by cases z), ⟨rs, tot, hR.1, hR.2.1, (zU_ne (zG_ne hro hse (fun z => by cases z))).trans hro, ?_⟩, ⟨n, fo, ex, ey, ez, et, lb, hf4.get hR hse hq rfl (fun _ z => by cases z)⟩, hf4.lst hR hse hl, hf4.mem hR hse hm, hn⟩, ⟨Or.inl rfl, fun z => absurd z (by decide)⟩, fun z => absurd z (Nat.not_lt_zero _)⟩
  obtain ⟨f, g, h1, h2, h3⟩ := hR.2.2.2
  exact ⟨f, g, (zU_ne (zG_ne h1 hse zI_ne)).trans h1, (zU_ne (zG_ne h2 hse zI_ne)).trans h2, h3⟩
theorem i_back (x s : Int32) : x - s + nI 1 * s = x := by
  rw [show nI 1 = 1 from rfl, Int32.one_mul, Int32.sub_add_cancel]
abbrev rm_c_locate : Room := { frames := 6, cells := 0, slots := 0, locals := 185 }
set_option maxHeartbeats 4000000 in
set_option maxRecDepth 100000 in
theorem c_locate (l : Launch) (Γ : zY) (G : zG) {se wv ro na wa q ml mAr : Nat} {hb bx bY bz bb sp ss n fo ex ey ez et lb : Int32} {lm : Int64} {ms : List Nat} {pd : zPD}
    (hS : zSr Γ G se wv ro na wa q ml mAr sp ss ms pd hb bx bY bz bb lm) (hq : G q = some (oEv n ml fo ex ey ez et lb)) :
    ZM l yX3_locate cX3_locate 4 (some FieldType.long) rm_c_locate Γ [.ref se, .ref q] G (fun v G' => ∃ bx bY bz bb lm, some (.long lm) = v ∧ zBest sp ss pd ms 1 bx bY bz bb lm ∧ G' q = some (oEv n ml 1 bx bY bz bb lb) ∧ G' se = some (oSea wv ro 1 bx bY bz bb lm) ∧ (∃ rs tot, zRo Γ G' ro na wa rs tot) ∧ ∀ a, a ≠ q → a ≠ se → a ≠ ro → a ≠ na → a ≠ wa → G' a = G a) := by
  obtain ⟨hse, hwv, ⟨rs, tot, hR⟩, -, hl, hm, hn⟩ := id hS
  refine z_start (by decide +kernel) [some (.ref se), some (.ref q), none, none] rfl (Nat.le_of_ble_eq_true rfl) ?_
  intro p e s m args below meth c Q A C F hr hnm
  have fin : ∀ (G1 : zG) (w w2 : Option Value), zSt Γ G G1 se wv ro na wa q ml mAr sp ss ms pd True → Z p l e rm_c_locate s m args below meth c Q 4 Γ A G1 0 0 61 [some (.ref se), some (.ref q), w, w2] [] := by
    intro G1 w w2 hT
    obtain ⟨hf, hb, bx, bY, bz, bb, lm, h1, h2, h3⟩ := hT
    have e1 : hb = 1 := h3 trivial
    subst e1
    have hq1 := hf.get hR hse hq rfl (fun _ z => by cases z)
    have hse1 := h1.1
    have hqs : q ≠ se := zG_ne hq hse (fun z => by cases z)
    first | refine z_rload_n C dX3_locate_61 rfl ?_ | refine z_nload_n C dX3_locate_61 rfl ?_ | refine z_aload_n C dX3_locate_61 rfl ?_
    first | refine z_rload_n C dX3_locate_62 rfl ?_ | refine z_nload_n C dX3_locate_62 rfl ?_ | refine z_aload_n C dX3_locate_62 rfl ?_
    refine z_getf (T := TX3) (N := 8) C (by first | assumption | exact zU_same _ _ _ | exact (zU_ne hqs.symm).trans hse1) rfl 3 (by decide) kw_125 (Or.inl rfl) rfl dX3_locate_63 ?_
    refine z_putf (T := TX0) (N := 8) C (by first | assumption | exact zU_same _ _ _ | exact (zU_ne hqs.symm).trans hse1) rfl 3 (by decide) kw_444 (Or.inl rfl) rfl (tyX0_ok 3 (by decide)) rfl rfl (Nat.le_of_ble_eq_true rfl) dX3_locate_66 ?_
    first | refine z_rload_n C dX3_locate_69 rfl ?_ | refine z_nload_n C dX3_locate_69 rfl ?_ | refine z_aload_n C dX3_locate_69 rfl ?_
    first | refine z_rload_n C dX3_locate_70 rfl ?_ | refine z_nload_n C dX3_locate_70 rfl ?_ | refine z_aload_n C dX3_locate_70 rfl ?_
    refine z_getf (T := TX3) (N := 8) C (by first | assumption | exact zU_same _ _ _ | exact (zU_ne hqs.symm).trans hse1) rfl 4 (by decide) kw_126 (Or.inl rfl) rfl dX3_locate_71 ?_
    refine z_putf (T := TX0) (N := 8) C (by first | assumption | exact zU_same _ _ _ | exact (zU_ne hqs.symm).trans hse1) rfl 4 (by decide) kw_448 (Or.inl rfl) rfl (tyX0_ok 4 (by decide)) rfl rfl (Nat.le_of_ble_eq_true rfl) dX3_locate_74 ?_
    rw [zU_zU]
    first | refine z_rload_n C dX3_locate_77 rfl ?_ | refine z_nload_n C dX3_locate_77 rfl ?_ | refine z_aload_n C dX3_locate_77 rfl ?_
    first | refine z_rload_n C dX3_locate_78 rfl ?_ | refine z_nload_n C dX3_locate_78 rfl ?_ | refine z_aload_n C dX3_locate_78 rfl ?_
    refine z_getf (T := TX3) (N := 8) C (by first | assumption | exact zU_same _ _ _ | exact (zU_ne hqs.symm).trans hse1) rfl 5 (by decide) kw_127 (Or.inl rfl) rfl dX3_locate_79 ?_
    refine z_putf (T := TX0) (N := 8) C (by first | assumption | exact zU_same _ _ _ | exact (zU_ne hqs.symm).trans hse1) rfl 5 (by decide) kw_452 (Or.inl rfl) rfl (tyX0_ok 5 (by decide)) rfl rfl (Nat.le_of_ble_eq_true rfl) dX3_locate_82 ?_
    rw [zU_zU]
    first | refine z_rload_n C dX3_locate_85 rfl ?_ | refine z_nload_n C dX3_locate_85 rfl ?_ | refine z_aload_n C dX3_locate_85 rfl ?_
    first | refine z_rload_n C dX3_locate_86 rfl ?_ | refine z_nload_n C dX3_locate_86 rfl ?_ | refine z_aload_n C dX3_locate_86 rfl ?_
    refine z_getf (T := TX3) (N := 8) C (by first | assumption | exact zU_same _ _ _ | exact (zU_ne hqs.symm).trans hse1) rfl 6 (by decide) kw_128 (Or.inl rfl) rfl dX3_locate_87 ?_
    refine z_putf (T := TX0) (N := 8) C (by first | assumption | exact zU_same _ _ _ | exact (zU_ne hqs.symm).trans hse1) rfl 6 (by decide) kw_456 (Or.inl rfl) rfl (tyX0_ok 6 (by decide)) rfl rfl (Nat.le_of_ble_eq_true rfl) dX3_locate_90 ?_
    rw [zU_zU]
    first | refine z_rload_n C dX3_locate_93 rfl ?_ | refine z_nload_n C dX3_locate_93 rfl ?_ | refine z_aload_n C dX3_locate_93 rfl ?_
    refine z_iconst (v := 1) C dX3_locate_94 rfl ?_
    refine z_putf (T := TX0) (N := 8) C (by first | assumption | exact zU_same _ _ _ | exact (zU_ne hqs.symm).trans hse1) rfl 2 (by decide) kw_441 (Or.inl rfl) rfl (tyX0_ok 2 (by decide)) rfl rfl (Nat.le_of_ble_eq_true rfl) dX3_locate_95 ?_
    rw [zU_zU]
    have e : ∀ a, a ≠ q → zU G1 q (oEv n ml 1 bx bY bz bb lb) a = G1 a := fun a h => zU_ne h
    have hro1 : (∃ rs tot, zRo Γ (zU G1 q (oEv n ml 1 bx bY bz bb lb)) ro na wa rs tot) := by
      obtain ⟨r2, t2, g1, g2, g3, f, g, g4, g5, g6⟩ := h1.2.2.1
      exact ⟨r2, t2, g1, g2, (e ro (zG_ne g3 hq1 (fun z => by cases z))).trans g3, f, g, (e na (zG_ne g4 hq1 zI_ne)).trans g4, (e wa (zG_ne g5 hq1 zI_ne)).trans g5, g6⟩
    first | refine z_rload_n C dX3_locate_98 rfl ?_ | refine z_nload_n C dX3_locate_98 rfl ?_ | refine z_aload_n C dX3_locate_98 rfl ?_
    refine z_getf (T := TX3) (N := 8) C (by first | assumption | exact zU_same _ _ _ | exact (zU_ne hqs.symm).trans hse1) rfl 7 (by decide) kw_129 (Or.inl rfl) rfl dX3_locate_99 ?_
    exact z_lret C F hr (Nat.le_of_ble_eq_true rfl) (Nat.le_of_ble_eq_true rfl) ⟨bx, bY, bz, bb, lm, rfl, h2, zU_same _ _ _, (e se hqs.symm).trans hse1, hro1, fun a z1 z2 z3 z4 z5 => (e a z1).trans (hf a z2 z3 z4 z5)⟩ dX3_locate_102
  have loop : ∀ (dk kk : Nat) (G1 : zG) (w2 : Option Value), kk + dk = 4 → zSt Γ G G1 se wv ro na wa q ml mAr sp ss ms pd True → Z p l e rm_c_locate s m args below meth c Q 4 Γ A G1 0 0 15 [some (.ref se), some (.ref q), some (.int (nI kk)), w2] [] := by
    intro dk
    induction dk with
    | zero =>
      intro kk G1 w2 hk hT
      refine z_iload_n C dX3_locate_15 rfl ?_
      refine z_getsteps C kw_607 dX3_locate_16 ?_
      refine z_stepslen C dX3_locate_19 ?_
      refine z_icmp_ge (tgt := 61) C dX3_locate_20 (by decide) (fun h20 => ?_) (fun h20 => ?_)
      · exact fin G1 _ _ hT
      · exact absurd (nI_le (a := 4) (by omega) (by omega)) h20
    | succ dk ih =>
      intro kk G1 w2 hk hT
      refine z_iload_n C dX3_locate_15 rfl ?_
      refine z_getsteps C kw_607 dX3_locate_16 ?_
      refine z_stepslen C dX3_locate_19 ?_
      refine z_icmp_ge (tgt := 61) C dX3_locate_20 (by decide) (fun h20 => ?_) (fun h20 => ?_)
      · exact absurd h20 (nI_ge (b := 4) (by omega) (by decide))
      · obtain ⟨hf, hb, bx, bY, bz, bb, lm, h1, h2, h3⟩ := hT
        have e1 : hb = 1 := h3 trivial
        subst e1
        have hse1 := h1.1
        have hpl := (h2.2 rfl).1
        refine z_getsteps C kw_607 dX3_locate_23 ?_
        refine z_iload_n C dX3_locate_26 rfl ?_
        refine z_stepsld C (vp_in_nI (n := kk) (N := 4) (by omega) (by decide)) rfl dX3_locate_27 ?_
        obtain ⟨sT, hsT⟩ : ∃ sT : Int32, sT = (if (nI kk).toNatClampNeg = 0 then 10 else if (nI kk).toNatClampNeg = 1 then 5 else if (nI kk).toNatClampNeg = 2 then 2 else 1) := ⟨_, rfl⟩
        rw [← hsT]
        refine z_istore_n C dX3_locate_28 (by decide) ?_
        first | refine z_rload_n C dX3_locate_29 rfl ?_ | refine z_nload_n C dX3_locate_29 rfl ?_ | refine z_aload_n C dX3_locate_29 rfl ?_
        first | refine z_rload_n C dX3_locate_30 rfl ?_ | refine z_nload_n C dX3_locate_30 rfl ?_ | refine z_aload_n C dX3_locate_30 rfl ?_
        first | refine z_rload_n C dX3_locate_31 rfl ?_ | refine z_nload_n C dX3_locate_31 rfl ?_ | refine z_aload_n C dX3_locate_31 rfl ?_
        refine z_getf (T := TX3) (N := 8) C (by first | assumption | exact zU_same _ _ _ | exact (zU_ne hqs.symm).trans hse1) rfl 3 (by decide) kw_125 (Or.inl rfl) rfl dX3_locate_32 ?_
        refine z_iload_n C dX3_locate_35 rfl ?_
        refine z_isub C dX3_locate_36 ?_
        first | refine z_rload_n C dX3_locate_37 rfl ?_ | refine z_nload_n C dX3_locate_37 rfl ?_ | refine z_aload_n C dX3_locate_37 rfl ?_
        refine z_getf (T := TX3) (N := 8) C (by first | assumption | exact zU_same _ _ _ | exact (zU_ne hqs.symm).trans hse1) rfl 4 (by decide) kw_126 (Or.inl rfl) rfl dX3_locate_38 ?_
        refine z_iload_n C dX3_locate_41 rfl ?_
        refine z_isub C dX3_locate_42 ?_
        first | refine z_rload_n C dX3_locate_43 rfl ?_ | refine z_nload_n C dX3_locate_43 rfl ?_ | refine z_aload_n C dX3_locate_43 rfl ?_
        refine z_getf (T := TX3) (N := 8) C (by first | assumption | exact zU_same _ _ _ | exact (zU_ne hqs.symm).trans hse1) rfl 5 (by decide) kw_127 (Or.inl rfl) rfl dX3_locate_44 ?_
        refine z_iload_n C dX3_locate_47 rfl ?_
        refine z_isub C dX3_locate_48 ?_
        refine z_iconst (v := 3) C dX3_locate_49 rfl ?_
        refine z_iconst (v := 3) C dX3_locate_50 rfl ?_
        refine z_iload_n C dX3_locate_51 rfl ?_
        refine z_callV (q := (RX3, TX3, 8)) C (c_scan l Γ G1 (bx - sT) (bY - sT) (bz - sT) sT 3 3 1 1 1 (by decide) (by decide) (by decide) (by decide) (by decide) (by rw [i_back, i_back, i_back]; exact hpl) h1) kc_X3_locate_52 (by first | assumption | exact zU_same _ _ _ | exact (zU_ne hqs.symm).trans hse1) rfl rfl rfl rfl ky_X3_scan ⟨(Nat.le_of_ble_eq_true rfl), (Nat.le_of_ble_eq_true rfl)⟩ (Nat.le_of_ble_eq_true rfl) ⟨(Nat.le_of_ble_eq_true rfl), (Nat.le_of_ble_eq_true rfl)⟩ dX3_locate_52 (fun v52 G52 hp52 => ?_)
        obtain ⟨rfl, hf2, h4⟩ := hp52
        refine z_iinc (w := 1) C dX3_locate_55 rfl rfl (by decide) ?_
        refine z_goto (tgt := 15) C dX3_locate_58 (by decide) ?_
        rw [← nI_succ]
        exact ih (kk + 1) _ _ (by omega) ⟨hf.trans hf2, h4⟩
  first | refine z_rload_n C dX3_locate_0 rfl ?_ | refine z_nload_n C dX3_locate_0 rfl ?_ | refine z_aload_n C dX3_locate_0 rfl ?_
  first | refine z_rload_n C dX3_locate_1 rfl ?_ | refine z_nload_n C dX3_locate_1 rfl ?_ | refine z_aload_n C dX3_locate_1 rfl ?_
  refine z_iconst (v := 0) C dX3_locate_2 rfl ?_
  refine z_iconst (v := 0) C dX3_locate_3 rfl ?_
  refine z_iconst (v := 0) C dX3_locate_4 rfl ?_
  refine z_bipush (v := 11) C dX3_locate_5 rfl ?_
  refine z_iconst (v := 4) C dX3_locate_7 rfl ?_
  refine z_bipush (v := 20) C dX3_locate_8 rfl ?_
  refine z_callV (q := (RX3, TX3, 8)) C (c_scan l Γ G 0 0 0 20 11 4 0 0 0 (by decide) (by decide) (by decide) (by decide) (by decide) (by unfold s_place; decide) hS) kc_X3_locate_10 (by first | assumption | exact zU_same _ _ _) rfl rfl rfl rfl ky_X3_scan ⟨(Nat.le_of_ble_eq_true rfl), (Nat.le_of_ble_eq_true rfl)⟩ (Nat.le_of_ble_eq_true rfl) ⟨(Nat.le_of_ble_eq_true rfl), (Nat.le_of_ble_eq_true rfl)⟩ dX3_locate_10 (fun v10 G10 hp10 => ?_)
  obtain ⟨rfl, hf2, h4⟩ := hp10
  refine z_iconst (v := 0) C dX3_locate_13 rfl ?_
  refine z_istore_n C dX3_locate_14 (by decide) ?_
  exact loop 4 0 _ none rfl ⟨hf2, h4⟩

