
/-! the reference's constructor, with all its arrays -/
abbrev rm_m_init2 : Room := { frames := 1, cells := 12, slots := 722, locals := 20 }
set_option maxHeartbeats 4000000 in
set_option maxRecDepth 100000 in
theorem m_init2 (l : Launch) (Γ : zY) (G : zG) {mo : Nat} (hb : G mo = some (.inr (8, [.int 0, .int 0, .int 0, .int 0, .null, .null, .null, .int 0, .null, .null, .null, .null, .null, .null, .int 0, .null, .null, .null, .int 0]))) : ZM l yX7_init cX7_init 1 (none) rm_m_init2 Γ [.ref mo] G (fun v G' => none = v ∧ ∃ μ : Nat → Nat, G' mo = some (oM0 0 μ) ∧ zMf Γ G' μ ∧ (∀ i, ∃ e, G' (μ i) = some e) ∧ ∀ q e, G q = some e → q ≠ mo → G' q = some e) := by
  refine z_start (by decide +kernel) [some (.ref mo)] rfl (Nat.le_of_ble_eq_true rfl) ?_
  intro p e s m args below meth c Q A C F hr hnm
  have f_old : ∀ q e, G q = some e → q ≠ mo → G q = some e := fun q e h _ => h
  first | refine z_rload_n C dX7_init_0 rfl ?_ | refine z_nload_n C dX7_init_0 rfl ?_ | refine z_aload_n C dX7_init_0 rfl ?_
  refine z_obj C ko_X7_init_1 (Nat.le_of_ble_eq_true rfl) (Nat.le_of_ble_eq_true rfl) (Nat.le_of_ble_eq_true rfl) (Nat.le_of_ble_eq_true rfl) dX7_init_1 ?_
  first | refine z_rload_n C dX7_init_4 rfl ?_ | refine z_nload_n C dX7_init_4 rfl ?_ | refine z_aload_n C dX7_init_4 rfl ?_
  refine z_sipush (v := 6000) C dX7_init_5 rfl ?_
  refine z_putf (T := TX7) (N := 19) C (by first | assumption | exact zU_same _ _ _) rfl 1 (by decide) kw_1169 (Or.inl rfl) rfl (tyX7_ok 1 (by decide)) rfl rfl (Nat.le_of_ble_eq_true rfl) dX7_init_8 ?_
  first | refine z_rload_n C dX7_init_11 rfl ?_ | refine z_nload_n C dX7_init_11 rfl ?_ | refine z_aload_n C dX7_init_11 rfl ?_
  refine z_sipush (v := 3468) C dX7_init_12 rfl ?_
  refine z_putf (T := TX7) (N := 19) C (by first | assumption | exact zU_same _ _ _) rfl 2 (by decide) kw_1170 (Or.inl rfl) rfl (tyX7_ok 2 (by decide)) rfl rfl (Nat.le_of_ble_eq_true rfl) dX7_init_15 ?_
  refine z_gen (fun G0_ e_0 => ?_)
  replace f_old : ∀ q e, G q = some e → q ≠ mo → G0_ q = some e := fun q e h h2 => (e_0 q).trans ((zU_ne h2).trans ((zU_ne h2).trans h))
  have f_mo : G0_ mo = some (.inr (8, [.int 0, .int 6000, .int 3468, .int 0, .null, .null, .null, .int 0, .null, .null, .null, .null, .null, .null, .int 0, .null, .null, .null, .int 0])) := (e_0 mo).trans (zU_same _ _ _)
  first | refine z_rload_n C dX7_init_18 rfl ?_ | refine z_nload_n C dX7_init_18 rfl ?_ | refine z_aload_n C dX7_init_18 rfl ?_
  refine z_bipush (v := 10) C dX7_init_19 rfl ?_
  refine z_newi (N := 10) C kw_153 (by decide) (by decide) (Nat.le_of_ble_eq_true rfl) (Nat.le_of_ble_eq_true rfl) (Nat.le_of_ble_eq_true rfl) dX7_init_21 (fun a21 n21 => ?_)
  have dm_0 : a21 ≠ mo := (zG_nn f_mo n21).symm
  have o_0 : G a21 = none := by
    cases hq : G a21 with
    | none => rfl
    | some e => rw [f_old _ _ hq dm_0] at n21; cases n21
  refine z_putF (T := TX7) (N := 19) C ((zU_ne dm_0.symm).trans f_mo) rfl 4 (by decide) kw_1172 (Or.inl rfl) rfl hnm rfl (tyX7_ok 4 (by decide)) rfl rfl (Nat.le_of_ble_eq_true rfl) dX7_init_23 ?_
  refine z_gen (fun G1_ e_1 => ?_)
  replace f_old : ∀ q e, G q = some e → q ≠ mo → G1_ q = some e := fun q e h h2 => (e_1 q).trans ((zU_ne h2).trans ((zU_ne (zG_nn (f_old q e h h2) n21)).trans (f_old q e h h2)))
  replace f_mo : G1_ mo = some (.inr (8, [.int 0, .int 6000, .int 3468, .int 0, .ref a21, .null, .null, .int 0, .null, .null, .null, .null, .null, .null, .int 0, .null, .null, .null, .int 0])) := (e_1 mo).trans (zU_same _ _ _)
  have f_0 : G1_ a21 = some (zI Γ 10 (fun _ => 0)) := (e_1 a21).trans ((zU_ne dm_0).trans (zU_same _ _ _))
  first | refine z_rload_n C dX7_init_26 rfl ?_ | refine z_nload_n C dX7_init_26 rfl ?_ | refine z_aload_n C dX7_init_26 rfl ?_
  refine z_bipush (v := 10) C dX7_init_27 rfl ?_
  refine z_newi (N := 10) C kw_153 (by decide) (by decide) (Nat.le_of_ble_eq_true rfl) (Nat.le_of_ble_eq_true rfl) (Nat.le_of_ble_eq_true rfl) dX7_init_29 (fun a29 n29 => ?_)
  have dm_1 : a29 ≠ mo := (zG_nn f_mo n29).symm
  have o_1 : G a29 = none := by
    cases hq : G a29 with
    | none => rfl
    | some e => rw [f_old _ _ hq dm_1] at n29; cases n29
  have dd_0_1 : a21 ≠ a29 := zG_nn f_0 n29
  refine z_putF (T := TX7) (N := 19) C ((zU_ne dm_1.symm).trans f_mo) rfl 5 (by decide) kw_1173 (Or.inl rfl) rfl hnm rfl (tyX7_ok 5 (by decide)) rfl rfl (Nat.le_of_ble_eq_true rfl) dX7_init_31 ?_
  refine z_gen (fun G2_ e_2 => ?_)
  replace f_old : ∀ q e, G q = some e → q ≠ mo → G2_ q = some e := fun q e h h2 => (e_2 q).trans ((zU_ne h2).trans ((zU_ne (zG_nn (f_old q e h h2) n29)).trans (f_old q e h h2)))
  replace f_0 := (e_2 a21).trans ((zU_ne dm_0).trans ((zU_ne dd_0_1).trans f_0))
  replace f_mo : G2_ mo = some (.inr (8, [.int 0, .int 6000, .int 3468, .int 0, .ref a21, .ref a29, .null, .int 0, .null, .null, .null, .null, .null, .null, .int 0, .null, .null, .null, .int 0])) := (e_2 mo).trans (zU_same _ _ _)
  have f_1 : G2_ a29 = some (zI Γ 10 (fun _ => 0)) := (e_2 a29).trans ((zU_ne dm_1).trans (zU_same _ _ _))
  first | refine z_rload_n C dX7_init_34 rfl ?_ | refine z_nload_n C dX7_init_34 rfl ?_ | refine z_aload_n C dX7_init_34 rfl ?_
  refine z_bipush (v := 10) C dX7_init_35 rfl ?_
  refine z_newi (N := 10) C kw_153 (by decide) (by decide) (Nat.le_of_ble_eq_true rfl) (Nat.le_of_ble_eq_true rfl) (Nat.le_of_ble_eq_true rfl) dX7_init_37 (fun a37 n37 => ?_)
  have dm_2 : a37 ≠ mo := (zG_nn f_mo n37).symm
  have o_2 : G a37 = none := by
    cases hq : G a37 with
    | none => rfl
    | some e => rw [f_old _ _ hq dm_2] at n37; cases n37
  have dd_0_2 : a21 ≠ a37 := zG_nn f_0 n37
  have dd_1_2 : a29 ≠ a37 := zG_nn f_1 n37
  refine z_putF (T := TX7) (N := 19) C ((zU_ne dm_2.symm).trans f_mo) rfl 6 (by decide) kw_1174 (Or.inl rfl) rfl hnm rfl (tyX7_ok 6 (by decide)) rfl rfl (Nat.le_of_ble_eq_true rfl) dX7_init_39 ?_
  refine z_gen (fun G3_ e_3 => ?_)
  replace f_old : ∀ q e, G q = some e → q ≠ mo → G3_ q = some e := fun q e h h2 => (e_3 q).trans ((zU_ne h2).trans ((zU_ne (zG_nn (f_old q e h h2) n37)).trans (f_old q e h h2)))
  replace f_0 := (e_3 a21).trans ((zU_ne dm_0).trans ((zU_ne dd_0_2).trans f_0))
  replace f_1 := (e_3 a29).trans ((zU_ne dm_1).trans ((zU_ne dd_1_2).trans f_1))
  replace f_mo : G3_ mo = some (.inr (8, [.int 0, .int 6000, .int 3468, .int 0, .ref a21, .ref a29, .ref a37, .int 0, .null, .null, .null, .null, .null, .null, .int 0, .null, .null, .null, .int 0])) := (e_3 mo).trans (zU_same _ _ _)
  have f_2 : G3_ a37 = some (zI Γ 10 (fun _ => 0)) := (e_3 a37).trans ((zU_ne dm_2).trans (zU_same _ _ _))
  first | refine z_rload_n C dX7_init_42 rfl ?_ | refine z_nload_n C dX7_init_42 rfl ?_ | refine z_aload_n C dX7_init_42 rfl ?_
  refine z_bipush (v := 80) C dX7_init_43 rfl ?_
  refine z_newi (N := 80) C kw_153 (by decide) (by decide) (Nat.le_of_ble_eq_true rfl) (Nat.le_of_ble_eq_true rfl) (Nat.le_of_ble_eq_true rfl) dX7_init_45 (fun a45 n45 => ?_)
  have dm_3 : a45 ≠ mo := (zG_nn f_mo n45).symm
  have o_3 : G a45 = none := by
    cases hq : G a45 with
    | none => rfl
    | some e => rw [f_old _ _ hq dm_3] at n45; cases n45
  have dd_0_3 : a21 ≠ a45 := zG_nn f_0 n45
  have dd_1_3 : a29 ≠ a45 := zG_nn f_1 n45
  have dd_2_3 : a37 ≠ a45 := zG_nn f_2 n45
  refine z_putF (T := TX7) (N := 19) C ((zU_ne dm_3.symm).trans f_mo) rfl 8 (by decide) kw_1176 (Or.inl rfl) rfl hnm rfl (tyX7_ok 8 (by decide)) rfl rfl (Nat.le_of_ble_eq_true rfl) dX7_init_47 ?_
  refine z_gen (fun G4_ e_4 => ?_)
  replace f_old : ∀ q e, G q = some e → q ≠ mo → G4_ q = some e := fun q e h h2 => (e_4 q).trans ((zU_ne h2).trans ((zU_ne (zG_nn (f_old q e h h2) n45)).trans (f_old q e h h2)))
  replace f_0 := (e_4 a21).trans ((zU_ne dm_0).trans ((zU_ne dd_0_3).trans f_0))
  replace f_1 := (e_4 a29).trans ((zU_ne dm_1).trans ((zU_ne dd_1_3).trans f_1))
  replace f_2 := (e_4 a37).trans ((zU_ne dm_2).trans ((zU_ne dd_2_3).trans f_2))
  replace f_mo : G4_ mo = some (.inr (8, [.int 0, .int 6000, .int 3468, .int 0, .ref a21, .ref a29, .ref a37, .int 0, .ref a45, .null, .null, .null, .null, .null, .int 0, .null, .null, .null, .int 0])) := (e_4 mo).trans (zU_same _ _ _)
  have f_3 : G4_ a45 = some (zI Γ 80 (fun _ => 0)) := (e_4 a45).trans ((zU_ne dm_3).trans (zU_same _ _ _))
  first | refine z_rload_n C dX7_init_50 rfl ?_ | refine z_nload_n C dX7_init_50 rfl ?_ | refine z_aload_n C dX7_init_50 rfl ?_
  refine z_bipush (v := 80) C dX7_init_51 rfl ?_
  refine z_newz (N := 80) C kw_1226 (by decide) (by decide) (Nat.le_of_ble_eq_true rfl) (Nat.le_of_ble_eq_true rfl) (Nat.le_of_ble_eq_true rfl) dX7_init_53 (fun a53 n53 => ?_)
  have dm_4 : a53 ≠ mo := (zG_nn f_mo n53).symm
  have o_4 : G a53 = none := by
    cases hq : G a53 with
    | none => rfl
    | some e => rw [f_old _ _ hq dm_4] at n53; cases n53
  have dd_0_4 : a21 ≠ a53 := zG_nn f_0 n53
  have dd_1_4 : a29 ≠ a53 := zG_nn f_1 n53
  have dd_2_4 : a37 ≠ a53 := zG_nn f_2 n53
  have dd_3_4 : a45 ≠ a53 := zG_nn f_3 n53
  refine z_putF (T := TX7) (N := 19) C ((zU_ne dm_4.symm).trans f_mo) rfl 9 (by decide) kw_1177 (Or.inl rfl) rfl hnm rfl (tyX7_ok 9 (by decide)) rfl rfl (Nat.le_of_ble_eq_true rfl) dX7_init_55 ?_
  refine z_gen (fun G5_ e_5 => ?_)
  replace f_old : ∀ q e, G q = some e → q ≠ mo → G5_ q = some e := fun q e h h2 => (e_5 q).trans ((zU_ne h2).trans ((zU_ne (zG_nn (f_old q e h h2) n53)).trans (f_old q e h h2)))
  replace f_0 := (e_5 a21).trans ((zU_ne dm_0).trans ((zU_ne dd_0_4).trans f_0))
  replace f_1 := (e_5 a29).trans ((zU_ne dm_1).trans ((zU_ne dd_1_4).trans f_1))
  replace f_2 := (e_5 a37).trans ((zU_ne dm_2).trans ((zU_ne dd_2_4).trans f_2))
  replace f_3 := (e_5 a45).trans ((zU_ne dm_3).trans ((zU_ne dd_3_4).trans f_3))
  replace f_mo : G5_ mo = some (.inr (8, [.int 0, .int 6000, .int 3468, .int 0, .ref a21, .ref a29, .ref a37, .int 0, .ref a45, .ref a53, .null, .null, .null, .null, .int 0, .null, .null, .null, .int 0])) := (e_5 mo).trans (zU_same _ _ _)
  have f_4 : G5_ a53 = some (zZ Γ 80 (fun _ => 0)) := (e_5 a53).trans ((zU_ne dm_4).trans (zU_same _ _ _))
  first | refine z_rload_n C dX7_init_58 rfl ?_ | refine z_nload_n C dX7_init_58 rfl ?_ | refine z_aload_n C dX7_init_58 rfl ?_
  refine z_bipush (v := 80) C dX7_init_59 rfl ?_
  refine z_newi (N := 80) C kw_153 (by decide) (by decide) (Nat.le_of_ble_eq_true rfl) (Nat.le_of_ble_eq_true rfl) (Nat.le_of_ble_eq_true rfl) dX7_init_61 (fun a61 n61 => ?_)
  have dm_5 : a61 ≠ mo := (zG_nn f_mo n61).symm
  have o_5 : G a61 = none := by
    cases hq : G a61 with
    | none => rfl
    | some e => rw [f_old _ _ hq dm_5] at n61; cases n61
  have dd_0_5 : a21 ≠ a61 := zG_nn f_0 n61
  have dd_1_5 : a29 ≠ a61 := zG_nn f_1 n61
  have dd_2_5 : a37 ≠ a61 := zG_nn f_2 n61
  have dd_3_5 : a45 ≠ a61 := zG_nn f_3 n61
  have dd_4_5 : a53 ≠ a61 := zG_nn f_4 n61
  refine z_putF (T := TX7) (N := 19) C ((zU_ne dm_5.symm).trans f_mo) rfl 10 (by decide) kw_1178 (Or.inl rfl) rfl hnm rfl (tyX7_ok 10 (by decide)) rfl rfl (Nat.le_of_ble_eq_true rfl) dX7_init_63 ?_
  refine z_gen (fun G6_ e_6 => ?_)
  replace f_old : ∀ q e, G q = some e → q ≠ mo → G6_ q = some e := fun q e h h2 => (e_6 q).trans ((zU_ne h2).trans ((zU_ne (zG_nn (f_old q e h h2) n61)).trans (f_old q e h h2)))
  replace f_0 := (e_6 a21).trans ((zU_ne dm_0).trans ((zU_ne dd_0_5).trans f_0))
  replace f_1 := (e_6 a29).trans ((zU_ne dm_1).trans ((zU_ne dd_1_5).trans f_1))
  replace f_2 := (e_6 a37).trans ((zU_ne dm_2).trans ((zU_ne dd_2_5).trans f_2))
  replace f_3 := (e_6 a45).trans ((zU_ne dm_3).trans ((zU_ne dd_3_5).trans f_3))
  replace f_4 := (e_6 a53).trans ((zU_ne dm_4).trans ((zU_ne dd_4_5).trans f_4))
  replace f_mo : G6_ mo = some (.inr (8, [.int 0, .int 6000, .int 3468, .int 0, .ref a21, .ref a29, .ref a37, .int 0, .ref a45, .ref a53, .ref a61, .null, .null, .null, .int 0, .null, .null, .null, .int 0])) := (e_6 mo).trans (zU_same _ _ _)
  have f_5 : G6_ a61 = some (zI Γ 80 (fun _ => 0)) := (e_6 a61).trans ((zU_ne dm_5).trans (zU_same _ _ _))
  first | refine z_rload_n C dX7_init_66 rfl ?_ | refine z_nload_n C dX7_init_66 rfl ?_ | refine z_aload_n C dX7_init_66 rfl ?_
  refine z_bipush (v := 80) C dX7_init_67 rfl ?_
  refine z_newi (N := 80) C kw_153 (by decide) (by decide) (Nat.le_of_ble_eq_true rfl) (Nat.le_of_ble_eq_true rfl) (Nat.le_of_ble_eq_true rfl) dX7_init_69 (fun a69 n69 => ?_)
  have dm_6 : a69 ≠ mo := (zG_nn f_mo n69).symm
  have o_6 : G a69 = none := by
    cases hq : G a69 with
    | none => rfl
    | some e => rw [f_old _ _ hq dm_6] at n69; cases n69
  have dd_0_6 : a21 ≠ a69 := zG_nn f_0 n69
  have dd_1_6 : a29 ≠ a69 := zG_nn f_1 n69
  have dd_2_6 : a37 ≠ a69 := zG_nn f_2 n69
  have dd_3_6 : a45 ≠ a69 := zG_nn f_3 n69
  have dd_4_6 : a53 ≠ a69 := zG_nn f_4 n69
  have dd_5_6 : a61 ≠ a69 := zG_nn f_5 n69
  refine z_putF (T := TX7) (N := 19) C ((zU_ne dm_6.symm).trans f_mo) rfl 11 (by decide) kw_1179 (Or.inl rfl) rfl hnm rfl (tyX7_ok 11 (by decide)) rfl rfl (Nat.le_of_ble_eq_true rfl) dX7_init_71 ?_
  refine z_gen (fun G7_ e_7 => ?_)
  replace f_old : ∀ q e, G q = some e → q ≠ mo → G7_ q = some e := fun q e h h2 => (e_7 q).trans ((zU_ne h2).trans ((zU_ne (zG_nn (f_old q e h h2) n69)).trans (f_old q e h h2)))
  replace f_0 := (e_7 a21).trans ((zU_ne dm_0).trans ((zU_ne dd_0_6).trans f_0))
  replace f_1 := (e_7 a29).trans ((zU_ne dm_1).trans ((zU_ne dd_1_6).trans f_1))
  replace f_2 := (e_7 a37).trans ((zU_ne dm_2).trans ((zU_ne dd_2_6).trans f_2))
  replace f_3 := (e_7 a45).trans ((zU_ne dm_3).trans ((zU_ne dd_3_6).trans f_3))
  replace f_4 := (e_7 a53).trans ((zU_ne dm_4).trans ((zU_ne dd_4_6).trans f_4))
  replace f_5 := (e_7 a61).trans ((zU_ne dm_5).trans ((zU_ne dd_5_6).trans f_5))
  replace f_mo : G7_ mo = some (.inr (8, [.int 0, .int 6000, .int 3468, .int 0, .ref a21, .ref a29, .ref a37, .int 0, .ref a45, .ref a53, .ref a61, .ref a69, .null, .null, .int 0, .null, .null, .null, .int 0])) := (e_7 mo).trans (zU_same _ _ _)
  have f_6 : G7_ a69 = some (zI Γ 80 (fun _ => 0)) := (e_7 a69).trans ((zU_ne dm_6).trans (zU_same _ _ _))
  first | refine z_rload_n C dX7_init_74 rfl ?_ | refine z_nload_n C dX7_init_74 rfl ?_ | refine z_aload_n C dX7_init_74 rfl ?_
  refine z_bipush (v := 80) C dX7_init_75 rfl ?_
  refine z_newi (N := 80) C kw_153 (by decide) (by decide) (Nat.le_of_ble_eq_true rfl) (Nat.le_of_ble_eq_true rfl) (Nat.le_of_ble_eq_true rfl) dX7_init_77 (fun a77 n77 => ?_)
  have dm_7 : a77 ≠ mo := (zG_nn f_mo n77).symm
  have o_7 : G a77 = none := by
    cases hq : G a77 with
    | none => rfl
    | some e => rw [f_old _ _ hq dm_7] at n77; cases n77
  have dd_0_7 : a21 ≠ a77 := zG_nn f_0 n77
  have dd_1_7 : a29 ≠ a77 := zG_nn f_1 n77
  have dd_2_7 : a37 ≠ a77 := zG_nn f_2 n77
  have dd_3_7 : a45 ≠ a77 := zG_nn f_3 n77
  have dd_4_7 : a53 ≠ a77 := zG_nn f_4 n77
  have dd_5_7 : a61 ≠ a77 := zG_nn f_5 n77
  have dd_6_7 : a69 ≠ a77 := zG_nn f_6 n77
  refine z_putF (T := TX7) (N := 19) C ((zU_ne dm_7.symm).trans f_mo) rfl 12 (by decide) kw_1180 (Or.inl rfl) rfl hnm rfl (tyX7_ok 12 (by decide)) rfl rfl (Nat.le_of_ble_eq_true rfl) dX7_init_79 ?_
  refine z_gen (fun G8_ e_8 => ?_)
  replace f_old : ∀ q e, G q = some e → q ≠ mo → G8_ q = some e := fun q e h h2 => (e_8 q).trans ((zU_ne h2).trans ((zU_ne (zG_nn (f_old q e h h2) n77)).trans (f_old q e h h2)))
  replace f_0 := (e_8 a21).trans ((zU_ne dm_0).trans ((zU_ne dd_0_7).trans f_0))
  replace f_1 := (e_8 a29).trans ((zU_ne dm_1).trans ((zU_ne dd_1_7).trans f_1))
  replace f_2 := (e_8 a37).trans ((zU_ne dm_2).trans ((zU_ne dd_2_7).trans f_2))
  replace f_3 := (e_8 a45).trans ((zU_ne dm_3).trans ((zU_ne dd_3_7).trans f_3))
  replace f_4 := (e_8 a53).trans ((zU_ne dm_4).trans ((zU_ne dd_4_7).trans f_4))
  replace f_5 := (e_8 a61).trans ((zU_ne dm_5).trans ((zU_ne dd_5_7).trans f_5))
  replace f_6 := (e_8 a69).trans ((zU_ne dm_6).trans ((zU_ne dd_6_7).trans f_6))
  replace f_mo : G8_ mo = some (.inr (8, [.int 0, .int 6000, .int 3468, .int 0, .ref a21, .ref a29, .ref a37, .int 0, .ref a45, .ref a53, .ref a61, .ref a69, .ref a77, .null, .int 0, .null, .null, .null, .int 0])) := (e_8 mo).trans (zU_same _ _ _)
  have f_7 : G8_ a77 = some (zI Γ 80 (fun _ => 0)) := (e_8 a77).trans ((zU_ne dm_7).trans (zU_same _ _ _))
  first | refine z_rload_n C dX7_init_82 rfl ?_ | refine z_nload_n C dX7_init_82 rfl ?_ | refine z_aload_n C dX7_init_82 rfl ?_
  refine z_bipush (v := 80) C dX7_init_83 rfl ?_
  refine z_newi (N := 80) C kw_153 (by decide) (by decide) (Nat.le_of_ble_eq_true rfl) (Nat.le_of_ble_eq_true rfl) (Nat.le_of_ble_eq_true rfl) dX7_init_85 (fun a85 n85 => ?_)
  have dm_8 : a85 ≠ mo := (zG_nn f_mo n85).symm
  have o_8 : G a85 = none := by
    cases hq : G a85 with
    | none => rfl
    | some e => rw [f_old _ _ hq dm_8] at n85; cases n85
  have dd_0_8 : a21 ≠ a85 := zG_nn f_0 n85
  have dd_1_8 : a29 ≠ a85 := zG_nn f_1 n85
  have dd_2_8 : a37 ≠ a85 := zG_nn f_2 n85
  have dd_3_8 : a45 ≠ a85 := zG_nn f_3 n85
  have dd_4_8 : a53 ≠ a85 := zG_nn f_4 n85
  have dd_5_8 : a61 ≠ a85 := zG_nn f_5 n85
  have dd_6_8 : a69 ≠ a85 := zG_nn f_6 n85
  have dd_7_8 : a77 ≠ a85 := zG_nn f_7 n85
  refine z_putF (T := TX7) (N := 19) C ((zU_ne dm_8.symm).trans f_mo) rfl 13 (by decide) kw_1181 (Or.inl rfl) rfl hnm rfl (tyX7_ok 13 (by decide)) rfl rfl (Nat.le_of_ble_eq_true rfl) dX7_init_87 ?_
  refine z_gen (fun G9_ e_9 => ?_)
  replace f_old : ∀ q e, G q = some e → q ≠ mo → G9_ q = some e := fun q e h h2 => (e_9 q).trans ((zU_ne h2).trans ((zU_ne (zG_nn (f_old q e h h2) n85)).trans (f_old q e h h2)))
  replace f_0 := (e_9 a21).trans ((zU_ne dm_0).trans ((zU_ne dd_0_8).trans f_0))
  replace f_1 := (e_9 a29).trans ((zU_ne dm_1).trans ((zU_ne dd_1_8).trans f_1))
  replace f_2 := (e_9 a37).trans ((zU_ne dm_2).trans ((zU_ne dd_2_8).trans f_2))
  replace f_3 := (e_9 a45).trans ((zU_ne dm_3).trans ((zU_ne dd_3_8).trans f_3))
  replace f_4 := (e_9 a53).trans ((zU_ne dm_4).trans ((zU_ne dd_4_8).trans f_4))
  replace f_5 := (e_9 a61).trans ((zU_ne dm_5).trans ((zU_ne dd_5_8).trans f_5))
  replace f_6 := (e_9 a69).trans ((zU_ne dm_6).trans ((zU_ne dd_6_8).trans f_6))
  replace f_7 := (e_9 a77).trans ((zU_ne dm_7).trans ((zU_ne dd_7_8).trans f_7))
  replace f_mo : G9_ mo = some (.inr (8, [.int 0, .int 6000, .int 3468, .int 0, .ref a21, .ref a29, .ref a37, .int 0, .ref a45, .ref a53, .ref a61, .ref a69, .ref a77, .ref a85, .int 0, .null, .null, .null, .int 0])) := (e_9 mo).trans (zU_same _ _ _)
  have f_8 : G9_ a85 = some (zI Γ 80 (fun _ => 0)) := (e_9 a85).trans ((zU_ne dm_8).trans (zU_same _ _ _))
  first | refine z_rload_n C dX7_init_90 rfl ?_ | refine z_nload_n C dX7_init_90 rfl ?_ | refine z_aload_n C dX7_init_90 rfl ?_
  refine z_bipush (v := 12) C dX7_init_91 rfl ?_
  refine z_newz (N := 12) C kw_1226 (by decide) (by decide) (Nat.le_of_ble_eq_true rfl) (Nat.le_of_ble_eq_true rfl) (Nat.le_of_ble_eq_true rfl) dX7_init_93 (fun a93 n93 => ?_)
  have dm_9 : a93 ≠ mo := (zG_nn f_mo n93).symm
  have o_9 : G a93 = none := by
    cases hq : G a93 with
    | none => rfl
    | some e => rw [f_old _ _ hq dm_9] at n93; cases n93
  have dd_0_9 : a21 ≠ a93 := zG_nn f_0 n93
  have dd_1_9 : a29 ≠ a93 := zG_nn f_1 n93
  have dd_2_9 : a37 ≠ a93 := zG_nn f_2 n93
  have dd_3_9 : a45 ≠ a93 := zG_nn f_3 n93
  have dd_4_9 : a53 ≠ a93 := zG_nn f_4 n93
  have dd_5_9 : a61 ≠ a93 := zG_nn f_5 n93
  have dd_6_9 : a69 ≠ a93 := zG_nn f_6 n93
  have dd_7_9 : a77 ≠ a93 := zG_nn f_7 n93
  have dd_8_9 : a85 ≠ a93 := zG_nn f_8 n93
  refine z_putF (T := TX7) (N := 19) C ((zU_ne dm_9.symm).trans f_mo) rfl 15 (by decide) kw_1183 (Or.inl rfl) rfl hnm rfl (tyX7_ok 15 (by decide)) rfl rfl (Nat.le_of_ble_eq_true rfl) dX7_init_95 ?_
  refine z_gen (fun G10_ e_10 => ?_)
  replace f_old : ∀ q e, G q = some e → q ≠ mo → G10_ q = some e := fun q e h h2 => (e_10 q).trans ((zU_ne h2).trans ((zU_ne (zG_nn (f_old q e h h2) n93)).trans (f_old q e h h2)))
  replace f_0 := (e_10 a21).trans ((zU_ne dm_0).trans ((zU_ne dd_0_9).trans f_0))
  replace f_1 := (e_10 a29).trans ((zU_ne dm_1).trans ((zU_ne dd_1_9).trans f_1))
  replace f_2 := (e_10 a37).trans ((zU_ne dm_2).trans ((zU_ne dd_2_9).trans f_2))
  replace f_3 := (e_10 a45).trans ((zU_ne dm_3).trans ((zU_ne dd_3_9).trans f_3))
  replace f_4 := (e_10 a53).trans ((zU_ne dm_4).trans ((zU_ne dd_4_9).trans f_4))
  replace f_5 := (e_10 a61).trans ((zU_ne dm_5).trans ((zU_ne dd_5_9).trans f_5))
  replace f_6 := (e_10 a69).trans ((zU_ne dm_6).trans ((zU_ne dd_6_9).trans f_6))
  replace f_7 := (e_10 a77).trans ((zU_ne dm_7).trans ((zU_ne dd_7_9).trans f_7))
  replace f_8 := (e_10 a85).trans ((zU_ne dm_8).trans ((zU_ne dd_8_9).trans f_8))
  replace f_mo : G10_ mo = some (.inr (8, [.int 0, .int 6000, .int 3468, .int 0, .ref a21, .ref a29, .ref a37, .int 0, .ref a45, .ref a53, .ref a61, .ref a69, .ref a77, .ref a85, .int 0, .ref a93, .null, .null, .int 0])) := (e_10 mo).trans (zU_same _ _ _)
  have f_9 : G10_ a93 = some (zZ Γ 12 (fun _ => 0)) := (e_10 a93).trans ((zU_ne dm_9).trans (zU_same _ _ _))
  first | refine z_rload_n C dX7_init_98 rfl ?_ | refine z_nload_n C dX7_init_98 rfl ?_ | refine z_aload_n C dX7_init_98 rfl ?_
  refine z_bipush (v := 48) C dX7_init_99 rfl ?_
  refine z_newi (N := 48) C kw_153 (by decide) (by decide) (Nat.le_of_ble_eq_true rfl) (Nat.le_of_ble_eq_true rfl) (Nat.le_of_ble_eq_true rfl) dX7_init_101 (fun a101 n101 => ?_)
  have dm_10 : a101 ≠ mo := (zG_nn f_mo n101).symm
  have o_10 : G a101 = none := by
    cases hq : G a101 with
    | none => rfl
    | some e => rw [f_old _ _ hq dm_10] at n101; cases n101
  have dd_0_10 : a21 ≠ a101 := zG_nn f_0 n101
  have dd_1_10 : a29 ≠ a101 := zG_nn f_1 n101
  have dd_2_10 : a37 ≠ a101 := zG_nn f_2 n101
  have dd_3_10 : a45 ≠ a101 := zG_nn f_3 n101
  have dd_4_10 : a53 ≠ a101 := zG_nn f_4 n101
  have dd_5_10 : a61 ≠ a101 := zG_nn f_5 n101
  have dd_6_10 : a69 ≠ a101 := zG_nn f_6 n101
  have dd_7_10 : a77 ≠ a101 := zG_nn f_7 n101
  have dd_8_10 : a85 ≠ a101 := zG_nn f_8 n101
  have dd_9_10 : a93 ≠ a101 := zG_nn f_9 n101
  refine z_putF (T := TX7) (N := 19) C ((zU_ne dm_10.symm).trans f_mo) rfl 16 (by decide) kw_1184 (Or.inl rfl) rfl hnm rfl (tyX7_ok 16 (by decide)) rfl rfl (Nat.le_of_ble_eq_true rfl) dX7_init_103 ?_
  refine z_gen (fun G11_ e_11 => ?_)
  replace f_old : ∀ q e, G q = some e → q ≠ mo → G11_ q = some e := fun q e h h2 => (e_11 q).trans ((zU_ne h2).trans ((zU_ne (zG_nn (f_old q e h h2) n101)).trans (f_old q e h h2)))
  replace f_0 := (e_11 a21).trans ((zU_ne dm_0).trans ((zU_ne dd_0_10).trans f_0))
  replace f_1 := (e_11 a29).trans ((zU_ne dm_1).trans ((zU_ne dd_1_10).trans f_1))
  replace f_2 := (e_11 a37).trans ((zU_ne dm_2).trans ((zU_ne dd_2_10).trans f_2))
  replace f_3 := (e_11 a45).trans ((zU_ne dm_3).trans ((zU_ne dd_3_10).trans f_3))
  replace f_4 := (e_11 a53).trans ((zU_ne dm_4).trans ((zU_ne dd_4_10).trans f_4))
  replace f_5 := (e_11 a61).trans ((zU_ne dm_5).trans ((zU_ne dd_5_10).trans f_5))
  replace f_6 := (e_11 a69).trans ((zU_ne dm_6).trans ((zU_ne dd_6_10).trans f_6))
  replace f_7 := (e_11 a77).trans ((zU_ne dm_7).trans ((zU_ne dd_7_10).trans f_7))
  replace f_8 := (e_11 a85).trans ((zU_ne dm_8).trans ((zU_ne dd_8_10).trans f_8))
  replace f_9 := (e_11 a93).trans ((zU_ne dm_9).trans ((zU_ne dd_9_10).trans f_9))
  replace f_mo : G11_ mo = some (.inr (8, [.int 0, .int 6000, .int 3468, .int 0, .ref a21, .ref a29, .ref a37, .int 0, .ref a45, .ref a53, .ref a61, .ref a69, .ref a77, .ref a85, .int 0, .ref a93, .ref a101, .null, .int 0])) := (e_11 mo).trans (zU_same _ _ _)
  have f_10 : G11_ a101 = some (zI Γ 48 (fun _ => 0)) := (e_11 a101).trans ((zU_ne dm_10).trans (zU_same _ _ _))
  first | refine z_rload_n C dX7_init_106 rfl ?_ | refine z_nload_n C dX7_init_106 rfl ?_ | refine z_aload_n C dX7_init_106 rfl ?_
  refine z_bipush (v := 80) C dX7_init_107 rfl ?_
  refine z_newi (N := 80) C kw_153 (by decide) (by decide) (Nat.le_of_ble_eq_true rfl) (Nat.le_of_ble_eq_true rfl) (Nat.le_of_ble_eq_true rfl) dX7_init_109 (fun a109 n109 => ?_)
  have dm_11 : a109 ≠ mo := (zG_nn f_mo n109).symm
  have o_11 : G a109 = none := by
    cases hq : G a109 with
    | none => rfl
    | some e => rw [f_old _ _ hq dm_11] at n109; cases n109
  have dd_0_11 : a21 ≠ a109 := zG_nn f_0 n109
  have dd_1_11 : a29 ≠ a109 := zG_nn f_1 n109
  have dd_2_11 : a37 ≠ a109 := zG_nn f_2 n109
  have dd_3_11 : a45 ≠ a109 := zG_nn f_3 n109
  have dd_4_11 : a53 ≠ a109 := zG_nn f_4 n109
  have dd_5_11 : a61 ≠ a109 := zG_nn f_5 n109
  have dd_6_11 : a69 ≠ a109 := zG_nn f_6 n109
  have dd_7_11 : a77 ≠ a109 := zG_nn f_7 n109
  have dd_8_11 : a85 ≠ a109 := zG_nn f_8 n109
  have dd_9_11 : a93 ≠ a109 := zG_nn f_9 n109
  have dd_10_11 : a101 ≠ a109 := zG_nn f_10 n109
  refine z_putF (T := TX7) (N := 19) C ((zU_ne dm_11.symm).trans f_mo) rfl 17 (by decide) kw_1185 (Or.inl rfl) rfl hnm rfl (tyX7_ok 17 (by decide)) rfl rfl (Nat.le_of_ble_eq_true rfl) dX7_init_111 ?_
  refine z_gen (fun G12_ e_12 => ?_)
  replace f_old : ∀ q e, G q = some e → q ≠ mo → G12_ q = some e := fun q e h h2 => (e_12 q).trans ((zU_ne h2).trans ((zU_ne (zG_nn (f_old q e h h2) n109)).trans (f_old q e h h2)))
  replace f_0 := (e_12 a21).trans ((zU_ne dm_0).trans ((zU_ne dd_0_11).trans f_0))
  replace f_1 := (e_12 a29).trans ((zU_ne dm_1).trans ((zU_ne dd_1_11).trans f_1))
  replace f_2 := (e_12 a37).trans ((zU_ne dm_2).trans ((zU_ne dd_2_11).trans f_2))
  replace f_3 := (e_12 a45).trans ((zU_ne dm_3).trans ((zU_ne dd_3_11).trans f_3))
  replace f_4 := (e_12 a53).trans ((zU_ne dm_4).trans ((zU_ne dd_4_11).trans f_4))
  replace f_5 := (e_12 a61).trans ((zU_ne dm_5).trans ((zU_ne dd_5_11).trans f_5))
  replace f_6 := (e_12 a69).trans ((zU_ne dm_6).trans ((zU_ne dd_6_11).trans f_6))
  replace f_7 := (e_12 a77).trans ((zU_ne dm_7).trans ((zU_ne dd_7_11).trans f_7))
  replace f_8 := (e_12 a85).trans ((zU_ne dm_8).trans ((zU_ne dd_8_11).trans f_8))
  replace f_9 := (e_12 a93).trans ((zU_ne dm_9).trans ((zU_ne dd_9_11).trans f_9))
  replace f_10 := (e_12 a101).trans ((zU_ne dm_10).trans ((zU_ne dd_10_11).trans f_10))
  replace f_mo : G12_ mo = some (.inr (8, [.int 0, .int 6000, .int 3468, .int 0, .ref a21, .ref a29, .ref a37, .int 0, .ref a45, .ref a53, .ref a61, .ref a69, .ref a77, .ref a85, .int 0, .ref a93, .ref a101, .ref a109, .int 0])) := (e_12 mo).trans (zU_same _ _ _)
  have f_11 : G12_ a109 = some (zI Γ 80 (fun _ => 0)) := (e_12 a109).trans ((zU_ne dm_11).trans (zU_same _ _ _))
  exact z_vret C F hr (Nat.le_of_ble_eq_true rfl) (Nat.le_of_ble_eq_true rfl) ⟨rfl, (fun i => if i = 0 then a21 else if i = 1 then a29 else if i = 2 then a37 else if i = 3 then a45 else if i = 4 then a53 else if i = 5 then a61 else if i = 6 then a69 else if i = 7 then a77 else if i = 8 then a85 else if i = 9 then a93 else if i = 10 then a101 else a109), f_mo, ⟨f_0, f_1, dd_0_1, f_9⟩, fun i => by dsimp only; repeat (first | exact ⟨_, by assumption⟩ | split), f_old⟩ dX7_init_114

