
/-! the law's entry: what the Statement gives of the start -/
theorem w_ra {args : Array Value} {s : State} {ty : FieldType} (h : (Cond.arrayClass ty).before args s = true) (hp : ∀ C, ty ≠ .object C) : ∃ cA, ArrOfT s cA ty ∧ va_RA s cA ty := by
  obtain ⟨c1, k1, comp, h1, h2, h3⟩ := Cond.arrayClass_spec h
  refine ⟨c1, fun n z => ⟨fun k h => (by cases h), k1, h2, comp, h3⟩, ?_⟩
  cases ty with
  | object C => exact absurd rfl (hp C)
  | _ => exact h1
theorem w_ro {args : Array Value} {s : State} {C : String} (h : (Cond.arrayOver (.object C)).before args s = true) : ∃ cA, ArrOfT s cA (.object C) ∧ va_RA s cA (.object C) := by
  obtain ⟨comp, c1, k1, h1, h2, h3, h4, h5⟩ := Cond.arrayOver_spec h
  exact ⟨c1, fun N z => ⟨(fun k h => by cases h), k1, h3, comp, h4⟩, k1, comp, h3, h4, h1, h5⟩
theorem w_nest : ∀ w ∈ lw_nest, w ∈ lw_tbl := by decide +kernel
theorem w_strs : ∀ q ∈ lw_strs, Cond.stringRef q.1 q.2.1 q.2.2 ∈ lw_tbl := by decide +kernel
theorem w_inst0 : Cond.instantiable RX6 8 ∈ lw_tbl := by decide +kernel
theorem w_inst1 : Cond.instantiable RX0 8 ∈ lw_tbl := by decide +kernel
theorem w_inst2 : Cond.instantiable RX1 7 ∈ lw_tbl := by decide +kernel
theorem w_inst3 : Cond.instantiable RX2 4 ∈ lw_tbl := by decide +kernel
theorem w_inst4 : Cond.instantiable RX3 8 ∈ lw_tbl := by decide +kernel
theorem w_inst5 : Cond.instantiable RX4 4 ∈ lw_tbl := by decide +kernel
theorem w_inst6 : Cond.instantiable RX5 2 ∈ lw_tbl := by decide +kernel
theorem w_inst7 : Cond.instantiable RJx4a65c 3 ∈ lw_tbl := by decide +kernel
theorem w_inst8 : Cond.instantiable RX7 19 ∈ lw_tbl := by decide +kernel
theorem w_all {args : Array Value} {s : State} (hts : ∀ w ∈ lw_tbl, w.before args s = true) : ∀ w ∈ lw_all, w.before args s = true := fun w hw => hts w (List.mem_filter.mp hw).1
theorem w_cls {args : Array Value} {s : State} (hts : ∀ w ∈ lw_tbl, w.before args s = true) : ∃ (dC : Nat → ClassId) (dI : Nat → Nat → Nat), ∀ (k : Nat) (q : vw_C), zCl[k]? = some q → u_Kn s q.1 q.2.1 q.2.2 (dC k) (dI k) := by
  have h1 : ∀ k : Nat, ∃ x : ClassId × (Nat → Nat), ∀ q : vw_C, zCl[k]? = some q → u_Kn s q.1 q.2.1 q.2.2 x.1 x.2 := by
    intro k
    match k with
    | 0 =>
      obtain ⟨c0, i0, h⟩ := u_known (w_all hts) zin_c0 (hts _ w_inst0)
      exact ⟨(c0, i0), fun q hq => by cases hq; exact h⟩
    | 1 =>
      obtain ⟨c0, i0, h⟩ := u_known (w_all hts) zin_c1 (hts _ w_inst1)
      exact ⟨(c0, i0), fun q hq => by cases hq; exact h⟩
    | 2 =>
      obtain ⟨c0, i0, h⟩ := u_known (w_all hts) zin_c2 (hts _ w_inst2)
      exact ⟨(c0, i0), fun q hq => by cases hq; exact h⟩
    | 3 =>
      obtain ⟨c0, i0, h⟩ := u_known (w_all hts) zin_c3 (hts _ w_inst3)
      exact ⟨(c0, i0), fun q hq => by cases hq; exact h⟩
    | 4 =>
      obtain ⟨c0, i0, h⟩ := u_known (w_all hts) zin_c4 (hts _ w_inst4)
      exact ⟨(c0, i0), fun q hq => by cases hq; exact h⟩
    | 5 =>
      obtain ⟨c0, i0, h⟩ := u_known (w_all hts) zin_c5 (hts _ w_inst5)
      exact ⟨(c0, i0), fun q hq => by cases hq; exact h⟩
    | 6 =>
      obtain ⟨c0, i0, h⟩ := u_known (w_all hts) zin_c6 (hts _ w_inst6)
      exact ⟨(c0, i0), fun q hq => by cases hq; exact h⟩
    | 7 =>
      obtain ⟨c0, i0, h⟩ := u_known (w_all hts) zin_c7 (hts _ w_inst7)
      exact ⟨(c0, i0), fun q hq => by cases hq; exact h⟩
    | 8 =>
      obtain ⟨c0, i0, h⟩ := u_known (w_all hts) zin_c8 (hts _ w_inst8)
      exact ⟨(c0, i0), fun q hq => by cases hq; exact h⟩
    | k + 9 => exact ⟨(0, fun _ => 0), fun q hq => by simp [zCl] at hq⟩
  exact ⟨fun k => (h1 k).choose.1, fun k => (h1 k).choose.2, fun k q hq => (h1 k).choose_spec q hq⟩
theorem w_arr {args : Array Value} {s : State} (hts : ∀ w ∈ lw_tbl, w.before args s = true) : ∃ cy : Nat → ClassId, ∀ (k : Nat) (q : ClassId × FieldType), (zT cy)[k]? = some q → ArrOfT s q.1 q.2 ∧ va_RA s q.1 q.2 := by
  obtain ⟨c0, h0⟩ := w_ra (ty := .int) (hts _ (by decide +kernel)) (fun _ z => by cases z)
  obtain ⟨c1, h1⟩ := w_ro (C := "java/lang/Object") (hts _ (by decide +kernel))
  obtain ⟨c2, h2⟩ := w_ra (ty := .boolean) (hts _ (by decide +kernel)) (fun _ z => by cases z)
  obtain ⟨c3, h3⟩ := w_ra (ty := .long) (hts _ (by decide +kernel)) (fun _ z => by cases z)
  obtain ⟨c4, h4⟩ := w_ra (ty := .double) (hts _ (by decide +kernel)) (fun _ z => by cases z)
  refine ⟨fun i => match i with | 0 => c0 | 1 => c1 | 2 => c2 | 3 => c3 | _ => c4, fun k q hq => ?_⟩
  match k, hq with
  | 0, hq => cases hq; exact h0
  | 1, hq => cases hq; exact h1
  | 2, hq => cases hq; exact h2
  | 3, hq => cases hq; exact h3
  | 4, hq => cases hq; exact h4
  | k + 5, hq => simp [zT] at hq
theorem w_exact {b : Nat} {s : State} (hgv : (Jvm.Cond.and given_1 narrow_1).before #[Value.ref b] s = true) : ∀ q ∈ lw_strs, (Cond.exactly (.string q.1 q.2.1) "java/lang/String").before #[Value.ref b] s = true := by
  have hs := flat_of_before _ hgv
  intro q hq
  refine hs _ ?_
  revert q
  decide +kernel
theorem w_facts {p : Program} {s : State} {m : MethodId} {meth : Method} {c : Code} {b L : Nat} {xs : Nat → Int32} (C0 : lw_At p s m meth c b L xs) : ∃ Γ : zY, zC p s m #[Value.ref b] meth c code R_law 9 Γ (fun q => s.heap.size ≤ q) := by
  obtain ⟨hx, hb, hr, hml, hown, hts, hX, hbl, hlocks, hgv⟩ := C0
  have hs := flat_of_before _ hgv
  have hA : ∀ a : Nat, a < s.heap.size → ¬ (fun q : Nat => s.heap.size ≤ q) a := fun a h => Nat.not_le.mpr h
  obtain ⟨dC, dI, hK⟩ := w_cls hts
  obtain ⟨cy, hy⟩ := w_arr hts
  obtain ⟨t0, ht0, hT0⟩ := va_Tof (tm := .static "java/util/ArrayList" "DEFAULTCAPACITY_EMPTY_ELEMENTDATA" "[Ljava/lang/Object;") (ty := .object "java/lang/Object") (N := 0) (f := fun _ => .null) (A := fun q : Nat => s.heap.size ≤ q) (by decide) (hs _ (by decide +kernel)) (va_eqt (hs _ (by decide +kernel))) (fun j hj => absurd hj (Nat.not_lt_zero j)) hA
  obtain ⟨t1, ht1, hT1⟩ := va_Tof (tm := .static "QuakeBench$Search" "FINER_STEPS" "[I") (ty := .int) (N := 4) (f := fun j => .int (if j = 0 then 10 else if j = 1 then 5 else if j = 2 then 2 else 1)) (A := fun q : Nat => s.heap.size ≤ q) (by decide) (hs _ (by decide +kernel)) (va_eqt (hs _ (by decide +kernel))) (fun j hj => by
    match j, hj with
    | 0, _ => exact va_eqt (hs _ (by decide +kernel))
    | 1, _ => exact va_eqt (hs _ (by decide +kernel))
    | 2, _ => exact va_eqt (hs _ (by decide +kernel))
    | 3, _ => exact va_eqt (hs _ (by decide +kernel))) hA
  obtain ⟨mi, hmi⟩ := va_Mi.of (C := "[Ljava/lang/Object;") (hs _ (by decide +kernel))
  refine ⟨((dC, dI), cy, fun i => if i = 0 then t0 else if i = 1 then t1 else mi), hx, hb, hml, hown, w_all hts, ⟨hK, hy⟩, hlocks, fun q h => h, ?_, ?_⟩
  · exact ⟨va_Zof (hts _ (by decide +kernel)) (hts _ (by decide +kernel)) ht0 hA, hT0, va_Zof (hts _ (by decide +kernel)) (hts _ (by decide +kernel)) ht1 hA, hT1, vx_Zqof (hts _ (by decide +kernel)) (hts _ (by decide +kernel)) (hs _ (by decide +kernel)) hA, vx_Zqof (hts _ (by decide +kernel)) (hts _ (by decide +kernel)) (hs _ (by decide +kernel)) hA⟩
  · refine ⟨fun w hw => ?_, fun q hq => ?_, va_AO.of (hts _ (by decide +kernel)), hmi, va_Dc.of (hts _ (by decide +kernel))⟩
    · have h1 := hts w (w_nest w hw)
      have h2 := lw_nest_ok w hw
      cases w <;> first | exact va_Nw.of rfl h1 | (cases h2; done)
    · obtain ⟨a, c1, cell, k1, h1, -⟩ := Cond.exactly_spec (w_exact hgv q hq)
      exact ⟨a, vk_R.of (hts _ (w_strs q hq)) h1⟩

