/-! OWN ROWS: the walk over a world that is a function from addresses to cells -/
abbrev zG : Type := Nat → Option va_E
abbrev zws (y : MethodName) (cb : ByteArray) (n : Nat) (ret : Option FieldType) : List Cond := Cond.code y cb n ret :: lw_all
def zU (G : zG) (a : Nat) (e : va_E) : zG := fun q => if q = a then some e else G q
def zR (G : zG) (ws : va_W) : Prop := ∀ q e, G q = some e ↔ (q, e) ∈ ws
def zA (G : zG) (sz : Nat) : Nat → Prop := fun q => (∃ e, G q = some e) ∨ sz ≤ q
theorem zU_same (G : zG) (a : Nat) (e : va_E) : zU G a e a = some e := if_pos rfl
theorem zU_ne {G : zG} {a b : Nat} {e : va_E} (h : b ≠ a) : zU G a e b = G b := if_neg h
theorem zU_get {G : zG} {a b : Nat} {e x y : va_E} (hb : G b = some x) (ha : G a = some y) (h : x ≠ y) : zU G a e b = some x := by
  rw [zU_ne (fun z => h (by rw [z, ha] at hb; exact (Option.some.inj hb).symm))]; exact hb
theorem zU_new {G : zG} {a b : Nat} {e x : va_E} (hb : G b = some x) (ha : G a = none) : zU G a e b = some x := by
  rw [zU_ne (fun z => by rw [z, ha] at hb; cases hb)]; exact hb
theorem zU_zU (G : zG) (a : Nat) (e x : va_E) : zU (zU G a e) a x = zU G a x := by
  funext q
  unfold zU
  by_cases h : q = a
  · rw [if_pos h, if_pos h]
  · rw [if_neg h, if_neg h, if_neg h]
theorem zU_id {G : zG} {a : Nat} {e : va_E} (h : G a = some e) : zU G a e = G := by
  funext q
  unfold zU
  by_cases hq : q = a
  · rw [if_pos hq, hq, h]
  · rw [if_neg hq]
theorem zU_sw (G : zG) {a b : Nat} (e x : va_E) (h : a ≠ b) : zU (zU G a e) b x = zU (zU G b x) a e := by
  funext q
  unfold zU
  by_cases h1 : q = b
  · rw [if_pos h1, if_neg (fun z => h (z.symm.trans h1)), if_pos h1]
  · rw [if_neg h1]
    by_cases h2 : q = a
    · rw [if_pos h2, if_pos h2]
    · rw [if_neg h2, if_neg h2, if_neg h1]
/-- locals by their places -/
def zg : List (Option Value) → Nat → Option Value
  | [], _ => none
  | x :: _, 0 => x
  | _ :: r, i + 1 => zg r i
def zc : Option Value → Option Value
  | some u => if u.category = 2 then none else some u
  | none => none
def zst (i : Nat) (v : Value) (w : Bool) : Nat → List (Option Value) → List (Option Value)
  | _, [] => []
  | j, x :: r => (if j = i then some v else if j + 1 = i then zc x else if (w && decide (j = i + 1)) = true then none else x) :: zst i v w (j + 1) r
abbrev zs1 (i : Nat) (v : Value) (lv : List (Option Value)) : List (Option Value) := zst i v false 0 lv
abbrev zs2 (i : Nat) (v : Value) (lv : List (Option Value)) : List (Option Value) := zst i v true 0 lv
def zp : Nat → List (Option Value) → List (Nat × Value)
  | _, [] => []
  | j, some v :: r => (j, v) :: zp (j + 1) r
  | j, none :: r => zp (j + 1) r
theorem zp_mem : ∀ (lv : List (Option Value)) (j i : Nat) (v : Value), (i, v) ∈ zp j lv ↔ j ≤ i ∧ zg lv (i - j) = some v
  | [], j, i, v => by simp [zp, zg]
  | x :: r, j, i, v => by
    have ih := zp_mem r (j + 1) i v
    have key : (j + 1 ≤ i ∧ zg r (i - (j + 1)) = some v) ↔ (j ≤ i ∧ i ≠ j ∧ zg (x :: r) (i - j) = some v) := by
      constructor
      · rintro ⟨h1, h2⟩
        refine ⟨by omega, by omega, ?_⟩
        rw [show i - j = (i - (j + 1)) + 1 by omega]
        exact h2
      · rintro ⟨h1, h2, h3⟩
        refine ⟨by omega, ?_⟩
        rw [show i - j = (i - (j + 1)) + 1 by omega] at h3
        exact h3
    cases x with
    | none =>
      rw [zp, ih, key]
      constructor
      · rintro ⟨h1, -, h3⟩; exact ⟨h1, h3⟩
      · rintro ⟨h1, h3⟩
        refine ⟨h1, fun e => ?_, h3⟩
        subst e
        rw [Nat.sub_self] at h3
        cases h3
    | some u =>
      rw [zp, List.mem_cons, ih, key]
      constructor
      · rintro (h | ⟨h1, -, h3⟩)
        · cases h
          exact ⟨Nat.le_refl _, by rw [Nat.sub_self]; rfl⟩
        · exact ⟨h1, h3⟩
      · rintro ⟨h1, h3⟩
        by_cases e : i = j
        · subst e
          rw [Nat.sub_self] at h3
          have : u = v := Option.some.inj h3
          subst this
          exact Or.inl rfl
        · exact Or.inr ⟨h1, e, h3⟩
def zL (ls : Array Slot) (nL : Nat) (lv : List (Option Value)) : Prop := lv_has ls nL (zp 0 lv)
theorem zL.at {ls : Array Slot} {nL : Nat} {lv : List (Option Value)} {i : Nat} {v : Value} (h : zL ls nL lv) (hv : zg lv i = some v) : ls[i]? = some (.val v) :=
  h.2.2 (i, v) ((zp_mem lv 0 i v).mpr ⟨Nat.zero_le _, hv⟩)
theorem zst_get (i : Nat) (v : Value) (w : Bool) : ∀ (lv : List (Option Value)) (j q : Nat) (u : Value), zg (zst i v w j lv) q = some u → (j + q = i ∧ u = v) ∨ (j + q ≠ i ∧ zg lv q = some u ∧ ¬ (j + q + 1 = i ∧ u.category = 2) ∧ ¬ (w = true ∧ j + q = i + 1))
  | [], j, q, u, h => by simp [zst, zg] at h
  | x :: r, j, 0, u, h => by
    rw [zst, zg] at h
    by_cases h1 : j = i
    · rw [if_pos h1] at h
      exact Or.inl ⟨h1, (Option.some.inj h).symm⟩
    · rw [if_neg h1] at h
      by_cases h2 : j + 1 = i
      · rw [if_pos h2] at h
        cases x with
        | none => cases h
        | some y =>
          change (if y.category = 2 then none else some y) = some u at h
          by_cases h3 : y.category = 2
          · simp [h3] at h
          · rw [if_neg h3] at h
            have e := Option.some.inj h
            subst e
            exact Or.inr ⟨h1, rfl, fun z => h3 z.2, fun z => by omega⟩
      · rw [if_neg h2] at h
        by_cases h3 : (w && decide (j = i + 1)) = true
        · rw [if_pos h3] at h; cases h
        · rw [if_neg h3] at h
          refine Or.inr ⟨h1, h, fun z => h2 z.1, fun z => h3 ?_⟩
          rw [z.1, Bool.true_and, decide_eq_true_eq]
          exact z.2
  | x :: r, j, q + 1, u, h => by
    rw [zst, zg] at h
    have ih := zst_get i v w r (j + 1) q u h
    rw [show j + 1 + q = j + (q + 1) by omega] at ih
    exact ih
theorem zL.of {ls : Array Slot} {nL : Nat} {l : List (Nat × Value)} {lv : List (Option Value)} (h : lv_has ls nL l) (hm : ∀ q ∈ zp 0 lv, q ∈ l) : zL ls nL lv :=
  ⟨h.1, h.2.1, fun q hq => h.2.2 q (hm q hq)⟩
theorem zL.st1 {ls : Array Slot} {nL : Nat} {lv : List (Option Value)} {i : Nat} {v : Value} (h : lv_has ls nL ((i, v) :: (zp 0 lv).filter (fun q => !(q.1 == i) && !(q.1 + 1 == i && q.2.category == 2)))) : zL ls nL (zs1 i v lv) := by
  refine zL.of h (fun q hq => ?_)
  obtain ⟨k, u⟩ := q
  rw [zp_mem] at hq
  rcases zst_get i v false lv 0 k u (by simpa using hq.2) with ⟨e, e2⟩ | ⟨e, e2, e3, -⟩
  · rw [Nat.zero_add] at e
    subst e; subst e2
    exact List.mem_cons_self
  · rw [Nat.zero_add] at e e3
    refine List.mem_cons_of_mem _ (List.mem_filter.mpr ⟨(zp_mem lv 0 k u).mpr ⟨Nat.zero_le _, e2⟩, ?_⟩)
    by_cases h1 : k + 1 = i
    · simp [e]
      exact Or.inr (fun z => e3 ⟨h1, z⟩)
    · simp [e, h1]
theorem zL.st2 {ls : Array Slot} {nL : Nat} {lv : List (Option Value)} {i : Nat} {v : Value} (h : lv_has ls nL ((i, v) :: (zp 0 lv).filter (fun q => !(q.1 == i) && (!(q.1 == i + 1) && !(q.1 + 1 == i && q.2.category == 2))))) : zL ls nL (zs2 i v lv) := by
  refine zL.of h (fun q hq => ?_)
  obtain ⟨k, u⟩ := q
  rw [zp_mem] at hq
  rcases zst_get i v true lv 0 k u (by simpa using hq.2) with ⟨e, e2⟩ | ⟨e, e2, e3, e4⟩
  · rw [Nat.zero_add] at e
    subst e; subst e2
    exact List.mem_cons_self
  · rw [Nat.zero_add] at e e3 e4
    have e5 : k ≠ i + 1 := fun z => e4 ⟨rfl, z⟩
    refine List.mem_cons_of_mem _ (List.mem_filter.mpr ⟨(zp_mem lv 0 k u).mpr ⟨Nat.zero_le _, e2⟩, ?_⟩)
    by_cases h1 : k + 1 = i
    · simp [e, e5]
      exact Or.inr (fun z => e3 ⟨h1, z⟩)
    · simp [e, e5, h1]
/-- the world as a list, and what a change of the list is to the function -/
theorem zR.mem {G : zG} {ws : va_W} {a : Nat} {e : va_E} (h : zR G ws) (hG : G a = some e) : ∃ k : Nat, ws[k]? = some (a, e) := List.getElem?_of_mem ((h a e).mp hG)
theorem zR.set {G : zG} {ws : va_W} {A : Nat → Prop} {a k : Nat} {e0 e : va_E} (h : zR G ws) (hD : va_D A ws) (hk : ws[k]? = some (a, e0)) : zR (zU G a e) (ws.set k (a, e)) := by
  have hl := (List.getElem?_eq_some_iff.mp hk).1
  intro q x
  constructor
  · intro hx
    unfold zU at hx
    by_cases hq : q = a
    · rw [if_pos hq] at hx
      cases hx
      subst hq
      exact List.mem_of_getElem? (List.getElem?_set_self hl)
    · rw [if_neg hq] at hx
      obtain ⟨i, hi⟩ := h.mem hx
      have hik : k ≠ i := fun z => by subst z; rw [hk] at hi; cases hi; exact hq rfl
      exact List.mem_of_getElem? ((List.getElem?_set_ne hik).trans hi)
  · intro hx
    obtain ⟨i, hi⟩ := List.getElem?_of_mem hx
    by_cases hik : k = i
    · subst hik
      rw [List.getElem?_set_self hl] at hi
      cases hi
      exact zU_same G a e
    · rw [List.getElem?_set_ne hik] at hi
      have hq : q ≠ a := fun z => hik (hD.1 k i (a, e0) (q, x) hk hi z.symm)
      rw [zU_ne hq]
      exact (h q x).mpr (List.mem_of_getElem? hi)
theorem zR.push {G : zG} {ws : va_W} {a : Nat} {e : va_E} (h : zR G ws) (hn : G a = none) : zR (zU G a e) (ws ++ [(a, e)]) := by
  intro q x
  rw [List.mem_append, List.mem_singleton]
  unfold zU
  by_cases hq : q = a
  · rw [if_pos hq]
    subst hq
    constructor
    · intro hx; cases hx; exact Or.inr rfl
    · rintro (hx | hx)
      · rw [(h q x).mpr hx] at hn; cases hn
      · cases hx; rfl
  · rw [if_neg hq]
    constructor
    · intro hx; exact Or.inl ((h q x).mp hx)
    · rintro (hx | hx)
      · exact (h q x).mpr hx
      · cases hx; exact absurd rfl hq
theorem zR.lt {G : zG} {ws : va_W} {D : va_G} {cl : List vw_C} {H : Heap} {a : Nat} {e : va_E} (h : zR G ws) (hP : va_P D cl ws H) (hG : G a = some e) : a < H.size := by
  obtain ⟨k, hk⟩ := h.mem hG
  exact (hP k _ hk).lt
/-- a new cell's address is none of the world's -/
theorem zR.fresh {G : zG} {ws : va_W} {A : Nat → Prop} {a : Nat} {e : va_E} (h : zR G ws) (hD : va_D A (ws ++ [(a, e)])) : G a = none := by
  cases hg : G a with
  | none => rfl
  | some x =>
    obtain ⟨k, hk⟩ := h.mem hg
    have hl := (List.getElem?_eq_some_iff.mp hk).1
    have h1 : (ws ++ [(a, e)])[k]? = some (a, x) := (List.getElem?_append_left hl).trans hk
    have h2 : (ws ++ [(a, e)])[ws.length]? = some (a, e) := by rw [List.getElem?_append_right (Nat.le_refl _), Nat.sub_self]; rfl
    have := hD.1 k ws.length _ _ h1 h2 rfl
    omega
