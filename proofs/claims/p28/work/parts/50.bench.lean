
/-! the bench: what its cells hold, by ghost numbers: who owns a cell (0: a plain object or the row's arrays; t: list t and its array), each list's array and elements, the objects' numbers and references -/
abbrev zGh : Type := (Nat → Nat) × (Nat → Nat) × (Nat → List Nat) × (Nat → Nat → Int32) × (Nat → Nat → Nat) × (Nat → Option Nat)
abbrev gOwn (g : zGh) : Nat → Nat := g.1
abbrev gArr (g : zGh) : Nat → Nat := g.2.1
abbrev gXs (g : zGh) : Nat → List Nat := g.2.2.1
abbrev gNum (g : zGh) : Nat → Nat → Int32 := g.2.2.2.1
abbrev gRef (g : zGh) : Nat → Nat → Nat := g.2.2.2.2.1
abbrev gPev (g : zGh) : Nat → Option Nat := g.2.2.2.2.2
def zLt (Γ : zY) (G : zG) (g : zGh) (t a : Nat) : Prop :=
  zLs Γ G a (gArr g t) (gXs g t) ∧ gOwn g a = t ∧ ((gArr g t = Γ.2.2 0 ∧ G (gArr g t) = none) ∨ gOwn g (gArr g t) = t)
def zFx (Γ : zY) (G : zG) (own : Nat → Nat) (α : Nat → Nat) : Prop :=
  (G (α 0) = some (oQB (α 1) (α 2) (α 3) (α 4) (α 5) (α 6) (α 7) (α 8)) ∧ own (α 0) = 0) ∧ (G (α 4) = some (oWav 6000 3468) ∧ own (α 4) = 0) ∧
  ((∃ rs tot, zRo Γ G (α 5) (α 9) (α 10) rs tot) ∧ own (α 5) = 0 ∧ own (α 9) = 0 ∧ own (α 10) = 0) ∧ ((∃ hb bx bY bz bb lm, G (α 6) = some (oSea (α 4) (α 5) hb bx bY bz bb lm)) ∧ own (α 6) = 0)
def zSS (G : zG) (g : zGh) : Prop := ∀ i y, (gXs g 1)[i]? = some y → G y = some (oSta (nI i) (gNum g y 0) (gNum g y 1) 0) ∧ gOwn g y = 0
def zPP (G : zG) (g : zGh) : Prop := ∀ i y, (gXs g 2)[i]? = some y → G y = some (oPk (nI i) (gRef g y 0) (gNum g y 0) (gNum g y 1) (gNum g y 2) 0 (gPev g y)) ∧ gOwn g y = 0 ∧ gRef g y 0 ∈ gXs g 1
def zEE (G : zG) (g : zGh) : Prop := ∀ i q, (gXs g 3)[i]? = some q → G q = some (oEv (nI i) (gRef g q 0) (gNum g q 0) (gNum g q 1) (gNum g q 2) (gNum g q 3) (gNum g q 4) (gNum g q 5)) ∧ gOwn g q = 0
def zFive (t : Nat) : Prop := t = 1 ∨ t = 2 ∨ t = 3 ∨ t = 7 ∨ t = 8
def zBn (Γ : zY) (G : zG) (α : Nat → Nat) (g : zGh) : Prop :=
  zFx Γ G (gOwn g) α ∧ (∀ t, zFive t → zLt Γ G g t (α t)) ∧ (∀ q ∈ gXs g 3, zLt Γ G g (100 + q) (gRef g q 0)) ∧ zSS G g ∧ zPP G g ∧ zEE G g
/-- kept: what is in use and not excepted -/
def zK (G G' : zG) (own own' : Nat → Nat) (X : Nat → Prop) : Prop := ∀ q e, G q = some e → ¬ X q → G' q = some e ∧ own' q = own q
theorem zRo.keep {Γ : zY} {G G' : zG} {r na wa : Nat} {rs : List (Int32 × Int32)} {tot : Int32} (h : zRo Γ G r na wa rs tot) (k : ∀ q e, (q = r ∨ q = na ∨ q = wa) → G q = some e → G' q = some e) : zRo Γ G' r na wa rs tot := by
  obtain ⟨h1, h2, h3, f, g, h4, h5, h6⟩ := h
  exact ⟨h1, h2, k r _ (Or.inl rfl) h3, f, g, k na _ (Or.inr (Or.inl rfl)) h4, k wa _ (Or.inr (Or.inr rfl)) h5, h6⟩
theorem zLs.keep {Γ : zY} {G G' : zG} {a arr : Nat} {xs : List Nat} (h : zLs Γ G a arr xs) (k : ∀ q e, (q = a ∨ q = arr) → G q = some e → G' q = some e) : zLs Γ G' a arr xs := by
  obtain ⟨mc, cap, h1, h2, h3, h4⟩ := h
  refine ⟨mc, cap, k a _ (Or.inl rfl) h1, h2, h3, ?_⟩
  rcases h4 with h4 | ⟨h4, f, h5, h6⟩
  · exact Or.inl h4
  · exact Or.inr ⟨h4, f, k arr _ (Or.inr rfl) h5, h6⟩
theorem zLs.at {Γ : zY} {G : zG} {a arr : Nat} {xs : List Nat} (h : zLs Γ G a arr xs) : ∃ mc, G a = some (oAL mc arr (nI xs.length)) := by
  obtain ⟨mc, cap, h1, -⟩ := h
  exact ⟨mc, h1⟩
theorem zFx.keep {Γ : zY} {G G' : zG} {own own' α : Nat → Nat} {X : Nat → Prop} (h : zFx Γ G own α) (k : zK G G' own own' X) (hX : ∀ q, own q = 0 → ¬ X q) : zFx Γ G' own' α := by
  obtain ⟨⟨h1, h2⟩, ⟨h3, h4⟩, ⟨⟨rs, tot, h5⟩, h6, h7, h8⟩, ⟨⟨hb, bx, bY, bz, bb, lm, h9⟩, h10⟩⟩ := h
  have k0 : ∀ {q e}, G q = some e → own q = 0 → G' q = some e ∧ own' q = 0 := fun hq ho => ⟨(k _ _ hq (hX _ ho)).1, (k _ _ hq (hX _ ho)).2.trans ho⟩
  obtain ⟨-, -, g1, f, g, g2, g3, -⟩ := id h5
  refine ⟨k0 h1 h2, k0 h3 h4, ⟨⟨rs, tot, h5.keep (fun q e hq he => ?_)⟩, (k0 g1 h6).2, (k0 g2 h7).2, (k0 g3 h8).2⟩, ⟨hb, bx, bY, bz, bb, lm, (k0 h9 h10).1⟩, (k0 h9 h10).2⟩
  rcases hq with rfl | rfl | rfl
  · exact (k0 he h6).1
  · exact (k0 he h7).1
  · exact (k0 he h8).1
theorem zLt.keep {Γ : zY} {G G' : zG} {g g' : zGh} {t a : Nat} {X : Nat → Prop} (h : zLt Γ G g t a) (k : zK G G' (gOwn g) (gOwn g') X) (hX : ∀ q, gOwn g q = t → ¬ X q) (he : G' (Γ.2.2 0) = none) (e1 : gArr g' t = gArr g t) (e2 : gXs g' t = gXs g t) : zLt Γ G' g' t a := by
  obtain ⟨h1, h2, h3⟩ := h
  unfold zLt
  rw [e1, e2]
  obtain ⟨mc, ha⟩ := h1.at
  refine ⟨h1.keep (fun q e hq hqe => (k q e hqe ?_).1), (k a _ ha (hX a h2)).2.trans h2, ?_⟩
  · rcases hq with rfl | rfl
    · exact hX _ h2
    · rcases h3 with ⟨-, h3⟩ | h3
      · rw [h3] at hqe; cases hqe
      · exact hX _ h3
  · rcases h3 with ⟨h3, h4⟩ | h3
    · exact Or.inl ⟨h3, by rw [h3]; exact he⟩
    · obtain ⟨mc, cap, -, h5, h6, h7⟩ := h1
      rcases h7 with ⟨h7, -⟩ | ⟨-, f, h7, -⟩
      · exact Or.inl ⟨h7, by rw [h7]; exact he⟩
      · exact Or.inr ((k _ _ h7 (hX _ h3)).2.trans h3)
/-- the bench after an operation on one list: t0 -/
def gL (g : zGh) (t0 arr' : Nat) (xs' : List Nat) : zGh := (va_up (gOwn g) arr' t0, va_up (gArr g) t0 arr', va_up (gXs g) t0 xs', gNum g, gRef g, gPev g)
theorem gL_arr {g : zGh} {t0 arr' t : Nat} {xs' : List Nat} (h : t ≠ t0) : gArr (gL g t0 arr' xs') t = gArr g t := if_neg h
theorem gL_xs {g : zGh} {t0 arr' t : Nat} {xs' : List Nat} (h : t ≠ t0) : gXs (gL g t0 arr' xs') t = gXs g t := if_neg h
theorem gL_xs0 {g : zGh} {t0 arr' : Nat} {xs' : List Nat} : gXs (gL g t0 arr' xs') t0 = xs' := if_pos rfl
theorem gL_arr0 {g : zGh} {t0 arr' : Nat} {xs' : List Nat} : gArr (gL g t0 arr' xs') t0 = arr' := if_pos rfl
/-- the frame of a list operation, in terms of owners -/
theorem zLt.frame {Γ : zY} {G G' : zG} {g : zGh} {t0 a arr' : Nat} {xs' : List Nat} (h : zLt Γ G g t0 a) (ha : arr' = gArr g t0 ∨ G arr' = none) (hf : ∀ q, q ≠ a → q ≠ arr' → G' q = G q) : zK G G' (gOwn g) (gOwn (gL g t0 arr' xs')) (fun q => gOwn g q = t0) := by
  intro q e hq hX
  have h1 : q ≠ a := fun z => hX (by rw [z]; exact h.2.1)
  have h2 : q ≠ arr' := by
    intro z
    subst z
    rcases ha with ha | ha
    · rcases h.2.2 with ⟨h3, h4⟩ | h3
      · rw [← ha] at h4; rw [h4] at hq; cases hq
      · exact hX (by rw [ha]; exact h3)
    · rw [ha] at hq; cases hq
  exact ⟨(hf q h1 h2).trans hq, if_neg h2⟩
theorem zLt.now {Γ : zY} {G' : zG} {g : zGh} {t0 a arr' : Nat} {xs' : List Nat} (h : zLs Γ G' a arr' xs') (ho : gOwn g a = t0) (he : arr' = a → False) (hz : arr' = Γ.2.2 0 → G' (Γ.2.2 0) = none) : zLt Γ G' (gL g t0 arr' xs') t0 a := by
  unfold zLt
  rw [gL_arr0, gL_xs0]
  exact ⟨h, (if_neg (fun z => he z.symm)).trans ho, Or.inr (if_pos rfl)⟩
theorem zBn.lop {Γ : zY} {G G' : zG} {α : Nat → Nat} {g : zGh} {t0 a arr' : Nat} {xs' : List Nat} (h : zBn Γ G α g) (ht : t0 ≠ 0) (hk : zK G G' (gOwn g) (gOwn (gL g t0 arr' xs')) (fun q => gOwn g q = t0)) (he : G' (Γ.2.2 0) = none)
    (h5 : zFive t0 → zLt Γ G' (gL g t0 arr' xs') t0 (α t0)) (hm : ∀ q ∈ gXs (gL g t0 arr' xs') 3, 100 + q = t0 → zLt Γ G' (gL g t0 arr' xs') t0 (gRef g q 0)) (hS : t0 = 1 → zSS G' (gL g t0 arr' xs') ∧ ∀ y ∈ gXs g 1, y ∈ xs') (hP : t0 = 2 → zPP G' (gL g t0 arr' xs')) (hE : t0 = 3 → zEE G' (gL g t0 arr' xs') ∧ ∀ q ∈ xs', q ∉ gXs g 3 → zLt Γ G' (gL g t0 arr' xs') (100 + q) (gRef g q 0)) : zBn Γ G' α (gL g t0 arr' xs') := by
  obtain ⟨hF, hL, hM, hs, hp, hq⟩ := h
  have k0 : ∀ q, gOwn g q = 0 → ¬ gOwn g q = t0 := fun q h1 h2 => ht (h2.symm.trans h1)
  refine ⟨hF.keep hk k0, fun t h5t => ?_, fun q hq3 => ?_, ?_, ?_, ?_⟩
  · by_cases e : t = t0
    · subst e; exact h5 h5t
    · exact (hL t h5t).keep hk (fun q h1 h2 => e (h1.symm.trans h2)) he (gL_arr e) (gL_xs e)
  · by_cases e : 100 + q = t0
    · rw [e]; exact hm q hq3 e
    · by_cases e2 : q ∈ gXs g 3
      · exact (hM q e2).keep hk (fun q h1 h2 => e (h1.symm.trans h2)) he (gL_arr e) (gL_xs e)
      · by_cases e3 : t0 = 3
        · subst e3
          rw [gL_xs0] at hq3
          exact (hE rfl).2 q hq3 e2
        · rw [gL_xs (Ne.symm e3)] at hq3
          exact absurd hq3 e2
  · by_cases e : t0 = 1
    · exact (hS e).1
    · intro i y hy
      rw [gL_xs (Ne.symm e)] at hy
      obtain ⟨h1, h2⟩ := hs i y hy
      obtain ⟨h3, h4⟩ := hk y _ h1 (k0 y h2)
      exact ⟨h3, h4.trans h2⟩
  · by_cases e : t0 = 2
    · exact hP e
    · intro i y hy
      rw [gL_xs (Ne.symm e)] at hy
      obtain ⟨h1, h2, h6⟩ := hp i y hy
      obtain ⟨h3, h4⟩ := hk y _ h1 (k0 y h2)
      refine ⟨h3, h4.trans h2, ?_⟩
      by_cases e1 : t0 = 1
      · have := (hS e1).2 _ h6
        subst e1
        rw [gL_xs0]
        exact this
      · rw [gL_xs (Ne.symm e1)]
        exact h6
  · by_cases e : t0 = 3
    · exact (hE e).1
    · intro i y hy
      rw [gL_xs (Ne.symm e)] at hy
      obtain ⟨h1, h2⟩ := hq i y hy
      obtain ⟨h3, h4⟩ := hk y _ h1 (k0 y h2)
      exact ⟨h3, h4.trans h2⟩
/-- the bench beside a new object -/
def gN (g : zGh) (a : Nat) (num : Nat → Int32) (ref : Nat → Nat) (pv : Option Nat) : zGh := (va_up (gOwn g) a 0, gArr g, gXs g, va_up (gNum g) a num, va_up (gRef g) a ref, va_up (gPev g) a pv)
theorem zBn.new {Γ : zY} {G G' : zG} {α : Nat → Nat} {g : zGh} (h : zBn Γ G α g) {a : Nat} (ha : G a = none) (hf : ∀ q, q ≠ a → G' q = G q) (he : G' (Γ.2.2 0) = none) (num : Nat → Int32) (ref : Nat → Nat) (pv : Option Nat) : zBn Γ G' α (gN g a num ref pv) := by
  obtain ⟨hF, hL, hM, hs, hp, hq⟩ := h
  have hk : zK G G' (gOwn g) (gOwn (gN g a num ref pv)) (fun _ => False) := fun q e hq _ => ⟨(hf q (zG_nn hq ha)).trans hq, if_neg (zG_nn hq ha)⟩
  have un : ∀ {q e}, G q = some e → gNum (gN g a num ref pv) q = gNum g q ∧ gRef (gN g a num ref pv) q = gRef g q ∧ gPev (gN g a num ref pv) q = gPev g q := fun hq => ⟨if_neg (zG_nn hq ha), if_neg (zG_nn hq ha), if_neg (zG_nn hq ha)⟩
  refine ⟨hF.keep hk (fun _ _ z => z), fun t h5t => (hL t h5t).keep hk (fun _ _ z => z) he rfl rfl, fun q hq3 => ?_, fun i y hy => ?_, fun i y hy => ?_, fun i y hy => ?_⟩
  · obtain ⟨i, hi⟩ := List.getElem?_of_mem hq3
    rw [(un (hq i q hi).1).2.1]
    exact (hM q hq3).keep hk (fun _ _ z => z) he rfl rfl
  · obtain ⟨h1, h2⟩ := hs i y hy
    rw [(un h1).1]
    exact ⟨(hk y _ h1 (fun z => z)).1, (hk y _ h1 (fun z => z)).2.trans h2⟩
  · obtain ⟨h1, h2, h3⟩ := hp i y hy
    rw [(un h1).1, (un h1).2.1, (un h1).2.2]
    exact ⟨(hk y _ h1 (fun z => z)).1, (hk y _ h1 (fun z => z)).2.trans h2, h3⟩
  · obtain ⟨h1, h2⟩ := hq i y hy
    rw [(un h1).1, (un h1).2.1]
    exact ⟨(hk y _ h1 (fun z => z)).1, (hk y _ h1 (fun z => z)).2.trans h2⟩
/-- the bench behind a change of the row alone, or of the search -/
theorem zBn.row {Γ : zY} {G G' : zG} {α : Nat → Nat} {g : zGh} (h : zBn Γ G α g) (hf : ∀ q, q ≠ α 6 → q ≠ α 5 → q ≠ α 9 → q ≠ α 10 → G' q = G q) (hr : ∃ rs tot, zRo Γ G' (α 5) (α 9) (α 10) rs tot) (hse : ∃ hb bx bY bz bb lm, G' (α 6) = some (oSea (α 4) (α 5) hb bx bY bz bb lm)) (he : G' (Γ.2.2 0) = none) : zBn Γ G' α g := by
  obtain ⟨hF, hL, hM, hs, hp, hq⟩ := h
  obtain ⟨⟨h1, h2⟩, ⟨h3, h4⟩, ⟨⟨rs, tot, h5⟩, h6, h7, h8⟩, ⟨⟨hb, bx, bY, bz, bb, lm, h9⟩, h10⟩⟩ := hF
  obtain ⟨-, -, g1, f, f2, g2, g3, -⟩ := id h5
  have key : ∀ {q e}, G q = some e → e ≠ oSea (α 4) (α 5) hb bx bY bz bb lm → zk e = true → G' q = some e := fun hq h1 h2 => (hf _ (zG_ne hq h9 h1) (zG_ne hq g1 (fun z => by rw [z] at h2; cases h2)) (zG_ne hq g2 (fun z => by rw [z] at h2; cases h2)) (zG_ne hq g3 (fun z => by rw [z] at h2; cases h2))).trans hq
  have kl : ∀ {t a}, zLt Γ G g t a → zLt Γ G' g t a := by
    intro t a ⟨h1, h2, h3⟩
    refine ⟨?_, h2, ?_⟩
    · obtain ⟨mc, cap, k1, k2, k3, k4⟩ := h1
      refine ⟨mc, cap, key k1 (fun z => by cases z) rfl, k2, k3, ?_⟩
      rcases k4 with k4 | ⟨k4, ff, k5, k6⟩
      · exact Or.inl k4
      · exact Or.inr ⟨k4, ff, key k5 (fun z => by cases z) rfl, k6⟩
    · rcases h3 with ⟨h3, -⟩ | h3
      · exact Or.inl ⟨h3, by rw [h3]; exact he⟩
      · exact Or.inr h3
  refine ⟨⟨⟨key h1 (fun z => by cases z) rfl, h2⟩, ⟨key h3 (fun z => by cases z) rfl, h4⟩, ⟨hr, h6, h7, h8⟩, ⟨hse, h10⟩⟩, fun t h5t => kl (hL t h5t), fun q hq3 => kl (hM q hq3), fun i y hy => ?_, fun i y hy => ?_, fun i y hy => ?_⟩
  · obtain ⟨k1, k2⟩ := hs i y hy
    exact ⟨key k1 (fun z => by cases z) rfl, k2⟩
  · obtain ⟨k1, k2⟩ := hp i y hy
    exact ⟨key k1 (fun z => by cases z) rfl, k2⟩
  · obtain ⟨k1, k2⟩ := hq i y hy
    exact ⟨key k1 (fun z => by cases z) rfl, k2⟩

