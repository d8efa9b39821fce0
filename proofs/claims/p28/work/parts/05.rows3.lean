/-! OWN ROWS, third part: entry, ends, objects, arrays, calls -/
abbrev zI (Γ : zY) (n : Nat) (f : Nat → Int32) : va_E := .inl (Γ.2.1 0, n, .inl f)
abbrev zO (Γ : zY) (n : Nat) (f : Nat → Option Nat) : va_E := .inl (Γ.2.1 1, n, .inr (.inr (.inr (.inr f))))
theorem z_good : GoodIn lw_all lw_all := fun w hw => ⟨hw, good_of_word (List.mem_filter.mp hw).2⟩
theorem z_goods {ws : List Cond} (h : ∀ w ∈ ws, w ∈ lw_all) : GoodIn lw_all ws := fun w hw => ⟨h w hw, good_of_word (List.mem_filter.mp (h w hw)).2⟩
def zF (post : Option Value → zG → Prop) (Γ : zY) (G0 : zG) (Q : State → Prop) (A : Nat → Prop) (below : List Frame) (args : Array Value) (s : State) (mc ms : Nat) : Prop :=
  Q = MQ below (zQ post Γ G0 s.heap.size) args s mc ms (zA G0 s.heap.size) ∧ A = zA G0 s.heap.size
/-- a method's proof begins -/
theorem z_start {l : Launch} {y : MethodName} {cb : ByteArray} {n : Nat} {ret : Option FieldType} {rm : Room} {Γ : zY} {av : List Value} {G : zG} {post : Option Value → zG → Prop} (hy : plainName y.cls = true) (lv0 : List (Option Value)) (hlv : zp 0 lv0 = lv_args 0 av) (hlen : (lg_sl av).length ≤ n)
    (kk : ∀ (p : Program) (e : Env) (s : State) (m : MethodId) (args : Array Value) (below : List Frame) (meth : Method) (c : Code) (Q : State → Prop) (A : Nat → Prop), zC p s m args meth c cb y.cls n Γ A → zF post Γ G Q A below args s rm.cells rm.slots → meth.sig.returnType = ret → meth.name = y.name →
      Z p l e rm s m args below meth c Q n Γ A G 0 0 0 lv0 []) : ZM l y cb n ret rm Γ av G post := by
  intro sz
  refine Met.ofW (cc := cb) (maxL := n) (ret := ret) hy rfl ?_
  intro p e s m args below meth c s₁ B hml hv
  obtain ⟨rfl, rfl, ⟨ws, hR, hP, hD⟩, hK, hE, hN⟩ := hv
  have hts := atoms_spec (ws := zws y cb n ret) B.pre
  have hl := lv_entry av (n := n) hlen
  rw [lg_entry_eq]
  generalize (lg_sl av ++ List.replicate (n - (lg_sl av).length) Slot.unset).toArray = ls at hl ⊢
  exact kk p e s m av.toArray below meth c _ (zA G s.heap.size) ⟨B.exec, B.bytes, hml, findClass_of_methodNamed B.named, fun w h => hts w (List.mem_cons_of_mem _ h), hK, B.notSynchronized, fun q h => Or.inr h, hE, hN⟩ ⟨rfl, rfl⟩ B.returns (name_of_methodNamed B.named B.method).1
    s.heap [] ls ws hR hP (hD.weaken (fun k q hk _ => Or.inl ⟨q.2, (hR q.1 q.2).mpr (List.mem_of_getElem? hk)⟩)) va_S.rf (by unfold zL; rw [hlv]; exact hl)
section ZE
variable {p : Program} {l : Launch} {e : Env} {R : Room} {s : State} {m : MethodId} {args : Array Value} {below : List Frame} {meth : Method} {c : Code} {Q : State → Prop} {A : Nat → Prop} {nL : Nat} {Γ : zY} {G G0 : zG} {k n pc mc ms : Nat} {lv : List (Option Value)} {cc : ByteArray} {own : String} {post : Option Value → zG → Prop}
theorem z_iret (C : zC p s m args meth c cc own nL Γ A) (F : zF post Γ G0 Q A below args s mc ms) (hr : meth.sig.returnType = some .int) {v : Int32} (hk : k ≤ mc) (hn : n ≤ ms) (hp : post (some (.int v)) G) (hd : decode cc pc = .ok (.ireturn, 1)) :
    Z p l e R s m args below meth c Q nL Γ A G k n pc lv [.int v] := by
  obtain ⟨rfl, rfl⟩ := F
  exact fun _ _ _ ws hR hP hD hS _ => W.widen hk hn (W.iret C.1 C.2.1 hr (fun t ht _ => ⟨⟨_, G, ws, rfl, hp, hR, by rw [ht]; exact hP, hD⟩, hS.F ht⟩) hS.2.2 hd C.2.2.2.2.2.2.1)
theorem z_bret (C : zC p s m args meth c cc own nL Γ A) (F : zF post Γ G0 Q A below args s mc ms) (hr : meth.sig.returnType = some .boolean) {v : Int32} (hb : narrow .boolean (.int v) = .int v) (hk : k ≤ mc) (hn : n ≤ ms) (hp : post (some (.int v)) G) (hd : decode cc pc = .ok (.ireturn, 1)) :
    Z p l e R s m args below meth c Q nL Γ A G k n pc lv [.int v] := by
  obtain ⟨rfl, rfl⟩ := F
  exact fun _ _ _ ws hR hP hD hS _ => W.widen hk hn (W.zret C.1 C.2.1 hr hb (fun t ht _ => ⟨⟨_, G, ws, rfl, hp, hR, by rw [ht]; exact hP, hD⟩, hS.F ht⟩) hS.2.2 hd C.2.2.2.2.2.2.1)
theorem z_lret (C : zC p s m args meth c cc own nL Γ A) (F : zF post Γ G0 Q A below args s mc ms) (hr : meth.sig.returnType = some .long) {v : Int64} (hk : k ≤ mc) (hn : n ≤ ms) (hp : post (some (.long v)) G) (hd : decode cc pc = .ok (.lreturn, 1)) :
    Z p l e R s m args below meth c Q nL Γ A G k n pc lv [.long v] := by
  obtain ⟨rfl, rfl⟩ := F
  exact fun _ _ _ ws hR hP hD hS _ => W.widen hk hn (W.lret C.1 C.2.1 hr (fun t ht _ => ⟨⟨_, G, ws, rfl, hp, hR, by rw [ht]; exact hP, hD⟩, hS.F ht⟩) hS.2.2 hd C.2.2.2.2.2.2.1)
theorem z_dret (C : zC p s m args meth c cc own nL Γ A) (F : zF post Γ G0 Q A below args s mc ms) (hr : meth.sig.returnType = some .double) {v : UInt64} (hk : k ≤ mc) (hn : n ≤ ms) (hp : post (some (.double v)) G) (hd : decode cc pc = .ok (.dreturn, 1)) :
    Z p l e R s m args below meth c Q nL Γ A G k n pc lv [.double v] := by
  obtain ⟨rfl, rfl⟩ := F
  exact fun _ _ _ ws hR hP hD hS _ => W.widen hk hn (W.dret C.1 C.2.1 hr (fun t ht _ => ⟨⟨_, G, ws, rfl, hp, hR, by rw [ht]; exact hP, hD⟩, hS.F ht⟩) hS.2.2 hd C.2.2.2.2.2.2.1)
theorem z_vret (C : zC p s m args meth c cc own nL Γ A) (F : zF post Γ G0 Q A below args s mc ms) (hr : meth.sig.returnType = none) (hk : k ≤ mc) (hn : n ≤ ms) (hp : post (none) G) (hd : decode cc pc = .ok (.return_, 1)) :
    Z p l e R s m args below meth c Q nL Γ A G k n pc lv [] := by
  obtain ⟨rfl, rfl⟩ := F
  exact fun _ _ _ ws hR hP hD hS _ => W.widen hk hn (W.vret C.1 C.2.1 hr (fun t ht _ => ⟨⟨_, G, ws, rfl, hp, hR, by rw [ht]; exact hP, hD⟩, hS.F ht⟩) hS.2.2 hd C.2.2.2.2.2.2.1)
theorem z_aret (C : zC p s m args meth c cc own nL Γ A) (F : zF post Γ G0 Q A below args s mc ms) {rt : FieldType} (hr : meth.sig.returnType = some rt) (hrt : (∃ n, rt = .object n) ∨ ∃ t, rt = .array t) {x : Option Nat} (hk : k ≤ mc) (hn : n ≤ ms) (hp : post (some (va_rf x)) G) (hd : decode cc pc = .ok (.areturn, 1)) :
    Z p l e R s m args below meth c Q nL Γ A G k n pc lv [va_rf x] := by
  obtain ⟨rfl, rfl⟩ := F
  exact fun _ _ _ ws hR hP hD hS _ => W.widen hk hn (W.aret C.1 C.2.1 hr hrt (by cases x with | none => exact Or.inl rfl | some a => exact Or.inr ⟨a, rfl⟩) (fun t ht _ => ⟨⟨_, G, ws, rfl, hp, hR, by rw [ht]; exact hP, hD⟩, hS.F ht⟩) hS.2.2 hd C.2.2.2.2.2.2.1)
theorem z_rret (C : zC p s m args meth c cc own nL Γ A) (F : zF post Γ G0 Q A below args s mc ms) {rt : FieldType} (hr : meth.sig.returnType = some rt) (hrt : (∃ n, rt = .object n) ∨ ∃ t, rt = .array t) {x : Nat} (hk : k ≤ mc) (hn : n ≤ ms) (hp : post (some (.ref x)) G) (hd : decode cc pc = .ok (.areturn, 1)) :
    Z p l e R s m args below meth c Q nL Γ A G k n pc lv [.ref x] := by
  obtain ⟨rfl, rfl⟩ := F
  exact fun _ _ _ ws hR hP hD hS _ => W.widen hk hn (W.aret C.1 C.2.1 hr hrt (Or.inr ⟨x, rfl⟩) (fun t ht _ => ⟨⟨_, G, ws, rfl, hp, hR, by rw [ht]; exact hP, hD⟩, hS.F ht⟩) hS.2.2 hd C.2.2.2.2.2.2.1)
end ZE
theorem zpos {n : Nat} (h : 0 < n) (hn : n < 2 ^ 31) : (0 : Int32) < nI n := nI_lt (a := 0) h hn
/-- Math.abs -/
def z_abs1 (x : Int32) : Int32 := if 0 ≤ x then x else 0 - x
section ZO
variable {p : Program} {l : Launch} {e : Env} {R : Room} {s : State} {m : MethodId} {args : Array Value} {below : List Frame} {meth : Method} {c : Code} {Q : State → Prop} {nL : Nat} {Γ : zY} {A : Nat → Prop} {G : zG} {k n pc : Nat} {lv : List (Option Value)} {st : List Value} {cc : ByteArray} {own : String}
theorem z_same {args : Array Value} {s : State} {ref owner name desc : String} (hts : ∀ w ∈ lw_all, w.before args s = true) (h : ref = owner ∨ Cond.sameField ref owner name desc ∈ lw_all) : ∀ x, s.fieldFound? owner name desc = some x → s.fieldFound? ref name desc = some x := by
  rcases h with h | h
  · intro x hx; rw [h]; exact hx
  · exact u_same (hts _ h)
theorem z_getf (C : zC p s m args meth c cc own nL Γ A) {ref Cn : String} {T : u_T} {ci ix N a : Nat} {fs : List Value} (hG : G a = some (.inr (ci, fs))) (hc : zCl[ci]? = some (Cn, T, N)) (q : Nat) (hq : q < N) (hw : Cond.fieldLink own ix ref (T q).2.1 (T q).2.2.1 ∈ lw_all) (hs : ref = (T q).1 ∨ Cond.sameField ref (T q).1 (T q).2.1 (T q).2.2.1 ∈ lw_all) {v : Value} (hv : fs[q]? = some v) (hd : decode cc pc = .ok (.getfield ix, 3))
    (kk : Z p l e R s m args below meth c Q nL Γ A G k n (pc + 3) lv (v :: st)) : Z p l e R s m args below meth c Q nL Γ A G k n pc lv (.ref a :: st) := by
  intro H locs ls ws hR hP hD hS hL
  obtain ⟨k0, hk0⟩ := hR.mem hG
  exact va_get C.1 C.2.1 C.2.2.2.2.1 (zCl_in hc) C.2.2.2.1 C.2.2.2.2.2.1 hP k0 hk0 hc q hq (C.2.2.2.2.1 _ hw) (z_same C.2.2.2.2.1 hs) hv hd (kk H locs ls ws hR hP hD hS hL)
theorem z_getfN (C : zC p s m args meth c cc own nL Γ A) {ref Cn host : String} {T : u_T} {ci ix N a : Nat} {fs : List Value} (hG : G a = some (.inr (ci, fs))) (hc : zCl[ci]? = some (Cn, T, N)) (q : Nat) (hq : q < N) (hw : Cond.fieldLinkNest own ix ref (T q).2.1 (T q).2.2.1 host ∈ lw_nest) (hs : ref = (T q).1) {v : Value} (hv : fs[q]? = some v) (hd : decode cc pc = .ok (.getfield ix, 3))
    (kk : Z p l e R s m args below meth c Q nL Γ A G k n (pc + 3) lv (v :: st)) : Z p l e R s m args below meth c Q nL Γ A G k n pc lv (.ref a :: st) := by
  intro H locs ls ws hR hP hD hS hL
  obtain ⟨k0, hk0⟩ := hR.mem hG
  exact va_getN C.1 C.2.1 C.2.2.2.2.1 (zCl_in hc) C.2.2.2.1 C.2.2.2.2.2.1 hP k0 hk0 hc q hq (va_Nw.use rfl (C.2.2.2.2.2.2.2.2.2.1 _ hw)) (z_same C.2.2.2.2.1 (Or.inl hs)) hv hd (kk H locs ls ws hR hP hD hS hL)
theorem z_putf (C : zC p s m args meth c cc own nL Γ A) {ref Cn : String} {T : u_T} {ci ix N a : Nat} {fs : List Value} (hG : G a = some (.inr (ci, fs))) (hc : zCl[ci]? = some (Cn, T, N)) (q : Nat) (hq : q < N) (hw : Cond.fieldLink own ix ref (T q).2.1 (T q).2.2.1 ∈ lw_all) (hs : ref = (T q).1 ∨ Cond.sameField ref (T q).1 (T q).2.1 (T q).2.2.1 ∈ lw_all) (hfin : (T q).2.2.2 = false) {ty : FieldType} {v : Value} (ht : parseFieldDescriptor (T q).2.2.1 = some ty) (hn : narrow ty v = v) (hf : fits ty v = true) (hl : q < fs.length) (hd : decode cc pc = .ok (.putfield ix, 3))
    (kk : Z p l e R s m args below meth c Q nL Γ A (zU G a (.inr (ci, fs.set q v))) k n (pc + 3) lv st) : Z p l e R s m args below meth c Q nL Γ A G k n pc lv (v :: .ref a :: st) := by
  intro H locs ls ws hR hP hD hS hL
  obtain ⟨k0, hk0⟩ := hR.mem hG
  obtain ⟨ty0, hty⟩ := zCl_ty hc
  exact va_put C.1 C.2.1 C.2.2.2.2.1 (zCl_in hc) ty0 hty (zCl_nm hc) C.2.2.2.1 C.2.2.2.2.2.1 hP hD hS k0 hk0 hc q hq (C.2.2.2.2.1 _ hw) (z_same C.2.2.2.2.1 hs) hfin ht hn hf hl hd (fun H1 locs1 hP1 hD1 hS1 => kk H1 locs1 ls _ (hR.set hD hk0) hP1 hD1 hS1 hL)
theorem z_putF (C : zC p s m args meth c cc own nL Γ A) {ref Cn : String} {T : u_T} {ci ix N a : Nat} {fs : List Value} (hG : G a = some (.inr (ci, fs))) (hc : zCl[ci]? = some (Cn, T, N)) (q : Nat) (hq : q < N) (hw : Cond.fieldLink own ix ref (T q).2.1 (T q).2.2.1 ∈ lw_all) (hs : ref = (T q).1 ∨ Cond.sameField ref (T q).1 (T q).2.1 (T q).2.2.1 ∈ lw_all) (hfin : (T q).2.2.2 = true) (hi : meth.name = "<init>") (hdc : (T q).1 = own) {ty : FieldType} {v : Value} (ht : parseFieldDescriptor (T q).2.2.1 = some ty) (hn : narrow ty v = v) (hf : fits ty v = true) (hl : q < fs.length) (hd : decode cc pc = .ok (.putfield ix, 3))
    (kk : Z p l e R s m args below meth c Q nL Γ A (zU G a (.inr (ci, fs.set q v))) k n (pc + 3) lv st) : Z p l e R s m args below meth c Q nL Γ A G k n pc lv (v :: .ref a :: st) := by
  intro H locs ls ws hR hP hD hS hL
  obtain ⟨k0, hk0⟩ := hR.mem hG
  obtain ⟨ty0, hty⟩ := zCl_ty hc
  exact va_putF C.1 C.2.1 C.2.2.2.2.1 (zCl_in hc) ty0 hty (zCl_nm hc) C.2.2.2.1 C.2.2.2.2.2.1 hP hD hS k0 hk0 hc q hq (C.2.2.2.2.1 _ hw) (z_same C.2.2.2.2.1 hs) hfin hi hdc ht hn hf hl hd (fun H1 locs1 hP1 hD1 hS1 => kk H1 locs1 ls _ (hR.set hD hk0) hP1 hD1 hS1 hL)
theorem z_iald (C : zC p s m args meth c cc own nL Γ A) {a N : Nat} {f : Nat → Int32} (hG : G a = some (zI Γ N f)) {i : Int32} (hi : vp_in i N) (hd : decode cc pc = .ok (.iaload, 1))
    (kk : Z p l e R s m args below meth c Q nL Γ A G k n (pc + 1) lv (.int (f i.toNatClampNeg) :: st)) : Z p l e R s m args below meth c Q nL Γ A G k n pc lv (.int i :: .ref a :: st) := by
  intro H locs ls ws hR hP hD hS hL
  obtain ⟨k0, hk0⟩ := hR.mem hG
  exact va_iald C.1 C.2.1 C.2.2.2.2.2.1 hP k0 0 hk0 rfl hi hd (kk H locs ls ws hR hP hD hS hL)
theorem z_iast (C : zC p s m args meth c cc own nL Γ A) {a N : Nat} {f : Nat → Int32} (hG : G a = some (zI Γ N f)) {i x : Int32} (hi : vp_in i N) (hd : decode cc pc = .ok (.iastore, 1))
    (kk : Z p l e R s m args below meth c Q nL Γ A (zU G a (zI Γ N (upd f i.toNatClampNeg x))) k n (pc + 1) lv st) : Z p l e R s m args below meth c Q nL Γ A G k n pc lv (.int x :: .int i :: .ref a :: st) := by
  intro H locs ls ws hR hP hD hS hL
  obtain ⟨k0, hk0⟩ := hR.mem hG
  exact va_iast C.1 C.2.1 C.2.2.2.2.2.1 hP hD hS k0 0 hk0 rfl hi hd (fun H1 locs1 hP1 hD1 hS1 => kk H1 locs1 ls _ (hR.set hD hk0) hP1 hD1 hS1 hL)
theorem z_aald (C : zC p s m args meth c cc own nL Γ A) {a N : Nat} {f : Nat → Option Nat} (hG : G a = some (zO Γ N f)) {i : Int32} (hi : vp_in i N) {r : Option Nat} (hr : f i.toNatClampNeg = r) (hd : decode cc pc = .ok (.aaload, 1))
    (kk : Z p l e R s m args below meth c Q nL Γ A G k n (pc + 1) lv (va_rf r :: st)) : Z p l e R s m args below meth c Q nL Γ A G k n pc lv (.int i :: .ref a :: st) := by
  intro H locs ls ws hR hP hD hS hL
  obtain ⟨k0, hk0⟩ := hR.mem hG
  subst hr
  exact va_aldq C.1 C.2.1 C.2.2.2.2.2.1 hP k0 1 hk0 rfl hi hd (kk H locs ls ws hR hP hD hS hL)
theorem z_aast (C : zC p s m args meth c cc own nL Γ A) {a N b ci : Nat} {f : Nat → Option Nat} {fs : List Value} {q : vw_C} (hG : G a = some (zO Γ N f)) (hb : G b = some (.inr (ci, fs))) (hc : zCl[ci]? = some q) {i : Int32} (hi : vp_in i N) (hd : decode cc pc = .ok (.aastore, 1))
    (kk : Z p l e R s m args below meth c Q nL Γ A (zU G a (zO Γ N (va_up f i.toNatClampNeg (some b)))) k n (pc + 1) lv st) : Z p l e R s m args below meth c Q nL Γ A G k n pc lv (.ref b :: .int i :: .ref a :: st) := by
  intro H locs ls ws hR hP hD hS hL
  obtain ⟨k0, hk0⟩ := hR.mem hG
  obtain ⟨k1, hk1⟩ := hR.mem hb
  exact va_astqO C.1 C.2.1 C.2.2.2.2.2.1 hP hD hS k0 1 k1 ci hk0 rfl (C.2.2.2.2.2.2.2.2.2.1 _ (zCl_obj hc)) hk1 hc hi hd (fun H1 locs1 hP1 hD1 hS1 => kk H1 locs1 ls _ (hR.set hD hk0) hP1 hD1 hS1 hL)
theorem z_aastN (C : zC p s m args meth c cc own nL Γ A) {a N : Nat} {f : Nat → Option Nat} (hG : G a = some (zO Γ N f)) {i : Int32} (hi : vp_in i N) (hd : decode cc pc = .ok (.aastore, 1))
    (kk : Z p l e R s m args below meth c Q nL Γ A (zU G a (zO Γ N (va_up f i.toNatClampNeg none))) k n (pc + 1) lv st) : Z p l e R s m args below meth c Q nL Γ A G k n pc lv (.null :: .int i :: .ref a :: st) := by
  intro H locs ls ws hR hP hD hS hL
  obtain ⟨k0, hk0⟩ := hR.mem hG
  exact va_astqN C.1 C.2.1 C.2.2.2.2.2.1 hP hD hS k0 1 hk0 rfl hi hd (fun H1 locs1 hP1 hD1 hS1 => kk H1 locs1 ls _ (hR.set hD hk0) hP1 hD1 hS1 hL)
theorem z_ilen (C : zC p s m args meth c cc own nL Γ A) {a N : Nat} {f : Nat → Int32} (hG : G a = some (zI Γ N f)) (hd : decode cc pc = .ok (.arraylength, 1))
    (kk : Z p l e R s m args below meth c Q nL Γ A G k n (pc + 1) lv (.int (nI N) :: st)) : Z p l e R s m args below meth c Q nL Γ A G k n pc lv (.ref a :: st) := by
  intro H locs ls ws hR hP hD hS hL
  obtain ⟨k0, hk0⟩ := hR.mem hG
  exact va_alen C.1 C.2.1 C.2.2.2.2.2.1 hP k0 0 hk0 rfl rfl hd (kk H locs ls ws hR hP hD hS hL)
theorem z_olen (C : zC p s m args meth c cc own nL Γ A) {a N : Nat} {f : Nat → Option Nat} (hG : G a = some (zO Γ N f)) (hd : decode cc pc = .ok (.arraylength, 1))
    (kk : Z p l e R s m args below meth c Q nL Γ A G k n (pc + 1) lv (.int (nI N) :: st)) : Z p l e R s m args below meth c Q nL Γ A G k n pc lv (.ref a :: st) := by
  intro H locs ls ws hR hP hD hS hL
  obtain ⟨k0, hk0⟩ := hR.mem hG
  exact va_alen C.1 C.2.1 C.2.2.2.2.2.1 hP k0 1 hk0 rfl rfl hd (kk H locs ls ws hR hP hD hS hL)
/-- ArrayList's own empty array: its length, its reference -/
theorem z_elen (C : zC p s m args meth c cc own nL Γ A) (hd : decode cc pc = .ok (.arraylength, 1))
    (kk : Z p l e R s m args below meth c Q nL Γ A G k n (pc + 1) lv (.int 0 :: st)) : Z p l e R s m args below meth c Q nL Γ A G k n pc lv (.ref (Γ.2.2 0) :: st) :=
  fun H locs ls ws hR hP hD hS hL => va_tlen C.1 C.2.1 C.2.2.2.2.2.2.2.2.1.2.1 hS rfl hd (kk H locs ls ws hR hP hD hS hL)
theorem z_gete (C : zC p s m args meth c cc own nL Γ A) {ix : Nat} (hw : Cond.fieldLink own ix "java/util/ArrayList" "DEFAULTCAPACITY_EMPTY_ELEMENTDATA" "[Ljava/lang/Object;" ∈ lw_all) (hd : decode cc pc = .ok (.getstatic ix, 3))
    (kk : Z p l e R s m args below meth c Q nL Γ A G k n (pc + 3) lv (.ref (Γ.2.2 0) :: st)) : Z p l e R s m args below meth c Q nL Γ A G k n pc lv st :=
  fun H locs ls ws hR hP hD hS hL => va_gets C.1 C.2.1 C.2.2.2.2.2.2.2.2.1.1 hS C.2.2.2.1 (C.2.2.2.2.1 _ hw) (fun _ h => h) hd (kk H locs ls ws hR hP hD hS hL)
theorem z_getsteps (C : zC p s m args meth c cc own nL Γ A) {ix : Nat} (hw : Cond.fieldLink own ix "QuakeBench$Search" "FINER_STEPS" "[I" ∈ lw_all) (hd : decode cc pc = .ok (.getstatic ix, 3))
    (kk : Z p l e R s m args below meth c Q nL Γ A G k n (pc + 3) lv (.ref (Γ.2.2 1) :: st)) : Z p l e R s m args below meth c Q nL Γ A G k n pc lv st :=
  fun H locs ls ws hR hP hD hS hL => va_gets C.1 C.2.1 C.2.2.2.2.2.2.2.2.1.2.2.1 hS C.2.2.2.1 (C.2.2.2.2.1 _ hw) (fun _ h => h) hd (kk H locs ls ws hR hP hD hS hL)
theorem z_stepslen (C : zC p s m args meth c cc own nL Γ A) (hd : decode cc pc = .ok (.arraylength, 1))
    (kk : Z p l e R s m args below meth c Q nL Γ A G k n (pc + 1) lv (.int 4 :: st)) : Z p l e R s m args below meth c Q nL Γ A G k n pc lv (.ref (Γ.2.2 1) :: st) :=
  fun H locs ls ws hR hP hD hS hL => va_tlen C.1 C.2.1 C.2.2.2.2.2.2.2.2.1.2.2.2.1 hS rfl hd (kk H locs ls ws hR hP hD hS hL)
theorem z_stepsld (C : zC p s m args meth c cc own nL Γ A) {i v : Int32} (hi : vp_in i 4) (hv : (if i.toNatClampNeg = 0 then 10 else if i.toNatClampNeg = 1 then 5 else if i.toNatClampNeg = 2 then 2 else 1) = v) (hd : decode cc pc = .ok (.iaload, 1))
    (kk : Z p l e R s m args below meth c Q nL Γ A G k n (pc + 1) lv (.int v :: st)) : Z p l e R s m args below meth c Q nL Γ A G k n pc lv (.int i :: .ref (Γ.2.2 1) :: st) :=
  fun H locs ls ws hR hP hD hS hL => va_ti C.1 C.2.1 C.2.2.2.2.2.2.2.2.1.2.2.2.1 hS hi (congrArg Value.int hv) hd (kk H locs ls ws hR hP hD hS hL)
theorem z_new (C : zC p s m args meth c cc own nL Γ A) {Cn : String} {T : u_T} {ci ix N : Nat} {fs : List Value} (hw : ∀ w ∈ ([Cond.classLink own ix Cn, Cond.instantiable Cn N, Cond.initialized Cn] : List Cond), w ∈ lw_all) (hc : zCl[ci]? = some (Cn, T, N)) (ty : Nat → FieldType) (hty : ∀ q, q < N → parseFieldDescriptor (T q).2.2.1 = some (ty q)) (hfs : ∀ j, j < N → defaultValue (ty j) = vp_V fs j) (hk : k + 1 ≤ R.cells) (hn : n + N ≤ R.slots) (hd : decode cc pc = .ok (.new ix, 3))
    (kk : ∀ a, G a = none → Z p l e R s m args below meth c Q nL Γ A (zU G a (.inr (ci, fs))) (k + 1) (n + N) (pc + 3) lv (.ref a :: st)) : Z p l e R s m args below meth c Q nL Γ A G k n pc lv st :=
  fun H locs ls ws hR hP hD hS hL => va_new C.1 C.2.1 C.2.2.2.2.1 (zCl_in hc) ty hty C.2.2.2.1 (C.2.2.2.2.1 _ (hw _ (by simp))) (C.2.2.2.2.1 _ (hw _ (by simp))) (C.2.2.2.2.1 _ (hw _ (by simp))) C.2.2.2.2.2.1 hP hD hS C.2.2.2.2.2.2.2.1 hc hfs hk hn hd
    (fun a H1 hP1 hD1 hS1 => kk a (hR.fresh hD1) H1 locs ls _ (hR.push (hR.fresh hD1)) hP1 hD1 hS1 hL)
theorem z_newi (C : zC p s m args meth c cc own nL Γ A) {x : Int32} {N : Nat} (hw : Cond.arrayClass .int ∈ lw_all) (hx : ¬ x < 0) (hN : x.toNatClampNeg = N) (hb : N * 4 ≤ 536870912) (hk : k + 1 ≤ R.cells) (hn : n + N ≤ R.slots) (hd : decode cc pc = .ok (.newarray .int, 2))
    (kk : ∀ a, G a = none → Z p l e R s m args below meth c Q nL Γ A (zU G a (zI Γ N (fun _ => 0))) (k + 1) (n + N) (pc + 2) lv (.ref a :: st)) : Z p l e R s m args below meth c Q nL Γ A G k n pc lv (.int x :: st) := by
  intro H locs ls ws hR hP hD hS hL
  refine va_newa (atype := .int) (ty := .int) (a0 := (N, .inl (fun _ => 0))) C.1 C.2.1 (C.2.2.2.2.1 _ hw) rfl C.2.2.2.2.2.1 hP hD hS C.2.2.2.2.2.2.2.1 (fun _ => rfl) hx hN hb hk hn hd (fun a cA H1 hK1 hP1 hD1 hS1 => ?_)
  have e1 := (C.2.2.2.2.2.1.2 0 _ (rfl : (zT Γ.2.1)[0]? = some (Γ.2.1 0, .int))).2
  have e2 := (hK1.2 (zT Γ.2.1).length (cA, .int) (by rw [List.getElem?_append_right (Nat.le_refl _), Nat.sub_self]; rfl)).2
  have e3 : cA = Γ.2.1 0 := Option.some.inj ((show s.vm.findClass ("[" ++ FieldType.int.toString) = some cA from e2).symm.trans (show s.vm.findClass ("[" ++ FieldType.int.toString) = some (Γ.2.1 0) from e1))
  subst e3
  exact kk a (hR.fresh hD1) H1 locs ls _ (hR.push (hR.fresh hD1)) hP1 hD1 hS1 hL
theorem z_newo (C : zC p s m args meth c cc own nL Γ A) {x : Int32} {N ix : Nat} (hw : Cond.classLink own ix "java/lang/Object" ∈ lw_all) (hx : ¬ x < 0) (hN : x.toNatClampNeg = N) (hb : N * 4 ≤ 536870912) (hk : k + 1 ≤ R.cells) (hn : n + N ≤ R.slots) (hd : decode cc pc = .ok (.anewarray ix, 3))
    (kk : ∀ a, G a = none → Z p l e R s m args below meth c Q nL Γ A (zU G a (zO Γ N (fun _ => none))) (k + 1) (n + N) (pc + 3) lv (.ref a :: st)) : Z p l e R s m args below meth c Q nL Γ A G k n pc lv (.int x :: st) := by
  intro H locs ls ws hR hP hD hS hL
  refine va_newq C.1 C.2.1 C.2.2.2.1 (C.2.2.2.2.1 _ hw) C.2.2.2.2.2.2.2.2.2.2.2.1 C.2.2.2.2.2.1 hP hD hS C.2.2.2.2.2.2.2.1 hx hN hb hk hn hd (fun a cA H1 hK1 hP1 hD1 hS1 => ?_)
  obtain ⟨_, _, -, -, -, e1⟩ := (C.2.2.2.2.2.1.2 1 _ (rfl : (zT Γ.2.1)[1]? = some (Γ.2.1 1, .object "java/lang/Object"))).2
  obtain ⟨_, _, -, -, -, e2⟩ := (hK1.2 (zT Γ.2.1).length (cA, .object "java/lang/Object") (by rw [List.getElem?_append_right (Nat.le_refl _), Nat.sub_self]; rfl)).2
  have e3 : cA = Γ.2.1 1 := Option.some.inj (e2.symm.trans e1)
  subst e3
  exact kk a (hR.fresh hD1) H1 locs ls _ (hR.push (hR.fresh hD1)) hP1 hD1 hS1 hL
/-- behind a call -/
theorem z_back {H : Heap} {locs : List Loc} {ls : Array Slot} {st0 : List Value} {mc ms : Nat} {a : Array Value} {post : Option Value → zG → Prop} (hr : va_Run p l e R s m args below meth c H locs k n mc ms (F0 m pc ls st0) st ((zQ post Γ G H.size) a) (zA G H.size)) (hS : va_S A s.heap H locs) (hA : ∀ q, zA G H.size q → A q)
    (kk : ∀ (v : Option Value) (G' : zG) (H1 : Heap) (locs1 : List Loc) (ws' : va_W), post v G' → zR G' ws' → va_P Γ.1 zCl ws' H1 → va_D A ws' → va_S A s.heap H1 locs1 → W p l e R s m args below meth c H1 locs1 (k + mc) (n + ms) Q (F0 m (pc + 3) ls (v.toList ++ st))) : W p l e R s m args below meth c H locs k n Q (F0 m pc ls st0) := by
  intro T hT X
  obtain ⟨v, st₀, t, T', L, h0, X', hL, e1, e2, ⟨⟨v', G', ws', hv, hp, hR', hP', hD'⟩, hz, hk⟩, sp⟩ := hr T hT X
  cases hv
  rw [h0] at hz hk
  obtain ⟨t2, a1, b1⟩ := kk v G' T'.heap (locs ++ L) ws' hp hR' (by rw [e1]; exact hP') (hD'.weaken (fun _ q _ h => hA q.1 h))
    ⟨Nat.le_trans hS.1 (by rw [e1]; exact hz), fun q h1 h2 => by rw [e1, hk q (Nat.lt_of_lt_of_le h1 hS.1) (fun z => h2 (hA q z))]; exact hS.2.1 q h1 h2, fun q hq => by
      rcases List.mem_append.mp hq with h | h
      · exact hS.2.2 q h
      · exact hA _ (hL q h)⟩ T' rfl X'
  exact ⟨t2, sp t2 a1, b1⟩
theorem z_zA (C : zC p s m args meth c cc own nL Γ A) {H : Heap} {locs : List Loc} {ws : va_W} (hR : zR G ws) (hD : va_D A ws) (hS : va_S A s.heap H locs) : ∀ q, zA G H.size q → A q := by
  rintro q (⟨x, hx⟩ | h)
  · obtain ⟨k0, hk0⟩ := hR.mem hx
    exact hD.2 k0 _ hk0
  · exact C.2.2.2.2.2.2.2.1 q (Nat.le_trans hS.1 h)
theorem z_pre (C : zC p s m args meth c cc own nL Γ A) {H : Heap} {locs : List Loc} {ws : va_W} (hR : zR G ws) (hP : va_P Γ.1 zCl ws H) (hD : va_D A ws) (hS : va_S A s.heap H locs) {av : List Value} : ∀ U : State, U.heap = H → s.WarmedH U.vm → va_Pc av (zB Γ G H.size) av.toArray U :=
  fun U hU hW => ⟨rfl, by rw [hU], ⟨ws, hR, by rw [hU]; exact hP, hD.weaken (fun _ _ _ _ => trivial)⟩, va_K.moved hW.alike C.2.2.2.2.2.1, C.2.2.2.2.2.2.2.2.1.call hW.alike hS hU (z_zA C hR hD hS), zN.warm hW C.2.2.2.2.2.2.2.2.2⟩
theorem z_callV (C : zC p s m args meth c cc own nL Γ A) {y : MethodName} {cb : ByteArray} {mL ix b ci : Nat} {ret : Option FieldType} {rm : Room} {As : List Value} {post : Option Value → zG → Prop} {fs : List Value} {q : vw_C} {stk : List Value} (hM : ZM l y cb mL ret rm Γ (.ref b :: As) G post)
    (hw : ∀ w ∈ ([Cond.methodLink own ix y, Cond.instanceMethod y, Cond.selects q.1 y y, Cond.initialized q.1, Cond.code y cb mL ret] : List Cond), w ∈ lw_all) (hG : G b = some (.inr (ci, fs))) (hc : zCl[ci]? = some q) (hst : stk = As.reverse ++ .ref b :: st)
    {nA : Nat} (hA : As.length = nA) (hyq : y.cls = q.1) (hy : y.cls ≠ "java/lang/invoke/MethodHandle" ∧ y.cls ≠ "java/lang/invoke/VarHandle" ∧ (parseMethodDescriptor y.desc).map (fun d => d.parameters.length) = some nA) (hrm : rm.frames + 1 ≤ R.frames ∧ 8 + (mL + 11) + rm.locals ≤ R.locals) (hsum : (st.map fun v => v.category).sum ≤ 8) (hroom : k + rm.cells ≤ R.cells ∧ n + rm.slots ≤ R.slots) (hd : decode cc pc = .ok (.invokevirtual ix, 3))
    (kk : ∀ v G', post v G' → Z p l e R s m args below meth c Q nL Γ A G' (k + rm.cells) (n + rm.slots) (pc + 3) lv (v.toList ++ st)) : Z p l e R s m args below meth c Q nL Γ A G k n pc lv stk := by
  intro H locs ls ws hR hP hD hS hL
  obtain ⟨k0, hk0⟩ := hR.mem hG
  have g : GoodIn lw_all (wsV own ix q.1 y (zws y cb mL ret)) := by
    intro w h
    unfold wsV at h
    rcases List.mem_append.mp h with h | h
    · exact z_goods hw w (by simp only [List.mem_cons, List.not_mem_nil, or_false] at h ⊢; rcases h with h | h | h | h <;> simp [h])
    · rcases List.mem_cons.mp h with h | h
      · exact z_goods hw w (by simp [h])
      · exact z_good w h
  exact z_back (va_runV (As := As) (rest := st) ⟨C.1, C.2.1, C.2.2.1, C.2.2.2.1, C.2.2.2.2.1⟩ (hM H.size) (cwV nA C.2.2.2.2.1 g rfl rfl rfl ⟨hyq, hy⟩ hrm) ⟨zB.blind, va_recv C.2.2.2.2.2.1 hP hc hk0, z_pre C hR hP hD hS⟩ rfl hA hL.1 hst (lv_room hsum) hd hroom) hS (z_zA C hR hD hS)
    (fun v G' H1 locs1 ws' hp hR' hP' hD' hS' => kk v G' hp H1 locs1 ls ws' hR' hP' hD' hS' hL)
theorem z_callS (C : zC p s m args meth c cc own nL Γ A) {y : MethodName} {cb : ByteArray} {mL ix : Nat} {ret : Option FieldType} {rm : Room} {As : List Value} {post : Option Value → zG → Prop} {stk : List Value} (hM : ZM l y cb mL ret rm Γ As G post)
    (hw : ∀ w ∈ ([Cond.methodLink own ix y, Cond.static y, Cond.initialized y.cls, Cond.code y cb mL ret] : List Cond), w ∈ lw_all) (hst : stk = As.reverse ++ st)
    {nA : Nat} (hA : As.length = nA) (hy : y.cls ≠ "java/lang/invoke/MethodHandle" ∧ y.cls ≠ "java/lang/invoke/VarHandle" ∧ (parseMethodDescriptor y.desc).map (fun d => d.parameters.length) = some nA) (hrm : rm.frames + 1 ≤ R.frames ∧ 8 + (mL + 11) + rm.locals ≤ R.locals) (hsum : (st.map fun v => v.category).sum ≤ 8) (hroom : k + rm.cells ≤ R.cells ∧ n + rm.slots ≤ R.slots) (hd : decode cc pc = .ok (.invokestatic ix, 3))
    (kk : ∀ v G', post v G' → Z p l e R s m args below meth c Q nL Γ A G' (k + rm.cells) (n + rm.slots) (pc + 3) lv (v.toList ++ st)) : Z p l e R s m args below meth c Q nL Γ A G k n pc lv stk := by
  intro H locs ls ws hR hP hD hS hL
  have g : GoodIn lw_all (va_wsS own ix y (zws y cb mL ret)) := by
    intro w h
    unfold va_wsS at h
    rcases List.mem_append.mp h with h | h
    · exact z_goods hw w (by simp only [List.mem_cons, List.not_mem_nil, or_false] at h ⊢; rcases h with h | h | h <;> simp [h])
    · rcases List.mem_cons.mp h with h | h
      · exact z_goods hw w (by simp [h])
      · exact z_good w h
  exact z_back (va_runS (As := As) (rest := st) ⟨C.1, C.2.1, C.2.2.1, C.2.2.2.1, C.2.2.2.2.1⟩ (hM H.size) (va_cwS nA C.2.2.2.2.1 g rfl rfl rfl hy hrm) ⟨zB.blind, z_pre C hR hP hD hS⟩ rfl hA hL.1 hst (lv_room hsum) hd hroom) hS (z_zA C hR hD hS)
    (fun v G' H1 locs1 ws' hp hR' hP' hD' hS' => kk v G' hp H1 locs1 ls ws' hR' hP' hD' hS' hL)
theorem z_callI (C : zC p s m args meth c cc own nL Γ A) {y : MethodName} {cb : ByteArray} {mL ix b : Nat} {rm : Room} {As : List Value} {post : Option Value → zG → Prop} {stk : List Value} (hM : ZM l y cb mL none rm Γ (.ref b :: As) G post)
    (hw : ∀ w ∈ ([Cond.methodLink own ix y, Cond.instanceMethod y, Cond.initialized y.cls, Cond.code y cb mL none] : List Cond), w ∈ lw_all) (hst : stk = As.reverse ++ .ref b :: st) (hyi : y.name = "<init>")
    {nA : Nat} (hA : As.length = nA) (hy : y.cls ≠ "java/lang/invoke/MethodHandle" ∧ y.cls ≠ "java/lang/invoke/VarHandle" ∧ (parseMethodDescriptor y.desc).map (fun d => d.parameters.length) = some nA) (hrm : rm.frames + 1 ≤ R.frames ∧ 8 + (mL + 11) + rm.locals ≤ R.locals) (hsum : (st.map fun v => v.category).sum ≤ 8) (hroom : k + rm.cells ≤ R.cells ∧ n + rm.slots ≤ R.slots) (hd : decode cc pc = .ok (.invokespecial ix, 3))
    (kk : ∀ v G', post v G' → Z p l e R s m args below meth c Q nL Γ A G' (k + rm.cells) (n + rm.slots) (pc + 3) lv (v.toList ++ st)) : Z p l e R s m args below meth c Q nL Γ A G k n pc lv stk := by
  intro H locs ls ws hR hP hD hS hL
  have g : GoodIn lw_all (zws y cb mL none) := by
    intro w h
    rcases List.mem_cons.mp h with h | h
    · exact z_goods hw w (by simp [h])
    · exact z_good w h
  exact z_back (va_runI (As := As) (rest := st) ⟨C.1, C.2.1, C.2.2.1, C.2.2.2.1, C.2.2.2.2.1⟩ (hM H.size) (cwI nA C.2.2.2.2.1 g rfl rfl rfl (C.2.2.2.2.1 _ (hw _ (by simp))) (C.2.2.2.2.1 _ (hw _ (by simp))) (C.2.2.2.2.1 _ (hw _ (by simp))) hyi hy hrm) ⟨zB.blind, z_pre C hR hP hD hS⟩ rfl hA hL.1 hst (lv_room hsum) hd hroom) hS (z_zA C hR hD hS)
    (fun v G' H1 locs1 ws' hp hR' hP' hD' hS' => kk v G' hp H1 locs1 ls ws' hR' hP' hD' hS' hL)
theorem z_callIN (C : zC p s m args meth c cc own nL Γ A) {y : MethodName} {host : String} {cb : ByteArray} {mL ix b : Nat} {rm : Room} {As : List Value} {post : Option Value → zG → Prop} {stk : List Value} (hM : ZM l y cb mL none rm Γ (.ref b :: As) G post) (hwn : Cond.methodLinkNest own ix y host ∈ lw_nest)
    (hw : ∀ w ∈ ([Cond.instanceMethod y, Cond.initialized y.cls, Cond.code y cb mL none] : List Cond), w ∈ lw_all) (hst : stk = As.reverse ++ .ref b :: st) (hyi : y.name = "<init>")
    {nA : Nat} (hA : As.length = nA) (hy : y.cls ≠ "java/lang/invoke/MethodHandle" ∧ y.cls ≠ "java/lang/invoke/VarHandle" ∧ (parseMethodDescriptor y.desc).map (fun d => d.parameters.length) = some nA) (hrm : rm.frames + 1 ≤ R.frames ∧ 8 + (mL + 11) + rm.locals ≤ R.locals) (hsum : (st.map fun v => v.category).sum ≤ 8) (hroom : k + rm.cells ≤ R.cells ∧ n + rm.slots ≤ R.slots) (hd : decode cc pc = .ok (.invokespecial ix, 3))
    (kk : ∀ v G', post v G' → Z p l e R s m args below meth c Q nL Γ A G' (k + rm.cells) (n + rm.slots) (pc + 3) lv (v.toList ++ st)) : Z p l e R s m args below meth c Q nL Γ A G k n pc lv stk := by
  intro H locs ls ws hR hP hD hS hL
  have g : GoodIn lw_all (zws y cb mL none) := by
    intro w h
    rcases List.mem_cons.mp h with h | h
    · exact z_goods hw w (by simp [h])
    · exact z_good w h
  exact z_back (va_runIN (As := As) (rest := st) ⟨C.1, C.2.1, C.2.2.1, C.2.2.2.1, C.2.2.2.2.1⟩ (hM H.size) ⟨va_cnB nA C.2.2.2.2.1 g rfl rfl rfl (C.2.2.2.2.2.2.2.2.2.1 _ hwn) (C.2.2.2.2.1 _ (hw _ (by simp))) hy hrm, hyi, C.2.2.2.2.1 _ (hw _ (by simp))⟩ ⟨zB.blind, z_pre C hR hP hD hS⟩ rfl hA hL.1 hst (lv_room hsum) hd hroom) hS (z_zA C hR hD hS)
    (fun v G' H1 locs1 ws' hp hR' hP' hD' hS' => kk v G' hp H1 locs1 ls ws' hR' hP' hD' hS' hL)
/-- Object's constructor -/
theorem z_obj (C : zC p s m args meth c cc own nL Γ A) {ix a : Nat} (hw : ∀ w ∈ ([Cond.methodLink own ix objectInit, Cond.instanceMethod objectInit, Cond.code objectInit ⟨#[0xb1]⟩ 1 none] : List Cond), w ∈ lw_all) (hf : 1 ≤ R.frames) (hlo : (st.map fun v => v.category).sum + 12 ≤ R.locals) (hk : k ≤ R.cells) (hn : n ≤ R.slots) (hd : decode cc pc = .ok (.invokespecial ix, 3))
    (kk : Z p l e R s m args below meth c Q nL Γ A G k n (pc + 3) lv st) : Z p l e R s m args below meth c Q nL Γ A G k n pc lv (.ref a :: st) := by
  intro H locs ls ws hR hP hD hS hL
  exact W.objInit C.1 C.2.1 C.2.2.2.1 (C.2.2.2.2.1 _ (hw _ (by simp))) (C.2.2.2.2.1 _ (hw _ (by simp))) (C.2.2.2.2.1 _ (hw _ (by simp))) rfl (hL.1.trans C.2.2.1.symm) rfl hd hf (by show 2 * 0 + _ + 12 ≤ _; omega) (kk H locs ls ws hR hP hD hS hL)
theorem z_abs (C : zC p s m args meth c cc own nL Γ A) {ix : Nat} {x : Int32} (hw : ∀ w ∈ ([Cond.methodLink own ix Lib.Math.abs.name, Cond.static Lib.Math.abs.name, Cond.initialized "java/lang/Math", Cond.code Lib.Math.abs.name Lib.Math.abs.code 1 (some .int)] : List Cond), w ∈ lw_all) (hf : 1 ≤ R.frames) (hlo : (st.map fun v => v.category).sum + 13 ≤ R.locals) (hk : k ≤ R.cells) (hn : n ≤ R.slots) (hd : decode cc pc = .ok (.invokestatic ix, 3))
    (kk : Z p l e R s m args below meth c Q nL Γ A G k n (pc + 3) lv (.int (z_abs1 x) :: st)) : Z p l e R s m args below meth c Q nL Γ A G k n pc lv (.int x :: st) := by
  intro H locs ls ws hR hP hD hS hL
  exact va_mabs C.1 C.2.1 (C.2.2.1.trans hL.1.symm) C.2.2.2.1 (C.2.2.2.2.1 _ (hw _ (by simp))) (C.2.2.2.2.1 _ (hw _ (by simp))) (C.2.2.2.2.1 _ (hw _ (by simp))) (C.2.2.2.2.1 _ (hw _ (by simp))) hf hlo hk hn hd (kk H locs ls ws hR hP hD hS hL)
theorem z_max (C : zC p s m args meth c cc own nL Γ A) {ix : Nat} {x y : Int32} (hw : ∀ w ∈ ([Cond.methodLink own ix Lib.Math.max.name, Cond.static Lib.Math.max.name, Cond.initialized "java/lang/Math", Cond.code Lib.Math.max.name Lib.Math.max.code 2 (some .int)] : List Cond), w ∈ lw_all) (hf : 1 ≤ R.frames) (hlo : (st.map fun v => v.category).sum + 13 ≤ R.locals) (hk : k ≤ R.cells) (hn : n ≤ R.slots) (hd : decode cc pc = .ok (.invokestatic ix, 3))
    (kk : Z p l e R s m args below meth c Q nL Γ A G k n (pc + 3) lv (.int (if x < y then y else x) :: st)) : Z p l e R s m args below meth c Q nL Γ A G k n pc lv (.int y :: .int x :: st) := by
  intro H locs ls ws hR hP hD hS hL
  exact va_mmax C.1 C.2.1 (C.2.2.1.trans hL.1.symm) C.2.2.2.1 (C.2.2.2.2.1 _ (hw _ (by simp))) (C.2.2.2.2.1 _ (hw _ (by simp))) (C.2.2.2.2.1 _ (hw _ (by simp))) (C.2.2.2.2.1 _ (hw _ (by simp))) hf hlo hk hn hd (kk H locs ls ws hR hP hD hS hL)
theorem z_cast (C : zC p s m args meth c cc own nL Γ A) {ix a ci : Nat} {fs : List Value} {q : vw_C} (hw : Cond.classLink own ix q.1 ∈ lw_all) (hG : G a = some (.inr (ci, fs))) (hc : zCl[ci]? = some q) (hd : decode cc pc = .ok (.checkcast ix, 3))
    (kk : Z p l e R s m args below meth c Q nL Γ A G k n (pc + 3) lv (.ref a :: st)) : Z p l e R s m args below meth c Q nL Γ A G k n pc lv (.ref a :: st) := by
  intro H locs ls ws hR hP hD hS hL
  obtain ⟨k0, hk0⟩ := hR.mem hG
  exact va_castS C.1 C.2.1 C.2.2.2.1 (C.2.2.2.2.1 _ hw) (C.2.2.2.2.2.1.1 ci q hc).2 (va_recv C.2.2.2.2.2.1 hP hc hk0) hd (kk H locs ls ws hR hP hD hS hL)
theorem z_ldcw (C : zC p s m args meth c cc own nL Γ A) {ix : Nat} {v : Int32} (hw : Cond.constant own ix v ∈ lw_all) (hd : decode cc pc = .ok (.ldc_w ix, 3)) (kk : Z p l e R s m args below meth c Q nL Γ A G k n (pc + 3) lv (.int v :: st)) : Z p l e R s m args below meth c Q nL Γ A G k n pc lv st :=
  fun H locs ls ws hR hP hD hS hL => lv_ldcw C.1 C.2.1 C.2.2.2.1 (C.2.2.2.2.1 _ hw) hd (kk H locs ls ws hR hP hD hS hL)
theorem z_min (C : zC p s m args meth c cc own nL Γ A) {ix : Nat} {x y : Int32} (hw : ∀ w ∈ ([Cond.methodLink own ix Lib.Math.min.name, Cond.static Lib.Math.min.name, Cond.initialized "java/lang/Math", Cond.code Lib.Math.min.name Lib.Math.min.code 2 (some .int)] : List Cond), w ∈ lw_all) (hf : 1 ≤ R.frames) (hlo : (st.map fun v => v.category).sum + 13 ≤ R.locals) (hk : k ≤ R.cells) (hn : n ≤ R.slots) (hd : decode cc pc = .ok (.invokestatic ix, 3))
    (kk : Z p l e R s m args below meth c Q nL Γ A G k n (pc + 3) lv (.int (if y < x then y else x) :: st)) : Z p l e R s m args below meth c Q nL Γ A G k n pc lv (.int y :: .int x :: st) := by
  intro H locs ls ws hR hP hD hS hL
  exact va_mmin C.1 C.2.1 (C.2.2.1.trans hL.1.symm) C.2.2.2.1 (C.2.2.2.2.1 _ (hw _ (by simp))) (C.2.2.2.2.1 _ (hw _ (by simp))) (C.2.2.2.2.1 _ (hw _ (by simp))) (C.2.2.2.2.1 _ (hw _ (by simp))) hf hlo hk hn hd (kk H locs ls ws hR hP hD hS hL)
/-- getClass of an array of objects, and the class constant, are one object -/
theorem z_getC (C : zC p s m args meth c cc own nL Γ A) {ix a N mi : Nat} {f : Nat → Option Nat} (hG : G a = some (zO Γ N f)) (hM : va_Mi "[Ljava/lang/Object;" mi s)
    (hw : ∀ w ∈ ([Cond.methodLink own ix ⟨"java/lang/Object", "getClass", "()Ljava/lang/Class;"⟩, Cond.selects "[Ljava/lang/Object;" ⟨"java/lang/Object", "getClass", "()Ljava/lang/Class;"⟩ ⟨"java/lang/Object", "getClass", "()Ljava/lang/Class;"⟩, Cond.instanceMethod ⟨"java/lang/Object", "getClass", "()Ljava/lang/Class;"⟩, Cond.native ⟨"java/lang/Object", "getClass", "()Ljava/lang/Class;"⟩] : List Cond), w ∈ lw_all) (hf : 1 ≤ R.frames) (hlo : (st.map fun v => v.category).sum + 14 ≤ R.locals) (hd : decode cc pc = .ok (.invokevirtual ix, 3))
    (kk : Z p l e R s m args below meth c Q nL Γ A G k n (pc + 3) lv (.ref mi :: st)) : Z p l e R s m args below meth c Q nL Γ A G k n pc lv (.ref a :: st) := by
  intro H locs ls ws hR hP hD hS hL
  obtain ⟨k0, hk0⟩ := hR.mem hG
  exact va_getC C.1 C.2.1 (C.2.2.1.trans hL.1.symm) C.2.2.2.1 (C.2.2.2.2.1 _ (hw _ (by simp))) C.2.2.2.2.2.2.2.2.2.2.2.2.2.use (C.2.2.2.2.1 _ (hw _ (by simp))) (C.2.2.2.2.1 _ (hw _ (by simp))) (C.2.2.2.2.1 _ (hw _ (by simp))) hM
    ⟨_, hP k0 _ hk0, rfl, va_nmO (C.2.2.2.2.2.1.2 1 _ (rfl : (zT Γ.2.1)[1]? = some (Γ.2.1 1, .object "java/lang/Object"))).2 (by decide)⟩ hf hlo hd (kk H locs ls ws hR hP hD hS hL)
theorem z_ldcM (C : zC p s m args meth c cc own nL Γ A) {ix mi : Nat} (hM : va_Mi "[Ljava/lang/Object;" mi s) (hw : Cond.classLink own ix "[Ljava/lang/Object;" ∈ lw_all) (hd : decode cc pc = .ok (.ldc ix, 2)) (kk : Z p l e R s m args below meth c Q nL Γ A G k n (pc + 2) lv (.ref mi :: st)) : Z p l e R s m args below meth c Q nL Γ A G k n pc lv st :=
  fun H locs ls ws hR hP hD hS hL => va_ldcM C.1 C.2.1 C.2.2.2.1 (C.2.2.2.2.1 _ hw) hM hd (kk H locs ls ws hR hP hD hS hL)
theorem z_mi (C : zC p s m args meth c cc own nL Γ A) : va_Mi "[Ljava/lang/Object;" (Γ.2.2 2) s := C.2.2.2.2.2.2.2.2.2.2.2.2.1
theorem z_copy (C : zC p s m args meth c cc own nL Γ A) {ix a0 a n0 n1 : Nat} {f g : Nat → Option Nat} (h0 : G a0 = some (zO Γ n0 f)) (h1 : G a = some (zO Γ n1 g))
    (hw : ∀ w ∈ ([Cond.methodLink own ix arraycopyName, Cond.native arraycopyName, Cond.static arraycopyName, Cond.initialized "java/lang/System"] : List Cond), w ∈ lw_all) {sp dp x : Int32} (sp' dp' x' : Nat) (es : sp = nI sp') (ed : dp = nI dp') (ex : x = nI x') (hb : sp' < 2 ^ 31 ∧ dp' < 2 ^ 31 ∧ x' < 2 ^ 31) (h4 : sp' + x' ≤ n0) (h5 : dp' + x' ≤ n1)
    (hel : ∀ i : Nat, i < x' → ∀ y : Nat, f (sp' + i) = some y → ∃ (ci : Nat) (fs : List Value) (q : vw_C), G y = some (.inr (ci, fs)) ∧ zCl[ci]? = some q) (hf : 1 ≤ R.frames) (hlo : (st.map fun v => v.category).sum + (nativeFrameWords "java/lang/System" "arraycopy" 5 + 11) ≤ R.locals) (hd : decode cc pc = .ok (.invokestatic ix, 3))
    (kk : Z p l e R s m args below meth c Q nL Γ A (zU G a (zO Γ n1 (va_cpy f g sp' dp' x'))) k n (pc + 3) lv st) : Z p l e R s m args below meth c Q nL Γ A G k n pc lv (.int x :: .int dp :: .ref a :: .int sp :: .ref a0 :: st) := by
  intro H locs ls ws hR hP hD hS hL
  obtain ⟨k0, hk0⟩ := hR.mem h0
  obtain ⟨k1, hk1⟩ := hR.mem h1
  subst es ed ex
  obtain ⟨b1, b2, b3⟩ := hb
  refine va_copyM C.1 C.2.1 (C.2.2.1.trans hL.1.symm) C.2.2.2.1 (C.2.2.2.2.1 _ (hw _ (by simp))) (C.2.2.2.2.1 _ (hw _ (by simp))) (C.2.2.2.2.1 _ (hw _ (by simp))) (C.2.2.2.2.1 _ (hw _ (by simp))) C.2.2.2.2.2.1 hP hD hS k0 k1 1 1 hk0 hk1 rfl rfl (nI_pos b1) (nI_pos b2) (nI_pos b3) (by rw [nI_clamp b1, nI_clamp b3]; exact h4) (by rw [nI_clamp b2, nI_clamp b3]; exact h5) (fun i hi y hy => ?_) hf hlo hd (fun H1 locs1 hP1 hD1 hS1 => ?_)
  · rw [nI_clamp b3] at hi
    rw [nI_clamp b1] at hy
    obtain ⟨ci, fs, q, h6, h7⟩ := hel i hi y hy
    obtain ⟨k2, hk2⟩ := hR.mem h6
    exact va_rAny C.2.2.2.2.2.1 hP hk2 h7 (vb_asgC (C.2.2.2.2.2.2.2.2.2.1 _ (zCl_obj h7)))
  · rw [nI_clamp b1, nI_clamp b2, nI_clamp b3] at hP1 hD1
    exact kk H1 locs1 ls _ (hR.set hD hk1) hP1 hD1 hS1 hL
theorem z_callSN (C : zC p s m args meth c cc own nL Γ A) {y : MethodName} {host : String} {cb : ByteArray} {mL ix : Nat} {ret : Option FieldType} {rm : Room} {As : List Value} {post : Option Value → zG → Prop} {stk : List Value} (hM : ZM l y cb mL ret rm Γ As G post) (hwn : Cond.methodLinkNest own ix y host ∈ lw_nest)
    (hw : ∀ w ∈ ([Cond.static y, Cond.initialized y.cls, Cond.code y cb mL ret] : List Cond), w ∈ lw_all) (hst : stk = As.reverse ++ st)
    {nA : Nat} (hA : As.length = nA) (hy : y.cls ≠ "java/lang/invoke/MethodHandle" ∧ y.cls ≠ "java/lang/invoke/VarHandle" ∧ (parseMethodDescriptor y.desc).map (fun d => d.parameters.length) = some nA) (hrm : rm.frames + 1 ≤ R.frames ∧ 8 + (mL + 11) + rm.locals ≤ R.locals) (hsum : (st.map fun v => v.category).sum ≤ 8) (hroom : k + rm.cells ≤ R.cells ∧ n + rm.slots ≤ R.slots) (hd : decode cc pc = .ok (.invokestatic ix, 3))
    (kk : ∀ v G', post v G' → Z p l e R s m args below meth c Q nL Γ A G' (k + rm.cells) (n + rm.slots) (pc + 3) lv (v.toList ++ st)) : Z p l e R s m args below meth c Q nL Γ A G k n pc lv stk := by
  intro H locs ls ws hR hP hD hS hL
  have g : GoodIn lw_all (zws y cb mL ret) := by
    intro w h
    rcases List.mem_cons.mp h with h | h
    · exact z_goods hw w (by simp [h])
    · exact z_good w h
  exact z_back (va_runSN (As := As) (rest := st) ⟨C.1, C.2.1, C.2.2.1, C.2.2.2.1, C.2.2.2.2.1⟩ (hM H.size) ⟨va_cnB nA C.2.2.2.2.1 g rfl rfl rfl (C.2.2.2.2.2.2.2.2.2.1 _ hwn) (C.2.2.2.2.1 _ (hw _ (by simp))) hy hrm, C.2.2.2.2.1 _ (hw _ (by simp)), trivial⟩ ⟨zB.blind, z_pre C hR hP hD hS⟩ rfl hA hL.1 hst (lv_room hsum) hd hroom) hS (z_zA C hR hD hS)
    (fun v G' H1 locs1 ws' hp hR' hP' hD' hS' => kk v G' hp H1 locs1 ls ws' hR' hP' hD' hS' hL)
/-- the empty array is none of the world's cells -/
theorem z_et (C : zC p s m args meth c cc own nL Γ A) (kk : G (Γ.2.2 0) = none → Z p l e R s m args below meth c Q nL Γ A G k n pc lv st) : Z p l e R s m args below meth c Q nL Γ A G k n pc lv st := by
  intro H locs ls ws hR hP hD hS hL
  refine kk ?_ H locs ls ws hR hP hD hS hL
  cases hg : G (Γ.2.2 0) with
  | none => rfl
  | some x =>
    obtain ⟨k0, hk0⟩ := hR.mem hg
    exact absurd (hD.2 k0 _ hk0) C.2.2.2.2.2.2.2.2.1.2.1.out
theorem z_gen (kk : ∀ G1 : zG, (∀ q, G1 q = G q) → Z p l e R s m args below meth c Q nL Γ A G1 k n pc lv st) : Z p l e R s m args below meth c Q nL Γ A G k n pc lv st := kk G (fun _ => rfl)
end ZO
