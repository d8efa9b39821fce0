/-! OWN ROWS, second part: contracts over such a world, and a row an instruction -/
abbrev zY : Type := va_G × (Nat → ClassId) × (Nat → Nat)
/-- cells outside the world that its code reads: ArrayList's empty array, the search's steps; and what a throw needs -/
def zE (tt : Nat → Nat) (A : Nat → Prop) (U : State) : Prop :=
  va_Z "java/util/ArrayList" "DEFAULTCAPACITY_EMPTY_ELEMENTDATA" "[Ljava/lang/Object;" (.ref (tt 0)) A U U.heap ∧ va_T (.object "java/lang/Object") (tt 0) 0 (fun _ => .null) A U U.heap ∧
  va_Z "QuakeBench$Search" "FINER_STEPS" "[I" (.ref (tt 1)) A U U.heap ∧ va_T .int (tt 1) 4 (fun j => .int (if j = 0 then 10 else if j = 1 then 5 else if j = 2 then 2 else 1)) A U U.heap ∧
  vx_Zq Bundle.tN "UNASSIGNED_STACK" Bundle.steD A U U.heap ∧ vx_Zq Bundle.tN "SUPPRESSED_SENTINEL" Bundle.listD A U U.heap
theorem zE.call {tt : Nat → Nat} {A B : Nat → Prop} {s U : State} {H : Heap} {locs : List Loc} (h : zE tt A s) (hvm : s.vm.Alike U.vm) (hS : va_S A s.heap H locs) (hH : U.heap = H) (hB : ∀ q, B q → A q) : zE tt B U := by
  subst hH
  obtain ⟨h1, h2, h3, h4, h5, h6⟩ := h
  exact ⟨((h1.kept hS.2.1).moved hvm).narrow hB, ((h2.kept hS.2.1).moved hvm).narrow hB, ((h3.kept hS.2.1).moved hvm).narrow hB, ((h4.kept hS.2.1).moved hvm).narrow hB, ((h5.kept hS.2.1).moved hvm).narrow hB, ((h6.kept hS.2.1).moved hvm).narrow hB⟩
/-- what is kept of the tables beside the words: links across the nest, the texts, Object's arrays -/
def zN (tt : Nat → Nat) (U : State) : Prop := (∀ w ∈ lw_nest, va_Nw w U) ∧ (∀ q ∈ lw_strs, ∃ a, vk_R q.1 q.2.1 q.2.2 a U) ∧ va_AO "java/lang/Object" U ∧ va_Mi "[Ljava/lang/Object;" (tt 2) U ∧ va_Dc U
theorem zN.warm {tt : Nat → Nat} {s U : State} (hW : s.WarmedH U.vm) (h : zN tt s) : zN tt U := by
  refine ⟨fun w hw => ?_, fun q hq => ?_, h.2.2.1.moved hW.alike, h.2.2.2.1.moved hW.alike, h.2.2.2.2.moved hW.alike⟩
  · have h1 := h.1 w hw
    have h2 := lw_nest_ok w hw
    cases w <;> first | exact va_Nw.warmF hW h1 | exact va_Nw.warmM hW h1 | exact va_Nw.warmC hW h1 | exact va_Nw.warmD hW h1 | (cases h2; done)
  · obtain ⟨a, ha⟩ := h.2.1 q hq
    exact ⟨a, ha.warm hW⟩
theorem zN.same {tt : Nat → Nat} {s U : State} (hv : U.vm = s.vm) (h : zN tt s) : zN tt U := by
  refine ⟨fun w hw => ?_, fun q hq => ?_, h.2.2.1.moved (by rw [hv]; exact Vm.Alike.refl s.vm), h.2.2.2.1.moved (by rw [hv]; exact Vm.Alike.refl s.vm), h.2.2.2.2.moved (by rw [hv]; exact Vm.Alike.refl s.vm)⟩
  · have h1 := h.1 w hw
    have h2 := lw_nest_ok w hw
    cases w <;> first | exact va_Nw.same rfl hv.symm h1 | (cases h2; done)
  · obtain ⟨a, ha⟩ := h.2.1 q hq
    exact ⟨a, ha.same hv⟩
def zB (Γ : zY) (G : zG) (sz : Nat) : State → Prop := fun U =>
  U.heap.size = sz ∧ (∃ ws, zR G ws ∧ va_P Γ.1 zCl ws U.heap ∧ va_D (fun _ => True) ws) ∧ va_K Γ.1 zCl (zT Γ.2.1) U ∧ zE Γ.2.2 (zA G sz) U ∧ zN Γ.2.2 U
theorem zB.blind {av : List Value} {Γ : zY} {G : zG} {sz : Nat} : FrameBlind (va_Pc av (zB Γ G sz)) := by
  intro a U g mk h
  obtain ⟨h1, h2, h3, h4, h5, h6⟩ := h
  exact ⟨h1, h2, h3, va_K.moved (u := U) (U := U.calling g mk a) (Vm.Alike.refl U.vm) h4, h5.call (U := U.calling g mk a) (Vm.Alike.refl U.vm) (va_S.rf (A := zA G sz) (H0 := U.heap)) rfl (fun _ h => h), zN.same (s := U) (U := U.calling g mk a) rfl h6⟩
def zQ (post : Option Value → zG → Prop) (Γ : zY) (G : zG) (sz : Nat) : Array Value → State → Outcome → State → Prop := fun _ st oc t =>
  (∃ (v : Option Value) (G' : zG) (ws' : va_W), oc = .returned v ∧ post v G' ∧ zR G' ws' ∧ va_P Γ.1 zCl ws' t.heap ∧ va_D (zA G sz) ws') ∧ va_F (zA G sz) st t
/-- a method's contract: on these arguments and this world it returns, and 'post' holds of the answer and the world then -/
def ZM (l : Launch) (y : MethodName) (cb : ByteArray) (n : Nat) (ret : Option FieldType) (rm : Room) (Γ : zY) (av : List Value) (G : zG) (post : Option Value → zG → Prop) : Prop :=
  ∀ sz : Nat, Met l y (zws y cb n ret) rm (va_Pc av (zB Γ G sz)) (zQ post Γ G sz) rm.cells rm.slots (zA G sz)
theorem ZM.mono {l : Launch} {y : MethodName} {cb : ByteArray} {n : Nat} {ret : Option FieldType} {rm : Room} {Γ : zY} {av : List Value} {G : zG} {post post' : Option Value → zG → Prop} (h : ZM l y cb n ret rm Γ av G post) (hp : ∀ v G', post v G' → post' v G') : ZM l y cb n ret rm Γ av G post' := by
  intro sz
  refine MetFree.mono (h sz) (fun _ _ q => q) (fun _ _ _ _ _ q => q) ?_
  intro a st o t _ hq
  obtain ⟨⟨⟨v, G', ws', h1, h2, h3⟩, h4⟩, h5⟩ := hq
  exact ⟨⟨⟨v, G', ws', h1, hp v G' h2, h3⟩, h4⟩, h5⟩
/-- what holds all along a walk -/
def zC (p : Program) (s : State) (m : MethodId) (args : Array Value) (meth : Method) (c : Code) (cc : ByteArray) (own : String) (nL : Nat) (Γ : zY) (A : Nat → Prop) : Prop :=
  p.tables.exec = Jvm.exec ∧ c.code = cc ∧ c.maxLocals = nL ∧ s.vm.findClass own = some m.cls ∧ (∀ w ∈ lw_all, w.before args s = true) ∧ va_K Γ.1 zCl (zT Γ.2.1) s ∧ meth.locks = false ∧ (∀ q, s.heap.size ≤ q → A q) ∧ zE Γ.2.2 A s ∧ zN Γ.2.2 s
/-- the walk: at pc, with these locals and this stack, in this world -/
def Z (p : Program) (l : Launch) (e : Env) (R : Room) (s : State) (m : MethodId) (args : Array Value) (below : List Frame) (meth : Method) (c : Code) (Q : State → Prop) (nL : Nat) (Γ : zY) (A : Nat → Prop) (G : zG) (k n pc : Nat) (lv : List (Option Value)) (st : List Value) : Prop :=
  ∀ (H : Heap) (locs : List Loc) (ls : Array Slot) (ws : va_W), zR G ws → va_P Γ.1 zCl ws H → va_D A ws → va_S A s.heap H locs → zL ls nL lv → W p l e R s m args below meth c H locs k n Q (F0 m pc ls st)
section ZZ
variable {p : Program} {l : Launch} {e : Env} {R : Room} {s : State} {m : MethodId} {args : Array Value} {below : List Frame} {meth : Method} {c : Code} {Q : State → Prop} {nL : Nat} {Γ : zY} {A : Nat → Prop} {G : zG} {k n pc : Nat} {lv : List (Option Value)} {st : List Value} {cc : ByteArray} {own : String}
theorem z_widen {k' n' : Nat} (h1 : k ≤ k') (h2 : n ≤ n') (kk : Z p l e R s m args below meth c Q nL Γ A G k' n' pc lv st) : Z p l e R s m args below meth c Q nL Γ A G k n pc lv st :=
  fun H locs ls ws hR hP hD hS hL => W.widen h1 h2 (kk H locs ls ws hR hP hD hS hL)
theorem z_iconst (C : zC p s m args meth c cc own nL Γ A) {i : Int} {v : Int32} (hd : decode cc pc = .ok (.iconst i, 1)) (hv : Int32.ofInt i = v) (kk : Z p l e R s m args below meth c Q nL Γ A G k n (pc + 1) lv (.int v :: st)) : Z p l e R s m args below meth c Q nL Γ A G k n pc lv st :=
  fun H locs ls ws hR hP hD hS hL => lv_iconst C.1 C.2.1 hd hv (kk H locs ls ws hR hP hD hS hL)
theorem z_bipush (C : zC p s m args meth c cc own nL Γ A) {i : Int} {v : Int32} (hd : decode cc pc = .ok (.bipush i, 2)) (hv : (Int8.ofInt i).toInt32 = v) (kk : Z p l e R s m args below meth c Q nL Γ A G k n (pc + 2) lv (.int v :: st)) : Z p l e R s m args below meth c Q nL Γ A G k n pc lv st :=
  fun H locs ls ws hR hP hD hS hL => lv_bipush C.1 C.2.1 hd hv (kk H locs ls ws hR hP hD hS hL)
theorem z_sipush (C : zC p s m args meth c cc own nL Γ A) {i : Int} {v : Int32} (hd : decode cc pc = .ok (.sipush i, 3)) (hv : (Int16.ofInt i).toInt32 = v) (kk : Z p l e R s m args below meth c Q nL Γ A G k n (pc + 3) lv (.int v :: st)) : Z p l e R s m args below meth c Q nL Γ A G k n pc lv st :=
  fun H locs ls ws hR hP hD hS hL => lv_sipush C.1 C.2.1 hd hv (kk H locs ls ws hR hP hD hS hL)
theorem z_lconst (C : zC p s m args meth c cc own nL Γ A) {i : Fin 2} {v : Int64} (hd : decode cc pc = .ok (.lconst i, 1)) (hv : Int64.ofNat (i : Nat) = v) (kk : Z p l e R s m args below meth c Q nL Γ A G k n (pc + 1) lv (.long v :: st)) : Z p l e R s m args below meth c Q nL Γ A G k n pc lv st :=
  fun H locs ls ws hR hP hD hS hL => lv_lconst C.1 C.2.1 hd hv (kk H locs ls ws hR hP hD hS hL)
theorem z_ldc (C : zC p s m args meth c cc own nL Γ A) {ix : Nat} {v : Int32} (hw : Cond.constant own ix v ∈ lw_all) (hd : decode cc pc = .ok (.ldc ix, 2)) (kk : Z p l e R s m args below meth c Q nL Γ A G k n (pc + 2) lv (.int v :: st)) : Z p l e R s m args below meth c Q nL Γ A G k n pc lv st :=
  fun H locs ls ws hR hP hD hS hL => lv_ldc C.1 C.2.1 C.2.2.2.1 (C.2.2.2.2.1 _ hw) hd (kk H locs ls ws hR hP hD hS hL)
theorem z_ldc2 (C : zC p s m args meth c cc own nL Γ A) {ix : Nat} {v : Int64} (hw : Cond.constantLong own ix v ∈ lw_all) (hd : decode cc pc = .ok (.ldc2_w ix, 3)) (kk : Z p l e R s m args below meth c Q nL Γ A G k n (pc + 3) lv (.long v :: st)) : Z p l e R s m args below meth c Q nL Γ A G k n pc lv st :=
  fun H locs ls ws hR hP hD hS hL => lv_ldc2 C.1 C.2.1 C.2.2.2.1 (C.2.2.2.2.1 _ hw) hd (kk H locs ls ws hR hP hD hS hL)
theorem z_iload_n (C : zC p s m args meth c cc own nL Γ A) {i : Fin 4} {x : Int32} (hd : decode cc pc = .ok (.iload_n i, 1)) (hl : zg lv (i : Nat) = some (.int x)) (kk : Z p l e R s m args below meth c Q nL Γ A G k n (pc + 1) lv (.int x :: st)) : Z p l e R s m args below meth c Q nL Γ A G k n pc lv st :=
  fun H locs ls ws hR hP hD hS hL => lv_iload_n C.1 C.2.1 hd rfl (hL.at hl) (kk H locs ls ws hR hP hD hS hL)
theorem z_iload (C : zC p s m args meth c cc own nL Γ A) {i : Nat} {x : Int32} (hd : decode cc pc = .ok (.iload i, 2)) (hl : zg lv i = some (.int x)) (kk : Z p l e R s m args below meth c Q nL Γ A G k n (pc + 2) lv (.int x :: st)) : Z p l e R s m args below meth c Q nL Γ A G k n pc lv st :=
  fun H locs ls ws hR hP hD hS hL => lv_iload C.1 C.2.1 hd (hL.at hl) (kk H locs ls ws hR hP hD hS hL)
theorem z_lload_n (C : zC p s m args meth c cc own nL Γ A) {i : Fin 4} {x : Int64} (hd : decode cc pc = .ok (.lload_n i, 1)) (hl : zg lv (i : Nat) = some (.long x)) (kk : Z p l e R s m args below meth c Q nL Γ A G k n (pc + 1) lv (.long x :: st)) : Z p l e R s m args below meth c Q nL Γ A G k n pc lv st :=
  fun H locs ls ws hR hP hD hS hL => lv_lload_n C.1 C.2.1 hd rfl (hL.at hl) (kk H locs ls ws hR hP hD hS hL)
theorem z_lload (C : zC p s m args meth c cc own nL Γ A) {i : Nat} {x : Int64} (hd : decode cc pc = .ok (.lload i, 2)) (hl : zg lv i = some (.long x)) (kk : Z p l e R s m args below meth c Q nL Γ A G k n (pc + 2) lv (.long x :: st)) : Z p l e R s m args below meth c Q nL Γ A G k n pc lv st :=
  fun H locs ls ws hR hP hD hS hL => lv_lload C.1 C.2.1 hd (hL.at hl) (kk H locs ls ws hR hP hD hS hL)
theorem z_dload (C : zC p s m args meth c cc own nL Γ A) {i : Nat} {x : UInt64} (hd : decode cc pc = .ok (.dload i, 2)) (hl : zg lv i = some (.double x)) (kk : Z p l e R s m args below meth c Q nL Γ A G k n (pc + 2) lv (.double x :: st)) : Z p l e R s m args below meth c Q nL Γ A G k n pc lv st :=
  fun H locs ls ws hR hP hD hS hL => lv_dload C.1 C.2.1 hd (hL.at hl) (kk H locs ls ws hR hP hD hS hL)
theorem z_aload_n (C : zC p s m args meth c cc own nL Γ A) {i : Fin 4} {x : Option Nat} (hd : decode cc pc = .ok (.aload_n i, 1)) (hl : zg lv (i : Nat) = some (va_rf x)) (kk : Z p l e R s m args below meth c Q nL Γ A G k n (pc + 1) lv (va_rf x :: st)) : Z p l e R s m args below meth c Q nL Γ A G k n pc lv st := by
  intro H locs ls ws hR hP hD hS hL
  cases x with
  | none => exact lv_aload_nN C.1 C.2.1 hd rfl (hL.at hl) (kk H locs ls ws hR hP hD hS hL)
  | some a => exact lv_aload_n C.1 C.2.1 hd rfl (hL.at hl) (kk H locs ls ws hR hP hD hS hL)
theorem z_aload (C : zC p s m args meth c cc own nL Γ A) {i : Nat} {x : Option Nat} (hd : decode cc pc = .ok (.aload i, 2)) (hl : zg lv i = some (va_rf x)) (kk : Z p l e R s m args below meth c Q nL Γ A G k n (pc + 2) lv (va_rf x :: st)) : Z p l e R s m args below meth c Q nL Γ A G k n pc lv st := by
  intro H locs ls ws hR hP hD hS hL
  cases x with
  | none => exact lv_aloadN C.1 C.2.1 hd (hL.at hl) (kk H locs ls ws hR hP hD hS hL)
  | some a => exact lv_aload C.1 C.2.1 hd (hL.at hl) (kk H locs ls ws hR hP hD hS hL)
/-- a reference from a local: not null -/
theorem z_rload_n (C : zC p s m args meth c cc own nL Γ A) {i : Fin 4} {x : Nat} (hd : decode cc pc = .ok (.aload_n i, 1)) (hl : zg lv (i : Nat) = some (.ref x)) (kk : Z p l e R s m args below meth c Q nL Γ A G k n (pc + 1) lv (.ref x :: st)) : Z p l e R s m args below meth c Q nL Γ A G k n pc lv st :=
  fun H locs ls ws hR hP hD hS hL => lv_aload_n C.1 C.2.1 hd rfl (hL.at hl) (kk H locs ls ws hR hP hD hS hL)
theorem z_rload (C : zC p s m args meth c cc own nL Γ A) {i : Nat} {x : Nat} (hd : decode cc pc = .ok (.aload i, 2)) (hl : zg lv i = some (.ref x)) (kk : Z p l e R s m args below meth c Q nL Γ A G k n (pc + 2) lv (.ref x :: st)) : Z p l e R s m args below meth c Q nL Γ A G k n pc lv st :=
  fun H locs ls ws hR hP hD hS hL => lv_aload C.1 C.2.1 hd (hL.at hl) (kk H locs ls ws hR hP hD hS hL)
theorem z_nload_n (C : zC p s m args meth c cc own nL Γ A) {i : Fin 4} (hd : decode cc pc = .ok (.aload_n i, 1)) (hl : zg lv (i : Nat) = some .null) (kk : Z p l e R s m args below meth c Q nL Γ A G k n (pc + 1) lv (.null :: st)) : Z p l e R s m args below meth c Q nL Γ A G k n pc lv st :=
  fun H locs ls ws hR hP hD hS hL => lv_aload_nN C.1 C.2.1 hd rfl (hL.at hl) (kk H locs ls ws hR hP hD hS hL)
theorem z_istore_n (C : zC p s m args meth c cc own nL Γ A) {i : Fin 4} {x : Int32} (hd : decode cc pc = .ok (.istore_n i, 1)) (hi : (i : Nat) < nL) (kk : Z p l e R s m args below meth c Q nL Γ A G k n (pc + 1) (zs1 (i : Nat) (.int x) lv) st) : Z p l e R s m args below meth c Q nL Γ A G k n pc lv (.int x :: st) :=
  fun H locs ls ws hR hP hD hS hL => lv_istore_n C.1 C.2.1 hd rfl hL hi rfl (fun ls' h' => kk H locs ls' ws hR hP hD hS (zL.st1 h'))
theorem z_istore (C : zC p s m args meth c cc own nL Γ A) {i : Nat} {x : Int32} (hd : decode cc pc = .ok (.istore i, 2)) (hi : i < nL) (kk : Z p l e R s m args below meth c Q nL Γ A G k n (pc + 2) (zs1 i (.int x) lv) st) : Z p l e R s m args below meth c Q nL Γ A G k n pc lv (.int x :: st) :=
  fun H locs ls ws hR hP hD hS hL => lv_istore C.1 C.2.1 hd hL hi rfl (fun ls' h' => kk H locs ls' ws hR hP hD hS (zL.st1 h'))
theorem z_lstore_n (C : zC p s m args meth c cc own nL Γ A) {i : Fin 4} {x : Int64} (hd : decode cc pc = .ok (.lstore_n i, 1)) (hi : (i : Nat) + 1 < nL) (kk : Z p l e R s m args below meth c Q nL Γ A G k n (pc + 1) (zs2 (i : Nat) (.long x) lv) st) : Z p l e R s m args below meth c Q nL Γ A G k n pc lv (.long x :: st) :=
  fun H locs ls ws hR hP hD hS hL => lv_lstore_n C.1 C.2.1 hd rfl hL hi rfl (fun ls' h' => kk H locs ls' ws hR hP hD hS (zL.st2 h'))
theorem z_lstore (C : zC p s m args meth c cc own nL Γ A) {i : Nat} {x : Int64} (hd : decode cc pc = .ok (.lstore i, 2)) (hi : i + 1 < nL) (kk : Z p l e R s m args below meth c Q nL Γ A G k n (pc + 2) (zs2 i (.long x) lv) st) : Z p l e R s m args below meth c Q nL Γ A G k n pc lv (.long x :: st) :=
  fun H locs ls ws hR hP hD hS hL => lv_lstore C.1 C.2.1 hd hL hi rfl (fun ls' h' => kk H locs ls' ws hR hP hD hS (zL.st2 h'))
theorem z_dstore (C : zC p s m args meth c cc own nL Γ A) {i : Nat} {x : UInt64} (hd : decode cc pc = .ok (.dstore i, 2)) (hi : i + 1 < nL) (kk : Z p l e R s m args below meth c Q nL Γ A G k n (pc + 2) (zs2 i (.double x) lv) st) : Z p l e R s m args below meth c Q nL Γ A G k n pc lv (.double x :: st) :=
  fun H locs ls ws hR hP hD hS hL => lv_dstore C.1 C.2.1 hd hL hi rfl (fun ls' h' => kk H locs ls' ws hR hP hD hS (zL.st2 h'))
theorem z_astore_n (C : zC p s m args meth c cc own nL Γ A) {i : Fin 4} {x : Option Nat} (hd : decode cc pc = .ok (.astore_n i, 1)) (hi : (i : Nat) < nL) (kk : Z p l e R s m args below meth c Q nL Γ A G k n (pc + 1) (zs1 (i : Nat) (va_rf x) lv) st) : Z p l e R s m args below meth c Q nL Γ A G k n pc lv (va_rf x :: st) := by
  intro H locs ls ws hR hP hD hS hL
  cases x with
  | none => exact lv_astore_nN C.1 C.2.1 hd rfl hL hi rfl (fun ls' h' => kk H locs ls' ws hR hP hD hS (zL.st1 h'))
  | some a => exact lv_astore_n C.1 C.2.1 hd rfl hL hi rfl (fun ls' h' => kk H locs ls' ws hR hP hD hS (zL.st1 h'))
theorem z_astore (C : zC p s m args meth c cc own nL Γ A) {i : Nat} {x : Option Nat} (hd : decode cc pc = .ok (.astore i, 2)) (hi : i < nL) (kk : Z p l e R s m args below meth c Q nL Γ A G k n (pc + 2) (zs1 i (va_rf x) lv) st) : Z p l e R s m args below meth c Q nL Γ A G k n pc lv (va_rf x :: st) := by
  intro H locs ls ws hR hP hD hS hL
  cases x with
  | none => exact lv_astoreN C.1 C.2.1 hd hL hi rfl (fun ls' h' => kk H locs ls' ws hR hP hD hS (zL.st1 h'))
  | some a => exact lv_astore C.1 C.2.1 hd hL hi rfl (fun ls' h' => kk H locs ls' ws hR hP hD hS (zL.st1 h'))
theorem z_rstore_n (C : zC p s m args meth c cc own nL Γ A) {i : Fin 4} {x : Nat} (hd : decode cc pc = .ok (.astore_n i, 1)) (hi : (i : Nat) < nL) (kk : Z p l e R s m args below meth c Q nL Γ A G k n (pc + 1) (zs1 (i : Nat) (.ref x) lv) st) : Z p l e R s m args below meth c Q nL Γ A G k n pc lv (.ref x :: st) :=
  fun H locs ls ws hR hP hD hS hL => lv_astore_n C.1 C.2.1 hd rfl hL hi rfl (fun ls' h' => kk H locs ls' ws hR hP hD hS (zL.st1 h'))
theorem z_rstore (C : zC p s m args meth c cc own nL Γ A) {i : Nat} {x : Nat} (hd : decode cc pc = .ok (.astore i, 2)) (hi : i < nL) (kk : Z p l e R s m args below meth c Q nL Γ A G k n (pc + 2) (zs1 i (.ref x) lv) st) : Z p l e R s m args below meth c Q nL Γ A G k n pc lv (.ref x :: st) :=
  fun H locs ls ws hR hP hD hS hL => lv_astore C.1 C.2.1 hd hL hi rfl (fun ls' h' => kk H locs ls' ws hR hP hD hS (zL.st1 h'))
theorem z_nstore_n (C : zC p s m args meth c cc own nL Γ A) {i : Fin 4} (hd : decode cc pc = .ok (.astore_n i, 1)) (hi : (i : Nat) < nL) (kk : Z p l e R s m args below meth c Q nL Γ A G k n (pc + 1) (zs1 (i : Nat) .null lv) st) : Z p l e R s m args below meth c Q nL Γ A G k n pc lv (.null :: st) :=
  fun H locs ls ws hR hP hD hS hL => lv_astore_nN C.1 C.2.1 hd rfl hL hi rfl (fun ls' h' => kk H locs ls' ws hR hP hD hS (zL.st1 h'))
theorem z_iinc (C : zC p s m args meth c cc own nL Γ A) {i : Nat} {j : Int} {x w : Int32} (hd : decode cc pc = .ok (.iinc i j, 3)) (hl : zg lv i = some (.int x)) (hw : Int32.ofInt j = w) (hi : i < nL) (kk : Z p l e R s m args below meth c Q nL Γ A G k n (pc + 3) (zs1 i (.int (x + w)) lv) st) : Z p l e R s m args below meth c Q nL Γ A G k n pc lv st := by
  intro H locs ls ws hR hP hD hS hL
  obtain ⟨q, hq⟩ := List.getElem?_of_mem ((zp_mem lv 0 i (.int x)).mpr ⟨Nat.zero_le _, hl⟩)
  exact lv_iinc C.1 C.2.1 hd hL hq (by rw [hw]) hi rfl (fun ls' h' => kk H locs ls' ws hR hP hD hS (zL.st1 h'))
theorem z_iadd (C : zC p s m args meth c cc own nL Γ A) {x y : Int32} (hd : decode cc pc = .ok (.iadd, 1)) (kk : Z p l e R s m args below meth c Q nL Γ A G k n (pc + 1) lv (.int (x + y) :: st)) : Z p l e R s m args below meth c Q nL Γ A G k n pc lv (.int y :: .int x :: st) :=
  fun H locs ls ws hR hP hD hS hL => lv_iadd C.1 C.2.1 hd (kk H locs ls ws hR hP hD hS hL)
theorem z_isub (C : zC p s m args meth c cc own nL Γ A) {x y : Int32} (hd : decode cc pc = .ok (.isub, 1)) (kk : Z p l e R s m args below meth c Q nL Γ A G k n (pc + 1) lv (.int (x - y) :: st)) : Z p l e R s m args below meth c Q nL Γ A G k n pc lv (.int y :: .int x :: st) :=
  fun H locs ls ws hR hP hD hS hL => lv_isub C.1 C.2.1 hd (kk H locs ls ws hR hP hD hS hL)
theorem z_imul (C : zC p s m args meth c cc own nL Γ A) {x y : Int32} (hd : decode cc pc = .ok (.imul, 1)) (kk : Z p l e R s m args below meth c Q nL Γ A G k n (pc + 1) lv (.int (x * y) :: st)) : Z p l e R s m args below meth c Q nL Γ A G k n pc lv (.int y :: .int x :: st) :=
  fun H locs ls ws hR hP hD hS hL => lv_imul C.1 C.2.1 hd (kk H locs ls ws hR hP hD hS hL)
theorem z_idiv (C : zC p s m args meth c cc own nL Γ A) {x y : Int32} (hne : ¬ y = 0) (hd : decode cc pc = .ok (.idiv, 1)) (kk : Z p l e R s m args below meth c Q nL Γ A G k n (pc + 1) lv (.int (x / y) :: st)) : Z p l e R s m args below meth c Q nL Γ A G k n pc lv (.int y :: .int x :: st) :=
  fun H locs ls ws hR hP hD hS hL => lv_idiv C.1 C.2.1 hd hne (kk H locs ls ws hR hP hD hS hL)
theorem z_irem (C : zC p s m args meth c cc own nL Γ A) {x y : Int32} (hne : ¬ y = 0) (hd : decode cc pc = .ok (.irem, 1)) (kk : Z p l e R s m args below meth c Q nL Γ A G k n (pc + 1) lv (.int (x - x / y * y) :: st)) : Z p l e R s m args below meth c Q nL Γ A G k n pc lv (.int y :: .int x :: st) :=
  fun H locs ls ws hR hP hD hS hL => lv_irem C.1 C.2.1 hd hne (kk H locs ls ws hR hP hD hS hL)
theorem z_iand (C : zC p s m args meth c cc own nL Γ A) {x y : Int32} (hd : decode cc pc = .ok (.iand, 1)) (kk : Z p l e R s m args below meth c Q nL Γ A G k n (pc + 1) lv (.int (x &&& y) :: st)) : Z p l e R s m args below meth c Q nL Γ A G k n pc lv (.int y :: .int x :: st) :=
  fun H locs ls ws hR hP hD hS hL => lv_iand C.1 C.2.1 hd (kk H locs ls ws hR hP hD hS hL)
theorem z_ior (C : zC p s m args meth c cc own nL Γ A) {x y : Int32} (hd : decode cc pc = .ok (.ior, 1)) (kk : Z p l e R s m args below meth c Q nL Γ A G k n (pc + 1) lv (.int (x ||| y) :: st)) : Z p l e R s m args below meth c Q nL Γ A G k n pc lv (.int y :: .int x :: st) :=
  fun H locs ls ws hR hP hD hS hL => lv_ior C.1 C.2.1 hd (kk H locs ls ws hR hP hD hS hL)
theorem z_ixor (C : zC p s m args meth c cc own nL Γ A) {x y : Int32} (hd : decode cc pc = .ok (.ixor, 1)) (kk : Z p l e R s m args below meth c Q nL Γ A G k n (pc + 1) lv (.int (x ^^^ y) :: st)) : Z p l e R s m args below meth c Q nL Γ A G k n pc lv (.int y :: .int x :: st) :=
  fun H locs ls ws hR hP hD hS hL => lv_ixor C.1 C.2.1 hd (kk H locs ls ws hR hP hD hS hL)
theorem z_ladd (C : zC p s m args meth c cc own nL Γ A) {x y : Int64} (hd : decode cc pc = .ok (.ladd, 1)) (kk : Z p l e R s m args below meth c Q nL Γ A G k n (pc + 1) lv (.long (x + y) :: st)) : Z p l e R s m args below meth c Q nL Γ A G k n pc lv (.long y :: .long x :: st) :=
  fun H locs ls ws hR hP hD hS hL => lv_ladd C.1 C.2.1 hd (kk H locs ls ws hR hP hD hS hL)
theorem z_lmul (C : zC p s m args meth c cc own nL Γ A) {x y : Int64} (hd : decode cc pc = .ok (.lmul, 1)) (kk : Z p l e R s m args below meth c Q nL Γ A G k n (pc + 1) lv (.long (x * y) :: st)) : Z p l e R s m args below meth c Q nL Γ A G k n pc lv (.long y :: .long x :: st) :=
  fun H locs ls ws hR hP hD hS hL => lv_lmul C.1 C.2.1 hd (kk H locs ls ws hR hP hD hS hL)
theorem z_ldiv (C : zC p s m args meth c cc own nL Γ A) {x y : Int64} (hne : ¬ y = 0) (hd : decode cc pc = .ok (.ldiv, 1)) (kk : Z p l e R s m args below meth c Q nL Γ A G k n (pc + 1) lv (.long (x / y) :: st)) : Z p l e R s m args below meth c Q nL Γ A G k n pc lv (.long y :: .long x :: st) :=
  fun H locs ls ws hR hP hD hS hL => lv_ldiv C.1 C.2.1 hd hne (kk H locs ls ws hR hP hD hS hL)
theorem z_ishl (C : zC p s m args meth c cc own nL Γ A) {x y v : Int32} (hv : x <<< (y &&& 31) = v) (hd : decode cc pc = .ok (.ishl, 1)) (kk : Z p l e R s m args below meth c Q nL Γ A G k n (pc + 1) lv (.int v :: st)) : Z p l e R s m args below meth c Q nL Γ A G k n pc lv (.int y :: .int x :: st) := by
  subst hv
  exact fun H locs ls ws hR hP hD hS hL => lv_ishl C.1 C.2.1 hd (kk H locs ls ws hR hP hD hS hL)
theorem z_ishr (C : zC p s m args meth c cc own nL Γ A) {x y v : Int32} (hv : x >>> (y &&& 31) = v) (hd : decode cc pc = .ok (.ishr, 1)) (kk : Z p l e R s m args below meth c Q nL Γ A G k n (pc + 1) lv (.int v :: st)) : Z p l e R s m args below meth c Q nL Γ A G k n pc lv (.int y :: .int x :: st) := by
  subst hv
  exact fun H locs ls ws hR hP hD hS hL => lv_ishr C.1 C.2.1 hd (kk H locs ls ws hR hP hD hS hL)
theorem z_iushr (C : zC p s m args meth c cc own nL Γ A) {x y v : Int32} (hv : (x.toUInt32 >>> (y.toUInt32 &&& Int32.toUInt32 31)).toInt32 = v) (hd : decode cc pc = .ok (.iushr, 1)) (kk : Z p l e R s m args below meth c Q nL Γ A G k n (pc + 1) lv (.int v :: st)) : Z p l e R s m args below meth c Q nL Γ A G k n pc lv (.int y :: .int x :: st) :=
  fun H locs ls ws hR hP hD hS hL => lv_iushr C.1 C.2.1 hd hv (kk H locs ls ws hR hP hD hS hL)
theorem z_i2l (C : zC p s m args meth c cc own nL Γ A) {x : Int32} (hd : decode cc pc = .ok (.i2l, 1)) (kk : Z p l e R s m args below meth c Q nL Γ A G k n (pc + 1) lv (.long x.toInt64 :: st)) : Z p l e R s m args below meth c Q nL Γ A G k n pc lv (.int x :: st) :=
  fun H locs ls ws hR hP hD hS hL => lv_i2l C.1 C.2.1 hd rfl (kk H locs ls ws hR hP hD hS hL)
theorem z_l2i (C : zC p s m args meth c cc own nL Γ A) {x : Int64} (hd : decode cc pc = .ok (.l2i, 1)) (kk : Z p l e R s m args below meth c Q nL Γ A G k n (pc + 1) lv (.int x.toInt32 :: st)) : Z p l e R s m args below meth c Q nL Γ A G k n pc lv (.long x :: st) :=
  fun H locs ls ws hR hP hD hS hL => lv_l2i C.1 C.2.1 hd rfl (kk H locs ls ws hR hP hD hS hL)
theorem z_i2d (C : zC p s m args meth c cc own nL Γ A) {x : Int32} (hd : decode cc pc = .ok (.i2d, 1)) (kk : Z p l e R s m args below meth c Q nL Γ A G k n (pc + 1) lv (.double (FP.i2d x) :: st)) : Z p l e R s m args below meth c Q nL Γ A G k n pc lv (.int x :: st) :=
  fun H locs ls ws hR hP hD hS hL => lv_i2d C.1 C.2.1 hd (kk H locs ls ws hR hP hD hS hL)
theorem z_l2d (C : zC p s m args meth c cc own nL Γ A) {x : Int64} (hd : decode cc pc = .ok (.l2d, 1)) (kk : Z p l e R s m args below meth c Q nL Γ A G k n (pc + 1) lv (.double (FP.l2d x) :: st)) : Z p l e R s m args below meth c Q nL Γ A G k n pc lv (.long x :: st) :=
  fun H locs ls ws hR hP hD hS hL => lv_l2d C.1 C.2.1 hd (kk H locs ls ws hR hP hD hS hL)
theorem z_ddiv (C : zC p s m args meth c cc own nL Γ A) {x y : UInt64} (hne : vf_n64 (FP.ddiv x y)) (hd : decode cc pc = .ok (.ddiv, 1)) (kk : Z p l e R s m args below meth c Q nL Γ A G k n (pc + 1) lv (.double (FP.ddiv x y) :: st)) : Z p l e R s m args below meth c Q nL Γ A G k n pc lv (.double y :: .double x :: st) :=
  fun H locs ls ws hR hP hD hS hL => lv_ddiv C.1 C.2.1 hd hne (kk H locs ls ws hR hP hD hS hL)
theorem z_dcmp (C : zC p s m args meth c cc own nL Γ A) {x y : UInt64} {op : CmpOp} (hd : decode cc pc = .ok (.dcmp op, 1)) (kk : Z p l e R s m args below meth c Q nL Γ A G k n (pc + 1) lv (.int (Op.cmpValue (FP.dcmp x y) op) :: st)) : Z p l e R s m args below meth c Q nL Γ A G k n pc lv (.double y :: .double x :: st) :=
  fun H locs ls ws hR hP hD hS hL => lv_dcmp C.1 C.2.1 hd (kk H locs ls ws hR hP hD hS hL)
theorem z_dup (C : zC p s m args meth c cc own nL Γ A) {x : Value} (hc : x.category = 1) (hd : decode cc pc = .ok (.dup, 1)) (kk : Z p l e R s m args below meth c Q nL Γ A G k n (pc + 1) lv (x :: x :: st)) : Z p l e R s m args below meth c Q nL Γ A G k n pc lv (x :: st) :=
  fun H locs ls ws hR hP hD hS hL => lv_dup C.1 C.2.1 hd hc (kk H locs ls ws hR hP hD hS hL)
theorem z_pop (C : zC p s m args meth c cc own nL Γ A) {x : Value} (hc : x.category = 1) (hd : decode cc pc = .ok (.pop, 1)) (kk : Z p l e R s m args below meth c Q nL Γ A G k n (pc + 1) lv st) : Z p l e R s m args below meth c Q nL Γ A G k n pc lv (x :: st) :=
  fun H locs ls ws hR hP hD hS hL => lv_pop C.1 C.2.1 hd hc (kk H locs ls ws hR hP hD hS hL)
theorem z_pop2 (C : zC p s m args meth c cc own nL Γ A) {x : Value} (hc : x.category = 2) (hd : decode cc pc = .ok (.pop2, 1)) (kk : Z p l e R s m args below meth c Q nL Γ A G k n (pc + 1) lv st) : Z p l e R s m args below meth c Q nL Γ A G k n pc lv (x :: st) :=
  fun H locs ls ws hR hP hD hS hL => lv_pop2_2 C.1 C.2.1 hd hc (kk H locs ls ws hR hP hD hS hL)
theorem z_dup_x1 (C : zC p s m args meth c cc own nL Γ A) {x y : Value} (hc : x.category = 1) (hc2 : y.category = 1) (hd : decode cc pc = .ok (.dup_x1, 1)) (kk : Z p l e R s m args below meth c Q nL Γ A G k n (pc + 1) lv (x :: y :: x :: st)) : Z p l e R s m args below meth c Q nL Γ A G k n pc lv (x :: y :: st) :=
  fun H locs ls ws hR hP hD hS hL => lv_dup_x1 C.1 C.2.1 hd hc hc2 (kk H locs ls ws hR hP hD hS hL)
theorem z_dup2 (C : zC p s m args meth c cc own nL Γ A) {x y : Value} (hc : x.category = 1) (hc2 : y.category = 1) (hd : decode cc pc = .ok (.dup2, 1)) (kk : Z p l e R s m args below meth c Q nL Γ A G k n (pc + 1) lv (x :: y :: x :: y :: st)) : Z p l e R s m args below meth c Q nL Γ A G k n pc lv (x :: y :: st) :=
  fun H locs ls ws hR hP hD hS hL => lv_dup2_11 C.1 C.2.1 hd hc hc2 (kk H locs ls ws hR hP hD hS hL)
theorem z_null (C : zC p s m args meth c cc own nL Γ A) (hd : decode cc pc = .ok (.aconst_null, 1)) (kk : Z p l e R s m args below meth c Q nL Γ A G k n (pc + 1) lv (.null :: st)) : Z p l e R s m args below meth c Q nL Γ A G k n pc lv st :=
  fun H locs ls ws hR hP hD hS hL => lv_null C.1 C.2.1 hd (kk H locs ls ws hR hP hD hS hL)
theorem z_goto (C : zC p s m args meth c cc own nL Γ A) {off : Int} {tgt : Nat} (hd : decode cc pc = .ok (.goto off, 3)) (ht : (pc : Int) + off = (tgt : Int)) (kk : Z p l e R s m args below meth c Q nL Γ A G k n tgt lv st) : Z p l e R s m args below meth c Q nL Γ A G k n pc lv st :=
  fun H locs ls ws hR hP hD hS hL => lv_goto C.1 C.2.1 hd ht (kk H locs ls ws hR hP hD hS hL)
/-- a reference is null or not -/
theorem z_ifnull (C : zC p s m args meth c cc own nL Γ A) {x : Option Nat} {off : Int} {tgt : Nat} (hd : decode cc pc = .ok (.ifnull off, 3)) (ht : (pc : Int) + off = (tgt : Int)) (k1 : x = none → Z p l e R s m args below meth c Q nL Γ A G k n tgt lv st) (k2 : ∀ a, x = some a → Z p l e R s m args below meth c Q nL Γ A G k n (pc + 3) lv st) : Z p l e R s m args below meth c Q nL Γ A G k n pc lv (va_rf x :: st) := by
  intro H locs ls ws hR hP hD hS hL
  cases x with
  | none => exact lv_ifnullN C.1 C.2.1 hd ht (k1 rfl H locs ls ws hR hP hD hS hL)
  | some a => exact lv_ifnull C.1 C.2.1 hd (k2 a rfl H locs ls ws hR hP hD hS hL)
theorem z_ifnonnull (C : zC p s m args meth c cc own nL Γ A) {x : Option Nat} {off : Int} {tgt : Nat} (hd : decode cc pc = .ok (.ifnonnull off, 3)) (ht : (pc : Int) + off = (tgt : Int)) (k1 : ∀ a, x = some a → Z p l e R s m args below meth c Q nL Γ A G k n tgt lv st) (k2 : x = none → Z p l e R s m args below meth c Q nL Γ A G k n (pc + 3) lv st) : Z p l e R s m args below meth c Q nL Γ A G k n pc lv (va_rf x :: st) := by
  intro H locs ls ws hR hP hD hS hL
  cases x with
  | none => exact lv_ifnonnullN C.1 C.2.1 hd (k2 rfl H locs ls ws hR hP hD hS hL)
  | some a => exact lv_ifnonnull C.1 C.2.1 hd ht (k1 a rfl H locs ls ws hR hP hD hS hL)
theorem z_acmp_eq (C : zC p s m args meth c cc own nL Γ A) {x y : Nat} {off : Int} {tgt : Nat} (hd : decode cc pc = .ok (.if_acmp .eq off, 3)) (ht : (pc : Int) + off = (tgt : Int)) (k1 : x = y → Z p l e R s m args below meth c Q nL Γ A G k n tgt lv st) (k2 : ¬ x = y → Z p l e R s m args below meth c Q nL Γ A G k n (pc + 3) lv st) : Z p l e R s m args below meth c Q nL Γ A G k n pc lv (.ref y :: .ref x :: st) :=
  fun H locs ls ws hR hP hD hS hL => lv_acmp_eq (rx := some x) (ry := some y) C.1 C.2.1 hd ht (fun h => k1 (Option.some.inj h) H locs ls ws hR hP hD hS hL) (fun h => k2 (fun z => h (congrArg some z)) H locs ls ws hR hP hD hS hL)
theorem z_acmp_ne (C : zC p s m args meth c cc own nL Γ A) {x y : Nat} {off : Int} {tgt : Nat} (hd : decode cc pc = .ok (.if_acmp .ne off, 3)) (ht : (pc : Int) + off = (tgt : Int)) (k1 : ¬ x = y → Z p l e R s m args below meth c Q nL Γ A G k n tgt lv st) (k2 : x = y → Z p l e R s m args below meth c Q nL Γ A G k n (pc + 3) lv st) : Z p l e R s m args below meth c Q nL Γ A G k n pc lv (.ref y :: .ref x :: st) :=
  fun H locs ls ws hR hP hD hS hL => lv_acmp_ne (rx := some x) (ry := some y) C.1 C.2.1 hd ht (fun h => k1 (fun z => h (congrArg some z)) H locs ls ws hR hP hD hS hL) (fun h => k2 (Option.some.inj h) H locs ls ws hR hP hD hS hL)
theorem z_if_eq (C : zC p s m args meth c cc own nL Γ A) {x : Int32} {off : Int} {tgt : Nat} (hd : decode cc pc = .ok (.ifCond .eq off, 3)) (ht : (pc : Int) + off = (tgt : Int)) (k1 : x = 0 → Z p l e R s m args below meth c Q nL Γ A G k n tgt lv st) (k2 : ¬ x = 0 → Z p l e R s m args below meth c Q nL Γ A G k n (pc + 3) lv st) : Z p l e R s m args below meth c Q nL Γ A G k n pc lv (.int x :: st) :=
  fun H locs ls ws hR hP hD hS hL => lv_if_eq C.1 C.2.1 hd ht (fun h => k1 h H locs ls ws hR hP hD hS hL) (fun h => k2 h H locs ls ws hR hP hD hS hL)
theorem z_icmp_eq (C : zC p s m args meth c cc own nL Γ A) {x y : Int32} {off : Int} {tgt : Nat} (hd : decode cc pc = .ok (.if_icmp .eq off, 3)) (ht : (pc : Int) + off = (tgt : Int)) (k1 : x = y → Z p l e R s m args below meth c Q nL Γ A G k n tgt lv st) (k2 : ¬ x = y → Z p l e R s m args below meth c Q nL Γ A G k n (pc + 3) lv st) : Z p l e R s m args below meth c Q nL Γ A G k n pc lv (.int y :: .int x :: st) :=
  fun H locs ls ws hR hP hD hS hL => lv_icmp_eq C.1 C.2.1 hd ht (fun h => k1 h H locs ls ws hR hP hD hS hL) (fun h => k2 h H locs ls ws hR hP hD hS hL)
theorem z_if_ne (C : zC p s m args meth c cc own nL Γ A) {x : Int32} {off : Int} {tgt : Nat} (hd : decode cc pc = .ok (.ifCond .ne off, 3)) (ht : (pc : Int) + off = (tgt : Int)) (k1 : ¬ x = 0 → Z p l e R s m args below meth c Q nL Γ A G k n tgt lv st) (k2 : x = 0 → Z p l e R s m args below meth c Q nL Γ A G k n (pc + 3) lv st) : Z p l e R s m args below meth c Q nL Γ A G k n pc lv (.int x :: st) :=
  fun H locs ls ws hR hP hD hS hL => lv_if_ne C.1 C.2.1 hd ht (fun h => k1 h H locs ls ws hR hP hD hS hL) (fun h => k2 h H locs ls ws hR hP hD hS hL)
theorem z_icmp_ne (C : zC p s m args meth c cc own nL Γ A) {x y : Int32} {off : Int} {tgt : Nat} (hd : decode cc pc = .ok (.if_icmp .ne off, 3)) (ht : (pc : Int) + off = (tgt : Int)) (k1 : ¬ x = y → Z p l e R s m args below meth c Q nL Γ A G k n tgt lv st) (k2 : x = y → Z p l e R s m args below meth c Q nL Γ A G k n (pc + 3) lv st) : Z p l e R s m args below meth c Q nL Γ A G k n pc lv (.int y :: .int x :: st) :=
  fun H locs ls ws hR hP hD hS hL => lv_icmp_ne C.1 C.2.1 hd ht (fun h => k1 h H locs ls ws hR hP hD hS hL) (fun h => k2 h H locs ls ws hR hP hD hS hL)
theorem z_if_lt (C : zC p s m args meth c cc own nL Γ A) {x : Int32} {off : Int} {tgt : Nat} (hd : decode cc pc = .ok (.ifCond .lt off, 3)) (ht : (pc : Int) + off = (tgt : Int)) (k1 : x < 0 → Z p l e R s m args below meth c Q nL Γ A G k n tgt lv st) (k2 : ¬ x < 0 → Z p l e R s m args below meth c Q nL Γ A G k n (pc + 3) lv st) : Z p l e R s m args below meth c Q nL Γ A G k n pc lv (.int x :: st) :=
  fun H locs ls ws hR hP hD hS hL => lv_if_lt C.1 C.2.1 hd ht (fun h => k1 h H locs ls ws hR hP hD hS hL) (fun h => k2 h H locs ls ws hR hP hD hS hL)
theorem z_icmp_lt (C : zC p s m args meth c cc own nL Γ A) {x y : Int32} {off : Int} {tgt : Nat} (hd : decode cc pc = .ok (.if_icmp .lt off, 3)) (ht : (pc : Int) + off = (tgt : Int)) (k1 : x < y → Z p l e R s m args below meth c Q nL Γ A G k n tgt lv st) (k2 : ¬ x < y → Z p l e R s m args below meth c Q nL Γ A G k n (pc + 3) lv st) : Z p l e R s m args below meth c Q nL Γ A G k n pc lv (.int y :: .int x :: st) :=
  fun H locs ls ws hR hP hD hS hL => lv_icmp_lt C.1 C.2.1 hd ht (fun h => k1 h H locs ls ws hR hP hD hS hL) (fun h => k2 h H locs ls ws hR hP hD hS hL)
theorem z_if_ge (C : zC p s m args meth c cc own nL Γ A) {x : Int32} {off : Int} {tgt : Nat} (hd : decode cc pc = .ok (.ifCond .ge off, 3)) (ht : (pc : Int) + off = (tgt : Int)) (k1 : 0 ≤ x → Z p l e R s m args below meth c Q nL Γ A G k n tgt lv st) (k2 : ¬ 0 ≤ x → Z p l e R s m args below meth c Q nL Γ A G k n (pc + 3) lv st) : Z p l e R s m args below meth c Q nL Γ A G k n pc lv (.int x :: st) :=
  fun H locs ls ws hR hP hD hS hL => lv_if_ge C.1 C.2.1 hd ht (fun h => k1 h H locs ls ws hR hP hD hS hL) (fun h => k2 h H locs ls ws hR hP hD hS hL)
theorem z_icmp_ge (C : zC p s m args meth c cc own nL Γ A) {x y : Int32} {off : Int} {tgt : Nat} (hd : decode cc pc = .ok (.if_icmp .ge off, 3)) (ht : (pc : Int) + off = (tgt : Int)) (k1 : y ≤ x → Z p l e R s m args below meth c Q nL Γ A G k n tgt lv st) (k2 : ¬ y ≤ x → Z p l e R s m args below meth c Q nL Γ A G k n (pc + 3) lv st) : Z p l e R s m args below meth c Q nL Γ A G k n pc lv (.int y :: .int x :: st) :=
  fun H locs ls ws hR hP hD hS hL => lv_icmp_ge C.1 C.2.1 hd ht (fun h => k1 h H locs ls ws hR hP hD hS hL) (fun h => k2 h H locs ls ws hR hP hD hS hL)
theorem z_if_gt (C : zC p s m args meth c cc own nL Γ A) {x : Int32} {off : Int} {tgt : Nat} (hd : decode cc pc = .ok (.ifCond .gt off, 3)) (ht : (pc : Int) + off = (tgt : Int)) (k1 : 0 < x → Z p l e R s m args below meth c Q nL Γ A G k n tgt lv st) (k2 : ¬ 0 < x → Z p l e R s m args below meth c Q nL Γ A G k n (pc + 3) lv st) : Z p l e R s m args below meth c Q nL Γ A G k n pc lv (.int x :: st) :=
  fun H locs ls ws hR hP hD hS hL => lv_if_gt C.1 C.2.1 hd ht (fun h => k1 h H locs ls ws hR hP hD hS hL) (fun h => k2 h H locs ls ws hR hP hD hS hL)
theorem z_icmp_gt (C : zC p s m args meth c cc own nL Γ A) {x y : Int32} {off : Int} {tgt : Nat} (hd : decode cc pc = .ok (.if_icmp .gt off, 3)) (ht : (pc : Int) + off = (tgt : Int)) (k1 : y < x → Z p l e R s m args below meth c Q nL Γ A G k n tgt lv st) (k2 : ¬ y < x → Z p l e R s m args below meth c Q nL Γ A G k n (pc + 3) lv st) : Z p l e R s m args below meth c Q nL Γ A G k n pc lv (.int y :: .int x :: st) :=
  fun H locs ls ws hR hP hD hS hL => lv_icmp_gt C.1 C.2.1 hd ht (fun h => k1 h H locs ls ws hR hP hD hS hL) (fun h => k2 h H locs ls ws hR hP hD hS hL)
theorem z_if_le (C : zC p s m args meth c cc own nL Γ A) {x : Int32} {off : Int} {tgt : Nat} (hd : decode cc pc = .ok (.ifCond .le off, 3)) (ht : (pc : Int) + off = (tgt : Int)) (k1 : x ≤ 0 → Z p l e R s m args below meth c Q nL Γ A G k n tgt lv st) (k2 : ¬ x ≤ 0 → Z p l e R s m args below meth c Q nL Γ A G k n (pc + 3) lv st) : Z p l e R s m args below meth c Q nL Γ A G k n pc lv (.int x :: st) :=
  fun H locs ls ws hR hP hD hS hL => lv_if_le C.1 C.2.1 hd ht (fun h => k1 h H locs ls ws hR hP hD hS hL) (fun h => k2 h H locs ls ws hR hP hD hS hL)
theorem z_icmp_le (C : zC p s m args meth c cc own nL Γ A) {x y : Int32} {off : Int} {tgt : Nat} (hd : decode cc pc = .ok (.if_icmp .le off, 3)) (ht : (pc : Int) + off = (tgt : Int)) (k1 : x ≤ y → Z p l e R s m args below meth c Q nL Γ A G k n tgt lv st) (k2 : ¬ x ≤ y → Z p l e R s m args below meth c Q nL Γ A G k n (pc + 3) lv st) : Z p l e R s m args below meth c Q nL Γ A G k n pc lv (.int y :: .int x :: st) :=
  fun H locs ls ws hR hP hD hS hL => lv_icmp_le C.1 C.2.1 hd ht (fun h => k1 h H locs ls ws hR hP hD hS hL) (fun h => k2 h H locs ls ws hR hP hD hS hL)
theorem z_lcmp (C : zC p s m args meth c cc own nL Γ A) {x y : Int64} (hd : decode cc pc = .ok (.lcmp, 1)) (kk : Z p l e R s m args below meth c Q nL Γ A G k n (pc + 1) lv (.int (lg_cmp x y) :: st)) : Z p l e R s m args below meth c Q nL Γ A G k n pc lv (.long y :: .long x :: st) :=
  fun H locs ls ws hR hP hD hS hL => W.lcmp C.1 C.2.1 hd (kk H locs ls ws hR hP hD hS hL)
end ZZ
