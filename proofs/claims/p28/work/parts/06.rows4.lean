/-! OWN ROWS, fourth part: methods that return or throw, and the catching of what they throw -/
def zXC (px : String → zG → Prop) (Γ : zY) (G : zG) (sz : Nat) : String → State → State → Prop := fun E st t =>
  (∃ (G' : zG) (ws' : va_W), px E G' ∧ zR G' ws' ∧ va_P Γ.1 zCl ws' t.heap ∧ va_D (zA G sz) ws') ∧ va_F (zA G sz) st t
/-- a contract with throws -/
def ZX (l : Launch) (y : MethodName) (cb : ByteArray) (n : Nat) (ret : Option FieldType) (rm : Room) (Γ : zY) (av : List Value) (G : zG) (post : Option Value → zG → Prop) (px : String → zG → Prop) : Prop :=
  ∀ sz : Nat, vx_Met l y (zws y cb n ret) rm (va_Pc av (zB Γ G sz)) (zQ post Γ G sz) (zXC px Γ G sz) rm.cells rm.slots (zA G sz)
def zFX (post : Option Value → zG → Prop) (px : String → zG → Prop) (Γ : zY) (G0 : zG) (Q : State → Prop) (A : Nat → Prop) (below : List Frame) (args : Array Value) (s : State) (mc ms : Nat) : Prop :=
  Q = vx_MQ below (zQ post Γ G0 s.heap.size) (zXC px Γ G0 s.heap.size) args s mc ms (zA G0 s.heap.size) ∧ A = zA G0 s.heap.size
theorem z_startX {l : Launch} {y : MethodName} {cb : ByteArray} {n : Nat} {ret : Option FieldType} {rm : Room} {Γ : zY} {av : List Value} {G : zG} {post : Option Value → zG → Prop} {px : String → zG → Prop} (hy : plainName y.cls = true) (lv0 : List (Option Value)) (hlv : zp 0 lv0 = lv_args 0 av) (hlen : (lg_sl av).length ≤ n)
    (kk : ∀ (p : Program) (e : Env) (s : State) (m : MethodId) (args : Array Value) (below : List Frame) (meth : Method) (c : Code) (Q : State → Prop) (A : Nat → Prop), zC p s m args meth c cb y.cls n Γ A → zFX post px Γ G Q A below args s rm.cells rm.slots → (∀ x ∈ c.exceptionTable.toList, False) → meth.sig.returnType = ret → meth.name = y.name →
      Z p l e rm s m args below meth c Q n Γ A G 0 0 0 lv0 []) : ZX l y cb n ret rm Γ av G post px := by
  intro sz
  refine vx_ofW (cc := cb) (maxL := n) (ret := ret) hy rfl ?_
  intro p e s m args below meth c s₁ B hml ht hv
  obtain ⟨rfl, rfl, ⟨ws, hR, hP, hD⟩, hK, hE, hN⟩ := hv
  have hts := atoms_spec (ws := zws y cb n ret) B.pre
  have hl := lv_entry av (n := n) hlen
  rw [lg_entry_eq]
  generalize (lg_sl av ++ List.replicate (n - (lg_sl av).length) Slot.unset).toArray = ls at hl ⊢
  exact kk p e s m av.toArray below meth c _ (zA G s.heap.size) ⟨B.exec, B.bytes, hml, findClass_of_methodNamed B.named, fun w h => hts w (List.mem_cons_of_mem _ h), hK, B.notSynchronized, fun q h => Or.inr h, hE, hN⟩ ⟨rfl, rfl⟩ ht B.returns (name_of_methodNamed B.named B.method).1
    s.heap [] ls ws hR hP (hD.weaken (fun k q hk _ => Or.inl ⟨q.2, (hR q.1 q.2).mpr (List.mem_of_getElem? hk)⟩)) va_S.rf (by unfold zL; rw [hlv]; exact hl)
section ZXX
variable {p : Program} {l : Launch} {e : Env} {R : Room} {s : State} {m : MethodId} {args : Array Value} {below : List Frame} {meth : Method} {c : Code} {Q : State → Prop} {A : Nat → Prop} {nL : Nat} {Γ : zY} {G G0 : zG} {k n pc mc ms : Nat} {lv : List (Option Value)} {st : List Value} {cc : ByteArray} {own : String} {post : Option Value → zG → Prop} {px : String → zG → Prop}
/-- from here on it returns -/
theorem z_x (F : zFX post px Γ G0 Q A below args s mc ms) (kk : ∀ Q', zF post Γ G0 Q' A below args s mc ms → Z p l e R s m args below meth c Q' nL Γ A G k n pc lv st) : Z p l e R s m args below meth c Q nL Γ A G k n pc lv st := by
  obtain ⟨rfl, rfl⟩ := F
  exact fun H locs ls ws hR hP hD hS hL => vx_ret (kk _ ⟨rfl, rfl⟩ H locs ls ws hR hP hD hS hL)
/-- the words of a throw -/
def zThrow (own cls text : String) (names : List String) (ik is ic : Nat) : Prop :=
  Bundle.fit cls = true ∧ (∀ n ∈ names, Bundle.fit n = true) ∧ (∀ w ∈ Cond.classLink own ik cls :: Cond.initialized cls :: vx_atS own ic cls names, vx_ot w = true) ∧ (own, is, text) ∈ lw_strs ∧
  (∀ w ∈ (Cond.classLink own ik cls :: Cond.initialized cls :: vx_atS own ic cls names).filter goodWord, w ∈ lw_all) ∧ (∀ w ∈ (Cond.classLink own ik cls :: Cond.initialized cls :: vx_atS own ic cls names).filter (fun w => !goodWord w), w ∈ lw_nest)
theorem z_throw (C : zC p s m args meth c cc own nL Γ A) (F : zFX post px Γ G0 Q A below args s mc ms) (hT : ∀ x ∈ c.exceptionTable.toList, False) (hl : l.stackTraces = false) {cls text : String} {names : List String} {ik is ic : Nat} (hw : zThrow own cls text names ik is ic)
    (d0 : decode cc pc = .ok (.new ik, 3)) (d3 : decode cc (pc + 3) = .ok (.dup, 1)) (d4 : decode cc (pc + 4) = .ok (.ldc is, 2)) (d6 : decode cc (pc + 6) = .ok (.invokespecial ic, 3)) (d9 : decode cc (pc + 9) = .ok (.athrow, 1))
    (hfr : names.length + 3 < R.frames) (hlo : (st.map fun v => v.category).sum + (13 * (names.length + 1) + 43) ≤ R.locals) (hk : k + 1 ≤ R.cells) (hn : n + 6 ≤ R.slots) (hc : k + 1 ≤ mc) (hs : n + 6 ≤ ms) (hp : px cls G) :
    Z p l e R s m args below meth c Q nL Γ A G k n pc lv st := by
  obtain ⟨rfl, rfl⟩ := F
  obtain ⟨w1, w2, w3, w4, w5, w6⟩ := hw
  intro H locs ls ws hR hP hD hS hL
  obtain ⟨sa, hsa⟩ := C.2.2.2.2.2.2.2.2.2.2.1 _ w4
  have hall : ∀ w ∈ Cond.classLink own ik cls :: Cond.initialized cls :: vx_atS own ic cls names, w.before args s = true := by
    intro w hw
    by_cases g : goodWord w = true
    · exact C.2.2.2.2.1 _ (w5 w (List.mem_filter.mpr ⟨hw, g⟩))
    · have h1 := w6 w (List.mem_filter.mpr ⟨hw, by simpa using g⟩)
      have h2 := lw_nest_ok w h1
      have h3 := C.2.2.2.2.2.2.2.2.2.1 w h1
      cases w <;> first | exact va_Nw.use rfl h3 | (cases h2; done)
  refine vx_throwS C.1 C.2.1 hl C.2.2.2.1 w1 w2 (hall _ List.mem_cons_self) (hall _ (List.mem_cons_of_mem _ List.mem_cons_self)) hsa (fun w h => hall w (List.mem_cons_of_mem _ (List.mem_cons_of_mem _ h))) w3
    C.2.2.2.2.2.2.2.2.1.2.2.2.2.1 C.2.2.2.2.2.2.2.2.1.2.2.2.2.2 hS (hL.1.trans C.2.2.1.symm) d0 d3 d4 d6 d9 (fun x hx => (hT x hx).elim) hfr hlo hk hn C.2.2.2.2.2.2.1 ?_ hS.2.2 hc hs
  intro t hA hz hkp
  refine ⟨⟨G, ws, hp, hR, hP.kept (fun k0 q0 hk0 => hkp q0.1 (hP k0 q0 hk0).lt), hD⟩, Nat.le_trans hS.1 hz, fun q h1 h2 => ?_⟩
  rw [hkp q (Nat.lt_of_lt_of_le h1 hS.1)]
  exact hS.2.1 q h1 h2
/-- an exception of the class E stands over this frame, at pc -/
def ZT (p : Program) (l : Launch) (e : Env) (R : Room) (s : State) (m : MethodId) (args : Array Value) (below : List Frame) (meth : Method) (c : Code) (Q : State → Prop) (nL : Nat) (Γ : zY) (A : Nat → Prop) (G : zG) (k n pc : Nat) (lv : List (Option Value)) (st : List Value) (E : String) : Prop :=
  ∀ (H : Heap) (locs : List Loc) (ls : Array Slot) (ws : va_W) (q : Addr) (ce : Cell), zR G ws → va_P Γ.1 zCl ws H → va_D A ws → va_S A s.heap H locs → zL ls nL lv → H[q]? = some ce → ce.vm = .none → s.vm.findClass E = some ce.cls → vx_W p l e R s m args below meth c H locs k n Q (F0 m pc ls st) q
theorem z_out (C : zC p s m args meth c cc own nL Γ A) (F : zFX post px Γ G0 Q A below args s mc ms) (hT : ∀ x ∈ c.exceptionTable.toList, False) {E : String} (hk : k ≤ mc) (hn : n ≤ ms) (hp : px E G) : ZT p l e R s m args below meth c Q nL Γ A G k n pc lv st E := by
  obtain ⟨rfl, rfl⟩ := F
  intro H locs ls ws q ce hR hP hD hS hL hq hv hcl
  exact vx_out (fun x hx => (hT x hx).elim) C.2.2.2.2.2.2.1 hq hv hcl (fun t ht _ => ⟨⟨G, ws, hp, hR, by rw [ht]; exact hP, hD⟩, hS.F ht⟩) hS.2.2 hk hn
/-- behind a call that returns or throws -/
theorem z_backX {H : Heap} {locs : List Loc} {ls : Array Slot} {st0 : List Value} {mc ms : Nat} {a : Array Value} {post : Option Value → zG → Prop} {px : String → zG → Prop} (hr : vx_Run p l e R s m args below meth c H locs k n mc ms (F0 m pc ls st0) st ((zQ post Γ G H.size) a) (zXC px Γ G H.size) (zA G H.size)) (hS : va_S A s.heap H locs) (hA : ∀ q, zA G H.size q → A q)
    (kx : ∀ (E : String) (G' : zG) (H1 : Heap) (locs1 : List Loc) (ws' : va_W) (q : Addr) (ce : Cell), px E G' → zR G' ws' → va_P Γ.1 zCl ws' H1 → va_D A ws' → va_S A s.heap H1 locs1 → H1[q]? = some ce → ce.vm = .none → s.vm.findClass E = some ce.cls → vx_W p l e R s m args below meth c H1 locs1 (k + mc) (n + ms) Q (F0 m pc ls st) q)
    (kk : ∀ (v : Option Value) (G' : zG) (H1 : Heap) (locs1 : List Loc) (ws' : va_W), post v G' → zR G' ws' → va_P Γ.1 zCl ws' H1 → va_D A ws' → va_S A s.heap H1 locs1 → W p l e R s m args below meth c H1 locs1 (k + mc) (n + ms) Q (F0 m (pc + 3) ls (v.toList ++ st))) : W p l e R s m args below meth c H locs k n Q (F0 m pc ls st0) := by
  intro T hT X
  rcases hr T hT X with ⟨v, st₀, t, T', L, h0, X', hL, e1, e2, ⟨⟨v', G', ws', hv, hp, hR', hP', hD'⟩, hz, hk⟩, sp⟩ | ⟨q, st₀, t, T', L, E, ce, h0, X', hL, e1, e2, ⟨⟨G', ws', hp, hR', hP', hD'⟩, hz, hk⟩, hce, hcv, hcl, sp⟩
  · cases hv
    rw [h0] at hz hk
    obtain ⟨t2, a1, b1⟩ := kk v G' T'.heap (locs ++ L) ws' hp hR' (by rw [e1]; exact hP') (hD'.weaken (fun _ q _ h => hA q.1 h))
      ⟨Nat.le_trans hS.1 (by rw [e1]; exact hz), fun q h1 h2 => by rw [e1, hk q (Nat.lt_of_lt_of_le h1 hS.1) (fun z => h2 (hA q z))]; exact hS.2.1 q h1 h2, fun q hq => by
        rcases List.mem_append.mp hq with h | h
        · exact hS.2.2 q h
        · exact hA _ (hL q h)⟩ T' rfl X'
    exact ⟨t2, sp t2 a1, b1⟩
  · rw [h0] at hz hk
    obtain ⟨t2, a1, b1⟩ := kx E G' T'.heap (locs ++ L) ws' q ce hp hR' (by rw [e1]; exact hP') (hD'.weaken (fun _ q _ h => hA q.1 h))
      ⟨Nat.le_trans hS.1 (by rw [e1]; exact hz), fun q h1 h2 => by rw [e1, hk q (Nat.lt_of_lt_of_le h1 hS.1) (fun z => h2 (hA q z))]; exact hS.2.1 q h1 h2, fun q hq => by
        rcases List.mem_append.mp hq with h | h
        · exact hS.2.2 q h
        · exact hA _ (hL q h)⟩ (by rw [e1]; exact hce) hcv hcl T' rfl X'
    exact ⟨t2, sp.trans a1, b1⟩
theorem z_callVX (C : zC p s m args meth c cc own nL Γ A) {y : MethodName} {cb : ByteArray} {mL ix b ci : Nat} {ret : Option FieldType} {rm : Room} {As : List Value} {post : Option Value → zG → Prop} {px : String → zG → Prop} {fs : List Value} {q : vw_C} {stk : List Value} (hM : ZX l y cb mL ret rm Γ (.ref b :: As) G post px)
    (hw : ∀ w ∈ ([Cond.methodLink own ix y, Cond.instanceMethod y, Cond.selects q.1 y y, Cond.initialized q.1, Cond.code y cb mL ret] : List Cond), w ∈ lw_all) (hG : G b = some (.inr (ci, fs))) (hc : zCl[ci]? = some q) (hst : stk = As.reverse ++ .ref b :: st)
    {nA : Nat} (hA : As.length = nA) (hyq : y.cls = q.1) (hy : y.cls ≠ "java/lang/invoke/MethodHandle" ∧ y.cls ≠ "java/lang/invoke/VarHandle" ∧ (parseMethodDescriptor y.desc).map (fun d => d.parameters.length) = some nA) (hrm : rm.frames + 1 ≤ R.frames ∧ 8 + (mL + 11) + rm.locals ≤ R.locals) (hsum : (st.map fun v => v.category).sum ≤ 8) (hroom : k + rm.cells ≤ R.cells ∧ n + rm.slots ≤ R.slots) (hd : decode cc pc = .ok (.invokevirtual ix, 3))
    (kx : ∀ E G', px E G' → ZT p l e R s m args below meth c Q nL Γ A G' (k + rm.cells) (n + rm.slots) pc lv st E)
    (kk : ∀ v G', post v G' → Z p l e R s m args below meth c Q nL Γ A G' (k + rm.cells) (n + rm.slots) (pc + 3) lv (v.toList ++ st)) : Z p l e R s m args below meth c Q nL Γ A G k n pc lv stk := by
  intro H locs ls ws hR hP hD hS hL
  obtain ⟨k0, hk0⟩ := hR.mem hG
  have g : GoodIn lw_all (wsV own ix q.1 y (zws y cb mL ret)) := by
    intro w h
    unfold wsV at h
    rcases List.mem_append.mp h with h | h
    · exact z_goods hw w (by simp only [List.mem_cons, List.not_mem_nil, or_false] at h ⊢; rcases h with h | h | h | h <;> simp [h])
    · rcases List.mem_cons.mp h with h | h
      · exact z_goods hw w (by simp [h])
      · exact z_good w h
  exact z_backX (vx_runV (As := As) (rest := st) ⟨C.1, C.2.1, C.2.2.1, C.2.2.2.1, C.2.2.2.2.1⟩ (hM H.size) (cwV nA C.2.2.2.2.1 g rfl rfl rfl ⟨hyq, hy⟩ hrm) ⟨zB.blind, va_recv C.2.2.2.2.2.1 hP hc hk0, z_pre C hR hP hD hS⟩ rfl hA hL.1 hst (lv_room hsum) hd hroom) hS (z_zA C hR hD hS)
    (fun E G' H1 locs1 ws' q' ce hp hR' hP' hD' hS' hq hv hcl => kx E G' hp H1 locs1 ls ws' q' ce hR' hP' hD' hS' hL hq hv hcl)
    (fun v G' H1 locs1 ws' hp hR' hP' hD' hS' => kk v G' hp H1 locs1 ls ws' hR' hP' hD' hS' hL)
theorem z_callSX (C : zC p s m args meth c cc own nL Γ A) {y : MethodName} {cb : ByteArray} {mL ix : Nat} {ret : Option FieldType} {rm : Room} {As : List Value} {post : Option Value → zG → Prop} {px : String → zG → Prop} {stk : List Value} (hM : ZX l y cb mL ret rm Γ As G post px)
    (hw : ∀ w ∈ ([Cond.methodLink own ix y, Cond.static y, Cond.initialized y.cls, Cond.code y cb mL ret] : List Cond), w ∈ lw_all) (hst : stk = As.reverse ++ st)
    {nA : Nat} (hA : As.length = nA) (hy : y.cls ≠ "java/lang/invoke/MethodHandle" ∧ y.cls ≠ "java/lang/invoke/VarHandle" ∧ (parseMethodDescriptor y.desc).map (fun d => d.parameters.length) = some nA) (hrm : rm.frames + 1 ≤ R.frames ∧ 8 + (mL + 11) + rm.locals ≤ R.locals) (hsum : (st.map fun v => v.category).sum ≤ 8) (hroom : k + rm.cells ≤ R.cells ∧ n + rm.slots ≤ R.slots) (hd : decode cc pc = .ok (.invokestatic ix, 3))
    (kx : ∀ E G', px E G' → ZT p l e R s m args below meth c Q nL Γ A G' (k + rm.cells) (n + rm.slots) pc lv st E)
    (kk : ∀ v G', post v G' → Z p l e R s m args below meth c Q nL Γ A G' (k + rm.cells) (n + rm.slots) (pc + 3) lv (v.toList ++ st)) : Z p l e R s m args below meth c Q nL Γ A G k n pc lv stk := by
  intro H locs ls ws hR hP hD hS hL
  have g : GoodIn lw_all (va_wsS own ix y (zws y cb mL ret)) := by
    intro w h
    unfold va_wsS at h
    rcases List.mem_append.mp h with h | h
    · exact z_goods hw w (by simp only [List.mem_cons, List.not_mem_nil, or_false] at h ⊢; rcases h with h | h | h <;> simp [h])
    · rcases List.mem_cons.mp h with h | h
      · exact z_goods hw w (by simp [h])
      · exact z_good w h
  exact z_backX (vx_runS (As := As) (rest := st) ⟨C.1, C.2.1, C.2.2.1, C.2.2.2.1, C.2.2.2.2.1⟩ (hM H.size) (va_cwS nA C.2.2.2.2.1 g rfl rfl rfl hy hrm) ⟨zB.blind, z_pre C hR hP hD hS⟩ rfl hA hL.1 hst (lv_room hsum) hd hroom) hS (z_zA C hR hD hS)
    (fun E G' H1 locs1 ws' q' ce hp hR' hP' hD' hS' hq hv hcl => kx E G' hp H1 locs1 ls ws' q' ce hR' hP' hD' hS' hL hq hv hcl)
    (fun v G' H1 locs1 ws' hp hR' hP' hD' hS' => kk v G' hp H1 locs1 ls ws' hR' hP' hD' hS' hL)
end ZXX
section ZXH
variable {p : Program} {l : Launch} {e : Env} {R : Room} {s : State} {m : MethodId} {args : Array Value} {below : List Frame} {meth : Method} {c : Code} {Q : State → Prop} {A : Nat → Prop} {nL : Nat} {Γ : zY} {G G0 : zG} {k n pc mc ms : Nat} {lv : List (Option Value)} {st : List Value} {cc : ByteArray} {own : String} {post : Option Value → zG → Prop} {px : String → zG → Prop}
theorem z_throwW (C : zC p s m args meth c cc own nL Γ A) (F : zFX post px Γ G0 Q A below args s mc ms) (hT : ∀ x ∈ c.exceptionTable.toList, False) (hl : l.stackTraces = false) {cls text : String} {names : List String} {ik is ic : Nat} (hw : zThrow own cls text names ik is ic)
    (d0 : decode cc pc = .ok (.new ik, 3)) (d3 : decode cc (pc + 3) = .ok (.dup, 1)) (d4 : decode cc (pc + 4) = .ok (.ldc_w is, 3)) (d7 : decode cc (pc + 7) = .ok (.invokespecial ic, 3)) (d10 : decode cc (pc + 10) = .ok (.athrow, 1))
    (hfr : names.length + 3 < R.frames) (hlo : (st.map fun v => v.category).sum + (13 * (names.length + 1) + 43) ≤ R.locals) (hk : k + 1 ≤ R.cells) (hn : n + 6 ≤ R.slots) (hc : k + 1 ≤ mc) (hs : n + 6 ≤ ms) (hp : px cls G) :
    Z p l e R s m args below meth c Q nL Γ A G k n pc lv st := by
  obtain ⟨rfl, rfl⟩ := F
  obtain ⟨w1, w2, w3, w4, w5, w6⟩ := hw
  intro H locs ls ws hR hP hD hS hL
  obtain ⟨sa, hsa⟩ := C.2.2.2.2.2.2.2.2.2.2.1 _ w4
  have hall : ∀ w ∈ Cond.classLink own ik cls :: Cond.initialized cls :: vx_atS own ic cls names, w.before args s = true := by
    intro w hw
    by_cases g : goodWord w = true
    · exact C.2.2.2.2.1 _ (w5 w (List.mem_filter.mpr ⟨hw, g⟩))
    · have h1 := w6 w (List.mem_filter.mpr ⟨hw, by simpa using g⟩)
      have h2 := lw_nest_ok w h1
      have h3 := C.2.2.2.2.2.2.2.2.2.1 w h1
      cases w <;> first | exact va_Nw.use rfl h3 | (cases h2; done)
  refine vx_throwSW C.1 C.2.1 hl C.2.2.2.1 w1 w2 (hall _ List.mem_cons_self) (hall _ (List.mem_cons_of_mem _ List.mem_cons_self)) hsa (fun w h => hall w (List.mem_cons_of_mem _ (List.mem_cons_of_mem _ h))) w3
    C.2.2.2.2.2.2.2.2.1.2.2.2.2.1 C.2.2.2.2.2.2.2.2.1.2.2.2.2.2 hS (hL.1.trans C.2.2.1.symm) d0 d3 d4 d7 d10 (fun x hx => (hT x hx).elim) hfr hlo hk hn C.2.2.2.2.2.2.1 ?_ hS.2.2 hc hs
  intro t hA hz hkp
  refine ⟨⟨G, ws, hp, hR, hP.kept (fun k0 q0 hk0 => hkp q0.1 (hP k0 q0 hk0).lt), hD⟩, Nat.le_trans hS.1 hz, fun q h1 h2 => ?_⟩
  rw [hkp q (Nat.lt_of_lt_of_le h1 hS.1)]
  exact hS.2.1 q h1 h2
/-- a method with a table of its own, that returns -/
def ZH (l : Launch) (y : MethodName) (cb : ByteArray) (n : Nat) (ret : Option FieldType) (hh : List (Nat × Nat × Nat × Nat)) (rm : Room) (Γ : zY) (av : List Value) (G : zG) (post : Option Value → zG → Prop) : Prop :=
  ∀ sz : Nat, vx_Met l y (Cond.codeWith y cb n ret hh :: lw_all) rm (va_Pc av (zB Γ G sz)) (zQ post Γ G sz) (zXC (fun _ _ => False) Γ G sz) rm.cells rm.slots (zA G sz)
theorem z_startH {l : Launch} {y : MethodName} {cb : ByteArray} {n : Nat} {ret : Option FieldType} {hh : List (Nat × Nat × Nat × Nat)} {rm : Room} {Γ : zY} {av : List Value} {G : zG} {post : Option Value → zG → Prop} (hy : plainName y.cls = true) (lv0 : List (Option Value)) (hlv : zp 0 lv0 = lv_args 0 av) (hlen : (lg_sl av).length ≤ n)
    (kk : ∀ (p : Program) (e : Env) (s : State) (m : MethodId) (args : Array Value) (below : List Frame) (meth : Method) (c : Code) (Q : State → Prop) (A : Nat → Prop), zC p s m args meth c cb y.cls n Γ A → zFX post (fun _ _ => False) Γ G Q A below args s rm.cells rm.slots → c.exceptionTable.toList = tableOf hh → meth.sig.returnType = ret → meth.name = y.name →
      Z p l e rm s m args below meth c Q n Γ A G 0 0 0 lv0 []) : ZH l y cb n ret hh rm Γ av G post := by
  intro sz
  refine vx_ofWH (cc := cb) (maxL := n) (ret := ret) (hh := hh) hy rfl ?_
  intro p e s m args below meth c s₁ B hml hv
  obtain ⟨rfl, rfl, ⟨ws, hR, hP, hD⟩, hK, hE, hN⟩ := hv
  have hts := atoms_spec (ws := Cond.codeWith y cb n ret hh :: lw_all) B.pre
  have ht := vx_table (x := y) B (hts _ List.mem_cons_self)
  have hl := lv_entry av (n := n) hlen
  rw [lg_entry_eq]
  generalize (lg_sl av ++ List.replicate (n - (lg_sl av).length) Slot.unset).toArray = ls at hl ⊢
  exact kk p e s m av.toArray below meth c _ (zA G s.heap.size) ⟨B.exec, B.bytes, hml, findClass_of_methodNamed B.named, fun w h => hts w (List.mem_cons_of_mem _ h), hK, B.notSynchronized, fun q h => Or.inr h, hE, hN⟩ ⟨rfl, rfl⟩ ht B.returns (name_of_methodNamed B.named B.method).1
    s.heap [] ls ws hR hP (hD.weaken (fun k q hk _ => Or.inl ⟨q.2, (hR q.1 q.2).mpr (List.mem_of_getElem? hk)⟩)) va_S.rf (by unfold zL; rw [hlv]; exact hl)
/-- caught by the first row of the table -/
theorem z_catch (C : zC p s m args meth c cc own nL Γ A) {E name : String} {x : Nat × Nat × Nat × Nat} {suf : List (Nat × Nat × Nat × Nat)} (hT : c.exceptionTable.toList = tableOf (x :: suf)) (hx : covers ⟨x.1, x.2.1, x.2.2.1, x.2.2.2⟩ pc = true) (h0 : x.2.2.2 ≠ 0) (hw : Cond.classLink own x.2.2.2 name ∈ lw_all) (hcast : Cond.castable E name ∈ lw_nest) {tgt : Nat} (ht : x.2.2.1 = tgt)
    (kk : ∀ q : Nat, Z p l e R s m args below meth c Q nL Γ A G k n tgt lv [.ref q]) : ZT p l e R s m args below meth c Q nL Γ A G k n pc lv st E := by
  subst ht
  intro H locs ls ws q ce hR hP hD hS hL hq hv hcl
  exact vx_catch (C.2.2.2.1) [] ⟨x.1, x.2.1, x.2.2.1, x.2.2.2⟩ (tableOf suf) hT (fun z hz => nomatch hz) hx h0 (C.2.2.2.2.1 _ hw) (va_Nw.use rfl (C.2.2.2.2.2.2.2.2.2.1 _ hcast)) hq hv hcl (kk q H locs ls ws hR hP hD hS hL)
theorem z_callSH (C : zC p s m args meth c cc own nL Γ A) {y : MethodName} {cb : ByteArray} {mL ix : Nat} {ret : Option FieldType} {hh : List (Nat × Nat × Nat × Nat)} {rm : Room} {As : List Value} {post : Option Value → zG → Prop} {stk : List Value} (hM : ZH l y cb mL ret hh rm Γ As G post)
    (hw : ∀ w ∈ ([Cond.methodLink own ix y, Cond.static y, Cond.initialized y.cls, Cond.codeWith y cb mL ret hh] : List Cond), w ∈ lw_all) (hst : stk = As.reverse ++ st)
    {nA : Nat} (hA : As.length = nA) (hy : y.cls ≠ "java/lang/invoke/MethodHandle" ∧ y.cls ≠ "java/lang/invoke/VarHandle" ∧ (parseMethodDescriptor y.desc).map (fun d => d.parameters.length) = some nA) (hrm : rm.frames + 1 ≤ R.frames ∧ 8 + (mL + 11) + rm.locals ≤ R.locals) (hsum : (st.map fun v => v.category).sum ≤ 8) (hroom : k + rm.cells ≤ R.cells ∧ n + rm.slots ≤ R.slots) (hd : decode cc pc = .ok (.invokestatic ix, 3))
    (kk : ∀ v G', post v G' → Z p l e R s m args below meth c Q nL Γ A G' (k + rm.cells) (n + rm.slots) (pc + 3) lv (v.toList ++ st)) : Z p l e R s m args below meth c Q nL Γ A G k n pc lv stk := by
  intro H locs ls ws hR hP hD hS hL
  have g : GoodIn lw_all (va_wsS own ix y (Cond.codeWith y cb mL ret hh :: lw_all)) := by
    intro w h
    unfold va_wsS at h
    rcases List.mem_append.mp h with h | h
    · exact z_goods hw w (by simp only [List.mem_cons, List.not_mem_nil, or_false] at h ⊢; rcases h with h | h | h <;> simp [h])
    · rcases List.mem_cons.mp h with h | h
      · exact z_goods hw w (by simp [h])
      · exact z_good w h
  exact z_backX (vx_runSX (hh := hh) (As := As) (rest := st) ⟨C.1, C.2.1, C.2.2.1, C.2.2.2.1, C.2.2.2.2.1⟩ (hM H.size) (vx_cwSW nA C.2.2.2.2.1 g rfl rfl rfl hy hrm) ⟨zB.blind, z_pre C hR hP hD hS⟩ rfl hA hL.1 hst (lv_room hsum) hd hroom) hS (z_zA C hR hD hS)
    (fun E G' H1 locs1 ws' q' ce hp => hp.elim)
    (fun v G' H1 locs1 ws' hp hR' hP' hD' hS' => kk v G' hp H1 locs1 ls ws' hR' hP' hD' hS' hL)
end ZXH
