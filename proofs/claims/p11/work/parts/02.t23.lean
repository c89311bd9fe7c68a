/-! a call that throws, and its catching in the caller -/
section TD
variable {p : Program} {l : Launch} {e : Env} {R : Room} {s : State} {m : MethodId} {args : Array Value} {below : List Frame} {meth : Method} {c : Code} {T : State} {locs : List Loc} {kc ks : Nat} {H : Heap}
/-- the invocation of a method that throws: the caller's frame g, with q thrown over it -/
theorem tx_inv {y : MethodName} {ws : List Cond} {rm : Room} {Pc : Array Value → State → Prop} {Qx : Array Value → State → Outcome → State → Prop} {bytes : ByteArray} {maxL : Nat} {ret : Option FieldType} (hM : MetFree l y (headSpec ws rm) Pc (fun _ _ _ _ _ => True) Qx) (hbl : FrameBlind Pc)
    {free : Addr → Prop} (hQ : ∀ (a : Array Value) (st : State) (o : Outcome) (t : State), Qx a st o t → ∃ (q : Addr) (L : List Loc), o = .threw q ∧ st.WarmedH t.vm ∧ st.sameButNew ({ t with vm := st.vm } : State) L rm.cells rm.slots ∧ ∀ x ∈ L, free x.base)
    (X : Stand p l e R s m args below meth c T locs kc ks) {g : JFrame} (hg : g.method = m) (hsize : g.locals.size = c.maxLocals) {ig : Instr} {len : Nat} (hdg : decode c.code g.pc = .ok (ig, len)) (hst : 2 * g.monitorRoom + (g.stack.map fun v => v.category).sum ≤ 8)
    {mk : MethodId} (hn : T.methodNamed? y = some mk) (a : Array Value) (hP : Pc a T) (hR : rm.frames + 1 ≤ R.frames ∧ 8 + (maxL + 11) + rm.locals ≤ R.locals ∧ kc + rm.cells ≤ R.cells ∧ ks + rm.slots ≤ R.slots)
    (hws : ∀ w ∈ ws, w.before a T = true) (hcode : Cond.code y bytes maxL ret ∈ ws) (hini : (Cond.initialized y.cls).before a T = true) :
    ∃ (q : Addr) (t B : State) (L : List Loc), Qx a (T.calling g mk a) (.threw q) t ∧ B.heap = t.heap ∧ B.vm = t.vm ∧ (∀ x ∈ L, free x.base) ∧ Stand p l e R s m args below meth c B (locs ++ L) (kc + rm.cells) (ks + rm.slots) ∧ Steps p.tables e below (doInvoke e (T.setTop g) [] mk a).1 ((B.setTop g).pushFrame (.throwing q)) := by
  obtain ⟨r1, r2, r3, r4⟩ := hR
  obtain ⟨mY, cY, hmY, hcY, -, hlY, -, -, -, -⟩ := Cond.code_spec hn (hws _ hcode)
  obtain ⟨kY, hkY, -⟩ := className_of_methodNamed hn
  have hiY : kY.init = .initialized := Cond.initialized_spec (findClass_of_methodNamed hn) hkY hini
  have h : At T g.method c below := by rw [hg]; exact X.here
  have happ : (headSpec ws rm).appliesLoose y e.platform (T.calling g mk a) = true :=
    Spec.appliesLoose_calling (g := g) h hdg hn hkY hiY (X.room_calling (g := g) (R' := (headSpec ws rm).room) hsize hmY hcY r1 (by rw [hlY]; show _ ≤ R.locals; have : (headSpec ws rm).room.locals = rm.locals := rfl; omega) r3 r4) (atoms_intro hws)
  obtain ⟨mid, hmid⟩ := h.above
  have hfr : (T.setTop g).frames = (.java g :: mid) ++ below := by rw [State.frames_setTop' g h.top, hmid]; rfl
  obtain ⟨o, t, hsteps, -, hend, hq⟩ := Steps.callFree hM p X.admits X.cas X.clock (acts := []) hfr happ (hbl _ _ _ _ hP) trivial
  have hq : Qx a (T.calling g mk a) o t := hq
  obtain ⟨q, L, ho, hW, hsm, hL⟩ := hQ _ _ _ _ hq
  subst ho
  rw [State.frames_setTop' g h.top] at hend
  obtain ⟨g0, hg0⟩ := Option.isSome_iff_exists.mp h.top
  obtain ⟨r, hr⟩ := State.topJava?_eq_some.mp hg0
  have hW' : T.WarmedH t.vm := hW
  obtain ⟨e2, q2, q3, q4, q5, q6⟩ := id hsm
  have hfr2 : t.frames = .throwing q :: .java g :: T.frames.tail := hend
  have hr' : (({ T with heap := t.heap, slotsUsed := t.slotsUsed } : State).setVm t.vm).frames = .java g0 :: r := hr
  have e3 : t = ({ (T.calling g mk a).setFrames t.frames with heap := t.heap, slotsUsed := t.slotsUsed } : State).setVm t.vm := by
    have e4 : t = ({ t with vm := (T.calling g mk a).vm } : State).setVm t.vm := rfl
    rw [e2] at e4
    exact e4
  have hB : t = ((({ T with heap := t.heap, slotsUsed := t.slotsUsed } : State).setVm t.vm).setTop g).pushFrame (.throwing q) := by
    refine e3.trans ?_
    rw [hfr2, State.calling_eq h.top, State.setFrames_setFrames, State.pushFrame, State.frames_setTop _ hr', State.setTop_of_frames _ hr', State.setFrames_setFrames, hr]
    rfl
  have hsame : T.sameButNew ({ T with heap := t.heap, slotsUsed := t.slotsUsed } : State) L rm.cells rm.slots := by
    refine ⟨?_, q2, q3, q4, q5, q6⟩
    obtain ⟨t9, ht9, -⟩ := State.frames_cons hr
    show ({ T with heap := t.heap, slotsUsed := t.slotsUsed } : State) = { T.setFrames T.frames with heap := t.heap, slotsUsed := t.slotsUsed }
    rw [State.setFrames_self ht9]
  refine ⟨q, t, ({ T with heap := t.heap, slotsUsed := t.slotsUsed } : State).setVm t.vm, L, hq, rfl, rfl, hL, ⟨X.admits, X.cas, X.clock, X.frames, X.room, X.hears, X.method, X.code, (X.here.setHeapUsed t.heap t.slotsUsed).setVm hW'.alike, X.tail, State.WarmedH.trans X.warmed hW', X.limits, X.bytes, X.same.trans (hsame.setVm s.vm)⟩, ?_⟩
  rw [← hB]
  exact hsteps
/-- the rows of a table lead an object of the class C to the place h -/
def tx_finds (e : Env) (u : State) (d : ClassId) (pc : Nat) (C : ClassId) : List ExceptionTableEntry → Nat → Prop
  | [], _ => False
  | y :: r, h => (covers y pc = false ∧ tx_finds e u d pc C r h) ∨ (covers y pc = true ∧ y.catchType ≠ 0 ∧ ∃ k, u.vm.ClassLinks e.platform d y.catchType k ∧ ((u.vm.assignable C k = true ∧ h = y.handlerPc) ∨ (u.vm.assignable C k = false ∧ tx_finds e u d pc C r h)))
theorem tx_search {u : State} {f : JFrame} {a : Addr} {cell : Cell} {h : Nat} (hobj : ∀ k, cell.vm ≠ .statics k) (hk0 : ∃ k, u.vm.classes[cell.cls]? = some k) (rows : List ExceptionTableEntry) : ∀ S : State, tx_finds e u f.method.cls f.pc cell.cls rows h → u.WarmedH S.vm → S.heap[a]? = some cell →
    ∃ vm', u.WarmedH vm' ∧ ∀ (Q : Handler → Jvm.Pre) (E : Jvm.CtlPost) (d : Bool) (acts : List Action), Sem.wp (findHandler.go f a rows) Q E e d acts S ↔ Q (.found h) d acts (S.setVm vm') := by
  obtain ⟨k0, hk0⟩ := hk0
  induction rows with
  | nil => intro S hf; exact hf.elim
  | cons y r ih =>
    intro S hf hW hcell
    rcases hf with ⟨hc, hf⟩ | ⟨hc, h0, k, hl, hf⟩
    · obtain ⟨vm', hW', hq⟩ := ih S hf hW hcell
      exact ⟨vm', hW', fun Q E d acts => (Jvm.W.findHandler_go_skip hc).trans (hq Q E d acts)⟩
    · obtain ⟨dk, _, _, kt, hd, _, _, _, _, hkt, _, hopen⟩ := hl.here
      have hl2 := hW.classLinks hl
      have hW2 := hW.noted hd hopen (State.rightAt_cls hl)
      obtain ⟨ha, ht⟩ := (resolveClass_links e.toSetting hl2).op (op := VmOp.resolveClass f.method.cls y.catchType) rfl
      obtain ⟨k1, hk1, -⟩ := hW2.alike.2.2 _ _ hk0
      obtain ⟨k2, hk2, -⟩ := hW2.alike.2.2 _ _ hkt
      simp only [covers] at hc
      rcases hf with ⟨hy, rfl⟩ | ⟨hn, hf⟩
      · have hy2 : (S.vm.noted f.method.cls y.catchType (.cls k)).assignable cell.cls k = true := by rw [hW2.alike.assignable]; exact hy
        exact ⟨_, hW2, fun Q E d acts => by simp [findHandler.go, hc, h0, ha, ht, hcell, hobj, hk1, hk2, hy2, VmOp.dirties, VmOp.acts]⟩
      · have hn2 : (S.vm.noted f.method.cls y.catchType (.cls k)).assignable cell.cls k = false := by rw [hW2.alike.assignable]; exact hn
        obtain ⟨vm', hW', hq⟩ := ih (S.setVm (S.vm.noted f.method.cls y.catchType (.cls k))) hf hW2 hcell
        exact ⟨vm', hW', fun Q E d acts => by simp [findHandler.go, hc, h0, ha, ht, hcell, hobj, hk1, hk2, hn2, VmOp.dirties, VmOp.acts]; exact hq Q E d acts⟩
/-- what is thrown over the method's own frame goes on at the row's place -/
theorem tx_caught (X : Stand p l e R s m args below meth c T locs kc ks) {g : JFrame} (hg : g.method = m) {q : Addr} {cell : Cell} {h : Nat} (hcell : T.heap[q]? = some cell) (hvm : cell.vm = .none) (hk0 : ∃ k, s.vm.classes[cell.cls]? = some k)
    (hf : tx_finds e s m.cls g.pc cell.cls c.exceptionTable.toList h) : ∃ vm', Stand p l e R s m args below meth c (T.setVm vm') locs kc ks ∧ ∀ tg, Steps p.tables e below ((T.setVm vm').setTop { g with pc := h, stack := [.ref q] }) tg → Steps p.tables e below ((T.setTop g).pushFrame (.throwing q)) tg := by
  subst hg
  have hat : At T g.method c below := X.here
  have hvm9 : ((T.setTop g).pushFrame (.throwing q)).vm = T.vm := Stand.throwing_vm T g q
  have hhp9 : ((T.setTop g).pushFrame (.throwing q)).heap = T.heap := Stand.throwing_heap T g q
  obtain ⟨vm', hW', hq⟩ := tx_search (e := e) (u := s) (f := g) (a := q) (cell := cell) (h := h) (fun k h9 => by rw [hvm] at h9; cases h9) hk0 c.exceptionTable.toList ((T.setTop g).pushFrame (.throwing q)) hf (by rw [hvm9]; exact X.warmed) (by rw [hhp9]; exact hcell)
  refine ⟨vm', X.noted hW', fun tg hrest => ?_⟩
  obtain ⟨hgo, hw⟩ := hat.throwing q
  refine Steps.head hgo hw ?_
  rw [stepThread_throwing (frames_entered hat.top _)]
  have hstep : (stepThrowing e ((T.setTop g).pushFrame (.throwing q)) q (.java g :: T.frames.tail)).Is ((((T.setTop g).pushFrame (.throwing q)).setVm vm').setFrames (.java { g with pc := h, stack := [.ref q] } :: T.frames.tail)) [] := by
    simp only [stepThrowing, searchFrame, vmDo]
    generalize hr : Sem.go _ e false [] ((T.setTop g).pushFrame (.throwing q)) = res
    obtain ⟨as, rfl, ha⟩ := Sem.eq_ok_of hr (a := Handler.found h) (s' := ((T.setTop g).pushFrame (.throwing q)).setVm vm') (acts' := []) (by
      have hm9 : ((T.setTop g).pushFrame (.throwing q)).vm.method? g.method = some meth := by rw [hvm9]; exact X.method'
      simp [Jvm.W.findHandler_eq hm9 X.code, hq])
    exact ⟨rfl, ha⟩
  rw [hstep.1]
  obtain ⟨g0, hg0⟩ := Option.isSome_iff_exists.mp hat.top
  obtain ⟨r, hr⟩ := State.topJava?_eq_some.mp hg0
  have hr' : (T.setVm vm').frames = .java g0 :: r := hr
  have e1 : (((T.setTop g).pushFrame (.throwing q)).setVm vm').setFrames (.java { g with pc := h, stack := [.ref q] } :: T.frames.tail) = (T.setVm vm').setTop { g with pc := h, stack := [.ref q] } := by
    rw [State.setTop_of_frames _ hr', State.pushFrame, State.setTop_of_frames _ hr, hr, State.setFrames_setFrames]
    show ((T.setVm vm').setFrames _).setFrames _ = _
    rw [State.setFrames_setFrames]
    rfl
  rw [e1]
  exact hrest
end TD
