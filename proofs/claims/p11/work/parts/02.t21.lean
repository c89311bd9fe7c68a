/-! THROWS: a method that throws; 'throw new E("text")'; a call that throws and is caught in the caller. -/
section TA
variable {p : Program} {l : Launch} {e : Env} {R : Room} {s : State} {m : MethodId} {args : Array Value} {below : List Frame} {meth : Method} {c : Code} {T : State} {locs : List Loc} {kc ks : Nat} {H : Heap}
/-- where a method stands now, seen as its own beginning -/
def tx_now (T s : State) (m : MethodId) (args : Array Value) (below : List Frame) : State := (T.setVm s.vm).setFrames (.invoking m args :: below)
theorem tx_re (X : Stand p l e R s m args below meth c T locs kc ks) (R' : Room) (hR : R'.frames ≤ R.frames ∧ R'.locals ≤ R.locals ∧ kc + R'.cells ≤ R.cells ∧ ks + R'.slots ≤ R.slots) : Stand p l e R' (tx_now T s m args below) m args below meth c T [] 0 0 := by
  obtain ⟨r1, r2, r3, r4⟩ := hR
  have htop : (T.setVm s.vm).topJava?.isSome := X.here.top
  have hfr : (tx_now T s m args below).frames = .invoking m args :: below := State.frames_setFrames _ (State.cur_lt_of_top htop)
  have hli : e.platform.stackLimits (tx_now T s m args below).me = e.platform.stackLimits T.me := by
    unfold tx_now
    rw [State.stackLimits_setFrames]
    rfl
  have hby : (tx_now T s m args below).me.stackBytes = T.me.stackBytes := by
    unfold tx_now
    rw [State.stackBytes_setFrames]
    rfl
  have huse : (tx_now T s m args below).localsInUse = s.localsInUse := by
    rw [State.localsInUse_invoking hfr (meth := meth) (c := c) X.method X.code, State.localsInUse_invoking X.frames X.method X.code]
  refine ⟨X.admits, X.cas, X.clock, hfr, ?_, X.hears, X.method, X.code, X.here, X.tail, X.warmed, hli.symm, hby.symm, ?_⟩
  · have h := X.room
    have hz := X.heapSize
    have hu := X.used
    have hbk := X.book
    simp only [State.hasRoom, Bool.and_eq_true, decide_eq_true_eq] at h ⊢
    rw [hfr, huse, hli, hby, X.limits, X.bytes]
    rw [X.frames] at h
    obtain ⟨⟨⟨⟨h1, h2, h3, h4, h5, h6⟩, h7⟩, h8⟩, h9⟩ := h
    have g7 : (tx_now T s m args below).heap.size = T.heap.size := rfl
    have g8 : (tx_now T s m args below).slotsUsed = T.slotsUsed := rfl
    rw [g7, g8]
    exact ⟨⟨⟨⟨by omega, by omega, by omega, by omega, by omega, h6⟩, by omega⟩, by omega⟩, hbk⟩
  · obtain ⟨g0, hg0⟩ := Option.isSome_iff_exists.mp htop
    obtain ⟨r, hr⟩ := State.topJava?_eq_some.mp hg0
    obtain ⟨t, ht, -⟩ := State.frames_cons hr
    refine ⟨?_, Nat.le_refl _, Nat.le_refl _, ?_, ?_, fun a c9 h9 => ⟨c9, h9, rfl, rfl, fun _ _ => rfl⟩⟩
    · show T.setVm s.vm = { ((T.setVm s.vm).setFrames (.invoking m args :: below)).setFrames (T.setVm s.vm).frames with heap := T.heap, slotsUsed := T.slotsUsed }
      rw [State.setFrames_setFrames, State.setFrames_self ht]
      rfl
    · show T.slotsUsed = T.slotsUsed + ((T.heap.toList.drop T.heap.size).map (·.slots.size)).sum
      rw [List.drop_eq_nil_of_le (by simp)]
      rfl
    · show ((T.heap.toList.drop T.heap.size).map (·.slots.size)).sum ≤ 0
      rw [List.drop_eq_nil_of_le (by simp)]
      exact Nat.le_refl _
theorem tx_kept {u U : State} {k n : Nat} (h : u.sameButNew ({ U with vm := u.vm } : State) [] k n) : u.heap.size ≤ U.heap.size ∧ ∀ q : Nat, q < u.heap.size → U.heap[q]? = u.heap[q]? := by
  obtain ⟨-, h2, -, -, -, h6⟩ := h
  refine ⟨h2, fun q hq => ?_⟩
  obtain ⟨c9, e1, e2, -, e4⟩ := h6 q _ (Array.getElem?_eq_getElem hq)
  have hs : c9.slots = (u.heap[q]).slots := Array.ext_getElem? fun i => e4 i (by simp)
  rw [hs] at e2
  have e5 : U.heap[q]? = some c9 := e1
  rw [e5, Array.getElem?_eq_getElem hq, e2]
/-- the words of 'throw new cls(text)' -/
def tx_ws (own : String) (ik ic : Nat) (cls : String) (names : List String) : List Cond := Cond.classLink own ik cls :: Cond.initialized cls :: Bundle.ownAtoms own ic cls names
theorem tx_new {cc : ByteArray} {pc ik ic is sa : Nat} {ls : Array Slot} {own cls text : String} {names : List String} {Q : State → Prop} (hexec : p.tables.exec = Jvm.exec) (hb : c.code = cc) (hl : l.stackTraces = false) (hlocks : meth.locks = false) (htab : c.exceptionTable.toList = [])
    (hown : s.vm.findClass own = some m.cls) (hcls : Bundle.fit cls = true) (hnames : ∀ n ∈ names, Bundle.fit n = true) (hw : ∀ U : State, U.vm = s.vm → U.heap = H → ∀ w ∈ tx_ws own ik ic cls names, w.before args U = true) (hstr : vk_R own is text sa s) (hsize : ls.size = c.maxLocals)
    (d0 : decode cc pc = .ok (.new ik, 3)) (d3 : decode cc (pc + 3) = .ok (.dup, 1)) (d4 : decode cc (pc + 4) = .ok (.ldc is, 2)) (d6 : decode cc (pc + 6) = .ok (.invokespecial ic, 3)) (d9 : decode cc (pc + 9) = .ok (.athrow, 1))
    (hRf : names.length + 3 < R.frames) (hRl : 13 * (names.length + 1) + 60 ≤ R.locals) (hRc : kc + 1 ≤ R.cells) (hRs : ks + 6 ≤ R.slots)
    (kk : ∀ (U : State) (ce : Cell), U.status = .running → Ended U below (.threw H.size) → s.WarmedH U.vm → s.sameButNew ({ U with vm := s.vm } : State) locs (kc + 1) (ks + 6) → H.size ≤ U.heap.size → (∀ q : Nat, q < H.size → U.heap[q]? = H[q]?) → U.heap[H.size]? = some ce → ce.vm = .none → s.vm.findClass cls = some ce.cls → Q U) :
    W p l e R s m args below meth c H locs kc ks Q (F0 m pc ls []) := by
  intro T hT X
  subst hb
  have htr : e.platform.stackTraces = false := (show e.platform.stackTraces = l.stackTraces by rw [X.admits.platform]).trans hl
  have Y := tx_re X { frames := R.frames, locals := R.locals, cells := 1, slots := 6 } ⟨Nat.le_refl _, Nat.le_refl _, hRc, hRs⟩
  have hvm0 : (tx_now T s m args below).vm = s.vm := rfl
  have hhp0 : (tx_now T s m args below).heap = H := hT
  have hat0 := hw _ hvm0 hhp0
  have hst0 : vk_R own is text sa (tx_now T s m args below) := vk_R.same (u := s) hvm0 hstr
  have hsm : ∀ {U : State} {k n : Nat}, (tx_now T s m args below).sameButNew ({ U with vm := (tx_now T s m args below).vm } : State) [] k n → s.sameButNew ({ U with vm := s.vm } : State) locs (kc + k) (ks + n) := by
    intro U k n h
    obtain ⟨e1, e2⟩ := h
    have h2 : (T.setVm s.vm).sameButNew ({ U with vm := s.vm } : State) [] k n := ⟨by unfold tx_now at e1; rw [State.setFrames_setFrames] at e1; exact e1, e2⟩
    have h3 := X.same.trans h2
    rw [List.append_nil] at h3
    exact h3
  have hWs : ∀ vm', (tx_now T s m args below).WarmedH vm' → s.WarmedH vm' := fun vm' h => h
  generalize tx_now T s m args below = s' at Y hvm0 hhp0 hat0 hst0 hsm hWs
  have ho : s'.vm.findClass own = some m.cls := by rw [hvm0]; exact hown
  have hatoms : ∀ w ∈ Bundle.ownAtoms own ic cls names, w.before args s' = true := fun w h => hat0 w (List.mem_cons_of_mem _ (List.mem_cons_of_mem _ h))
  obtain ⟨vm1, cX, kX, hfX, hkX, -, -, X1, st1⟩ := Y.newCold hexec (own := own) (C := cls) (index := ik) (n := 6) ho (hat0 _ List.mem_cons_self) (hatoms _ (by simp [Bundle.ownAtoms])) (hat0 _ (List.mem_cons_of_mem _ List.mem_cons_self)) (g := F0 m pc ls []) rfl d0 (Nat.le_refl _) (Nat.le_refl _)
  have hcat : (Value.ref T.heap.size).category = 1 := rfl
  have hcell : ((T.setVm vm1).pushCell { cls := cX, slots := kX.instanceTypes.map defaultValue, vm := .none }).heap[T.heap.size]? = some { cls := cX, slots := kX.instanceTypes.map defaultValue, vm := .none } := State.heap_pushCell_size _ _
  generalize hT1 : (T.setVm vm1).pushCell { cls := cX, slots := kX.instanceTypes.map defaultValue, vm := .none } = T1 at X1 st1 hcell
  obtain ⟨U, hsteps, hrun, hend, hW, hsame, ce, hce, hO⟩ := X1.ctorThrowS hexec htr (own := own) (cls := cls) (names := names) (ic := ic) ho hcls hnames hatoms (fun x hx => nomatch hx) hfX hkX hcell (by rw [hhp0, hT]; exact Nat.le_refl _) (msg := .ref sa) rfl
    (g := F0 m (pc + 6) ls [.ref sa, .ref T.heap.size, .ref T.heap.size]) rfl hsize rfl rfl (rest := []) rfl d6 d9 (fun x hx => by rw [htab] at hx; cases hx) hRf (by
      show 2 * 0 + ([Value.ref T.heap.size].map fun v => v.category).sum + (13 * (names.length + 1) + 42) ≤ R.locals
      simp only [List.map_cons, List.map_nil, List.sum_cons, List.sum_nil, hcat]
      omega) hlocks
  obtain ⟨f1, f2⟩ := tx_kept hsame
  rw [hhp0] at f1 f2
  have hTH : T.heap.size = H.size := by rw [hT]
  rw [hTH] at hend hce
  refine ⟨U, ?_, kk U ce hrun hend (hWs _ hW) (hsm hsame) f1 f2 hce hO.vm (by have := hO.cls; rw [hvm0] at this; exact this)⟩
  refine st1 _ ?_
  show Steps p.tables e below (T1.setTop (F0 m (pc + 3) ls [.ref T.heap.size])) U
  jvm_step X1.here [X1.here.top, hexec, d3, Value.category]
  exact X1.ldcString hexec ho (text := text) (a := sa) hst0.1 hst0.2 (g := F0 m (pc + 4) ls [.ref T.heap.size, .ref T.heap.size]) rfl d4 _ hsteps
end TA
