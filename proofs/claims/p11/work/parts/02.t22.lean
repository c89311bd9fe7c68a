/-! contracts of methods that throw, over the frame -/
/-- the end of a method that has thrown an object of the class X -/
def tx_Q (X : String) (post : fS → Prop) (G : fG) (mc ms sz : Nat) : Array Value → State → Outcome → State → Prop := fun _ st o t =>
  ∃ (q : Addr) (ce : Cell) (u : fS) (L : List Loc), o = .threw q ∧ t.heap[q]? = some ce ∧ ce.vm = .none ∧ st.vm.findClass X = some ce.cls ∧ post u ∧ f_W G u t.heap ∧ va_F (f_A G sz) st t ∧ st.WarmedH t.vm ∧ st.sameButNew ({ t with vm := st.vm } : State) L mc ms ∧ ∀ x ∈ L, f_A G sz x.base
/-- the room of a method over d levels of calls that makes mc cells of ms slots -/
def tx_rm (d mc ms : Nat) : Room := { frames := d, cells := mc, slots := ms, locals := 40 * d }
def tx_M (l : Launch) (G : fG) (E : Nat → State → Prop) (y : MethodName) (ws : List Cond) (d mc ms : Nat) (σ : fS) (av : List Value) (X : String) (post : fS → Prop) : Prop :=
  ∀ sz, MetFree l y (headSpec ws (tx_rm d mc ms)) (f_Pc G E sz σ av) (fun _ _ _ _ _ => True) (tx_Q X post G mc ms sz)
def tx_R (z : fZ) (G : fG) (X : String) (post : fS → Prop) (mc ms : Nat) : State → Prop := fun t => ∃ o, t.status = .running ∧ Ended t z.2.2.2.2.2.2.2.1 o ∧ tx_Q X post G mc ms z.2.2.2.2.1.heap.size z.2.2.2.2.2.2.1 z.2.2.2.2.1 o t
section TB
variable {l : Launch} {G : fG} {E : Nat → State → Prop} {y : MethodName} {cc : ByteArray} {nL d mc ms : Nat} {ret : Option FieldType} {σ : fS} {av : List Value} {X : String} {post : fS → Prop}
theorem tx_enter (hy : plainName y.cls = true) (hJ : f_J G) (hav : (av.map (fun v => v.category)).all (fun c => c == 1) = true) (hlen : av.length ≤ nL)
    (body : ∀ z : fZ, z.2.1 = l → z.2.2.2.1 = tx_rm d mc ms → fc z G cc nL y.cls → z.2.2.2.2.2.2.2.2.2.exceptionTable.toList = [] → z.2.2.2.2.2.2.2.2.1.locks = false → E z.2.2.2.2.1.heap.size z.2.2.2.2.1 → fv z G nL (tx_R z G X post mc ms) 0 0 σ 0 (av.map some ++ List.replicate (nL - av.length) none) []) : tx_M l G E y (Cond.code y cc nL ret :: A9) d mc ms σ av X post := by
  intro sz
  refine MetFree.of_bodyS (code := cc) (maxLocals := nL) (ret := ret) hy ?_ ?_
  · intro args s m h hn
    obtain ⟨meth, c, h1, h2, h3, h4, h5, h6, -, -⟩ := Cond.code_spec hn (atoms_spec (ws := Cond.code y cc nL ret :: A9) h _ List.mem_cons_self)
    exact ⟨meth, c, h1, h2, h3, h4, h5, h6⟩
  · intro p e s m args below meth c s₁ B hml hv _
    obtain ⟨rfl, hsz, hP, hK, hE⟩ := hv
    subst hsz
    have hpre : ∀ w ∈ Cond.code y cc nL ret :: A9, w.before av.toArray s = true := atoms_spec (ws := Cond.code y cc nL ret :: A9) B.pre
    have htab : c.exceptionTable.toList = [] := by
      have h := B.noHandlers (hpre _ List.mem_cons_self)
      have h0 : c.exceptionTable.size = 0 := by simpa [Array.isEmpty] using h
      exact List.eq_nil_of_length_eq_zero (by simpa using h0)
    have hfin := body (p, l, e, tx_rm d mc ms, s, m, av.toArray, below, meth, c) rfl rfl ⟨B.exec, B.bytes, hml, findClass_of_methodNamed B.named, (fun w h => hpre w (List.mem_cons_of_mem _ h)), hK, hJ⟩ htab B.notSynchronized hE
    have h1 : ∀ v ∈ av, v.category = 1 := by
      intro v hv
      have h2 := List.all_eq_true.mp hav v.category (List.mem_map.mpr ⟨v, hv, rfl⟩)
      simpa using h2
    have hsl : lg_sl av = av.map Slot.val := f_sl1 av h1
    have hl := lv_entry av (n := nL) (by rw [hsl]; simpa using hlen)
    have hhas : f_has (entryFrame m av.toArray nL).locals nL (av.map some ++ List.replicate (nL - av.length) none) := by
      rw [lg_entry_eq]
      refine ⟨hl.1, hl.2.1, fun i v hi => ?_, fun i v hi => ?_⟩
      all_goals
        have hi2 : i < av.length := by
          by_cases h : i < av.length
          · exact h
          · rw [List.getElem?_append_right (by simpa using h), List.getElem?_replicate] at hi
            split at hi <;> simp at hi
        rw [List.getElem?_append_left (by simpa using hi2), List.getElem?_map] at hi
        cases h9 : av[i]? with
        | none => rw [h9] at hi; cases hi
        | some w =>
          rw [h9] at hi
          simp at hi
          subst hi
          first
            | (rw [hsl, List.getElem?_toArray, List.getElem?_append_left (by simpa using hi2), List.getElem?_map, h9]; rfl)
            | exact h1 w (List.mem_of_getElem? h9)
    have hh0 : s₁.heap = s.heap := by rw [B.state]; rfl
    have hf0 : entryFrame m av.toArray nL = F0 m 0 (entryFrame m av.toArray nL).locals [] := by rw [lg_entry_eq]
    obtain ⟨t, a1, o, b1, b2, b3⟩ := hfin s.heap [] _ hP va_S.rf hhas s₁ hh0 (Stand.of_body B)
    exact ⟨t, o, by rw [hf0]; exact a1, b1, b2, b3⟩
end TB
section TC
variable {z : fZ} {G : fG} {cc : ByteArray} {nL : Nat} {own : String} {Q : State → Prop} {kc ks : Nat} {σ : fS} {pc : Nat} {lv : List (Option Value)} {st : List Value} {E : Nat → State → Prop}
/-- throw new cls("text") -/
theorem tx_throw (C : fc z G cc nL own) (hl : z.2.1.stackTraces = false) (htab : z.2.2.2.2.2.2.2.2.2.exceptionTable.toList = []) (hlocks : z.2.2.2.2.2.2.2.2.1.locks = false) {ik ic is sa mc ms : Nat} {cls text : String} {names : List String} {post : fS → Prop} (hcls : Bundle.fit cls = true) (hnames : names.all Bundle.fit = true)
    (hw : ∀ (H : Heap) (locs : List Loc), va_S (f_A G z.2.2.2.2.1.heap.size) z.2.2.2.2.1.heap H locs → ∀ U : State, U.vm = z.2.2.2.2.1.vm → U.heap = H → ∀ w ∈ tx_ws own ik ic cls names, w.before z.2.2.2.2.2.2.1 U = true) (hstr : vk_R own is text sa z.2.2.2.2.1)
    (d0 : decode cc pc = .ok (.new ik, 3)) (d3 : decode cc (pc + 3) = .ok (.dup, 1)) (d4 : decode cc (pc + 4) = .ok (.ldc is, 2)) (d6 : decode cc (pc + 6) = .ok (.invokespecial ic, 3)) (d9 : decode cc (pc + 9) = .ok (.athrow, 1))
    (hR : names.length + 3 < z.2.2.2.1.frames ∧ 13 * (names.length + 1) + 60 ≤ z.2.2.2.1.locals ∧ kc + 1 ≤ z.2.2.2.1.cells ∧ ks + 6 ≤ z.2.2.2.1.slots) (hm : kc + 1 ≤ mc ∧ ks + 6 ≤ ms) (hp : post σ) : fv z G nL (tx_R z G cls post mc ms) kc ks σ pc lv [] := by
  intro H locs ls hP hS hlv
  refine tx_new (sa := sa) (text := text) C.1 C.2.1 hl hlocks htab C.2.2.2.1 hcls (List.all_eq_true.mp hnames) (hw H locs hS) hstr (hlv.1.trans C.2.2.1.symm) d0 d3 d4 d6 d9 hR.1 hR.2.1 hR.2.2.1 hR.2.2.2 ?_
  intro U ce hrun hend hW hsame hsz hkeep hce hvm hcl
  refine ⟨.threw H.size, hrun, hend, H.size, ce, σ, locs, rfl, hce, hvm, hcl, hp, ?_, ⟨Nat.le_trans hS.1 hsz, fun q h1 h2 => ?_⟩, hW, hsame.mono hm.1 hm.2, hS.2.2⟩
  · exact fun k q hq => (hP k q hq).kept (hkeep _ (hP k q hq).lt)
  · rw [hkeep q (Nat.lt_of_lt_of_le h1 hS.1)]
    exact hS.2.1 q h1 h2
end TC
