section
section HA
variable {z : fZ} {G : fG} {cc : ByteArray} {nL : Nat} {own : String} {Q : State → Prop} {kc ks : Nat} {σ : fS} {pc : Nat} {lv : List (Option Value)} {st : List Value} {E : Nat → State → Prop}
/-- .. it throws, and the caller's table has a row for it -/
theorem u_cVX (C : fc z G cc nL own) (hE : f_E G E) (hz : E z.2.2.2.2.1.heap.size z.2.2.2.2.1) {dd mc ms : Nat} (hR : dd ≤ z.2.2.2.1.frames ∧ 40 * dd ≤ z.2.2.2.1.locals ∧ kc + mc ≤ z.2.2.2.1.cells ∧ ks + ms ≤ z.2.2.2.1.slots) {y : MethodName} {bytes : ByteArray} {maxL d index np k ci nf : Nat} {fs : Nat → Nat ⊕ Bool} {T : u_T} {CN X : String} {ret : Option FieldType} {ws : List Cond} {As : List Value} {post : fS → Prop} {hpc : Nat}
    (hM : tx_M z.2.1 G E y (Cond.code y bytes maxL ret :: ws) d mc ms σ (.ref (G.2.2.2.1 k) :: As) X post) (dg : decode cc pc = .ok (.invokevirtual index, 3)) (hN : k < G.2.2.2.2.2.2) (hY : G.2.2.2.2.2.1 k = .inl (ci, nf, fs)) (hc : G.2.1[ci]? = some (CN, T, nf)) (hg : GoodIn A9 (wsV own index CN y (Cond.code y bytes maxL ret :: ws)))
    (hd : y.cls = CN ∧ y.cls ≠ "java/lang/invoke/MethodHandle" ∧ y.cls ≠ "java/lang/invoke/VarHandle" ∧ (parseMethodDescriptor y.desc).map (fun d => d.parameters.length) = some np) (hlev : d + 1 ≤ dd) (hml : maxL ≤ 21) (hn : As.length = np) (hst : (st.map fun v => v.category).sum ≤ 8) {st0 : List Value} (hst0 : st0 = As.reverse ++ .ref (G.2.2.2.1 k) :: st)
    (hf : z.2.2.1.platform.magicAccessors = ({} : Platform).magicAccessors → ∀ cX, z.2.2.2.2.1.vm.findClass X = some cX → tx_finds z.2.2.1 z.2.2.2.2.1 z.2.2.2.2.2.1.cls pc cX z.2.2.2.2.2.2.2.2.2.exceptionTable.toList hpc)
    (kk : ∀ (τ : fS) (q : Addr), post τ → fv z G nL Q (kc + mc) (ks + ms) τ hpc lv [.ref q]) : fv z G nL Q kc ks σ pc lv st0 := by
  intro H locs ls hP hS hl T0 hT X0
  subst hst0
  obtain ⟨r1, r2, r3, r4⟩ := hR
  have cw := cwV (R := z.2.2.2.1) (s := z.2.2.2.2.1) (args := z.2.2.2.2.2.2.1) (rm := f_rm d) (mc := 0) (ms := 0) np C.2.2.2.2.1 hg rfl rfl rfl hd ⟨Nat.le_trans hlev r1, by show 8 + (maxL + 11) + 40 * d ≤ _; omega⟩
  obtain ⟨⟨-, -, -, -, hws, hcw, hcode, hini, hy, hlen, hlk⟩, hin, hsel⟩ := cw
  obtain ⟨cellB, hcB, hoB, hclB⟩ := va_recv C.2.2.2.2.2.1 hP hc (f_at1 hN hY)
  obtain ⟨mk, methM, hnamed, hmethM, hstM, habM⟩ := Cond.instanceMethod_spec hin
  obtain ⟨methM', cM, hmethM', -, -, -, -, -, -, hsigM⟩ := Cond.code_spec hnamed hcode
  cases hmethM.symm.trans hmethM'
  obtain ⟨c2, r2', m2, q1, q2, q3, q4, kP, hkP, hkPi⟩ := Cond.selects_spec hsel
  cases hclB.symm.trans q1
  cases (State.methodFound?_of_named hnamed hy).symm.trans q2
  cases hnamed.symm.trans q3
  have hselP : selectMethod z.2.2.1.platform z.2.2.2.2.1.vm cellB.cls mk = .method mk := by rw [Launch.admits_selectMethod X0.admits]; exact q4
  have hsz : (F0 z.2.2.2.2.2.1 pc ls (As.reverse ++ .ref (G.2.2.2.1 k) :: st)).locals.size = z.2.2.2.2.2.2.2.2.2.maxLocals := hl.1.trans C.2.2.1.symm
  have hdg9 : decode z.2.2.2.2.2.2.2.2.2.code pc = .ok (.invokevirtual index, 3) := by rw [C.2.1]; exact dg
  obtain ⟨vm1, X1, hstep1⟩ := X0.invokevirtual C.1 C.2.2.2.1 hlk hnamed hmethM hstM hkP hkPi hy (a := G.2.2.2.1 k) (cell := cellB) (by rw [hT]; exact hcB) (fun z h => by rw [h] at hoB; cases hoB) hselP hmethM habM hkP hkPi (g := F0 z.2.2.2.2.2.1 pc ls (As.reverse ++ .ref (G.2.2.2.1 k) :: st)) rfl (argsL := As) (rest := st) (hn.trans (hlen _ hsigM)) rfl hdg9
  have hPc := f_pre (av := .ref (G.2.2.2.1 k) :: As) C hE hz hP hS (T0.setVm vm1) hT X1.warmed
  obtain ⟨q, t, B, L, ⟨q9, ce, u, L9, e9, hce, hvm, hcl, hp, hfw, hF, -, -, -⟩, eh, ev, hL, X2, hsteps⟩ := tx_inv (bytes := bytes) (maxL := maxL) (ret := ret) (free := f_A G H.size) (hM H.size) (f_blind hE) (fun a st o t h => by
      obtain ⟨q, ce, u, L, e1, -, -, -, -, -, -, hW, hs, hL⟩ := h
      exact ⟨q, L, e1, hW, hs, hL⟩) X1 (g := F0 z.2.2.2.2.2.1 pc ls st) rfl hsz hdg9 (lv_room hst) (X1.named hnamed) (Value.ref (G.2.2.2.1 k) :: As).toArray hPc ⟨Nat.le_trans hlev r1, by show 8 + (maxL + 11) + 40 * d ≤ _; omega, r3, r4⟩ (fun w hw9 => hws w hw9 _ _ X1.warmed) hcw (word_at X1.warmed (Or.inl (by first | rfl | simp [Cond.onTables, Cond.keeps, Cond.steady])) hini)
  cases e9
  have hF2 : ∀ q : Nat, q < H.size → ¬ f_A G H.size q → B.heap[q]? = H[q]? := fun q h1 h2 => by
    rw [eh]
    have := hF.2 q (by show q < T0.heap.size; rw [hT]; exact h1) h2
    rw [this]
    show T0.heap[q]? = H[q]?
    rw [hT]
  have hB1 : H.size ≤ B.heap.size := by
    rw [eh]
    have := hF.1
    have h9 : T0.heap.size ≤ t.heap.size := this
    rw [hT] at h9
    exact h9
  have hS2 : va_S (f_A G z.2.2.2.2.1.heap.size) z.2.2.2.2.1.heap B.heap (locs ++ L) := ⟨Nat.le_trans hS.1 hB1, fun q h1 h2 => by
      rw [hF2 q (Nat.lt_of_lt_of_le h1 hS.1) (fun h => h2 (f_sub hS q h))]
      exact hS.2.1 q h1 h2, fun x hx => (List.mem_append.mp hx).elim (fun h => hS.2.2 x h) (fun h => f_sub hS _ (hL x h))⟩
  have hW2 : f_W G u B.heap := by rw [eh]; exact hfw
  have hcl2 : z.2.2.2.2.1.vm.findClass X = some ce.cls := by
    have h9 : (T0.setVm vm1).vm.findClass X = some ce.cls := hcl
    rw [X1.warmed.alike.findClass] at h9
    exact h9
  obtain ⟨vm3, X3, st3⟩ := tx_caught X2 (g := F0 z.2.2.2.2.2.1 pc ls st) rfl (q := q) (cell := ce) (h := hpc) (by rw [eh]; exact hce) hvm (Vm.classAt_of_findClass hcl2) (hf (by rw [X0.admits.platform]) ce.cls hcl2)
  obtain ⟨t2, a1, b1⟩ := kk u q hp B.heap (locs ++ L) ls hW2 hS2 hl (B.setVm vm3) rfl X3
  exact ⟨t2, hstep1 _ (fun acts => by rw [doInvoke_state]; exact hsteps.trans (st3 _ a1)), b1⟩
end HA
/-- the array out holds v -/
def h_out (cL : ClassId) (a : Nat) (v : Int) (H : Heap) : Prop := ∃ f : Nat → Int64, H[a]? = some (vp_cell cL (1, .inr (.inl f))) ∧ f 0 = Int64.ofInt v
def h_A (G : fG) (a sz : Nat) : Nat → Prop := fun q => f_A G sz q ∨ q = a
def h_off (G : fG) (a : Nat) : Prop := ∀ k, k < G.2.2.2.2.2.2 → a ≠ G.2.2.2.1 k
def h_Q (G : fG) (cL : ClassId) (a : Nat) (post : Int → Int → fS → Prop) (sz : Nat) : Array Value → State → Outcome → State → Prop := fun _ st oc t => (∃ (k v : Int) (u : fS), oc = .returned (some (.int (fI k))) ∧ post k v u ∧ f_W G u t.heap ∧ h_out cL a v t.heap) ∧ va_F (h_A G a sz) st t
def h_Pc (G : fG) (cL : ClassId) (a sz : Nat) (σ : fS) (v0 : Int) (av : List Value) : Array Value → State → Prop := va_Pc av (fun U => U.heap.size = sz ∧ f_W G σ U.heap ∧ va_K G.1 G.2.1 G.2.2.1 U ∧ xE G sz U ∧ h_out cL a v0 U.heap)
def h_M (l : Launch) (G : fG) (cL : ClassId) (a : Nat) (y : MethodName) (ws : List Cond) (d mc ms : Nat) (σ : fS) (v0 : Int) (av : List Value) (post : Int → Int → fS → Prop) : Prop :=
  ∀ sz, Met l y ws (tx_rm d mc ms) (h_Pc G cL a sz σ v0 av) (h_Q G cL a post sz) mc ms (h_A G a sz)
def h_R (z : fZ) (G : fG) (cL : ClassId) (a : Nat) (post : Int → Int → fS → Prop) (mc ms : Nat) : State → Prop := MQ z.2.2.2.2.2.2.2.1 (h_Q G cL a post z.2.2.2.2.1.heap.size) z.2.2.2.2.2.2.1 z.2.2.2.2.1 mc ms (h_A G a z.2.2.2.2.1.heap.size)
theorem h_enter {l : Launch} {G : fG} {cL : ClassId} {a : Nat} {y : MethodName} {cc : ByteArray} {nL d mc ms : Nat} {hh : List (Nat × Nat × Nat × Nat)} {σ : fS} {v0 : Int} {av : List Value} {post : Int → Int → fS → Prop} (hy : plainName y.cls = true) (hJ : f_J G) (hav : (av.map (fun v => v.category)).all (fun c => c == 1) = true) (hlen : av.length ≤ nL)
    (body : ∀ z : fZ, z.2.1 = l → z.2.2.2.1 = tx_rm d mc ms → fc z G cc nL y.cls → z.2.2.2.2.2.2.2.2.2.exceptionTable.toList = tableOf hh → z.2.2.2.2.2.2.2.2.1.sig.returnType = some .int → z.2.2.2.2.2.2.2.2.1.locks = false → xE G z.2.2.2.2.1.heap.size z.2.2.2.2.1 → h_out cL a v0 z.2.2.2.2.1.heap → fv z G nL (h_R z G cL a post mc ms) 0 0 σ 0 (av.map some ++ List.replicate (nL - av.length) none) []) : h_M l G cL a y (Cond.codeWith y cc nL (some .int) hh :: A9) d mc ms σ v0 av post := by
  intro sz
  refine va_MetW (cc := cc) (maxL := nL) (ret := some .int) (hh := hh) hy rfl ?_
  intro p e s m args below meth c s₁ B hml hv
  obtain ⟨rfl, hsz, hP, hK, hE, ho⟩ := hv
  subst hsz
  have hpre : ∀ w ∈ Cond.codeWith y cc nL (some .int) hh :: A9, w.before av.toArray s = true := atoms_spec (ws := Cond.codeWith y cc nL (some .int) hh :: A9) B.pre
  have htab : c.exceptionTable.toList = tableOf hh := by
    obtain ⟨m9, meth9, c9, hn9, h1, h2, h3, h4, h5, h6, h7, -⟩ := Cond.codeWith_spec (hpre _ List.mem_cons_self)
    cases B.named.symm.trans hn9
    cases B.method.symm.trans h1
    cases (Stand.of_body B).code.symm.trans h2
    rw [← table_eq c.exceptionTable.toList, h5]
  have hfin := body (p, l, e, tx_rm d mc ms, s, m, av.toArray, below, meth, c) rfl rfl ⟨B.exec, B.bytes, hml, findClass_of_methodNamed B.named, (fun w h => hpre w (List.mem_cons_of_mem _ h)), hK, hJ⟩ htab B.returns B.notSynchronized hE ho
  have h1 : ∀ v ∈ av, v.category = 1 := by
    intro v hv
    have h2 := List.all_eq_true.mp hav v.category (List.mem_map.mpr ⟨v, hv, rfl⟩)
    simpa using h2
  have hsl : lg_sl av = av.map Slot.val := f_sl1 av h1
  have hl := lv_entry av (n := nL) (by rw [hsl]; simpa using hlen)
  rw [lg_entry_eq]
  refine hfin s.heap [] _ hP va_S.rf ⟨hl.1, hl.2.1, fun i v hi => ?_, fun i v hi => ?_⟩
  all_goals
    have hi2 : i < av.length := by
      by_cases h : i < av.length
      · exact h
      · rw [List.getElem?_append_right (by simpa using h), List.getElem?_replicate] at hi
        split at hi <;> simp at hi
    rw [List.getElem?_append_left (by simpa using hi2), List.getElem?_map] at hi
    cases h9 : av[i]? with
    | none => rw [h9] at hi; cases hi
    | some w =>
      rw [h9] at hi
      simp at hi
      subst hi
      first
        | (rw [hsl, List.getElem?_toArray, List.getElem?_append_left (by simpa using hi2), List.getElem?_map, h9]; rfl)
        | exact h1 w (List.mem_of_getElem? h9)
theorem fL_of (v : Int) (h1 : -2147483648 ≤ v) (h2 : v ≤ 2147483647) : (fI v).toInt64 = Int64.ofInt v := by
  refine Int64.toInt_inj.mp ?_
  rw [Int32.toInt_toInt64, fI_toInt h1 h2, Int64.toInt_ofInt_of_le (by omega) (by omega)]
section HB
variable {z : fZ} {G : fG} {cc : ByteArray} {nL : Nat} {own : String} {kc ks mc ms a : Nat} {cL : ClassId} {σ : fS} {pc : Nat} {lv : List (Option Value)} {st : List Value} {v0 : Int} {post : Int → Int → fS → Prop}
theorem h_keep (C : fc z G cc nL own) (ho : h_out cL a v0 z.2.2.2.2.1.heap) (hoff : h_off G a) {H : Heap} {locs : List Loc} (hS : va_S (f_A G z.2.2.2.2.1.heap.size) z.2.2.2.2.1.heap H locs) : h_out cL a v0 H := by
  obtain ⟨f, h1, h2⟩ := ho
  have hlt := (Array.getElem?_eq_some_iff.mp h1).1
  refine ⟨f, ?_, h2⟩
  rw [hS.2.1 a hlt ?_]
  · exact h1
  · rintro (⟨k, hk, e⟩ | h)
    · exact hoff k hk e
    · exact absurd hlt (Nat.not_lt.mpr h)
/-- a refusal's number is given back -/
theorem h_ret (C : fc z G cc nL own) (ho : h_out cL a v0 z.2.2.2.2.1.heap) (hoff : h_off G a) (hr : z.2.2.2.2.2.2.2.2.1.sig.returnType = some .int) (hk : z.2.2.2.2.2.2.2.2.1.locks = false) {r : Int} (d : decode cc pc = .ok (.ireturn, 1)) (hc : kc ≤ mc ∧ ks ≤ ms) (hp : post r v0 σ) : fv z G nL (h_R z G cL a post mc ms) kc ks σ pc lv [.int (fI r)] := by
  intro H locs ls hP hS hl
  refine W.widen hc.1 hc.2 (W.iret (v := fI r) C.1 C.2.1 hr (fun t ht _ => ⟨⟨r, v0, σ, rfl, hp, by rw [ht]; exact hP, by rw [ht]; exact h_keep C ho hoff hS⟩, ?_⟩) (fun q hq => Or.inl (hS.2.2 q hq)) d hk)
  exact ⟨by rw [ht]; exact hS.1, fun q h1 h2 => by rw [ht]; exact hS.2.1 q h1 (fun h => h2 (Or.inl h))⟩
/-- the answer goes into out; 0 is given back -/
theorem h_end (C : fc z G cc nL own) (ho : h_out cL a v0 z.2.2.2.2.1.heap) (hoff : h_off G a) (hr : z.2.2.2.2.2.2.2.2.1.sig.returnType = some .int) (hk : z.2.2.2.2.2.2.2.2.1.locks = false) (hty : G.2.2.1[4]? = some (cL, .long)) {v : Int} {x : Int64} (hx : x = Int64.ofInt v) {off : Int} {tgt : Nat} (d0 : decode cc pc = .ok (.lastore, 1)) (d1 : decode cc (pc + 1) = .ok (.goto off, 3)) (ht1 : ((pc + 1 : Nat) : Int) + off = (tgt : Int)) (d2 : decode cc tgt = .ok (.iconst 0, 1)) (d3 : decode cc (tgt + 1) = .ok (.ireturn, 1)) (hc : kc ≤ mc ∧ ks ≤ ms) (hp : post 0 v σ) : fv z G nL (h_R z G cL a post mc ms) kc ks σ pc lv [.long x, .int (fI 0), .ref a] := by
  intro H locs ls hP hS hl
  obtain ⟨f, h1, h2⟩ := h_keep C ho hoff hS
  have hz : (fI 0).toNatClampNeg = 0 := by rw [fI_0]; rfl
  refine W.eq (g2 := F0 z.2.2.2.2.2.1 pc ls (.long x :: .int (fI 0) :: .ref a :: [])) rfl ?_
  refine W.last C.1 C.2.1 h1 ((C.2.2.2.2.2.1.2 4 _ hty).1 1 (fun j => .long (f j))) (fun q => by cases q) (by rw [hz, fI_0]; show ¬ ((0 : Int32) < 0 ∨ (arrV cL 1 (fun j => .long (f j))).slots.size ≤ 0); rw [arrV_size]; decide) rfl rfl d0 (fun H1 e1 z1 o1 => ?_)
  have hW1 : f_W G σ H1 := fun k q hq => by
    obtain ⟨hkn, rfl⟩ := f_w_inv hq
    exact (hP k _ (f_w_get hkn)).kept (o1 _ (fun e => hoff k hkn e.symm))
  have hO1 : h_out cL a v H1 := by
    refine ⟨vp_updL f 0 x, ?_, by rw [pk_uLs]; exact hx⟩
    rw [e1, hz]
    congr 1
  refine lv_goto C.1 C.2.1 d1 ht1 ?_
  refine lv_iconst C.1 C.2.1 d2 rfl ?_
  refine W.widen hc.1 hc.2 (W.iret (v := fI 0) C.1 C.2.1 hr (fun t ht _ => ⟨⟨0, v, σ, rfl, hp, by rw [ht]; exact hW1, by rw [ht]; exact hO1⟩, ?_⟩) ?_ d3 hk)
  · intro q hq
    rcases List.mem_append.mp hq with hq | hq
    · exact Or.inl (hS.2.2 q hq)
    · simp at hq; subst hq; exact Or.inr rfl
  · refine ⟨by rw [ht, z1]; exact hS.1, fun q g1 g2 => ?_⟩
    rw [ht, o1 q (fun e => g2 (Or.inr e))]
    exact hS.2.1 q g1 (fun h => g2 (Or.inl h))
theorem h_fc {e : Env} {s : State} {args : Array Value} {d : ClassId} {own name X : String} {pc : Nat} {y : ExceptionTableEntry} {r : List ExceptionTableEntry} {cX : ClassId} (hpl : e.platform.magicAccessors = ({} : Platform).magicAccessors) (hown : s.vm.findClass own = some d) (hcov : covers y pc = true) (h0 : y.catchType ≠ 0) (hl : (Cond.classLink own y.catchType name).before args s = true) (hc : va_Nw (Cond.castable X name) s) (hX : s.vm.findClass X = some cX) : tx_finds e s d pc cX (y :: r) y.handlerPc := by
  obtain ⟨c5, hc5, hcl5⟩ := Cond.classLink_spec hown hl e.platform hpl
  obtain ⟨c3, c4, hc3, hc4, hasg⟩ := Cond.castable_spec hc
  cases Option.some.inj (hc3.symm.trans hX)
  cases Option.some.inj (hc4.symm.trans hc5)
  exact Or.inr ⟨hcov, h0, _, hcl5, Or.inl ⟨hasg, rfl⟩⟩
theorem h_fp {e : Env} {s : State} {args : Array Value} {d : ClassId} {own name X : String} {pc h : Nat} {y : ExceptionTableEntry} {r : List ExceptionTableEntry} {cX : ClassId} (hpl : e.platform.magicAccessors = ({} : Platform).magicAccessors) (hown : s.vm.findClass own = some d) (hcov : covers y pc = true) (h0 : y.catchType ≠ 0) (hl : (Cond.classLink own y.catchType name).before args s = true) (hn : va_Nc X name s) (hX : s.vm.findClass X = some cX) (hr : tx_finds e s d pc cX r h) : tx_finds e s d pc cX (y :: r) h := by
  obtain ⟨c5, hc5, hcl5⟩ := Cond.classLink_spec hown hl e.platform hpl
  obtain ⟨a8, b8, h1, h2, h3⟩ := hn
  cases Option.some.inj (h1.symm.trans hX)
  cases Option.some.inj (h2.symm.trans hc5)
  exact Or.inr ⟨hcov, h0, _, hcl5, Or.inr ⟨h3, hr⟩⟩
theorem v_i2l (C : fc z G cc nL own) {Q : State → Prop} {v : Int} (d : decode cc pc = .ok (.i2l, 1)) (hv : -2147483648 ≤ v ∧ v ≤ 2147483647) (kk : fv z G nL Q kc ks σ (pc + 1) lv (.long (Int64.ofInt v) :: st)) : fv z G nL Q kc ks σ pc lv (.int (fI v) :: st) :=
  fun H locs ls hP hS hl => lv_i2l C.1 C.2.1 d (fL_of v hv.1 hv.2) (kk H locs ls hP hS hl)
end HB
def x_0 : fS := (fun _ _ => 0, fun _ _ => 0)
end
section
def RL : String := "RevisionWriteLaw"
theorem iL : Cond.initialized RL ∈ A9 := in9_1 0 (by decide +kernel) rfl
abbrev cL_object : ByteArray := method_3_code
def yL_object : MethodName := ⟨RL, "object", "(LRevisionWrite;II)I"⟩
theorem wL_object : Cond.codeWith yL_object cL_object 4 (some .int) [(0, 6, 9, 13), (0, 6, 12, 15)] ∈ A9 := in9_2 121 (by decide +kernel) rfl
theorem dL_object_0 : decode cL_object 0 = .ok (.aload_n 0, 1) := by decide +kernel
theorem dL_object_1 : decode cL_object 1 = .ok (.iload_n 1, 1) := by decide +kernel
theorem dL_object_2 : decode cL_object 2 = .ok (.iload_n 2, 1) := by decide +kernel
theorem dL_object_3 : decode cL_object 3 = .ok (.invokevirtual 7, 3) := by decide +kernel
theorem dL_object_6 : decode cL_object 6 = .ok (.goto 9, 3) := by decide +kernel
theorem dL_object_9 : decode cL_object 9 = .ok (.astore_n 3, 1) := by decide +kernel
theorem dL_object_10 : decode cL_object 10 = .ok (.iconst 1, 1) := by decide +kernel
theorem dL_object_11 : decode cL_object 11 = .ok (.ireturn, 1) := by decide +kernel
theorem dL_object_12 : decode cL_object 12 = .ok (.astore_n 3, 1) := by decide +kernel
theorem dL_object_13 : decode cL_object 13 = .ok (.iconst 2, 1) := by decide +kernel
theorem dL_object_14 : decode cL_object 14 = .ok (.ireturn, 1) := by decide +kernel
theorem dL_object_15 : decode cL_object 15 = .ok (.iconst 0, 1) := by decide +kernel
theorem dL_object_16 : decode cL_object 16 = .ok (.ireturn, 1) := by decide +kernel
theorem gL_7 : GoodIn A9 (wsV RL 7 RXA yXA_object (Cond.code yXA_object cXA_object 3 none :: A9)) := g9V (in9_2 124 (by decide +kernel) rfl) (in9_2 125 (by decide +kernel) rfl) (in9_2 126 (by decide +kernel) rfl) iXA wXA_object
abbrev cL_write : ByteArray := method_7_code
def yL_write : MethodName := ⟨RL, "write", "(LRevisionWrite;I[J)I"⟩
theorem wL_write : Cond.codeWith yL_write cL_write 4 (some .int) [(0, 9, 12, 15), (0, 9, 15, 33)] ∈ A9 := in9_4 43 (by decide +kernel) rfl
theorem dL_write_0 : decode cL_write 0 = .ok (.aload_n 2, 1) := by decide +kernel
theorem dL_write_1 : decode cL_write 1 = .ok (.iconst 0, 1) := by decide +kernel
theorem dL_write_2 : decode cL_write 2 = .ok (.aload_n 0, 1) := by decide +kernel
theorem dL_write_3 : decode cL_write 3 = .ok (.iload_n 1, 1) := by decide +kernel
theorem dL_write_4 : decode cL_write 4 = .ok (.invokevirtual 29, 3) := by decide +kernel
theorem dL_write_7 : decode cL_write 7 = .ok (.i2l, 1) := by decide +kernel
theorem dL_write_8 : decode cL_write 8 = .ok (.lastore, 1) := by decide +kernel
theorem dL_write_9 : decode cL_write 9 = .ok (.goto 9, 3) := by decide +kernel
theorem dL_write_12 : decode cL_write 12 = .ok (.astore_n 3, 1) := by decide +kernel
theorem dL_write_13 : decode cL_write 13 = .ok (.iconst 1, 1) := by decide +kernel
theorem dL_write_14 : decode cL_write 14 = .ok (.ireturn, 1) := by decide +kernel
theorem dL_write_18 : decode cL_write 18 = .ok (.iconst 0, 1) := by decide +kernel
theorem dL_write_19 : decode cL_write 19 = .ok (.ireturn, 1) := by decide +kernel
theorem gL_29 : GoodIn A9 (wsV RL 29 RXA yXA_write (Cond.code yXA_write cXA_write 2 (some .int) :: A9)) := g9V (in9_4 45 (by decide +kernel) rfl) (in9_4 46 (by decide +kernel) rfl) (in9_4 47 (by decide +kernel) rfl) iXA wXA_write
abbrev cL_append : ByteArray := method_8_code
def yL_append : MethodName := ⟨RL, "append", "(LRevisionWrite;[J)I"⟩
theorem wL_append : Cond.codeWith yL_append cL_append 3 (some .int) [(0, 8, 11, 39), (0, 8, 14, 33)] ∈ A9 := in9_4 132 (by decide +kernel) rfl
theorem dL_append_0 : decode cL_append 0 = .ok (.aload_n 1, 1) := by decide +kernel
theorem dL_append_1 : decode cL_append 1 = .ok (.iconst 0, 1) := by decide +kernel
theorem dL_append_2 : decode cL_append 2 = .ok (.aload_n 0, 1) := by decide +kernel
theorem dL_append_3 : decode cL_append 3 = .ok (.invokevirtual 35, 3) := by decide +kernel
theorem dL_append_6 : decode cL_append 6 = .ok (.i2l, 1) := by decide +kernel
theorem dL_append_7 : decode cL_append 7 = .ok (.lastore, 1) := by decide +kernel
theorem dL_append_8 : decode cL_append 8 = .ok (.goto 9, 3) := by decide +kernel
theorem dL_append_11 : decode cL_append 11 = .ok (.astore_n 2, 1) := by decide +kernel
theorem dL_append_12 : decode cL_append 12 = .ok (.iconst 1, 1) := by decide +kernel
theorem dL_append_13 : decode cL_append 13 = .ok (.ireturn, 1) := by decide +kernel
theorem dL_append_14 : decode cL_append 14 = .ok (.astore_n 2, 1) := by decide +kernel
theorem dL_append_15 : decode cL_append 15 = .ok (.iconst 2, 1) := by decide +kernel
theorem dL_append_16 : decode cL_append 16 = .ok (.ireturn, 1) := by decide +kernel
theorem dL_append_17 : decode cL_append 17 = .ok (.iconst 0, 1) := by decide +kernel
theorem dL_append_18 : decode cL_append 18 = .ok (.ireturn, 1) := by decide +kernel
theorem gL_35 : GoodIn A9 (wsV RL 35 RXA yXA_append (Cond.code yXA_append cXA_append 1 (some .int) :: A9)) := g9V (in9_4 134 (by decide +kernel) rfl) (in9_4 135 (by decide +kernel) rfl) (in9_4 136 (by decide +kernel) rfl) iXA wXA_append
abbrev cL_poke : ByteArray := method_9_code
def yL_poke : MethodName := ⟨RL, "poke", "(LRevisionWrite;IB[J)I"⟩
theorem wL_poke : Cond.codeWith yL_poke cL_poke 5 (some .int) [(0, 10, 13, 13)] ∈ A9 := in9_4 166 (by decide +kernel) rfl
theorem dL_poke_0 : decode cL_poke 0 = .ok (.aload_n 3, 1) := by decide +kernel
theorem dL_poke_1 : decode cL_poke 1 = .ok (.iconst 0, 1) := by decide +kernel
theorem dL_poke_2 : decode cL_poke 2 = .ok (.aload_n 0, 1) := by decide +kernel
theorem dL_poke_3 : decode cL_poke 3 = .ok (.iload_n 1, 1) := by decide +kernel
theorem dL_poke_4 : decode cL_poke 4 = .ok (.iload_n 2, 1) := by decide +kernel
theorem dL_poke_5 : decode cL_poke 5 = .ok (.invokevirtual 41, 3) := by decide +kernel
theorem dL_poke_8 : decode cL_poke 8 = .ok (.i2l, 1) := by decide +kernel
theorem dL_poke_9 : decode cL_poke 9 = .ok (.lastore, 1) := by decide +kernel
theorem dL_poke_10 : decode cL_poke 10 = .ok (.goto 7, 3) := by decide +kernel
theorem dL_poke_13 : decode cL_poke 13 = .ok (.astore 4, 2) := by decide +kernel
theorem dL_poke_15 : decode cL_poke 15 = .ok (.iconst 1, 1) := by decide +kernel
theorem dL_poke_16 : decode cL_poke 16 = .ok (.ireturn, 1) := by decide +kernel
theorem dL_poke_17 : decode cL_poke 17 = .ok (.iconst 0, 1) := by decide +kernel
theorem dL_poke_18 : decode cL_poke 18 = .ok (.ireturn, 1) := by decide +kernel
theorem gL_41 : GoodIn A9 (wsV RL 41 RXA yXA_poke (Cond.code yXA_poke cXA_poke 4 (some .byte) :: A9)) := g9V (in9_4 167 (by decide +kernel) rfl) (in9_4 168 (by decide +kernel) rfl) (in9_4 169 (by decide +kernel) rfl) iXA wXA_poke
abbrev cL_take : ByteArray := method_10_code
def yL_take : MethodName := ⟨RL, "take", "(LRevisionWrite;I[J)I"⟩
theorem wL_take : Cond.codeWith yL_take cL_take 4 (some .int) [(0, 9, 12, 13)] ∈ A9 := in9_4 178 (by decide +kernel) rfl
theorem dL_take_0 : decode cL_take 0 = .ok (.aload_n 2, 1) := by decide +kernel
theorem dL_take_1 : decode cL_take 1 = .ok (.iconst 0, 1) := by decide +kernel
theorem dL_take_2 : decode cL_take 2 = .ok (.aload_n 0, 1) := by decide +kernel
theorem dL_take_3 : decode cL_take 3 = .ok (.iload_n 1, 1) := by decide +kernel
theorem dL_take_4 : decode cL_take 4 = .ok (.invokevirtual 45, 3) := by decide +kernel
theorem dL_take_7 : decode cL_take 7 = .ok (.i2l, 1) := by decide +kernel
theorem dL_take_8 : decode cL_take 8 = .ok (.lastore, 1) := by decide +kernel
theorem dL_take_9 : decode cL_take 9 = .ok (.goto 6, 3) := by decide +kernel
theorem dL_take_12 : decode cL_take 12 = .ok (.astore_n 3, 1) := by decide +kernel
theorem dL_take_13 : decode cL_take 13 = .ok (.iconst 1, 1) := by decide +kernel
theorem dL_take_14 : decode cL_take 14 = .ok (.ireturn, 1) := by decide +kernel
theorem dL_take_15 : decode cL_take 15 = .ok (.iconst 0, 1) := by decide +kernel
theorem dL_take_16 : decode cL_take 16 = .ok (.ireturn, 1) := by decide +kernel
theorem gL_45 : GoodIn A9 (wsV RL 45 RXA yXA_take (Cond.code yXA_take cXA_take 2 (some .int) :: A9)) := g9V (in9_4 179 (by decide +kernel) rfl) (in9_4 180 (by decide +kernel) rfl) (in9_4 181 (by decide +kernel) rfl) iXA wXA_take
abbrev cL_differ : ByteArray := method_16_code
def yL_differ : MethodName := ⟨RL, "differ", "(LRevisionWrite;II[J)I"⟩
theorem wL_differ : Cond.codeWith yL_differ cL_differ 5 (some .int) [(0, 10, 13, 13)] ∈ A9 := in9_4 228 (by decide +kernel) rfl
theorem dL_differ_0 : decode cL_differ 0 = .ok (.aload_n 3, 1) := by decide +kernel
theorem dL_differ_1 : decode cL_differ 1 = .ok (.iconst 0, 1) := by decide +kernel
theorem dL_differ_2 : decode cL_differ 2 = .ok (.aload_n 0, 1) := by decide +kernel
theorem dL_differ_3 : decode cL_differ 3 = .ok (.iload_n 1, 1) := by decide +kernel
theorem dL_differ_4 : decode cL_differ 4 = .ok (.iload_n 2, 1) := by decide +kernel
theorem dL_differ_5 : decode cL_differ 5 = .ok (.invokevirtual 66, 3) := by decide +kernel
theorem dL_differ_8 : decode cL_differ 8 = .ok (.i2l, 1) := by decide +kernel
theorem dL_differ_9 : decode cL_differ 9 = .ok (.lastore, 1) := by decide +kernel
theorem dL_differ_10 : decode cL_differ 10 = .ok (.goto 7, 3) := by decide +kernel
theorem dL_differ_13 : decode cL_differ 13 = .ok (.astore 4, 2) := by decide +kernel
theorem dL_differ_15 : decode cL_differ 15 = .ok (.iconst 1, 1) := by decide +kernel
theorem dL_differ_16 : decode cL_differ 16 = .ok (.ireturn, 1) := by decide +kernel
theorem dL_differ_17 : decode cL_differ 17 = .ok (.iconst 0, 1) := by decide +kernel
theorem dL_differ_18 : decode cL_differ 18 = .ok (.ireturn, 1) := by decide +kernel
theorem gL_66 : GoodIn A9 (wsV RL 66 RXA yXA_differ (Cond.code yXA_differ cXA_differ 3 (some .int) :: A9)) := g9V (in9_4 229 (by decide +kernel) rfl) (in9_4 230 (by decide +kernel) rfl) (in9_4 231 (by decide +kernel) rfl) iXA wXA_differ
theorem qL_13 : Cond.classLink RL 13 "java/lang/IndexOutOfBoundsException" ∈ A9 := (in9_2 122 (by decide +kernel) rfl)
theorem qL_15 : Cond.classLink RL 15 "java/lang/IllegalArgumentException" ∈ A9 := (in9_2 123 (by decide +kernel) rfl)
theorem qL_33 : Cond.classLink RL 33 "java/lang/UnsupportedOperationException" ∈ A9 := (in9_4 44 (by decide +kernel) rfl)
theorem qL_39 : Cond.classLink RL 39 "java/lang/IllegalStateException" ∈ A9 := (in9_4 133 (by decide +kernel) rfl)
end
section
end
