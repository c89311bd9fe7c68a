def x_strs : List (Nat × String) := [(61, "no such object"), (68, "an object has 0 .. 120 bytes"), (79, "no such byte of an object"), (95, "how is 0 .. 2"), (122, "a file has at most 12000 bytes"), (138, "the file is empty or altered"), (145, "a file has at most 60 parts"), (162, "no such place"), (169, "no such revision"), (189, "no such revision or object"), (199, "no such row")]
def x_nest : List Cond := [.methodLinkNest RXS 32 yXA_isNumber RXA, .fieldLinkNest RXC 52 RXA "FIRST_LINE" "[B" RXA, .fieldLinkNest RXD 90 RXA "FIRST_LINE" "[B" RXA]
def x_keep : List Cond := [.declares (Bundle.initS "java/lang/RuntimeException"), .declares (Bundle.initS "java/lang/Exception"), .declares (Bundle.initS "java/lang/Throwable"), .castable "java/lang/IndexOutOfBoundsException" "java/lang/IndexOutOfBoundsException", .castable "java/lang/IllegalArgumentException" "java/lang/IllegalArgumentException", .castable "java/lang/IllegalStateException" "java/lang/IllegalStateException", .castable "java/lang/UnsupportedOperationException" "java/lang/UnsupportedOperationException"]
def x_four : List Cond := [.isRef (.static Bundle.tN "UNASSIGNED_STACK" Bundle.steD), .isRef (.static Bundle.tN "SUPPRESSED_SENTINEL" Bundle.listD), .laysStatic Bundle.tN "UNASSIGNED_STACK" Bundle.steD, .laysStatic Bundle.tN "SUPPRESSED_SENTINEL" Bundle.listD]
/-- a static of Throwable that holds some reference or null, its cell outside A -/
def x_st (n d : String) (A : Nat → Prop) (U : State) (H : Heap) : Prop := ∃ (c : ClassId) (k : Class) (i : Nat) (f : Field) (a : Nat) (cell : Cell) (v : Value), U.vm.findClass Bundle.tN = some c ∧ U.fieldFound? Bundle.tN n d = some (c, k, i, f) ∧ f.isStatic = true ∧ k.statics = some a ∧ H[a]? = some cell ∧ cell.vm.isStatics = true ∧ cell.cls = c ∧ f.slot < cell.slots.size ∧ k.staticTypes[f.slot]? = some f.type ∧ cell.slots[f.slot]? = some v ∧ v.isRef = true ∧ ¬ A a
theorem x_st.on {n d : String} {A B : Nat → Prop} {u U : State} {H H1 : Heap} (hvm : u.vm.Alike U.vm) (hAB : ∀ q, B q → A q) (hq : ∀ a : Nat, a < H.size → ¬ A a → H1[a]? = H[a]?) (h : x_st n d A u H) : x_st n d B U H1 := by
  obtain ⟨c, k, i, f, a, cell, v, h1, h2, h3, h4, h5, h6, h7, h8, h9, h10, h11, h12⟩ := h
  obtain ⟨k', hi', he⟩ := State.fieldFound?_setVm hvm h2
  exact ⟨c, k', i, f, a, cell, v, by rw [hvm.findClass]; exact h1, hi', h3, by rw [he]; exact h4, by rw [hq a (Array.getElem?_eq_some_iff.mp h5).1 h12]; exact h5, h6, h7, h8, by rw [he]; exact h9, h10, h11, fun z => h12 (hAB _ z)⟩
theorem x_st.lays {n d : String} {A : Nat → Prop} {U : State} {args : Array Value} (h : x_st n d A U U.heap) : (Cond.laysStatic Bundle.tN n d).before args U = true := by
  obtain ⟨c, k, i, f, a, cell, v, h1, h2, h3, h4, h5, h6, h7, h8, h9, -⟩ := h
  exact Cond.laysStatic_of (args := args) (first := U) (o := none) (s := U) (idx := []) h1 h2 h3 h4 h5 h6 h7 h8 h9
theorem x_st.isRef {n d : String} {A : Nat → Prop} {U : State} {args : Array Value} (h : x_st n d A U U.heap) : (Cond.isRef (.static Bundle.tN n d)).before args U = true := by
  obtain ⟨c, k, i, f, a, cell, v, h1, h2, h3, h4, h5, h6, h7, h8, h9, h10, h11, -⟩ := h
  have he : (Term.static Bundle.tN n d).eval args U none [] U = some v := by
    simp [Term.eval, State.fieldNamed?, h2, h3, h4, h5, h6, h10]
  simp only [Cond.before, Cond.holds, Cond.value, he]
  cases v <;> simp_all [Value.isRef]
def x_fl (j : Nat) : Int := if j = 0 then 37 else if j = 1 then 70 else if j = 2 then 49 else 10
/-- what stands fast around a world of roles -/
def xE (G : fG) : Nat → State → Prop := fun sz U => x_st "UNASSIGNED_STACK" Bundle.steD (f_A G sz) U U.heap ∧ x_st "SUPPRESSED_SENTINEL" Bundle.listD (f_A G sz) U U.heap ∧ (∀ p ∈ x_strs, ∃ a, vk_R RXA p.1 p.2 a U) ∧ (∀ w ∈ x_nest, va_Nw w U) ∧ (∀ w ∈ x_keep, va_Nw w U) ∧ (va_Nc "java/lang/IllegalArgumentException" "java/lang/IndexOutOfBoundsException" U ∧ va_Nc "java/lang/UnsupportedOperationException" "java/lang/IllegalArgumentException" U ∧ va_Nc "java/lang/UnsupportedOperationException" "java/lang/IllegalStateException" U) ∧ ∃ t, va_Z RXA "FIRST_LINE" "[B" (.ref t) (f_A G sz) U U.heap ∧ va_T .byte t 4 (fun j => .int (fI (x_fl j))) (f_A G sz) U U.heap
theorem f_A_le {G : fG} {a b : Nat} (h : a ≤ b) (q : Nat) (hq : f_A G b q) : f_A G a q := hq.imp id (fun h9 => Nat.le_trans h h9)
theorem xE_on {G G' : fG} {s U : State} {sz sz' : Nat} (hA : ∀ q, f_A G' sz' q → f_A G sz q) (hq : ∀ a : Nat, a < s.heap.size → ¬ f_A G sz a → U.heap[a]? = s.heap[a]?) (hW : s.WarmedH U.vm) (h : xE G sz s) : xE G' sz' U := by
  obtain ⟨h1, h2, h3, h4, h7, ⟨h8, h9, h10⟩, t, h5, h6⟩ := h
  refine ⟨h1.on hW.alike hA hq, h2.on hW.alike hA hq, fun p hp => ?_, fun w hw => ?_, fun w hw => ?_, ⟨h8.moved hW.alike, h9.moved hW.alike, h10.moved hW.alike⟩, t, (va_Z.narrow (va_Z.moved hW.alike (h5.kept hq)) hA), (va_T.narrow (va_T.moved hW.alike (h6.kept hq)) hA)⟩
  · obtain ⟨a, ha⟩ := h3 p hp
    exact ⟨a, ha.warm hW⟩
  · have h9 := h4 w hw
    unfold x_nest at hw
    simp only [List.mem_cons, List.not_mem_nil, or_false] at hw
    rcases hw with rfl | rfl | rfl
    · exact va_Nw.warmM hW h9
    · exact va_Nw.warmF hW h9
    · exact va_Nw.warmF hW h9
  · have h9 := h7 w hw
    unfold x_keep at hw
    simp only [List.mem_cons, List.not_mem_nil, or_false] at hw
    have key : ∀ w : Cond, w.onTables = true → (w.before #[] (s.setVm U.vm) = w.before #[] s) → va_Nw w s → va_Nw w U := fun w ho he hn => va_Nw.same (u := s.setVm U.vm) ho rfl (he.trans hn)
    rcases hw with rfl | rfl | rfl | rfl | rfl | rfl | rfl
    · exact key _ rfl (Cond.declares_setVm hW.alike _) h9
    · exact key _ rfl (Cond.declares_setVm hW.alike _) h9
    · exact key _ rfl (Cond.declares_setVm hW.alike _) h9
    · exact key _ rfl (Cond.castable_setVm hW.alike _ _) h9
    · exact key _ rfl (Cond.castable_setVm hW.alike _ _) h9
    · exact key _ rfl (Cond.castable_setVm hW.alike _ _) h9
    · exact key _ rfl (Cond.castable_setVm hW.alike _ _) h9
theorem xE_ok (G : fG) : f_E G (xE G) := by
  refine ⟨fun s U locs h hS hW => xE_on (f_A_le hS.1) hS.2.1 hW h, fun sz a U g mk h => ?_⟩
  exact xE_on (s := U) (U := U.calling g mk a) (fun q h => h) (fun a _ _ => rfl) (State.WarmedH.refl U) h
section XA
variable {z : fZ} {G : fG} {cc : ByteArray} {nL : Nat} {own : String} {Q : State → Prop} {kc ks : Nat} {σ : fS} {pc : Nat} {lv : List (Option Value)} {st : List Value} {E : Nat → State → Prop}
/-- throw new cls("text") in the class -/
theorem x_throw (C : fc z G cc nL RXA) (hE : xE G z.2.2.2.2.1.heap.size z.2.2.2.2.1) (hl : z.2.1.stackTraces = false) (htab : z.2.2.2.2.2.2.2.2.2.exceptionTable.toList = []) (hlocks : z.2.2.2.2.2.2.2.2.1.locks = false) {ik ic is mc ms : Nat} {cls text : String} {names : List String} {post : fS → Prop} (hcls : Bundle.fit cls = true) (hnames : names.all Bundle.fit = true)
    (hws : ∀ w ∈ tx_ws RXA ik ic cls names, w ∈ x_four ∨ w ∈ x_keep ∨ w ∈ A9) (hs : (is, text) ∈ x_strs)
    (d0 : decode cc pc = .ok (.new ik, 3)) (d3 : decode cc (pc + 3) = .ok (.dup, 1)) (d4 : decode cc (pc + 4) = .ok (.ldc is, 2)) (d6 : decode cc (pc + 6) = .ok (.invokespecial ic, 3)) (d9 : decode cc (pc + 9) = .ok (.athrow, 1))
    (hR : names.length + 3 < z.2.2.2.1.frames ∧ 13 * (names.length + 1) + 60 ≤ z.2.2.2.1.locals ∧ kc + 1 ≤ z.2.2.2.1.cells ∧ ks + 6 ≤ z.2.2.2.1.slots) (hm : kc + 1 ≤ mc ∧ ks + 6 ≤ ms) (hp : post σ) : fv z G nL (tx_R z G cls post mc ms) kc ks σ pc lv [] := by
  obtain ⟨sa, hsa⟩ := hE.2.2.1 _ hs
  refine tx_throw C hl htab hlocks hcls hnames (fun H locs hS U hvm hhp w hw => ?_) hsa d0 d3 d4 d6 d9 hR hm hp
  have hW : z.2.2.2.2.1.WarmedH U.vm := by rw [hvm]; exact State.WarmedH.refl _
  rcases hws w hw with h | h | h
  · have k1 : x_st "UNASSIGNED_STACK" Bundle.steD (f_A G z.2.2.2.2.1.heap.size) U U.heap := hE.1.on hW.alike (fun q h => h) (by rw [hhp]; exact hS.2.1)
    have k2 : x_st "SUPPRESSED_SENTINEL" Bundle.listD (f_A G z.2.2.2.2.1.heap.size) U U.heap := hE.2.1.on hW.alike (fun q h => h) (by rw [hhp]; exact hS.2.1)
    unfold x_four at h
    simp only [List.mem_cons, List.not_mem_nil, or_false] at h
    rcases h with rfl | rfl | rfl | rfl
    · exact k1.isRef
    · exact k2.isRef
    · exact k1.lays
    · exact k2.lays
  · exact va_Nw.use ((show ∀ w ∈ x_keep, w.onTables = true by decide +kernel) w h) (va_Nw.same ((show ∀ w ∈ x_keep, w.onTables = true by decide +kernel) w h) hvm.symm (hE.2.2.2.2.1 w h))
  · exact word_at hW (good9 h) (C.2.2.2.2.1 w h)
theorem u_cVI (C : fc z G cc nL own) (hE : f_E G E) (hz : E z.2.2.2.2.1.heap.size z.2.2.2.2.1) {dd : Nat} (hR : dd ≤ z.2.2.2.1.frames ∧ 40 * dd ≤ z.2.2.2.1.locals ∧ kc ≤ z.2.2.2.1.cells ∧ ks ≤ z.2.2.2.1.slots) {y : MethodName} {bytes : ByteArray} {maxL d index n k ci nf : Nat} {fs : Nat → Nat ⊕ Bool} {T : u_T} {CN : String} {ret : Option FieldType} {ws : List Cond} {As : List Value} {post : Int → fS → Prop}
    (hM : f_M z.2.1 G E y (Cond.code y bytes maxL ret :: ws) d σ (.ref (G.2.2.2.1 k) :: As) (f_QI post G)) (dg : decode cc pc = .ok (.invokevirtual index, 3)) (hN : k < G.2.2.2.2.2.2) (hY : G.2.2.2.2.2.1 k = .inl (ci, nf, fs)) (hc : G.2.1[ci]? = some (CN, T, nf)) (hg : GoodIn A9 (wsV own index CN y (Cond.code y bytes maxL ret :: ws)))
    (hd : y.cls = CN ∧ y.cls ≠ "java/lang/invoke/MethodHandle" ∧ y.cls ≠ "java/lang/invoke/VarHandle" ∧ (parseMethodDescriptor y.desc).map (fun d => d.parameters.length) = some n) (hlev : d + 1 ≤ dd) (hml : maxL ≤ 21) (hn : As.length = n) (hst : (st.map fun v => v.category).sum ≤ 8) {st0 : List Value} (hst0 : st0 = As.reverse ++ .ref (G.2.2.2.1 k) :: st)
    (kk : ∀ (r : Int) (σ' : fS), post r σ' → fv z G nL Q kc ks σ' (pc + 3) lv (.int (fI r) :: st)) : fv z G nL Q kc ks σ pc lv st0 := by
  intro H locs ls hP hS hl
  obtain ⟨r1, r2, r3, r4⟩ := hR
  subst hst0
  refine va_calli (va_runV (As := As) (rest := st) ⟨C.1, C.2.1, C.2.2.1, C.2.2.2.1, C.2.2.2.2.1⟩ (hM H.size) (cwV n C.2.2.2.2.1 hg rfl rfl rfl hd ⟨Nat.le_trans hlev r1, by show 8 + (maxL + 11) + 40 * d ≤ _; omega⟩) ⟨f_blind hE, va_recv C.2.2.2.2.2.1 hP hc (f_at1 hN hY), f_pre C hE hz hP hS⟩ rfl hn hl.1 rfl (lv_room hst) dg ⟨r3, r4⟩) hS (fun q _ h => f_sub hS q h) (fun q h => f_sub hS q h) ?_
  intro r u t H1 locs1 ht _ hw hB _ _ hS1
  obtain ⟨rfl, hp⟩ := hw
  exact kk u.1 u.2 hp H1 locs1 ls (by rw [← ht]; exact hB) hS1 hl
theorem u_cVV (C : fc z G cc nL own) (hE : f_E G E) (hz : E z.2.2.2.2.1.heap.size z.2.2.2.2.1) {dd : Nat} (hR : dd ≤ z.2.2.2.1.frames ∧ 40 * dd ≤ z.2.2.2.1.locals ∧ kc ≤ z.2.2.2.1.cells ∧ ks ≤ z.2.2.2.1.slots) {y : MethodName} {bytes : ByteArray} {maxL d index n k ci nf : Nat} {fs : Nat → Nat ⊕ Bool} {T : u_T} {CN : String} {ret : Option FieldType} {ws : List Cond} {As : List Value} {post : fS → Prop}
    (hM : f_M z.2.1 G E y (Cond.code y bytes maxL ret :: ws) d σ (.ref (G.2.2.2.1 k) :: As) (f_QV post G)) (dg : decode cc pc = .ok (.invokevirtual index, 3)) (hN : k < G.2.2.2.2.2.2) (hY : G.2.2.2.2.2.1 k = .inl (ci, nf, fs)) (hc : G.2.1[ci]? = some (CN, T, nf)) (hg : GoodIn A9 (wsV own index CN y (Cond.code y bytes maxL ret :: ws)))
    (hd : y.cls = CN ∧ y.cls ≠ "java/lang/invoke/MethodHandle" ∧ y.cls ≠ "java/lang/invoke/VarHandle" ∧ (parseMethodDescriptor y.desc).map (fun d => d.parameters.length) = some n) (hlev : d + 1 ≤ dd) (hml : maxL ≤ 21) (hn : As.length = n) (hst : (st.map fun v => v.category).sum ≤ 8) {st0 : List Value} (hst0 : st0 = As.reverse ++ .ref (G.2.2.2.1 k) :: st)
    (kk : ∀ (σ' : fS), post σ' → fv z G nL Q kc ks σ' (pc + 3) lv st) : fv z G nL Q kc ks σ pc lv st0 := by
  intro H locs ls hP hS hl
  obtain ⟨r1, r2, r3, r4⟩ := hR
  subst hst0
  refine va_callv (va_runV (As := As) (rest := st) ⟨C.1, C.2.1, C.2.2.1, C.2.2.2.1, C.2.2.2.2.1⟩ (hM H.size) (cwV n C.2.2.2.2.1 hg rfl rfl rfl hd ⟨Nat.le_trans hlev r1, by show 8 + (maxL + 11) + 40 * d ≤ _; omega⟩) ⟨f_blind hE, va_recv C.2.2.2.2.2.1 hP hc (f_at1 hN hY), f_pre C hE hz hP hS⟩ rfl hn hl.1 rfl (lv_room hst) dg ⟨r3, r4⟩) hS (fun q _ h => f_sub hS q h) (fun q h => f_sub hS q h) ?_
  intro u t H1 locs1 ht _ hp hB _ _ hS1
  exact kk u hp H1 locs1 ls (by rw [← ht]; exact hB) hS1 hl
theorem u_cSI (C : fc z G cc nL own) (hE : f_E G E) (hz : E z.2.2.2.2.1.heap.size z.2.2.2.2.1) {dd : Nat} (hR : dd ≤ z.2.2.2.1.frames ∧ 40 * dd ≤ z.2.2.2.1.locals ∧ kc ≤ z.2.2.2.1.cells ∧ ks ≤ z.2.2.2.1.slots) {y : MethodName} {bytes : ByteArray} {maxL d index n : Nat} {ret : Option FieldType} {ws : List Cond} {As : List Value} {post : Int → fS → Prop}
    (hM : f_M z.2.1 G E y (Cond.code y bytes maxL ret :: ws) d σ As (f_QI post G)) (dg : decode cc pc = .ok (.invokestatic index, 3)) (hg : GoodIn A9 (va_wsS own index y (Cond.code y bytes maxL ret :: ws)))
    (hd : y.cls ≠ "java/lang/invoke/MethodHandle" ∧ y.cls ≠ "java/lang/invoke/VarHandle" ∧ (parseMethodDescriptor y.desc).map (fun d => d.parameters.length) = some n) (hlev : d + 1 ≤ dd) (hml : maxL ≤ 21) (hn : As.length = n) (hst : (st.map fun v => v.category).sum ≤ 8) {st0 : List Value} (hst0 : st0 = As.reverse ++ st)
    (kk : ∀ (r : Int) (σ' : fS), post r σ' → fv z G nL Q kc ks σ' (pc + 3) lv (.int (fI r) :: st)) : fv z G nL Q kc ks σ pc lv st0 := by
  intro H locs ls hP hS hl
  obtain ⟨r1, r2, r3, r4⟩ := hR
  subst hst0
  refine va_calli (va_runS (As := As) (rest := st) ⟨C.1, C.2.1, C.2.2.1, C.2.2.2.1, C.2.2.2.2.1⟩ (hM H.size) (va_cwS n C.2.2.2.2.1 hg rfl rfl rfl hd ⟨Nat.le_trans hlev r1, by show 8 + (maxL + 11) + 40 * d ≤ _; omega⟩) ⟨f_blind hE, f_pre C hE hz hP hS⟩ rfl hn hl.1 rfl (lv_room hst) dg ⟨r3, r4⟩) hS (fun q _ h => f_sub hS q h) (fun q h => f_sub hS q h) ?_
  intro r u t H1 locs1 ht _ hw hB _ _ hS1
  obtain ⟨rfl, hp⟩ := hw
  exact kk u.1 u.2 hp H1 locs1 ls (by rw [← ht]; exact hB) hS1 hl
end XA
theorem x_zip_in {L : List Cond} {I : List Nat} (h1 : L.length = I.length) (h2 : ∀ q ∈ L.zip I, q.1 ∈ x_four ∨ q.1 ∈ x_keep ∨ (lw_tbl[q.2]? = some q.1 ∧ goodWord q.1 = true)) : ∀ w ∈ L, w ∈ x_four ∨ w ∈ x_keep ∨ w ∈ A9 := by
  intro w hw
  obtain ⟨k, hk, rfl⟩ := List.getElem_of_mem hw
  have hz : k < (L.zip I).length := by rw [List.length_zip]; omega
  have hm := h2 _ (List.getElem_mem hz)
  rw [List.getElem_zip] at hm
  exact hm.imp id (fun h => h.imp id (fun h => in9 (List.mem_of_getElem? h.1) h.2))
theorem x_wA : ∀ w ∈ tx_ws RXA 66 70 "java/lang/IllegalArgumentException" ["java/lang/RuntimeException", "java/lang/Exception"], w ∈ x_four ∨ w ∈ x_keep ∨ w ∈ A9 := x_zip_in (I := [492, 66, 62, 445, 454, 460, 463, 465, 446, 447, 87, 88, 448, 453, 461, 481, 435, 482, 437, 483, 439, 449, 450, 451, 452, 441, 477, 478, 480, 441, 503, 504, 505, 471, 427, 471, 472, 473, 474, 429, 474, 475, 476, 477, 431, 502, 493, 494, 495, 457, 496, 497, 498, 499, 0, 0, 444, 443, 500]) rfl (by decide +kernel)
theorem x_wS : ∀ w ∈ tx_ws RXA 136 140 "java/lang/IllegalStateException" ["java/lang/RuntimeException", "java/lang/Exception"], w ∈ x_four ∨ w ∈ x_keep ∨ w ∈ A9 := x_zip_in (I := [910, 80, 62, 445, 454, 460, 463, 465, 446, 447, 87, 88, 448, 453, 461, 481, 435, 482, 437, 483, 439, 449, 450, 451, 452, 441, 477, 478, 480, 441, 921, 922, 923, 471, 427, 471, 472, 473, 474, 429, 474, 475, 476, 477, 431, 920, 911, 912, 913, 458, 914, 915, 916, 917, 0, 0, 444, 443, 918]) rfl (by decide +kernel)
theorem x_wI : ∀ w ∈ tx_ws RXA 59 63 "java/lang/IndexOutOfBoundsException" ["java/lang/RuntimeException", "java/lang/Exception"], w ∈ x_four ∨ w ∈ x_keep ∨ w ∈ A9 := x_zip_in (I := [423, 65, 62, 445, 454, 460, 463, 465, 446, 447, 87, 88, 448, 453, 461, 481, 435, 482, 437, 483, 439, 449, 450, 451, 452, 441, 477, 478, 480, 441, 468, 469, 470, 471, 427, 471, 472, 473, 474, 429, 474, 475, 476, 477, 431, 467, 424, 425, 432, 433, 434, 436, 438, 440, 0, 0, 444, 443, 442]) rfl (by decide +kernel)
theorem x_wU : ∀ w ∈ tx_ws RXA 120 124 "java/lang/UnsupportedOperationException" ["java/lang/RuntimeException", "java/lang/Exception"], w ∈ x_four ∨ w ∈ x_keep ∨ w ∈ A9 := x_zip_in (I := [876, 79, 62, 445, 454, 460, 463, 465, 446, 447, 87, 88, 448, 453, 461, 481, 435, 482, 437, 483, 439, 449, 450, 451, 452, 441, 477, 478, 480, 441, 887, 888, 889, 471, 427, 471, 472, 473, 474, 429, 474, 475, 476, 477, 431, 886, 877, 878, 879, 459, 880, 881, 882, 883, 0, 0, 444, 443, 884]) rfl (by decide +kernel)
