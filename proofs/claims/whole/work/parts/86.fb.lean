/-! THE LAW'S BEGINNING -/
def kfc (z : fZ) (D : va_G) (cl : List vw_C) (tys : List (ClassId × FieldType)) (A : Nat → Prop) (cc : ByteArray) (nL : Nat) (own : String) : Prop :=
  z.1.tables.exec = Jvm.exec ∧ z.2.2.2.2.2.2.2.2.2.code = cc ∧ z.2.2.2.2.2.2.2.2.2.maxLocals = nL ∧ z.2.2.2.2.1.vm.findClass own = some z.2.2.2.2.2.1.cls ∧ (∀ w ∈ A9, w.before z.2.2.2.2.2.2.1 z.2.2.2.2.1 = true) ∧ va_K D cl tys z.2.2.2.2.1 ∧ (∀ q, z.2.2.2.2.1.heap.size ≤ q → A q) ∧ c_E z.2.2.2.2.1
section KA
variable {z : fZ} {D : va_G} {cl : List vw_C} {tys : List (ClassId × FieldType)} {A : Nat → Prop} {cc : ByteArray} {nL : Nat} {own : String} {Q : State → Prop} {kc ks : Nat} {ws : va_W} {pc : Nat} {lv : List (Option Value)} {st : List Value}
theorem k_iconst (C : kfc z D cl tys A cc nL own) {i : Int} (d : decode cc pc = .ok (.iconst i, 1)) (k : cj z D cl A nL Q kc ks ws (pc + 1) lv (.int (fI i) :: st)) : cj z D cl A nL Q kc ks ws pc lv st :=
  fun H locs ls hP hD hS hl => lv_iconst C.1 C.2.1 d rfl (k H locs ls hP hD hS hl)
theorem k_dup (C : kfc z D cl tys A cc nL own) {x : Value} (d : decode cc pc = .ok (.dup, 1)) (hx : x.category = 1) (kk : cj z D cl A nL Q kc ks ws (pc + 1) lv (x :: x :: st)) : cj z D cl A nL Q kc ks ws pc lv (x :: st) :=
  fun H locs ls hP hD hS hl => lv_dup C.1 C.2.1 d hx (kk H locs ls hP hD hS hl)
theorem k_new (C : kfc z D cl tys A cc nL own) {index ci N : Nat} {CN : String} {T : u_T} {ty : Nat → FieldType} {fs : List Value} (hin : ∀ w ∈ u_ws CN T N, w ∈ A9) (hty : ∀ k, k < N → parseFieldDescriptor (T k).2.2.1 = some (ty k)) (hlink : Cond.classLink own index CN ∈ A9) (hins : Cond.instantiable CN N ∈ A9) (hini : Cond.initialized CN ∈ A9) (hc : cl[ci]? = some (CN, T, N)) (hfs : ∀ j, j < N → defaultValue (ty j) = vp_V fs j) (d : decode cc pc = .ok (.new index, 3)) (hR : kc + 1 ≤ z.2.2.2.1.cells ∧ ks + N ≤ z.2.2.2.1.slots)
    (kk : ∀ q, cj z D cl A nL Q (kc + 1) (ks + N) (ws ++ [(q, .inr (ci, fs))]) (pc + 3) lv (.ref q :: st)) : cj z D cl A nL Q kc ks ws pc lv st :=
  fun H locs ls hP hD hS hl => va_new C.1 C.2.1 C.2.2.2.2.1 hin ty hty C.2.2.2.1 (C.2.2.2.2.1 _ hlink) (C.2.2.2.2.1 _ hins) (C.2.2.2.2.1 _ hini) C.2.2.2.2.2.1 hP hD hS C.2.2.2.2.2.2.1 hc hfs hR.1 hR.2 d (fun q H1 hP1 hD1 hS1 => kk q H1 locs ls hP1 hD1 hS1 hl)
theorem k_call (C : kfc z D cl tys A cc nL own) {x : Nat} {ex : va_E} {y : MethodName} {bytes : ByteArray} {maxL d mc2 ms2 index n : Nat} {As : List Value} {post2 : va_W → Prop} (hM : c_M z.2.1 D cl tys y (Cond.code y bytes maxL none :: A9) d mc2 ms2 x ex (.ref x :: As) post2) (dg : decode cc pc = .ok (.invokespecial index, 3))
    (hlk : (∃ host, va_Nw (.methodLinkNest own index y host) z.2.2.2.2.1) ∨ Cond.methodLink own index y ∈ A9) (hin : Cond.instanceMethod y ∈ A9) (hini : Cond.initialized y.cls ∈ A9) (hw : Cond.code y bytes maxL none ∈ A9) (hd : y.name = "<init>" ∧ y.cls ≠ "java/lang/invoke/MethodHandle" ∧ y.cls ≠ "java/lang/invoke/VarHandle" ∧ (parseMethodDescriptor y.desc).map (fun d => d.parameters.length) = some n) (hR : d + 1 ≤ z.2.2.2.1.frames ∧ 8 + (maxL + 11) + 40 * d ≤ z.2.2.2.1.locals ∧ kc + mc2 ≤ z.2.2.2.1.cells ∧ ks + ms2 ≤ z.2.2.2.1.slots) (hn : As.length = n) (hst : (st.map fun v => v.category).sum ≤ 8) {st0 : List Value} (hst0 : st0 = As.reverse ++ .ref x :: st)
    (kk : ∀ w, post2 w → cj z D cl A nL Q (kc + mc2) (ks + ms2) (ws ++ w) (pc + 3) lv st) : cj z D cl A nL Q kc ks (ws ++ [(x, ex)]) pc lv st0 := by
  intro H locs ls hP hD hS hl
  subst hst0
  have hg : GoodIn A9 (Cond.code y bytes maxL none :: A9) := fun w h => (List.mem_cons.mp h).elim (fun e => e ▸ ⟨hw, good9 hw⟩) (fun h => ⟨h, good9 h⟩)
  have hF : ∀ q, va_A [(x, ex)] H.size q → A q := va_free hD hS C.2.2.2.2.2.2.1 [ws.length] (by simp)
  have hPx : va_P D cl [(x, ex)] H := fun k q hq => by
    cases k with
    | zero => simp at hq; subst hq; exact hP ws.length _ (by simp)
    | succ k => simp at hq
  have hpre : PreS z.2.2.2.2.1 H (va_Pc (.ref x :: As) (fun U => U.heap.size = H.size ∧ va_P D cl [(x, ex)] U.heap ∧ va_K D cl tys U ∧ c_E U)) (.ref x :: As) := ⟨fun a U g mk q => by
      obtain ⟨q0, q1, qP, qK, qE⟩ := q
      exact ⟨q0, q1, qP, va_K.moved (u := U) (U := U.calling g mk a) (Vm.Alike.refl U.vm) qK, c_E_on (s := U) (U := U.calling g mk a) (State.WarmedH.refl U) qE⟩, fun U hU hW => ⟨rfl, by rw [hU], by rw [hU]; exact hPx, va_K.moved hW.alike C.2.2.2.2.2.1, c_E_on hW C.2.2.2.2.2.2.2⟩⟩
  have hrun : va_Run z.1 z.2.1 z.2.2.1 z.2.2.2.1 z.2.2.2.2.1 z.2.2.2.2.2.1 z.2.2.2.2.2.2.1 z.2.2.2.2.2.2.2.1 z.2.2.2.2.2.2.2.2.1 z.2.2.2.2.2.2.2.2.2 H locs kc ks mc2 ms2 (F0 z.2.2.2.2.2.1 pc ls (As.reverse ++ .ref x :: st)) st (va_Qv post2 (fun (w : va_W) t => va_P D cl w t.heap ∧ va_D (va_A [(x, ex)] H.size) w) (va_A [(x, ex)] H.size) (Value.ref x :: As).toArray) (va_A [(x, ex)] H.size) := by
    rcases hlk with ⟨host, hlk⟩ | hlk
    · exact va_runIN (As := As) (rest := st) ⟨C.1, C.2.1, C.2.2.1, C.2.2.2.1, C.2.2.2.2.1⟩ (hM H.size) ⟨va_cnB n C.2.2.2.2.1 hg rfl rfl rfl hlk (C.2.2.2.2.1 _ hini) hd.2 ⟨hR.1, hR.2.1⟩, hd.1, C.2.2.2.2.1 _ hin⟩ hpre rfl hn hl.1 rfl (lv_room hst) dg ⟨hR.2.2.1, hR.2.2.2⟩
    · exact va_runI (As := As) (rest := st) ⟨C.1, C.2.1, C.2.2.1, C.2.2.2.1, C.2.2.2.2.1⟩ (hM H.size) (cwI n C.2.2.2.2.1 hg rfl rfl rfl (C.2.2.2.2.1 _ hini) (C.2.2.2.2.1 _ hlk) (C.2.2.2.2.1 _ hin) hd.1 hd.2 ⟨hR.1, hR.2.1⟩) hpre rfl hn hl.1 rfl (lv_room hst) dg ⟨hR.2.2.1, hR.2.2.2⟩
  refine va_callv hrun hS (fun q _ h => hF q h) hF ?_
  intro u t H1 locs1 ht _ hp hB _ hk1 hS1
  obtain ⟨hP1, hD1⟩ := hB
  rw [ht] at hP1
  obtain ⟨hPj, hDj⟩ := c_join hP hD hk1 hF hP1 hD1
  exact kk u hp H1 locs1 ls hPj hDj hS1 hl
theorem k_astore_n (C : kfc z D cl tys A cc nL own) {k : Fin 4} {i x : Nat} (d : decode cc pc = .ok (.astore_n k, 1)) (hi : (k : Nat) = i) (hn : i < nL) (kk : cj z D cl A nL Q kc ks ws (pc + 1) (lv.set i (some (.ref x))) st) : cj z D cl A nL Q kc ks ws pc lv (.ref x :: st) :=
  fun H locs ls hP hD hS hl => lv_astore_n C.1 C.2.1 d hi hl.lv hn rfl (fun ls' h' => kk H locs ls' hP hD hS (hl.put rfl h'))
theorem k_istore (C : kfc z D cl tys A cc nL own) {i : Nat} {x : Int32} (d : decode cc pc = .ok (.istore i, 2)) (hn : i < nL) (kk : cj z D cl A nL Q kc ks ws (pc + 2) (lv.set i (some (.int x))) st) : cj z D cl A nL Q kc ks ws pc lv (.int x :: st) :=
  fun H locs ls hP hD hS hl => lv_istore C.1 C.2.1 d hl.lv hn rfl (fun ls' h' => kk H locs ls' hP hD hS (hl.put rfl h'))
theorem k_newl (C : kfc z D cl tys A cc nL own) {t : Nat} {cT : ClassId} (harr : Cond.arrayClass .long ∈ A9) (ht : tys[t]? = some (cT, .long)) {n : Int} (hn : 0 ≤ n ∧ n ≤ 100000) (d : decode cc pc = .ok (.newarray .long, 2)) (hR : kc + 1 ≤ z.2.2.2.1.cells ∧ ks + n.toNat ≤ z.2.2.2.1.slots)
    (kk : ∀ q, cj z D cl A nL Q (kc + 1) (ks + n.toNat) (ws ++ [(q, .inl (cT, n.toNat, .inr (.inl (fun _ => 0))))]) (pc + 2) lv (.ref q :: st)) : cj z D cl A nL Q kc ks ws pc lv (.int (fI n) :: st) := by
  intro H locs ls hP hD hS hl
  have hc := fI_clamp hn.1 (by omega : n ≤ 2147483647)
  refine va_newa (tys := tys) (atype := .long) (ty := .long) (a0 := (n.toNat, .inr (.inl (fun _ => 0)))) C.1 C.2.1 (C.2.2.2.2.1 _ harr) rfl C.2.2.2.2.2.1 hP hD hS C.2.2.2.2.2.2.1 (fun cA => rfl) (by rw [← fI_0, fI_lt (by omega) (by omega)]; omega) hc (by show n.toNat * _ ≤ _; simp [componentBytes]; omega) hR.1 hR.2 d (fun q cA H1 hK1 hP1 hD1 hS1 => ?_)
  have h1 := (C.2.2.2.2.2.1.2 t _ ht).2
  have h2 := (hK1.2 tys.length (cA, .long) (by simp)).2
  have e : cA = cT := Option.some.inj (h2.symm.trans h1)
  subst e
  exact kk q H1 locs ls hP1 hD1 hS1 hl
end KA
theorem k_sub1 {D : va_G} {cl : List vw_C} {w1 w2 : va_W} {H : Heap} (h : va_P D cl (w1 ++ w2) H) : va_P D cl w1 H := fun k q hq => h k q (by rw [List.getElem?_append_left (List.getElem?_eq_some_iff.mp hq).1]; exact hq)
theorem k_sub2 {D : va_G} {cl : List vw_C} {w1 w2 : va_W} {H : Heap} (h : va_P D cl (w1 ++ w2) H) : va_P D cl w2 H := fun k q hq => h (w1.length + k) q (by rw [List.getElem?_append_right (by omega), show w1.length + k - w1.length = k by omega]; exact hq)
theorem k_in1 {w1 w2 : va_W} {k : Nat} {q : Nat × va_E} (h : w1[k]? = some q) : (w1 ++ w2)[k]? = some q := by rw [List.getElem?_append_left (List.getElem?_eq_some_iff.mp h).1]; exact h
theorem k_in2 {w1 w2 : va_W} {k : Nat} {q : Nat × va_E} (h : w2[k]? = some q) : (w1 ++ w2)[w1.length + k]? = some q := by rw [List.getElem?_append_right (by omega), show w1.length + k - w1.length = k by omega]; exact h

set_option maxHeartbeats 4000000 in
/-- all three made: both worlds and out -/
theorem k_go {z : fZ} {D : va_G} {cA : Nat → ClassId} {b L h1 h2 a : Nat} {xs : Nat → Int32} {Q : State → Prop} {kc ks : Nat} {w1 w2 : va_W} (C : kfc z D lCl (w_tys cA) (l_new z) cL_law 7 RL) (hL : L = 28) (hxs : ∀ j : Nat, j < 28 → xs j = f_scr.getD j 0) (hl0 : z.2.1.stackTraces = false) (hX : xS (l_new z) z.2.2.2.2.1) (hx : va_X b L xs z.2.2.2.2.1 z.2.2.2.2.1.heap) (hb : b < z.2.2.2.2.1.heap.size) (hR : 10 ≤ z.2.2.2.1.frames ∧ 40 * 10 ≤ z.2.2.2.1.locals ∧ 601024 ≤ z.2.2.2.1.cells ∧ 7293034 ≤ z.2.2.2.1.slots) (hq : kc + 7 ≤ 601024 ∧ ks + 42 ≤ 7293034)
    (kret : ∀ (H : Heap) (ls : Array Slot), W z.1 z.2.1 z.2.2.1 z.2.2.2.1 z.2.2.2.2.1 z.2.2.2.2.2.1 z.2.2.2.2.2.2.1 z.2.2.2.2.2.2.2.1 z.2.2.2.2.2.2.2.2.1 z.2.2.2.2.2.2.2.2.2 H [] 601024 7293034 Q (F0 z.2.2.2.2.2.1 1011 ls [.int (fI 0)])) (k1 : c_ok D cA h1 w1) (k2 : cm_ok D cA h2 w2) : cj z D lCl (l_new z) 7 Q kc ks (([] ++ w1 ++ w2) ++ [(a, .inl (cA 4, 1, .inr (.inl (fun _ => 0))))]) 23 [some (.ref b), some (.ref h1), some (.ref h2), some (.ref a), some (.int (fI 0)), none, none] [] := by
  intro H locs ls hP hD hS hl
  rw [List.nil_append] at hP hD
  obtain ⟨ad, rfl, hw1, hf1⟩ := k1
  obtain ⟨am, rfl, hw2, hf2⟩ := k2
  have i1 : ∀ i, i < 383 → ∃ en, ((w1 ++ w2) ++ [(a, .inl (cA 4, 1, .inr (.inl (fun _ => 0))))] : va_W)[i]? = some (ad i, en) := fun i hi => by
    obtain ⟨en, h⟩ := hw1 i hi
    exact ⟨en, k_in1 (k_in1 h)⟩
  have i2 : ∀ j, j < 18 → ∃ en, ((w1 ++ w2) ++ [(a, .inl (cA 4, 1, .inr (.inl (fun _ => 0))))] : va_W)[w1.length + j]? = some (am j, en) := fun j hj => by
    obtain ⟨en, h⟩ := hw2 j hj
    exact ⟨en, k_in1 (k_in2 h)⟩
  have i3 : ((w1 ++ w2) ++ [(a, .inl (cA 4, 1, .inr (.inl (fun _ => 0))))] : va_W)[(w1 ++ w2).length + 0]? = some (a, .inl (cA 4, 1, .inr (.inl (fun _ => 0)))) := k_in2 rfl
  have l1 : ∀ i, i < 383 → i < w1.length := fun i hi => by
    obtain ⟨en, h⟩ := hw1 i hi
    exact (List.getElem?_eq_some_iff.mp h).1
  have l2 : ∀ j, j < 18 → j < w2.length := fun j hj => by
    obtain ⟨en, h⟩ := hw2 j hj
    exact (List.getElem?_eq_some_iff.mp h).1
  have l3 : (w1 ++ w2).length = w1.length + w2.length := List.length_append
  have C2 : lfc z D cA ad am a 7 b L xs cL_law RL := by
    refine ⟨C.1, C.2.1, C.2.2.1, C.2.2.2.1, C.2.2.2.2.1, C.2.2.2.2.2.1, fun i j hi hj e => ?_, fun i j hi hj e => ?_, fun i hi e => ?_, fun j hj e => ?_, fun i j hi hj e => ?_, fun i hi => ?_, fun j hj => ?_, ?_, hX, hx, hb⟩
    · obtain ⟨e1, g1⟩ := i1 i hi
      obtain ⟨e2, g2⟩ := i1 j hj
      exact hD.1 _ _ _ _ g1 g2 e
    · obtain ⟨e1, g1⟩ := i2 i hi
      obtain ⟨e2, g2⟩ := i2 j hj
      have := hD.1 _ _ _ _ g1 g2 e
      omega
    · obtain ⟨e1, g1⟩ := i1 i hi
      have := hD.1 _ _ _ _ i3 g1 e
      have := l1 i hi
      omega
    · obtain ⟨e1, g1⟩ := i2 j hj
      have := hD.1 _ _ _ _ i3 g1 e
      have := l2 j hj
      omega
    · obtain ⟨e1, g1⟩ := i1 i hi
      obtain ⟨e2, g2⟩ := i2 j hj
      have := hD.1 _ _ _ _ g1 g2 e
      have := l1 i hi
      omega
    · obtain ⟨e1, g1⟩ := i1 i hi
      exact hD.2 _ _ g1
    · obtain ⟨e1, g1⟩ := i2 j hj
      exact hD.2 _ _ g1
    · exact hD.2 _ _ i3
  have hgo : lj z D cA ad am a 7 Q kc ks x_0 x_0 0 23 [some (.ref b), some (.ref (ad 0)), some (.ref (am 0)), some (.ref a), some (.int (fI 0)), none, none] [] :=
    l_run C2 hL hl0 hxs hR hq.1 hq.2 (fun kc' ks' σ τ v lv g1 g2 H locs ls _ _ _ hS _ => W.widen g1 g2 (va_forget (fun q hq => hS.2.2 q hq) (kret H ls)))
  exact hgo H locs ls (hf1 H (k_sub1 (k_sub1 hP))) (hf2 H (k_sub2 (k_sub1 hP))) ⟨fun _ => 0, hP _ _ i3, rfl⟩ hS hl
set_option maxHeartbeats 4000000 in
theorem k_begin {z : fZ} {D : va_G} {cA : Nat → ClassId} {b L : Nat} {xs : Nat → Int32} {Q : State → Prop} (C : kfc z D lCl (w_tys cA) (l_new z) cL_law 7 RL) (hL : L = 28) (hxs : ∀ j : Nat, j < 28 → xs j = f_scr.getD j 0) (hl0 : z.2.1.stackTraces = false) (hX : xS (l_new z) z.2.2.2.2.1) (hx : va_X b L xs z.2.2.2.2.1 z.2.2.2.2.1.heap) (hb : b < z.2.2.2.2.1.heap.size) (hR : z.2.2.2.1 = room_1)
    (kret : ∀ (H : Heap) (ls : Array Slot), W z.1 z.2.1 z.2.2.1 z.2.2.2.1 z.2.2.2.2.1 z.2.2.2.2.2.1 z.2.2.2.2.2.2.1 z.2.2.2.2.2.2.2.1 z.2.2.2.2.2.2.2.2.1 z.2.2.2.2.2.2.2.2.2 H [] 601024 7293034 Q (F0 z.2.2.2.2.2.1 1011 ls [.int (fI 0)])) : cj z D lCl (l_new z) 7 Q 0 0 [] 0 [some (.ref b), none, none, none, none, none, none] [] := by
  refine k_new (ci := 1) (fs := [.null, .null, .null, .null, .null, .null]) C inXA tyXA_ok (in9_1 29 (by decide +kernel) rfl) (in9_1 30 (by decide +kernel) rfl) iXA rfl (by decide +kernel) dL_law_0 (by rw [hR]; exact ⟨by decide, by decide⟩) (fun h1 => ?_)
  refine k_dup C dL_law_3 rfl ?_
  refine k_call (n := 0) (st := [.ref h1]) C (cX_XA _ D cA h1) dL_law_4 (Or.inr (in9_1 31 (by decide +kernel) rfl)) (in9_1 32 (by decide +kernel) rfl) iXA wXA_init (by decide +kernel) (by rw [hR]; exact ⟨by decide, by decide, by decide, by decide⟩) rfl (Nat.le_of_ble_eq_true rfl) rfl (fun w1 k1 => ?_)
  refine k_astore_n C dL_law_7 rfl (by decide) ?_
  show cj z D lCl (l_new z) 7 Q (0 + 1 + 382) (0 + 6 + 33797) ([] ++ w1) 8 [some (.ref b), some (.ref h1), none, none, none, none, none] []
  refine k_new (ci := 0) (fs := [.int (fI 0), .null, .null, .null, .null, .null, .null, .int (fI 0), .null, .int (fI 0), .int (fI 0), .null, .null, .null, .null, .null, .int (fI 0), .int (fI 0), .null, .null, .int (fI 0), .int (fI 0), .int (fI 0), .int (fI 0), .int (fI 0), .null, .int (fI 0), .int (fI 0), .int (fI 0), .int (fI 0), .null, .null]) C inM tyM_ok (in9_5 15 (by decide +kernel) rfl) (in9_5 16 (by decide +kernel) rfl) iM rfl (by decide +kernel) dL_law_8 (by rw [hR]; exact ⟨by decide, by decide⟩) (fun h2 => ?_)
  refine k_dup C dL_law_11 rfl ?_
  refine k_call (n := 0) (st := [.ref h2]) C (cM_new _ D cA h2) dL_law_12 (Or.inr (in9_5 17 (by decide +kernel) rfl)) (in9_5 18 (by decide +kernel) rfl) iM wM_init (by decide +kernel) (by rw [hR]; exact ⟨by decide, by decide, by decide, by decide⟩) rfl (Nat.le_of_ble_eq_true rfl) rfl (fun w2 k2 => ?_)
  refine k_astore_n C dL_law_15 rfl (by decide) ?_
  show cj z D lCl (l_new z) 7 Q (0 + 1 + 382 + 1 + 17) (0 + 6 + 33797 + 32 + 24847) ([] ++ w1 ++ w2) 16 [some (.ref b), some (.ref h1), some (.ref h2), none, none, none, none] []
  refine k_iconst C dL_law_16 ?_
  refine k_newl (t := 4) C (in9_6 69 (by decide +kernel) rfl) rfl (by decide) dL_law_17 (by rw [hR]; exact ⟨by decide, by decide⟩) (fun a => ?_)
  refine k_astore_n C dL_law_19 rfl (by decide) ?_
  refine k_iconst C dL_law_20 ?_
  refine k_istore C dL_law_21 (by decide) ?_
  show cj z D lCl (l_new z) 7 Q (0 + 1 + 382 + 1 + 17 + 1) (0 + 6 + 33797 + 32 + 24847 + 1) (([] ++ w1 ++ w2) ++ [(a, .inl (cA 4, 1, .inr (.inl (fun _ => 0))))]) 23 [some (.ref b), some (.ref h1), some (.ref h2), some (.ref a), some (.int (fI 0)), none, none] []
  exact k_go C hL hxs hl0 hX hx hb (by rw [hR]; exact ⟨by decide, by decide, by decide, by decide⟩) ⟨by decide, by decide⟩ kret k1 k2
