section
/-! CONSTRUCTORS: the cells that there are, in a list; a row an instruction -/
def cj (z : fZ) (D : va_G) (cl : List vw_C) (A : Nat → Prop) (nL : Nat) (Q : State → Prop) (kc ks : Nat) (ws : va_W) (pc : Nat) (lv : List (Option Value)) (st : List Value) : Prop :=
  ∀ (H : Heap) (locs : List Loc) (ls : Array Slot), va_P D cl ws H → va_D A ws → va_S A z.2.2.2.2.1.heap H locs → f_has ls nL lv →
    W z.1 z.2.1 z.2.2.1 z.2.2.2.1 z.2.2.2.2.1 z.2.2.2.2.2.1 z.2.2.2.2.2.2.1 z.2.2.2.2.2.2.2.1 z.2.2.2.2.2.2.2.2.1 z.2.2.2.2.2.2.2.2.2 H locs kc ks Q (F0 z.2.2.2.2.2.1 pc ls st)
/-- nest words of the constructors, and the class of arrays of tables -/
def x_nestc : List Cond := [.methodLinkNest RXA 9 yXS_init RXA, .methodLinkNest RXA 18 yXF_init RXA, .methodLinkNest RXH 17 yXT_init RXA, .methodLinkNest RXC 21 yXT_init RXA, .methodLinkNest RXD 21 yXT_init RXA, .methodLinkNest RXA 50 yXG_init RXA]
def c_E (U : State) : Prop := (∀ w ∈ x_nestc, va_Nw w U) ∧ va_AO RXT U
theorem c_E_on {s U : State} (hW : s.WarmedH U.vm) (h : c_E s) : c_E U := by
  refine ⟨fun w hw => ?_, ?_⟩
  · have h9 := h.1 w hw
    unfold x_nestc at hw
    simp only [List.mem_cons, List.not_mem_nil, or_false] at hw
    rcases hw with rfl | rfl | rfl | rfl | rfl | rfl <;> exact va_Nw.warmM hW h9
  · exact va_AO.moved hW.alike h.2
def cfc (z : fZ) (D : va_G) (cl : List vw_C) (tys : List (ClassId × FieldType)) (A : Nat → Prop) (cc : ByteArray) (nL : Nat) (own : String) : Prop :=
  z.1.tables.exec = Jvm.exec ∧ z.2.2.2.2.2.2.2.2.2.code = cc ∧ z.2.2.2.2.2.2.2.2.2.maxLocals = nL ∧ z.2.2.2.2.1.vm.findClass own = some z.2.2.2.2.2.1.cls ∧ (∀ w ∈ A9, w.before z.2.2.2.2.2.2.1 z.2.2.2.2.1 = true) ∧ va_K D cl tys z.2.2.2.2.1 ∧ (∀ q, z.2.2.2.2.1.heap.size ≤ q → A q) ∧ z.2.2.2.2.2.2.2.2.1.name = "<init>" ∧ c_E z.2.2.2.2.1
section CA
variable {z : fZ} {D : va_G} {cl : List vw_C} {tys : List (ClassId × FieldType)} {A : Nat → Prop} {cc : ByteArray} {nL : Nat} {own : String} {Q : State → Prop} {kc ks : Nat} {ws : va_W} {pc : Nat} {lv : List (Option Value)} {st : List Value}
theorem c_iconst (C : cfc z D cl tys A cc nL own) {i : Int} (d : decode cc pc = .ok (.iconst i, 1)) (k : cj z D cl A nL Q kc ks ws (pc + 1) lv (.int (fI i) :: st)) : cj z D cl A nL Q kc ks ws pc lv st :=
  fun H locs ls hP hD hS hl => lv_iconst C.1 C.2.1 d rfl (k H locs ls hP hD hS hl)
theorem c_bipush (C : cfc z D cl tys A cc nL own) {i : Int} (d : decode cc pc = .ok (.bipush i, 2)) (hi : (Int8.ofInt i).toInt32 = fI i) (k : cj z D cl A nL Q kc ks ws (pc + 2) lv (.int (fI i) :: st)) : cj z D cl A nL Q kc ks ws pc lv st :=
  fun H locs ls hP hD hS hl => lv_bipush C.1 C.2.1 d hi (k H locs ls hP hD hS hl)
theorem c_sipush (C : cfc z D cl tys A cc nL own) {i : Int} (d : decode cc pc = .ok (.sipush i, 3)) (hi : (Int16.ofInt i).toInt32 = fI i) (k : cj z D cl A nL Q kc ks ws (pc + 3) lv (.int (fI i) :: st)) : cj z D cl A nL Q kc ks ws pc lv st :=
  fun H locs ls hP hD hS hl => lv_sipush C.1 C.2.1 d hi (k H locs ls hP hD hS hl)
theorem c_iload_n (C : cfc z D cl tys A cc nL own) {k : Fin 4} {i : Nat} {x : Int32} (d : decode cc pc = .ok (.iload_n k, 1)) (hi : (k : Nat) = i) (hx : lv[i]? = some (some (.int x))) (kk : cj z D cl A nL Q kc ks ws (pc + 1) lv (.int x :: st)) : cj z D cl A nL Q kc ks ws pc lv st :=
  fun H locs ls hP hD hS hl => lv_iload_n C.1 C.2.1 d hi (hl.2.2.1 i _ hx) (kk H locs ls hP hD hS hl)
theorem c_aload_n (C : cfc z D cl tys A cc nL own) {k : Fin 4} {i : Nat} {x : Nat} (d : decode cc pc = .ok (.aload_n k, 1)) (hi : (k : Nat) = i) (hx : lv[i]? = some (some (.ref x))) (kk : cj z D cl A nL Q kc ks ws (pc + 1) lv (.ref x :: st)) : cj z D cl A nL Q kc ks ws pc lv st :=
  fun H locs ls hP hD hS hl => lv_aload_n C.1 C.2.1 d hi (hl.2.2.1 i _ hx) (kk H locs ls hP hD hS hl)
theorem c_istore_n (C : cfc z D cl tys A cc nL own) {k : Fin 4} {i : Nat} {x : Int32} (d : decode cc pc = .ok (.istore_n k, 1)) (hi : (k : Nat) = i) (hn : i < nL) (kk : cj z D cl A nL Q kc ks ws (pc + 1) (lv.set i (some (.int x))) st) : cj z D cl A nL Q kc ks ws pc lv (.int x :: st) :=
  fun H locs ls hP hD hS hl => lv_istore_n C.1 C.2.1 d hi hl.lv hn rfl (fun ls' h' => kk H locs ls' hP hD hS (hl.put rfl h'))
theorem c_dup (C : cfc z D cl tys A cc nL own) {x : Value} (d : decode cc pc = .ok (.dup, 1)) (hx : x.category = 1) (kk : cj z D cl A nL Q kc ks ws (pc + 1) lv (x :: x :: st)) : cj z D cl A nL Q kc ks ws pc lv (x :: st) :=
  fun H locs ls hP hD hS hl => lv_dup C.1 C.2.1 d hx (kk H locs ls hP hD hS hl)
theorem c_goto (C : cfc z D cl tys A cc nL own) {off : Int} {tgt : Nat} (d : decode cc pc = .ok (.goto off, 3)) (ht : (pc : Int) + off = (tgt : Int)) (kk : cj z D cl A nL Q kc ks ws tgt lv st) : cj z D cl A nL Q kc ks ws pc lv st :=
  fun H locs ls hP hD hS hl => lv_goto C.1 C.2.1 d ht (kk H locs ls hP hD hS hl)
theorem c_iinc (C : cfc z D cl tys A cc nL own) {i : Nat} {n a : Int} (d : decode cc pc = .ok (.iinc i n, 3)) (hx : lv[i]? = some (some (.int (fI a)))) (hn : i < nL) (kk : cj z D cl A nL Q kc ks ws (pc + 3) (lv.set i (some (.int (fI (a + n))))) st) : cj z D cl A nL Q kc ks ws pc lv st :=
  fun H locs ls hP hD hS hl => by
    obtain ⟨q, hq⟩ := List.getElem?_of_mem (f_lv_mem.mpr hx)
    exact lv_iinc C.1 C.2.1 d hl.lv hq (fI_add a n) hn rfl (fun ls' h' => kk H locs ls' hP hD hS (hl.put rfl h'))
theorem c_icmp_ge (C : cfc z D cl tys A cc nL own) {a b off : Int} {tgt : Nat} (d : decode cc pc = .ok (.if_icmp .ge off, 3)) (ht : (pc : Int) + off = (tgt : Int)) (ha : -2147483648 ≤ a ∧ a ≤ 2147483647) (hb : -2147483648 ≤ b ∧ b ≤ 2147483647) (kt : b ≤ a → cj z D cl A nL Q kc ks ws tgt lv st) (kf : ¬ b ≤ a → cj z D cl A nL Q kc ks ws (pc + 3) lv st) : cj z D cl A nL Q kc ks ws pc lv (.int (fI b) :: .int (fI a) :: st) :=
  fun H locs ls hP hD hS hl => lv_icmp_ge C.1 C.2.1 d ht (fun h => kt ((fI_le hb ha).mp h) H locs ls hP hD hS hl) (fun h => kf (fun q => h ((fI_le hb ha).mpr q)) H locs ls hP hD hS hl)
theorem c_obj (C : cfc z D cl tys A cc nL own) {idx a : Nat} (hlink : Cond.methodLink own idx Lib.objectInit ∈ A9) (hinst : Cond.instanceMethod Lib.objectInit ∈ A9) (hcode : Cond.code Lib.objectInit ⟨#[0xb1]⟩ 1 none ∈ A9) (d : decode cc pc = .ok (.invokespecial idx, 3)) (hR : 1 ≤ z.2.2.2.1.frames ∧ 12 ≤ z.2.2.2.1.locals) (kk : cj z D cl A nL Q kc ks ws (pc + 3) lv []) : cj z D cl A nL Q kc ks ws pc lv [.ref a] :=
  fun H locs ls hP hD hS hl => W.objInit C.1 C.2.1 C.2.2.2.1 (C.2.2.2.2.1 _ hlink) (C.2.2.2.2.1 _ hinst) (C.2.2.2.2.1 _ hcode) rfl (hl.1.trans C.2.2.1.symm) rfl d hR.1 (by show 2 * 0 + (([] : List Value).map fun v => v.category).sum + 12 ≤ _; simp; exact hR.2) (kk H locs ls hP hD hS hl)
/-- a new array of numbers, its class known -/
theorem c_newa (C : cfc z D cl tys A cc nL own) {atype : ArrayType} {t : Nat} {cT : ClassId} {ty : FieldType} (harr : Cond.arrayClass (newarray.typeOf atype) ∈ A9) (hty : newarray.typeOf atype = ty) (ht : tys[t]? = some (cT, ty)) (hpr : ty = .int ∨ ty = .byte ∨ ty = .boolean) {n : Int} (hn : 0 ≤ n ∧ n ≤ 100000) (d : decode cc pc = .ok (.newarray atype, 2)) (hR : kc + 1 ≤ z.2.2.2.1.cells ∧ ks + n.toNat ≤ z.2.2.2.1.slots)
    (kk : ∀ q, cj z D cl A nL Q (kc + 1) (ks + n.toNat) (ws ++ [(q, .inl (cT, n.toNat, .inl (fun _ => fI 0)))]) (pc + 2) lv (.ref q :: st)) : cj z D cl A nL Q kc ks ws pc lv (.int (fI n) :: st) := by
  intro H locs ls hP hD hS hl
  have hc := fI_clamp hn.1 (by omega : n ≤ 2147483647)
  refine va_newa (tys := tys) (a0 := (n.toNat, .inl (fun _ => fI 0))) C.1 C.2.1 (C.2.2.2.2.1 _ harr) hty C.2.2.2.2.2.1 hP hD hS C.2.2.2.2.2.2.1 (fun cA => ?_) (by rw [← fI_0, fI_lt (by omega) (by omega)]; omega) hc (by rcases hpr with rfl | rfl | rfl <;> (show n.toNat * _ ≤ _; simp [componentBytes]; omega)) hR.1 hR.2 d (fun q cA H1 hK1 hP1 hD1 hS1 => ?_)
  · rw [fI_0]; rcases hpr with rfl | rfl | rfl <;> rfl
  · have h1 := (C.2.2.2.2.2.1.2 t _ ht).2
    have h2 := (hK1.2 tys.length (cA, ty) (by simp)).2
    have e : cA = cT := by
      rcases hpr with rfl | rfl | rfl <;> exact Option.some.inj (h2.symm.trans h1)
    subst e
    exact kk q H1 locs ls hP1 hD1 hS1 hl
theorem c_newq (C : cfc z D cl tys A cc nL own) {index t : Nat} {cT : ClassId} (hlink : Cond.classLink own index RXT ∈ A9) (ht : tys[t]? = some (cT, .object RXT)) {n : Int} (hn : 0 ≤ n ∧ n ≤ 100000) (d : decode cc pc = .ok (.anewarray index, 3)) (hR : kc + 1 ≤ z.2.2.2.1.cells ∧ ks + n.toNat ≤ z.2.2.2.1.slots)
    (kk : ∀ q, cj z D cl A nL Q (kc + 1) (ks + n.toNat) (ws ++ [(q, .inl (cT, n.toNat, .inr (.inr (.inr (.inr (fun _ => none))))))]) (pc + 3) lv (.ref q :: st)) : cj z D cl A nL Q kc ks ws pc lv (.int (fI n) :: st) := by
  intro H locs ls hP hD hS hl
  have hc := fI_clamp hn.1 (by omega : n ≤ 2147483647)
  refine va_newq (tys := tys) C.1 C.2.1 C.2.2.2.1 (C.2.2.2.2.1 _ hlink) C.2.2.2.2.2.2.2.2.2 C.2.2.2.2.2.1 hP hD hS C.2.2.2.2.2.2.1 (by rw [← fI_0, fI_lt (by omega) (by omega)]; omega) hc (by omega) hR.1 hR.2 d (fun q cA H1 hK1 hP1 hD1 hS1 => ?_)
  obtain ⟨k1, c1, -, -, -, h1⟩ := (C.2.2.2.2.2.1.2 t _ ht).2
  obtain ⟨k2, c2, -, -, -, h2⟩ := (hK1.2 tys.length (cA, .object RXT) (by simp)).2
  have e : cA = cT := Option.some.inj (h2.symm.trans h1)
  subst e
  exact kk q H1 locs ls hP1 hD1 hS1 hl
theorem c_new (C : cfc z D cl tys A cc nL own) {index ci N : Nat} {CN : String} {T : u_T} {ty : Nat → FieldType} {fs : List Value} (hin : ∀ w ∈ u_ws CN T N, w ∈ A9) (hty : ∀ k, k < N → parseFieldDescriptor (T k).2.2.1 = some (ty k)) (hlink : Cond.classLink own index CN ∈ A9) (hins : Cond.instantiable CN N ∈ A9) (hini : Cond.initialized CN ∈ A9) (hc : cl[ci]? = some (CN, T, N)) (hfs : ∀ j, j < N → defaultValue (ty j) = vp_V fs j) (d : decode cc pc = .ok (.new index, 3)) (hR : kc + 1 ≤ z.2.2.2.1.cells ∧ ks + N ≤ z.2.2.2.1.slots)
    (kk : ∀ q, cj z D cl A nL Q (kc + 1) (ks + N) (ws ++ [(q, .inr (ci, fs))]) (pc + 3) lv (.ref q :: st)) : cj z D cl A nL Q kc ks ws pc lv st :=
  fun H locs ls hP hD hS hl => va_new C.1 C.2.1 C.2.2.2.2.1 hin ty hty C.2.2.2.1 (C.2.2.2.2.1 _ hlink) (C.2.2.2.2.1 _ hins) (C.2.2.2.2.1 _ hini) C.2.2.2.2.2.1 hP hD hS C.2.2.2.2.2.2.1 hc hfs hR.1 hR.2 d (fun q H1 hP1 hD1 hS1 => kk q H1 locs ls hP1 hD1 hS1 hl)
theorem c_put (C : cfc z D cl tys A cc nL own) {index ci N k a q0 : Nat} {CN ref : String} {T : u_T} {ty0 : Nat → FieldType} {ty : FieldType} {fs : List Value} {v : Value} (hin : ∀ w ∈ u_ws CN T N, w ∈ A9) (hty : ∀ k, k < N → parseFieldDescriptor (T k).2.2.1 = some (ty0 k)) (hnm : ∀ a, a < N → ∀ b, b < N → a ≠ b → (T a).2.1 ≠ (T b).2.1) (he : ws[q0]? = some (a, .inr (ci, fs))) (hc : cl[ci]? = some (CN, T, N)) (hk : k < N) (hlink : Cond.fieldLink own index ref (T k).2.1 (T k).2.2.1 ∈ A9) (href : (T k).1 = ref) (hfin : (T k).2.2.2 = true) (hdecl : (T k).1 = own) (hd : parseFieldDescriptor (T k).2.2.1 = some ty) (hn : narrow ty v = v) (hfit : fits ty v = true) (hl9 : k < fs.length) (d : decode cc pc = .ok (.putfield index, 3))
    (kk : cj z D cl A nL Q kc ks (ws.set q0 (a, .inr (ci, fs.set k v))) (pc + 3) lv st) : cj z D cl A nL Q kc ks ws pc lv (v :: .ref a :: st) :=
  fun H locs ls hP hD hS hl => va_putF C.1 C.2.1 C.2.2.2.2.1 hin ty0 hty hnm C.2.2.2.1 C.2.2.2.2.2.1 hP hD hS q0 he hc k hk (C.2.2.2.2.1 _ hlink) (by rw [href]; exact fun _ h => h) hfin C.2.2.2.2.2.2.2.1 hdecl hd hn hfit hl9 d (fun H1 locs1 hP1 hD1 hS1 => kk H1 locs1 ls hP1 hD1 hS1 hl)
theorem c_get (C : cfc z D cl tys A cc nL own) {index ci N k a q0 : Nat} {CN ref : String} {T : u_T} {fs : List Value} {v : Value} (hin : ∀ w ∈ u_ws CN T N, w ∈ A9) (he : ws[q0]? = some (a, .inr (ci, fs))) (hc : cl[ci]? = some (CN, T, N)) (hk : k < N) (hlink : Cond.fieldLink own index ref (T k).2.1 (T k).2.2.1 ∈ A9) (href : (T k).1 = ref) (hv : fs[k]? = some v) (d : decode cc pc = .ok (.getfield index, 3)) (kk : cj z D cl A nL Q kc ks ws (pc + 3) lv (v :: st)) : cj z D cl A nL Q kc ks ws pc lv (.ref a :: st) :=
  fun H locs ls hP hD hS hl => va_get C.1 C.2.1 C.2.2.2.2.1 hin C.2.2.2.1 C.2.2.2.2.2.1 hP q0 he hc k hk (C.2.2.2.2.1 _ hlink) (by rw [href]; exact fun _ h => h) hv d (kk H locs ls hP hD hS hl)
theorem c_ast (C : cfc z D cl tys A cc nL own) {q0 t0 qk ci a n v : Nat} {cT : ClassId} {r : vw_C} {vs : List Value} {f : Nat → Option Nat} (ha : ws[q0]? = some (a, .inl (cT, n, .inr (.inr (.inr (.inr f)))))) (ht : tys[t0]? = some (cT, .object r.1)) (hv : ws[qk]? = some (v, .inr (ci, vs))) (hc : cl[ci]? = some r) {i : Int} (hi : 0 ≤ i ∧ i < n) (hn : n ≤ 2147483647) (d : decode cc pc = .ok (.aastore, 1))
    (kk : cj z D cl A nL Q kc ks (ws.set q0 (a, .inl (cT, n, .inr (.inr (.inr (.inr (va_up f i.toNat (some v)))))))) (pc + 1) lv st) : cj z D cl A nL Q kc ks ws pc lv (.ref v :: .int (fI i) :: .ref a :: st) :=
  fun H locs ls hP hD hS hl => va_astq C.1 C.2.1 C.2.2.2.2.2.1 hP hD hS q0 t0 qk ci ha ht hv hc (fI_in hi.1 hi.2 hn) d (fun H1 locs1 hP1 hD1 hS1 => kk H1 locs1 ls (by rw [fI_clamp hi.1 (by omega)] at hP1; exact hP1) (by rw [fI_clamp hi.1 (by omega)] at hD1; exact hD1) hS1 hl)
end CA
/-- a constructor's contract: from the object fresh at h0 to the cells w, of which post holds -/
def c_M (l : Launch) (D : va_G) (cl : List vw_C) (tys : List (ClassId × FieldType)) (y : MethodName) (ws : List Cond) (d mc ms : Nat) (h0 : Nat) (e0 : va_E) (av : List Value) (post : va_W → Prop) : Prop :=
  ∀ sz, Met l y ws (tx_rm d mc ms) (va_Pc av (fun U => U.heap.size = sz ∧ va_P D cl [(h0, e0)] U.heap ∧ va_K D cl tys U ∧ c_E U)) (va_Qv post (fun (w : va_W) t => va_P D cl w t.heap ∧ va_D (va_A [(h0, e0)] sz) w) (va_A [(h0, e0)] sz)) mc ms (va_A [(h0, e0)] sz)
def c_R (z : fZ) (D : va_G) (cl : List vw_C) (h0 : Nat) (e0 : va_E) (post : va_W → Prop) (mc ms : Nat) : State → Prop := MQ z.2.2.2.2.2.2.2.1 (va_Qv post (fun (w : va_W) t => va_P D cl w t.heap ∧ va_D (va_A [(h0, e0)] z.2.2.2.2.1.heap.size) w) (va_A [(h0, e0)] z.2.2.2.2.1.heap.size)) z.2.2.2.2.2.2.1 z.2.2.2.2.1 mc ms (va_A [(h0, e0)] z.2.2.2.2.1.heap.size)
theorem c_enter {l : Launch} {D : va_G} {cl : List vw_C} {tys : List (ClassId × FieldType)} {y : MethodName} {cc : ByteArray} {nL d mc ms h0 : Nat} {e0 : va_E} {av : List Value} {post : va_W → Prop} (hy : plainName y.cls = true) (hyn : y.name = "<init>") (hav : (av.map (fun v => v.category)).all (fun c => c == 1) = true) (hlen : av.length ≤ nL)
    (body : ∀ z : fZ, z.2.1 = l → z.2.2.2.1 = tx_rm d mc ms → cfc z D cl tys (va_A [(h0, e0)] z.2.2.2.2.1.heap.size) cc nL y.cls → z.2.2.2.2.2.2.2.2.1.sig.returnType = none → z.2.2.2.2.2.2.2.2.1.locks = false → cj z D cl (va_A [(h0, e0)] z.2.2.2.2.1.heap.size) nL (c_R z D cl h0 e0 post mc ms) 0 0 [(h0, e0)] 0 (av.map some ++ List.replicate (nL - av.length) none) []) : c_M l D cl tys y (Cond.code y cc nL none :: A9) d mc ms h0 e0 av post := by
  intro sz
  refine Met.ofW (cc := cc) (maxL := nL) (ret := none) hy rfl ?_
  intro p e s m args below meth c s₁ B hml hv
  obtain ⟨rfl, hsz, hP, hK, hE⟩ := hv
  subst hsz
  have hpre : ∀ w ∈ Cond.code y cc nL none :: A9, w.before av.toArray s = true := atoms_spec (ws := Cond.code y cc nL none :: A9) B.pre
  have hnm : meth.name = "<init>" := ((name_of_methodNamed B.named B.method).1).trans hyn
  have hfin := body (p, l, e, tx_rm d mc ms, s, m, av.toArray, below, meth, c) rfl rfl ⟨B.exec, B.bytes, hml, findClass_of_methodNamed B.named, (fun w h => hpre w (List.mem_cons_of_mem _ h)), hK, fun q h => Or.inr h, hnm, hE⟩ B.returns B.notSynchronized
  have h1 : ∀ v ∈ av, v.category = 1 := by
    intro v hv
    have h2 := List.all_eq_true.mp hav v.category (List.mem_map.mpr ⟨v, hv, rfl⟩)
    simpa using h2
  have hsl : lg_sl av = av.map Slot.val := f_sl1 av h1
  have hl := lv_entry av (n := nL) (by rw [hsl]; simpa using hlen)
  have hD0 : va_D (va_A [(h0, e0)] s.heap.size) [(h0, e0)] := ⟨fun i j x y hx hy _ => by
      cases i <;> cases j <;> simp_all, fun k q hq => va_A.in hq⟩
  rw [lg_entry_eq]
  refine hfin s.heap [] _ hP hD0 va_S.rf ⟨hl.1, hl.2.1, fun i v hi => ?_, fun i v hi => ?_⟩
  all_goals
    have hi2 : i < av.length := by
      by_cases h : i < av.length
      · exact h
      · rw [List.getElem?_append_right (by simpa using h), List.getElem?_replicate] at hi
        split at hi <;> simp at hi
    rw [List.getElem?_append_left (by simpa using hi2), List.getElem?_map] at hi
    cases h9 : av[i]? with
    | none => rw [h9] at hi; cases hi
    | some w =>
      rw [h9] at hi
      simp at hi
      subst hi
      first
        | (rw [hsl, List.getElem?_toArray, List.getElem?_append_left (by simpa using hi2), List.getElem?_map, h9]; rfl)
        | exact h1 w (List.mem_of_getElem? h9)
section CB
variable {z : fZ} {D : va_G} {cl : List vw_C} {tys : List (ClassId × FieldType)} {A : Nat → Prop} {cc : ByteArray} {nL : Nat} {own : String} {Q : State → Prop} {kc ks mc ms h0 : Nat} {e0 : va_E} {ws : va_W} {pc : Nat} {lv : List (Option Value)} {st : List Value} {post : va_W → Prop}
theorem c_ret (C : cfc z D cl tys (va_A [(h0, e0)] z.2.2.2.2.1.heap.size) cc nL own) (hr : z.2.2.2.2.2.2.2.2.1.sig.returnType = none) (hk : z.2.2.2.2.2.2.2.2.1.locks = false) (d : decode cc pc = .ok (.return_, 1)) (hc : kc ≤ mc ∧ ks ≤ ms) (hp : post ws) : cj z D cl (va_A [(h0, e0)] z.2.2.2.2.1.heap.size) nL (c_R z D cl h0 e0 post mc ms) kc ks ws pc lv [] :=
  fun _ _ _ hP hD hS _ => W.widen hc.1 hc.2 (W.vret C.1 C.2.1 hr (fun t ht _ => ⟨⟨ws, rfl, hp, by rw [ht]; exact hP, hD⟩, hS.F ht⟩) hS.2.2 d hk)
theorem c_join {H H1 : Heap} {x : Nat × va_E} {w1 : va_W} (hP : va_P D cl (ws ++ [x]) H) (hD : va_D A (ws ++ [x])) (hk : ∀ q : Nat, q < H.size → ¬ va_A [x] H.size q → H1[q]? = H[q]?) (hF : ∀ q, va_A [x] H.size q → A q) (hP1 : va_P D cl w1 H1) (hD1 : va_D (va_A [x] H.size) w1) : va_P D cl (ws ++ w1) H1 ∧ va_D A (ws ++ w1) := by
  have hx : (ws ++ [x])[ws.length]? = some x := by simp
  have apart : ∀ (k : Nat) (q : Nat × va_E), ws[k]? = some q → q.1 < H.size ∧ ¬ va_A [x] H.size q.1 := by
    intro k q hq
    have hkl := (List.getElem?_eq_some_iff.mp hq).1
    have hq2 : (ws ++ [x])[k]? = some q := by rw [List.getElem?_append_left hkl]; exact hq
    have hl := (hP k q hq2).lt
    refine ⟨hl, ?_⟩
    rintro (⟨j, e, h⟩ | h)
    · cases j with
      | zero =>
        simp at h
        have := hD.1 k ws.length q x hq2 hx (by rw [h])
        omega
      | succ j => simp at h
    · omega
  refine ⟨va_P.app (fun k q hq => ?_) hP1, va_D.app ⟨fun i j p q hp hq e => ?_, fun k q hq => ?_⟩ (hD1.weaken (fun k q _ h => hF q.1 h)) (fun i j p q hp hq e => ?_)⟩
  · obtain ⟨g1, g2⟩ := apart k q hq
    have hkl := (List.getElem?_eq_some_iff.mp hq).1
    exact (hP k q (by rw [List.getElem?_append_left hkl]; exact hq)).kept (hk q.1 g1 g2)
  · have h1 := (List.getElem?_eq_some_iff.mp hp).1
    have h2 := (List.getElem?_eq_some_iff.mp hq).1
    exact hD.1 i j p q (by rw [List.getElem?_append_left h1]; exact hp) (by rw [List.getElem?_append_left h2]; exact hq) e
  · have h1 := (List.getElem?_eq_some_iff.mp hq).1
    exact hD.2 k q (by rw [List.getElem?_append_left h1]; exact hq)
  · exact (apart i p hp).2 (by rw [e]; exact hD1.2 j q hq)
/-- a call of a constructor on the cell that was made last -/
theorem c_call (C : cfc z D cl tys A cc nL own) {x : Nat} {ex : va_E} {y : MethodName} {bytes : ByteArray} {maxL d mc2 ms2 index n : Nat} {As : List Value} {post2 : va_W → Prop} (hM : c_M z.2.1 D cl tys y (Cond.code y bytes maxL none :: A9) d mc2 ms2 x ex (.ref x :: As) post2) (dg : decode cc pc = .ok (.invokespecial index, 3))
    (hlk : (∃ host, va_Nw (.methodLinkNest own index y host) z.2.2.2.2.1) ∨ Cond.methodLink own index y ∈ A9) (hin : Cond.instanceMethod y ∈ A9) (hini : Cond.initialized y.cls ∈ A9) (hw : Cond.code y bytes maxL none ∈ A9) (hd : y.name = "<init>" ∧ y.cls ≠ "java/lang/invoke/MethodHandle" ∧ y.cls ≠ "java/lang/invoke/VarHandle" ∧ (parseMethodDescriptor y.desc).map (fun d => d.parameters.length) = some n) (hR : d + 1 ≤ z.2.2.2.1.frames ∧ 8 + (maxL + 11) + 40 * d ≤ z.2.2.2.1.locals ∧ kc + mc2 ≤ z.2.2.2.1.cells ∧ ks + ms2 ≤ z.2.2.2.1.slots) (hn : As.length = n) (hst : (st.map fun v => v.category).sum ≤ 8) {st0 : List Value} (hst0 : st0 = As.reverse ++ .ref x :: st)
    (kk : ∀ w, post2 w → cj z D cl A nL Q (kc + mc2) (ks + ms2) (ws ++ w) (pc + 3) lv st) : cj z D cl A nL Q kc ks (ws ++ [(x, ex)]) pc lv st0 := by
  intro H locs ls hP hD hS hl
  subst hst0
  have hg : GoodIn A9 (Cond.code y bytes maxL none :: A9) := fun w h => (List.mem_cons.mp h).elim (fun e => e ▸ ⟨hw, good9 hw⟩) (fun h => ⟨h, good9 h⟩)
  have hF : ∀ q, va_A [(x, ex)] H.size q → A q := va_free hD hS C.2.2.2.2.2.2.1 [ws.length] (by simp)
  have hPx : va_P D cl [(x, ex)] H := fun k q hq => by
    cases k with
    | zero => simp at hq; subst hq; exact hP ws.length _ (by simp)
    | succ k => simp at hq
  have hpre : PreS z.2.2.2.2.1 H (va_Pc (.ref x :: As) (fun U => U.heap.size = H.size ∧ va_P D cl [(x, ex)] U.heap ∧ va_K D cl tys U ∧ c_E U)) (.ref x :: As) := ⟨fun a U g mk q => by
      obtain ⟨q0, q1, qP, qK, qE⟩ := q
      exact ⟨q0, q1, qP, va_K.moved (u := U) (U := U.calling g mk a) (Vm.Alike.refl U.vm) qK, c_E_on (s := U) (U := U.calling g mk a) (State.WarmedH.refl U) qE⟩, fun U hU hW => ⟨rfl, by rw [hU], by rw [hU]; exact hPx, va_K.moved hW.alike C.2.2.2.2.2.1, c_E_on hW C.2.2.2.2.2.2.2.2⟩⟩
  have hrun : va_Run z.1 z.2.1 z.2.2.1 z.2.2.2.1 z.2.2.2.2.1 z.2.2.2.2.2.1 z.2.2.2.2.2.2.1 z.2.2.2.2.2.2.2.1 z.2.2.2.2.2.2.2.2.1 z.2.2.2.2.2.2.2.2.2 H locs kc ks mc2 ms2 (F0 z.2.2.2.2.2.1 pc ls (As.reverse ++ .ref x :: st)) st (va_Qv post2 (fun (w : va_W) t => va_P D cl w t.heap ∧ va_D (va_A [(x, ex)] H.size) w) (va_A [(x, ex)] H.size) (Value.ref x :: As).toArray) (va_A [(x, ex)] H.size) := by
    rcases hlk with ⟨host, hlk⟩ | hlk
    · exact va_runIN (As := As) (rest := st) ⟨C.1, C.2.1, C.2.2.1, C.2.2.2.1, C.2.2.2.2.1⟩ (hM H.size) ⟨va_cnB n C.2.2.2.2.1 hg rfl rfl rfl hlk (C.2.2.2.2.1 _ hini) hd.2 ⟨hR.1, hR.2.1⟩, hd.1, C.2.2.2.2.1 _ hin⟩ hpre rfl hn hl.1 rfl (lv_room hst) dg ⟨hR.2.2.1, hR.2.2.2⟩
    · exact va_runI (As := As) (rest := st) ⟨C.1, C.2.1, C.2.2.1, C.2.2.2.1, C.2.2.2.2.1⟩ (hM H.size) (cwI n C.2.2.2.2.1 hg rfl rfl rfl (C.2.2.2.2.1 _ hini) (C.2.2.2.2.1 _ hlk) (C.2.2.2.2.1 _ hin) hd.1 hd.2 ⟨hR.1, hR.2.1⟩) hpre rfl hn hl.1 rfl (lv_room hst) dg ⟨hR.2.2.1, hR.2.2.2⟩
  refine va_callv hrun hS (fun q _ h => hF q h) hF ?_
  intro u t H1 locs1 ht _ hp hB _ hk1 hS1
  obtain ⟨hP1, hD1⟩ := hB
  rw [ht] at hP1
  obtain ⟨hPj, hDj⟩ := c_join hP hD hk1 hF hP1 hD1
  exact kk u hp H1 locs1 ls hPj hDj hS1 hl
end CB
end
section
def c_tab (cA : Nat → ClassId) (t a b : Nat) : va_W := [(t, .inr (4, [.ref a, .ref b, .int (fI 0), .int (fI 0)])), (a, .inl (cA 0, 41, .inl (fun _ => fI 0))), (b, .inl (cA 0, 41, .inl (fun _ => fI 0)))]
def c_tabs (cA : Nat → ClassId) (ad : Nat → Nat) : Nat → va_W
  | 0 => []
  | n + 1 => c_tabs cA ad n ++ c_tab cA (ad (3 * n)) (ad (3 * n + 1)) (ad (3 * n + 2))
theorem c_tabs_congr {cA : Nat → ClassId} {ad ad' : Nat → Nat} (n : Nat) (h : ∀ k, k < 3 * n → ad' k = ad k) : c_tabs cA ad' n = c_tabs cA ad n := by
  induction n with
  | zero => rfl
  | succ n ih =>
    unfold c_tabs
    rw [ih (fun k hk => h k (by omega)), h (3 * n) (by omega), h (3 * n + 1) (by omega), h (3 * n + 2) (by omega)]
theorem c_tabs_len (cA : Nat → ClassId) (ad : Nat → Nat) (n : Nat) : (c_tabs cA ad n).length = 3 * n := by
  induction n with
  | zero => rfl
  | succ n ih => unfold c_tabs; rw [List.length_append, ih]; show 3 * n + 3 = _; omega
def c_arr (cA : Nat → ClassId) (r i : Nat) (ad : Nat → Nat) : Nat × va_E := (r, .inl (cA 3, 60, .inr (.inr (.inr (.inr (fun j => if j < i then some (ad (3 * j)) else none))))))
theorem c_at {ws r : va_W} {n : Nat} {x : Nat × va_E} (h : ws.length = n) : (ws ++ x :: r)[n]? = some x := by subst h; simp
theorem c_cw {z : fZ} {D : va_G} {cl : List vw_C} {A : Nat → Prop} {nL : Nat} {Q : State → Prop} {kc ks kc2 ks2 : Nat} {ws ws2 : va_W} {pc : Nat} {lv : List (Option Value)} {st : List Value} (h1 : kc = kc2) (h2 : ks = ks2) (h3 : ws = ws2) (k : cj z D cl A nL Q kc2 ks2 ws2 pc lv st) : cj z D cl A nL Q kc ks ws pc lv st := by
  subst h1; subst h2; subst h3; exact k
set_option maxRecDepth 100000 in
set_option maxHeartbeats 4000000 in
/-- a table -/
theorem cX_XT (l : Launch) (D : va_G) (cA : Nat → ClassId) (h0 : Nat)  : c_M l D ((RM, TM, 32) :: xCl) (w_tys cA) yXT_init (Cond.code yXT_init cXT_init 1 none :: A9) 1 2 82 h0 (.inr (4, [.null, .null, .int (fI 0), .int (fI 0)])) [.ref h0] (fun w => ∃ q7 q15 : Nat, w = [(h0, .inr (4, [.ref q7, .ref q15, .int (fI 0), .int (fI 0)])), (q7, .inl (cA 0, 41, .inl (fun _ => fI 0))), (q15, .inl (cA 0, 41, .inl (fun _ => fI 0)))]) := by
  refine c_enter (by decide +kernel) rfl rfl (Nat.le_of_ble_eq_true rfl) ?_
  intro z hzl hR C hRt hLk
  subst hzl
  refine c_aload_n C dXT_init_0 rfl rfl ?_
  refine c_obj C (in9_1 103 (by decide +kernel) rfl) (in9_1 35 (by decide +kernel) rfl) (in9_1 36 (by decide +kernel) rfl) dXT_init_1 (by rw [hR]; exact ⟨by decide, by decide⟩) ?_
  refine c_aload_n C dXT_init_4 rfl rfl ?_
  refine c_bipush C dXT_init_5 (by decide +kernel) ?_
  refine c_newa (t := 0) C (in9_1 69 (by decide +kernel) rfl) rfl rfl (by decide) (by decide) dXT_init_7 (by rw [hR]; exact ⟨by decide, by decide⟩) (fun q7 => ?_)
  refine c_put (q0 := 0) (k := 0) (ci := 4) C inXT tyXT_ok nmXT rfl rfl (by decide) lXT_9 rfl rfl rfl (tyXT_ok 0 (by decide)) rfl rfl (Nat.le_of_ble_eq_true rfl) dXT_init_9 ?_
  refine c_aload_n C dXT_init_12 rfl rfl ?_
  refine c_bipush C dXT_init_13 (by decide +kernel) ?_
  refine c_newa (t := 0) C (in9_1 69 (by decide +kernel) rfl) rfl rfl (by decide) (by decide) dXT_init_15 (by rw [hR]; exact ⟨by decide, by decide⟩) (fun q15 => ?_)
  refine c_put (q0 := 0) (k := 1) (ci := 4) C inXT tyXT_ok nmXT rfl rfl (by decide) lXT_15 rfl rfl rfl (tyXT_ok 1 (by decide)) rfl rfl (Nat.le_of_ble_eq_true rfl) dXT_init_17 ?_
  exact c_ret C hRt hLk dXT_init_20 ⟨by decide, by decide⟩ ⟨q7, q15, rfl⟩
set_option maxRecDepth 100000 in
set_option maxHeartbeats 4000000 in
/-- the shelf -/
theorem cX_XS (l : Launch) (D : va_G) (cA : Nat → ClassId) (h0 : Nat)  : c_M l D ((RM, TM, 32) :: xCl) (w_tys cA) yXS_init (Cond.code yXS_init cXS_init 1 none :: A9) 1 6 5125 h0 (.inr (2, [.null, .null, .null, .null, .null, .null])) [.ref h0] (fun w => ∃ q7 q15 q23 q32 q40 q48 : Nat, w = [(h0, .inr (2, [.ref q7, .ref q15, .ref q23, .ref q32, .ref q40, .ref q48])), (q7, .inl (cA 2, 41, .inl (fun _ => fI 0))), (q15, .inl (cA 2, 41, .inl (fun _ => fI 0))), (q23, .inl (cA 0, 41, .inl (fun _ => fI 0))), (q32, .inl (cA 1, 4920, .inl (fun _ => fI 0))), (q40, .inl (cA 2, 41, .inl (fun _ => fI 0))), (q48, .inl (cA 2, 41, .inl (fun _ => fI 0)))]) := by
  refine c_enter (by decide +kernel) rfl rfl (Nat.le_of_ble_eq_true rfl) ?_
  intro z hzl hR C hRt hLk
  subst hzl
  refine c_aload_n C dXS_init_0 rfl rfl ?_
  refine c_obj C (in9_1 42 (by decide +kernel) rfl) (in9_1 35 (by decide +kernel) rfl) (in9_1 36 (by decide +kernel) rfl) dXS_init_1 (by rw [hR]; exact ⟨by decide, by decide⟩) ?_
  refine c_aload_n C dXS_init_4 rfl rfl ?_
  refine c_bipush C dXS_init_5 (by decide +kernel) ?_
  refine c_newa (t := 2) C (in9_1 68 (by decide +kernel) rfl) rfl rfl (by decide) (by decide) dXS_init_7 (by rw [hR]; exact ⟨by decide, by decide⟩) (fun q7 => ?_)
  refine c_put (q0 := 0) (k := 0) (ci := 2) C inXS tyXS_ok nmXS rfl rfl (by decide) lXS_9 rfl rfl rfl (tyXS_ok 0 (by decide)) rfl rfl (Nat.le_of_ble_eq_true rfl) dXS_init_9 ?_
  refine c_aload_n C dXS_init_12 rfl rfl ?_
  refine c_bipush C dXS_init_13 (by decide +kernel) ?_
  refine c_newa (t := 2) C (in9_1 68 (by decide +kernel) rfl) rfl rfl (by decide) (by decide) dXS_init_15 (by rw [hR]; exact ⟨by decide, by decide⟩) (fun q15 => ?_)
  refine c_put (q0 := 0) (k := 1) (ci := 2) C inXS tyXS_ok nmXS rfl rfl (by decide) lXS_15 rfl rfl rfl (tyXS_ok 1 (by decide)) rfl rfl (Nat.le_of_ble_eq_true rfl) dXS_init_17 ?_
  refine c_aload_n C dXS_init_20 rfl rfl ?_
  refine c_bipush C dXS_init_21 (by decide +kernel) ?_
  refine c_newa (t := 0) C (in9_1 69 (by decide +kernel) rfl) rfl rfl (by decide) (by decide) dXS_init_23 (by rw [hR]; exact ⟨by decide, by decide⟩) (fun q23 => ?_)
  refine c_put (q0 := 0) (k := 2) (ci := 2) C inXS tyXS_ok nmXS rfl rfl (by decide) lXS_18 rfl rfl rfl (tyXS_ok 2 (by decide)) rfl rfl (Nat.le_of_ble_eq_true rfl) dXS_init_25 ?_
  refine c_aload_n C dXS_init_28 rfl rfl ?_
  refine c_sipush C dXS_init_29 (by decide +kernel) ?_
  refine c_newa (t := 1) C (in9_1 70 (by decide +kernel) rfl) rfl rfl (by decide) (by decide) dXS_init_32 (by rw [hR]; exact ⟨by decide, by decide⟩) (fun q32 => ?_)
  refine c_put (q0 := 0) (k := 3) (ci := 2) C inXS tyXS_ok nmXS rfl rfl (by decide) lXS_22 rfl rfl rfl (tyXS_ok 3 (by decide)) rfl rfl (Nat.le_of_ble_eq_true rfl) dXS_init_34 ?_
  refine c_aload_n C dXS_init_37 rfl rfl ?_
  refine c_bipush C dXS_init_38 (by decide +kernel) ?_
  refine c_newa (t := 2) C (in9_1 68 (by decide +kernel) rfl) rfl rfl (by decide) (by decide) dXS_init_40 (by rw [hR]; exact ⟨by decide, by decide⟩) (fun q40 => ?_)
  refine c_put (q0 := 0) (k := 4) (ci := 2) C inXS tyXS_ok nmXS rfl rfl (by decide) lXS_26 rfl rfl rfl (tyXS_ok 4 (by decide)) rfl rfl (Nat.le_of_ble_eq_true rfl) dXS_init_42 ?_
  refine c_aload_n C dXS_init_45 rfl rfl ?_
  refine c_bipush C dXS_init_46 (by decide +kernel) ?_
  refine c_newa (t := 2) C (in9_1 68 (by decide +kernel) rfl) rfl rfl (by decide) (by decide) dXS_init_48 (by rw [hR]; exact ⟨by decide, by decide⟩) (fun q48 => ?_)
  refine c_put (q0 := 0) (k := 5) (ci := 2) C inXS tyXS_ok nmXS rfl rfl (by decide) lXS_29 rfl rfl rfl (tyXS_ok 5 (by decide)) rfl rfl (Nat.le_of_ble_eq_true rfl) dXS_init_50 ?_
  exact c_ret C hRt hLk dXS_init_53 ⟨by decide, by decide⟩ ⟨q7, q15, q23, q32, q40, q48, rfl⟩
set_option maxRecDepth 100000 in
set_option maxHeartbeats 4000000 in
/-- the file -/
theorem cX_XF (l : Launch) (D : va_G) (cA : Nat → ClassId) (h0 : Nat)  : c_M l D ((RM, TM, 32) :: xCl) (w_tys cA) yXF_init (Cond.code yXF_init cXF_init 1 none :: A9) 1 1 12000 h0 (.inr (3, [.null, .int (fI 0), .int (fI 0)])) [.ref h0] (fun w => ∃ q8 : Nat, w = [(h0, .inr (3, [.ref q8, .int (fI 0), .int (fI 0)])), (q8, .inl (cA 1, 12000, .inl (fun _ => fI 0)))]) := by
  refine c_enter (by decide +kernel) rfl rfl (Nat.le_of_ble_eq_true rfl) ?_
  intro z hzl hR C hRt hLk
  subst hzl
  refine c_aload_n C dXF_init_0 rfl rfl ?_
  refine c_obj C (in9_1 76 (by decide +kernel) rfl) (in9_1 35 (by decide +kernel) rfl) (in9_1 36 (by decide +kernel) rfl) dXF_init_1 (by rw [hR]; exact ⟨by decide, by decide⟩) ?_
  refine c_aload_n C dXF_init_4 rfl rfl ?_
  refine c_sipush C dXF_init_5 (by decide +kernel) ?_
  refine c_newa (t := 1) C (in9_1 70 (by decide +kernel) rfl) rfl rfl (by decide) (by decide) dXF_init_8 (by rw [hR]; exact ⟨by decide, by decide⟩) (fun q8 => ?_)
  refine c_put (q0 := 0) (k := 0) (ci := 3) C inXF tyXF_ok nmXF rfl rfl (by decide) lXF_9 rfl rfl rfl (tyXF_ok 0 (by decide)) rfl rfl (Nat.le_of_ble_eq_true rfl) dXF_init_10 ?_
  exact c_ret C hRt hLk dXF_init_13 ⟨by decide, by decide⟩ ⟨q8, rfl⟩
set_option maxRecDepth 100000 in
set_option maxHeartbeats 4000000 in
/-- the differences -/
theorem cX_XG (l : Launch) (D : va_G) (cA : Nat → ClassId) (h0 : Nat)  : c_M l D ((RM, TM, 32) :: xCl) (w_tys cA) yXG_init (Cond.code yXG_init cXG_init 1 none :: A9) 1 2 80 h0 (.inr (8, [.null, .null, .int (fI 0)])) [.ref h0] (fun w => ∃ q7 q15 : Nat, w = [(h0, .inr (8, [.ref q7, .ref q15, .int (fI 0)])), (q7, .inl (cA 0, 40, .inl (fun _ => fI 0))), (q15, .inl (cA 0, 40, .inl (fun _ => fI 0)))]) := by
  refine c_enter (by decide +kernel) rfl rfl (Nat.le_of_ble_eq_true rfl) ?_
  intro z hzl hR C hRt hLk
  subst hzl
  refine c_aload_n C dXG_init_0 rfl rfl ?_
  refine c_obj C (in9_1 206 (by decide +kernel) rfl) (in9_1 35 (by decide +kernel) rfl) (in9_1 36 (by decide +kernel) rfl) dXG_init_1 (by rw [hR]; exact ⟨by decide, by decide⟩) ?_
  refine c_aload_n C dXG_init_4 rfl rfl ?_
  refine c_bipush C dXG_init_5 (by decide +kernel) ?_
  refine c_newa (t := 0) C (in9_1 69 (by decide +kernel) rfl) rfl rfl (by decide) (by decide) dXG_init_7 (by rw [hR]; exact ⟨by decide, by decide⟩) (fun q7 => ?_)
  refine c_put (q0 := 0) (k := 0) (ci := 8) C inXG tyXG_ok nmXG rfl rfl (by decide) lXG_9 rfl rfl rfl (tyXG_ok 0 (by decide)) rfl rfl (Nat.le_of_ble_eq_true rfl) dXG_init_9 ?_
  refine c_aload_n C dXG_init_12 rfl rfl ?_
  refine c_bipush C dXG_init_13 (by decide +kernel) ?_
  refine c_newa (t := 0) C (in9_1 69 (by decide +kernel) rfl) rfl rfl (by decide) (by decide) dXG_init_15 (by rw [hR]; exact ⟨by decide, by decide⟩) (fun q15 => ?_)
  refine c_put (q0 := 0) (k := 1) (ci := 8) C inXG tyXG_ok nmXG rfl rfl (by decide) lXG_15 rfl rfl rfl (tyXG_ok 1 (by decide)) rfl rfl (Nat.le_of_ble_eq_true rfl) dXG_init_17 ?_
  exact c_ret C hRt hLk dXG_init_20 ⟨by decide, by decide⟩ ⟨q7, q15, rfl⟩
set_option maxRecDepth 100000 in
set_option maxHeartbeats 4000000 in
/-- the history -/
theorem cX_XH (l : Launch) (D : va_G) (cA : Nat → ClassId) (h0 : Nat)  : c_M l D ((RM, TM, 32) :: xCl) (w_tys cA) yXH_init (Cond.code yXH_init cXH_init 2 none :: A9) 2 181 5220 h0 (.inr (5, [.null, .int (fI 0)])) [.ref h0] (fun w => ∃ (r : Nat) (ad : Nat → Nat), w = [(h0, .inr (5, [.ref r, .int (fI 0)])), c_arr cA r 60 ad] ++ c_tabs cA ad 60) := by
  refine c_enter (by decide +kernel) rfl rfl (Nat.le_of_ble_eq_true rfl) ?_
  intro z hzl hR C hRt hLk
  subst hzl
  have L : ∀ (m i r : Nat) (ad : Nat → Nat), m + i = 60 → cj z D ((RM, TM, 32) :: xCl) (va_A [(h0, (.inr (5, [.null, .int (fI 0)])))] z.2.2.2.2.1.heap.size) 2 (c_R z D ((RM, TM, 32) :: xCl) h0 (.inr (5, [.null, .int (fI 0)])) (fun w => ∃ (r : Nat) (ad : Nat → Nat), w = [(h0, .inr (5, [.ref r, .int (fI 0)])), c_arr cA r 60 ad] ++ c_tabs cA ad 60) 181 5220) (1 + 3 * i) (60 + 86 * i) ([(h0, .inr (5, [.ref r, .int (fI 0)])), c_arr cA r i ad] ++ c_tabs cA ad i) 15 [some (.ref h0), some (.int (fI (i : Int)))] [] := by
    intro m
    induction m with
    | zero =>
      intro i r ad hi
      have h60 : i = 60 := by omega
      subst h60
      refine c_iload_n C dXH_init_15 rfl rfl ?_
      refine c_bipush C dXH_init_16 (by decide +kernel) ?_
      refine c_icmp_ge (tgt := 40) C dXH_init_18 (by decide) (by omega) (by omega) (fun hc => ?_) (fun hc => absurd (by omega) hc)
      exact c_ret C hRt hLk dXH_init_40 ⟨by decide, by decide⟩ ⟨r, ad, rfl⟩
    | succ m ih =>
      intro i r ad hi
      refine c_iload_n C dXH_init_15 rfl rfl ?_
      refine c_bipush C dXH_init_16 (by decide +kernel) ?_
      refine c_icmp_ge (tgt := 40) C dXH_init_18 (by decide) (by omega) (by omega) (fun hc => absurd hc (by omega)) (fun hc => ?_)
      refine c_aload_n C dXH_init_21 rfl rfl ?_
      refine c_get (q0 := 0) (k := 0) (ci := 5) C inXH rfl rfl (by decide) lXH_11 rfl rfl dXH_init_22 ?_
      refine c_iload_n C dXH_init_25 rfl rfl ?_
      refine c_new (ci := 4) (fs := [.null, .null, .int (fI 0), .int (fI 0)]) C inXT tyXT_ok (in9_1 97 (by decide +kernel) rfl) (in9_1 99 (by decide +kernel) rfl) iXT rfl (by decide +kernel) dXH_init_26 (by rw [hR]; exact ⟨by show _ ≤ 181; omega, by show _ ≤ 5220; omega⟩) (fun q => ?_)
      refine c_dup C dXH_init_29 rfl ?_
      refine c_call (n := 0) C (cX_XT _ D cA q) dXH_init_30 (Or.inl ⟨RXA, C.2.2.2.2.2.2.2.2.1 _ (by decide +kernel)⟩) (in9_1 101 (by decide +kernel) rfl) iXT wXT_init (by decide +kernel) (by rw [hR]; exact ⟨by decide, by decide, by show _ ≤ 181; omega, by show _ ≤ 5220; omega⟩) rfl (Nat.le_of_ble_eq_true rfl) rfl (fun w hw => ?_)
      obtain ⟨a, b, hw⟩ := hw
      subst hw
      have hlen := c_tabs_len cA ad i
      refine c_ast (q0 := 1) (t0 := 3) (qk := 2 + 3 * i) (ci := 4) (i := (i : Int)) (r := (RXT, TXT, 4)) C rfl rfl (c_at (by simp [hlen]; omega)) rfl (by omega) (by decide) dXH_init_33 ?_
      refine c_iinc C dXH_init_34 rfl (by decide) ?_
      refine c_goto (tgt := 15) C dXH_init_37 (by decide) ?_
      have hn : ((i : Int)).toNat = i := by omega
      obtain ⟨ad2, had⟩ : ∃ g : Nat → Nat, g = fun k => if k < 3 * i then ad k else if k = 3 * i then q else if k = 3 * i + 1 then a else b := ⟨_, rfl⟩
      have h1 : ∀ k, k < 3 * i → ad2 k = ad k := fun k hk => by rw [had]; exact if_pos hk
      have h2 : ad2 (3 * i) = q := by rw [had]; show (if 3 * i < 3 * i then _ else if 3 * i = 3 * i then q else _) = q; rw [if_neg (by omega), if_pos rfl]
      have h3 : ad2 (3 * i + 1) = a := by rw [had]; show (if 3 * i + 1 < 3 * i then _ else if 3 * i + 1 = 3 * i then q else if 3 * i + 1 = 3 * i + 1 then a else b) = a; rw [if_neg (by omega), if_neg (by omega), if_pos rfl]
      have h4 : ad2 (3 * i + 2) = b := by rw [had]; show (if 3 * i + 2 < 3 * i then _ else if 3 * i + 2 = 3 * i then q else if 3 * i + 2 = 3 * i + 1 then a else b) = b; rw [if_neg (by omega), if_neg (by omega), if_neg (by omega)]
      have hws : ([(h0, .inr (5, [.ref r, .int (fI 0)])), c_arr cA r (i + 1) ad2] ++ c_tabs cA ad2 (i + 1) : va_W) = [(h0, .inr (5, [.ref r, .int (fI 0)])), (r, .inl (cA 3, 60, .inr (.inr (.inr (.inr (va_up (fun j => if j < i then some (ad (3 * j)) else none) ((i : Int)).toNat (some q)))))))] ++ c_tabs cA ad i ++ c_tab cA q a b := by
        show _ ++ (c_tabs cA ad2 i ++ c_tab cA (ad2 (3 * i)) (ad2 (3 * i + 1)) (ad2 (3 * i + 2))) = _
        rw [c_tabs_congr i h1, h2, h3, h4, List.append_assoc, hn]
        unfold c_arr
        have hf : (fun j => if j < i + 1 then some (ad2 (3 * j)) else none) = va_up (fun j => if j < i then some (ad (3 * j)) else none) i (some q) := by
          funext j
          unfold va_up
          by_cases e : j = i
          · subst e; rw [if_pos rfl, if_pos (by omega), h2]
          · rw [if_neg e]
            show _ = if j < i then some (ad (3 * j)) else none
            by_cases e2 : j < i
            · rw [if_pos e2, if_pos (by omega), h1 _ (by omega)]
            · rw [if_neg e2, if_neg (by omega)]
        rw [hf]
      refine c_cw (by omega) (by omega) hws.symm (ih (i + 1) r ad2 (by omega))
  refine c_aload_n C dXH_init_0 rfl rfl ?_
  refine c_obj C (in9_1 96 (by decide +kernel) rfl) (in9_1 35 (by decide +kernel) rfl) (in9_1 36 (by decide +kernel) rfl) dXH_init_1 (by rw [hR]; exact ⟨by decide, by decide⟩) ?_
  refine c_aload_n C dXH_init_4 rfl rfl ?_
  refine c_bipush C dXH_init_5 (by decide +kernel) ?_
  refine c_newq (t := 3) C (in9_1 97 (by decide +kernel) rfl) rfl (by decide) dXH_init_7 (by rw [hR]; exact ⟨by decide, by decide⟩) (fun q7 => ?_)
  refine c_put (q0 := 0) (k := 0) (ci := 5) C inXH tyXH_ok nmXH rfl rfl (by decide) lXH_11 rfl rfl rfl (tyXH_ok 0 (by decide)) rfl rfl (Nat.le_of_ble_eq_true rfl) dXH_init_10 ?_
  refine c_iconst C dXH_init_13 ?_
  refine c_istore_n C dXH_init_14 rfl (by decide) ?_
  exact L 60 0 q7 (fun _ => 0) (by omega)
set_option maxRecDepth 100000 in
set_option maxHeartbeats 4000000 in
/-- the scan -/
theorem cX_XC (l : Launch) (D : va_G) (cA : Nat → ClassId) (h0 : Nat) (f0 : Nat) : c_M l D ((RM, TM, 32) :: xCl) (w_tys cA) yXC_init (Cond.code yXC_init cXC_init 3 none :: A9) 2 181 5220 h0 (.inr (6, [.null, .null, .int (fI 0), .int (fI 0), .int (fI 0)])) [.ref h0, .ref f0] (fun w => ∃ (r : Nat) (ad : Nat → Nat), w = [(h0, .inr (6, [.ref f0, .ref r, .int (fI 0), .int (fI 0), .int (fI 0)])), c_arr cA r 60 ad] ++ c_tabs cA ad 60) := by
  refine c_enter (by decide +kernel) rfl rfl (Nat.le_of_ble_eq_true rfl) ?_
  intro z hzl hR C hRt hLk
  subst hzl
  have L : ∀ (m i r : Nat) (ad : Nat → Nat), m + i = 60 → cj z D ((RM, TM, 32) :: xCl) (va_A [(h0, (.inr (6, [.null, .null, .int (fI 0), .int (fI 0), .int (fI 0)])))] z.2.2.2.2.1.heap.size) 3 (c_R z D ((RM, TM, 32) :: xCl) h0 (.inr (6, [.null, .null, .int (fI 0), .int (fI 0), .int (fI 0)])) (fun w => ∃ (r : Nat) (ad : Nat → Nat), w = [(h0, .inr (6, [.ref f0, .ref r, .int (fI 0), .int (fI 0), .int (fI 0)])), c_arr cA r 60 ad] ++ c_tabs cA ad 60) 181 5220) (1 + 3 * i) (60 + 86 * i) ([(h0, .inr (6, [.ref f0, .ref r, .int (fI 0), .int (fI 0), .int (fI 0)])), c_arr cA r i ad] ++ c_tabs cA ad i) 20 [some (.ref h0), some (.ref f0), some (.int (fI (i : Int)))] [] := by
    intro m
    induction m with
    | zero =>
      intro i r ad hi
      have h60 : i = 60 := by omega
      subst h60
      refine c_iload_n C dXC_init_20 rfl rfl ?_
      refine c_bipush C dXC_init_21 (by decide +kernel) ?_
      refine c_icmp_ge (tgt := 45) C dXC_init_23 (by decide) (by omega) (by omega) (fun hc => ?_) (fun hc => absurd (by omega) hc)
      exact c_ret C hRt hLk dXC_init_45 ⟨by decide, by decide⟩ ⟨r, ad, rfl⟩
    | succ m ih =>
      intro i r ad hi
      refine c_iload_n C dXC_init_20 rfl rfl ?_
      refine c_bipush C dXC_init_21 (by decide +kernel) ?_
      refine c_icmp_ge (tgt := 45) C dXC_init_23 (by decide) (by omega) (by omega) (fun hc => absurd hc (by omega)) (fun hc => ?_)
      refine c_aload_n C dXC_init_26 rfl rfl ?_
      refine c_get (q0 := 0) (k := 1) (ci := 6) C inXC rfl rfl (by decide) lXC_11 rfl rfl dXC_init_27 ?_
      refine c_iload_n C dXC_init_30 rfl rfl ?_
      refine c_new (ci := 4) (fs := [.null, .null, .int (fI 0), .int (fI 0)]) C inXT tyXT_ok (in9_1 147 (by decide +kernel) rfl) (in9_1 99 (by decide +kernel) rfl) iXT rfl (by decide +kernel) dXC_init_31 (by rw [hR]; exact ⟨by show _ ≤ 181; omega, by show _ ≤ 5220; omega⟩) (fun q => ?_)
      refine c_dup C dXC_init_34 rfl ?_
      refine c_call (n := 0) C (cX_XT _ D cA q) dXC_init_35 (Or.inl ⟨RXA, C.2.2.2.2.2.2.2.2.1 _ (by decide +kernel)⟩) (in9_1 101 (by decide +kernel) rfl) iXT wXT_init (by decide +kernel) (by rw [hR]; exact ⟨by decide, by decide, by show _ ≤ 181; omega, by show _ ≤ 5220; omega⟩) rfl (Nat.le_of_ble_eq_true rfl) rfl (fun w hw => ?_)
      obtain ⟨a, b, hw⟩ := hw
      subst hw
      have hlen := c_tabs_len cA ad i
      refine c_ast (q0 := 1) (t0 := 3) (qk := 2 + 3 * i) (ci := 4) (i := (i : Int)) (r := (RXT, TXT, 4)) C rfl rfl (c_at (by simp [hlen]; omega)) rfl (by omega) (by decide) dXC_init_38 ?_
      refine c_iinc C dXC_init_39 rfl (by decide) ?_
      refine c_goto (tgt := 20) C dXC_init_42 (by decide) ?_
      have hn : ((i : Int)).toNat = i := by omega
      obtain ⟨ad2, had⟩ : ∃ g : Nat → Nat, g = fun k => if k < 3 * i then ad k else if k = 3 * i then q else if k = 3 * i + 1 then a else b := ⟨_, rfl⟩
      have h1 : ∀ k, k < 3 * i → ad2 k = ad k := fun k hk => by rw [had]; exact if_pos hk
      have h2 : ad2 (3 * i) = q := by rw [had]; show (if 3 * i < 3 * i then _ else if 3 * i = 3 * i then q else _) = q; rw [if_neg (by omega), if_pos rfl]
      have h3 : ad2 (3 * i + 1) = a := by rw [had]; show (if 3 * i + 1 < 3 * i then _ else if 3 * i + 1 = 3 * i then q else if 3 * i + 1 = 3 * i + 1 then a else b) = a; rw [if_neg (by omega), if_neg (by omega), if_pos rfl]
      have h4 : ad2 (3 * i + 2) = b := by rw [had]; show (if 3 * i + 2 < 3 * i then _ else if 3 * i + 2 = 3 * i then q else if 3 * i + 2 = 3 * i + 1 then a else b) = b; rw [if_neg (by omega), if_neg (by omega), if_neg (by omega)]
      have hws : ([(h0, .inr (6, [.ref f0, .ref r, .int (fI 0), .int (fI 0), .int (fI 0)])), c_arr cA r (i + 1) ad2] ++ c_tabs cA ad2 (i + 1) : va_W) = [(h0, .inr (6, [.ref f0, .ref r, .int (fI 0), .int (fI 0), .int (fI 0)])), (r, .inl (cA 3, 60, .inr (.inr (.inr (.inr (va_up (fun j => if j < i then some (ad (3 * j)) else none) ((i : Int)).toNat (some q)))))))] ++ c_tabs cA ad i ++ c_tab cA q a b := by
        show _ ++ (c_tabs cA ad2 i ++ c_tab cA (ad2 (3 * i)) (ad2 (3 * i + 1)) (ad2 (3 * i + 2))) = _
        rw [c_tabs_congr i h1, h2, h3, h4, List.append_assoc, hn]
        unfold c_arr
        have hf : (fun j => if j < i + 1 then some (ad2 (3 * j)) else none) = va_up (fun j => if j < i then some (ad (3 * j)) else none) i (some q) := by
          funext j
          unfold va_up
          by_cases e : j = i
          · subst e; rw [if_pos rfl, if_pos (by omega), h2]
          · rw [if_neg e]
            show _ = if j < i then some (ad (3 * j)) else none
            by_cases e2 : j < i
            · rw [if_pos e2, if_pos (by omega), h1 _ (by omega)]
            · rw [if_neg e2, if_neg (by omega)]
        rw [hf]
      refine c_cw (by omega) (by omega) hws.symm (ih (i + 1) r ad2 (by omega))
  refine c_aload_n C dXC_init_0 rfl rfl ?_
  refine c_obj C (in9_1 146 (by decide +kernel) rfl) (in9_1 35 (by decide +kernel) rfl) (in9_1 36 (by decide +kernel) rfl) dXC_init_1 (by rw [hR]; exact ⟨by decide, by decide⟩) ?_
  refine c_aload_n C dXC_init_4 rfl rfl ?_
  refine c_bipush C dXC_init_5 (by decide +kernel) ?_
  refine c_newq (t := 3) C (in9_1 147 (by decide +kernel) rfl) rfl (by decide) dXC_init_7 (by rw [hR]; exact ⟨by decide, by decide⟩) (fun q7 => ?_)
  refine c_put (q0 := 0) (k := 1) (ci := 6) C inXC tyXC_ok nmXC rfl rfl (by decide) lXC_11 rfl rfl rfl (tyXC_ok 1 (by decide)) rfl rfl (Nat.le_of_ble_eq_true rfl) dXC_init_10 ?_
  refine c_aload_n C dXC_init_13 rfl rfl ?_
  refine c_aload_n C dXC_init_14 rfl rfl ?_
  refine c_put (q0 := 0) (k := 0) (ci := 6) C inXC tyXC_ok nmXC rfl rfl (by decide) lXC_17 rfl rfl rfl (tyXC_ok 0 (by decide)) rfl rfl (Nat.le_of_ble_eq_true rfl) dXC_init_15 ?_
  refine c_iconst C dXC_init_18 ?_
  refine c_istore_n C dXC_init_19 rfl (by decide) ?_
  exact L 60 0 q7 (fun _ => 0) (by omega)
set_option maxRecDepth 100000 in
set_option maxHeartbeats 4000000 in
/-- the draft -/
theorem cX_XD (l : Launch) (D : va_G) (cA : Nat → ClassId) (h0 : Nat) (s0 : Nat) : c_M l D ((RM, TM, 32) :: xCl) (w_tys cA) yXD_init (Cond.code yXD_init cXD_init 2 none :: A9) 2 5 6126 h0 (.inr (7, [.null, .null, .null, .null, .int (fI 0), .int (fI 0), .int (fI 0)])) [.ref h0, .ref s0] (fun w => ∃ qb qo t a b : Nat, w = [(h0, .inr (7, [.ref s0, .ref qb, .ref qo, .ref t, .int (fI 0), .int (fI 0), .int (fI 0)])), (qb, .inl (cA 1, 6000, .inl (fun _ => fI 0))), (qo, .inl (cA 0, 40, .inl (fun _ => fI 0)))] ++ c_tab cA t a b) := by
  refine c_enter (by decide +kernel) rfl rfl (Nat.le_of_ble_eq_true rfl) ?_
  intro z hzl hR C hRt hLk
  subst hzl
  refine c_aload_n C dXD_init_0 rfl rfl ?_
  refine c_obj C (in9_1 172 (by decide +kernel) rfl) (in9_1 35 (by decide +kernel) rfl) (in9_1 36 (by decide +kernel) rfl) dXD_init_1 (by rw [hR]; exact ⟨by decide, by decide⟩) ?_
  refine c_aload_n C dXD_init_4 rfl rfl ?_
  refine c_sipush C dXD_init_5 (by decide +kernel) ?_
  refine c_newa (t := 1) C (in9_1 70 (by decide +kernel) rfl) rfl rfl (by decide) (by decide) dXD_init_8 (by rw [hR]; exact ⟨by decide, by decide⟩) (fun q8 => ?_)
  refine c_put (q0 := 0) (k := 1) (ci := 7) C inXD tyXD_ok nmXD rfl rfl (by decide) lXD_9 rfl rfl rfl (tyXD_ok 1 (by decide)) rfl rfl (Nat.le_of_ble_eq_true rfl) dXD_init_10 ?_
  refine c_aload_n C dXD_init_13 rfl rfl ?_
  refine c_bipush C dXD_init_14 (by decide +kernel) ?_
  refine c_newa (t := 0) C (in9_1 69 (by decide +kernel) rfl) rfl rfl (by decide) (by decide) dXD_init_16 (by rw [hR]; exact ⟨by decide, by decide⟩) (fun q16 => ?_)
  refine c_put (q0 := 0) (k := 2) (ci := 7) C inXD tyXD_ok nmXD rfl rfl (by decide) lXD_15 rfl rfl rfl (tyXD_ok 2 (by decide)) rfl rfl (Nat.le_of_ble_eq_true rfl) dXD_init_18 ?_
  refine c_aload_n C dXD_init_21 rfl rfl ?_
  refine c_new (ci := 4) (fs := [.null, .null, .int (fI 0), .int (fI 0)]) C inXT tyXT_ok (in9_1 173 (by decide +kernel) rfl) (in9_1 99 (by decide +kernel) rfl) iXT rfl (by decide +kernel) dXD_init_22 (by rw [hR]; exact ⟨by decide, by decide⟩) (fun q22 => ?_)
  refine c_dup C dXD_init_25 rfl ?_
  refine c_call (n := 0) C (cX_XT _ D cA q22) dXD_init_26 (Or.inl ⟨RXA, C.2.2.2.2.2.2.2.2.1 _ (by decide +kernel)⟩) (in9_1 101 (by decide +kernel) rfl) iXT wXT_init (by decide +kernel) (by rw [hR]; exact ⟨by decide, by decide, by decide, by decide⟩) rfl (Nat.le_of_ble_eq_true rfl) rfl (fun w26 hw26 => ?_)
  obtain ⟨a26, b26, hw26⟩ := hw26
  subst hw26
  refine c_put (q0 := 0) (k := 3) (ci := 7) C inXD tyXD_ok nmXD rfl rfl (by decide) lXD_22 rfl rfl rfl (tyXD_ok 3 (by decide)) rfl rfl (Nat.le_of_ble_eq_true rfl) dXD_init_29 ?_
  refine c_aload_n C dXD_init_32 rfl rfl ?_
  refine c_aload_n C dXD_init_33 rfl rfl ?_
  refine c_put (q0 := 0) (k := 0) (ci := 7) C inXD tyXD_ok nmXD rfl rfl (by decide) lXD_26 rfl rfl rfl (tyXD_ok 0 (by decide)) rfl rfl (Nat.le_of_ble_eq_true rfl) dXD_init_34 ?_
  exact c_ret C hRt hLk dXD_init_37 ⟨by decide, by decide⟩ ⟨q8, q16, q22, a26, b26, rfl⟩
end
section
def c_L0 (cA : Nat → ClassId) (h0 s a1 a2 a3 a4 a5 a6 f fb y r sc p d db dq t ta tb e n1 k1 : Nat) (g1 g2 : Nat → Nat) : va_W := [(h0, .inr (1, [.ref s, .ref f, .ref y, .ref sc, .ref d, .ref e])), (s, .inr (2, [.ref a1, .ref a2, .ref a3, .ref a4, .ref a5, .ref a6])), (a1, .inl (cA 2, 41, .inl (fun _ => fI 0))), (a2, .inl (cA 2, 41, .inl (fun _ => fI 0))), (a3, .inl (cA 0, 41, .inl (fun _ => fI 0))), (a4, .inl (cA 1, 4920, .inl (fun _ => fI 0))), (a5, .inl (cA 2, 41, .inl (fun _ => fI 0))), (a6, .inl (cA 2, 41, .inl (fun _ => fI 0))), (f, .inr (3, [.ref fb, .int (fI 0), .int (fI 0)])), (fb, .inl (cA 1, 12000, .inl (fun _ => fI 0))), (y, .inr (5, [.ref r, .int (fI 0)])), c_arr cA r 60 g1]
def c_L1 (cA : Nat → ClassId) (h0 s a1 a2 a3 a4 a5 a6 f fb y r sc p d db dq t ta tb e n1 k1 : Nat) (g1 g2 : Nat → Nat) : va_W := [(sc, .inr (6, [.ref f, .ref p, .int (fI 0), .int (fI 0), .int (fI 0)])), c_arr cA p 60 g2]
def c_L2 (cA : Nat → ClassId) (h0 s a1 a2 a3 a4 a5 a6 f fb y r sc p d db dq t ta tb e n1 k1 : Nat) (g1 g2 : Nat → Nat) : va_W := [(d, .inr (7, [.ref s, .ref db, .ref dq, .ref t, .int (fI 0), .int (fI 0), .int (fI 0)])), (db, .inl (cA 1, 6000, .inl (fun _ => fI 0))), (dq, .inl (cA 0, 40, .inl (fun _ => fI 0))), (t, .inr (4, [.ref ta, .ref tb, .int (fI 0), .int (fI 0)])), (ta, .inl (cA 0, 41, .inl (fun _ => fI 0))), (tb, .inl (cA 0, 41, .inl (fun _ => fI 0))), (e, .inr (8, [.ref n1, .ref k1, .int (fI 0)])), (n1, .inl (cA 0, 40, .inl (fun _ => fI 0))), (k1, .inl (cA 0, 40, .inl (fun _ => fI 0)))]
def c_all (cA : Nat → ClassId) (h0 s a1 a2 a3 a4 a5 a6 f fb y r sc p d db dq t ta tb e n1 k1 : Nat) (g1 g2 : Nat → Nat) : va_W := c_L0 cA h0 s a1 a2 a3 a4 a5 a6 f fb y r sc p d db dq t ta tb e n1 k1 g1 g2 ++ (c_tabs cA g1 60 ++ (c_L1 cA h0 s a1 a2 a3 a4 a5 a6 f fb y r sc p d db dq t ta tb e n1 k1 g1 g2 ++ (c_tabs cA g2 60 ++ c_L2 cA h0 s a1 a2 a3 a4 a5 a6 f fb y r sc p d db dq t ta tb e n1 k1 g1 g2)))
def c_adA (h0 s a1 a2 a3 a4 a5 a6 f fb y r sc p d db dq t ta tb e n1 k1 : Nat) (g1 g2 : Nat → Nat) : Nat → Nat := fun k => match k with
  | 0 => h0
  | 1 => s
  | 2 => a1
  | 3 => a2
  | 4 => a3
  | 5 => a4
  | 6 => a5
  | 7 => a6
  | 8 => f
  | 9 => fb
  | 10 => y
  | _ => r
def c_adB (h0 s a1 a2 a3 a4 a5 a6 f fb y r sc p d db dq t ta tb e n1 k1 : Nat) (g1 g2 : Nat → Nat) : Nat → Nat := fun k => match k with
  | 0 => d
  | 1 => db
  | 2 => dq
  | 3 => t
  | 4 => ta
  | 5 => tb
  | 6 => e
  | 7 => n1
  | _ => k1
def c_ad (h0 s a1 a2 a3 a4 a5 a6 f fb y r sc p d db dq t ta tb e n1 k1 : Nat) (g1 g2 : Nat → Nat) (k : Nat) : Nat := if k < 12 then c_adA h0 s a1 a2 a3 a4 a5 a6 f fb y r sc p d db dq t ta tb e n1 k1 g1 g2 k else if k < 192 then g1 (k - 12) else if k = 192 then sc else if k = 193 then p else if k < 374 then g2 (k - 194) else c_adB h0 s a1 a2 a3 a4 a5 a6 f fb y r sc p d db dq t ta tb e n1 k1 g1 g2 (k - 374)
theorem c_tabs_at (cA : Nat → ClassId) (g : Nat → Nat) (n i : Nat) (h : i < n) : (c_tabs cA g n)[3 * i]? = some (g (3 * i), .inr (4, [.ref (g (3 * i + 1)), .ref (g (3 * i + 2)), .int (fI 0), .int (fI 0)])) ∧ (c_tabs cA g n)[3 * i + 1]? = some (g (3 * i + 1), .inl (cA 0, 41, .inl (fun _ => fI 0))) ∧ (c_tabs cA g n)[3 * i + 2]? = some (g (3 * i + 2), .inl (cA 0, 41, .inl (fun _ => fI 0))) := by
  induction n with
  | zero => omega
  | succ n ih =>
    have hl := c_tabs_len cA g n
    unfold c_tabs
    by_cases e : i = n
    · subst e
      refine ⟨?_, ?_, ?_⟩
      · rw [List.getElem?_append_right (by omega), hl, show 3 * i - 3 * i = 0 by omega]; rfl
      · rw [List.getElem?_append_right (by omega), hl, show 3 * i + 1 - 3 * i = 1 by omega]; rfl
      · rw [List.getElem?_append_right (by omega), hl, show 3 * i + 2 - 3 * i = 2 by omega]; rfl
    · have h9 := ih (by omega)
      refine ⟨?_, ?_, ?_⟩
      · rw [List.getElem?_append_left (by omega)]; exact h9.1
      · rw [List.getElem?_append_left (by omega)]; exact h9.2.1
      · rw [List.getElem?_append_left (by omega)]; exact h9.2.2
theorem c_arrV {c : ClassId} {n : Nat} {f g : Nat → Value} (h : ∀ j, j < n → f j = g j) : arrV c n f = arrV c n g := by
  unfold arrV
  congr 1
  refine Array.ext (by simp) (fun i h1 h2 => ?_)
  simp
  exact h i (by simpa using h1)
section CF
variable {cA : Nat → ClassId} {h0 s a1 a2 a3 a4 a5 a6 f fb y r sc p d db dq t ta tb e n1 k1 : Nat} {g1 g2 : Nat → Nat}
theorem c_arr_at {D : va_G} {cl : List vw_C} {H : Heap} {q : Nat} {g : Nat → Nat} {F : Nat → Option Nat} (hF : ∀ j, j < 60 → F j = some (g (3 * j))) (h : va_at D cl (c_arr cA q 60 g) H) : va_at D cl (q, .inl (cA 3, 60, .inr (.inr (.inr (.inr F))))) H := by
  have h1 : H[q]? = some (vp_cell (cA 3) (60, .inr (.inr (.inr (.inr (fun j => if j < 60 then some (g (3 * j)) else none)))))) := h
  show H[q]? = some (vp_cell (cA 3) (60, .inr (.inr (.inr (.inr F)))))
  rw [h1, vp_cell_q, vp_cell_q]
  exact congrArg some (c_arrV (fun j hj => by show va_rf (if j < 60 then some (g (3 * j)) else none) = va_rf (F j); rw [if_pos hj, hF j hj]))
theorem c_idx (k : Nat) (hk : k < 383) : (k < 12 ∧ (c_all cA h0 s a1 a2 a3 a4 a5 a6 f fb y r sc p d db dq t ta tb e n1 k1 g1 g2)[k]? = (c_L0 cA h0 s a1 a2 a3 a4 a5 a6 f fb y r sc p d db dq t ta tb e n1 k1 g1 g2)[k]?) ∨ (∃ i j, i < 60 ∧ j < 3 ∧ k = 12 + 3 * i + j ∧ (c_all cA h0 s a1 a2 a3 a4 a5 a6 f fb y r sc p d db dq t ta tb e n1 k1 g1 g2)[k]? = (c_tabs cA g1 60)[3 * i + j]?) ∨ (192 ≤ k ∧ k < 194 ∧ (c_all cA h0 s a1 a2 a3 a4 a5 a6 f fb y r sc p d db dq t ta tb e n1 k1 g1 g2)[k]? = (c_L1 cA h0 s a1 a2 a3 a4 a5 a6 f fb y r sc p d db dq t ta tb e n1 k1 g1 g2)[k - 192]?) ∨ (∃ i j, i < 60 ∧ j < 3 ∧ k = 194 + 3 * i + j ∧ (c_all cA h0 s a1 a2 a3 a4 a5 a6 f fb y r sc p d db dq t ta tb e n1 k1 g1 g2)[k]? = (c_tabs cA g2 60)[3 * i + j]?) ∨ (374 ≤ k ∧ (c_all cA h0 s a1 a2 a3 a4 a5 a6 f fb y r sc p d db dq t ta tb e n1 k1 g1 g2)[k]? = (c_L2 cA h0 s a1 a2 a3 a4 a5 a6 f fb y r sc p d db dq t ta tb e n1 k1 g1 g2)[k - 374]?) := by
  have l0 : (c_L0 cA h0 s a1 a2 a3 a4 a5 a6 f fb y r sc p d db dq t ta tb e n1 k1 g1 g2).length = 12 := rfl
  have l1 : (c_L1 cA h0 s a1 a2 a3 a4 a5 a6 f fb y r sc p d db dq t ta tb e n1 k1 g1 g2).length = 2 := rfl
  have t1 := c_tabs_len cA g1 60
  have t2 := c_tabs_len cA g2 60
  unfold c_all
  by_cases h1 : k < 12
  · exact Or.inl ⟨h1, by rw [List.getElem?_append_left (by omega)]⟩
  rw [List.getElem?_append_right (by omega), l0]
  by_cases h2 : k < 192
  · refine Or.inr (Or.inl ⟨(k - 12) / 3, (k - 12) % 3, by omega, by omega, by omega, ?_⟩)
    rw [List.getElem?_append_left (by omega), show 3 * ((k - 12) / 3) + (k - 12) % 3 = k - 12 by omega]
  rw [List.getElem?_append_right (by omega), t1]
  by_cases h3 : k < 194
  · refine Or.inr (Or.inr (Or.inl ⟨by omega, h3, ?_⟩))
    rw [List.getElem?_append_left (by omega), show k - 12 - 3 * 60 = k - 192 by omega]
  rw [List.getElem?_append_right (by omega), l1]
  by_cases h4 : k < 374
  · refine Or.inr (Or.inr (Or.inr (Or.inl ⟨(k - 194) / 3, (k - 194) % 3, by omega, by omega, by omega, ?_⟩)))
    rw [List.getElem?_append_left (by omega), show 3 * ((k - 194) / 3) + (k - 194) % 3 = k - 12 - 3 * 60 - 2 by omega]
  rw [List.getElem?_append_right (by omega), t2]
  exact Or.inr (Or.inr (Or.inr (Or.inr ⟨by omega, by rw [show k - 12 - 3 * 60 - 2 - 3 * 60 = k - 374 by omega]⟩)))
theorem c_fit (D : va_G) (k : Nat) (hk : k < 383) : ∃ en, (c_all cA h0 s a1 a2 a3 a4 a5 a6 f fb y r sc p d db dq t ta tb e n1 k1 g1 g2)[k]? = some (c_ad h0 s a1 a2 a3 a4 a5 a6 f fb y r sc p d db dq t ta tb e n1 k1 g1 g2 k, en) ∧ ∀ H, va_at D ((RM, TM, 32) :: xCl) (c_ad h0 s a1 a2 a3 a4 a5 a6 f fb y r sc p d db dq t ta tb e n1 k1 g1 g2 k, en) H → va_at D ((RM, TM, 32) :: xCl) (c_ad h0 s a1 a2 a3 a4 a5 a6 f fb y r sc p d db dq t ta tb e n1 k1 g1 g2 k, f_cell (c_ad h0 s a1 a2 a3 a4 a5 a6 f fb y r sc p d db dq t ta tb e n1 k1 g1 g2) cA x_0 k (xY k)) H := by
  have hg1 : ∀ m, m < 180 → c_ad h0 s a1 a2 a3 a4 a5 a6 f fb y r sc p d db dq t ta tb e n1 k1 g1 g2 (12 + m) = g1 m := fun m hm => by
    unfold c_ad
    rw [if_neg (by omega), if_pos (by omega), show 12 + m - 12 = m by omega]
  have hg2 : ∀ m, m < 180 → c_ad h0 s a1 a2 a3 a4 a5 a6 f fb y r sc p d db dq t ta tb e n1 k1 g1 g2 (194 + m) = g2 m := fun m hm => by
    unfold c_ad
    rw [if_neg (by omega), if_neg (by omega), if_neg (by omega), if_neg (by omega), if_pos (by omega), show 194 + m - 194 = m by omega]
  rcases c_idx (cA := cA) (h0 := h0) (s := s) (a1 := a1) (a2 := a2) (a3 := a3) (a4 := a4) (a5 := a5) (a6 := a6) (f := f) (fb := fb) (y := y) (r := r) (sc := sc) (p := p) (d := d) (db := db) (dq := dq) (t := t) (ta := ta) (tb := tb) (e := e) (n1 := n1) (k1 := k1) (g1 := g1) (g2 := g2) k hk with ⟨h1, h2⟩ | ⟨i, j, hi, hj, rfl, h2⟩ | ⟨h1, h3, h2⟩ | ⟨i, j, hi, hj, rfl, h2⟩ | ⟨h1, h2⟩
  · rw [h2]
    rcases (show k = 0 ∨ k = 1 ∨ k = 2 ∨ k = 3 ∨ k = 4 ∨ k = 5 ∨ k = 6 ∨ k = 7 ∨ k = 8 ∨ k = 9 ∨ k = 10 ∨ k = 11 by omega) with rfl | rfl | rfl | rfl | rfl | rfl | rfl | rfl | rfl | rfl | rfl | rfl
    · exact ⟨_, rfl, fun H h => h⟩
    · exact ⟨_, rfl, fun H h => h⟩
    · exact ⟨_, rfl, fun H h => h⟩
    · exact ⟨_, rfl, fun H h => h⟩
    · exact ⟨_, rfl, fun H h => h⟩
    · exact ⟨_, rfl, fun H h => h⟩
    · exact ⟨_, rfl, fun H h => h⟩
    · exact ⟨_, rfl, fun H h => h⟩
    · exact ⟨_, rfl, fun H h => h⟩
    · exact ⟨_, rfl, fun H h => h⟩
    · exact ⟨_, rfl, fun H h => h⟩
    · refine ⟨_, rfl, fun H h => c_arr_at (g := g1) (fun q hq => ?_) h⟩
      show some (c_ad h0 s a1 a2 a3 a4 a5 a6 f fb y r sc p d db dq t ta tb e n1 k1 g1 g2 (12 + 3 * q)) = some (g1 (3 * q))
      rw [hg1 _ (by omega)]
  · have h9 := c_tabs_at cA g1 60 i hi
    rw [h2]
    rcases (show j = 0 ∨ j = 1 ∨ j = 2 by omega) with rfl | rfl | rfl
    · refine ⟨_, by rw [Nat.add_zero, Nat.add_zero, hg1 _ (by omega)]; exact h9.1, fun H h => ?_⟩
      rw [Nat.add_zero] at h ⊢
      rw [xY_h0 i hi]
      show va_at D _ (_, .inr (4, [.ref (c_ad h0 s a1 a2 a3 a4 a5 a6 f fb y r sc p d db dq t ta tb e n1 k1 g1 g2 (12 + 3 * i + 1)), .ref (c_ad h0 s a1 a2 a3 a4 a5 a6 f fb y r sc p d db dq t ta tb e n1 k1 g1 g2 (12 + 3 * i + 2)), .int (fI 0), .int (fI 0)])) H
      rw [show 12 + 3 * i + 1 = 12 + (3 * i + 1) by omega, show 12 + 3 * i + 2 = 12 + (3 * i + 2) by omega, hg1 (3 * i + 1) (by omega), hg1 (3 * i + 2) (by omega)]
      exact h
    · refine ⟨_, by rw [Nat.add_assoc, hg1 _ (by omega)]; exact h9.2.1, fun H h => ?_⟩
      rw [xY_h1 i hi]
      exact h
    · refine ⟨_, by rw [Nat.add_assoc, hg1 _ (by omega)]; exact h9.2.2, fun H h => ?_⟩
      rw [xY_h2 i hi]
      exact h
  · rw [h2]
    rcases (show k = 192 ∨ k = 193 by omega) with rfl | rfl
    · exact ⟨_, rfl, fun H h => h⟩
    · refine ⟨_, rfl, fun H h => c_arr_at (g := g2) (fun q hq => ?_) h⟩
      show some (c_ad h0 s a1 a2 a3 a4 a5 a6 f fb y r sc p d db dq t ta tb e n1 k1 g1 g2 (194 + 3 * q)) = some (g2 (3 * q))
      rw [hg2 _ (by omega)]
  · have h9 := c_tabs_at cA g2 60 i hi
    rw [h2]
    rcases (show j = 0 ∨ j = 1 ∨ j = 2 by omega) with rfl | rfl | rfl
    · refine ⟨_, by rw [Nat.add_zero, Nat.add_zero, hg2 _ (by omega)]; exact h9.1, fun H h => ?_⟩
      rw [Nat.add_zero] at h ⊢
      rw [xY_c0 i hi]
      show va_at D _ (_, .inr (4, [.ref (c_ad h0 s a1 a2 a3 a4 a5 a6 f fb y r sc p d db dq t ta tb e n1 k1 g1 g2 (194 + 3 * i + 1)), .ref (c_ad h0 s a1 a2 a3 a4 a5 a6 f fb y r sc p d db dq t ta tb e n1 k1 g1 g2 (194 + 3 * i + 2)), .int (fI 0), .int (fI 0)])) H
      rw [show 194 + 3 * i + 1 = 194 + (3 * i + 1) by omega, show 194 + 3 * i + 2 = 194 + (3 * i + 2) by omega, hg2 (3 * i + 1) (by omega), hg2 (3 * i + 2) (by omega)]
      exact h
    · refine ⟨_, by rw [Nat.add_assoc, hg2 _ (by omega)]; exact h9.2.1, fun H h => ?_⟩
      rw [xY_c1 i hi]
      exact h
    · refine ⟨_, by rw [Nat.add_assoc, hg2 _ (by omega)]; exact h9.2.2, fun H h => ?_⟩
      rw [xY_c2 i hi]
      exact h
  · rw [h2]
    rcases (show k = 374 ∨ k = 375 ∨ k = 376 ∨ k = 377 ∨ k = 378 ∨ k = 379 ∨ k = 380 ∨ k = 381 ∨ k = 382 by omega) with rfl | rfl | rfl | rfl | rfl | rfl | rfl | rfl | rfl
    · exact ⟨_, rfl, fun H h => h⟩
    · exact ⟨_, rfl, fun H h => h⟩
    · exact ⟨_, rfl, fun H h => h⟩
    · exact ⟨_, rfl, fun H h => h⟩
    · exact ⟨_, rfl, fun H h => h⟩
    · exact ⟨_, rfl, fun H h => h⟩
    · exact ⟨_, rfl, fun H h => h⟩
    · exact ⟨_, rfl, fun H h => h⟩
    · exact ⟨_, rfl, fun H h => h⟩
end CF
/-- cells that are the class's world, all its numbers 0 -/
def c_ok (D : va_G) (cA : Nat → ClassId) (h0 : Nat) (w : va_W) : Prop := ∃ ad : Nat → Nat, ad 0 = h0 ∧ (∀ k, k < 383 → ∃ en, w[k]? = some (ad k, en)) ∧ ∀ H, va_P D ((RM, TM, 32) :: xCl) w H → f_W (xG D cA ad) x_0 H
theorem c_fin (D : va_G) (cA : Nat → ClassId) (h0 s a1 a2 a3 a4 a5 a6 f fb y r sc p d db dq t ta tb e n1 k1 : Nat) (g1 g2 : Nat → Nat) : c_ok D cA h0 (c_all cA h0 s a1 a2 a3 a4 a5 a6 f fb y r sc p d db dq t ta tb e n1 k1 g1 g2) := by
  refine ⟨c_ad h0 s a1 a2 a3 a4 a5 a6 f fb y r sc p d db dq t ta tb e n1 k1 g1 g2, rfl, fun k hk => ?_, fun H hP k q hq => ?_⟩
  · obtain ⟨en, h1, -⟩ := c_fit (cA := cA) (h0 := h0) (s := s) (a1 := a1) (a2 := a2) (a3 := a3) (a4 := a4) (a5 := a5) (a6 := a6) (f := f) (fb := fb) (y := y) (r := r) (sc := sc) (p := p) (d := d) (db := db) (dq := dq) (t := t) (ta := ta) (tb := tb) (e := e) (n1 := n1) (k1 := k1) (g1 := g1) (g2 := g2) D k hk
    exact ⟨en, h1⟩
  · obtain ⟨hk, rfl⟩ := f_w_inv hq
    obtain ⟨en, h1, h2⟩ := c_fit (cA := cA) (h0 := h0) (s := s) (a1 := a1) (a2 := a2) (a3 := a3) (a4 := a4) (a5 := a5) (a6 := a6) (f := f) (fb := fb) (y := y) (r := r) (sc := sc) (p := p) (d := d) (db := db) (dq := dq) (t := t) (ta := ta) (tb := tb) (e := e) (n1 := n1) (k1 := k1) (g1 := g1) (g2 := g2) D k hk
    exact h2 H (hP k _ h1)
set_option maxRecDepth 100000 in
set_option maxHeartbeats 4000000 in
/-- a new RevisionWrite -/
theorem cX_XA (l : Launch) (D : va_G) (cA : Nat → ClassId) (h0 : Nat)  : c_M l D ((RM, TM, 32) :: xCl) (w_tys cA) yXA_init (Cond.code yXA_init cXA_init 1 none :: A9) 3 382 33797 h0 (.inr (1, [.null, .null, .null, .null, .null, .null])) [.ref h0] (fun w => c_ok D cA h0 w) := by
  refine c_enter (by decide +kernel) rfl rfl (Nat.le_of_ble_eq_true rfl) ?_
  intro z hzl hR C hRt hLk
  subst hzl
  refine c_aload_n C dXA_init_0 rfl rfl ?_
  refine c_obj C (in9_1 34 (by decide +kernel) rfl) (in9_1 35 (by decide +kernel) rfl) (in9_1 36 (by decide +kernel) rfl) dXA_init_1 (by rw [hR]; exact ⟨by decide, by decide⟩) ?_
  refine c_aload_n C dXA_init_4 rfl rfl ?_
  refine c_new (ci := 2) (fs := [.null, .null, .null, .null, .null, .null]) C inXS tyXS_ok (in9_1 37 (by decide +kernel) rfl) (in9_1 38 (by decide +kernel) rfl) iXS rfl (by decide +kernel) dXA_init_5 (by rw [hR]; exact ⟨by decide, by decide⟩) (fun q5 => ?_)
  refine c_dup C dXA_init_8 rfl ?_
  refine c_call (n := 0) C (cX_XS _ D cA q5) dXA_init_9 (Or.inl ⟨RXA, C.2.2.2.2.2.2.2.2.1 _ (by decide +kernel)⟩) (in9_1 40 (by decide +kernel) rfl) iXS wXS_init (by decide +kernel) (by rw [hR]; exact ⟨by decide, by decide, by decide, by decide⟩) rfl (Nat.le_of_ble_eq_true rfl) rfl (fun w9 hw9 => ?_)
  obtain ⟨a1, a2, a3, a4, a5, a6, hw9⟩ := hw9
  subst hw9
  refine c_put (q0 := 0) (k := 0) (ci := 1) C inXA tyXA_ok nmXA rfl rfl (by decide) lXA_10 rfl rfl rfl (tyXA_ok 0 (by decide)) rfl rfl (Nat.le_of_ble_eq_true rfl) dXA_init_12 ?_
  refine c_aload_n C dXA_init_15 rfl rfl ?_
  refine c_new (ci := 3) (fs := [.null, .int (fI 0), .int (fI 0)]) C inXF tyXF_ok (in9_1 71 (by decide +kernel) rfl) (in9_1 72 (by decide +kernel) rfl) iXF rfl (by decide +kernel) dXA_init_16 (by rw [hR]; exact ⟨by decide, by decide⟩) (fun q16 => ?_)
  refine c_dup C dXA_init_19 rfl ?_
  refine c_call (n := 0) C (cX_XF _ D cA q16) dXA_init_20 (Or.inl ⟨RXA, C.2.2.2.2.2.2.2.2.1 _ (by decide +kernel)⟩) (in9_1 74 (by decide +kernel) rfl) iXF wXF_init (by decide +kernel) (by rw [hR]; exact ⟨by decide, by decide, by decide, by decide⟩) rfl (Nat.le_of_ble_eq_true rfl) rfl (fun w20 hw20 => ?_)
  obtain ⟨fb, hw20⟩ := hw20
  subst hw20
  refine c_put (q0 := 0) (k := 1) (ci := 1) C inXA tyXA_ok nmXA rfl rfl (by decide) lXA_19 rfl rfl rfl (tyXA_ok 1 (by decide)) rfl rfl (Nat.le_of_ble_eq_true rfl) dXA_init_23 ?_
  refine c_aload_n C dXA_init_26 rfl rfl ?_
  refine c_new (ci := 5) (fs := [.null, .int (fI 0)]) C inXH tyXH_ok (in9_1 91 (by decide +kernel) rfl) (in9_1 92 (by decide +kernel) rfl) iXH rfl (by decide +kernel) dXA_init_27 (by rw [hR]; exact ⟨by decide, by decide⟩) (fun q27 => ?_)
  refine c_dup C dXA_init_30 rfl ?_
  refine c_call (n := 0) C (cX_XH _ D cA q27) dXA_init_31 (Or.inr (in9_1 93 (by decide +kernel) rfl)) (in9_1 94 (by decide +kernel) rfl) iXH wXH_init (by decide +kernel) (by rw [hR]; exact ⟨by decide, by decide, by decide, by decide⟩) rfl (Nat.le_of_ble_eq_true rfl) rfl (fun w31 hw31 => ?_)
  obtain ⟨r, g1, hw31⟩ := hw31
  subst hw31
  refine c_put (q0 := 0) (k := 2) (ci := 1) C inXA tyXA_ok nmXA rfl rfl (by decide) lXA_26 rfl rfl rfl (tyXA_ok 2 (by decide)) rfl rfl (Nat.le_of_ble_eq_true rfl) dXA_init_34 ?_
  refine c_aload_n C dXA_init_37 rfl rfl ?_
  refine c_new (ci := 6) (fs := [.null, .null, .int (fI 0), .int (fI 0), .int (fI 0)]) C inXC tyXC_ok (in9_1 141 (by decide +kernel) rfl) (in9_1 142 (by decide +kernel) rfl) iXC rfl (by decide +kernel) dXA_init_38 (by rw [hR]; exact ⟨by decide, by decide⟩) (fun q38 => ?_)
  refine c_dup C dXA_init_41 rfl ?_
  refine c_aload_n C dXA_init_42 rfl rfl ?_
  refine c_get (q0 := 0) (k := 1) (ci := 1) C inXA rfl rfl (by decide) lXA_19 rfl rfl dXA_init_43 ?_
  refine c_call (n := 1) C (cX_XC _ D cA q38 q16) dXA_init_46 (Or.inr (in9_1 143 (by decide +kernel) rfl)) (in9_1 144 (by decide +kernel) rfl) iXC wXC_init (by decide +kernel) (by rw [hR]; exact ⟨by decide, by decide, by decide, by decide⟩) rfl (Nat.le_of_ble_eq_true rfl) rfl (fun w46 hw46 => ?_)
  obtain ⟨p, g2, hw46⟩ := hw46
  subst hw46
  refine c_put (q0 := 0) (k := 3) (ci := 1) C inXA tyXA_ok nmXA rfl rfl (by decide) lXA_35 rfl rfl rfl (tyXA_ok 3 (by decide)) rfl rfl (Nat.le_of_ble_eq_true rfl) dXA_init_49 ?_
  refine c_aload_n C dXA_init_52 rfl rfl ?_
  refine c_new (ci := 7) (fs := [.null, .null, .null, .null, .int (fI 0), .int (fI 0), .int (fI 0)]) C inXD tyXD_ok (in9_1 167 (by decide +kernel) rfl) (in9_1 168 (by decide +kernel) rfl) iXD rfl (by decide +kernel) dXA_init_53 (by rw [hR]; exact ⟨by decide, by decide⟩) (fun q53 => ?_)
  refine c_dup C dXA_init_56 rfl ?_
  refine c_aload_n C dXA_init_57 rfl rfl ?_
  refine c_get (q0 := 0) (k := 0) (ci := 1) C inXA rfl rfl (by decide) lXA_10 rfl rfl dXA_init_58 ?_
  refine c_call (n := 1) C (cX_XD _ D cA q53 q5) dXA_init_61 (Or.inr (in9_1 169 (by decide +kernel) rfl)) (in9_1 170 (by decide +kernel) rfl) iXD wXD_init (by decide +kernel) (by rw [hR]; exact ⟨by decide, by decide, by decide, by decide⟩) rfl (Nat.le_of_ble_eq_true rfl) rfl (fun w61 hw61 => ?_)
  obtain ⟨db, dq, t, ta, tb, hw61⟩ := hw61
  subst hw61
  refine c_put (q0 := 0) (k := 4) (ci := 1) C inXA tyXA_ok nmXA rfl rfl (by decide) lXA_44 rfl rfl rfl (tyXA_ok 4 (by decide)) rfl rfl (Nat.le_of_ble_eq_true rfl) dXA_init_64 ?_
  refine c_aload_n C dXA_init_67 rfl rfl ?_
  refine c_new (ci := 8) (fs := [.null, .null, .int (fI 0)]) C inXG tyXG_ok (in9_1 201 (by decide +kernel) rfl) (in9_1 202 (by decide +kernel) rfl) iXG rfl (by decide +kernel) dXA_init_68 (by rw [hR]; exact ⟨by decide, by decide⟩) (fun q68 => ?_)
  refine c_dup C dXA_init_71 rfl ?_
  refine c_call (n := 0) C (cX_XG _ D cA q68) dXA_init_72 (Or.inl ⟨RXA, C.2.2.2.2.2.2.2.2.1 _ (by decide +kernel)⟩) (in9_1 204 (by decide +kernel) rfl) iXG wXG_init (by decide +kernel) (by rw [hR]; exact ⟨by decide, by decide, by decide, by decide⟩) rfl (Nat.le_of_ble_eq_true rfl) rfl (fun w72 hw72 => ?_)
  obtain ⟨n1, k1, hw72⟩ := hw72
  subst hw72
  refine c_put (q0 := 0) (k := 5) (ci := 1) C inXA tyXA_ok nmXA rfl rfl (by decide) lXA_51 rfl rfl rfl (tyXA_ok 5 (by decide)) rfl rfl (Nat.le_of_ble_eq_true rfl) dXA_init_75 ?_
  exact c_ret C hRt hLk dXA_init_78 ⟨by decide, by decide⟩ (by have hfin := c_fin D cA h0 q5 a1 a2 a3 a4 a5 a6 q16 fb q27 r q38 p q53 db dq t ta tb q68 n1 k1 g1 g2; unfold c_all c_L0 c_L1 c_L2 at hfin; simpa only [c_tab, List.append_assoc, List.cons_append, List.nil_append, List.singleton_append, List.set_cons_zero, List.set_cons_succ] using hfin)
end
section
def cm_ok (D : va_G) (cA : Nat → ClassId) (h0 : Nat) (w : va_W) : Prop := ∃ ad : Nat → Nat, ad 0 = h0 ∧ (∀ k, k < 18 → ∃ en, w[k]? = some (ad k, en)) ∧ ∀ H, va_P D ((RM, TM, 32) :: xCl) w H → f_W (mG xCl D cA ad) x_0 H
def cm_all (cA : Nat → ClassId) (h0 q7 q15 q23 q31 q39 q48 q57 q65 q73 q82 q91 q100 q108 q116 q124 q132 q140 : Nat) : va_W := [(h0, .inr (0, [.int (fI 0), .ref q7, .ref q15, .ref q23, .ref q31, .ref q39, .ref q48, .int (fI 0), .ref q57, .int (fI 0), .int (fI 0), .ref q65, .ref q73, .ref q82, .ref q91, .ref q100, .int (fI 0), .int (fI 0), .ref q108, .ref q116, .int (fI 0), .int (fI 0), .int (fI 0), .int (fI 0), .int (fI 0), .ref q124, .int (fI 0), .int (fI 0), .int (fI 0), .int (fI 0), .ref q132, .ref q140])), (q7, .inl (cA 2, 41, .inl (fun _ => fI 0))), (q15, .inl (cA 2, 41, .inl (fun _ => fI 0))), (q23, .inl (cA 2, 41, .inl (fun _ => fI 0))), (q31, .inl (cA 2, 41, .inl (fun _ => fI 0))), (q39, .inl (cA 0, 41, .inl (fun _ => fI 0))), (q48, .inl (cA 1, 4920, .inl (fun _ => fI 0))), (q57, .inl (cA 1, 12000, .inl (fun _ => fI 0))), (q65, .inl (cA 0, 60, .inl (fun _ => fI 0))), (q73, .inl (cA 0, 60, .inl (fun _ => fI 0))), (q82, .inl (cA 0, 2460, .inl (fun _ => fI 0))), (q91, .inl (cA 0, 2460, .inl (fun _ => fI 0))), (q100, .inl (cA 0, 2460, .inl (fun _ => fI 0))), (q108, .inl (cA 0, 41, .inl (fun _ => fI 0))), (q116, .inl (cA 0, 41, .inl (fun _ => fI 0))), (q124, .inl (cA 0, 60, .inl (fun _ => fI 0))), (q132, .inl (cA 0, 40, .inl (fun _ => fI 0))), (q140, .inl (cA 0, 40, .inl (fun _ => fI 0)))]
def cm_ad (h0 q7 q15 q23 q31 q39 q48 q57 q65 q73 q82 q91 q100 q108 q116 q124 q132 q140 : Nat) : Nat → Nat := fun k => match k with
  | 0 => h0
  | 1 => q7
  | 2 => q15
  | 3 => q23
  | 4 => q31
  | 5 => q39
  | 6 => q48
  | 7 => q57
  | 8 => q65
  | 9 => q73
  | 10 => q82
  | 11 => q91
  | 12 => q100
  | 13 => q108
  | 14 => q116
  | 15 => q124
  | 16 => q132
  | _ => q140
theorem cm_fit (D : va_G) (cA : Nat → ClassId) (h0 q7 q15 q23 q31 q39 q48 q57 q65 q73 q82 q91 q100 q108 q116 q124 q132 q140 : Nat) (k : Nat) (hk : k < 18) : (cm_all cA h0 q7 q15 q23 q31 q39 q48 q57 q65 q73 q82 q91 q100 q108 q116 q124 q132 q140)[k]? = some (cm_ad h0 q7 q15 q23 q31 q39 q48 q57 q65 q73 q82 q91 q100 q108 q116 q124 q132 q140 k, f_cell (cm_ad h0 q7 q15 q23 q31 q39 q48 q57 q65 q73 q82 q91 q100 q108 q116 q124 q132 q140) cA x_0 k (mY k)) := by
  rcases (show k = 0 ∨ k = 1 ∨ k = 2 ∨ k = 3 ∨ k = 4 ∨ k = 5 ∨ k = 6 ∨ k = 7 ∨ k = 8 ∨ k = 9 ∨ k = 10 ∨ k = 11 ∨ k = 12 ∨ k = 13 ∨ k = 14 ∨ k = 15 ∨ k = 16 ∨ k = 17 by omega) with rfl | rfl | rfl | rfl | rfl | rfl | rfl | rfl | rfl | rfl | rfl | rfl | rfl | rfl | rfl | rfl | rfl | rfl <;> rfl
theorem cm_fin (D : va_G) (cA : Nat → ClassId) (h0 q7 q15 q23 q31 q39 q48 q57 q65 q73 q82 q91 q100 q108 q116 q124 q132 q140 : Nat) : cm_ok D cA h0 (cm_all cA h0 q7 q15 q23 q31 q39 q48 q57 q65 q73 q82 q91 q100 q108 q116 q124 q132 q140) := by
  refine ⟨cm_ad h0 q7 q15 q23 q31 q39 q48 q57 q65 q73 q82 q91 q100 q108 q116 q124 q132 q140, rfl, fun k hk => ⟨_, cm_fit D cA h0 q7 q15 q23 q31 q39 q48 q57 q65 q73 q82 q91 q100 q108 q116 q124 q132 q140 k hk⟩, fun H hP k x hx => ?_⟩
  obtain ⟨hk, rfl⟩ := f_w_inv hx
  exact hP k _ (cm_fit D cA h0 q7 q15 q23 q31 q39 q48 q57 q65 q73 q82 q91 q100 q108 q116 q124 q132 q140 k hk)
set_option maxRecDepth 100000 in
set_option maxHeartbeats 4000000 in
/-- a new RevisionWriteModel -/
theorem cM_new (l : Launch) (D : va_G) (cA : Nat → ClassId) (h0 : Nat)  : c_M l D ((RM, TM, 32) :: xCl) (w_tys cA) yM_init (Cond.code yM_init cM_init 1 none :: A9) 1 17 24847 h0 (.inr (0, [.int (fI 0), .null, .null, .null, .null, .null, .null, .int (fI 0), .null, .int (fI 0), .int (fI 0), .null, .null, .null, .null, .null, .int (fI 0), .int (fI 0), .null, .null, .int (fI 0), .int (fI 0), .int (fI 0), .int (fI 0), .int (fI 0), .null, .int (fI 0), .int (fI 0), .int (fI 0), .int (fI 0), .null, .null])) [.ref h0] (fun w => cm_ok D cA h0 w) := by
  refine c_enter (by decide +kernel) rfl rfl (Nat.le_of_ble_eq_true rfl) ?_
  intro z hzl hR C hRt hLk
  subst hzl
  refine c_aload_n C dM_init_0 rfl rfl ?_
  refine c_obj C (in9_5 20 (by decide +kernel) rfl) (in9_1 35 (by decide +kernel) rfl) (in9_1 36 (by decide +kernel) rfl) dM_init_1 (by rw [hR]; exact ⟨by decide, by decide⟩) ?_
  refine c_aload_n C dM_init_4 rfl rfl ?_
  refine c_bipush C dM_init_5 (by decide +kernel) ?_
  refine c_newa (t := 2) C (in9_1 68 (by decide +kernel) rfl) rfl rfl (by decide) (by decide) dM_init_7 (by rw [hR]; exact ⟨by decide, by decide⟩) (fun q7 => ?_)
  refine c_put (q0 := 0) (k := 1) (ci := 0) C inM tyM_ok nmM rfl rfl (by decide) lM_7 rfl rfl rfl (tyM_ok 1 (by decide)) rfl rfl (Nat.le_of_ble_eq_true rfl) dM_init_9 ?_
  refine c_cw rfl rfl (show _ = ([(h0, .inr (0, [.int (fI 0), .ref q7, .null, .null, .null, .null, .null, .int (fI 0), .null, .int (fI 0), .int (fI 0), .null, .null, .null, .null, .null, .int (fI 0), .int (fI 0), .null, .null, .int (fI 0), .int (fI 0), .int (fI 0), .int (fI 0), .int (fI 0), .null, .int (fI 0), .int (fI 0), .int (fI 0), .int (fI 0), .null, .null])), (q7, .inl (cA 2, 41, .inl (fun _ => fI 0)))] : va_W) from rfl) ?_
  refine c_aload_n C dM_init_12 rfl rfl ?_
  refine c_bipush C dM_init_13 (by decide +kernel) ?_
  refine c_newa (t := 2) C (in9_1 68 (by decide +kernel) rfl) rfl rfl (by decide) (by decide) dM_init_15 (by rw [hR]; exact ⟨by decide, by decide⟩) (fun q15 => ?_)
  refine c_put (q0 := 0) (k := 2) (ci := 0) C inM tyM_ok nmM rfl rfl (by decide) lM_13 rfl rfl rfl (tyM_ok 2 (by decide)) rfl rfl (Nat.le_of_ble_eq_true rfl) dM_init_17 ?_
  refine c_cw rfl rfl (show _ = ([(h0, .inr (0, [.int (fI 0), .ref q7, .ref q15, .null, .null, .null, .null, .int (fI 0), .null, .int (fI 0), .int (fI 0), .null, .null, .null, .null, .null, .int (fI 0), .int (fI 0), .null, .null, .int (fI 0), .int (fI 0), .int (fI 0), .int (fI 0), .int (fI 0), .null, .int (fI 0), .int (fI 0), .int (fI 0), .int (fI 0), .null, .null])), (q7, .inl (cA 2, 41, .inl (fun _ => fI 0))), (q15, .inl (cA 2, 41, .inl (fun _ => fI 0)))] : va_W) from rfl) ?_
  refine c_aload_n C dM_init_20 rfl rfl ?_
  refine c_bipush C dM_init_21 (by decide +kernel) ?_
  refine c_newa (t := 2) C (in9_1 68 (by decide +kernel) rfl) rfl rfl (by decide) (by decide) dM_init_23 (by rw [hR]; exact ⟨by decide, by decide⟩) (fun q23 => ?_)
  refine c_put (q0 := 0) (k := 3) (ci := 0) C inM tyM_ok nmM rfl rfl (by decide) lM_16 rfl rfl rfl (tyM_ok 3 (by decide)) rfl rfl (Nat.le_of_ble_eq_true rfl) dM_init_25 ?_
  refine c_cw rfl rfl (show _ = ([(h0, .inr (0, [.int (fI 0), .ref q7, .ref q15, .ref q23, .null, .null, .null, .int (fI 0), .null, .int (fI 0), .int (fI 0), .null, .null, .null, .null, .null, .int (fI 0), .int (fI 0), .null, .null, .int (fI 0), .int (fI 0), .int (fI 0), .int (fI 0), .int (fI 0), .null, .int (fI 0), .int (fI 0), .int (fI 0), .int (fI 0), .null, .null])), (q7, .inl (cA 2, 41, .inl (fun _ => fI 0))), (q15, .inl (cA 2, 41, .inl (fun _ => fI 0))), (q23, .inl (cA 2, 41, .inl (fun _ => fI 0)))] : va_W) from rfl) ?_
  refine c_aload_n C dM_init_28 rfl rfl ?_
  refine c_bipush C dM_init_29 (by decide +kernel) ?_
  refine c_newa (t := 2) C (in9_1 68 (by decide +kernel) rfl) rfl rfl (by decide) (by decide) dM_init_31 (by rw [hR]; exact ⟨by decide, by decide⟩) (fun q31 => ?_)
  refine c_put (q0 := 0) (k := 4) (ci := 0) C inM tyM_ok nmM rfl rfl (by decide) lM_19 rfl rfl rfl (tyM_ok 4 (by decide)) rfl rfl (Nat.le_of_ble_eq_true rfl) dM_init_33 ?_
  refine c_cw rfl rfl (show _ = ([(h0, .inr (0, [.int (fI 0), .ref q7, .ref q15, .ref q23, .ref q31, .null, .null, .int (fI 0), .null, .int (fI 0), .int (fI 0), .null, .null, .null, .null, .null, .int (fI 0), .int (fI 0), .null, .null, .int (fI 0), .int (fI 0), .int (fI 0), .int (fI 0), .int (fI 0), .null, .int (fI 0), .int (fI 0), .int (fI 0), .int (fI 0), .null, .null])), (q7, .inl (cA 2, 41, .inl (fun _ => fI 0))), (q15, .inl (cA 2, 41, .inl (fun _ => fI 0))), (q23, .inl (cA 2, 41, .inl (fun _ => fI 0))), (q31, .inl (cA 2, 41, .inl (fun _ => fI 0)))] : va_W) from rfl) ?_
  refine c_aload_n C dM_init_36 rfl rfl ?_
  refine c_bipush C dM_init_37 (by decide +kernel) ?_
  refine c_newa (t := 0) C (in9_1 69 (by decide +kernel) rfl) rfl rfl (by decide) (by decide) dM_init_39 (by rw [hR]; exact ⟨by decide, by decide⟩) (fun q39 => ?_)
  refine c_put (q0 := 0) (k := 5) (ci := 0) C inM tyM_ok nmM rfl rfl (by decide) lM_22 rfl rfl rfl (tyM_ok 5 (by decide)) rfl rfl (Nat.le_of_ble_eq_true rfl) dM_init_41 ?_
  refine c_cw rfl rfl (show _ = ([(h0, .inr (0, [.int (fI 0), .ref q7, .ref q15, .ref q23, .ref q31, .ref q39, .null, .int (fI 0), .null, .int (fI 0), .int (fI 0), .null, .null, .null, .null, .null, .int (fI 0), .int (fI 0), .null, .null, .int (fI 0), .int (fI 0), .int (fI 0), .int (fI 0), .int (fI 0), .null, .int (fI 0), .int (fI 0), .int (fI 0), .int (fI 0), .null, .null])), (q7, .inl (cA 2, 41, .inl (fun _ => fI 0))), (q15, .inl (cA 2, 41, .inl (fun _ => fI 0))), (q23, .inl (cA 2, 41, .inl (fun _ => fI 0))), (q31, .inl (cA 2, 41, .inl (fun _ => fI 0))), (q39, .inl (cA 0, 41, .inl (fun _ => fI 0)))] : va_W) from rfl) ?_
  refine c_aload_n C dM_init_44 rfl rfl ?_
  refine c_sipush C dM_init_45 (by decide +kernel) ?_
  refine c_newa (t := 1) C (in9_1 70 (by decide +kernel) rfl) rfl rfl (by decide) (by decide) dM_init_48 (by rw [hR]; exact ⟨by decide, by decide⟩) (fun q48 => ?_)
  refine c_put (q0 := 0) (k := 6) (ci := 0) C inM tyM_ok nmM rfl rfl (by decide) lM_26 rfl rfl rfl (tyM_ok 6 (by decide)) rfl rfl (Nat.le_of_ble_eq_true rfl) dM_init_50 ?_
  refine c_cw rfl rfl (show _ = ([(h0, .inr (0, [.int (fI 0), .ref q7, .ref q15, .ref q23, .ref q31, .ref q39, .ref q48, .int (fI 0), .null, .int (fI 0), .int (fI 0), .null, .null, .null, .null, .null, .int (fI 0), .int (fI 0), .null, .null, .int (fI 0), .int (fI 0), .int (fI 0), .int (fI 0), .int (fI 0), .null, .int (fI 0), .int (fI 0), .int (fI 0), .int (fI 0), .null, .null])), (q7, .inl (cA 2, 41, .inl (fun _ => fI 0))), (q15, .inl (cA 2, 41, .inl (fun _ => fI 0))), (q23, .inl (cA 2, 41, .inl (fun _ => fI 0))), (q31, .inl (cA 2, 41, .inl (fun _ => fI 0))), (q39, .inl (cA 0, 41, .inl (fun _ => fI 0))), (q48, .inl (cA 1, 4920, .inl (fun _ => fI 0)))] : va_W) from rfl) ?_
  refine c_aload_n C dM_init_53 rfl rfl ?_
  refine c_sipush C dM_init_54 (by decide +kernel) ?_
  refine c_newa (t := 1) C (in9_1 70 (by decide +kernel) rfl) rfl rfl (by decide) (by decide) dM_init_57 (by rw [hR]; exact ⟨by decide, by decide⟩) (fun q57 => ?_)
  refine c_put (q0 := 0) (k := 8) (ci := 0) C inM tyM_ok nmM rfl rfl (by decide) lM_30 rfl rfl rfl (tyM_ok 8 (by decide)) rfl rfl (Nat.le_of_ble_eq_true rfl) dM_init_59 ?_
  refine c_cw rfl rfl (show _ = ([(h0, .inr (0, [.int (fI 0), .ref q7, .ref q15, .ref q23, .ref q31, .ref q39, .ref q48, .int (fI 0), .ref q57, .int (fI 0), .int (fI 0), .null, .null, .null, .null, .null, .int (fI 0), .int (fI 0), .null, .null, .int (fI 0), .int (fI 0), .int (fI 0), .int (fI 0), .int (fI 0), .null, .int (fI 0), .int (fI 0), .int (fI 0), .int (fI 0), .null, .null])), (q7, .inl (cA 2, 41, .inl (fun _ => fI 0))), (q15, .inl (cA 2, 41, .inl (fun _ => fI 0))), (q23, .inl (cA 2, 41, .inl (fun _ => fI 0))), (q31, .inl (cA 2, 41, .inl (fun _ => fI 0))), (q39, .inl (cA 0, 41, .inl (fun _ => fI 0))), (q48, .inl (cA 1, 4920, .inl (fun _ => fI 0))), (q57, .inl (cA 1, 12000, .inl (fun _ => fI 0)))] : va_W) from rfl) ?_
  refine c_aload_n C dM_init_62 rfl rfl ?_
  refine c_bipush C dM_init_63 (by decide +kernel) ?_
  refine c_newa (t := 0) C (in9_1 69 (by decide +kernel) rfl) rfl rfl (by decide) (by decide) dM_init_65 (by rw [hR]; exact ⟨by decide, by decide⟩) (fun q65 => ?_)
  refine c_put (q0 := 0) (k := 11) (ci := 0) C inM tyM_ok nmM rfl rfl (by decide) lM_33 rfl rfl rfl (tyM_ok 11 (by decide)) rfl rfl (Nat.le_of_ble_eq_true rfl) dM_init_67 ?_
  refine c_cw rfl rfl (show _ = ([(h0, .inr (0, [.int (fI 0), .ref q7, .ref q15, .ref q23, .ref q31, .ref q39, .ref q48, .int (fI 0), .ref q57, .int (fI 0), .int (fI 0), .ref q65, .null, .null, .null, .null, .int (fI 0), .int (fI 0), .null, .null, .int (fI 0), .int (fI 0), .int (fI 0), .int (fI 0), .int (fI 0), .null, .int (fI 0), .int (fI 0), .int (fI 0), .int (fI 0), .null, .null])), (q7, .inl (cA 2, 41, .inl (fun _ => fI 0))), (q15, .inl (cA 2, 41, .inl (fun _ => fI 0))), (q23, .inl (cA 2, 41, .inl (fun _ => fI 0))), (q31, .inl (cA 2, 41, .inl (fun _ => fI 0))), (q39, .inl (cA 0, 41, .inl (fun _ => fI 0))), (q48, .inl (cA 1, 4920, .inl (fun _ => fI 0))), (q57, .inl (cA 1, 12000, .inl (fun _ => fI 0))), (q65, .inl (cA 0, 60, .inl (fun _ => fI 0)))] : va_W) from rfl) ?_
  refine c_aload_n C dM_init_70 rfl rfl ?_
  refine c_bipush C dM_init_71 (by decide +kernel) ?_
  refine c_newa (t := 0) C (in9_1 69 (by decide +kernel) rfl) rfl rfl (by decide) (by decide) dM_init_73 (by rw [hR]; exact ⟨by decide, by decide⟩) (fun q73 => ?_)
  refine c_put (q0 := 0) (k := 12) (ci := 0) C inM tyM_ok nmM rfl rfl (by decide) lM_36 rfl rfl rfl (tyM_ok 12 (by decide)) rfl rfl (Nat.le_of_ble_eq_true rfl) dM_init_75 ?_
  refine c_cw rfl rfl (show _ = ([(h0, .inr (0, [.int (fI 0), .ref q7, .ref q15, .ref q23, .ref q31, .ref q39, .ref q48, .int (fI 0), .ref q57, .int (fI 0), .int (fI 0), .ref q65, .ref q73, .null, .null, .null, .int (fI 0), .int (fI 0), .null, .null, .int (fI 0), .int (fI 0), .int (fI 0), .int (fI 0), .int (fI 0), .null, .int (fI 0), .int (fI 0), .int (fI 0), .int (fI 0), .null, .null])), (q7, .inl (cA 2, 41, .inl (fun _ => fI 0))), (q15, .inl (cA 2, 41, .inl (fun _ => fI 0))), (q23, .inl (cA 2, 41, .inl (fun _ => fI 0))), (q31, .inl (cA 2, 41, .inl (fun _ => fI 0))), (q39, .inl (cA 0, 41, .inl (fun _ => fI 0))), (q48, .inl (cA 1, 4920, .inl (fun _ => fI 0))), (q57, .inl (cA 1, 12000, .inl (fun _ => fI 0))), (q65, .inl (cA 0, 60, .inl (fun _ => fI 0))), (q73, .inl (cA 0, 60, .inl (fun _ => fI 0)))] : va_W) from rfl) ?_
  refine c_aload_n C dM_init_78 rfl rfl ?_
  refine c_sipush C dM_init_79 (by decide +kernel) ?_
  refine c_newa (t := 0) C (in9_1 69 (by decide +kernel) rfl) rfl rfl (by decide) (by decide) dM_init_82 (by rw [hR]; exact ⟨by decide, by decide⟩) (fun q82 => ?_)
  refine c_put (q0 := 0) (k := 13) (ci := 0) C inM tyM_ok nmM rfl rfl (by decide) lM_39 rfl rfl rfl (tyM_ok 13 (by decide)) rfl rfl (Nat.le_of_ble_eq_true rfl) dM_init_84 ?_
  refine c_cw rfl rfl (show _ = ([(h0, .inr (0, [.int (fI 0), .ref q7, .ref q15, .ref q23, .ref q31, .ref q39, .ref q48, .int (fI 0), .ref q57, .int (fI 0), .int (fI 0), .ref q65, .ref q73, .ref q82, .null, .null, .int (fI 0), .int (fI 0), .null, .null, .int (fI 0), .int (fI 0), .int (fI 0), .int (fI 0), .int (fI 0), .null, .int (fI 0), .int (fI 0), .int (fI 0), .int (fI 0), .null, .null])), (q7, .inl (cA 2, 41, .inl (fun _ => fI 0))), (q15, .inl (cA 2, 41, .inl (fun _ => fI 0))), (q23, .inl (cA 2, 41, .inl (fun _ => fI 0))), (q31, .inl (cA 2, 41, .inl (fun _ => fI 0))), (q39, .inl (cA 0, 41, .inl (fun _ => fI 0))), (q48, .inl (cA 1, 4920, .inl (fun _ => fI 0))), (q57, .inl (cA 1, 12000, .inl (fun _ => fI 0))), (q65, .inl (cA 0, 60, .inl (fun _ => fI 0))), (q73, .inl (cA 0, 60, .inl (fun _ => fI 0))), (q82, .inl (cA 0, 2460, .inl (fun _ => fI 0)))] : va_W) from rfl) ?_
  refine c_aload_n C dM_init_87 rfl rfl ?_
  refine c_sipush C dM_init_88 (by decide +kernel) ?_
  refine c_newa (t := 0) C (in9_1 69 (by decide +kernel) rfl) rfl rfl (by decide) (by decide) dM_init_91 (by rw [hR]; exact ⟨by decide, by decide⟩) (fun q91 => ?_)
  refine c_put (q0 := 0) (k := 14) (ci := 0) C inM tyM_ok nmM rfl rfl (by decide) lM_42 rfl rfl rfl (tyM_ok 14 (by decide)) rfl rfl (Nat.le_of_ble_eq_true rfl) dM_init_93 ?_
  refine c_cw rfl rfl (show _ = ([(h0, .inr (0, [.int (fI 0), .ref q7, .ref q15, .ref q23, .ref q31, .ref q39, .ref q48, .int (fI 0), .ref q57, .int (fI 0), .int (fI 0), .ref q65, .ref q73, .ref q82, .ref q91, .null, .int (fI 0), .int (fI 0), .null, .null, .int (fI 0), .int (fI 0), .int (fI 0), .int (fI 0), .int (fI 0), .null, .int (fI 0), .int (fI 0), .int (fI 0), .int (fI 0), .null, .null])), (q7, .inl (cA 2, 41, .inl (fun _ => fI 0))), (q15, .inl (cA 2, 41, .inl (fun _ => fI 0))), (q23, .inl (cA 2, 41, .inl (fun _ => fI 0))), (q31, .inl (cA 2, 41, .inl (fun _ => fI 0))), (q39, .inl (cA 0, 41, .inl (fun _ => fI 0))), (q48, .inl (cA 1, 4920, .inl (fun _ => fI 0))), (q57, .inl (cA 1, 12000, .inl (fun _ => fI 0))), (q65, .inl (cA 0, 60, .inl (fun _ => fI 0))), (q73, .inl (cA 0, 60, .inl (fun _ => fI 0))), (q82, .inl (cA 0, 2460, .inl (fun _ => fI 0))), (q91, .inl (cA 0, 2460, .inl (fun _ => fI 0)))] : va_W) from rfl) ?_
  refine c_aload_n C dM_init_96 rfl rfl ?_
  refine c_sipush C dM_init_97 (by decide +kernel) ?_
  refine c_newa (t := 0) C (in9_1 69 (by decide +kernel) rfl) rfl rfl (by decide) (by decide) dM_init_100 (by rw [hR]; exact ⟨by decide, by decide⟩) (fun q100 => ?_)
  refine c_put (q0 := 0) (k := 15) (ci := 0) C inM tyM_ok nmM rfl rfl (by decide) lM_45 rfl rfl rfl (tyM_ok 15 (by decide)) rfl rfl (Nat.le_of_ble_eq_true rfl) dM_init_102 ?_
  refine c_cw rfl rfl (show _ = ([(h0, .inr (0, [.int (fI 0), .ref q7, .ref q15, .ref q23, .ref q31, .ref q39, .ref q48, .int (fI 0), .ref q57, .int (fI 0), .int (fI 0), .ref q65, .ref q73, .ref q82, .ref q91, .ref q100, .int (fI 0), .int (fI 0), .null, .null, .int (fI 0), .int (fI 0), .int (fI 0), .int (fI 0), .int (fI 0), .null, .int (fI 0), .int (fI 0), .int (fI 0), .int (fI 0), .null, .null])), (q7, .inl (cA 2, 41, .inl (fun _ => fI 0))), (q15, .inl (cA 2, 41, .inl (fun _ => fI 0))), (q23, .inl (cA 2, 41, .inl (fun _ => fI 0))), (q31, .inl (cA 2, 41, .inl (fun _ => fI 0))), (q39, .inl (cA 0, 41, .inl (fun _ => fI 0))), (q48, .inl (cA 1, 4920, .inl (fun _ => fI 0))), (q57, .inl (cA 1, 12000, .inl (fun _ => fI 0))), (q65, .inl (cA 0, 60, .inl (fun _ => fI 0))), (q73, .inl (cA 0, 60, .inl (fun _ => fI 0))), (q82, .inl (cA 0, 2460, .inl (fun _ => fI 0))), (q91, .inl (cA 0, 2460, .inl (fun _ => fI 0))), (q100, .inl (cA 0, 2460, .inl (fun _ => fI 0)))] : va_W) from rfl) ?_
  refine c_aload_n C dM_init_105 rfl rfl ?_
  refine c_bipush C dM_init_106 (by decide +kernel) ?_
  refine c_newa (t := 0) C (in9_1 69 (by decide +kernel) rfl) rfl rfl (by decide) (by decide) dM_init_108 (by rw [hR]; exact ⟨by decide, by decide⟩) (fun q108 => ?_)
  refine c_put (q0 := 0) (k := 18) (ci := 0) C inM tyM_ok nmM rfl rfl (by decide) lM_48 rfl rfl rfl (tyM_ok 18 (by decide)) rfl rfl (Nat.le_of_ble_eq_true rfl) dM_init_110 ?_
  refine c_cw rfl rfl (show _ = ([(h0, .inr (0, [.int (fI 0), .ref q7, .ref q15, .ref q23, .ref q31, .ref q39, .ref q48, .int (fI 0), .ref q57, .int (fI 0), .int (fI 0), .ref q65, .ref q73, .ref q82, .ref q91, .ref q100, .int (fI 0), .int (fI 0), .ref q108, .null, .int (fI 0), .int (fI 0), .int (fI 0), .int (fI 0), .int (fI 0), .null, .int (fI 0), .int (fI 0), .int (fI 0), .int (fI 0), .null, .null])), (q7, .inl (cA 2, 41, .inl (fun _ => fI 0))), (q15, .inl (cA 2, 41, .inl (fun _ => fI 0))), (q23, .inl (cA 2, 41, .inl (fun _ => fI 0))), (q31, .inl (cA 2, 41, .inl (fun _ => fI 0))), (q39, .inl (cA 0, 41, .inl (fun _ => fI 0))), (q48, .inl (cA 1, 4920, .inl (fun _ => fI 0))), (q57, .inl (cA 1, 12000, .inl (fun _ => fI 0))), (q65, .inl (cA 0, 60, .inl (fun _ => fI 0))), (q73, .inl (cA 0, 60, .inl (fun _ => fI 0))), (q82, .inl (cA 0, 2460, .inl (fun _ => fI 0))), (q91, .inl (cA 0, 2460, .inl (fun _ => fI 0))), (q100, .inl (cA 0, 2460, .inl (fun _ => fI 0))), (q108, .inl (cA 0, 41, .inl (fun _ => fI 0)))] : va_W) from rfl) ?_
  refine c_aload_n C dM_init_113 rfl rfl ?_
  refine c_bipush C dM_init_114 (by decide +kernel) ?_
  refine c_newa (t := 0) C (in9_1 69 (by decide +kernel) rfl) rfl rfl (by decide) (by decide) dM_init_116 (by rw [hR]; exact ⟨by decide, by decide⟩) (fun q116 => ?_)
  refine c_put (q0 := 0) (k := 19) (ci := 0) C inM tyM_ok nmM rfl rfl (by decide) lM_51 rfl rfl rfl (tyM_ok 19 (by decide)) rfl rfl (Nat.le_of_ble_eq_true rfl) dM_init_118 ?_
  refine c_cw rfl rfl (show _ = ([(h0, .inr (0, [.int (fI 0), .ref q7, .ref q15, .ref q23, .ref q31, .ref q39, .ref q48, .int (fI 0), .ref q57, .int (fI 0), .int (fI 0), .ref q65, .ref q73, .ref q82, .ref q91, .ref q100, .int (fI 0), .int (fI 0), .ref q108, .ref q116, .int (fI 0), .int (fI 0), .int (fI 0), .int (fI 0), .int (fI 0), .null, .int (fI 0), .int (fI 0), .int (fI 0), .int (fI 0), .null, .null])), (q7, .inl (cA 2, 41, .inl (fun _ => fI 0))), (q15, .inl (cA 2, 41, .inl (fun _ => fI 0))), (q23, .inl (cA 2, 41, .inl (fun _ => fI 0))), (q31, .inl (cA 2, 41, .inl (fun _ => fI 0))), (q39, .inl (cA 0, 41, .inl (fun _ => fI 0))), (q48, .inl (cA 1, 4920, .inl (fun _ => fI 0))), (q57, .inl (cA 1, 12000, .inl (fun _ => fI 0))), (q65, .inl (cA 0, 60, .inl (fun _ => fI 0))), (q73, .inl (cA 0, 60, .inl (fun _ => fI 0))), (q82, .inl (cA 0, 2460, .inl (fun _ => fI 0))), (q91, .inl (cA 0, 2460, .inl (fun _ => fI 0))), (q100, .inl (cA 0, 2460, .inl (fun _ => fI 0))), (q108, .inl (cA 0, 41, .inl (fun _ => fI 0))), (q116, .inl (cA 0, 41, .inl (fun _ => fI 0)))] : va_W) from rfl) ?_
  refine c_aload_n C dM_init_121 rfl rfl ?_
  refine c_bipush C dM_init_122 (by decide +kernel) ?_
  refine c_newa (t := 0) C (in9_1 69 (by decide +kernel) rfl) rfl rfl (by decide) (by decide) dM_init_124 (by rw [hR]; exact ⟨by decide, by decide⟩) (fun q124 => ?_)
  refine c_put (q0 := 0) (k := 25) (ci := 0) C inM tyM_ok nmM rfl rfl (by decide) lM_54 rfl rfl rfl (tyM_ok 25 (by decide)) rfl rfl (Nat.le_of_ble_eq_true rfl) dM_init_126 ?_
  refine c_cw rfl rfl (show _ = ([(h0, .inr (0, [.int (fI 0), .ref q7, .ref q15, .ref q23, .ref q31, .ref q39, .ref q48, .int (fI 0), .ref q57, .int (fI 0), .int (fI 0), .ref q65, .ref q73, .ref q82, .ref q91, .ref q100, .int (fI 0), .int (fI 0), .ref q108, .ref q116, .int (fI 0), .int (fI 0), .int (fI 0), .int (fI 0), .int (fI 0), .ref q124, .int (fI 0), .int (fI 0), .int (fI 0), .int (fI 0), .null, .null])), (q7, .inl (cA 2, 41, .inl (fun _ => fI 0))), (q15, .inl (cA 2, 41, .inl (fun _ => fI 0))), (q23, .inl (cA 2, 41, .inl (fun _ => fI 0))), (q31, .inl (cA 2, 41, .inl (fun _ => fI 0))), (q39, .inl (cA 0, 41, .inl (fun _ => fI 0))), (q48, .inl (cA 1, 4920, .inl (fun _ => fI 0))), (q57, .inl (cA 1, 12000, .inl (fun _ => fI 0))), (q65, .inl (cA 0, 60, .inl (fun _ => fI 0))), (q73, .inl (cA 0, 60, .inl (fun _ => fI 0))), (q82, .inl (cA 0, 2460, .inl (fun _ => fI 0))), (q91, .inl (cA 0, 2460, .inl (fun _ => fI 0))), (q100, .inl (cA 0, 2460, .inl (fun _ => fI 0))), (q108, .inl (cA 0, 41, .inl (fun _ => fI 0))), (q116, .inl (cA 0, 41, .inl (fun _ => fI 0))), (q124, .inl (cA 0, 60, .inl (fun _ => fI 0)))] : va_W) from rfl) ?_
  refine c_aload_n C dM_init_129 rfl rfl ?_
  refine c_bipush C dM_init_130 (by decide +kernel) ?_
  refine c_newa (t := 0) C (in9_1 69 (by decide +kernel) rfl) rfl rfl (by decide) (by decide) dM_init_132 (by rw [hR]; exact ⟨by decide, by decide⟩) (fun q132 => ?_)
  refine c_put (q0 := 0) (k := 30) (ci := 0) C inM tyM_ok nmM rfl rfl (by decide) lM_57 rfl rfl rfl (tyM_ok 30 (by decide)) rfl rfl (Nat.le_of_ble_eq_true rfl) dM_init_134 ?_
  refine c_cw rfl rfl (show _ = ([(h0, .inr (0, [.int (fI 0), .ref q7, .ref q15, .ref q23, .ref q31, .ref q39, .ref q48, .int (fI 0), .ref q57, .int (fI 0), .int (fI 0), .ref q65, .ref q73, .ref q82, .ref q91, .ref q100, .int (fI 0), .int (fI 0), .ref q108, .ref q116, .int (fI 0), .int (fI 0), .int (fI 0), .int (fI 0), .int (fI 0), .ref q124, .int (fI 0), .int (fI 0), .int (fI 0), .int (fI 0), .ref q132, .null])), (q7, .inl (cA 2, 41, .inl (fun _ => fI 0))), (q15, .inl (cA 2, 41, .inl (fun _ => fI 0))), (q23, .inl (cA 2, 41, .inl (fun _ => fI 0))), (q31, .inl (cA 2, 41, .inl (fun _ => fI 0))), (q39, .inl (cA 0, 41, .inl (fun _ => fI 0))), (q48, .inl (cA 1, 4920, .inl (fun _ => fI 0))), (q57, .inl (cA 1, 12000, .inl (fun _ => fI 0))), (q65, .inl (cA 0, 60, .inl (fun _ => fI 0))), (q73, .inl (cA 0, 60, .inl (fun _ => fI 0))), (q82, .inl (cA 0, 2460, .inl (fun _ => fI 0))), (q91, .inl (cA 0, 2460, .inl (fun _ => fI 0))), (q100, .inl (cA 0, 2460, .inl (fun _ => fI 0))), (q108, .inl (cA 0, 41, .inl (fun _ => fI 0))), (q116, .inl (cA 0, 41, .inl (fun _ => fI 0))), (q124, .inl (cA 0, 60, .inl (fun _ => fI 0))), (q132, .inl (cA 0, 40, .inl (fun _ => fI 0)))] : va_W) from rfl) ?_
  refine c_aload_n C dM_init_137 rfl rfl ?_
  refine c_bipush C dM_init_138 (by decide +kernel) ?_
  refine c_newa (t := 0) C (in9_1 69 (by decide +kernel) rfl) rfl rfl (by decide) (by decide) dM_init_140 (by rw [hR]; exact ⟨by decide, by decide⟩) (fun q140 => ?_)
  refine c_put (q0 := 0) (k := 31) (ci := 0) C inM tyM_ok nmM rfl rfl (by decide) lM_60 rfl rfl rfl (tyM_ok 31 (by decide)) rfl rfl (Nat.le_of_ble_eq_true rfl) dM_init_142 ?_
  refine c_cw rfl rfl (show _ = ([(h0, .inr (0, [.int (fI 0), .ref q7, .ref q15, .ref q23, .ref q31, .ref q39, .ref q48, .int (fI 0), .ref q57, .int (fI 0), .int (fI 0), .ref q65, .ref q73, .ref q82, .ref q91, .ref q100, .int (fI 0), .int (fI 0), .ref q108, .ref q116, .int (fI 0), .int (fI 0), .int (fI 0), .int (fI 0), .int (fI 0), .ref q124, .int (fI 0), .int (fI 0), .int (fI 0), .int (fI 0), .ref q132, .ref q140])), (q7, .inl (cA 2, 41, .inl (fun _ => fI 0))), (q15, .inl (cA 2, 41, .inl (fun _ => fI 0))), (q23, .inl (cA 2, 41, .inl (fun _ => fI 0))), (q31, .inl (cA 2, 41, .inl (fun _ => fI 0))), (q39, .inl (cA 0, 41, .inl (fun _ => fI 0))), (q48, .inl (cA 1, 4920, .inl (fun _ => fI 0))), (q57, .inl (cA 1, 12000, .inl (fun _ => fI 0))), (q65, .inl (cA 0, 60, .inl (fun _ => fI 0))), (q73, .inl (cA 0, 60, .inl (fun _ => fI 0))), (q82, .inl (cA 0, 2460, .inl (fun _ => fI 0))), (q91, .inl (cA 0, 2460, .inl (fun _ => fI 0))), (q100, .inl (cA 0, 2460, .inl (fun _ => fI 0))), (q108, .inl (cA 0, 41, .inl (fun _ => fI 0))), (q116, .inl (cA 0, 41, .inl (fun _ => fI 0))), (q124, .inl (cA 0, 60, .inl (fun _ => fI 0))), (q132, .inl (cA 0, 40, .inl (fun _ => fI 0))), (q140, .inl (cA 0, 40, .inl (fun _ => fI 0)))] : va_W) from rfl) ?_
  exact c_ret C hRt hLk dM_init_145 ⟨by decide, by decide⟩ (cm_fin D cA h0 q7 q15 q23 q31 q39 q48 q57 q65 q73 q82 q91 q100 q108 q116 q124 q132 q140)
-- slots 24847
end
