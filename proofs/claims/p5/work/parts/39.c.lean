/-! CONSTRUCTORS: the cells that there are, in a list; a row an instruction -/
def cj (z : fZ) (D : va_G) (cl : List vw_C) (A : Nat → Prop) (nL : Nat) (Q : State → Prop) (kc ks : Nat) (ws : va_W) (pc : Nat) (lv : List (Option Value)) (st : List Value) : Prop :=
  ∀ (H : Heap) (locs : List Loc) (ls : Array Slot), va_P D cl ws H → va_D A ws → va_S A z.2.2.2.2.1.heap H locs → f_has ls nL lv →
    W z.1 z.2.1 z.2.2.1 z.2.2.2.1 z.2.2.2.2.1 z.2.2.2.2.2.1 z.2.2.2.2.2.2.1 z.2.2.2.2.2.2.2.1 z.2.2.2.2.2.2.2.2.1 z.2.2.2.2.2.2.2.2.2 H locs kc ks Q (F0 z.2.2.2.2.2.1 pc ls st)
/-- nest words of the constructors, and the class of arrays of tables -/
def x_nestc : List Cond := [.methodLinkNest RXA 9 yXS_init RXA, .methodLinkNest RXA 18 yXF_init RXA, .methodLinkNest RXH 17 yXT_init RXA, .methodLinkNest RXC 21 yXT_init RXA, .methodLinkNest RXD 21 yXT_init RXA, .methodLinkNest RXA 50 yXG_init RXA]
def c_E (U : State) : Prop := (∀ w ∈ x_nestc, va_Nw w U) ∧ va_AO RXT U
theorem c_E_on {s U : State} (hW : s.WarmedH U.vm) (h : c_E s) : c_E U := by
  refine ⟨fun w hw => ?_, ?_⟩
  · have h9 := h.1 w hw
    unfold x_nestc at hw
    simp only [List.mem_cons, List.not_mem_nil, or_false] at hw
    rcases hw with rfl | rfl | rfl | rfl | rfl | rfl <;> exact va_Nw.warmM hW h9
  · exact va_AO.moved hW.alike h.2
def cfc (z : fZ) (D : va_G) (cl : List vw_C) (tys : List (ClassId × FieldType)) (A : Nat → Prop) (cc : ByteArray) (nL : Nat) (own : String) : Prop :=
  z.1.tables.exec = Jvm.exec ∧ z.2.2.2.2.2.2.2.2.2.code = cc ∧ z.2.2.2.2.2.2.2.2.2.maxLocals = nL ∧ z.2.2.2.2.1.vm.findClass own = some z.2.2.2.2.2.1.cls ∧ (∀ w ∈ A9, w.before z.2.2.2.2.2.2.1 z.2.2.2.2.1 = true) ∧ va_K D cl tys z.2.2.2.2.1 ∧ (∀ q, z.2.2.2.2.1.heap.size ≤ q → A q) ∧ z.2.2.2.2.2.2.2.2.1.name = "<init>" ∧ c_E z.2.2.2.2.1
section CA
variable {z : fZ} {D : va_G} {cl : List vw_C} {tys : List (ClassId × FieldType)} {A : Nat → Prop} {cc : ByteArray} {nL : Nat} {own : String} {Q : State → Prop} {kc ks : Nat} {ws : va_W} {pc : Nat} {lv : List (Option Value)} {st : List Value}
theorem c_iconst (C : cfc z D cl tys A cc nL own) {i : Int} (d : decode cc pc = .ok (.iconst i, 1)) (k : cj z D cl A nL Q kc ks ws (pc + 1) lv (.int (fI i) :: st)) : cj z D cl A nL Q kc ks ws pc lv st :=
  fun H locs ls hP hD hS hl => lv_iconst C.1 C.2.1 d rfl (k H locs ls hP hD hS hl)
theorem c_bipush (C : cfc z D cl tys A cc nL own) {i : Int} (d : decode cc pc = .ok (.bipush i, 2)) (hi : (Int8.ofInt i).toInt32 = fI i) (k : cj z D cl A nL Q kc ks ws (pc + 2) lv (.int (fI i) :: st)) : cj z D cl A nL Q kc ks ws pc lv st :=
  fun H locs ls hP hD hS hl => lv_bipush C.1 C.2.1 d hi (k H locs ls hP hD hS hl)
theorem c_sipush (C : cfc z D cl tys A cc nL own) {i : Int} (d : decode cc pc = .ok (.sipush i, 3)) (hi : (Int16.ofInt i).toInt32 = fI i) (k : cj z D cl A nL Q kc ks ws (pc + 3) lv (.int (fI i) :: st)) : cj z D cl A nL Q kc ks ws pc lv st :=
  fun H locs ls hP hD hS hl => lv_sipush C.1 C.2.1 d hi (k H locs ls hP hD hS hl)
theorem c_iload_n (C : cfc z D cl tys A cc nL own) {k : Fin 4} {i : Nat} {x : Int32} (d : decode cc pc = .ok (.iload_n k, 1)) (hi : (k : Nat) = i) (hx : lv[i]? = some (some (.int x))) (kk : cj z D cl A nL Q kc ks ws (pc + 1) lv (.int x :: st)) : cj z D cl A nL Q kc ks ws pc lv st :=
  fun H locs ls hP hD hS hl => lv_iload_n C.1 C.2.1 d hi (hl.2.2.1 i _ hx) (kk H locs ls hP hD hS hl)
theorem c_aload_n (C : cfc z D cl tys A cc nL own) {k : Fin 4} {i : Nat} {x : Nat} (d : decode cc pc = .ok (.aload_n k, 1)) (hi : (k : Nat) = i) (hx : lv[i]? = some (some (.ref x))) (kk : cj z D cl A nL Q kc ks ws (pc + 1) lv (.ref x :: st)) : cj z D cl A nL Q kc ks ws pc lv st :=
  fun H locs ls hP hD hS hl => lv_aload_n C.1 C.2.1 d hi (hl.2.2.1 i _ hx) (kk H locs ls hP hD hS hl)
theorem c_istore_n (C : cfc z D cl tys A cc nL own) {k : Fin 4} {i : Nat} {x : Int32} (d : decode cc pc = .ok (.istore_n k, 1)) (hi : (k : Nat) = i) (hn : i < nL) (kk : cj z D cl A nL Q kc ks ws (pc + 1) (lv.set i (some (.int x))) st) : cj z D cl A nL Q kc ks ws pc lv (.int x :: st) :=
  fun H locs ls hP hD hS hl => lv_istore_n C.1 C.2.1 d hi hl.lv hn rfl (fun ls' h' => kk H locs ls' hP hD hS (hl.put rfl h'))
theorem c_dup (C : cfc z D cl tys A cc nL own) {x : Value} (d : decode cc pc = .ok (.dup, 1)) (hx : x.category = 1) (kk : cj z D cl A nL Q kc ks ws (pc + 1) lv (x :: x :: st)) : cj z D cl A nL Q kc ks ws pc lv (x :: st) :=
  fun H locs ls hP hD hS hl => lv_dup C.1 C.2.1 d hx (kk H locs ls hP hD hS hl)
theorem c_goto (C : cfc z D cl tys A cc nL own) {off : Int} {tgt : Nat} (d : decode cc pc = .ok (.goto off, 3)) (ht : (pc : Int) + off = (tgt : Int)) (kk : cj z D cl A nL Q kc ks ws tgt lv st) : cj z D cl A nL Q kc ks ws pc lv st :=
  fun H locs ls hP hD hS hl => lv_goto C.1 C.2.1 d ht (kk H locs ls hP hD hS hl)
theorem c_iinc (C : cfc z D cl tys A cc nL own) {i : Nat} {n a : Int} (d : decode cc pc = .ok (.iinc i n, 3)) (hx : lv[i]? = some (some (.int (fI a)))) (hn : i < nL) (kk : cj z D cl A nL Q kc ks ws (pc + 3) (lv.set i (some (.int (fI (a + n))))) st) : cj z D cl A nL Q kc ks ws pc lv st :=
  fun H locs ls hP hD hS hl => by
    obtain ⟨q, hq⟩ := List.getElem?_of_mem (f_lv_mem.mpr hx)
    exact lv_iinc C.1 C.2.1 d hl.lv hq (fI_add a n) hn rfl (fun ls' h' => kk H locs ls' hP hD hS (hl.put rfl h'))
theorem c_icmp_ge (C : cfc z D cl tys A cc nL own) {a b off : Int} {tgt : Nat} (d : decode cc pc = .ok (.if_icmp .ge off, 3)) (ht : (pc : Int) + off = (tgt : Int)) (ha : -2147483648 ≤ a ∧ a ≤ 2147483647) (hb : -2147483648 ≤ b ∧ b ≤ 2147483647) (kt : b ≤ a → cj z D cl A nL Q kc ks ws tgt lv st) (kf : ¬ b ≤ a → cj z D cl A nL Q kc ks ws (pc + 3) lv st) : cj z D cl A nL Q kc ks ws pc lv (.int (fI b) :: .int (fI a) :: st) :=
  fun H locs ls hP hD hS hl => lv_icmp_ge C.1 C.2.1 d ht (fun h => kt ((fI_le hb ha).mp h) H locs ls hP hD hS hl) (fun h => kf (fun q => h ((fI_le hb ha).mpr q)) H locs ls hP hD hS hl)
theorem c_obj (C : cfc z D cl tys A cc nL own) {idx a : Nat} (hlink : Cond.methodLink own idx Lib.objectInit ∈ A9) (hinst : Cond.instanceMethod Lib.objectInit ∈ A9) (hcode : Cond.code Lib.objectInit ⟨#[0xb1]⟩ 1 none ∈ A9) (d : decode cc pc = .ok (.invokespecial idx, 3)) (hR : 1 ≤ z.2.2.2.1.frames ∧ 12 ≤ z.2.2.2.1.locals) (kk : cj z D cl A nL Q kc ks ws (pc + 3) lv []) : cj z D cl A nL Q kc ks ws pc lv [.ref a] :=
  fun H locs ls hP hD hS hl => W.objInit C.1 C.2.1 C.2.2.2.1 (C.2.2.2.2.1 _ hlink) (C.2.2.2.2.1 _ hinst) (C.2.2.2.2.1 _ hcode) rfl (hl.1.trans C.2.2.1.symm) rfl d hR.1 (by show 2 * 0 + (([] : List Value).map fun v => v.category).sum + 12 ≤ _; simp; exact hR.2) (kk H locs ls hP hD hS hl)
/-- a new array of numbers, its class known -/
theorem c_newa (C : cfc z D cl tys A cc nL own) {atype : ArrayType} {t : Nat} {cT : ClassId} {ty : FieldType} (harr : Cond.arrayClass (newarray.typeOf atype) ∈ A9) (hty : newarray.typeOf atype = ty) (ht : tys[t]? = some (cT, ty)) (hpr : ty = .int ∨ ty = .byte ∨ ty = .boolean) {n : Int} (hn : 0 ≤ n ∧ n ≤ 100000) (d : decode cc pc = .ok (.newarray atype, 2)) (hR : kc + 1 ≤ z.2.2.2.1.cells ∧ ks + n.toNat ≤ z.2.2.2.1.slots)
    (kk : ∀ q, cj z D cl A nL Q (kc + 1) (ks + n.toNat) (ws ++ [(q, .inl (cT, n.toNat, .inl (fun _ => fI 0)))]) (pc + 2) lv (.ref q :: st)) : cj z D cl A nL Q kc ks ws pc lv (.int (fI n) :: st) := by
  intro H locs ls hP hD hS hl
  have hc := fI_clamp hn.1 (by omega : n ≤ 2147483647)
  refine va_newa (tys := tys) (a0 := (n.toNat, .inl (fun _ => fI 0))) C.1 C.2.1 (C.2.2.2.2.1 _ harr) hty C.2.2.2.2.2.1 hP hD hS C.2.2.2.2.2.2.1 (fun cA => ?_) (by rw [← fI_0, fI_lt (by omega) (by omega)]; omega) hc (by rcases hpr with rfl | rfl | rfl <;> (show n.toNat * _ ≤ _; simp [componentBytes]; omega)) hR.1 hR.2 d (fun q cA H1 hK1 hP1 hD1 hS1 => ?_)
  · rw [fI_0]; rcases hpr with rfl | rfl | rfl <;> rfl
  · have h1 := (C.2.2.2.2.2.1.2 t _ ht).2
    have h2 := (hK1.2 tys.length (cA, ty) (by simp)).2
    have e : cA = cT := by
      rcases hpr with rfl | rfl | rfl <;> exact Option.some.inj (h2.symm.trans h1)
    subst e
    exact kk q H1 locs ls hP1 hD1 hS1 hl
theorem c_newq (C : cfc z D cl tys A cc nL own) {index t : Nat} {cT : ClassId} (hlink : Cond.classLink own index RXT ∈ A9) (ht : tys[t]? = some (cT, .object RXT)) {n : Int} (hn : 0 ≤ n ∧ n ≤ 100000) (d : decode cc pc = .ok (.anewarray index, 3)) (hR : kc + 1 ≤ z.2.2.2.1.cells ∧ ks + n.toNat ≤ z.2.2.2.1.slots)
    (kk : ∀ q, cj z D cl A nL Q (kc + 1) (ks + n.toNat) (ws ++ [(q, .inl (cT, n.toNat, .inr (.inr (.inr (.inr (fun _ => none))))))]) (pc + 3) lv (.ref q :: st)) : cj z D cl A nL Q kc ks ws pc lv (.int (fI n) :: st) := by
  intro H locs ls hP hD hS hl
  have hc := fI_clamp hn.1 (by omega : n ≤ 2147483647)
  refine va_newq (tys := tys) C.1 C.2.1 C.2.2.2.1 (C.2.2.2.2.1 _ hlink) C.2.2.2.2.2.2.2.2.2 C.2.2.2.2.2.1 hP hD hS C.2.2.2.2.2.2.1 (by rw [← fI_0, fI_lt (by omega) (by omega)]; omega) hc (by omega) hR.1 hR.2 d (fun q cA H1 hK1 hP1 hD1 hS1 => ?_)
  obtain ⟨k1, c1, -, -, -, h1⟩ := (C.2.2.2.2.2.1.2 t _ ht).2
  obtain ⟨k2, c2, -, -, -, h2⟩ := (hK1.2 tys.length (cA, .object RXT) (by simp)).2
  have e : cA = cT := Option.some.inj (h2.symm.trans h1)
  subst e
  exact kk q H1 locs ls hP1 hD1 hS1 hl
theorem c_new (C : cfc z D cl tys A cc nL own) {index ci N : Nat} {CN : String} {T : u_T} {ty : Nat → FieldType} {fs : List Value} (hin : ∀ w ∈ u_ws CN T N, w ∈ A9) (hty : ∀ k, k < N → parseFieldDescriptor (T k).2.2.1 = some (ty k)) (hlink : Cond.classLink own index CN ∈ A9) (hins : Cond.instantiable CN N ∈ A9) (hini : Cond.initialized CN ∈ A9) (hc : cl[ci]? = some (CN, T, N)) (hfs : ∀ j, j < N → defaultValue (ty j) = vp_V fs j) (d : decode cc pc = .ok (.new index, 3)) (hR : kc + 1 ≤ z.2.2.2.1.cells ∧ ks + N ≤ z.2.2.2.1.slots)
    (kk : ∀ q, cj z D cl A nL Q (kc + 1) (ks + N) (ws ++ [(q, .inr (ci, fs))]) (pc + 3) lv (.ref q :: st)) : cj z D cl A nL Q kc ks ws pc lv st :=
  fun H locs ls hP hD hS hl => va_new C.1 C.2.1 C.2.2.2.2.1 hin ty hty C.2.2.2.1 (C.2.2.2.2.1 _ hlink) (C.2.2.2.2.1 _ hins) (C.2.2.2.2.1 _ hini) C.2.2.2.2.2.1 hP hD hS C.2.2.2.2.2.2.1 hc hfs hR.1 hR.2 d (fun q H1 hP1 hD1 hS1 => kk q H1 locs ls hP1 hD1 hS1 hl)
theorem c_put (C : cfc z D cl tys A cc nL own) {index ci N k a q0 : Nat} {CN ref : String} {T : u_T} {ty0 : Nat → FieldType} {ty : FieldType} {fs : List Value} {v : Value} (hin : ∀ w ∈ u_ws CN T N, w ∈ A9) (hty : ∀ k, k < N → parseFieldDescriptor (T k).2.2.1 = some (ty0 k)) (hnm : ∀ a, a < N → ∀ b, b < N → a ≠ b → (T a).2.1 ≠ (T b).2.1) (he : ws[q0]? = some (a, .inr (ci, fs))) (hc : cl[ci]? = some (CN, T, N)) (hk : k < N) (hlink : Cond.fieldLink own index ref (T k).2.1 (T k).2.2.1 ∈ A9) (href : (T k).1 = ref) (hfin : (T k).2.2.2 = true) (hdecl : (T k).1 = own) (hd : parseFieldDescriptor (T k).2.2.1 = some ty) (hn : narrow ty v = v) (hfit : fits ty v = true) (hl9 : k < fs.length) (d : decode cc pc = .ok (.putfield index, 3))
    (kk : cj z D cl A nL Q kc ks (ws.set q0 (a, .inr (ci, fs.set k v))) (pc + 3) lv st) : cj z D cl A nL Q kc ks ws pc lv (v :: .ref a :: st) :=
  fun H locs ls hP hD hS hl => va_putF C.1 C.2.1 C.2.2.2.2.1 hin ty0 hty hnm C.2.2.2.1 C.2.2.2.2.2.1 hP hD hS q0 he hc k hk (C.2.2.2.2.1 _ hlink) (by rw [href]; exact fun _ h => h) hfin C.2.2.2.2.2.2.2.1 hdecl hd hn hfit hl9 d (fun H1 locs1 hP1 hD1 hS1 => kk H1 locs1 ls hP1 hD1 hS1 hl)
theorem c_get (C : cfc z D cl tys A cc nL own) {index ci N k a q0 : Nat} {CN ref : String} {T : u_T} {fs : List Value} {v : Value} (hin : ∀ w ∈ u_ws CN T N, w ∈ A9) (he : ws[q0]? = some (a, .inr (ci, fs))) (hc : cl[ci]? = some (CN, T, N)) (hk : k < N) (hlink : Cond.fieldLink own index ref (T k).2.1 (T k).2.2.1 ∈ A9) (href : (T k).1 = ref) (hv : fs[k]? = some v) (d : decode cc pc = .ok (.getfield index, 3)) (kk : cj z D cl A nL Q kc ks ws (pc + 3) lv (v :: st)) : cj z D cl A nL Q kc ks ws pc lv (.ref a :: st) :=
  fun H locs ls hP hD hS hl => va_get C.1 C.2.1 C.2.2.2.2.1 hin C.2.2.2.1 C.2.2.2.2.2.1 hP q0 he hc k hk (C.2.2.2.2.1 _ hlink) (by rw [href]; exact fun _ h => h) hv d (kk H locs ls hP hD hS hl)
theorem c_ast (C : cfc z D cl tys A cc nL own) {q0 t0 qk ci a n v : Nat} {cT : ClassId} {r : vw_C} {vs : List Value} {f : Nat → Option Nat} (ha : ws[q0]? = some (a, .inl (cT, n, .inr (.inr (.inr (.inr f)))))) (ht : tys[t0]? = some (cT, .object r.1)) (hv : ws[qk]? = some (v, .inr (ci, vs))) (hc : cl[ci]? = some r) {i : Int} (hi : 0 ≤ i ∧ i < n) (hn : n ≤ 2147483647) (d : decode cc pc = .ok (.aastore, 1))
    (kk : cj z D cl A nL Q kc ks (ws.set q0 (a, .inl (cT, n, .inr (.inr (.inr (.inr (va_up f i.toNat (some v)))))))) (pc + 1) lv st) : cj z D cl A nL Q kc ks ws pc lv (.ref v :: .int (fI i) :: .ref a :: st) :=
  fun H locs ls hP hD hS hl => va_astq C.1 C.2.1 C.2.2.2.2.2.1 hP hD hS q0 t0 qk ci ha ht hv hc (fI_in hi.1 hi.2 hn) d (fun H1 locs1 hP1 hD1 hS1 => kk H1 locs1 ls (by rw [fI_clamp hi.1 (by omega)] at hP1; exact hP1) (by rw [fI_clamp hi.1 (by omega)] at hD1; exact hD1) hS1 hl)
end CA
/-- a constructor's contract: from the object fresh at h0 to the cells w, of which post holds -/
def c_M (l : Launch) (D : va_G) (cl : List vw_C) (tys : List (ClassId × FieldType)) (y : MethodName) (ws : List Cond) (d mc ms : Nat) (h0 : Nat) (e0 : va_E) (av : List Value) (post : va_W → Prop) : Prop :=
  ∀ sz, Met l y ws (tx_rm d mc ms) (va_Pc av (fun U => U.heap.size = sz ∧ va_P D cl [(h0, e0)] U.heap ∧ va_K D cl tys U ∧ c_E U)) (va_Qv post (fun (w : va_W) t => va_P D cl w t.heap ∧ va_D (va_A [(h0, e0)] sz) w) (va_A [(h0, e0)] sz)) mc ms (va_A [(h0, e0)] sz)
def c_R (z : fZ) (D : va_G) (cl : List vw_C) (h0 : Nat) (e0 : va_E) (post : va_W → Prop) (mc ms : Nat) : State → Prop := MQ z.2.2.2.2.2.2.2.1 (va_Qv post (fun (w : va_W) t => va_P D cl w t.heap ∧ va_D (va_A [(h0, e0)] z.2.2.2.2.1.heap.size) w) (va_A [(h0, e0)] z.2.2.2.2.1.heap.size)) z.2.2.2.2.2.2.1 z.2.2.2.2.1 mc ms (va_A [(h0, e0)] z.2.2.2.2.1.heap.size)
theorem c_enter {l : Launch} {D : va_G} {cl : List vw_C} {tys : List (ClassId × FieldType)} {y : MethodName} {cc : ByteArray} {nL d mc ms h0 : Nat} {e0 : va_E} {av : List Value} {post : va_W → Prop} (hy : plainName y.cls = true) (hyn : y.name = "<init>") (hav : (av.map (fun v => v.category)).all (fun c => c == 1) = true) (hlen : av.length ≤ nL)
    (body : ∀ z : fZ, z.2.1 = l → z.2.2.2.1 = tx_rm d mc ms → cfc z D cl tys (va_A [(h0, e0)] z.2.2.2.2.1.heap.size) cc nL y.cls → z.2.2.2.2.2.2.2.2.1.sig.returnType = none → z.2.2.2.2.2.2.2.2.1.locks = false → cj z D cl (va_A [(h0, e0)] z.2.2.2.2.1.heap.size) nL (c_R z D cl h0 e0 post mc ms) 0 0 [(h0, e0)] 0 (av.map some ++ List.replicate (nL - av.length) none) []) : c_M l D cl tys y (Cond.code y cc nL none :: A9) d mc ms h0 e0 av post := by
  intro sz
  refine Met.ofW (cc := cc) (maxL := nL) (ret := none) hy rfl ?_
  intro p e s m args below meth c s₁ B hml hv
  obtain ⟨rfl, hsz, hP, hK, hE⟩ := hv
  subst hsz
  have hpre : ∀ w ∈ Cond.code y cc nL none :: A9, w.before av.toArray s = true := atoms_spec (ws := Cond.code y cc nL none :: A9) B.pre
  have hnm : meth.name = "<init>" := ((name_of_methodNamed B.named B.method).1).trans hyn
  have hfin := body (p, l, e, tx_rm d mc ms, s, m, av.toArray, below, meth, c) rfl rfl ⟨B.exec, B.bytes, hml, findClass_of_methodNamed B.named, (fun w h => hpre w (List.mem_cons_of_mem _ h)), hK, fun q h => Or.inr h, hnm, hE⟩ B.returns B.notSynchronized
  have h1 : ∀ v ∈ av, v.category = 1 := by
    intro v hv
    have h2 := List.all_eq_true.mp hav v.category (List.mem_map.mpr ⟨v, hv, rfl⟩)
    simpa using h2
  have hsl : lg_sl av = av.map Slot.val := f_sl1 av h1
  have hl := lv_entry av (n := nL) (by rw [hsl]; simpa using hlen)
  have hD0 : va_D (va_A [(h0, e0)] s.heap.size) [(h0, e0)] := ⟨fun i j x y hx hy _ => by
      cases i <;> cases j <;> simp_all, fun k q hq => va_A.in hq⟩
  rw [lg_entry_eq]
  refine hfin s.heap [] _ hP hD0 va_S.rf ⟨hl.1, hl.2.1, fun i v hi => ?_, fun i v hi => ?_⟩
  all_goals
    have hi2 : i < av.length := by
      by_cases h : i < av.length
      · exact h
      · rw [List.getElem?_append_right (by simpa using h), List.getElem?_replicate] at hi
        split at hi <;> simp at hi
    rw [List.getElem?_append_left (by simpa using hi2), List.getElem?_map] at hi
    cases h9 : av[i]? with
    | none => rw [h9] at hi; cases hi
    | some w =>
      rw [h9] at hi
      simp at hi
      subst hi
      first
        | (rw [hsl, List.getElem?_toArray, List.getElem?_append_left (by simpa using hi2), List.getElem?_map, h9]; rfl)
        | exact h1 w (List.mem_of_getElem? h9)
section CB
variable {z : fZ} {D : va_G} {cl : List vw_C} {tys : List (ClassId × FieldType)} {A : Nat → Prop} {cc : ByteArray} {nL : Nat} {own : String} {Q : State → Prop} {kc ks mc ms h0 : Nat} {e0 : va_E} {ws : va_W} {pc : Nat} {lv : List (Option Value)} {st : List Value} {post : va_W → Prop}
theorem c_ret (C : cfc z D cl tys (va_A [(h0, e0)] z.2.2.2.2.1.heap.size) cc nL own) (hr : z.2.2.2.2.2.2.2.2.1.sig.returnType = none) (hk : z.2.2.2.2.2.2.2.2.1.locks = false) (d : decode cc pc = .ok (.return_, 1)) (hc : kc ≤ mc ∧ ks ≤ ms) (hp : post ws) : cj z D cl (va_A [(h0, e0)] z.2.2.2.2.1.heap.size) nL (c_R z D cl h0 e0 post mc ms) kc ks ws pc lv [] :=
  fun _ _ _ hP hD hS _ => W.widen hc.1 hc.2 (W.vret C.1 C.2.1 hr (fun t ht _ => ⟨⟨ws, rfl, hp, by rw [ht]; exact hP, hD⟩, hS.F ht⟩) hS.2.2 d hk)
theorem c_join {H H1 : Heap} {x : Nat × va_E} {w1 : va_W} (hP : va_P D cl (ws ++ [x]) H) (hD : va_D A (ws ++ [x])) (hk : ∀ q : Nat, q < H.size → ¬ va_A [x] H.size q → H1[q]? = H[q]?) (hF : ∀ q, va_A [x] H.size q → A q) (hP1 : va_P D cl w1 H1) (hD1 : va_D (va_A [x] H.size) w1) : va_P D cl (ws ++ w1) H1 ∧ va_D A (ws ++ w1) := by
  have hx : (ws ++ [x])[ws.length]? = some x := by simp
  have apart : ∀ (k : Nat) (q : Nat × va_E), ws[k]? = some q → q.1 < H.size ∧ ¬ va_A [x] H.size q.1 := by
    intro k q hq
    have hkl := (List.getElem?_eq_some_iff.mp hq).1
    have hq2 : (ws ++ [x])[k]? = some q := by rw [List.getElem?_append_left hkl]; exact hq
    have hl := (hP k q hq2).lt
    refine ⟨hl, ?_⟩
    rintro (⟨j, e, h⟩ | h)
    · cases j with
      | zero =>
        simp at h
        have := hD.1 k ws.length q x hq2 hx (by rw [h])
        omega
      | succ j => simp at h
    · omega
  refine ⟨va_P.app (fun k q hq => ?_) hP1, va_D.app ⟨fun i j p q hp hq e => ?_, fun k q hq => ?_⟩ (hD1.weaken (fun k q _ h => hF q.1 h)) (fun i j p q hp hq e => ?_)⟩
  · obtain ⟨g1, g2⟩ := apart k q hq
    have hkl := (List.getElem?_eq_some_iff.mp hq).1
    exact (hP k q (by rw [List.getElem?_append_left hkl]; exact hq)).kept (hk q.1 g1 g2)
  · have h1 := (List.getElem?_eq_some_iff.mp hp).1
    have h2 := (List.getElem?_eq_some_iff.mp hq).1
    exact hD.1 i j p q (by rw [List.getElem?_append_left h1]; exact hp) (by rw [List.getElem?_append_left h2]; exact hq) e
  · have h1 := (List.getElem?_eq_some_iff.mp hq).1
    exact hD.2 k q (by rw [List.getElem?_append_left h1]; exact hq)
  · exact (apart i p hp).2 (by rw [e]; exact hD1.2 j q hq)
/-- a call of a constructor on the cell that was made last -/
theorem c_call (C : cfc z D cl tys A cc nL own) {x : Nat} {ex : va_E} {y : MethodName} {bytes : ByteArray} {maxL d mc2 ms2 index n : Nat} {As : List Value} {post2 : va_W → Prop} (hM : c_M z.2.1 D cl tys y (Cond.code y bytes maxL none :: A9) d mc2 ms2 x ex (.ref x :: As) post2) (dg : decode cc pc = .ok (.invokespecial index, 3))
    (hlk : (∃ host, va_Nw (.methodLinkNest own index y host) z.2.2.2.2.1) ∨ Cond.methodLink own index y ∈ A9) (hin : Cond.instanceMethod y ∈ A9) (hini : Cond.initialized y.cls ∈ A9) (hw : Cond.code y bytes maxL none ∈ A9) (hd : y.name = "<init>" ∧ y.cls ≠ "java/lang/invoke/MethodHandle" ∧ y.cls ≠ "java/lang/invoke/VarHandle" ∧ (parseMethodDescriptor y.desc).map (fun d => d.parameters.length) = some n) (hR : d + 1 ≤ z.2.2.2.1.frames ∧ 8 + (maxL + 11) + 40 * d ≤ z.2.2.2.1.locals ∧ kc + mc2 ≤ z.2.2.2.1.cells ∧ ks + ms2 ≤ z.2.2.2.1.slots) (hn : As.length = n) (hst : (st.map fun v => v.category).sum ≤ 8) {st0 : List Value} (hst0 : st0 = As.reverse ++ .ref x :: st)
    (kk : ∀ w, post2 w → cj z D cl A nL Q (kc + mc2) (ks + ms2) (ws ++ w) (pc + 3) lv st) : cj z D cl A nL Q kc ks (ws ++ [(x, ex)]) pc lv st0 := by
  intro H locs ls hP hD hS hl
  subst hst0
  have hg : GoodIn A9 (Cond.code y bytes maxL none :: A9) := fun w h => (List.mem_cons.mp h).elim (fun e => e ▸ ⟨hw, good9 hw⟩) (fun h => ⟨h, good9 h⟩)
  have hF : ∀ q, va_A [(x, ex)] H.size q → A q := va_free hD hS C.2.2.2.2.2.2.1 [ws.length] (by simp)
  have hPx : va_P D cl [(x, ex)] H := fun k q hq => by
    cases k with
    | zero => simp at hq; subst hq; exact hP ws.length _ (by simp)
    | succ k => simp at hq
  have hpre : PreS z.2.2.2.2.1 H (va_Pc (.ref x :: As) (fun U => U.heap.size = H.size ∧ va_P D cl [(x, ex)] U.heap ∧ va_K D cl tys U ∧ c_E U)) (.ref x :: As) := ⟨fun a U g mk q => by
      obtain ⟨q0, q1, qP, qK, qE⟩ := q
      exact ⟨q0, q1, qP, va_K.moved (u := U) (U := U.calling g mk a) (Vm.Alike.refl U.vm) qK, c_E_on (s := U) (U := U.calling g mk a) (State.WarmedH.refl U) qE⟩, fun U hU hW => ⟨rfl, by rw [hU], by rw [hU]; exact hPx, va_K.moved hW.alike C.2.2.2.2.2.1, c_E_on hW C.2.2.2.2.2.2.2.2⟩⟩
  have hrun : va_Run z.1 z.2.1 z.2.2.1 z.2.2.2.1 z.2.2.2.2.1 z.2.2.2.2.2.1 z.2.2.2.2.2.2.1 z.2.2.2.2.2.2.2.1 z.2.2.2.2.2.2.2.2.1 z.2.2.2.2.2.2.2.2.2 H locs kc ks mc2 ms2 (F0 z.2.2.2.2.2.1 pc ls (As.reverse ++ .ref x :: st)) st (va_Qv post2 (fun (w : va_W) t => va_P D cl w t.heap ∧ va_D (va_A [(x, ex)] H.size) w) (va_A [(x, ex)] H.size) (Value.ref x :: As).toArray) (va_A [(x, ex)] H.size) := by
    rcases hlk with ⟨host, hlk⟩ | hlk
    · exact va_runIN (As := As) (rest := st) ⟨C.1, C.2.1, C.2.2.1, C.2.2.2.1, C.2.2.2.2.1⟩ (hM H.size) ⟨va_cnB n C.2.2.2.2.1 hg rfl rfl rfl hlk (C.2.2.2.2.1 _ hini) hd.2 ⟨hR.1, hR.2.1⟩, hd.1, C.2.2.2.2.1 _ hin⟩ hpre rfl hn hl.1 rfl (lv_room hst) dg ⟨hR.2.2.1, hR.2.2.2⟩
    · exact va_runI (As := As) (rest := st) ⟨C.1, C.2.1, C.2.2.1, C.2.2.2.1, C.2.2.2.2.1⟩ (hM H.size) (cwI n C.2.2.2.2.1 hg rfl rfl rfl (C.2.2.2.2.1 _ hini) (C.2.2.2.2.1 _ hlk) (C.2.2.2.2.1 _ hin) hd.1 hd.2 ⟨hR.1, hR.2.1⟩) hpre rfl hn hl.1 rfl (lv_room hst) dg ⟨hR.2.2.1, hR.2.2.2⟩
  refine va_callv hrun hS (fun q _ h => hF q h) hF ?_
  intro u t H1 locs1 ht _ hp hB _ hk1 hS1
  obtain ⟨hP1, hD1⟩ := hB
  rw [ht] at hP1
  obtain ⟨hPj, hDj⟩ := c_join hP hD hk1 hF hP1 hD1
  exact kk u hp H1 locs1 ls hPj hDj hS1 hl
end CB
