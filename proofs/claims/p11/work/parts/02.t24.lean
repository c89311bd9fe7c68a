/-! a world within a world: the roles o, o + 1, .. of a greater one; calls of methods of the smaller one -/
def w_fl (o : Nat) : Nat ⊕ Bool → Nat ⊕ Bool
  | .inl j => .inl (o + j)
  | .inr b => .inr b
def w_sh (o : Nat) : fL → fL
  | .inl x => .inl (x.1, x.2.1, fun q => w_fl o (x.2.2 q))
  | .inr (.inl x) => .inr (.inl x)
  | .inr (.inr x) => .inr (.inr (x.1, x.2.1, fun q => o + x.2.2 q))
def w_sub (σ : fS) (o : Nat) : fS := (fun k q => σ.1 (o + k) q, fun k q => σ.2 (o + k) q)
def w_put (σ : fS) (o n : Nat) (τ : fS) : fS := (fun k q => if o ≤ k ∧ k < o + n then τ.1 (k - o) q else σ.1 k q, fun k q => if o ≤ k ∧ k < o + n then τ.2 (k - o) q else σ.2 k q)
def w_G (G : fG) (o : Nat) (Y : Nat → fL) (n : Nat) : fG := (G.1, G.2.1, G.2.2.1, fun j => G.2.2.2.1 (o + j), G.2.2.2.2.1, Y, n)
def w_ok (G : fG) (o : Nat) (Y : Nat → fL) (n : Nat) : Prop := o + n ≤ G.2.2.2.2.2.2 ∧ ∀ k, k < n → G.2.2.2.2.2.1 (o + k) = w_sh o (Y k)
theorem w_cell {ad : Nat → Nat} {cA : Nat → ClassId} {σ τ : fS} {o k : Nat} (h1 : ∀ q, τ.1 k q = σ.1 (o + k) q) (h2 : ∀ q, τ.2 k q = σ.2 (o + k) q) (y : fL) : f_cell (fun j => ad (o + j)) cA τ k y = f_cell ad cA σ (o + k) (w_sh o y) := by
  have e1 : τ.1 k = σ.1 (o + k) := funext h1
  have e2 : τ.2 k = σ.2 (o + k) := funext h2
  rcases y with ⟨ci, n, fs⟩ | ⟨t, n⟩ | ⟨t, n, g⟩
  · show (Sum.inr (ci, (List.range n).map (fun q => f_fld (fun j => ad (o + j)) (τ.1 k) q (fs q))) : va_E) = Sum.inr (ci, (List.range n).map (fun q => f_fld ad (σ.1 (o + k)) q (w_fl o (fs q))))
    rw [e1]
    congr 3
    funext q
    cases fs q with
    | inl j => rfl
    | inr b => cases b <;> rfl
  · show (Sum.inl (cA t, n, .inl (fun q => fI (τ.2 k q))) : va_E) = Sum.inl (cA t, n, .inl (fun q => fI (σ.2 (o + k) q)))
    rw [e2]
  · rfl
section WA
variable {G : fG} {o n : Nat} {Y : Nat → fL} {σ τ : fS} {H H1 : Heap}
theorem w_in (h : w_ok G o Y n) (hP : f_W G σ H) : f_W (w_G G o Y n) (w_sub σ o) H := by
  intro k q hq
  obtain ⟨hk, rfl⟩ := f_w_inv hq
  have hk9 : k < n := hk
  have h1 := hP (o + k) _ (f_w_get (show o + k < G.2.2.2.2.2.2 by have := h.1; omega))
  rw [h.2 k hk9, ← w_cell (τ := w_sub σ o) (fun _ => rfl) (fun _ => rfl)] at h1
  exact h1
theorem w_J (h : w_ok G o Y n) (hJ : f_J G) : f_J (w_G G o Y n) := by
  intro i j hi hj he
  have hi9 : i < n := hi
  have hj9 : j < n := hj
  have := hJ (o + i) (o + j) (by have := h.1; omega) (by have := h.1; omega) he
  omega
theorem w_A (h : w_ok G o Y n) {a b : Nat} (hab : a ≤ b) {q : Nat} (hq : f_A (w_G G o Y n) b q) : f_A G a q := by
  rcases hq with ⟨k, hk, e⟩ | hq
  · have hk9 : k < n := hk
    exact Or.inl ⟨o + k, by have := h.1; omega, e⟩
  · exact Or.inr (Nat.le_trans hab hq)
theorem w_out (h : w_ok G o Y n) (hJ : f_J G) (hP : f_W G σ H) (hk : ∀ q : Nat, q < H.size → ¬ f_A (w_G G o Y n) H.size q → H1[q]? = H[q]?) (hQ : f_W (w_G G o Y n) τ H1) : f_W G (w_put σ o n τ) H1 := by
  intro k q hq
  obtain ⟨hk9, rfl⟩ := f_w_inv hq
  by_cases hin : o ≤ k ∧ k < o + n
  · have hkn : k - o < n := by omega
    have h1 := hQ (k - o) _ (f_w_get (show k - o < (w_G G o Y n).2.2.2.2.2.2 from hkn))
    have e1 : o + (k - o) = k := by omega
    have e2 := w_cell (ad := G.2.2.2.1) (cA := G.2.2.2.2.1) (σ := w_put σ o n τ) (τ := τ) (o := o) (k := k - o) (fun q => by show _ = if o ≤ o + (k - o) ∧ o + (k - o) < o + n then τ.1 (o + (k - o) - o) q else _; rw [if_pos (by omega), show o + (k - o) - o = k - o by omega]) (fun q => by show _ = if o ≤ o + (k - o) ∧ o + (k - o) < o + n then τ.2 (o + (k - o) - o) q else _; rw [if_pos (by omega), show o + (k - o) - o = k - o by omega]) (Y (k - o))
    rw [← h.2 (k - o) hkn, e1] at e2
    have h2 : va_at G.1 G.2.1 (G.2.2.2.1 (o + (k - o)), f_cell (fun j => G.2.2.2.1 (o + j)) G.2.2.2.2.1 τ (k - o) (Y (k - o))) H1 := h1
    rw [e2, e1] at h2
    exact h2
  · have h0 := hP k _ (f_w_get hk9)
    have e1 : f_cell G.2.2.2.1 G.2.2.2.2.1 (w_put σ o n τ) k (G.2.2.2.2.2.1 k) = f_cell G.2.2.2.1 G.2.2.2.2.1 σ k (G.2.2.2.2.2.1 k) := by
      have q1 : (w_put σ o n τ).1 k = σ.1 k := funext fun q => if_neg hin
      have q2 : (w_put σ o n τ).2 k = σ.2 k := funext fun q => if_neg hin
      cases G.2.2.2.2.2.1 k with
      | inl x => simp [f_cell, q1]
      | inr x => cases x <;> simp [f_cell, q2]
    rw [e1]
    refine h0.kept (hk _ h0.lt ?_)
    rintro (⟨j, hj, e⟩ | hge)
    · have hj9 : j < n := hj
      have := hJ k (o + j) hk9 (by have := h.1; omega) e
      omega
    · exact absurd h0.lt (Nat.not_lt.mpr hge)
end WA
section WB
variable {z : fZ} {G : fG} {cc : ByteArray} {nL : Nat} {own : String} {Q : State → Prop} {kc ks : Nat} {σ : fS} {pc : Nat} {lv : List (Option Value)} {st : List Value} {E E' : Nat → State → Prop} {o n : Nat} {Y : Nat → fL}
theorem w_pre {H : Heap} {locs : List Loc} {av : List Value} (C : fc z G cc nL own) (hE : f_E G E) (hz : E z.2.2.2.2.1.heap.size z.2.2.2.2.1) (hw : w_ok G o Y n) (hEE : ∀ sz U, E sz U → E' sz U) (hP : f_W G σ H) (hS : va_S (f_A G z.2.2.2.2.1.heap.size) z.2.2.2.2.1.heap H locs) : ∀ U : State, U.heap = H → z.2.2.2.2.1.WarmedH U.vm → f_Pc (w_G G o Y n) E' H.size (w_sub σ o) av av.toArray U := by
  intro U hU hW
  subst hU
  exact ⟨rfl, rfl, w_in hw hP, va_K.moved hW.alike C.2.2.2.2.2.1, hEE _ _ (hE.1 _ U locs hz hS hW)⟩
/-- a call of an instance's method: it answers an int -/
theorem w_cVI (C : fc z G cc nL own) (hE : f_E G E) (hz : E z.2.2.2.2.1.heap.size z.2.2.2.2.1) (hw : w_ok G o Y n) (hE' : f_E (w_G G o Y n) E') (hEE : ∀ sz U, E sz U → E' sz U) {dd : Nat} (hR : dd ≤ z.2.2.2.1.frames ∧ 40 * dd ≤ z.2.2.2.1.locals ∧ kc ≤ z.2.2.2.1.cells ∧ ks ≤ z.2.2.2.1.slots) {y : MethodName} {bytes : ByteArray} {maxL d index np k ci nf : Nat} {fs : Nat → Nat ⊕ Bool} {T : u_T} {CN : String} {ret : Option FieldType} {ws : List Cond} {As : List Value} {post : Int → fS → Prop}
    (hM : f_M z.2.1 (w_G G o Y n) E' y (Cond.code y bytes maxL ret :: ws) d (w_sub σ o) (.ref (G.2.2.2.1 k) :: As) (f_QI post (w_G G o Y n))) (dg : decode cc pc = .ok (.invokevirtual index, 3)) (hN : k < G.2.2.2.2.2.2) (hY : G.2.2.2.2.2.1 k = .inl (ci, nf, fs)) (hc : G.2.1[ci]? = some (CN, T, nf)) (hg : GoodIn A9 (wsV own index CN y (Cond.code y bytes maxL ret :: ws)))
    (hd : y.cls = CN ∧ y.cls ≠ "java/lang/invoke/MethodHandle" ∧ y.cls ≠ "java/lang/invoke/VarHandle" ∧ (parseMethodDescriptor y.desc).map (fun d => d.parameters.length) = some np) (hlev : d + 1 ≤ dd) (hml : maxL ≤ 21) (hn : As.length = np) (hst : (st.map fun v => v.category).sum ≤ 8) {st0 : List Value} (hst0 : st0 = As.reverse ++ .ref (G.2.2.2.1 k) :: st)
    (kk : ∀ (r : Int) (τ : fS), post r τ → fv z G nL Q kc ks (w_put σ o n τ) (pc + 3) lv (.int (fI r) :: st)) : fv z G nL Q kc ks σ pc lv st0 := by
  intro H locs ls hP hS hl
  subst hst0
  obtain ⟨r1, r2, r3, r4⟩ := hR
  refine va_calli (va_runV (As := As) (rest := st) ⟨C.1, C.2.1, C.2.2.1, C.2.2.2.1, C.2.2.2.2.1⟩ (hM H.size) (cwV np C.2.2.2.2.1 hg rfl rfl rfl hd ⟨Nat.le_trans hlev r1, by show 8 + (maxL + 11) + 40 * d ≤ _; omega⟩) ⟨f_blind hE', va_recv C.2.2.2.2.2.1 hP hc (f_at1 hN hY), w_pre C hE hz hw hEE hP hS⟩ rfl hn hl.1 rfl (lv_room hst) dg ⟨r3, r4⟩) hS (fun q _ h => w_A hw hS.1 h) (fun q h => w_A hw hS.1 h) ?_
  intro r u t H1 locs1 ht _ hwp hB _ hk hS1
  obtain ⟨rfl, hp⟩ := hwp
  exact kk u.1 u.2 hp H1 locs1 ls (w_out hw C.2.2.2.2.2.2 hP hk (by rw [← ht]; exact hB)) hS1 hl
/-- .. it answers nothing -/
theorem w_cVV (C : fc z G cc nL own) (hE : f_E G E) (hz : E z.2.2.2.2.1.heap.size z.2.2.2.2.1) (hw : w_ok G o Y n) (hE' : f_E (w_G G o Y n) E') (hEE : ∀ sz U, E sz U → E' sz U) {dd : Nat} (hR : dd ≤ z.2.2.2.1.frames ∧ 40 * dd ≤ z.2.2.2.1.locals ∧ kc ≤ z.2.2.2.1.cells ∧ ks ≤ z.2.2.2.1.slots) {y : MethodName} {bytes : ByteArray} {maxL d index np k ci nf : Nat} {fs : Nat → Nat ⊕ Bool} {T : u_T} {CN : String} {ret : Option FieldType} {ws : List Cond} {As : List Value} {post : fS → Prop}
    (hM : f_M z.2.1 (w_G G o Y n) E' y (Cond.code y bytes maxL ret :: ws) d (w_sub σ o) (.ref (G.2.2.2.1 k) :: As) (f_QV post (w_G G o Y n))) (dg : decode cc pc = .ok (.invokevirtual index, 3)) (hN : k < G.2.2.2.2.2.2) (hY : G.2.2.2.2.2.1 k = .inl (ci, nf, fs)) (hc : G.2.1[ci]? = some (CN, T, nf)) (hg : GoodIn A9 (wsV own index CN y (Cond.code y bytes maxL ret :: ws)))
    (hd : y.cls = CN ∧ y.cls ≠ "java/lang/invoke/MethodHandle" ∧ y.cls ≠ "java/lang/invoke/VarHandle" ∧ (parseMethodDescriptor y.desc).map (fun d => d.parameters.length) = some np) (hlev : d + 1 ≤ dd) (hml : maxL ≤ 21) (hn : As.length = np) (hst : (st.map fun v => v.category).sum ≤ 8) {st0 : List Value} (hst0 : st0 = As.reverse ++ .ref (G.2.2.2.1 k) :: st)
    (kk : ∀ (τ : fS), post τ → fv z G nL Q kc ks (w_put σ o n τ) (pc + 3) lv st) : fv z G nL Q kc ks σ pc lv st0 := by
  intro H locs ls hP hS hl
  subst hst0
  obtain ⟨r1, r2, r3, r4⟩ := hR
  refine va_callv (va_runV (As := As) (rest := st) ⟨C.1, C.2.1, C.2.2.1, C.2.2.2.1, C.2.2.2.2.1⟩ (hM H.size) (cwV np C.2.2.2.2.1 hg rfl rfl rfl hd ⟨Nat.le_trans hlev r1, by show 8 + (maxL + 11) + 40 * d ≤ _; omega⟩) ⟨f_blind hE', va_recv C.2.2.2.2.2.1 hP hc (f_at1 hN hY), w_pre C hE hz hw hEE hP hS⟩ rfl hn hl.1 rfl (lv_room hst) dg ⟨r3, r4⟩) hS (fun q _ h => w_A hw hS.1 h) (fun q h => w_A hw hS.1 h) ?_
  intro u t H1 locs1 ht _ hp hB _ hk hS1
  exact kk u hp H1 locs1 ls (w_out hw C.2.2.2.2.2.2 hP hk (by rw [← ht]; exact hB)) hS1 hl
/-- .. it throws, and the caller's table has a row for it -/
theorem w_cVX (C : fc z G cc nL own) (hE : f_E G E) (hz : E z.2.2.2.2.1.heap.size z.2.2.2.2.1) (hw : w_ok G o Y n) (hE' : f_E (w_G G o Y n) E') (hEE : ∀ sz U, E sz U → E' sz U) {dd mc ms : Nat} (hR : dd ≤ z.2.2.2.1.frames ∧ 40 * dd ≤ z.2.2.2.1.locals ∧ kc + mc ≤ z.2.2.2.1.cells ∧ ks + ms ≤ z.2.2.2.1.slots) {y : MethodName} {bytes : ByteArray} {maxL d index np k ci nf : Nat} {fs : Nat → Nat ⊕ Bool} {T : u_T} {CN X : String} {ret : Option FieldType} {ws : List Cond} {As : List Value} {post : fS → Prop} {hpc : Nat}
    (hM : tx_M z.2.1 (w_G G o Y n) E' y (Cond.code y bytes maxL ret :: ws) d mc ms (w_sub σ o) (.ref (G.2.2.2.1 k) :: As) X post) (dg : decode cc pc = .ok (.invokevirtual index, 3)) (hN : k < G.2.2.2.2.2.2) (hY : G.2.2.2.2.2.1 k = .inl (ci, nf, fs)) (hc : G.2.1[ci]? = some (CN, T, nf)) (hg : GoodIn A9 (wsV own index CN y (Cond.code y bytes maxL ret :: ws)))
    (hd : y.cls = CN ∧ y.cls ≠ "java/lang/invoke/MethodHandle" ∧ y.cls ≠ "java/lang/invoke/VarHandle" ∧ (parseMethodDescriptor y.desc).map (fun d => d.parameters.length) = some np) (hlev : d + 1 ≤ dd) (hml : maxL ≤ 21) (hn : As.length = np) (hst : (st.map fun v => v.category).sum ≤ 8) {st0 : List Value} (hst0 : st0 = As.reverse ++ .ref (G.2.2.2.1 k) :: st)
    (hf : ∀ cX, z.2.2.2.2.1.vm.findClass X = some cX → tx_finds z.2.2.1 z.2.2.2.2.1 z.2.2.2.2.2.1.cls pc cX z.2.2.2.2.2.2.2.2.2.exceptionTable.toList hpc)
    (kk : ∀ (τ : fS) (q : Addr), post τ → fv z G nL Q (kc + mc) (ks + ms) (w_put σ o n τ) hpc lv [.ref q]) : fv z G nL Q kc ks σ pc lv st0 := by
  intro H locs ls hP hS hl T0 hT X0
  subst hst0
  obtain ⟨r1, r2, r3, r4⟩ := hR
  have cw := cwV (R := z.2.2.2.1) (s := z.2.2.2.2.1) (args := z.2.2.2.2.2.2.1) (rm := f_rm d) (mc := 0) (ms := 0) np C.2.2.2.2.1 hg rfl rfl rfl hd ⟨Nat.le_trans hlev r1, by show 8 + (maxL + 11) + 40 * d ≤ _; omega⟩
  obtain ⟨⟨-, -, -, -, hws, hcw, hcode, hini, hy, hlen, hlk⟩, hin, hsel⟩ := cw
  obtain ⟨cellB, hcB, hoB, hclB⟩ := va_recv C.2.2.2.2.2.1 hP hc (f_at1 hN hY)
  obtain ⟨mk, methM, hnamed, hmethM, hstM, habM⟩ := Cond.instanceMethod_spec hin
  obtain ⟨methM', cM, hmethM', -, -, -, -, -, -, hsigM⟩ := Cond.code_spec hnamed hcode
  cases hmethM.symm.trans hmethM'
  obtain ⟨c2, r2', m2, q1, q2, q3, q4, kP, hkP, hkPi⟩ := Cond.selects_spec hsel
  cases hclB.symm.trans q1
  cases (State.methodFound?_of_named hnamed hy).symm.trans q2
  cases hnamed.symm.trans q3
  have hselP : selectMethod z.2.2.1.platform z.2.2.2.2.1.vm cellB.cls mk = .method mk := by rw [Launch.admits_selectMethod X0.admits]; exact q4
  have hsz : (F0 z.2.2.2.2.2.1 pc ls (As.reverse ++ .ref (G.2.2.2.1 k) :: st)).locals.size = z.2.2.2.2.2.2.2.2.2.maxLocals := hl.1.trans C.2.2.1.symm
  have hdg9 : decode z.2.2.2.2.2.2.2.2.2.code pc = .ok (.invokevirtual index, 3) := by rw [C.2.1]; exact dg
  obtain ⟨vm1, X1, hstep1⟩ := X0.invokevirtual C.1 C.2.2.2.1 hlk hnamed hmethM hstM hkP hkPi hy (a := G.2.2.2.1 k) (cell := cellB) (by rw [hT]; exact hcB) (fun z h => by rw [h] at hoB; cases hoB) hselP hmethM habM hkP hkPi (g := F0 z.2.2.2.2.2.1 pc ls (As.reverse ++ .ref (G.2.2.2.1 k) :: st)) rfl (argsL := As) (rest := st) (hn.trans (hlen _ hsigM)) rfl hdg9
  have hPc := w_pre (E' := E') (av := .ref (G.2.2.2.1 k) :: As) C hE hz hw hEE hP hS (T0.setVm vm1) hT X1.warmed
  obtain ⟨q, t, B, L, ⟨q9, ce, u, L9, e9, hce, hvm, hcl, hp, hfw, hF, -, -, -⟩, eh, ev, hL, X2, hsteps⟩ := tx_inv (bytes := bytes) (maxL := maxL) (ret := ret) (free := f_A (w_G G o Y n) H.size) (hM H.size) (f_blind hE') (fun a st o t h => by
      obtain ⟨q, ce, u, L, e1, -, -, -, -, -, -, hW, hs, hL⟩ := h
      exact ⟨q, L, e1, hW, hs, hL⟩) X1 (g := F0 z.2.2.2.2.2.1 pc ls st) rfl hsz hdg9 (lv_room hst) (X1.named hnamed) (Value.ref (G.2.2.2.1 k) :: As).toArray hPc ⟨Nat.le_trans hlev r1, by show 8 + (maxL + 11) + 40 * d ≤ _; omega, r3, r4⟩ (fun w hw9 => hws w hw9 _ _ X1.warmed) hcw (word_at X1.warmed (Or.inl (by first | rfl | simp [Cond.onTables, Cond.keeps, Cond.steady])) hini)
  cases e9
  have hF2 : ∀ q : Nat, q < H.size → ¬ f_A (w_G G o Y n) H.size q → B.heap[q]? = H[q]? := fun q h1 h2 => by
    rw [eh]
    have := hF.2 q (by show q < T0.heap.size; rw [hT]; exact h1) h2
    rw [this]
    show T0.heap[q]? = H[q]?
    rw [hT]
  have hB1 : H.size ≤ B.heap.size := by
    rw [eh]
    have := hF.1
    have h9 : T0.heap.size ≤ t.heap.size := this
    rw [hT] at h9
    exact h9
  have hS2 : va_S (f_A G z.2.2.2.2.1.heap.size) z.2.2.2.2.1.heap B.heap (locs ++ L) := ⟨Nat.le_trans hS.1 hB1, fun q h1 h2 => by
      rw [hF2 q (Nat.lt_of_lt_of_le h1 hS.1) (fun h => h2 (w_A hw hS.1 h))]
      exact hS.2.1 q h1 h2, fun x hx => (List.mem_append.mp hx).elim (fun h => hS.2.2 x h) (fun h => w_A hw hS.1 (hL x h))⟩
  have hW2 : f_W G (w_put σ o n u) B.heap := w_out hw C.2.2.2.2.2.2 hP hF2 (by rw [eh]; exact hfw)
  have hcl2 : z.2.2.2.2.1.vm.findClass X = some ce.cls := by
    have h9 : (T0.setVm vm1).vm.findClass X = some ce.cls := hcl
    rw [X1.warmed.alike.findClass] at h9
    exact h9
  obtain ⟨vm3, X3, st3⟩ := tx_caught X2 (g := F0 z.2.2.2.2.2.1 pc ls st) rfl (q := q) (cell := ce) (h := hpc) (by rw [eh]; exact hce) hvm (Vm.classAt_of_findClass hcl2) (hf ce.cls hcl2)
  obtain ⟨t2, a1, b1⟩ := kk u q hp B.heap (locs ++ L) ls hW2 hS2 hl (B.setVm vm3) rfl X3
  exact ⟨t2, hstep1 _ (fun acts => by rw [doInvoke_state]; exact hsteps.trans (st3 _ a1)), b1⟩
end WB
