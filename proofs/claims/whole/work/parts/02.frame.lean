section
/-! THE FRAME: numbers as integers, a world as a table of roles, a judgement fv over it; a row an instruction. -/
-- ===== numbers =====
def fI (z : Int) : Int32 := Int32.ofInt z
theorem fI_toInt {z : Int} (h1 : -2147483648 ≤ z) (h2 : z ≤ 2147483647) : (fI z).toInt = z := Int32.toInt_ofInt_of_le (by omega) (by omega)
theorem fI_add (a b : Int) : fI a + fI b = fI (a + b) := (Int32.ofInt_add a b).symm
theorem fI_sub (a b : Int) : fI a - fI b = fI (a - b) := (Int32.ofInt_sub a b).symm
theorem fI_mul (a b : Int) : fI a * fI b = fI (a * b) := (Int32.ofInt_mul a b).symm
theorem fI_of (x : Int32) : x = fI x.toInt := (Int32.ofInt_toInt x).symm
theorem fI_0 : fI 0 = 0 := by decide +kernel
theorem fI_lt {a b : Int} (ha : -2147483648 ≤ a ∧ a ≤ 2147483647) (hb : -2147483648 ≤ b ∧ b ≤ 2147483647) : fI a < fI b ↔ a < b := by
  rw [Int32.lt_iff_toInt_lt, fI_toInt ha.1 ha.2, fI_toInt hb.1 hb.2]
theorem fI_le {a b : Int} (ha : -2147483648 ≤ a ∧ a ≤ 2147483647) (hb : -2147483648 ≤ b ∧ b ≤ 2147483647) : fI a ≤ fI b ↔ a ≤ b := by
  rw [Int32.le_iff_toInt_le, fI_toInt ha.1 ha.2, fI_toInt hb.1 hb.2]
theorem fI_eq {a b : Int} (ha : -2147483648 ≤ a ∧ a ≤ 2147483647) (hb : -2147483648 ≤ b ∧ b ≤ 2147483647) : fI a = fI b ↔ a = b := by
  rw [← Int32.toInt_inj, fI_toInt ha.1 ha.2, fI_toInt hb.1 hb.2]
theorem fI_clamp {z : Int} (h1 : 0 ≤ z) (h2 : z ≤ 2147483647) : (fI z).toNatClampNeg = z.toNat := by
  show (fI z).toInt.toNat = z.toNat
  rw [fI_toInt (by omega) h2]
theorem fI_in {z : Int} {n : Nat} (h1 : 0 ≤ z) (h2 : z < n) (hn : n ≤ 2147483647) : vp_in (fI z) n := by
  refine vp_in_iff.mpr ?_
  rw [fI_toInt (by omega) (by omega)]
  exact ⟨h1, h2⟩
theorem fI_nat (n : Nat) : Int32.ofNat n = fI (n : Int) := by
  show Int32.ofNat n = Int32.ofInt (n : Int)
  rfl
theorem fI_div {a b : Int} (ha : 0 ≤ a ∧ a ≤ 2147483647) (hb : 0 < b ∧ b ≤ 2147483647) : fI a / fI b = fI (a / b) := by
  refine Int32.toInt_inj.mp ?_
  have h1 : (fI b) ≠ -1 := by
    intro h
    have h2 := congrArg Int32.toInt h
    rw [fI_toInt (by omega) (by omega)] at h2
    have h3 : (-1 : Int32).toInt = -1 := by decide +kernel
    rw [h3] at h2
    omega
  have h4 : a / b ≤ a := Int.ediv_le_self b ha.1
  have h5 : 0 ≤ a / b := Int.ediv_nonneg ha.1 (by omega)
  rw [Int32.toInt_div_of_ne_right _ _ h1, fI_toInt (by omega) (by omega), fI_toInt (by omega) (by omega), fI_toInt (by omega) (by omega)]
  exact Int.tdiv_eq_ediv_of_nonneg ha.1
theorem fI_rem {a b : Int} (ha : 0 ≤ a ∧ a ≤ 2147483647) (hb : 0 < b ∧ b ≤ 2147483647) : fI a - fI a / fI b * fI b = fI (a % b) := by
  rw [fI_div ha hb, fI_mul, fI_sub]
  congr 1
  have := Int.emod_def a b
  rw [this, Int.mul_comm]
theorem fI_b (z : Int) : (fI z).toInt8.toInt32 = fI (z.bmod 256) := by
  refine Int32.toInt_inj.mp ?_
  have h1 : -128 ≤ z.bmod 256 := by have := Int.le_bmod (x := z) (m := 256) (by omega); omega
  have h2 : z.bmod 256 ≤ 127 := by have := Int.bmod_lt (x := z) (m := 256) (by omega); omega
  rw [fI_toInt (by omega) (by omega), Int8.toInt_toInt32]
  show (Int32.ofInt z).toInt8.toInt = _
  rw [Int32.toInt8_ofInt, Int8.toInt_ofInt]
theorem bm_id {z : Int} (h1 : -128 ≤ z) (h2 : z ≤ 127) : z.bmod 256 = z := by
  rw [Int.bmod_def]
  omega
theorem fI_bi {z : Int} (h1 : -128 ≤ z) (h2 : z ≤ 127) : (fI z).toInt8.toInt32 = fI z := by rw [fI_b, bm_id h1 h2]
theorem fI_z01 {z : Int} (h : z = 0 ∨ z = 1) : vp_nar .boolean (fI z) = fI z := by
  rcases h with rfl | rfl <;> decide +kernel
theorem fN_byte {z : Int} (h1 : -128 ≤ z) (h2 : z ≤ 127) : narrow .byte (.int (fI z)) = .int (fI z) := by
  have h := pk_nb (fI z)
  rw [fI_bi h1 h2] at h
  exact h
theorem fN_bool {z : Int} (h : z = 0 ∨ z = 1) : narrow .boolean (.int (fI z)) = .int (fI z) := by
  rcases h with rfl | rfl <;> decide +kernel
theorem fF_byte {z : Int} (h1 : -128 ≤ z) (h2 : z ≤ 127) : fits .byte (.int (fI z)) = true := by
  have h := pk_fb (fI z)
  rw [fI_bi h1 h2] at h
  exact h
theorem fF_bool {z : Int} (h : z = 0 ∨ z = 1) : fits .boolean (.int (fI z)) = true := by
  rcases h with rfl | rfl <;> decide +kernel
-- ===== a world as a table of roles =====
/-- the layout of a cell: an object (its class, how many fields, each a role, a number, or null), an array of numbers (its type, its length), an array of roles -/
abbrev fL : Type := (Nat × Nat × (Nat → Nat ⊕ Bool)) ⊕ (Nat × Nat) ⊕ (Nat × Nat × (Nat → Nat))
/-- what the cells hold: the numbers of objects by role and field, those of arrays by role and place -/
abbrev fS : Type := (Nat → Nat → Int) × (Nat → Nat → Int)
def f_fld (ad : Nat → Nat) (v : Nat → Int) (q : Nat) : Nat ⊕ Bool → Value
  | .inl j => .ref (ad j)
  | .inr true => .int (fI (v q))
  | .inr false => .null
def f_cell (ad : Nat → Nat) (cA : Nat → ClassId) (σ : fS) (k : Nat) : fL → va_E
  | .inl (ci, n, fs) => .inr (ci, (List.range n).map (fun q => f_fld ad (σ.1 k) q (fs q)))
  | .inr (.inl (t, n)) => .inl (cA t, n, .inl (fun q => fI (σ.2 k q)))
  | .inr (.inr (t, n, g)) => .inl (cA t, n, .inr (.inr (.inr (.inr (fun q => some (ad (g q)))))))
def f_w (ad : Nat → Nat) (cA : Nat → ClassId) (Y : Nat → fL) (N : Nat) (σ : fS) : va_W := (List.range N).map (fun k => (ad k, f_cell ad cA σ k (Y k)))
theorem f_w_get {ad : Nat → Nat} {cA : Nat → ClassId} {Y : Nat → fL} {N : Nat} {σ : fS} {k : Nat} (h : k < N) : (f_w ad cA Y N σ)[k]? = some (ad k, f_cell ad cA σ k (Y k)) := by
  simp [f_w, h]
theorem f_w_inv {ad : Nat → Nat} {cA : Nat → ClassId} {Y : Nat → fL} {N : Nat} {σ : fS} {k : Nat} {q : Nat × va_E} (h : (f_w ad cA Y N σ)[k]? = some q) : k < N ∧ q = (ad k, f_cell ad cA σ k (Y k)) := by
  have hk : k < N := by
    have := (List.getElem?_eq_some_iff.mp h).1
    simpa [f_w] using this
  rw [f_w_get hk] at h
  exact ⟨hk, (Option.some.inj h).symm⟩
theorem f_w_set {ad : Nat → Nat} {cA : Nat → ClassId} {Y : Nat → fL} {N : Nat} {σ σ' : fS} {k : Nat} {e : va_E} (he : f_cell ad cA σ' k (Y k) = e) (ho : ∀ j, j ≠ k → f_cell ad cA σ' j (Y j) = f_cell ad cA σ j (Y j)) : (f_w ad cA Y N σ).set k (ad k, e) = f_w ad cA Y N σ' := by
  refine List.ext_getElem? fun i => ?_
  rw [List.getElem?_set]
  by_cases hi : k = i
  · subst hi
    by_cases hk : k < N
    · rw [if_pos rfl, f_w_get hk, he, if_pos (by simpa [f_w] using hk)]
    · rw [if_pos rfl, if_neg (by simpa [f_w] using hk), List.getElem?_eq_none (by simp [f_w]; omega)]
  · rw [if_neg hi]
    by_cases hk : i < N
    · rw [f_w_get hk, f_w_get hk, ho i (fun h => hi h.symm)]
    · rw [List.getElem?_eq_none (by simp [f_w]; omega), List.getElem?_eq_none (by simp [f_w]; omega)]
/-- a number of an object is written -/
def f_p1 (σ : fS) (k q : Nat) (v : Int) : fS := (va_up σ.1 k (va_up (σ.1 k) q v), σ.2)
/-- a place of an array is written -/
def f_p2 (σ : fS) (k q : Nat) (v : Int) : fS := (σ.1, va_up σ.2 k (va_up (σ.2 k) q v))
/-- an array is written whole -/
def f_pa (σ : fS) (k : Nat) (f : Nat → Int) : fS := (σ.1, va_up σ.2 k f)
theorem p1_1 (σ : fS) (k q : Nat) (v : Int) (a b : Nat) : (f_p1 σ k q v).1 a b = if a = k ∧ b = q then v else σ.1 a b := by
  simp only [f_p1, va_up]
  by_cases h1 : a = k
  · subst h1
    by_cases h2 : b = q
    · subst h2; simp [va_up]
    · simp [va_up, h2]
  · simp [h1]
theorem p1_2 (σ : fS) (k q : Nat) (v : Int) : (f_p1 σ k q v).2 = σ.2 := rfl
theorem p2_1 (σ : fS) (k q : Nat) (v : Int) : (f_p2 σ k q v).1 = σ.1 := rfl
theorem p2_2 (σ : fS) (k q : Nat) (v : Int) (a b : Nat) : (f_p2 σ k q v).2 a b = if a = k ∧ b = q then v else σ.2 a b := by
  simp only [f_p2, va_up]
  by_cases h1 : a = k
  · subst h1
    by_cases h2 : b = q
    · subst h2; simp [va_up]
    · simp [va_up, h2]
  · simp [h1]
theorem pa_2 (σ : fS) (k : Nat) (f : Nat → Int) (a : Nat) : (f_pa σ k f).2 a = if a = k then f else σ.2 a := rfl
theorem f_set1 {ad : Nat → Nat} {cA : Nat → ClassId} {Y : Nat → fL} {N : Nat} {σ : fS} {k q ci n : Nat} {fs : Nat → Nat ⊕ Bool} {v : Int} (hY : Y k = .inl (ci, n, fs)) (hf : fs q = .inr true) : (f_w ad cA Y N σ).set k (ad k, .inr (ci, ((List.range n).map (fun q => f_fld ad (σ.1 k) q (fs q))).set q (.int (fI v)))) = f_w ad cA Y N (f_p1 σ k q v) := by
  refine f_w_set ?_ ?_
  · rw [hY]
    show (Sum.inr (ci, _) : va_E) = _
    congr 2
    refine List.ext_getElem? fun i => ?_
    rw [List.getElem?_set]
    by_cases hi : q = i
    · subst hi
      by_cases hn : q < n
      · simp [hn, f_fld, hf, f_p1, va_up]
      · simp [hn]
    · by_cases hn : i < n
      · simp only [hi, if_false, List.getElem?_map, List.getElem?_range hn, Option.map_some]
        congr 1
        cases h9 : fs i with
        | inl j => rfl
        | inr b => cases b <;> simp [f_fld, f_p1, va_up, Ne.symm hi]
      · simp [hi, hn]
  · intro j hj
    cases hj9 : Y j with
    | inl x => simp [f_cell, f_p1, va_up, hj]
    | inr x => cases x <;> rfl
theorem f_set2 {ad : Nat → Nat} {cA : Nat → ClassId} {Y : Nat → fL} {N : Nat} {σ : fS} {k t n : Nat} {f : Nat → Int32} {g : Nat → Int} (hY : Y k = .inr (.inl (t, n))) (hf : ∀ q, f q = fI (g q)) : (f_w ad cA Y N σ).set k (ad k, .inl (cA t, n, .inl f)) = f_w ad cA Y N (f_pa σ k g) := by
  refine f_w_set ?_ ?_
  · rw [hY]
    show (Sum.inl (cA t, n, .inl _) : va_E) = _
    congr 4
    funext q
    rw [hf]
    simp [f_pa, va_up]
  · intro j hj
    cases hj9 : Y j with
    | inl x => rfl
    | inr x => cases x <;> simp [f_cell, f_pa, va_up, hj]
theorem f_pa_p2 (σ : fS) (k q : Nat) (v : Int) : f_pa σ k (va_up (σ.2 k) q v) = f_p2 σ k q v := rfl
-- ===== locals by their places =====
def f_lv (lv : List (Option Value)) : List (Nat × Value) := lv.zipIdx.filterMap (fun x => x.1.map (fun v => (x.2, v)))
def f_has (ls : Array Slot) (nL : Nat) (lv : List (Option Value)) : Prop := ls.size = nL ∧ lv_wf ls ∧ (∀ (i : Nat) (v : Value), lv[i]? = some (some v) → ls[i]? = some (.val v)) ∧ ∀ (i : Nat) (v : Value), lv[i]? = some (some v) → v.category = 1
theorem f_lv_mem {lv : List (Option Value)} {i : Nat} {v : Value} : (i, v) ∈ f_lv lv ↔ lv[i]? = some (some v) := by
  unfold f_lv
  rw [List.mem_filterMap]
  constructor
  · rintro ⟨⟨o, j⟩, h1, h2⟩
    rw [List.mem_zipIdx_iff_getElem?] at h1
    cases o with
    | none => simp at h2
    | some w =>
      simp at h2
      obtain ⟨rfl, rfl⟩ := h2
      exact h1
  · intro h
    exact ⟨(some v, i), by rw [List.mem_zipIdx_iff_getElem?]; exact h, by simp⟩
theorem f_has.lv {ls : Array Slot} {nL : Nat} {lv : List (Option Value)} (h : f_has ls nL lv) : lv_has ls nL (f_lv lv) := ⟨h.1, h.2.1, fun q hq => h.2.2.1 q.1 q.2 (f_lv_mem.mp hq)⟩
theorem f_has.put {ls ls' : Array Slot} {nL i : Nat} {lv : List (Option Value)} {v : Value} (h : f_has ls nL lv) (hv : v.category = 1) (h' : lv_has ls' nL ((i, v) :: (f_lv lv).filter (fun q => !(q.1 == i) && !(q.1 + 1 == i && q.2.category == 2)))) : f_has ls' nL (lv.set i (some v)) := by
  refine ⟨h'.1, h'.2.1, fun j w hj => ?_, fun j w hj => ?_⟩
  · rw [List.getElem?_set] at hj
    by_cases e : i = j
    · subst e
      rw [if_pos rfl] at hj
      split at hj
      · cases hj
        exact h'.2.2 (i, v) List.mem_cons_self
      · cases hj
    · rw [if_neg e] at hj
      refine h'.2.2 (j, w) (List.mem_cons_of_mem _ (List.mem_filter.mpr ⟨f_lv_mem.mpr hj, ?_⟩))
      have hc := h.2.2.2 j w hj
      simp [hc]
      exact fun q => e q.symm
  · rw [List.getElem?_set] at hj
    by_cases e : i = j
    · subst e
      rw [if_pos rfl] at hj
      split at hj
      · cases hj; exact hv
      · cases hj
    · rw [if_neg e] at hj
      exact h.2.2.2 j w hj
-- ===== the judgement =====
abbrev fZ : Type := Program × Launch × Env × Room × State × MethodId × Array Value × List Frame × Method × Code
/-- the world's constants: class numbers and slots, classes, array classes, addresses of roles, numbers of array classes, the layout, how many roles -/
abbrev fG : Type := va_G × List vw_C × List (ClassId × FieldType) × (Nat → Nat) × (Nat → ClassId) × (Nat → fL) × Nat
def f_W (G : fG) (σ : fS) (H : Heap) : Prop := va_P G.1 G.2.1 (f_w G.2.2.2.1 G.2.2.2.2.1 G.2.2.2.2.2.1 G.2.2.2.2.2.2 σ) H
def f_A (G : fG) (sz : Nat) : Nat → Prop := fun q => (∃ k, k < G.2.2.2.2.2.2 ∧ q = G.2.2.2.1 k) ∨ sz ≤ q
def f_J (G : fG) : Prop := ∀ i j, i < G.2.2.2.2.2.2 → j < G.2.2.2.2.2.2 → G.2.2.2.1 i = G.2.2.2.1 j → i = j
def fv (z : fZ) (G : fG) (nL : Nat) (Q : State → Prop) (kc ks : Nat) (σ : fS) (pc : Nat) (lv : List (Option Value)) (st : List Value) : Prop :=
  ∀ (H : Heap) (locs : List Loc) (ls : Array Slot), f_W G σ H → va_S (f_A G z.2.2.2.2.1.heap.size) z.2.2.2.2.1.heap H locs → f_has ls nL lv →
    W z.1 z.2.1 z.2.2.1 z.2.2.2.1 z.2.2.2.2.1 z.2.2.2.2.2.1 z.2.2.2.2.2.2.1 z.2.2.2.2.2.2.2.1 z.2.2.2.2.2.2.2.2.1 z.2.2.2.2.2.2.2.2.2 H locs kc ks Q (F0 z.2.2.2.2.2.1 pc ls st)
/-- the words that are good of every state on: all that the tables say but a few -/
def A9 : List Cond := lw_tbl.filter goodWord
theorem in9 {w : Cond} (h : w ∈ lw_tbl) (g : goodWord w = true) : w ∈ A9 := List.mem_filter.mpr ⟨h, g⟩
theorem in9_0 {w : Cond} (i : Nat) (h : (k2_sels lw_privs)[i]? = some w) (g : goodWord w = true) : w ∈ A9 := in9 (List.mem_append_left _ (List.mem_of_getElem? h)) g
theorem in9_1 {w : Cond} (i : Nat) (h : tables_1_1[i]? = some w) (g : goodWord w = true) : w ∈ A9 := in9 (List.mem_append_right _ (show w ∈ tables_1 from (List.mem_append_left _ (List.mem_of_getElem? h)))) g
theorem in9_2 {w : Cond} (i : Nat) (h : tables_1_2[i]? = some w) (g : goodWord w = true) : w ∈ A9 := in9 (List.mem_append_right _ (show w ∈ tables_1 from (List.mem_append_right _ (List.mem_append_left _ (List.mem_of_getElem? h))))) g
theorem in9_3 {w : Cond} (i : Nat) (h : tables_1_3[i]? = some w) (g : goodWord w = true) : w ∈ A9 := in9 (List.mem_append_right _ (show w ∈ tables_1 from (List.mem_append_right _ (List.mem_append_right _ (List.mem_append_left _ (List.mem_of_getElem? h)))))) g
theorem in9_4 {w : Cond} (i : Nat) (h : tables_1_4[i]? = some w) (g : goodWord w = true) : w ∈ A9 := in9 (List.mem_append_right _ (show w ∈ tables_1 from (List.mem_append_right _ (List.mem_append_right _ (List.mem_append_right _ (List.mem_append_left _ (List.mem_of_getElem? h))))))) g
theorem in9_5 {w : Cond} (i : Nat) (h : tables_1_5[i]? = some w) (g : goodWord w = true) : w ∈ A9 := in9 (List.mem_append_right _ (show w ∈ tables_1 from (List.mem_append_right _ (List.mem_append_right _ (List.mem_append_right _ (List.mem_append_right _ (List.mem_append_left _ (List.mem_of_getElem? h)))))))) g
theorem in9_6 {w : Cond} (i : Nat) (h : tables_1_6[i]? = some w) (g : goodWord w = true) : w ∈ A9 := in9 (List.mem_append_right _ (show w ∈ tables_1 from (List.mem_append_right _ (List.mem_append_right _ (List.mem_append_right _ (List.mem_append_right _ (List.mem_append_right _ (List.mem_of_getElem? h)))))))) g
theorem good9 {w : Cond} (h : w ∈ A9) : (w.onTables && w.keeps) = true ∨ ∃ ty, w = .arrayClass ty := good_of_word (List.mem_filter.mp h).2
/-- what stands fast while a method's body runs -/
def fc (z : fZ) (G : fG) (cc : ByteArray) (nL : Nat) (own : String) : Prop :=
  z.1.tables.exec = Jvm.exec ∧ z.2.2.2.2.2.2.2.2.2.code = cc ∧ z.2.2.2.2.2.2.2.2.2.maxLocals = nL ∧ z.2.2.2.2.1.vm.findClass own = some z.2.2.2.2.2.1.cls ∧ (∀ w ∈ A9, w.before z.2.2.2.2.2.2.1 z.2.2.2.2.1 = true) ∧ va_K G.1 G.2.1 G.2.2.1 z.2.2.2.2.1 ∧ f_J G
theorem f_D {G : fG} {σ : fS} {sz : Nat} (h : f_J G) : va_D (f_A G sz) (f_w G.2.2.2.1 G.2.2.2.2.1 G.2.2.2.2.2.1 G.2.2.2.2.2.2 σ) := by
  refine ⟨fun i j x y hx hy he => ?_, fun k x hx => ?_⟩
  · obtain ⟨h1, rfl⟩ := f_w_inv hx
    obtain ⟨h2, rfl⟩ := f_w_inv hy
    exact h i j h1 h2 he
  · obtain ⟨h1, rfl⟩ := f_w_inv hx
    exact Or.inl ⟨k, h1, rfl⟩
section FV
variable {z : fZ} {G : fG} {cc : ByteArray} {nL : Nat} {own : String} {Q : State → Prop} {kc ks : Nat} {σ : fS} {pc : Nat} {lv : List (Option Value)} {st : List Value}
theorem v_iconst (C : fc z G cc nL own) {i : Int} (d : decode cc pc = .ok (.iconst i, 1)) (k : fv z G nL Q kc ks σ (pc + 1) lv (.int (fI i) :: st)) : fv z G nL Q kc ks σ pc lv st :=
  fun H locs ls hP hS hl => lv_iconst C.1 C.2.1 d rfl (k H locs ls hP hS hl)
theorem v_bipush (C : fc z G cc nL own) {i : Int} (d : decode cc pc = .ok (.bipush i, 2)) (hi : (Int8.ofInt i).toInt32 = fI i) (k : fv z G nL Q kc ks σ (pc + 2) lv (.int (fI i) :: st)) : fv z G nL Q kc ks σ pc lv st :=
  fun H locs ls hP hS hl => lv_bipush C.1 C.2.1 d hi (k H locs ls hP hS hl)
theorem v_sipush (C : fc z G cc nL own) {i : Int} (d : decode cc pc = .ok (.sipush i, 3)) (hi : (Int16.ofInt i).toInt32 = fI i) (k : fv z G nL Q kc ks σ (pc + 3) lv (.int (fI i) :: st)) : fv z G nL Q kc ks σ pc lv st :=
  fun H locs ls hP hS hl => lv_sipush C.1 C.2.1 d hi (k H locs ls hP hS hl)
theorem v_iload_n (C : fc z G cc nL own) {k : Fin 4} {i : Nat} {x : Int32} (d : decode cc pc = .ok (.iload_n k, 1)) (hi : (k : Nat) = i) (hx : lv[i]? = some (some (.int x))) (kk : fv z G nL Q kc ks σ (pc + 1) lv (.int x :: st)) : fv z G nL Q kc ks σ pc lv st :=
  fun H locs ls hP hS hl => lv_iload_n C.1 C.2.1 d hi (hl.2.2.1 i _ hx) (kk H locs ls hP hS hl)
theorem v_iload (C : fc z G cc nL own) {i : Nat} {x : Int32} (d : decode cc pc = .ok (.iload i, 2)) (hx : lv[i]? = some (some (.int x))) (kk : fv z G nL Q kc ks σ (pc + 2) lv (.int x :: st)) : fv z G nL Q kc ks σ pc lv st :=
  fun H locs ls hP hS hl => lv_iload C.1 C.2.1 d (hl.2.2.1 i _ hx) (kk H locs ls hP hS hl)
theorem v_aload_n (C : fc z G cc nL own) {k : Fin 4} {i : Nat} {x : Nat} (d : decode cc pc = .ok (.aload_n k, 1)) (hi : (k : Nat) = i) (hx : lv[i]? = some (some (.ref x))) (kk : fv z G nL Q kc ks σ (pc + 1) lv (.ref x :: st)) : fv z G nL Q kc ks σ pc lv st :=
  fun H locs ls hP hS hl => lv_aload_n C.1 C.2.1 d hi (hl.2.2.1 i _ hx) (kk H locs ls hP hS hl)
theorem v_aload (C : fc z G cc nL own) {i : Nat} {x : Nat} (d : decode cc pc = .ok (.aload i, 2)) (hx : lv[i]? = some (some (.ref x))) (kk : fv z G nL Q kc ks σ (pc + 2) lv (.ref x :: st)) : fv z G nL Q kc ks σ pc lv st :=
  fun H locs ls hP hS hl => lv_aload C.1 C.2.1 d (hl.2.2.1 i _ hx) (kk H locs ls hP hS hl)
theorem v_istore_n (C : fc z G cc nL own) {k : Fin 4} {i : Nat} {x : Int32} (d : decode cc pc = .ok (.istore_n k, 1)) (hi : (k : Nat) = i) (hn : i < nL) (kk : fv z G nL Q kc ks σ (pc + 1) (lv.set i (some (.int x))) st) : fv z G nL Q kc ks σ pc lv (.int x :: st) :=
  fun H locs ls hP hS hl => lv_istore_n C.1 C.2.1 d hi hl.lv hn rfl (fun ls' h' => kk H locs ls' hP hS (hl.put rfl h'))
theorem v_istore (C : fc z G cc nL own) {i : Nat} {x : Int32} (d : decode cc pc = .ok (.istore i, 2)) (hn : i < nL) (kk : fv z G nL Q kc ks σ (pc + 2) (lv.set i (some (.int x))) st) : fv z G nL Q kc ks σ pc lv (.int x :: st) :=
  fun H locs ls hP hS hl => lv_istore C.1 C.2.1 d hl.lv hn rfl (fun ls' h' => kk H locs ls' hP hS (hl.put rfl h'))
theorem v_astore_n (C : fc z G cc nL own) {k : Fin 4} {i : Nat} {x : Nat} (d : decode cc pc = .ok (.astore_n k, 1)) (hi : (k : Nat) = i) (hn : i < nL) (kk : fv z G nL Q kc ks σ (pc + 1) (lv.set i (some (.ref x))) st) : fv z G nL Q kc ks σ pc lv (.ref x :: st) :=
  fun H locs ls hP hS hl => lv_astore_n C.1 C.2.1 d hi hl.lv hn rfl (fun ls' h' => kk H locs ls' hP hS (hl.put rfl h'))
theorem v_astore (C : fc z G cc nL own) {i : Nat} {x : Nat} (d : decode cc pc = .ok (.astore i, 2)) (hn : i < nL) (kk : fv z G nL Q kc ks σ (pc + 2) (lv.set i (some (.ref x))) st) : fv z G nL Q kc ks σ pc lv (.ref x :: st) :=
  fun H locs ls hP hS hl => lv_astore C.1 C.2.1 d hl.lv hn rfl (fun ls' h' => kk H locs ls' hP hS (hl.put rfl h'))
theorem v_iinc (C : fc z G cc nL own) {i : Nat} {n a : Int} (d : decode cc pc = .ok (.iinc i n, 3)) (hx : lv[i]? = some (some (.int (fI a)))) (hn : i < nL) (kk : fv z G nL Q kc ks σ (pc + 3) (lv.set i (some (.int (fI (a + n))))) st) : fv z G nL Q kc ks σ pc lv st :=
  fun H locs ls hP hS hl => by
    obtain ⟨q, hq⟩ := List.getElem?_of_mem (f_lv_mem.mpr hx)
    exact lv_iinc C.1 C.2.1 d hl.lv hq (fI_add a n) hn rfl (fun ls' h' => kk H locs ls' hP hS (hl.put rfl h'))
theorem v_iadd (C : fc z G cc nL own) {a b : Int} (d : decode cc pc = .ok (.iadd, 1)) (kk : fv z G nL Q kc ks σ (pc + 1) lv (.int (fI (a + b)) :: st)) : fv z G nL Q kc ks σ pc lv (.int (fI b) :: .int (fI a) :: st) :=
  fun H locs ls hP hS hl => lv_iadd C.1 C.2.1 d (by rw [fI_add]; exact kk H locs ls hP hS hl)
theorem v_isub (C : fc z G cc nL own) {a b : Int} (d : decode cc pc = .ok (.isub, 1)) (kk : fv z G nL Q kc ks σ (pc + 1) lv (.int (fI (a - b)) :: st)) : fv z G nL Q kc ks σ pc lv (.int (fI b) :: .int (fI a) :: st) :=
  fun H locs ls hP hS hl => lv_isub C.1 C.2.1 d (by rw [fI_sub]; exact kk H locs ls hP hS hl)
theorem v_imul (C : fc z G cc nL own) {a b : Int} (d : decode cc pc = .ok (.imul, 1)) (kk : fv z G nL Q kc ks σ (pc + 1) lv (.int (fI (a * b)) :: st)) : fv z G nL Q kc ks σ pc lv (.int (fI b) :: .int (fI a) :: st) :=
  fun H locs ls hP hS hl => lv_imul C.1 C.2.1 d (by rw [fI_mul]; exact kk H locs ls hP hS hl)
theorem fI_ne0 {b : Int} (hb : 0 < b ∧ b ≤ 2147483647) : ¬ fI b = 0 := by
  intro h
  have h2 := congrArg Int32.toInt h
  rw [fI_toInt (by omega) (by omega), Int32.toInt_zero] at h2
  omega
theorem v_idiv (C : fc z G cc nL own) {a b : Int} (d : decode cc pc = .ok (.idiv, 1)) (ha : 0 ≤ a ∧ a ≤ 2147483647) (hb : 0 < b ∧ b ≤ 2147483647) (kk : fv z G nL Q kc ks σ (pc + 1) lv (.int (fI (a / b)) :: st)) : fv z G nL Q kc ks σ pc lv (.int (fI b) :: .int (fI a) :: st) :=
  fun H locs ls hP hS hl => lv_idiv C.1 C.2.1 d (fI_ne0 hb) (by rw [fI_div ha hb]; exact kk H locs ls hP hS hl)
theorem v_irem (C : fc z G cc nL own) {a b : Int} (d : decode cc pc = .ok (.irem, 1)) (ha : 0 ≤ a ∧ a ≤ 2147483647) (hb : 0 < b ∧ b ≤ 2147483647) (kk : fv z G nL Q kc ks σ (pc + 1) lv (.int (fI (a % b)) :: st)) : fv z G nL Q kc ks σ pc lv (.int (fI b) :: .int (fI a) :: st) :=
  fun H locs ls hP hS hl => lv_irem C.1 C.2.1 d (fI_ne0 hb) (by rw [fI_rem ha hb]; exact kk H locs ls hP hS hl)
theorem v_i2b (C : fc z G cc nL own) {a : Int} (d : decode cc pc = .ok (.i2b, 1)) (kk : fv z G nL Q kc ks σ (pc + 1) lv (.int (fI (a.bmod 256)) :: st)) : fv z G nL Q kc ks σ pc lv (.int (fI a) :: st) :=
  fun H locs ls hP hS hl => lv_i2b C.1 C.2.1 d (fI_b a) (kk H locs ls hP hS hl)
theorem v_i2bi (C : fc z G cc nL own) {a : Int} (d : decode cc pc = .ok (.i2b, 1)) (ha : -128 ≤ a ∧ a ≤ 127) (kk : fv z G nL Q kc ks σ (pc + 1) lv (.int (fI a) :: st)) : fv z G nL Q kc ks σ pc lv (.int (fI a) :: st) :=
  fun H locs ls hP hS hl => lv_i2b C.1 C.2.1 d (fI_bi ha.1 ha.2) (kk H locs ls hP hS hl)
theorem v_dup (C : fc z G cc nL own) {x : Value} (d : decode cc pc = .ok (.dup, 1)) (hx : x.category = 1) (kk : fv z G nL Q kc ks σ (pc + 1) lv (x :: x :: st)) : fv z G nL Q kc ks σ pc lv (x :: st) :=
  fun H locs ls hP hS hl => lv_dup C.1 C.2.1 d hx (kk H locs ls hP hS hl)
theorem v_pop (C : fc z G cc nL own) {x : Value} (d : decode cc pc = .ok (.pop, 1)) (hx : x.category = 1) (kk : fv z G nL Q kc ks σ (pc + 1) lv st) : fv z G nL Q kc ks σ pc lv (x :: st) :=
  fun H locs ls hP hS hl => lv_pop C.1 C.2.1 d hx (kk H locs ls hP hS hl)
theorem v_goto (C : fc z G cc nL own) {off : Int} {tgt : Nat} (d : decode cc pc = .ok (.goto off, 3)) (ht : (pc : Int) + off = (tgt : Int)) (kk : fv z G nL Q kc ks σ tgt lv st) : fv z G nL Q kc ks σ pc lv st :=
  fun H locs ls hP hS hl => lv_goto C.1 C.2.1 d ht (kk H locs ls hP hS hl)
theorem v_icmp_eq (C : fc z G cc nL own) {a b off : Int} {tgt : Nat} (d : decode cc pc = .ok (.if_icmp .eq off, 3)) (ht : (pc : Int) + off = (tgt : Int)) (ha : -2147483648 ≤ a ∧ a ≤ 2147483647) (hb : -2147483648 ≤ b ∧ b ≤ 2147483647) (kt : a = b → fv z G nL Q kc ks σ tgt lv st) (kf : ¬ a = b → fv z G nL Q kc ks σ (pc + 3) lv st) : fv z G nL Q kc ks σ pc lv (.int (fI b) :: .int (fI a) :: st) :=
  fun H locs ls hP hS hl => lv_icmp_eq C.1 C.2.1 d ht (fun h => kt ((fI_eq ha hb).mp h) H locs ls hP hS hl) (fun h => kf (fun q => h ((fI_eq ha hb).mpr q)) H locs ls hP hS hl)
theorem v_if_eq (C : fc z G cc nL own) {a off : Int} {tgt : Nat} (d : decode cc pc = .ok (.ifCond .eq off, 3)) (ht : (pc : Int) + off = (tgt : Int)) (ha : -2147483648 ≤ a ∧ a ≤ 2147483647) (kt : a = 0 → fv z G nL Q kc ks σ tgt lv st) (kf : ¬ a = 0 → fv z G nL Q kc ks σ (pc + 3) lv st) : fv z G nL Q kc ks σ pc lv (.int (fI a) :: st) :=
  fun H locs ls hP hS hl => lv_if_eq C.1 C.2.1 d ht (fun h => kt ((fI_eq ha (by decide : -2147483648 ≤ (0 : Int) ∧ (0 : Int) ≤ 2147483647)).mp (by rw [fI_0]; exact h)) H locs ls hP hS hl) (fun h => kf (fun q => h (by have h9 := (fI_eq ha (by decide : -2147483648 ≤ (0 : Int) ∧ (0 : Int) ≤ 2147483647)).mpr q; rw [fI_0] at h9; exact h9)) H locs ls hP hS hl)
theorem v_icmp_ne (C : fc z G cc nL own) {a b off : Int} {tgt : Nat} (d : decode cc pc = .ok (.if_icmp .ne off, 3)) (ht : (pc : Int) + off = (tgt : Int)) (ha : -2147483648 ≤ a ∧ a ≤ 2147483647) (hb : -2147483648 ≤ b ∧ b ≤ 2147483647) (kt : ¬ a = b → fv z G nL Q kc ks σ tgt lv st) (kf : a = b → fv z G nL Q kc ks σ (pc + 3) lv st) : fv z G nL Q kc ks σ pc lv (.int (fI b) :: .int (fI a) :: st) :=
  fun H locs ls hP hS hl => lv_icmp_ne C.1 C.2.1 d ht (fun h => kt (fun q => h ((fI_eq ha hb).mpr q)) H locs ls hP hS hl) (fun h => kf ((fI_eq ha hb).mp h) H locs ls hP hS hl)
theorem v_if_ne (C : fc z G cc nL own) {a off : Int} {tgt : Nat} (d : decode cc pc = .ok (.ifCond .ne off, 3)) (ht : (pc : Int) + off = (tgt : Int)) (ha : -2147483648 ≤ a ∧ a ≤ 2147483647) (kt : ¬ a = 0 → fv z G nL Q kc ks σ tgt lv st) (kf : a = 0 → fv z G nL Q kc ks σ (pc + 3) lv st) : fv z G nL Q kc ks σ pc lv (.int (fI a) :: st) :=
  fun H locs ls hP hS hl => lv_if_ne C.1 C.2.1 d ht (fun h => kt (fun q => h (by rw [q]; exact fI_0)) H locs ls hP hS hl) (fun h => kf ((fI_eq ha (by decide)).mp (by rw [fI_0]; exact h)) H locs ls hP hS hl)
theorem v_icmp_lt (C : fc z G cc nL own) {a b off : Int} {tgt : Nat} (d : decode cc pc = .ok (.if_icmp .lt off, 3)) (ht : (pc : Int) + off = (tgt : Int)) (ha : -2147483648 ≤ a ∧ a ≤ 2147483647) (hb : -2147483648 ≤ b ∧ b ≤ 2147483647) (kt : a < b → fv z G nL Q kc ks σ tgt lv st) (kf : ¬ a < b → fv z G nL Q kc ks σ (pc + 3) lv st) : fv z G nL Q kc ks σ pc lv (.int (fI b) :: .int (fI a) :: st) :=
  fun H locs ls hP hS hl => lv_icmp_lt C.1 C.2.1 d ht (fun h => kt ((fI_lt ha hb).mp h) H locs ls hP hS hl) (fun h => kf (fun q => h ((fI_lt ha hb).mpr q)) H locs ls hP hS hl)
theorem v_if_lt (C : fc z G cc nL own) {a off : Int} {tgt : Nat} (d : decode cc pc = .ok (.ifCond .lt off, 3)) (ht : (pc : Int) + off = (tgt : Int)) (ha : -2147483648 ≤ a ∧ a ≤ 2147483647) (kt : a < 0 → fv z G nL Q kc ks σ tgt lv st) (kf : ¬ a < 0 → fv z G nL Q kc ks σ (pc + 3) lv st) : fv z G nL Q kc ks σ pc lv (.int (fI a) :: st) :=
  fun H locs ls hP hS hl => lv_if_lt C.1 C.2.1 d ht (fun h => kt ((fI_lt ha (by decide : -2147483648 ≤ (0 : Int) ∧ (0 : Int) ≤ 2147483647)).mp (by rw [fI_0]; exact h)) H locs ls hP hS hl) (fun h => kf (fun q => h (by have h9 := (fI_lt ha (by decide : -2147483648 ≤ (0 : Int) ∧ (0 : Int) ≤ 2147483647)).mpr q; rw [fI_0] at h9; exact h9)) H locs ls hP hS hl)
theorem v_icmp_ge (C : fc z G cc nL own) {a b off : Int} {tgt : Nat} (d : decode cc pc = .ok (.if_icmp .ge off, 3)) (ht : (pc : Int) + off = (tgt : Int)) (ha : -2147483648 ≤ a ∧ a ≤ 2147483647) (hb : -2147483648 ≤ b ∧ b ≤ 2147483647) (kt : b ≤ a → fv z G nL Q kc ks σ tgt lv st) (kf : ¬ b ≤ a → fv z G nL Q kc ks σ (pc + 3) lv st) : fv z G nL Q kc ks σ pc lv (.int (fI b) :: .int (fI a) :: st) :=
  fun H locs ls hP hS hl => lv_icmp_ge C.1 C.2.1 d ht (fun h => kt ((fI_le hb ha).mp h) H locs ls hP hS hl) (fun h => kf (fun q => h ((fI_le hb ha).mpr q)) H locs ls hP hS hl)
theorem v_if_ge (C : fc z G cc nL own) {a off : Int} {tgt : Nat} (d : decode cc pc = .ok (.ifCond .ge off, 3)) (ht : (pc : Int) + off = (tgt : Int)) (ha : -2147483648 ≤ a ∧ a ≤ 2147483647) (kt : 0 ≤ a → fv z G nL Q kc ks σ tgt lv st) (kf : ¬ 0 ≤ a → fv z G nL Q kc ks σ (pc + 3) lv st) : fv z G nL Q kc ks σ pc lv (.int (fI a) :: st) :=
  fun H locs ls hP hS hl => lv_if_ge C.1 C.2.1 d ht (fun h => kt ((fI_le (by decide : -2147483648 ≤ (0 : Int) ∧ (0 : Int) ≤ 2147483647) ha).mp (by rw [fI_0]; exact h)) H locs ls hP hS hl) (fun h => kf (fun q => h (by have h9 := (fI_le (by decide : -2147483648 ≤ (0 : Int) ∧ (0 : Int) ≤ 2147483647) ha).mpr q; rw [fI_0] at h9; exact h9)) H locs ls hP hS hl)
theorem v_icmp_gt (C : fc z G cc nL own) {a b off : Int} {tgt : Nat} (d : decode cc pc = .ok (.if_icmp .gt off, 3)) (ht : (pc : Int) + off = (tgt : Int)) (ha : -2147483648 ≤ a ∧ a ≤ 2147483647) (hb : -2147483648 ≤ b ∧ b ≤ 2147483647) (kt : b < a → fv z G nL Q kc ks σ tgt lv st) (kf : ¬ b < a → fv z G nL Q kc ks σ (pc + 3) lv st) : fv z G nL Q kc ks σ pc lv (.int (fI b) :: .int (fI a) :: st) :=
  fun H locs ls hP hS hl => lv_icmp_gt C.1 C.2.1 d ht (fun h => kt ((fI_lt hb ha).mp h) H locs ls hP hS hl) (fun h => kf (fun q => h ((fI_lt hb ha).mpr q)) H locs ls hP hS hl)
theorem v_if_gt (C : fc z G cc nL own) {a off : Int} {tgt : Nat} (d : decode cc pc = .ok (.ifCond .gt off, 3)) (ht : (pc : Int) + off = (tgt : Int)) (ha : -2147483648 ≤ a ∧ a ≤ 2147483647) (kt : 0 < a → fv z G nL Q kc ks σ tgt lv st) (kf : ¬ 0 < a → fv z G nL Q kc ks σ (pc + 3) lv st) : fv z G nL Q kc ks σ pc lv (.int (fI a) :: st) :=
  fun H locs ls hP hS hl => lv_if_gt C.1 C.2.1 d ht (fun h => kt ((fI_lt (by decide : -2147483648 ≤ (0 : Int) ∧ (0 : Int) ≤ 2147483647) ha).mp (by rw [fI_0]; exact h)) H locs ls hP hS hl) (fun h => kf (fun q => h (by have h9 := (fI_lt (by decide : -2147483648 ≤ (0 : Int) ∧ (0 : Int) ≤ 2147483647) ha).mpr q; rw [fI_0] at h9; exact h9)) H locs ls hP hS hl)
theorem v_icmp_le (C : fc z G cc nL own) {a b off : Int} {tgt : Nat} (d : decode cc pc = .ok (.if_icmp .le off, 3)) (ht : (pc : Int) + off = (tgt : Int)) (ha : -2147483648 ≤ a ∧ a ≤ 2147483647) (hb : -2147483648 ≤ b ∧ b ≤ 2147483647) (kt : a ≤ b → fv z G nL Q kc ks σ tgt lv st) (kf : ¬ a ≤ b → fv z G nL Q kc ks σ (pc + 3) lv st) : fv z G nL Q kc ks σ pc lv (.int (fI b) :: .int (fI a) :: st) :=
  fun H locs ls hP hS hl => lv_icmp_le C.1 C.2.1 d ht (fun h => kt ((fI_le ha hb).mp h) H locs ls hP hS hl) (fun h => kf (fun q => h ((fI_le ha hb).mpr q)) H locs ls hP hS hl)
theorem v_if_le (C : fc z G cc nL own) {a off : Int} {tgt : Nat} (d : decode cc pc = .ok (.ifCond .le off, 3)) (ht : (pc : Int) + off = (tgt : Int)) (ha : -2147483648 ≤ a ∧ a ≤ 2147483647) (kt : a ≤ 0 → fv z G nL Q kc ks σ tgt lv st) (kf : ¬ a ≤ 0 → fv z G nL Q kc ks σ (pc + 3) lv st) : fv z G nL Q kc ks σ pc lv (.int (fI a) :: st) :=
  fun H locs ls hP hS hl => lv_if_le C.1 C.2.1 d ht (fun h => kt ((fI_le ha (by decide : -2147483648 ≤ (0 : Int) ∧ (0 : Int) ≤ 2147483647)).mp (by rw [fI_0]; exact h)) H locs ls hP hS hl) (fun h => kf (fun q => h (by have h9 := (fI_le ha (by decide : -2147483648 ≤ (0 : Int) ∧ (0 : Int) ≤ 2147483647)).mpr q; rw [fI_0] at h9; exact h9)) H locs ls hP hS hl)
-- ===== fields and arrays =====
theorem f_at1 {G : fG} {k ci n : Nat} {fs : Nat → Nat ⊕ Bool} {σ : fS} (hN : k < G.2.2.2.2.2.2) (hY : G.2.2.2.2.2.1 k = .inl (ci, n, fs)) : (f_w G.2.2.2.1 G.2.2.2.2.1 G.2.2.2.2.2.1 G.2.2.2.2.2.2 σ)[k]? = some (G.2.2.2.1 k, .inr (ci, (List.range n).map (fun q => f_fld G.2.2.2.1 (σ.1 k) q (fs q)))) := by
  rw [f_w_get hN, hY]
  rfl
theorem f_at2 {G : fG} {k t n : Nat} {σ : fS} (hN : k < G.2.2.2.2.2.2) (hY : G.2.2.2.2.2.1 k = .inr (.inl (t, n))) : (f_w G.2.2.2.1 G.2.2.2.2.1 G.2.2.2.2.2.1 G.2.2.2.2.2.2 σ)[k]? = some (G.2.2.2.1 k, .inl (G.2.2.2.2.1 t, n, .inl (fun q => fI (σ.2 k q)))) := by
  rw [f_w_get hN, hY]
  rfl
theorem f_at3 {G : fG} {k t n : Nat} {g : Nat → Nat} {σ : fS} (hN : k < G.2.2.2.2.2.2) (hY : G.2.2.2.2.2.1 k = .inr (.inr (t, n, g))) : (f_w G.2.2.2.1 G.2.2.2.2.1 G.2.2.2.2.2.1 G.2.2.2.2.2.2 σ)[k]? = some (G.2.2.2.1 k, .inl (G.2.2.2.2.1 t, n, .inr (.inr (.inr (.inr (fun q => some (G.2.2.2.1 (g q)))))))) := by
  rw [f_w_get hN, hY]
  rfl
theorem v_getI (C : fc z G cc nL own) {k q ci n index : Nat} {fs : Nat → Nat ⊕ Bool} {CN ref : String} {T : u_T} (d : decode cc pc = .ok (.getfield index, 3)) (hN : k < G.2.2.2.2.2.2) (hY : G.2.2.2.2.2.1 k = .inl (ci, n, fs)) (hf : fs q = .inr true) (hq : q < n) (hc : G.2.1[ci]? = some (CN, T, n)) (hin : ∀ w ∈ u_ws CN T n, w ∈ A9) (hlink : Cond.fieldLink own index ref (T q).2.1 (T q).2.2.1 ∈ A9) (href : (T q).1 = ref)
    {v : Int} (hv : σ.1 k q = v) (kk : fv z G nL Q kc ks σ (pc + 3) lv (.int (fI v) :: st)) : fv z G nL Q kc ks σ pc lv (.ref (G.2.2.2.1 k) :: st) :=
  fun H locs ls hP hS hl => va_get (ci := ci) (v := .int (fI v)) C.1 C.2.1 C.2.2.2.2.1 hin C.2.2.2.1 C.2.2.2.2.2.1 hP k (f_at1 hN hY) hc q hq (C.2.2.2.2.1 _ hlink) (by rw [href]; exact fun _ h => h) (by simp [hq, f_fld, hf, hv]) d (kk H locs ls hP hS hl)
theorem v_getR (C : fc z G cc nL own) {k q j ci n index : Nat} {fs : Nat → Nat ⊕ Bool} {CN ref : String} {T : u_T} (d : decode cc pc = .ok (.getfield index, 3)) (hN : k < G.2.2.2.2.2.2) (hY : G.2.2.2.2.2.1 k = .inl (ci, n, fs)) (hf : fs q = .inl j) (hq : q < n) (hc : G.2.1[ci]? = some (CN, T, n)) (hin : ∀ w ∈ u_ws CN T n, w ∈ A9) (hlink : Cond.fieldLink own index ref (T q).2.1 (T q).2.2.1 ∈ A9) (href : (T q).1 = ref)
    (kk : fv z G nL Q kc ks σ (pc + 3) lv (.ref (G.2.2.2.1 j) :: st)) : fv z G nL Q kc ks σ pc lv (.ref (G.2.2.2.1 k) :: st) :=
  fun H locs ls hP hS hl => va_get (ci := ci) (v := .ref (G.2.2.2.1 j)) C.1 C.2.1 C.2.2.2.2.1 hin C.2.2.2.1 C.2.2.2.2.2.1 hP k (f_at1 hN hY) hc q hq (C.2.2.2.2.1 _ hlink) (by rw [href]; exact fun _ h => h) (by simp [hq, f_fld, hf]) d (kk H locs ls hP hS hl)
theorem v_putI (C : fc z G cc nL own) {k q ci n index : Nat} {v : Int} {fs : Nat → Nat ⊕ Bool} {CN ref : String} {T : u_T} {ty0 : Nat → FieldType} {ty : FieldType} (d : decode cc pc = .ok (.putfield index, 3)) (hN : k < G.2.2.2.2.2.2) (hY : G.2.2.2.2.2.1 k = .inl (ci, n, fs)) (hf : fs q = .inr true) (hq : q < n) (hc : G.2.1[ci]? = some (CN, T, n)) (hin : ∀ w ∈ u_ws CN T n, w ∈ A9) (hty : ∀ k, k < n → parseFieldDescriptor (T k).2.2.1 = some (ty0 k)) (hnm : ∀ a, a < n → ∀ b, b < n → a ≠ b → (T a).2.1 ≠ (T b).2.1) (hlink : Cond.fieldLink own index ref (T q).2.1 (T q).2.2.1 ∈ A9) (href : (T q).1 = ref) (hfin : (T q).2.2.2 = false) (hd : ty0 q = ty) (hn : narrow ty (.int (fI v)) = .int (fI v)) (hfit : fits ty (.int (fI v)) = true)
    (kk : fv z G nL Q kc ks (f_p1 σ k q v) (pc + 3) lv st) : fv z G nL Q kc ks σ pc lv (.int (fI v) :: .ref (G.2.2.2.1 k) :: st) :=
  fun H locs ls hP hS hl => va_put (ci := ci) (v := .int (fI v)) (ty := ty) C.1 C.2.1 C.2.2.2.2.1 hin ty0 hty hnm C.2.2.2.1 C.2.2.2.2.2.1 hP (f_D C.2.2.2.2.2.2) hS k (f_at1 hN hY) hc q hq (C.2.2.2.2.1 _ hlink) (by rw [href]; exact fun _ h => h) hfin (by rw [← hd]; exact hty q hq) hn hfit (by simpa using hq) d
    (fun H1 locs1 hP1 _ hS1 => kk H1 locs1 ls (by rw [f_set1 hY hf] at hP1; exact hP1) hS1 hl)
theorem v_iald (C : fc z G cc nL own) {k t n : Nat} {i : Int} (d : decode cc pc = .ok (.iaload, 1)) (hN : k < G.2.2.2.2.2.2) (hY : G.2.2.2.2.2.1 k = .inr (.inl (t, n))) (ht : G.2.2.1[t]? = some (G.2.2.2.2.1 t, .int)) (hi : 0 ≤ i ∧ i < n) (hn : n ≤ 2147483647)
    {v : Int} (hv : σ.2 k i.toNat = v) (kk : fv z G nL Q kc ks σ (pc + 1) lv (.int (fI v) :: st)) : fv z G nL Q kc ks σ pc lv (.int (fI i) :: .ref (G.2.2.2.1 k) :: st) :=
  fun H locs ls hP hS hl => va_iald C.1 C.2.1 C.2.2.2.2.2.1 hP k t (f_at2 hN hY) ht (fI_in hi.1 hi.2 hn) d (by rw [fI_clamp hi.1 (by omega)]; first | (rw [hv]; exact kk H locs ls hP hS hl) | exact kk H locs ls hP hS hl)
theorem v_bald (C : fc z G cc nL own) {k t n : Nat} {i : Int} (d : decode cc pc = .ok (.baload, 1)) (hN : k < G.2.2.2.2.2.2) (hY : G.2.2.2.2.2.1 k = .inr (.inl (t, n))) (ht : G.2.2.1[t]? = some (G.2.2.2.2.1 t, .byte)) (hi : 0 ≤ i ∧ i < n) (hn : n ≤ 2147483647)
    {v : Int} (hv : σ.2 k i.toNat = v) (kk : fv z G nL Q kc ks σ (pc + 1) lv (.int (fI v) :: st)) : fv z G nL Q kc ks σ pc lv (.int (fI i) :: .ref (G.2.2.2.1 k) :: st) :=
  fun H locs ls hP hS hl => va_bald C.1 C.2.1 C.2.2.2.2.2.1 hP k t (f_at2 hN hY) ht (fI_in hi.1 hi.2 hn) d (by rw [fI_clamp hi.1 (by omega)]; first | (rw [hv]; exact kk H locs ls hP hS hl) | exact kk H locs ls hP hS hl)
theorem v_zald (C : fc z G cc nL own) {k t n : Nat} {i : Int} (d : decode cc pc = .ok (.baload, 1)) (hN : k < G.2.2.2.2.2.2) (hY : G.2.2.2.2.2.1 k = .inr (.inl (t, n))) (ht : G.2.2.1[t]? = some (G.2.2.2.2.1 t, .boolean)) (hi : 0 ≤ i ∧ i < n) (hn : n ≤ 2147483647)
    {v : Int} (hv : σ.2 k i.toNat = v) (kk : fv z G nL Q kc ks σ (pc + 1) lv (.int (fI v) :: st)) : fv z G nL Q kc ks σ pc lv (.int (fI i) :: .ref (G.2.2.2.1 k) :: st) :=
  fun H locs ls hP hS hl => va_zald C.1 C.2.1 C.2.2.2.2.2.1 hP k t (f_at2 hN hY) ht (fI_in hi.1 hi.2 hn) d (by rw [fI_clamp hi.1 (by omega)]; first | (rw [hv]; exact kk H locs ls hP hS hl) | exact kk H locs ls hP hS hl)
theorem v_aald (C : fc z G cc nL own) {k t n : Nat} {g : Nat → Nat} {i : Int} {CN : String} (d : decode cc pc = .ok (.aaload, 1)) (hN : k < G.2.2.2.2.2.2) (hY : G.2.2.2.2.2.1 k = .inr (.inr (t, n, g))) (ht : G.2.2.1[t]? = some (G.2.2.2.2.1 t, .object CN)) (hi : 0 ≤ i ∧ i < n) (hn : n ≤ 2147483647)
    (kk : fv z G nL Q kc ks σ (pc + 1) lv (.ref (G.2.2.2.1 (g i.toNat)) :: st)) : fv z G nL Q kc ks σ pc lv (.int (fI i) :: .ref (G.2.2.2.1 k) :: st) :=
  fun H locs ls hP hS hl => va_aldq C.1 C.2.1 C.2.2.2.2.2.1 hP k t (f_at3 hN hY) ht (fI_in hi.1 hi.2 hn) d (by rw [fI_clamp hi.1 (by omega)]; first | (rw [hv]; exact kk H locs ls hP hS hl) | exact kk H locs ls hP hS hl)
theorem f_updI (σ : fS) (k : Nat) (i v : Int) (q : Nat) : upd (fun q => fI (σ.2 k q)) i.toNat (fI v) q = fI (va_up (σ.2 k) i.toNat v q) := by
  unfold upd va_up
  by_cases h : q = i.toNat
  · simp [h]
  · simp [h]
theorem v_iast (C : fc z G cc nL own) {k t n : Nat} {i v : Int} (d : decode cc pc = .ok (.iastore, 1)) (hN : k < G.2.2.2.2.2.2) (hY : G.2.2.2.2.2.1 k = .inr (.inl (t, n))) (ht : G.2.2.1[t]? = some (G.2.2.2.2.1 t, .int)) (hi : 0 ≤ i ∧ i < n) (hn : n ≤ 2147483647)
    (kk : fv z G nL Q kc ks (f_p2 σ k i.toNat v) (pc + 1) lv st) : fv z G nL Q kc ks σ pc lv (.int (fI v) :: .int (fI i) :: .ref (G.2.2.2.1 k) :: st) :=
  fun H locs ls hP hS hl => va_iast C.1 C.2.1 C.2.2.2.2.2.1 hP (f_D C.2.2.2.2.2.2) hS k t (f_at2 hN hY) ht (fI_in hi.1 hi.2 hn) d (fun H1 locs1 hP1 _ hS1 => kk H1 locs1 ls (by
    rw [fI_clamp hi.1 (by omega), f_set2 hY (f_updI σ k i v), f_pa_p2] at hP1; exact hP1) hS1 hl)
theorem v_bast (C : fc z G cc nL own) {k t n : Nat} {i v : Int} (d : decode cc pc = .ok (.bastore, 1)) (hN : k < G.2.2.2.2.2.2) (hY : G.2.2.2.2.2.1 k = .inr (.inl (t, n))) (ht : G.2.2.1[t]? = some (G.2.2.2.2.1 t, .byte)) (hi : 0 ≤ i ∧ i < n) (hn : n ≤ 2147483647) (hv : -128 ≤ v ∧ v ≤ 127)
    (kk : fv z G nL Q kc ks (f_p2 σ k i.toNat v) (pc + 1) lv st) : fv z G nL Q kc ks σ pc lv (.int (fI v) :: .int (fI i) :: .ref (G.2.2.2.1 k) :: st) :=
  fun H locs ls hP hS hl => va_bast C.1 C.2.1 C.2.2.2.2.2.1 hP (f_D C.2.2.2.2.2.2) hS k t (f_at2 hN hY) ht (fI_in hi.1 hi.2 hn) d (fun H1 locs1 hP1 _ hS1 => kk H1 locs1 ls (by
    rw [fI_clamp hi.1 (by omega), vp_nar_byte, fI_bi hv.1 hv.2, f_set2 hY (f_updI σ k i v), f_pa_p2] at hP1; exact hP1) hS1 hl)
theorem v_zast (C : fc z G cc nL own) {k t n : Nat} {i v : Int} (d : decode cc pc = .ok (.bastore, 1)) (hN : k < G.2.2.2.2.2.2) (hY : G.2.2.2.2.2.1 k = .inr (.inl (t, n))) (ht : G.2.2.1[t]? = some (G.2.2.2.2.1 t, .boolean)) (hi : 0 ≤ i ∧ i < n) (hn : n ≤ 2147483647) (hv : v = 0 ∨ v = 1)
    (kk : fv z G nL Q kc ks (f_p2 σ k i.toNat v) (pc + 1) lv st) : fv z G nL Q kc ks σ pc lv (.int (fI v) :: .int (fI i) :: .ref (G.2.2.2.1 k) :: st) :=
  fun H locs ls hP hS hl => va_zast C.1 C.2.1 C.2.2.2.2.2.1 hP (f_D C.2.2.2.2.2.2) hS k t (f_at2 hN hY) ht (fI_in hi.1 hi.2 hn) d (fun H1 locs1 hP1 _ hS1 => kk H1 locs1 ls (by
    rw [fI_clamp hi.1 (by omega), fI_z01 hv, f_set2 hY (f_updI σ k i v), f_pa_p2] at hP1; exact hP1) hS1 hl)
theorem v_alen (C : fc z G cc nL own) {k t n : Nat} {ty : FieldType} (d : decode cc pc = .ok (.arraylength, 1)) (hN : k < G.2.2.2.2.2.2) (hY : G.2.2.2.2.2.1 k = .inr (.inl (t, n))) (ht : G.2.2.1[t]? = some (G.2.2.2.2.1 t, ty))
    (kk : fv z G nL Q kc ks σ (pc + 1) lv (.int (fI (n : Int)) :: st)) : fv z G nL Q kc ks σ pc lv (.ref (G.2.2.2.1 k) :: st) :=
  fun H locs ls hP hS hl => va_alen C.1 C.2.1 C.2.2.2.2.2.1 hP k t (f_at2 hN hY) ht (fI_nat n) d (kk H locs ls hP hS hl)
end FV
-- ===== contracts and calls =====
/-- the room of a method over d levels of calls -/
def f_rm (d : Nat) : Room := { frames := d, cells := 0, slots := 0, locals := 40 * d }
/-- what a method finds: the world, the tables, and E (what else stands fast) -/
def f_Pc (G : fG) (E : Nat → State → Prop) (sz : Nat) (σ : fS) (av : List Value) : Array Value → State → Prop := va_Pc av (fun U => U.heap.size = sz ∧ f_W G σ U.heap ∧ va_K G.1 G.2.1 G.2.2.1 U ∧ E sz U)
/-- E holds on, from a method's start s to a call at the heap H -/
def f_E (G : fG) (E : Nat → State → Prop) : Prop := (∀ (s U : State) (locs : List Loc), E s.heap.size s → va_S (f_A G s.heap.size) s.heap U.heap locs → s.WarmedH U.vm → E U.heap.size U) ∧ ∀ (sz : Nat) (a : Array Value) (U : State) (g : JFrame) (mk : MethodId), E sz U → E sz (U.calling g mk a)
/-- the ends of a method: an int and a state, a state -/
def f_QI (post : Int → fS → Prop) (G : fG) (sz : Nat) : Array Value → State → Outcome → State → Prop := va_Qi (fun r (u : Int × fS) => r = fI u.1 ∧ post u.1 u.2) (fun u t => f_W G u.2 t.heap) (f_A G sz)
def f_QV (post : fS → Prop) (G : fG) (sz : Nat) : Array Value → State → Outcome → State → Prop := va_Qv (fun (u : fS) => post u) (fun u t => f_W G u t.heap) (f_A G sz)
/-- the body's own end -/
def f_R (z : fZ) (G : fG) (Qc : Nat → Array Value → State → Outcome → State → Prop) : State → Prop := MQ z.2.2.2.2.2.2.2.1 (Qc z.2.2.2.2.1.heap.size) z.2.2.2.2.2.2.1 z.2.2.2.2.1 0 0 (f_A G z.2.2.2.2.1.heap.size)
/-- a method's contract: of the words ws, d levels deep, from the state σ with the values av, to Qc -/
def f_M (l : Launch) (G : fG) (E : Nat → State → Prop) (y : MethodName) (ws : List Cond) (d : Nat) (σ : fS) (av : List Value) (Qc : Nat → Array Value → State → Outcome → State → Prop) : Prop :=
  ∀ sz, Met l y ws (f_rm d) (f_Pc G E sz σ av) (Qc sz) 0 0 (f_A G sz)
theorem f_sl1 (av : List Value) (h1 : ∀ v ∈ av, v.category = 1) : lg_sl av = av.map Slot.val := by
  induction av with
  | nil => rfl
  | cons x r ih =>
    have hx := h1 x List.mem_cons_self
    have hr := ih (fun v hv => h1 v (List.mem_cons_of_mem _ hv))
    unfold lg_sl at hr ⊢
    rw [List.flatMap_cons, List.map_cons, hr, hx]
    rfl
theorem f_enter {l : Launch} {G : fG} {E : Nat → State → Prop} {y : MethodName} {cc : ByteArray} {nL d : Nat} {ret : Option FieldType} {σ : fS} {av : List Value} {Qc : Nat → Array Value → State → Outcome → State → Prop} (hy : plainName y.cls = true) (hJ : f_J G) (hav : (av.map (fun v => v.category)).all (fun c => c == 1) = true) (hlen : av.length ≤ nL)
    (body : ∀ z : fZ, z.2.1 = l → z.2.2.2.1 = f_rm d → fc z G cc nL y.cls → z.2.2.2.2.2.2.2.2.1.sig.returnType = ret → z.2.2.2.2.2.2.2.2.1.locks = false → E z.2.2.2.2.1.heap.size z.2.2.2.2.1 → fv z G nL (f_R z G Qc) 0 0 σ 0 (av.map some ++ List.replicate (nL - av.length) none) []) (sz : Nat) : Met l y (Cond.code y cc nL ret :: A9) (f_rm d) (f_Pc G E sz σ av) (Qc sz) 0 0 (f_A G sz) := by
  refine Met.ofW (cc := cc) (maxL := nL) (ret := ret) hy rfl ?_
  intro p e s m args below meth c s₁ B hml hv
  obtain ⟨rfl, hsz, hP, hK, hE⟩ := hv
  subst hsz
  have hfin := body (p, l, e, f_rm d, s, m, av.toArray, below, meth, c) rfl rfl ⟨B.exec, B.bytes, hml, findClass_of_methodNamed B.named, (fun w h => atoms_spec (ws := Cond.code y cc nL ret :: A9) B.pre w (List.mem_cons_of_mem _ h)), hK, hJ⟩ B.returns B.notSynchronized hE
  have h1 : ∀ v ∈ av, v.category = 1 := by
    intro v hv
    have h2 := List.all_eq_true.mp hav v.category (List.mem_map.mpr ⟨v, hv, rfl⟩)
    simpa using h2
  have hsl : lg_sl av = av.map Slot.val := f_sl1 av h1
  have hl := lv_entry av (n := nL) (by rw [hsl]; simpa using hlen)
  rw [lg_entry_eq]
  refine hfin s.heap [] _ hP va_S.rf ⟨hl.1, hl.2.1, fun i v hi => ?_, fun i v hi => ?_⟩
  · have hi2 : i < av.length := by
      by_cases h : i < av.length
      · exact h
      · rw [List.getElem?_append_right (by simpa using h), List.getElem?_replicate] at hi
        split at hi <;> simp at hi
    rw [List.getElem?_append_left (by simpa using hi2), List.getElem?_map] at hi
    rw [hsl]
    cases h9 : av[i]? with
    | none => rw [h9] at hi; cases hi
    | some w =>
      rw [h9] at hi
      simp at hi
      subst hi
      rw [List.getElem?_toArray, List.getElem?_append_left (by simpa using hi2), List.getElem?_map, h9]
      rfl
  · have hi2 : i < av.length := by
      by_cases h : i < av.length
      · exact h
      · rw [List.getElem?_append_right (by simpa using h), List.getElem?_replicate] at hi
        split at hi <;> simp at hi
    rw [List.getElem?_append_left (by simpa using hi2), List.getElem?_map] at hi
    cases h9 : av[i]? with
    | none => rw [h9] at hi; cases hi
    | some w =>
      rw [h9] at hi
      simp at hi
      subst hi
      have h2 := List.all_eq_true.mp hav w.category (List.mem_map.mpr ⟨w, List.mem_of_getElem? h9, rfl⟩)
      simpa using h2
section FR
variable {z : fZ} {G : fG} {cc : ByteArray} {nL : Nat} {own : String} {Q : State → Prop} {kc ks : Nat} {σ : fS} {pc : Nat} {lv : List (Option Value)} {st : List Value} {E : Nat → State → Prop}
theorem v_iret (C : fc z G cc nL own) (hr : z.2.2.2.2.2.2.2.2.1.sig.returnType = some .int) (hk : z.2.2.2.2.2.2.2.2.1.locks = false) {r : Int} {post : Int → fS → Prop} (d : decode cc pc = .ok (.ireturn, 1)) (hp : post r σ) : fv z G nL (f_R z G (f_QI post G)) 0 0 σ pc lv [.int (fI r)] :=
  fun _ _ _ hP hS _ => W.iret (v := fI r) C.1 C.2.1 hr (fun t ht _ => ⟨⟨fI r, (r, σ), rfl, ⟨rfl, hp⟩, (show f_W G σ t.heap by rw [ht]; exact hP)⟩, hS.F ht⟩) hS.2.2 d hk
theorem v_zret (C : fc z G cc nL own) {ty : FieldType} (hr : z.2.2.2.2.2.2.2.2.1.sig.returnType = some ty) (hk : z.2.2.2.2.2.2.2.2.1.locks = false) {r : Int} {post : Int → fS → Prop} (d : decode cc pc = .ok (.ireturn, 1)) (hn : narrow ty (.int (fI r)) = .int (fI r)) (hp : post r σ) : fv z G nL (f_R z G (f_QI post G)) 0 0 σ pc lv [.int (fI r)] :=
  fun _ _ _ hP hS _ => W.zret (v := fI r) C.1 C.2.1 hr hn (fun t ht _ => ⟨⟨fI r, (r, σ), rfl, ⟨rfl, hp⟩, (show f_W G σ t.heap by rw [ht]; exact hP)⟩, hS.F ht⟩) hS.2.2 d hk
theorem v_vret (C : fc z G cc nL own) (hr : z.2.2.2.2.2.2.2.2.1.sig.returnType = none) (hk : z.2.2.2.2.2.2.2.2.1.locks = false) {post : fS → Prop} (d : decode cc pc = .ok (.return_, 1)) (hp : post σ) : fv z G nL (f_R z G (f_QV post G)) 0 0 σ pc lv [] :=
  fun _ _ _ hP hS _ => W.vret C.1 C.2.1 hr (fun t ht _ => ⟨⟨σ, rfl, hp, (show f_W G σ t.heap by rw [ht]; exact hP)⟩, hS.F ht⟩) hS.2.2 d hk
theorem f_blind {sz : Nat} {av : List Value} (hE : f_E G E) : FrameBlind (f_Pc G E sz σ av) := fun a U g mk q => by
  obtain ⟨q0, q1, qP, qK, qE⟩ := q
  exact ⟨q0, q1, qP, va_K.moved (u := U) (U := U.calling g mk a) (Vm.Alike.refl U.vm) qK, hE.2 sz a U g mk qE⟩
theorem f_pre {H : Heap} {locs : List Loc} {av : List Value} (C : fc z G cc nL own) (hE : f_E G E) (hz : E z.2.2.2.2.1.heap.size z.2.2.2.2.1) (hP : f_W G σ H) (hS : va_S (f_A G z.2.2.2.2.1.heap.size) z.2.2.2.2.1.heap H locs) : ∀ U : State, U.heap = H → z.2.2.2.2.1.WarmedH U.vm → f_Pc G E H.size σ av av.toArray U := by
  intro U hU hW
  subst hU
  exact ⟨rfl, rfl, hP, va_K.moved hW.alike C.2.2.2.2.2.1, hE.1 _ U locs hz hS hW⟩
theorem f_sub {H : Heap} {H0 : Heap} {locs : List Loc} {A : Nat → Prop} (hS : va_S A H0 H locs) (q : Nat) (h : f_A G H.size q) : f_A G H0.size q := h.imp id (fun h => Nat.le_trans hS.1 h)
theorem v_cVI (C : fc z G cc nL own) (hE : f_E G E) (hz : E z.2.2.2.2.1.heap.size z.2.2.2.2.1) {dd : Nat} (hR : z.2.2.2.1 = f_rm dd) {y : MethodName} {bytes : ByteArray} {maxL d index n k ci nf : Nat} {fs : Nat → Nat ⊕ Bool} {T : u_T} {CN : String} {ret : Option FieldType} {ws : List Cond} {As : List Value} {post : Int → fS → Prop}
    (hM : f_M z.2.1 G E y (Cond.code y bytes maxL ret :: ws) d σ (.ref (G.2.2.2.1 k) :: As) (f_QI post G)) (dg : decode cc pc = .ok (.invokevirtual index, 3)) (hN : k < G.2.2.2.2.2.2) (hY : G.2.2.2.2.2.1 k = .inl (ci, nf, fs)) (hc : G.2.1[ci]? = some (CN, T, nf)) (hg : GoodIn A9 (wsV own index CN y (Cond.code y bytes maxL ret :: ws)))
    (hd : y.cls = CN ∧ y.cls ≠ "java/lang/invoke/MethodHandle" ∧ y.cls ≠ "java/lang/invoke/VarHandle" ∧ (parseMethodDescriptor y.desc).map (fun d => d.parameters.length) = some n) (hlev : d + 1 ≤ dd) (hml : maxL ≤ 21) (hn : As.length = n) (hst : (st.map fun v => v.category).sum ≤ 8) {st0 : List Value} (hst0 : st0 = As.reverse ++ .ref (G.2.2.2.1 k) :: st) (hcs : kc = 0 ∧ ks = 0)
    (kk : ∀ (r : Int) (σ' : fS), post r σ' → fv z G nL Q kc ks σ' (pc + 3) lv (.int (fI r) :: st)) : fv z G nL Q kc ks σ pc lv st0 := by
  intro H locs ls hP hS hl
  obtain ⟨rfl, rfl⟩ := hcs
  subst hst0
  refine va_calli (va_runV (As := As) (rest := st) ⟨C.1, C.2.1, C.2.2.1, C.2.2.2.1, C.2.2.2.2.1⟩ (hM H.size) (cwV n C.2.2.2.2.1 hg rfl rfl rfl hd ⟨by rw [hR]; exact hlev, by rw [hR]; show 8 + (maxL + 11) + 40 * d ≤ 40 * dd; omega⟩) ⟨f_blind hE, va_recv C.2.2.2.2.2.1 hP hc (f_at1 hN hY), f_pre C hE hz hP hS⟩ rfl hn hl.1 rfl (lv_room hst) dg ⟨by rw [hR]; exact Nat.zero_le _, by rw [hR]; exact Nat.zero_le _⟩) hS (fun q _ h => f_sub hS q h) (fun q h => f_sub hS q h) ?_
  intro r u t H1 locs1 ht _ hw hB _ _ hS1
  obtain ⟨rfl, hp⟩ := hw
  exact kk u.1 u.2 hp H1 locs1 ls (by rw [← ht]; exact hB) hS1 hl
theorem v_cVV (C : fc z G cc nL own) (hE : f_E G E) (hz : E z.2.2.2.2.1.heap.size z.2.2.2.2.1) {dd : Nat} (hR : z.2.2.2.1 = f_rm dd) {y : MethodName} {bytes : ByteArray} {maxL d index n k ci nf : Nat} {fs : Nat → Nat ⊕ Bool} {T : u_T} {CN : String} {ret : Option FieldType} {ws : List Cond} {As : List Value} {post : fS → Prop}
    (hM : f_M z.2.1 G E y (Cond.code y bytes maxL ret :: ws) d σ (.ref (G.2.2.2.1 k) :: As) (f_QV post G)) (dg : decode cc pc = .ok (.invokevirtual index, 3)) (hN : k < G.2.2.2.2.2.2) (hY : G.2.2.2.2.2.1 k = .inl (ci, nf, fs)) (hc : G.2.1[ci]? = some (CN, T, nf)) (hg : GoodIn A9 (wsV own index CN y (Cond.code y bytes maxL ret :: ws)))
    (hd : y.cls = CN ∧ y.cls ≠ "java/lang/invoke/MethodHandle" ∧ y.cls ≠ "java/lang/invoke/VarHandle" ∧ (parseMethodDescriptor y.desc).map (fun d => d.parameters.length) = some n) (hlev : d + 1 ≤ dd) (hml : maxL ≤ 21) (hn : As.length = n) (hst : (st.map fun v => v.category).sum ≤ 8) {st0 : List Value} (hst0 : st0 = As.reverse ++ .ref (G.2.2.2.1 k) :: st) (hcs : kc = 0 ∧ ks = 0)
    (kk : ∀ (σ' : fS), post σ' → fv z G nL Q kc ks σ' (pc + 3) lv st) : fv z G nL Q kc ks σ pc lv st0 := by
  intro H locs ls hP hS hl
  obtain ⟨rfl, rfl⟩ := hcs
  subst hst0
  refine va_callv (va_runV (As := As) (rest := st) ⟨C.1, C.2.1, C.2.2.1, C.2.2.2.1, C.2.2.2.2.1⟩ (hM H.size) (cwV n C.2.2.2.2.1 hg rfl rfl rfl hd ⟨by rw [hR]; exact hlev, by rw [hR]; show 8 + (maxL + 11) + 40 * d ≤ 40 * dd; omega⟩) ⟨f_blind hE, va_recv C.2.2.2.2.2.1 hP hc (f_at1 hN hY), f_pre C hE hz hP hS⟩ rfl hn hl.1 rfl (lv_room hst) dg ⟨by rw [hR]; exact Nat.zero_le _, by rw [hR]; exact Nat.zero_le _⟩) hS (fun q _ h => f_sub hS q h) (fun q h => f_sub hS q h) ?_
  intro u t H1 locs1 ht _ hp hB _ _ hS1
  exact kk u hp H1 locs1 ls (by rw [← ht]; exact hB) hS1 hl
theorem v_cSI (C : fc z G cc nL own) (hE : f_E G E) (hz : E z.2.2.2.2.1.heap.size z.2.2.2.2.1) {dd : Nat} (hR : z.2.2.2.1 = f_rm dd) {y : MethodName} {bytes : ByteArray} {maxL d index n : Nat} {ret : Option FieldType} {ws : List Cond} {As : List Value} {post : Int → fS → Prop}
    (hM : f_M z.2.1 G E y (Cond.code y bytes maxL ret :: ws) d σ As (f_QI post G)) (dg : decode cc pc = .ok (.invokestatic index, 3)) (hg : GoodIn A9 (va_wsS own index y (Cond.code y bytes maxL ret :: ws)))
    (hd : y.cls ≠ "java/lang/invoke/MethodHandle" ∧ y.cls ≠ "java/lang/invoke/VarHandle" ∧ (parseMethodDescriptor y.desc).map (fun d => d.parameters.length) = some n) (hlev : d + 1 ≤ dd) (hml : maxL ≤ 21) (hn : As.length = n) (hst : (st.map fun v => v.category).sum ≤ 8) {st0 : List Value} (hst0 : st0 = As.reverse ++ st) (hcs : kc = 0 ∧ ks = 0)
    (kk : ∀ (r : Int) (σ' : fS), post r σ' → fv z G nL Q kc ks σ' (pc + 3) lv (.int (fI r) :: st)) : fv z G nL Q kc ks σ pc lv st0 := by
  intro H locs ls hP hS hl
  obtain ⟨rfl, rfl⟩ := hcs
  subst hst0
  refine va_calli (va_runS (As := As) (rest := st) ⟨C.1, C.2.1, C.2.2.1, C.2.2.2.1, C.2.2.2.2.1⟩ (hM H.size) (va_cwS n C.2.2.2.2.1 hg rfl rfl rfl hd ⟨by rw [hR]; exact hlev, by rw [hR]; show 8 + (maxL + 11) + 40 * d ≤ 40 * dd; omega⟩) ⟨f_blind hE, f_pre C hE hz hP hS⟩ rfl hn hl.1 rfl (lv_room hst) dg ⟨by rw [hR]; exact Nat.zero_le _, by rw [hR]; exact Nat.zero_le _⟩) hS (fun q _ h => f_sub hS q h) (fun q h => f_sub hS q h) ?_
  intro r u t H1 locs1 ht _ hw hB _ _ hS1
  obtain ⟨rfl, hp⟩ := hw
  exact kk u.1 u.2 hp H1 locs1 ls (by rw [← ht]; exact hB) hS1 hl
theorem v_cSV (C : fc z G cc nL own) (hE : f_E G E) (hz : E z.2.2.2.2.1.heap.size z.2.2.2.2.1) {dd : Nat} (hR : z.2.2.2.1 = f_rm dd) {y : MethodName} {bytes : ByteArray} {maxL d index n : Nat} {ret : Option FieldType} {ws : List Cond} {As : List Value} {post : fS → Prop}
    (hM : f_M z.2.1 G E y (Cond.code y bytes maxL ret :: ws) d σ As (f_QV post G)) (dg : decode cc pc = .ok (.invokestatic index, 3)) (hg : GoodIn A9 (va_wsS own index y (Cond.code y bytes maxL ret :: ws)))
    (hd : y.cls ≠ "java/lang/invoke/MethodHandle" ∧ y.cls ≠ "java/lang/invoke/VarHandle" ∧ (parseMethodDescriptor y.desc).map (fun d => d.parameters.length) = some n) (hlev : d + 1 ≤ dd) (hml : maxL ≤ 21) (hn : As.length = n) (hst : (st.map fun v => v.category).sum ≤ 8) {st0 : List Value} (hst0 : st0 = As.reverse ++ st) (hcs : kc = 0 ∧ ks = 0)
    (kk : ∀ (σ' : fS), post σ' → fv z G nL Q kc ks σ' (pc + 3) lv st) : fv z G nL Q kc ks σ pc lv st0 := by
  intro H locs ls hP hS hl
  obtain ⟨rfl, rfl⟩ := hcs
  subst hst0
  refine va_callv (va_runS (As := As) (rest := st) ⟨C.1, C.2.1, C.2.2.1, C.2.2.2.1, C.2.2.2.2.1⟩ (hM H.size) (va_cwS n C.2.2.2.2.1 hg rfl rfl rfl hd ⟨by rw [hR]; exact hlev, by rw [hR]; show 8 + (maxL + 11) + 40 * d ≤ 40 * dd; omega⟩) ⟨f_blind hE, f_pre C hE hz hP hS⟩ rfl hn hl.1 rfl (lv_room hst) dg ⟨by rw [hR]; exact Nat.zero_le _, by rw [hR]; exact Nat.zero_le _⟩) hS (fun q _ h => f_sub hS q h) (fun q h => f_sub hS q h) ?_
  intro u t H1 locs1 ht _ hp hB _ _ hS1
  exact kk u hp H1 locs1 ls (by rw [← ht]; exact hB) hS1 hl
end FR
end
section
/-! THROWS: a method that throws; 'throw new E("text")'; a call that throws and is caught in the caller. -/
section TA
variable {p : Program} {l : Launch} {e : Env} {R : Room} {s : State} {m : MethodId} {args : Array Value} {below : List Frame} {meth : Method} {c : Code} {T : State} {locs : List Loc} {kc ks : Nat} {H : Heap}
/-- where a method stands now, seen as its own beginning -/
def tx_now (T s : State) (m : MethodId) (args : Array Value) (below : List Frame) : State := (T.setVm s.vm).setFrames (.invoking m args :: below)
theorem tx_re (X : Stand p l e R s m args below meth c T locs kc ks) (R' : Room) (hR : R'.frames ≤ R.frames ∧ R'.locals ≤ R.locals ∧ kc + R'.cells ≤ R.cells ∧ ks + R'.slots ≤ R.slots) : Stand p l e R' (tx_now T s m args below) m args below meth c T [] 0 0 := by
  obtain ⟨r1, r2, r3, r4⟩ := hR
  have htop : (T.setVm s.vm).topJava?.isSome := X.here.top
  have hfr : (tx_now T s m args below).frames = .invoking m args :: below := State.frames_setFrames _ (State.cur_lt_of_top htop)
  have hli : e.platform.stackLimits (tx_now T s m args below).me = e.platform.stackLimits T.me := by
    unfold tx_now
    rw [State.stackLimits_setFrames]
    rfl
  have hby : (tx_now T s m args below).me.stackBytes = T.me.stackBytes := by
    unfold tx_now
    rw [State.stackBytes_setFrames]
    rfl
  have huse : (tx_now T s m args below).localsInUse = s.localsInUse := by
    rw [State.localsInUse_invoking hfr (meth := meth) (c := c) X.method X.code, State.localsInUse_invoking X.frames X.method X.code]
  refine ⟨X.admits, X.cas, X.clock, hfr, ?_, X.hears, X.method, X.code, X.here, X.tail, X.warmed, hli.symm, hby.symm, ?_⟩
  · have h := X.room
    have hz := X.heapSize
    have hu := X.used
    have hbk := X.book
    simp only [State.hasRoom, Bool.and_eq_true, decide_eq_true_eq] at h ⊢
    rw [hfr, huse, hli, hby, X.limits, X.bytes]
    rw [X.frames] at h
    obtain ⟨⟨⟨⟨h1, h2, h3, h4, h5, h6⟩, h7⟩, h8⟩, h9⟩ := h
    have g7 : (tx_now T s m args below).heap.size = T.heap.size := rfl
    have g8 : (tx_now T s m args below).slotsUsed = T.slotsUsed := rfl
    rw [g7, g8]
    exact ⟨⟨⟨⟨by omega, by omega, by omega, by omega, by omega, h6⟩, by omega⟩, by omega⟩, hbk⟩
  · obtain ⟨g0, hg0⟩ := Option.isSome_iff_exists.mp htop
    obtain ⟨r, hr⟩ := State.topJava?_eq_some.mp hg0
    obtain ⟨t, ht, -⟩ := State.frames_cons hr
    refine ⟨?_, Nat.le_refl _, Nat.le_refl _, ?_, ?_, fun a c9 h9 => ⟨c9, h9, rfl, rfl, fun _ _ => rfl⟩⟩
    · show T.setVm s.vm = { ((T.setVm s.vm).setFrames (.invoking m args :: below)).setFrames (T.setVm s.vm).frames with heap := T.heap, slotsUsed := T.slotsUsed }
      rw [State.setFrames_setFrames, State.setFrames_self ht]
      rfl
    · show T.slotsUsed = T.slotsUsed + ((T.heap.toList.drop T.heap.size).map (·.slots.size)).sum
      rw [List.drop_eq_nil_of_le (by simp)]
      rfl
    · show ((T.heap.toList.drop T.heap.size).map (·.slots.size)).sum ≤ 0
      rw [List.drop_eq_nil_of_le (by simp)]
      exact Nat.le_refl _
theorem tx_kept {u U : State} {k n : Nat} (h : u.sameButNew ({ U with vm := u.vm } : State) [] k n) : u.heap.size ≤ U.heap.size ∧ ∀ q : Nat, q < u.heap.size → U.heap[q]? = u.heap[q]? := by
  obtain ⟨-, h2, -, -, -, h6⟩ := h
  refine ⟨h2, fun q hq => ?_⟩
  obtain ⟨c9, e1, e2, -, e4⟩ := h6 q _ (Array.getElem?_eq_getElem hq)
  have hs : c9.slots = (u.heap[q]).slots := Array.ext_getElem? fun i => e4 i (by simp)
  rw [hs] at e2
  have e5 : U.heap[q]? = some c9 := e1
  rw [e5, Array.getElem?_eq_getElem hq, e2]
/-- the words of 'throw new cls(text)' -/
def tx_ws (own : String) (ik ic : Nat) (cls : String) (names : List String) : List Cond := Cond.classLink own ik cls :: Cond.initialized cls :: Bundle.ownAtoms own ic cls names
theorem tx_new {cc : ByteArray} {pc ik ic is sa : Nat} {ls : Array Slot} {own cls text : String} {names : List String} {Q : State → Prop} (hexec : p.tables.exec = Jvm.exec) (hb : c.code = cc) (hl : l.stackTraces = false) (hlocks : meth.locks = false) (htab : c.exceptionTable.toList = [])
    (hown : s.vm.findClass own = some m.cls) (hcls : Bundle.fit cls = true) (hnames : ∀ n ∈ names, Bundle.fit n = true) (hw : ∀ U : State, U.vm = s.vm → U.heap = H → ∀ w ∈ tx_ws own ik ic cls names, w.before args U = true) (hstr : vk_R own is text sa s) (hsize : ls.size = c.maxLocals)
    (d0 : decode cc pc = .ok (.new ik, 3)) (d3 : decode cc (pc + 3) = .ok (.dup, 1)) (d4 : decode cc (pc + 4) = .ok (.ldc is, 2)) (d6 : decode cc (pc + 6) = .ok (.invokespecial ic, 3)) (d9 : decode cc (pc + 9) = .ok (.athrow, 1))
    (hRf : names.length + 3 < R.frames) (hRl : 13 * (names.length + 1) + 60 ≤ R.locals) (hRc : kc + 1 ≤ R.cells) (hRs : ks + 6 ≤ R.slots)
    (kk : ∀ (U : State) (ce : Cell), U.status = .running → Ended U below (.threw H.size) → s.WarmedH U.vm → s.sameButNew ({ U with vm := s.vm } : State) locs (kc + 1) (ks + 6) → H.size ≤ U.heap.size → (∀ q : Nat, q < H.size → U.heap[q]? = H[q]?) → U.heap[H.size]? = some ce → ce.vm = .none → s.vm.findClass cls = some ce.cls → Q U) :
    W p l e R s m args below meth c H locs kc ks Q (F0 m pc ls []) := by
  intro T hT X
  subst hb
  have htr : e.platform.stackTraces = false := (show e.platform.stackTraces = l.stackTraces by rw [X.admits.platform]).trans hl
  have Y := tx_re X { frames := R.frames, locals := R.locals, cells := 1, slots := 6 } ⟨Nat.le_refl _, Nat.le_refl _, hRc, hRs⟩
  have hvm0 : (tx_now T s m args below).vm = s.vm := rfl
  have hhp0 : (tx_now T s m args below).heap = H := hT
  have hat0 := hw _ hvm0 hhp0
  have hst0 : vk_R own is text sa (tx_now T s m args below) := vk_R.same (u := s) hvm0 hstr
  have hsm : ∀ {U : State} {k n : Nat}, (tx_now T s m args below).sameButNew ({ U with vm := (tx_now T s m args below).vm } : State) [] k n → s.sameButNew ({ U with vm := s.vm } : State) locs (kc + k) (ks + n) := by
    intro U k n h
    obtain ⟨e1, e2⟩ := h
    have h2 : (T.setVm s.vm).sameButNew ({ U with vm := s.vm } : State) [] k n := ⟨by unfold tx_now at e1; rw [State.setFrames_setFrames] at e1; exact e1, e2⟩
    have h3 := X.same.trans h2
    rw [List.append_nil] at h3
    exact h3
  have hWs : ∀ vm', (tx_now T s m args below).WarmedH vm' → s.WarmedH vm' := fun vm' h => h
  generalize tx_now T s m args below = s' at Y hvm0 hhp0 hat0 hst0 hsm hWs
  have ho : s'.vm.findClass own = some m.cls := by rw [hvm0]; exact hown
  have hatoms : ∀ w ∈ Bundle.ownAtoms own ic cls names, w.before args s' = true := fun w h => hat0 w (List.mem_cons_of_mem _ (List.mem_cons_of_mem _ h))
  obtain ⟨vm1, cX, kX, hfX, hkX, -, -, X1, st1⟩ := Y.newCold hexec (own := own) (C := cls) (index := ik) (n := 6) ho (hat0 _ List.mem_cons_self) (hatoms _ (by simp [Bundle.ownAtoms])) (hat0 _ (List.mem_cons_of_mem _ List.mem_cons_self)) (g := F0 m pc ls []) rfl d0 (Nat.le_refl _) (Nat.le_refl _)
  have hcat : (Value.ref T.heap.size).category = 1 := rfl
  have hcell : ((T.setVm vm1).pushCell { cls := cX, slots := kX.instanceTypes.map defaultValue, vm := .none }).heap[T.heap.size]? = some { cls := cX, slots := kX.instanceTypes.map defaultValue, vm := .none } := State.heap_pushCell_size _ _
  generalize hT1 : (T.setVm vm1).pushCell { cls := cX, slots := kX.instanceTypes.map defaultValue, vm := .none } = T1 at X1 st1 hcell
  obtain ⟨U, hsteps, hrun, hend, hW, hsame, ce, hce, hO⟩ := X1.ctorThrowS hexec htr (own := own) (cls := cls) (names := names) (ic := ic) ho hcls hnames hatoms (fun x hx => nomatch hx) hfX hkX hcell (by rw [hhp0, hT]; exact Nat.le_refl _) (msg := .ref sa) rfl
    (g := F0 m (pc + 6) ls [.ref sa, .ref T.heap.size, .ref T.heap.size]) rfl hsize rfl rfl (rest := []) rfl d6 d9 (fun x hx => by rw [htab] at hx; cases hx) hRf (by
      show 2 * 0 + ([Value.ref T.heap.size].map fun v => v.category).sum + (13 * (names.length + 1) + 42) ≤ R.locals
      simp only [List.map_cons, List.map_nil, List.sum_cons, List.sum_nil, hcat]
      omega) hlocks
  obtain ⟨f1, f2⟩ := tx_kept hsame
  rw [hhp0] at f1 f2
  have hTH : T.heap.size = H.size := by rw [hT]
  rw [hTH] at hend hce
  refine ⟨U, ?_, kk U ce hrun hend (hWs _ hW) (hsm hsame) f1 f2 hce hO.vm (by have := hO.cls; rw [hvm0] at this; exact this)⟩
  refine st1 _ ?_
  show Steps p.tables e below (T1.setTop (F0 m (pc + 3) ls [.ref T.heap.size])) U
  jvm_step X1.here [X1.here.top, hexec, d3, Value.category]
  exact X1.ldcString hexec ho (text := text) (a := sa) hst0.1 hst0.2 (g := F0 m (pc + 4) ls [.ref T.heap.size, .ref T.heap.size]) rfl d4 _ hsteps
end TA
end
section
/-! contracts of methods that throw, over the frame -/
/-- the end of a method that has thrown an object of the class X -/
def tx_Q (X : String) (post : fS → Prop) (G : fG) (mc ms sz : Nat) : Array Value → State → Outcome → State → Prop := fun _ st o t =>
  ∃ (q : Addr) (ce : Cell) (u : fS) (L : List Loc), o = .threw q ∧ t.heap[q]? = some ce ∧ ce.vm = .none ∧ st.vm.findClass X = some ce.cls ∧ post u ∧ f_W G u t.heap ∧ va_F (f_A G sz) st t ∧ st.WarmedH t.vm ∧ st.sameButNew ({ t with vm := st.vm } : State) L mc ms ∧ ∀ x ∈ L, f_A G sz x.base
/-- the room of a method over d levels of calls that makes mc cells of ms slots -/
def tx_rm (d mc ms : Nat) : Room := { frames := d, cells := mc, slots := ms, locals := 40 * d }
def tx_M (l : Launch) (G : fG) (E : Nat → State → Prop) (y : MethodName) (ws : List Cond) (d mc ms : Nat) (σ : fS) (av : List Value) (X : String) (post : fS → Prop) : Prop :=
  ∀ sz, MetFree l y (headSpec ws (tx_rm d mc ms)) (f_Pc G E sz σ av) (fun _ _ _ _ _ => True) (tx_Q X post G mc ms sz)
def tx_R (z : fZ) (G : fG) (X : String) (post : fS → Prop) (mc ms : Nat) : State → Prop := fun t => ∃ o, t.status = .running ∧ Ended t z.2.2.2.2.2.2.2.1 o ∧ tx_Q X post G mc ms z.2.2.2.2.1.heap.size z.2.2.2.2.2.2.1 z.2.2.2.2.1 o t
section TB
variable {l : Launch} {G : fG} {E : Nat → State → Prop} {y : MethodName} {cc : ByteArray} {nL d mc ms : Nat} {ret : Option FieldType} {σ : fS} {av : List Value} {X : String} {post : fS → Prop}
theorem tx_enter (hy : plainName y.cls = true) (hJ : f_J G) (hav : (av.map (fun v => v.category)).all (fun c => c == 1) = true) (hlen : av.length ≤ nL)
    (body : ∀ z : fZ, z.2.1 = l → z.2.2.2.1 = tx_rm d mc ms → fc z G cc nL y.cls → z.2.2.2.2.2.2.2.2.2.exceptionTable.toList = [] → z.2.2.2.2.2.2.2.2.1.locks = false → E z.2.2.2.2.1.heap.size z.2.2.2.2.1 → fv z G nL (tx_R z G X post mc ms) 0 0 σ 0 (av.map some ++ List.replicate (nL - av.length) none) []) : tx_M l G E y (Cond.code y cc nL ret :: A9) d mc ms σ av X post := by
  intro sz
  refine MetFree.of_bodyS (code := cc) (maxLocals := nL) (ret := ret) hy ?_ ?_
  · intro args s m h hn
    obtain ⟨meth, c, h1, h2, h3, h4, h5, h6, -, -⟩ := Cond.code_spec hn (atoms_spec (ws := Cond.code y cc nL ret :: A9) h _ List.mem_cons_self)
    exact ⟨meth, c, h1, h2, h3, h4, h5, h6⟩
  · intro p e s m args below meth c s₁ B hml hv _
    obtain ⟨rfl, hsz, hP, hK, hE⟩ := hv
    subst hsz
    have hpre : ∀ w ∈ Cond.code y cc nL ret :: A9, w.before av.toArray s = true := atoms_spec (ws := Cond.code y cc nL ret :: A9) B.pre
    have htab : c.exceptionTable.toList = [] := by
      have h := B.noHandlers (hpre _ List.mem_cons_self)
      have h0 : c.exceptionTable.size = 0 := by simpa [Array.isEmpty] using h
      exact List.eq_nil_of_length_eq_zero (by simpa using h0)
    have hfin := body (p, l, e, tx_rm d mc ms, s, m, av.toArray, below, meth, c) rfl rfl ⟨B.exec, B.bytes, hml, findClass_of_methodNamed B.named, (fun w h => hpre w (List.mem_cons_of_mem _ h)), hK, hJ⟩ htab B.notSynchronized hE
    have h1 : ∀ v ∈ av, v.category = 1 := by
      intro v hv
      have h2 := List.all_eq_true.mp hav v.category (List.mem_map.mpr ⟨v, hv, rfl⟩)
      simpa using h2
    have hsl : lg_sl av = av.map Slot.val := f_sl1 av h1
    have hl := lv_entry av (n := nL) (by rw [hsl]; simpa using hlen)
    have hhas : f_has (entryFrame m av.toArray nL).locals nL (av.map some ++ List.replicate (nL - av.length) none) := by
      rw [lg_entry_eq]
      refine ⟨hl.1, hl.2.1, fun i v hi => ?_, fun i v hi => ?_⟩
      all_goals
        have hi2 : i < av.length := by
          by_cases h : i < av.length
          · exact h
          · rw [List.getElem?_append_right (by simpa using h), List.getElem?_replicate] at hi
            split at hi <;> simp at hi
        rw [List.getElem?_append_left (by simpa using hi2), List.getElem?_map] at hi
        cases h9 : av[i]? with
        | none => rw [h9] at hi; cases hi
        | some w =>
          rw [h9] at hi
          simp at hi
          subst hi
          first
            | (rw [hsl, List.getElem?_toArray, List.getElem?_append_left (by simpa using hi2), List.getElem?_map, h9]; rfl)
            | exact h1 w (List.mem_of_getElem? h9)
    have hh0 : s₁.heap = s.heap := by rw [B.state]; rfl
    have hf0 : entryFrame m av.toArray nL = F0 m 0 (entryFrame m av.toArray nL).locals [] := by rw [lg_entry_eq]
    obtain ⟨t, a1, o, b1, b2, b3⟩ := hfin s.heap [] _ hP va_S.rf hhas s₁ hh0 (Stand.of_body B)
    exact ⟨t, o, by rw [hf0]; exact a1, b1, b2, b3⟩
end TB
section TC
variable {z : fZ} {G : fG} {cc : ByteArray} {nL : Nat} {own : String} {Q : State → Prop} {kc ks : Nat} {σ : fS} {pc : Nat} {lv : List (Option Value)} {st : List Value} {E : Nat → State → Prop}
/-- throw new cls("text") -/
theorem tx_throw (C : fc z G cc nL own) (hl : z.2.1.stackTraces = false) (htab : z.2.2.2.2.2.2.2.2.2.exceptionTable.toList = []) (hlocks : z.2.2.2.2.2.2.2.2.1.locks = false) {ik ic is sa mc ms : Nat} {cls text : String} {names : List String} {post : fS → Prop} (hcls : Bundle.fit cls = true) (hnames : names.all Bundle.fit = true)
    (hw : ∀ (H : Heap) (locs : List Loc), va_S (f_A G z.2.2.2.2.1.heap.size) z.2.2.2.2.1.heap H locs → ∀ U : State, U.vm = z.2.2.2.2.1.vm → U.heap = H → ∀ w ∈ tx_ws own ik ic cls names, w.before z.2.2.2.2.2.2.1 U = true) (hstr : vk_R own is text sa z.2.2.2.2.1)
    (d0 : decode cc pc = .ok (.new ik, 3)) (d3 : decode cc (pc + 3) = .ok (.dup, 1)) (d4 : decode cc (pc + 4) = .ok (.ldc is, 2)) (d6 : decode cc (pc + 6) = .ok (.invokespecial ic, 3)) (d9 : decode cc (pc + 9) = .ok (.athrow, 1))
    (hR : names.length + 3 < z.2.2.2.1.frames ∧ 13 * (names.length + 1) + 60 ≤ z.2.2.2.1.locals ∧ kc + 1 ≤ z.2.2.2.1.cells ∧ ks + 6 ≤ z.2.2.2.1.slots) (hm : kc + 1 ≤ mc ∧ ks + 6 ≤ ms) (hp : post σ) : fv z G nL (tx_R z G cls post mc ms) kc ks σ pc lv [] := by
  intro H locs ls hP hS hlv
  refine tx_new (sa := sa) (text := text) C.1 C.2.1 hl hlocks htab C.2.2.2.1 hcls (List.all_eq_true.mp hnames) (hw H locs hS) hstr (hlv.1.trans C.2.2.1.symm) d0 d3 d4 d6 d9 hR.1 hR.2.1 hR.2.2.1 hR.2.2.2 ?_
  intro U ce hrun hend hW hsame hsz hkeep hce hvm hcl
  refine ⟨.threw H.size, hrun, hend, H.size, ce, σ, locs, rfl, hce, hvm, hcl, hp, ?_, ⟨Nat.le_trans hS.1 hsz, fun q h1 h2 => ?_⟩, hW, hsame.mono hm.1 hm.2, hS.2.2⟩
  · exact fun k q hq => (hP k q hq).kept (hkeep _ (hP k q hq).lt)
  · rw [hkeep q (Nat.lt_of_lt_of_le h1 hS.1)]
    exact hS.2.1 q h1 h2
end TC
end
section
/-! a call that throws, and its catching in the caller -/
section TD
variable {p : Program} {l : Launch} {e : Env} {R : Room} {s : State} {m : MethodId} {args : Array Value} {below : List Frame} {meth : Method} {c : Code} {T : State} {locs : List Loc} {kc ks : Nat} {H : Heap}
/-- the invocation of a method that throws: the caller's frame g, with q thrown over it -/
theorem tx_inv {y : MethodName} {ws : List Cond} {rm : Room} {Pc : Array Value → State → Prop} {Qx : Array Value → State → Outcome → State → Prop} {bytes : ByteArray} {maxL : Nat} {ret : Option FieldType} (hM : MetFree l y (headSpec ws rm) Pc (fun _ _ _ _ _ => True) Qx) (hbl : FrameBlind Pc)
    {free : Addr → Prop} (hQ : ∀ (a : Array Value) (st : State) (o : Outcome) (t : State), Qx a st o t → ∃ (q : Addr) (L : List Loc), o = .threw q ∧ st.WarmedH t.vm ∧ st.sameButNew ({ t with vm := st.vm } : State) L rm.cells rm.slots ∧ ∀ x ∈ L, free x.base)
    (X : Stand p l e R s m args below meth c T locs kc ks) {g : JFrame} (hg : g.method = m) (hsize : g.locals.size = c.maxLocals) {ig : Instr} {len : Nat} (hdg : decode c.code g.pc = .ok (ig, len)) (hst : 2 * g.monitorRoom + (g.stack.map fun v => v.category).sum ≤ 8)
    {mk : MethodId} (hn : T.methodNamed? y = some mk) (a : Array Value) (hP : Pc a T) (hR : rm.frames + 1 ≤ R.frames ∧ 8 + (maxL + 11) + rm.locals ≤ R.locals ∧ kc + rm.cells ≤ R.cells ∧ ks + rm.slots ≤ R.slots)
    (hws : ∀ w ∈ ws, w.before a T = true) (hcode : Cond.code y bytes maxL ret ∈ ws) (hini : (Cond.initialized y.cls).before a T = true) :
    ∃ (q : Addr) (t B : State) (L : List Loc), Qx a (T.calling g mk a) (.threw q) t ∧ B.heap = t.heap ∧ B.vm = t.vm ∧ (∀ x ∈ L, free x.base) ∧ Stand p l e R s m args below meth c B (locs ++ L) (kc + rm.cells) (ks + rm.slots) ∧ Steps p.tables e below (doInvoke e (T.setTop g) [] mk a).1 ((B.setTop g).pushFrame (.throwing q)) := by
  obtain ⟨r1, r2, r3, r4⟩ := hR
  obtain ⟨mY, cY, hmY, hcY, -, hlY, -, -, -, -⟩ := Cond.code_spec hn (hws _ hcode)
  obtain ⟨kY, hkY, -⟩ := className_of_methodNamed hn
  have hiY : kY.init = .initialized := Cond.initialized_spec (findClass_of_methodNamed hn) hkY hini
  have h : At T g.method c below := by rw [hg]; exact X.here
  have happ : (headSpec ws rm).appliesLoose y e.platform (T.calling g mk a) = true :=
    Spec.appliesLoose_calling (g := g) h hdg hn hkY hiY (X.room_calling (g := g) (R' := (headSpec ws rm).room) hsize hmY hcY r1 (by rw [hlY]; show _ ≤ R.locals; have : (headSpec ws rm).room.locals = rm.locals := rfl; omega) r3 r4) (atoms_intro hws)
  obtain ⟨mid, hmid⟩ := h.above
  have hfr : (T.setTop g).frames = (.java g :: mid) ++ below := by rw [State.frames_setTop' g h.top, hmid]; rfl
  obtain ⟨o, t, hsteps, -, hend, hq⟩ := Steps.callFree hM p X.admits X.cas X.clock (acts := []) hfr happ (hbl _ _ _ _ hP) trivial
  have hq : Qx a (T.calling g mk a) o t := hq
  obtain ⟨q, L, ho, hW, hsm, hL⟩ := hQ _ _ _ _ hq
  subst ho
  rw [State.frames_setTop' g h.top] at hend
  obtain ⟨g0, hg0⟩ := Option.isSome_iff_exists.mp h.top
  obtain ⟨r, hr⟩ := State.topJava?_eq_some.mp hg0
  have hW' : T.WarmedH t.vm := hW
  obtain ⟨e2, q2, q3, q4, q5, q6⟩ := id hsm
  have hfr2 : t.frames = .throwing q :: .java g :: T.frames.tail := hend
  have hr' : (({ T with heap := t.heap, slotsUsed := t.slotsUsed } : State).setVm t.vm).frames = .java g0 :: r := hr
  have e3 : t = ({ (T.calling g mk a).setFrames t.frames with heap := t.heap, slotsUsed := t.slotsUsed } : State).setVm t.vm := by
    have e4 : t = ({ t with vm := (T.calling g mk a).vm } : State).setVm t.vm := rfl
    rw [e2] at e4
    exact e4
  have hB : t = ((({ T with heap := t.heap, slotsUsed := t.slotsUsed } : State).setVm t.vm).setTop g).pushFrame (.throwing q) := by
    refine e3.trans ?_
    rw [hfr2, State.calling_eq h.top, State.setFrames_setFrames, State.pushFrame, State.frames_setTop _ hr', State.setTop_of_frames _ hr', State.setFrames_setFrames, hr]
    rfl
  have hsame : T.sameButNew ({ T with heap := t.heap, slotsUsed := t.slotsUsed } : State) L rm.cells rm.slots := by
    refine ⟨?_, q2, q3, q4, q5, q6⟩
    obtain ⟨t9, ht9, -⟩ := State.frames_cons hr
    show ({ T with heap := t.heap, slotsUsed := t.slotsUsed } : State) = { T.setFrames T.frames with heap := t.heap, slotsUsed := t.slotsUsed }
    rw [State.setFrames_self ht9]
  refine ⟨q, t, ({ T with heap := t.heap, slotsUsed := t.slotsUsed } : State).setVm t.vm, L, hq, rfl, rfl, hL, ⟨X.admits, X.cas, X.clock, X.frames, X.room, X.hears, X.method, X.code, (X.here.setHeapUsed t.heap t.slotsUsed).setVm hW'.alike, X.tail, State.WarmedH.trans X.warmed hW', X.limits, X.bytes, X.same.trans (hsame.setVm s.vm)⟩, ?_⟩
  rw [← hB]
  exact hsteps
/-- the rows of a table lead an object of the class C to the place h -/
def tx_finds (e : Env) (u : State) (d : ClassId) (pc : Nat) (C : ClassId) : List ExceptionTableEntry → Nat → Prop
  | [], _ => False
  | y :: r, h => (covers y pc = false ∧ tx_finds e u d pc C r h) ∨ (covers y pc = true ∧ y.catchType ≠ 0 ∧ ∃ k, u.vm.ClassLinks e.platform d y.catchType k ∧ ((u.vm.assignable C k = true ∧ h = y.handlerPc) ∨ (u.vm.assignable C k = false ∧ tx_finds e u d pc C r h)))
theorem tx_search {u : State} {f : JFrame} {a : Addr} {cell : Cell} {h : Nat} (hobj : ∀ k, cell.vm ≠ .statics k) (hk0 : ∃ k, u.vm.classes[cell.cls]? = some k) (rows : List ExceptionTableEntry) : ∀ S : State, tx_finds e u f.method.cls f.pc cell.cls rows h → u.WarmedH S.vm → S.heap[a]? = some cell →
    ∃ vm', u.WarmedH vm' ∧ ∀ (Q : Handler → Jvm.Pre) (E : Jvm.CtlPost) (d : Bool) (acts : List Action), Sem.wp (findHandler.go f a rows) Q E e d acts S ↔ Q (.found h) d acts (S.setVm vm') := by
  obtain ⟨k0, hk0⟩ := hk0
  induction rows with
  | nil => intro S hf; exact hf.elim
  | cons y r ih =>
    intro S hf hW hcell
    rcases hf with ⟨hc, hf⟩ | ⟨hc, h0, k, hl, hf⟩
    · obtain ⟨vm', hW', hq⟩ := ih S hf hW hcell
      exact ⟨vm', hW', fun Q E d acts => (Jvm.W.findHandler_go_skip hc).trans (hq Q E d acts)⟩
    · obtain ⟨dk, _, _, kt, hd, _, _, _, _, hkt, _, hopen⟩ := hl.here
      have hl2 := hW.classLinks hl
      have hW2 := hW.noted hd hopen (State.rightAt_cls hl)
      obtain ⟨ha, ht⟩ := (resolveClass_links e.toSetting hl2).op (op := VmOp.resolveClass f.method.cls y.catchType) rfl
      obtain ⟨k1, hk1, -⟩ := hW2.alike.2.2 _ _ hk0
      obtain ⟨k2, hk2, -⟩ := hW2.alike.2.2 _ _ hkt
      simp only [covers] at hc
      rcases hf with ⟨hy, rfl⟩ | ⟨hn, hf⟩
      · have hy2 : (S.vm.noted f.method.cls y.catchType (.cls k)).assignable cell.cls k = true := by rw [hW2.alike.assignable]; exact hy
        exact ⟨_, hW2, fun Q E d acts => by simp [findHandler.go, hc, h0, ha, ht, hcell, hobj, hk1, hk2, hy2, VmOp.dirties, VmOp.acts]⟩
      · have hn2 : (S.vm.noted f.method.cls y.catchType (.cls k)).assignable cell.cls k = false := by rw [hW2.alike.assignable]; exact hn
        obtain ⟨vm', hW', hq⟩ := ih (S.setVm (S.vm.noted f.method.cls y.catchType (.cls k))) hf hW2 hcell
        exact ⟨vm', hW', fun Q E d acts => by simp [findHandler.go, hc, h0, ha, ht, hcell, hobj, hk1, hk2, hn2, VmOp.dirties, VmOp.acts]; exact hq Q E d acts⟩
/-- what is thrown over the method's own frame goes on at the row's place -/
theorem tx_caught (X : Stand p l e R s m args below meth c T locs kc ks) {g : JFrame} (hg : g.method = m) {q : Addr} {cell : Cell} {h : Nat} (hcell : T.heap[q]? = some cell) (hvm : cell.vm = .none) (hk0 : ∃ k, s.vm.classes[cell.cls]? = some k)
    (hf : tx_finds e s m.cls g.pc cell.cls c.exceptionTable.toList h) : ∃ vm', Stand p l e R s m args below meth c (T.setVm vm') locs kc ks ∧ ∀ tg, Steps p.tables e below ((T.setVm vm').setTop { g with pc := h, stack := [.ref q] }) tg → Steps p.tables e below ((T.setTop g).pushFrame (.throwing q)) tg := by
  subst hg
  have hat : At T g.method c below := X.here
  have hvm9 : ((T.setTop g).pushFrame (.throwing q)).vm = T.vm := Stand.throwing_vm T g q
  have hhp9 : ((T.setTop g).pushFrame (.throwing q)).heap = T.heap := Stand.throwing_heap T g q
  obtain ⟨vm', hW', hq⟩ := tx_search (e := e) (u := s) (f := g) (a := q) (cell := cell) (h := h) (fun k h9 => by rw [hvm] at h9; cases h9) hk0 c.exceptionTable.toList ((T.setTop g).pushFrame (.throwing q)) hf (by rw [hvm9]; exact X.warmed) (by rw [hhp9]; exact hcell)
  refine ⟨vm', X.noted hW', fun tg hrest => ?_⟩
  obtain ⟨hgo, hw⟩ := hat.throwing q
  refine Steps.head hgo hw ?_
  rw [stepThread_throwing (frames_entered hat.top _)]
  have hstep : (stepThrowing e ((T.setTop g).pushFrame (.throwing q)) q (.java g :: T.frames.tail)).Is ((((T.setTop g).pushFrame (.throwing q)).setVm vm').setFrames (.java { g with pc := h, stack := [.ref q] } :: T.frames.tail)) [] := by
    simp only [stepThrowing, searchFrame, vmDo]
    generalize hr : Sem.go _ e false [] ((T.setTop g).pushFrame (.throwing q)) = res
    obtain ⟨as, rfl, ha⟩ := Sem.eq_ok_of hr (a := Handler.found h) (s' := ((T.setTop g).pushFrame (.throwing q)).setVm vm') (acts' := []) (by
      have hm9 : ((T.setTop g).pushFrame (.throwing q)).vm.method? g.method = some meth := by rw [hvm9]; exact X.method'
      simp [Jvm.W.findHandler_eq hm9 X.code, hq])
    exact ⟨rfl, ha⟩
  rw [hstep.1]
  obtain ⟨g0, hg0⟩ := Option.isSome_iff_exists.mp hat.top
  obtain ⟨r, hr⟩ := State.topJava?_eq_some.mp hg0
  have hr' : (T.setVm vm').frames = .java g0 :: r := hr
  have e1 : (((T.setTop g).pushFrame (.throwing q)).setVm vm').setFrames (.java { g with pc := h, stack := [.ref q] } :: T.frames.tail) = (T.setVm vm').setTop { g with pc := h, stack := [.ref q] } := by
    rw [State.setTop_of_frames _ hr', State.pushFrame, State.setTop_of_frames _ hr, hr, State.setFrames_setFrames]
    show ((T.setVm vm').setFrames _).setFrames _ = _
    rw [State.setFrames_setFrames]
    rfl
  rw [e1]
  exact hrest
end TD
end
section
/-! a world within a world: the roles o, o + 1, .. of a greater one; calls of methods of the smaller one -/
section WA
variable {G : fG} {o n : Nat} {Y : Nat → fL} {σ τ : fS} {H H1 : Heap}
end WA
section WB
variable {z : fZ} {G : fG} {cc : ByteArray} {nL : Nat} {own : String} {Q : State → Prop} {kc ks : Nat} {σ : fS} {pc : Nat} {lv : List (Option Value)} {st : List Value} {E E' : Nat → State → Prop} {o n : Nat} {Y : Nat → fL}
end WB
end
