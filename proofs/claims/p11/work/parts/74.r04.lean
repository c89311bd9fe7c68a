/-! the draft's bytes and the file's bytes, as lists -/
theorem getD_app {L M : List Int} {j : Nat} (h : j < L.length) : (L ++ M).getD j 0 = L.getD j 0 := by
  rw [List.getD_eq_getElem?_getD, List.getD_eq_getElem?_getD, List.getElem?_append_left h]
/-- the draft holds the list T -/
def Dr (s : fS) (T : List Int) : Prop := s.1 374 6 = (T.length : Int) ∧ ∀ j : Nat, j < T.length → s.2 375 j = T.getD j 0
theorem Dr_put {s : fS} {T : List Int} (h : Dr s T) (v : Int) : Dr (x_put s v) (T ++ [v]) := by
  refine ⟨?_, fun j hj => ?_⟩
  · rw [x_put_1, if_pos ⟨rfl, rfl⟩, h.1, List.length_append]; push_cast; rfl
  · unfold x_put
    rw [p1_2, p2_2, h.1]
    rw [List.length_append] at hj
    have hj : j < T.length + 1 := hj
    by_cases g : j = T.length
    · rw [if_pos ⟨rfl, by omega⟩, g]
      simp
    · rw [if_neg (by omega), h.2 j (by omega)]
      rw [getD_app (by omega)]
theorem Dr_puts : ∀ (L : List Int) {s : fS} {T : List Int}, Dr s T → Dr (x_puts s L) (T ++ L) := by
  intro L
  induction L with
  | nil => intro s T h; rw [List.append_nil]; exact h
  | cons x r ih =>
    intro s T h
    have := ih (Dr_put h x)
    rw [List.append_assoc] at this
    exact this
theorem Dr_cg {s s1 : fS} {T : List Int} (h : Dr s T) (h1 : s1.1 374 6 = s.1 374 6) (h2 : ∀ j, s1.2 375 j = s.2 375 j) : Dr s1 T := ⟨by rw [h1]; exact h.1, fun j hj => by rw [h2]; exact h.2 j hj⟩
/-- the file holds the list T from a place on, beside what was there -/
def Mr (t0 : fS) (a : Int) (t : fS) (T : List Int) : Prop := t.1 0 16 = a + (T.length : Int) ∧ (t.1 0 17 = 0 → ∀ i : Nat, t.2 7 i = if a ≤ (i : Int) ∧ (i : Int) < a + (T.length : Int) then T.getD (i - a.toNat) 0 else t0.2 7 i)
theorem Mr_put {t0 t : fS} {a : Int} {T : List Int} (ha : 0 ≤ a) (h : Mr t0 a t T) (v : Int) : Mr t0 a (m_put t v) (T ++ [v]) := by
  have hl : (T ++ [v]).length = T.length + 1 := by rw [List.length_append]; rfl
  refine ⟨?_, fun hc i => ?_⟩
  · rw [m_put_1, if_pos ⟨rfl, rfl⟩, h.1, hl]; push_cast; omega
  · have hc : t.1 0 17 = 0 := by rw [m_put_1, if_neg (by decide)] at hc; exact hc
    rw [m_put_2, h.1, hl]
    by_cases g : i = (a + (T.length : Int)).toNat
    · rw [if_pos ⟨rfl, g, by omega⟩, if_pos (by omega), show i - a.toNat = T.length by omega]
      simp
    · rw [if_neg (by omega), h.2 hc i]
      by_cases g2 : a ≤ (i : Int) ∧ (i : Int) < a + (T.length : Int)
      · rw [if_pos g2, if_pos (by omega), getD_app (by omega)]
      · rw [if_neg g2, if_neg (by omega)]
theorem Mr_puts : ∀ (L : List Int) {t0 t : fS} {a : Int} {T : List Int}, 0 ≤ a → Mr t0 a t T → Mr t0 a (m_puts t L) (T ++ L) := by
  intro L
  induction L with
  | nil => intro t0 t a T _ h; rw [List.append_nil]; exact h
  | cons x r ih =>
    intro t0 t a T ha h
    have := ih ha (Mr_put ha h x)
    rw [List.append_assoc] at this
    exact this
theorem Mr_cg {t0 t t1 : fS} {a : Int} {T : List Int} (h : Mr t0 a t T) (h1 : t1.1 0 16 = t.1 0 16) (h2 : t1.1 0 17 = t.1 0 17) (h3 : ∀ j, t1.2 7 j = t.2 7 j) : Mr t0 a t1 T := ⟨by rw [h1]; exact h.1, fun hc i => by rw [h3]; exact h.2 (by rw [← h2]; exact hc) i⟩
/-! the order of a draft as a list -/
def x_ord (s : fS) : List Int := (List.range (s.1 374 4).toNat).map (fun j => s.2 376 j)
theorem x_ord_len (s : fS) : (x_ord s).length = (s.1 374 4).toNat := by unfold x_ord; simp
theorem x_ord_get (s : fS) (j : Nat) (h : j < (s.1 374 4).toNat) : (x_ord s)[j]? = some (s.2 376 j) := by
  unfold x_ord
  rw [List.getElem?_map, List.getElem?_range h]
  rfl
theorem x_ord_ins (s : fS) (t : Nat) (n : Int) (hc : 0 ≤ s.1 374 4) (ht : (t : Int) ≤ s.1 374 4) : x_ord (x_insd s t n) = (x_ord s).take t ++ n :: (x_ord s).drop t := by
  have hl := x_ord_len s
  have h4 : (x_insd s t n).1 374 4 = s.1 374 4 + 1 := by unfold x_insd; rw [p1_1, if_pos ⟨rfl, rfl⟩]
  refine List.ext_getElem? fun j => ?_
  by_cases hj : j < (s.1 374 4).toNat + 1
  · rw [x_ord_get _ j (by rw [h4]; omega)]
    have v : (x_insd s t n).2 376 j = if j = t then n else if t < j ∧ j ≤ (s.1 374 4).toNat then s.2 376 (j - 1) else s.2 376 j := by
      unfold x_insd
      rw [p1_2, p2_2]
      by_cases g : j = t
      · rw [if_pos ⟨rfl, g⟩, if_pos g]
      · rw [if_neg (by omega), if_neg g]
        show (if 376 = 376 ∧ t < j ∧ j ≤ (s.1 374 4).toNat then s.2 376 (j - 1) else s.2 376 j) = _
        by_cases g2 : t < j ∧ j ≤ (s.1 374 4).toNat
        · rw [if_pos ⟨rfl, g2⟩, if_pos g2]
        · rw [if_neg (fun q => g2 q.2), if_neg g2]
    rw [v]
    have htl : ((x_ord s).take t).length = t := by rw [List.length_take, hl]; omega
    by_cases g1 : j < t
    · rw [if_neg (by omega), if_neg (by omega), List.getElem?_append_left (by omega), List.getElem?_take_of_lt g1, x_ord_get s j (by omega)]
    · rw [List.getElem?_append_right (by omega), htl]
      by_cases g2 : j = t
      · rw [if_pos g2, show j - t = 0 by omega]; rfl
      · rw [if_neg g2, if_pos (by omega), show j - t = (j - 1 - t) + 1 by omega, List.getElem?_cons_succ, List.getElem?_drop, show t + (j - 1 - t) = j - 1 by omega, x_ord_get s (j - 1) (by omega)]
  · rw [List.getElem?_eq_none (by rw [x_ord_len, h4]; omega), List.getElem?_eq_none]
    rw [List.length_append, List.length_cons, List.length_take, List.length_drop, hl]
    omega
/-! the turns up to object k -/
noncomputable def m_tk2 (τ : fS) (w how : Int) (k : Nat) : Nat → List Int
  | 0 => []
  | t + 1 => m_tk2 τ w how k t ++ m_turn τ w how (t : Int) k
theorem m_tk2_40 (τ : fS) (w how : Int) : ∀ t, m_tk2 τ w how 40 t = m_turns τ w how t := by
  intro t
  induction t with
  | zero => rfl
  | succ t ih => show m_tk2 τ w how 40 t ++ _ = m_turns τ w how t ++ _; rw [ih]
theorem m_tk2_0 (τ : fS) (w how : Int) : ∀ t, m_tk2 τ w how 0 t = [] := by
  intro t
  induction t with
  | zero => rfl
  | succ t ih => show m_tk2 τ w how 0 t ++ [] = []; rw [ih]; rfl
theorem m_tk2_no (τ : fS) (w how : Int) (k : Nat) : ∀ T, (∀ t : Nat, t < T → ¬ m_sel τ w how (t : Int) ((k : Int) + 1)) → m_tk2 τ w how (k + 1) T = m_tk2 τ w how k T := by
  intro T
  induction T with
  | zero => intro _; rfl
  | succ t ih =>
    intro h
    show m_tk2 τ w how (k + 1) t ++ (m_turn τ w how (t : Int) k ++ cif (m_sel τ w how (t : Int) ((k : Int) + 1)) [(k : Int) + 1] []) = m_tk2 τ w how k t ++ m_turn τ w how (t : Int) k
    rw [ih (fun u hu => h u (by omega)), cif_neg (h t (by omega)), List.append_nil]
/-- the objects of the turns from t on -/
noncomputable def m_tkr (τ : fS) (w how : Int) (k t : Nat) : Nat → List Int
  | 0 => []
  | u + 1 => m_tkr τ w how k t u ++ m_turn τ w how ((t + u : Nat) : Int) k
theorem m_tk2_add (τ : fS) (w how : Int) (k t : Nat) : ∀ u, m_tk2 τ w how k (t + u) = m_tk2 τ w how k t ++ m_tkr τ w how k t u := by
  intro u
  induction u with
  | zero => show _ = _ ++ []; rw [List.append_nil]; rfl
  | succ u ih =>
    show m_tk2 τ w how k (t + u) ++ m_turn τ w how ((t + u : Nat) : Int) k = _ ++ (m_tkr τ w how k t u ++ _)
    rw [ih, List.append_assoc]
theorem m_tkr_no (τ : fS) (w how : Int) (k t : Nat) : ∀ u, (∀ v : Nat, t ≤ v → v < t + u → ¬ m_sel τ w how (v : Int) ((k : Int) + 1)) → m_tkr τ w how (k + 1) t u = m_tkr τ w how k t u := by
  intro u
  induction u with
  | zero => intro _; rfl
  | succ u ih =>
    intro h
    show m_tkr τ w how (k + 1) t u ++ (m_turn τ w how ((t + u : Nat) : Int) k ++ cif (m_sel τ w how ((t + u : Nat) : Int) ((k : Int) + 1)) [(k : Int) + 1] []) = m_tkr τ w how k t u ++ m_turn τ w how ((t + u : Nat) : Int) k
    rw [ih (fun v h1 h2 => h v h1 (by omega)), cif_neg (h (t + u) (by omega) (by omega)), List.append_nil]
/-- object k + 1 comes at turn t alone -/
theorem m_tk2_in (τ : fS) (w how : Int) (k t u : Nat) (hs : m_sel τ w how (t : Int) ((k : Int) + 1)) (hu : ∀ v : Nat, v < t + 1 + u → v ≠ t → ¬ m_sel τ w how (v : Int) ((k : Int) + 1)) : m_tk2 τ w how (k + 1) (t + 1 + u) = m_tk2 τ w how k (t + 1) ++ ((k : Int) + 1) :: m_tkr τ w how k (t + 1) u := by
  rw [m_tk2_add, m_tkr_no τ w how k (t + 1) u (fun v h1 h2 => hu v h2 (by omega))]
  show (m_tk2 τ w how (k + 1) t ++ (m_turn τ w how (t : Int) k ++ cif (m_sel τ w how (t : Int) ((k : Int) + 1)) [(k : Int) + 1] [])) ++ _ = (m_tk2 τ w how k t ++ m_turn τ w how (t : Int) k) ++ _
  rw [m_tk2_no τ w how k t (fun v h => hu v (by omega) (by omega)), cif_pos hs]
  simp only [List.append_assoc, List.singleton_append]
theorem m_tk2_el (τ : fS) (w how : Int) (k : Nat) : ∀ T, ∀ x ∈ m_tk2 τ w how k T, ∃ t : Nat, t < T ∧ x ∈ m_turn τ w how (t : Int) k := by
  intro T
  induction T with
  | zero => intro x hx; cases hx
  | succ t ih =>
    intro x hx
    rcases List.mem_append.mp (show x ∈ m_tk2 τ w how k t ++ m_turn τ w how (t : Int) k from hx) with h | h
    · obtain ⟨u, h1, h2⟩ := ih x h
      exact ⟨u, by omega, h2⟩
    · exact ⟨t, by omega, h⟩
theorem m_tkr_el (τ : fS) (w how : Int) (k t : Nat) : ∀ u, ∀ x ∈ m_tkr τ w how k t u, ∃ v : Nat, t ≤ v ∧ v < t + u ∧ x ∈ m_turn τ w how (v : Int) k := by
  intro u
  induction u with
  | zero => intro x hx; cases hx
  | succ u ih =>
    intro x hx
    rcases List.mem_append.mp (show x ∈ m_tkr τ w how k t u ++ m_turn τ w how ((t + u : Nat) : Int) k from hx) with h | h
    · obtain ⟨v, h1, h2, h3⟩ := ih x h
      exact ⟨v, h1, by omega, h3⟩
    · exact ⟨t + u, by omega, by omega, h⟩
theorem m_turn_el (τ : fS) (w how t : Int) : ∀ k, ∀ x ∈ m_turn τ w how t k, m_sel τ w how t x ∧ 1 ≤ x ∧ x ≤ (k : Int) := by
  intro k
  induction k with
  | zero => intro x hx; cases hx
  | succ k ih =>
    intro x hx
    rcases List.mem_append.mp (show x ∈ m_turn τ w how t k ++ cif (m_sel τ w how t ((k : Int) + 1)) [(k : Int) + 1] [] from hx) with h | h
    · have := ih x h; exact ⟨this.1, by omega, by push_cast; omega⟩
    · by_cases g : m_sel τ w how t ((k : Int) + 1)
      · rw [cif_pos g, List.mem_singleton] at h; rw [h]; exact ⟨g, by omega, by push_cast; omega⟩
      · rw [cif_neg g] at h; cases h
