/-! the choosing of a write is the turns' list -/
def x_key (s : fS) (how n : Int) : Int := if how = 1 then s.2 4 n.toNat else if how = 2 then (if s.2 3 n.toNat = 1 then 0 else 1) else 0
theorem x_gb_key {s : fS} {n o how : Int} (hh : 0 ≤ how ∧ how ≤ 2) (h3 : ∀ i, 0 ≤ s.2 3 i ∧ s.2 3 i ≤ 1) : x_gb s n o how = if x_key s how n < x_key s how o then 1 else 0 := by
  have a := h3 n.toNat
  have b := h3 o.toNat
  unfold x_gb x_key
  rcases (show how = 0 ∨ how = 1 ∨ how = 2 by omega) with e | e | e
  · subst e; simp
  · subst e; simp
  · subst e
    rcases (show s.2 3 n.toNat = 0 ∨ s.2 3 n.toNat = 1 by omega) with g1 | g1 <;> rcases (show s.2 3 o.toNat = 0 ∨ s.2 3 o.toNat = 1 by omega) with g2 | g2 <;> simp [g1, g2]
/-- an insertion into a list that is in order -/
theorem x_ins_ord {s s1 : fS} {n how : Int} {A B : List Int} (hh : 0 ≤ how ∧ how ≤ 2) (h3 : ∀ i, 0 ≤ s.2 3 i ∧ s.2 3 i ≤ 1) (hc : 0 ≤ s.1 374 4) (ho : x_ord s = A ++ B) (hA : ∀ x ∈ A, x_key s how x ≤ x_key s how n) (hB : ∀ x ∈ B, x_key s how n < x_key s how x) (h : x_insP s n how s1) : x_ord s1 = A ++ n :: B := by
  obtain ⟨t, ht, rfl, g1, g2⟩ := h
  have hl : (A ++ B).length = (s.1 374 4).toNat := by rw [← ho]; exact x_ord_len s
  rw [List.length_append] at hl
  have hget : ∀ j, j < (s.1 374 4).toNat → (A ++ B)[j]? = some (s.2 376 j) := fun j hj => by rw [← ho]; exact x_ord_get s j hj
  have e : t = A.length := by
    rcases Nat.lt_trichotomy t A.length with g | g | g
    · exfalso
      have h1 := g1 t (Nat.le_refl _) (by omega)
      have h2 := hget t (by omega)
      rw [List.getElem?_append_left g] at h2
      have h4 := hA _ (List.mem_of_getElem? h2)
      rw [x_gb_key hh h3] at h1
      split at h1 <;> omega
    · exact g
    · exfalso
      have h1 := g2 (by omega)
      have h2 := hget (t - 1) (by omega)
      rw [List.getElem?_append_right (by omega)] at h2
      have h4 := hB _ (List.mem_of_getElem? h2)
      rw [x_gb_key hh h3] at h1
      split at h1 <;> omega
  rw [x_ord_ins s t n hc ht, ho, e, List.take_left, List.drop_left]
theorem m_sel_key {σ τ : fS} {how t n : Int} (hh : 0 ≤ how ∧ how ≤ 2) (hR : Rs σ τ) (hn : 1 ≤ n ∧ n ≤ 40) (h3 : ∀ i, 0 ≤ σ.2 3 i ∧ σ.2 3 i ≤ 1) (ht : 0 ≤ t ∧ t ≤ m_last how) (hs : m_sel τ 1 how t n) : σ.2 2 n.toNat = 1 ∧ x_key σ how n = t := by
  obtain ⟨-, h1, h2⟩ := hs
  obtain ⟨e1, -, -, e4⟩ := hR n.toNat (by omega) (by omega)
  have hth : σ.2 2 n.toNat = 1 := by rw [e1]; exact h1
  obtain ⟨f1, f2, -⟩ := e4 hth
  refine ⟨hth, ?_⟩
  have a := h3 n.toNat
  unfold x_key
  unfold m_last at ht
  rcases (show how = 0 ∨ how = 1 ∨ how = 2 by omega) with e | e | e
  · subst e
    rw [if_neg (by decide), if_neg (by decide)] at ht ⊢
    omega
  · subst e
    rw [if_pos rfl]
    omega
  · subst e
    rw [if_neg (by decide), if_pos rfl] at ht ⊢
    rcases h2 with h2 | ⟨-, h2⟩ | h2
    · omega
    · rcases h2 with ⟨q1, q2⟩ | ⟨q1, q2⟩
      · rw [if_pos (by omega)]; omega
      · rw [if_neg (by omega)]; omega
    · omega
theorem m_sel_ex {σ τ : fS} {how n : Int} (hh : 0 ≤ how ∧ how ≤ 2) (hR : Rs σ τ) (hn : 1 ≤ n ∧ n ≤ 40) (h3 : ∀ i, 0 ≤ σ.2 3 i ∧ σ.2 3 i ≤ 1) (h4 : ∀ i, 0 ≤ σ.2 4 i ∧ σ.2 4 i ≤ 120) (hth : σ.2 2 n.toNat = 1) : ∃ t : Nat, t < m_last how + 1 ∧ (t : Int) = x_key σ how n ∧ m_sel τ 1 how (t : Int) n := by
  obtain ⟨e1, -, -, e4⟩ := hR n.toNat (by omega) (by omega)
  obtain ⟨f1, f2, -⟩ := e4 hth
  have a := h3 n.toNat
  have b := h4 n.toNat
  have h1 : τ.2 1 n.toNat = 1 := by rw [← e1]; exact hth
  unfold x_key m_last
  rcases (show how = 0 ∨ how = 1 ∨ how = 2 by omega) with e | e | e
  · subst e
    exact ⟨0, by omega, by simp, Or.inl ⟨rfl, h1⟩, h1, Or.inr (Or.inr ⟨by decide, by decide⟩)⟩
  · subst e
    rw [if_pos rfl, if_pos rfl]
    exact ⟨(σ.2 4 n.toNat).toNat, by omega, by omega, Or.inl ⟨rfl, h1⟩, h1, Or.inl ⟨rfl, by omega⟩⟩
  · subst e
    rw [if_neg (by decide), if_pos rfl, if_neg (by decide), if_pos rfl]
    by_cases g : σ.2 3 n.toNat = 1
    · rw [if_pos g]
      exact ⟨0, by omega, rfl, Or.inl ⟨rfl, h1⟩, h1, Or.inr (Or.inl ⟨rfl, Or.inl ⟨by omega, rfl⟩⟩)⟩
    · rw [if_neg g]
      exact ⟨1, by omega, rfl, Or.inl ⟨rfl, h1⟩, h1, Or.inr (Or.inl ⟨rfl, Or.inr ⟨by omega, by decide⟩⟩)⟩
theorem x_key_cg {s σ : fS} (h : ∀ a b, a ≠ 376 → s.2 a b = σ.2 a b) (how n : Int) : x_key s how n = x_key σ how n := by
  unfold x_key
  rw [h 4 _ (by decide), h 3 _ (by decide)]
theorem x_chR_ord {F τ : fS} {how : Int} (hh : 0 ≤ how ∧ how ≤ 2) (hR : Rs F τ) (h0 : F.1 374 4 = 0) (h2 : ∀ i, 0 ≤ F.2 2 i ∧ F.2 2 i ≤ 1) (h3 : ∀ i, 0 ≤ F.2 3 i ∧ F.2 3 i ≤ 1) (h4 : ∀ i, 0 ≤ F.2 4 i ∧ F.2 4 i ≤ 120) : ∀ (k : Nat) (C : fS), k ≤ 40 → x_chR F how k C → x_ord C = m_tk2 τ 1 how k (m_last how + 1) := by
  intro k
  induction k with
  | zero =>
    intro C _ h
    have e : C = F := h
    rw [e, m_tk2_0]
    unfold x_ord
    rw [h0]
    rfl
  | succ k ih =>
    intro C hk h
    obtain ⟨y, hy, h⟩ := h
    have io := ih y (by omega) hy
    obtain ⟨i1, i2, i3, i4⟩ := x_chR_I h0 k y (by omega) hy
    have hkt : ((k : Int) + 1).toNat = k + 1 := by omega
    rcases h with ⟨hth, hins⟩ | ⟨hth, rfl⟩
    · obtain ⟨t, ht, hkey, hsel⟩ := m_sel_ex (n := (k : Int) + 1) hh hR (by omega) h3 h4 (by rw [hkt]; exact hth)
      obtain ⟨u, hu⟩ : ∃ u, m_last how + 1 = t + 1 + u := ⟨m_last how - t, by omega⟩
      have huniq : ∀ v : Nat, v < t + 1 + u → v ≠ t → ¬ m_sel τ 1 how (v : Int) ((k : Int) + 1) := fun v hv hne hs => by
        have := m_sel_u hh (by omega) (by omega) hs hsel
        omega
      rw [hu, m_tk2_in τ 1 how k t u hsel huniq]
      rw [hu, m_tk2_add] at io
      refine x_ins_ord hh (fun i => by rw [i3 3 i (by decide)]; exact h3 i) i1.1 io (fun x hx => ?_) (fun x hx => ?_) hins
      · obtain ⟨v, hv, hm⟩ := m_tk2_el τ 1 how k (t + 1) x hx
        obtain ⟨hs, x1, x2⟩ := m_turn_el τ 1 how (v : Int) k x hm
        rw [x_key_cg i3, x_key_cg i3, (m_sel_key hh hR (by omega) h3 (by omega) hs).2, ← hkey]
        omega
      · obtain ⟨v, hv1, hv2, hm⟩ := m_tkr_el τ 1 how k (t + 1) u x hx
        obtain ⟨hs, x1, x2⟩ := m_turn_el τ 1 how (v : Int) k x hm
        rw [x_key_cg i3, x_key_cg i3, (m_sel_key hh hR (by omega) h3 (by omega) hs).2, ← hkey]
        omega
    · rw [io, m_tk2_no]
      intro t ht hs
      have := (m_sel_key hh hR (by omega) h3 (by omega) hs).1
      rw [hkt] at this
      omega
/-- the choosing of an append is the turn's list -/
theorem x_ccF_ord {F τ : fS} (hR : Rs F τ) (h0 : F.1 374 4 = 0) : ∀ (k : Nat), k ≤ 40 → x_ccR F k (x_ccF F k) → x_ord (x_ccF F k) = m_turn τ 0 0 0 k := by
  intro k
  induction k with
  | zero =>
    intro _ _
    show x_ord F = []
    unfold x_ord
    rw [h0]
    rfl
  | succ k ih =>
    intro hk h
    obtain ⟨y, hy, h⟩ := h
    have ey := x_ccR_F h0 k y (by omega) hy
    rw [ey] at hy h
    have io := ih (by omega) hy
    obtain ⟨i1, -⟩ := x_ccR_I h0 k _ (by omega) hy
    obtain ⟨e1, e2, -, -⟩ := hR (k + 1) (by omega) (by omega)
    have hkt : ((k : Int) + 1).toNat = k + 1 := by omega
    show _ = m_turn τ 0 0 0 k ++ cif (m_sel τ 0 0 0 ((k : Int) + 1)) [(k : Int) + 1] []
    rw [← io]
    rcases h with ⟨g1, g2⟩ | ⟨g1, g2, g3⟩ | ⟨g1, g2, g3⟩
    · rw [g2, cif_neg, List.append_nil]
      intro hs
      obtain ⟨hs, -, -⟩ := hs
      rw [hkt] at hs
      omega
    · rw [x_ins0 i1.1 g3, x_ord_ins _ _ _ i1.1 (by omega), ← x_ord_len, List.take_length, List.drop_length, cif_pos]
      refine ⟨Or.inr ⟨rfl, ?_⟩, ?_, Or.inr (Or.inr ⟨by decide, by decide⟩)⟩
      · rw [hkt, ← e2]; exact g1
      · rw [hkt, ← e1]; exact g2
    · rw [cif_neg, List.append_nil]
      · rw [g3]; rfl
      · intro hs
        have := hs.2.1
        rw [hkt] at this
        omega
