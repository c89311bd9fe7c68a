/-- the place of a record, once written, doesn't depend on what was there before -/
theorem m_recs_ra (l : List Int) : ∀ (σ τ : fS), σ.1 0 16 = τ.1 0 16 → (∀ i, τ.2 5 i = σ.2 5 i) → (∀ i, τ.2 6 i = σ.2 6 i) → ∀ i, (i ∈ l.map Int.toNat ∨ σ.2 13 i = τ.2 13 i) → (m_recs σ l).2 13 i = (m_recs τ l).2 13 i := by
  induction l with
  | nil =>
    intro σ τ _ _ _ i h
    rcases h with h | h
    · simp at h
    · exact h
  | cons x r ih =>
    intro σ τ h16 h5 h6 i h
    show (m_recs (m_puts (m_r0 σ x) (m_rec σ x)) r).2 13 i = (m_recs (m_puts (m_r0 τ x) (m_rec τ x)) r).2 13 i
    have e1 := m_one_1 σ x 0 16
    have e2 := m_one_1 τ x 0 16
    rw [if_pos ⟨rfl, rfl⟩] at e1 e2
    have e3 := (m_rec_congr h5 h6 x).1
    refine ih _ _ (by rw [e1, e2, e3, h16]) (fun j => by rw [m_one_2 _ _ _ _ (by decide) (by decide) (by decide), m_one_2 _ _ _ _ (by decide) (by decide) (by decide)]; exact h5 j) (fun j => by rw [m_one_2 _ _ _ _ (by decide) (by decide) (by decide), m_one_2 _ _ _ _ (by decide) (by decide) (by decide)]; exact h6 j) i ?_
    have f1 : ∀ s : fS, (m_puts (m_r0 s x) (m_rec s x)).2 13 i = if i = x.toNat then s.1 0 16 else s.2 13 i := by
      intro s
      rw [m_puts_2 _ _ _ _ (by decide)]
      unfold m_r0
      rw [p2_2, if_neg (by omega), p2_2]
      simp
    rw [f1, f1]
    by_cases hi : i = x.toNat
    · rw [if_pos hi, if_pos hi]; exact Or.inr h16
    · rw [if_neg hi, if_neg hi]
      rcases h with h | h
      · rw [List.map_cons, List.mem_cons] at h
        rcases h with h | h
        · exact absurd h hi
        · exact Or.inl h
      · exact Or.inr h
theorem m_turn_mem (σ : fS) (w how t : Int) (n : Nat) (h : m_sel σ w how t ((n : Int) + 1)) : ∀ k, n < k → ((n : Int) + 1) ∈ m_turn σ w how t k := by
  intro k
  induction k with
  | zero => intro h; exact absurd h (Nat.not_lt_zero _)
  | succ k ih =>
    intro hk
    unfold m_turn
    rw [List.mem_append]
    by_cases e : n = k
    · subst e
      rw [cif_pos h]
      exact Or.inr (List.mem_singleton.mpr rfl)
    · exact Or.inl (ih (by omega))
theorem m_turns_mem (σ : fS) (w how : Int) (t : Nat) (x : Int) (h : x ∈ m_turn σ w how (t : Int) 40) : ∀ k, t < k → x ∈ m_turns σ w how k := by
  intro k
  induction k with
  | zero => intro h; exact absurd h (Nat.not_lt_zero _)
  | succ k ih =>
    intro hk
    unfold m_turns
    rw [List.mem_append]
    by_cases e : t = k
    · subst e; exact Or.inr h
    · exact Or.inl (ih (by omega))
theorem m_all_in (σ : fS) (w how : Int) (n : Nat) (hn : n < 40) (hh : 0 ≤ how ∧ how ≤ 2) (hm : (w = 1 ∧ σ.2 1 (n + 1) = 1) ∨ (w = 0 ∧ σ.2 3 (n + 1) = 1)) (ht : σ.2 1 (n + 1) = 1) (h2 : 0 ≤ σ.2 2 (n + 1) ∧ σ.2 2 (n + 1) ≤ 1) (h5 : 0 ≤ σ.2 5 (n + 1) ∧ σ.2 5 (n + 1) ≤ 120) : ((n : Int) + 1) ∈ m_turns σ w how (m_last how + 1) := by
  have hnt : ((n : Int) + 1).toNat = n + 1 := by omega
  have hc : how = 0 ∨ how = 1 ∨ how = 2 := by omega
  rcases hc with rfl | rfl | rfl
  · exact m_turns_mem σ w 0 0 _ (m_turn_mem σ w 0 _ n (by unfold m_sel; rw [hnt]; exact ⟨hm, ht, Or.inr (Or.inr ⟨by decide, by decide⟩)⟩) 40 hn) _ (by show 0 < 0 + 1; omega)
  · exact m_turns_mem σ w 1 (σ.2 5 (n + 1)).toNat _ (m_turn_mem σ w 1 _ n (by unfold m_sel; rw [hnt]; exact ⟨hm, ht, Or.inl ⟨rfl, by omega⟩⟩) 40 hn) _ (by show _ < 120 + 1; omega)
  · by_cases hf : σ.2 2 (n + 1) = 1
    · exact m_turns_mem σ w 2 0 _ (m_turn_mem σ w 2 _ n (by unfold m_sel; rw [hnt]; exact ⟨hm, ht, Or.inr (Or.inl ⟨rfl, Or.inl ⟨hf, rfl⟩⟩)⟩) 40 hn) _ (by show 0 < 1 + 1; omega)
    · exact m_turns_mem σ w 2 1 _ (m_turn_mem σ w 2 _ n (by unfold m_sel; rw [hnt]; exact ⟨hm, ht, Or.inr (Or.inl ⟨rfl, Or.inr ⟨by omega, by decide⟩⟩)⟩) 40 hn) _ (by show 1 < 1 + 1; omega)
/-- two states that agree in what is written -/
def m_eqw (σ τ : fS) : Prop := ∀ k i, k = 1 ∨ k = 2 ∨ k = 3 ∨ k = 5 ∨ k = 6 → τ.2 k i = σ.2 k i
theorem m_body_2 (σ : fS) (a w how : Int) (k i : Nat) (h7 : k ≠ 7) (h13 : k ≠ 13) (h14 : k ≠ 14) : (m_body σ a w how).2 k i = σ.2 k i := by
  unfold m_body
  rw [m_recs_2 _ _ _ _ h7 h13 h14, m_puts_2 _ _ _ _ h7]
  rfl
theorem m_body_1 (σ : fS) (a w how : Int) (q : Nat) (h : q ≠ 16) : (m_body σ a w how).1 0 q = σ.1 0 q := by
  unfold m_body
  rw [m_recs_1, if_neg (by omega), m_puts_1, if_neg (by omega), p1_1, if_neg (by omega)]
theorem m_body_16 (σ : fS) (a w how : Int) : (m_body σ a w how).1 0 16 = a + (if w = 1 then [37, 70, 49, 10] else ([] : List Int)).length + m_rlen σ (m_turns σ w how (m_last how + 1)) := by
  unfold m_body
  rw [m_recs_next, m_puts_next, m_rlen_congr (σ := σ) (τ := m_puts (f_p1 σ 0 16 a) (if w = 1 then [37, 70, 49, 10] else [])) (fun i => m_puts_2 _ _ _ _ (by decide)) (fun i => m_puts_2 _ _ _ _ (by decide))]
  rfl
theorem m_eqw_t {σ τ : fS} (h : m_eqw σ τ) (w how : Int) (t : Nat) : m_turns τ w how t = m_turns σ w how t := m_turns_congr (fun i => h 1 i (by decide)) (fun i => h 2 i (by decide)) (fun i => h 3 i (by decide)) (fun i => h 5 i (by decide)) w how t
theorem m_eqw_16 {σ τ : fS} (h : m_eqw σ τ) (a w how : Int) : (m_body τ a w how).1 0 16 = (m_body σ a w how).1 0 16 := by
  rw [m_body_16, m_body_16, m_eqw_t h, m_rlen_congr (fun i => h 5 i (by decide)) (fun i => h 6 i (by decide))]
theorem m_eqw_row {σ τ : fS} (h : m_eqw σ τ) (a w how : Int) (hw : w = 0 ∨ w = 1) (hh : 0 ≤ how ∧ how ≤ 2) (h2 : ∀ i, 0 ≤ σ.2 2 i ∧ σ.2 2 i ≤ 1) (h5 : ∀ i, 0 ≤ σ.2 5 i ∧ σ.2 5 i ≤ 120) (k : Nat) (hk : k ≤ 40) : m_rows (m_body τ a w how) w k = m_rows (m_body σ a w how) w k := by
  induction k with
  | zero => rfl
  | succ k ih =>
    unfold m_rows
    rw [ih (by omega)]
    have e1 : m_mv (m_body τ a w how) w (k + 1) = m_mv (m_body σ a w how) w (k + 1) := by
      unfold m_mv
      rw [m_body_2 _ _ _ _ _ _ (by decide) (by decide) (by decide), m_body_2 _ _ _ _ _ _ (by decide) (by decide) (by decide), m_body_2 _ _ _ _ _ _ (by decide) (by decide) (by decide), m_body_2 _ _ _ _ _ _ (by decide) (by decide) (by decide), h 1 _ (by decide), h 3 _ (by decide)]
    rw [e1]
    congr 1
    by_cases hm : m_mv (m_body σ a w how) w (k + 1) = 1
    · rw [if_pos hm, if_pos hm]
      unfold m_row
      have hkt : ((k : Int) + 1).toNat = k + 1 := by omega
      rw [hkt, m_body_2 _ _ _ _ _ _ (by decide) (by decide) (by decide), m_body_2 σ _ _ _ _ _ (by decide) (by decide) (by decide), h 1 _ (by decide)]
      by_cases ht : σ.2 1 (k + 1) = 1
      · have hmm : (w = 1 ∧ σ.2 1 (k + 1) = 1) ∨ (w = 0 ∧ σ.2 3 (k + 1) = 1) := by
          rcases hw with rfl | rfl
          · unfold m_mv at hm
            rw [if_neg (by decide), m_body_2 _ _ _ _ _ _ (by decide) (by decide) (by decide)] at hm
            exact Or.inr ⟨rfl, hm⟩
          · exact Or.inl ⟨rfl, ht⟩
        have hin := m_all_in σ w how k (by omega) hh hmm ht (h2 _) (h5 _)
        have hra : (m_body τ a w how).2 13 (k + 1) = (m_body σ a w how).2 13 (k + 1) := by
          unfold m_body
          rw [m_eqw_t h]
          refine m_recs_ra _ _ _ ?_ (fun i => ?_) (fun i => ?_) _ (Or.inl ?_)
          · rw [m_puts_next, m_puts_next]; rfl
          · rw [m_puts_2 _ _ _ _ (by decide), m_puts_2 _ _ _ _ (by decide)]; exact (h 5 i (by decide)).symm
          · rw [m_puts_2 _ _ _ _ (by decide), m_puts_2 _ _ _ _ (by decide)]; exact (h 6 i (by decide)).symm
          · exact List.mem_map.mpr ⟨_, hin, hkt⟩
        rw [hra]
      · rw [if_neg ht, if_neg ht]
    · rw [if_neg hm, if_neg hm]
theorem m_eqw_cnt {σ τ : fS} (h : m_eqw σ τ) (a w how : Int) : m_cnt (m_mv (m_body τ a w how) w) 40 = m_cnt (m_mv (m_body σ a w how) w) 40 := by
  congr 1
  funext i
  unfold m_mv
  rw [m_body_2 _ _ _ _ _ _ (by decide) (by decide) (by decide), m_body_2 _ _ _ _ _ _ (by decide) (by decide) (by decide), m_body_2 _ _ _ _ _ _ (by decide) (by decide) (by decide), m_body_2 _ _ _ _ _ _ (by decide) (by decide) (by decide), h 1 _ (by decide), h 3 _ (by decide)]
/-- counted and written alike -/
theorem m_eqw_tail {σ τ : fS} (h : m_eqw σ τ) (a w how q : Int) (hw : w = 0 ∨ w = 1) (hh : 0 ≤ how ∧ how ≤ 2) (h2 : ∀ i, 0 ≤ σ.2 2 i ∧ σ.2 2 i ≤ 1) (h5 : ∀ i, 0 ≤ σ.2 5 i ∧ σ.2 5 i ≤ 120) : m_tail (m_body τ a w how) w q = m_tail (m_body σ a w how) w q := by
  unfold m_tail
  rw [m_eqw_cnt h, m_eqw_row h a w how hw hh h2 h5 40 (Nat.le_refl _), m_eqw_16 h]

