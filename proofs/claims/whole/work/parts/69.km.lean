section
def m_okA (a : Nat) (v : Int) : Prop :=
  if a = 1 ∨ a = 2 ∨ a = 3 ∨ a = 4 then 0 ≤ v ∧ v ≤ 1
  else if a = 5 ∨ a = 12 then 0 ≤ v ∧ v ≤ 120
  else if a = 6 ∨ a = 7 then -128 ≤ v ∧ v ≤ 127
  else if a = 8 then 0 ≤ v ∧ v ≤ 12000
  else if a = 9 ∨ a = 13 then 0 ≤ v ∧ v ≤ 99999
  else if a = 10 then -1 ≤ v ∧ v ≤ 99999
  else True
def m_okF (b : Nat) (v : Int) : Prop :=
  if b = 7 then 0 ≤ v ∧ v ≤ 12000
  else if b = 9 ∨ b = 28 then 0 ≤ v ∧ v ≤ 1
  else if b = 10 then 0 ≤ v ∧ v ≤ 60
  else if b = 29 then 0 ≤ v ∧ v ≤ 40
  else True
def m_okS (σ : fS) : Prop := ∀ i, σ.2 10 i ≠ -1 → 0 ≤ σ.2 11 i ∧ σ.2 11 i + σ.2 12 i ≤ 12000
def m_I (σ : fS) : Prop := (∀ b, m_okF b (σ.1 0 b)) ∧ (∀ a b, m_okA a (σ.2 a b)) ∧ m_okS σ ∧ (σ.1 0 7 ≠ 0 → 1 ≤ σ.1 0 10)
theorem m_okF_n (b : Nat) (v : Int) (h : ¬ (b = 7 ∨ b = 9 ∨ b = 10 ∨ b = 28 ∨ b = 29)) : m_okF b v := by
  unfold m_okF
  rw [if_neg (by omega), if_neg (by omega), if_neg (by omega), if_neg (by omega)]
  trivial
theorem m_okA_n (a : Nat) (v : Int) (h : 14 ≤ a ∨ a = 11 ∨ a = 0) : m_okA a v := by
  unfold m_okA
  rw [if_neg (by omega), if_neg (by omega), if_neg (by omega), if_neg (by omega), if_neg (by omega), if_neg (by omega)]
  trivial
section MI
variable {σ σ1 : fS}
theorem m_I_p (h : m_I σ) (q : Nat) (v : Int) (hq : ¬ (q = 7 ∨ q = 10)) (hv : m_okF q v) : m_I (f_p1 σ 0 q v) := by
  refine ⟨fun b => ?_, h.2.1, h.2.2.1, ?_⟩
  · rw [p1_1]
    by_cases g : 0 = 0 ∧ b = q
    · rw [if_pos g, g.2]; exact hv
    · rw [if_neg g]; exact h.1 b
  · rw [p1_1, if_neg (by omega), p1_1, if_neg (by omega)]; exact h.2.2.2
theorem m_I_a (h : m_I σ) (k q : Nat) (v : Int) (hk : k ≠ 10 ∧ k ≠ 11 ∧ k ≠ 12) (hv : m_okA k v) : m_I (f_p2 σ k q v) := by
  refine ⟨h.1, fun a b => ?_, fun i => ?_, h.2.2.2⟩
  · rw [p2_2]
    by_cases g : a = k ∧ b = q
    · rw [if_pos g, g.1]; exact hv
    · rw [if_neg g]; exact h.2.1 a b
  · rw [p2_2, if_neg (by omega), p2_2, if_neg (by omega), p2_2, if_neg (by omega)]
    exact h.2.2.1 i
theorem m_I_fr (h : m_I σ) (h1 : ∀ b, σ1.1 0 b = σ.1 0 b ∨ (b ≠ 7 ∧ b ≠ 10 ∧ m_okF b (σ1.1 0 b))) (h2 : ∀ a b, σ1.2 a b = σ.2 a b ∨ (a ≠ 10 ∧ a ≠ 11 ∧ a ≠ 12 ∧ m_okA a (σ1.2 a b))) : m_I σ1 := by
  have e7 : σ1.1 0 7 = σ.1 0 7 := (h1 7).elim id (fun g => absurd rfl g.1)
  have e10 : σ1.1 0 10 = σ.1 0 10 := (h1 10).elim id (fun g => absurd rfl g.2.1)
  have a10 : ∀ i, σ1.2 10 i = σ.2 10 i := fun i => (h2 10 i).elim id (fun g => absurd rfl g.1)
  have a11 : ∀ i, σ1.2 11 i = σ.2 11 i := fun i => (h2 11 i).elim id (fun g => absurd rfl g.2.1)
  have a12 : ∀ i, σ1.2 12 i = σ.2 12 i := fun i => (h2 12 i).elim id (fun g => absurd rfl g.2.2.1)
  refine ⟨fun b => (h1 b).elim (fun e => e ▸ h.1 b) (fun g => g.2.2), fun a b => (h2 a b).elim (fun e => e ▸ h.2.1 a b) (fun g => g.2.2.2), fun i hi => ?_, fun g => ?_⟩
  · rw [a10] at hi
    rw [a11, a12]
    exact h.2.2.1 i hi
  · rw [e7] at g
    rw [e10]
    exact h.2.2.2 g
end MI
/-! how long the records are together -/
theorem m_sel_u {σ : fS} {w how t u n : Int} (hh : 0 ≤ how ∧ how ≤ 2) (ht : 0 ≤ t ∧ t ≤ m_last how) (hu : 0 ≤ u ∧ u ≤ m_last how) (h1 : m_sel σ w how t n) (h2 : m_sel σ w how u n) : t = u := by
  obtain ⟨-, -, a⟩ := h1
  obtain ⟨-, -, b⟩ := h2
  unfold m_last at ht hu
  rcases (show how = 0 ∨ how = 1 ∨ how = 2 by omega) with e | e | e
  · subst e
    rw [if_neg (by decide), if_neg (by decide)] at ht hu
    omega
  · subst e
    omega
  · subst e
    rw [if_neg (by decide), if_pos rfl] at ht hu
    omega
noncomputable def m_is (σ : fS) (w how n : Int) : Nat → Nat
  | 0 => 0
  | t + 1 => m_is σ w how n t + cif (m_sel σ w how (t : Int) n) 1 0
theorem m_is_1 (σ : fS) (w how n : Int) (hh : 0 ≤ how ∧ how ≤ 2) : ∀ t : Nat, t ≤ m_last how + 1 → m_is σ w how n t = 0 ∨ (m_is σ w how n t = 1 ∧ ∃ u : Nat, u < t ∧ m_sel σ w how (u : Int) n) := by
  intro t
  induction t with
  | zero => intro _; exact Or.inl rfl
  | succ t ih =>
    intro ht
    show m_is σ w how n t + cif (m_sel σ w how (t : Int) n) 1 0 = 0 ∨ (m_is σ w how n t + cif (m_sel σ w how (t : Int) n) 1 0 = 1 ∧ _)
    by_cases g : m_sel σ w how (t : Int) n
    · rw [cif_pos g]
      rcases ih (by omega) with e | ⟨-, u, hu, hs⟩
      · exact Or.inr ⟨by omega, t, by omega, g⟩
      · have := m_sel_u hh (by omega) (by omega) g hs
        omega
    · rw [cif_neg g]
      rcases ih (by omega) with e | ⟨e, u, hu, hs⟩
      · exact Or.inl (by omega)
      · exact Or.inr ⟨by omega, u, by omega, hs⟩
noncomputable def m_tl (σ : fS) (w how : Int) (k : Nat) : Nat → Nat
  | 0 => 0
  | t + 1 => m_tl σ w how k t + (m_turn σ w how (t : Int) k).length
theorem m_tl_s (σ : fS) (w how : Int) (k : Nat) : ∀ t, m_tl σ w how (k + 1) t = m_tl σ w how k t + m_is σ w how ((k : Int) + 1) t := by
  intro t
  induction t with
  | zero => rfl
  | succ t ih =>
    show m_tl σ w how (k + 1) t + (m_turn σ w how (t : Int) k ++ cif (m_sel σ w how (t : Int) ((k : Int) + 1)) [(k : Int) + 1] []).length = m_tl σ w how k t + (m_turn σ w how (t : Int) k).length + (m_is σ w how ((k : Int) + 1) t + cif (m_sel σ w how (t : Int) ((k : Int) + 1)) 1 0)
    rw [ih, List.length_append]
    by_cases g : m_sel σ w how (t : Int) ((k : Int) + 1)
    · rw [cif_pos g, cif_pos g]; show _ + (_ + 1) = _; omega
    · rw [cif_neg g, cif_neg g]; show _ + (_ + 0) = _; omega
theorem m_tl_le (σ : fS) (w how : Int) (hh : 0 ≤ how ∧ how ≤ 2) (t : Nat) (ht : t ≤ m_last how + 1) : ∀ k, m_tl σ w how k t ≤ k := by
  intro k
  induction k with
  | zero =>
    have : ∀ t, m_tl σ w how 0 t = 0 := by
      intro t
      induction t with
      | zero => rfl
      | succ t ih => show m_tl σ w how 0 t + 0 = 0; rw [ih]
    rw [this]
    exact Nat.le_refl _
  | succ k ih =>
    rw [m_tl_s]
    have := m_is_1 σ w how ((k : Int) + 1) hh t ht
    omega
theorem m_turns_len (σ : fS) (w how : Int) : ∀ t, (m_turns σ w how t).length = m_tl σ w how 40 t := by
  intro t
  induction t with
  | zero => rfl
  | succ t ih =>
    show (m_turns σ w how t ++ m_turn σ w how (t : Int) 40).length = _
    rw [List.length_append, ih]
    rfl
theorem m_turn_r (σ : fS) (w how t : Int) : ∀ k, ∀ x ∈ m_turn σ w how t k, 1 ≤ x ∧ x ≤ (k : Int) := by
  intro k
  induction k with
  | zero => intro x hx; cases hx
  | succ k ih =>
    intro x hx
    have hx : x ∈ m_turn σ w how t k ++ cif (m_sel σ w how t ((k : Int) + 1)) [(k : Int) + 1] [] := hx
    rcases List.mem_append.mp hx with h | h
    · have := ih x h; push_cast; omega
    · by_cases g : m_sel σ w how t ((k : Int) + 1)
      · rw [cif_pos g, List.mem_singleton] at h; push_cast; omega
      · rw [cif_neg g] at h; cases h
theorem m_turns_r (σ : fS) (w how : Int) : ∀ t, ∀ x ∈ m_turns σ w how t, 1 ≤ x ∧ x ≤ 40 := by
  intro t
  induction t with
  | zero => intro x hx; cases hx
  | succ t ih =>
    intro x hx
    have hx : x ∈ m_turns σ w how t ++ m_turn σ w how (t : Int) 40 := hx
    rcases List.mem_append.mp hx with h | h
    · exact ih x h
    · exact m_turn_r σ w how (t : Int) 40 x h
theorem m_rlen_b (σ : fS) (h5 : ∀ i, 0 ≤ σ.2 5 i ∧ σ.2 5 i ≤ 120) : ∀ l : List Int, (∀ x ∈ l, 1 ≤ x ∧ x ≤ 40) → m_rlen σ l ≤ 130 * l.length := by
  intro l
  induction l with
  | nil => intro _; exact Nat.le_refl _
  | cons n r ih =>
    intro h
    have h1 := ih (fun x hx => h x (List.mem_cons_of_mem _ hx))
    have hn := h n List.mem_cons_self
    have h2 := m_rec_len σ n
    have h3 := x_dig2 (v := n) (by omega)
    have h4 := x_dig3 (v := σ.2 5 n.toNat) (by have := h5 n.toNat; omega)
    have h6 := h5 n.toNat
    show (m_rec σ n).length + m_rlen σ r ≤ 130 * (r.length + 1)
    omega
theorem m_rl (σ : fS) (w how : Int) (hh : 0 ≤ how ∧ how ≤ 2) (h5 : ∀ i, 0 ≤ σ.2 5 i ∧ σ.2 5 i ≤ 120) : m_rlen σ (m_turns σ w how (m_last how + 1)) ≤ 5200 := by
  have h1 := m_rlen_b σ h5 _ (m_turns_r σ w how (m_last how + 1))
  have h2 := m_turns_len σ w how (m_last how + 1)
  have h3 := m_tl_le σ w how hh (m_last how + 1) (Nat.le_refl _) 40
  omega
theorem m_tail_b (B : fS) (w q : Int) : (m_tail B w q).length ≤ 504 := by
  rw [m_tail_len]
  have h1 := m_tell_len 120 (m_cnt (m_mv B w) 40)
  have h2 := m_tell_len 112 q
  have h3 := m_tell_len 101 (B.1 0 16)
  have h4 := (m_rows_le B w 40 0).2
  omega
/-! the bytes that are put -/
theorem m_puts_7 : ∀ (L : List Int) (σ : fS), x_byR L → (∀ i, -128 ≤ σ.2 7 i ∧ σ.2 7 i ≤ 127) → ∀ i, -128 ≤ (m_puts σ L).2 7 i ∧ (m_puts σ L).2 7 i ≤ 127 := by
  intro L
  induction L with
  | nil => intro σ _ h; exact h
  | cons x r ih =>
    intro σ hL h
    refine ih (m_put σ x) (fun y hy => hL y (List.mem_cons_of_mem _ hy)) (fun i => ?_)
    rw [m_put_2]
    split
    · exact hL x List.mem_cons_self
    · exact h i
theorem m_byR_rec {σ : fS} (n : Int) (h6 : ∀ i, -128 ≤ σ.2 6 i ∧ σ.2 6 i ≤ 127) : x_byR (m_rec σ n) := by
  unfold m_rec m_hdr
  refine x_byR_app (x_byR_app (x_byR_app (x_byR_app (x_byR_app (x_byR_app (fun x hx => ?_) (x_byR_dig _)) (x_byR_1 (by omega))) (x_byR_dig _)) (x_byR_1 (by omega))) (fun x hx => ?_)) (x_byR_1 (by omega))
  · simp only [List.mem_cons, List.not_mem_nil, or_false] at hx; omega
  · unfold m_byt at hx
    obtain ⟨j, -, rfl⟩ := List.mem_map.mp hx
    exact h6 _
theorem m_byR_row (σ : fS) (n : Int) : x_byR (m_row σ n) := by
  unfold m_row
  refine x_byR_app (x_byR_app (x_byR_app (x_byR_dig _) (x_byR_1 (by omega))) ?_) (x_byR_1 (by omega))
  split
  · exact x_byR_dig _
  · exact x_byR_1 (by omega)
theorem m_byR_rows (B : fS) (w : Int) : ∀ k, x_byR (m_rows B w k) := by
  intro k
  induction k with
  | zero => intro x hx; cases hx
  | succ k ih =>
    show x_byR (m_rows B w k ++ _)
    refine x_byR_app ih ?_
    split
    · exact m_byR_row _ _
    · intro x hx; cases hx
theorem m_byR_tail (B : fS) (w q : Int) : x_byR (m_tail B w q) := x_byR_app (x_byR_app (x_byR_app (x_byR_tell (by omega) _) (m_byR_rows _ _ _)) (x_byR_tell (by omega) _)) (x_byR_tell (by omega) _)
theorem m_recs_7 : ∀ (l : List Int) (σ : fS), (∀ i, -128 ≤ σ.2 6 i ∧ σ.2 6 i ≤ 127) → (∀ i, -128 ≤ σ.2 7 i ∧ σ.2 7 i ≤ 127) → ∀ i, -128 ≤ (m_recs σ l).2 7 i ∧ (m_recs σ l).2 7 i ≤ 127 := by
  intro l
  induction l with
  | nil => intro σ _ h; exact h
  | cons n r ih =>
    intro σ h6 h7
    refine ih (m_puts (m_r0 σ n) (m_rec σ n)) (fun i => by rw [m_one_2 _ _ _ _ (by decide) (by decide) (by decide)]; exact h6 i) (fun i => m_puts_7 _ _ (m_byR_rec n h6) (fun i => ?_) i)
    unfold m_r0
    rw [p2_2, if_neg (by omega), p2_2, if_neg (by omega)]
    exact h7 i
/-- where the bytes of a written record lie -/
theorem m_recs_14 : ∀ (l : List Int) (σ : fS), 0 ≤ σ.1 0 16 → (∀ i, 0 ≤ σ.2 5 i ∧ σ.2 5 i ≤ 120) → ∀ i : Nat, (i ∈ l.map Int.toNat ∨ (0 ≤ σ.2 14 i ∧ σ.2 14 i + σ.2 5 i ≤ σ.1 0 16)) → 0 ≤ (m_recs σ l).2 14 i ∧ (m_recs σ l).2 14 i + σ.2 5 i ≤ (m_recs σ l).1 0 16 := by
  intro l
  induction l with
  | nil =>
    intro σ _ _ i h
    rcases h with h | h
    · cases h
    · exact h
  | cons n r ih =>
    intro σ h0 h5 i h
    have e5 : ∀ i, (m_puts (m_r0 σ n) (m_rec σ n)).2 5 i = σ.2 5 i := fun i => m_one_2 _ _ _ _ (by decide) (by decide) (by decide)
    have e16 : (m_puts (m_r0 σ n) (m_rec σ n)).1 0 16 = σ.1 0 16 + (m_rec σ n).length := by rw [m_one_1, if_pos ⟨rfl, rfl⟩]
    have key := ih (m_puts (m_r0 σ n) (m_rec σ n)) (by rw [e16]; omega) (fun i => by rw [e5]; exact h5 i) i
    rw [e5] at key
    refine key ?_
    by_cases g : i = n.toNat
    · right
      have e14 : (m_puts (m_r0 σ n) (m_rec σ n)).2 14 i = σ.1 0 16 + (m_hdr σ n).length := by
        rw [m_puts_2 _ _ _ _ (by decide)]; unfold m_r0; rw [p2_2, if_pos ⟨rfl, g⟩]
      have hl : (m_rec σ n).length = (m_hdr σ n).length + (σ.2 5 n.toNat).toNat + 1 := by
        unfold m_rec
        rw [List.length_append, List.length_append, m_byt_len]
        rfl
      have h5n := h5 n.toNat
      rw [e14, e16, hl, g]
      omega
    · rcases h with h | h
      · left
        rcases List.mem_cons.mp h with h | h
        · exact absurd h g
        · exact h
      · right
        have e14 : (m_puts (m_r0 σ n) (m_rec σ n)).2 14 i = σ.2 14 i := by
          rw [m_puts_2 _ _ _ _ (by decide)]; unfold m_r0; rw [p2_2, if_neg (by omega), p2_2, if_neg (by omega)]
        rw [e14, e16]
        omega
/-- what a PART leaves -/
theorem m_part_f {σ : fS} {a w how : Int} (hI : m_I σ) (ha : 0 ≤ a ∧ a ≤ 12000) (hw : w = 0 ∨ w = 1) (hh : 0 ≤ how ∧ how ≤ 2) : (∀ k i, k ≠ 7 → k ≠ 13 → k ≠ 14 → (m_part σ a w how).2 k i = σ.2 k i) ∧ (∀ q, q ≠ 16 → q ≠ 26 → (m_part σ a w how).1 0 q = σ.1 0 q) ∧ ((m_part σ a w how).1 0 16 = (m_body σ a w how).1 0 16 + (m_tail (m_body σ a w how) w (m_pq σ w)).length ∧ (m_part σ a w how).1 0 26 = (m_body σ a w how).1 0 16 ∧ a ≤ (m_body σ a w how).1 0 16 ∧ (m_part σ a w how).1 0 16 ≤ a + 5708 ∧ a < (m_part σ a w how).1 0 16) ∧ (∀ i, 0 ≤ (m_part σ a w how).2 13 i ∧ (m_part σ a w how).2 13 i ≤ 99999) ∧ (∀ i, -128 ≤ (m_part σ a w how).2 7 i ∧ (m_part σ a w how).2 7 i ≤ 127) ∧ ∀ n : Nat, 1 ≤ n → n ≤ 40 → m_mv σ w n = 1 → σ.2 1 n = 1 → 0 ≤ (m_part σ a w how).2 14 n ∧ (m_part σ a w how).2 14 n + σ.2 5 n ≤ (m_part σ a w how).1 0 16 := by
  have h5 : ∀ i, 0 ≤ σ.2 5 i ∧ σ.2 5 i ≤ 120 := fun i => hI.2.1 5 i
  have h16 := m_body_16 σ a w how
  have hrl := m_rl σ w how hh h5
  have htb := m_tail_b (m_body σ a w how) w (m_pq σ w)
  have htl := m_tail_len (m_body σ a w how) w (m_pq σ w)
  have ht1 := m_tell_len 120 (m_cnt (m_mv (m_body σ a w how) w) 40)
  have hfl : ((if w = 1 then [37, 70, 49, 10] else ([] : List Int)).length : Int) ≤ 4 := by split <;> decide
  have e16 : (m_part σ a w how).1 0 16 = (m_body σ a w how).1 0 16 + (m_tail (m_body σ a w how) w (m_pq σ w)).length := by
    unfold m_part
    rw [p1_1, if_neg (by decide), m_puts_next]
  have e2 : ∀ k i, k ≠ 7 → (m_part σ a w how).2 k i = (m_body σ a w how).2 k i := fun k i h => by
    unfold m_part
    rw [p1_2, m_puts_2 _ _ _ _ h]
  have hS1 : (m_puts (f_p1 σ 0 16 a) (if w = 1 then [37, 70, 49, 10] else [])).1 0 16 = a + (if w = 1 then [37, 70, 49, 10] else ([] : List Int)).length := by
    rw [m_puts_next, p1_1, if_pos ⟨rfl, rfl⟩]
  have hS2 : ∀ k i, k ≠ 7 → (m_puts (f_p1 σ 0 16 a) (if w = 1 then [37, 70, 49, 10] else [])).2 k i = σ.2 k i := fun k i h => by
    rw [m_puts_2 _ _ _ _ h]; rfl
  refine ⟨fun k i k7 k13 k14 => ?_, fun q q16 q26 => ?_, ⟨e16, ?_, by omega, by omega, by omega⟩, fun i => ?_, fun i => ?_, fun n n1 n40 hmv hth => ?_⟩
  · rw [e2 k i k7, m_body_2 _ _ _ _ _ _ k7 k13 k14]
  · unfold m_part
    rw [p1_1, if_neg (by omega), m_puts_1, if_neg (by omega), m_body_1 _ _ _ _ _ q16]
  · unfold m_part
    rw [p1_1, if_pos ⟨rfl, rfl⟩]
  · rw [e2 13 i (by decide)]
    refine m_recs_13 _ _ (by rw [hS1]; omega) ?_ (fun i => by rw [hS2 13 i (by decide)]; exact hI.2.1 13 i) i
    rw [hS1, m_rlen_congr (σ := σ) (fun i => hS2 5 i (by decide)) (fun i => hS2 6 i (by decide))]
    omega
  · unfold m_part
    rw [p1_2]
    have hfb : x_byR (if w = 1 then [37, 70, 49, 10] else ([] : List Int)) := by
      intro x hx
      split at hx
      · simp only [List.mem_cons, List.not_mem_nil, or_false] at hx; omega
      · cases hx
    have g1 : ∀ i, -128 ≤ (m_puts (f_p1 σ 0 16 a) (if w = 1 then [37, 70, 49, 10] else [])).2 7 i ∧ (m_puts (f_p1 σ 0 16 a) (if w = 1 then [37, 70, 49, 10] else [])).2 7 i ≤ 127 := m_puts_7 _ (f_p1 σ 0 16 a) hfb (fun i => hI.2.1 7 i)
    have g2 : ∀ i, -128 ≤ (m_body σ a w how).2 7 i ∧ (m_body σ a w how).2 7 i ≤ 127 := m_recs_7 (m_turns σ w how (m_last how + 1)) (m_puts (f_p1 σ 0 16 a) (if w = 1 then [37, 70, 49, 10] else [])) (fun i => by rw [hS2 6 i (by decide)]; exact hI.2.1 6 i) g1
    exact m_puts_7 _ (m_body σ a w how) (m_byR_tail _ _ _) g2 i
  · rw [e2 14 n (by decide)]
    have hin : ((n - 1 : Nat) : Int) + 1 ∈ m_turns σ w how (m_last how + 1) := by
      refine m_all_in σ w how (n - 1) (by omega) hh ?_ (by rw [show n - 1 + 1 = n by omega]; exact hth) (by rw [show n - 1 + 1 = n by omega]; exact hI.2.1 2 n) (by rw [show n - 1 + 1 = n by omega]; exact h5 n)
      rw [show n - 1 + 1 = n by omega]
      unfold m_mv at hmv
      rcases hw with e | e
      · right; rw [if_neg (by omega)] at hmv; exact ⟨e, hmv⟩
      · left; exact ⟨e, hth⟩
    have hin2 : n ∈ (m_turns σ w how (m_last how + 1)).map Int.toNat := List.mem_map.mpr ⟨_, hin, by omega⟩
    have := m_recs_14 _ (m_puts (f_p1 σ 0 16 a) (if w = 1 then [37, 70, 49, 10] else [])) (by rw [hS1]; omega) (fun i => by rw [hS2 5 i (by decide)]; exact h5 i) n (Or.inl hin2)
    rw [hS2 5 n (by decide)] at this
    have e : (m_recs (m_puts (f_p1 σ 0 16 a) (if w = 1 then [37, 70, 49, 10] else [])) (m_turns σ w how (m_last how + 1))) = m_body σ a w how := rfl
    rw [e] at this
    omega
theorem m_I_part {σ : fS} {a w how : Int} (hI : m_I σ) (ha : 0 ≤ a ∧ a ≤ 12000) (hw : w = 0 ∨ w = 1) (hh : 0 ≤ how ∧ how ≤ 2) : m_I (m_part σ a w how) := by
  obtain ⟨f1, f2, f3, f4, f5, -⟩ := m_part_f hI ha hw hh
  refine m_I_fr hI (fun b => ?_) (fun k i => ?_)
  · by_cases g : b = 16 ∨ b = 26
    · right; exact ⟨by omega, by omega, m_okF_n _ _ (by omega)⟩
    · left; exact f2 b (by omega) (by omega)
  · by_cases g7 : k = 7
    · subst g7; right; exact ⟨by decide, by decide, by decide, f5 i⟩
    · by_cases g13 : k = 13
      · subst g13; right; exact ⟨by decide, by decide, by decide, f4 i⟩
      · by_cases g14 : k = 14
        · right; exact ⟨by omega, by omega, by omega, m_okA_n _ _ (by omega)⟩
        · left; exact f1 k i g7 g13 g14
end
section
/-! putAll, write, append -/
noncomputable def m_pa (σ : fS) (a w how : Int) : fS := m_part (f_p1 σ 0 17 0) a w how
noncomputable def m_Q (σ : fS) (a w how : Int) : fS := f_p1 (f_p1 (m_pa σ a w how) 0 7 ((m_pa σ a w how).1 0 16)) 0 9 0
noncomputable def m_all (σ : fS) (a w how : Int) : fS := m_save (m_remd (m_Q σ a w how) w (m_rr (m_Q σ a w how) w)) 41
theorem m_I_all {σ : fS} {a w how : Int} (hI : m_I σ) (ha : 0 ≤ a ∧ a ≤ 12000) (hw : w = 0 ∨ w = 1) (hh : 0 ≤ how ∧ how ≤ 2) (hrv : w = 0 → 1 ≤ σ.1 0 10 ∧ σ.1 0 10 ≤ 59) (hf : (m_pa σ a w how).1 0 16 ≤ 12000) : m_I (m_all σ a w how) ∧ (m_all σ a w how).1 0 7 = (m_pa σ a w how).1 0 16 ∧ (m_all σ a w how).1 0 0 = σ.1 0 0 := by
  have hI0 : m_I (f_p1 σ 0 17 0) := m_I_p hI 17 0 (by decide) (m_okF_n _ _ (by decide))
  have hIP : m_I (m_pa σ a w how) := m_I_part hI0 ha hw hh
  obtain ⟨f1, f2, f3, f4, f5, f6⟩ := m_part_f hI0 ha hw hh
  have f1 : ∀ k i, k ≠ 7 → k ≠ 13 → k ≠ 14 → (m_pa σ a w how).2 k i = σ.2 k i := f1
  have f2 : ∀ q, q ≠ 16 → q ≠ 26 → (m_pa σ a w how).1 0 q = (f_p1 σ 0 17 0).1 0 q := f2
  have f6 : ∀ n : Nat, 1 ≤ n → n ≤ 40 → m_mv σ w n = 1 → σ.2 1 n = 1 → 0 ≤ (m_pa σ a w how).2 14 n ∧ (m_pa σ a w how).2 14 n + σ.2 5 n ≤ (m_pa σ a w how).1 0 16 := f6
  have f3 : (m_pa σ a w how).1 0 26 = (m_body (f_p1 σ 0 17 0) a w how).1 0 16 ∧ a ≤ (m_body (f_p1 σ 0 17 0) a w how).1 0 16 ∧ (m_pa σ a w how).1 0 16 = (m_body (f_p1 σ 0 17 0) a w how).1 0 16 + (m_tail (m_body (f_p1 σ 0 17 0) a w how) w (m_pq (f_p1 σ 0 17 0) w)).length ∧ a < (m_pa σ a w how).1 0 16 := ⟨f3.2.1, f3.2.2.1, f3.1, f3.2.2.2.2⟩
  obtain ⟨P, hP⟩ : ∃ s, s = m_pa σ a w how := ⟨_, rfl⟩
  rw [← hP] at f1 f2 f3 f6 hIP hf
  have hQ : m_Q σ a w how = f_p1 (f_p1 P 0 7 (P.1 0 16)) 0 9 0 := by rw [hP]; rfl
  have q1 : ∀ b, (m_Q σ a w how).1 0 b = if b = 9 then 0 else if b = 7 then P.1 0 16 else P.1 0 b := fun b => by
    rw [hQ, p1_1, p1_1]
    simp only [true_and]
  have q2 : ∀ k i, (m_Q σ a w how).2 k i = P.2 k i := fun k i => by rw [hQ]; rfl
  have hr : (m_rr (m_Q σ a w how) w : Int) ≤ 59 ∧ (w = 0 → 1 ≤ m_rr (m_Q σ a w how) w) := by
    unfold m_rr
    rcases hw with e | e
    · rw [if_neg (by omega), q1, if_neg (by decide), if_neg (by decide), f2 10 (by decide) (by decide), p1_1, if_neg (by decide)]
      have := hrv e
      omega
    · rw [if_pos e]
      exact ⟨by decide, fun g => by omega⟩
  obtain ⟨r, hrd⟩ : ∃ r, r = m_rr (m_Q σ a w how) w := ⟨_, rfl⟩
  obtain ⟨Q, hQd⟩ : ∃ s, s = m_Q σ a w how := ⟨_, rfl⟩
  have hA : m_all σ a w how = m_save (m_remd Q w r) 41 := by rw [hrd, hQd]; rfl
  rw [← hrd] at hr
  rw [← hQd] at q1 q2
  have a1 : ∀ b, (m_all σ a w how).1 0 b = if b = 10 then (r : Int) + 1 else Q.1 0 b := fun b => by
    rw [hA]
    show (m_remd Q w r).1 0 b = _
    unfold m_remd
    rw [p1_1]
    simp only [true_and]
    rfl
  have d2 : ∀ k i, (m_remd Q w r).2 k i = if k = 9 ∧ i = r then Q.1 0 26 else if k = 8 ∧ i = r then Q.1 0 7 else (m_rem Q w r 41).2 k i := fun k i => by
    unfold m_remd
    rw [p1_2, p2_2, p2_2]
  have a2 : ∀ k i, (m_all σ a w how).2 k i = if k = 3 ∧ 1 ≤ i ∧ i < 41 then 0 else if k = 4 ∧ 1 ≤ i ∧ i < 41 then (m_remd Q w r).2 1 i else (m_remd Q w r).2 k i := fun k i => by rw [hA]; rfl
  have d1 : ∀ i, (m_remd Q w r).2 1 i = P.2 1 i := fun i => by
    rw [d2, if_neg (by omega), if_neg (by omega), m_rem_o _ _ _ _ _ _ (by omega), q2]
  have hmv : ∀ n, m_mv Q w n = m_mv σ w n := fun n => by
    unfold m_mv
    rw [q2, q2, f1 1 n (by decide) (by decide) (by decide), f1 3 n (by decide) (by decide) (by decide)]
  have hm : ∀ k i, (k = 10 ∨ k = 11 ∨ k = 12) → (m_all σ a w how).2 k i = (m_rem Q w r 41).2 k i := fun k i hk => by
    rw [a2, if_neg (by omega), if_neg (by omega), d2, if_neg (by omega), if_neg (by omega)]
  have e7 : (m_all σ a w how).1 0 7 = P.1 0 16 := by rw [a1, if_neg (by decide), q1, if_neg (by decide), if_pos rfl]
  have e0 : (m_all σ a w how).1 0 0 = σ.1 0 0 := by rw [a1, if_neg (by decide), q1, if_neg (by decide), if_neg (by decide), f2 0 (by decide) (by decide), p1_1, if_neg (by decide)]
  refine ⟨⟨fun b => ?_, fun k i => ?_, fun i hi => ?_, fun _ => ?_⟩, by rw [e7, hP], e0⟩
  · rw [a1]
    by_cases g : b = 10
    · subst g; rw [if_pos rfl]; show 0 ≤ (r : Int) + 1 ∧ (r : Int) + 1 ≤ 60; omega
    · rw [if_neg g, q1]
      by_cases g9 : b = 9
      · subst g9; rw [if_pos rfl]; show (0 : Int) ≤ 0 ∧ (0 : Int) ≤ 1; omega
      · rw [if_neg g9]
        by_cases g7 : b = 7
        · subst g7; rw [if_pos rfl]; show 0 ≤ P.1 0 16 ∧ P.1 0 16 ≤ 12000; omega
        · rw [if_neg g7]; exact hIP.1 b
  · rw [a2]
    by_cases g3 : k = 3 ∧ 1 ≤ i ∧ i < 41
    · rw [if_pos g3, g3.1]; show (0 : Int) ≤ 0 ∧ (0 : Int) ≤ 1; omega
    · rw [if_neg g3]
      by_cases g4 : k = 4 ∧ 1 ≤ i ∧ i < 41
      · rw [if_pos g4, g4.1, d1]; exact hIP.2.1 1 i
      · rw [if_neg g4, d2]
        by_cases g9 : k = 9 ∧ i = r
        · rw [if_pos g9, g9.1, q1, if_neg (by decide), if_neg (by decide), f3.1]
          show 0 ≤ (m_body (f_p1 σ 0 17 0) a w how).1 0 16 ∧ (m_body (f_p1 σ 0 17 0) a w how).1 0 16 ≤ 99999
          omega
        · rw [if_neg g9]
          by_cases g8 : k = 8 ∧ i = r
          · rw [if_pos g8, g8.1, q1, if_neg (by decide), if_pos rfl]
            show 0 ≤ P.1 0 16 ∧ P.1 0 16 ≤ 12000
            omega
          · rw [if_neg g8]
            by_cases gm : (k = 10 ∨ k = 11 ∨ k = 12) ∧ 41 * r + 1 ≤ i ∧ i < 41 * r + 41
            · show m_okA k (if (k = 10 ∨ k = 11 ∨ k = 12) ∧ 41 * r + 1 ≤ i ∧ i < 41 * r + 41 then m_rv Q w k i (i - 41 * r) else Q.2 k i)
              rw [if_pos gm]
              by_cases gv : m_mv Q w (i - 41 * r) = 1
              · unfold m_rv
                rw [if_pos gv]
                rcases gm.1 with e | e | e
                · subst e
                  rw [if_pos rfl]
                  split
                  · rw [q2]; have := hIP.2.1 13 (i - 41 * r); have h13 : 0 ≤ P.2 13 (i - 41 * r) ∧ P.2 13 (i - 41 * r) ≤ 99999 := this; show -1 ≤ _ ∧ _ ≤ 99999; omega
                  · show (-1 : Int) ≤ -1 ∧ (-1 : Int) ≤ 99999; omega
                · exact m_okA_n _ _ (by omega)
                · subst e
                  rw [if_neg (by decide), if_neg (by decide), q2]
                  exact hIP.2.1 5 _
              · unfold m_rv
                rw [if_neg gv]
                split
                · rcases gm.1 with e | e | e
                  · subst e; rw [if_pos rfl]; show (-1 : Int) ≤ -1 ∧ (-1 : Int) ≤ 99999; omega
                  · exact m_okA_n _ _ (by omega)
                  · subst e; rw [if_neg (by decide), q2]; exact hIP.2.1 12 _
                · rw [q2]; exact hIP.2.1 k _
            · rw [m_rem_o _ _ _ _ _ _ gm, q2]; exact hIP.2.1 k i
  · rw [hm 10 i (by decide)] at hi
    rw [hm 11 i (by decide), hm 12 i (by decide)]
    by_cases gi : 41 * r + 1 ≤ i ∧ i < 41 * r + 41
    · have v : ∀ k, (k = 10 ∨ k = 11 ∨ k = 12) → (m_rem Q w r 41).2 k i = m_rv Q w k i (i - 41 * r) := fun k hk => if_pos ⟨hk, gi⟩
      rw [v 10 (by decide)] at hi
      rw [v 11 (by decide), v 12 (by decide)]
      unfold m_rv at hi ⊢
      by_cases gv : m_mv Q w (i - 41 * r) = 1
      · rw [if_pos gv, if_pos rfl] at hi
        rw [if_pos gv, if_neg (by decide), if_pos rfl, if_pos gv, if_neg (by decide), if_neg (by decide), q2, q2]
        have gt : Q.2 1 (i - 41 * r) = 1 := by
          by_cases g : Q.2 1 (i - 41 * r) = 1
          · exact g
          · rw [if_neg g] at hi; exact absurd rfl hi
        rw [q2, f1 1 _ (by decide) (by decide) (by decide)] at gt
        have := f6 (i - 41 * r) (by omega) (by omega) (by rw [← hmv]; exact gv) gt
        rw [f1 5 _ (by decide) (by decide) (by decide)]
        omega
      · rw [if_neg gv] at hi
        rw [if_neg gv, if_neg gv]
        by_cases gw : w = 1
        · rw [if_pos gw, if_pos rfl] at hi; exact absurd rfl hi
        · rw [if_neg gw, q2] at hi
          rw [if_neg gw, if_neg gw, q2, q2]
          exact hIP.2.2.1 _ hi
    · have v : ∀ k, (m_rem Q w r 41).2 k i = P.2 k i := fun k => by rw [m_rem_o _ _ _ _ _ _ (by omega), q2]
      rw [v] at hi
      rw [v, v]
      exact hIP.2.2.1 i hi
  · rw [a1, if_pos rfl]; omega
set_option maxRecDepth 100000 in
set_option maxHeartbeats 4000000 in
theorem kM_putAll (l : Launch) (xCl : List vw_C) (D : va_G) (cA : Nat → ClassId) (ad : Nat → Nat) (hJ : f_J (mG xCl D cA ad)) (σ : fS) (a w how : Int) (hI : m_I σ) (ha : 0 ≤ a ∧ a ≤ 12000) (hw : w = 0 ∨ w = 1) (hh : 0 ≤ how ∧ how ≤ 2) (hrv : w = 0 → 1 ≤ σ.1 0 10 ∧ σ.1 0 10 ≤ 59) (hf : (m_pa σ a w how).1 0 16 ≤ 12000) : f_M l (mG xCl D cA ad) mE yM_putAll (Cond.code yM_putAll cM_putAll 4 none :: A9) 5 σ [.ref (ad 0), .int (fI a), .int (fI w), .int (fI how)] (f_QV (fun σ1 => σ1 = m_all σ a w how) (mG xCl D cA ad)) := by
  refine f_enter (by decide +kernel) hJ rfl (Nat.le_of_ble_eq_true rfl) ?_
  intro z hzl hR C hRt hLk hEz
  subst hzl
  refine v_aload_n C dM_putAll_0 rfl rfl ?_
  refine v_iconst C dM_putAll_1 ?_
  refine v_putI (k := 0) (q := 17) C dM_putAll_2 (by show (0 : Nat) < 18; decide) rfl rfl (by decide) rfl inM tyM_ok nmM lM_78 rfl rfl rfl (fN_bool (by omega)) (fF_bool (by omega)) ?_
  refine v_aload_n C dM_putAll_5 rfl rfl ?_
  refine v_aload_n C dM_putAll_6 rfl rfl ?_
  refine v_iload_n C dM_putAll_7 rfl rfl ?_
  refine v_iload_n C dM_putAll_8 rfl rfl ?_
  refine v_iload_n C dM_putAll_9 rfl rfl ?_
  have hI0 : m_I (f_p1 σ 0 17 0) := m_I_p hI 17 0 (by decide) (m_okF_n _ _ (by decide))
  have hpf := (m_part_f hI0 ha hw hh).2.2.1
  have hrl := m_rl (f_p1 σ 0 17 0) w how hh (fun i => hI0.2.1 5 i)
  have h16 := m_body_16 (f_p1 σ 0 17 0) a w how
  have htl := m_tail_len (m_body (f_p1 σ 0 17 0) a w how) w (m_pq (f_p1 σ 0 17 0) w)
  have ht1 := m_tell_len 120 (m_cnt (m_mv (m_body (f_p1 σ 0 17 0) a w how) w) 40)
  have hpf2 : (m_pa σ a w how).1 0 16 = (m_body (f_p1 σ 0 17 0) a w how).1 0 16 + (m_tail (m_body (f_p1 σ 0 17 0) a w how) w (m_pq (f_p1 σ 0 17 0) w)).length := hpf.1
  have hbl : a + 4 + (m_rlen (f_p1 σ 0 17 0) (m_turns (f_p1 σ 0 17 0) w how (m_last how + 1)) : Int) ≤ 12000 := by
    rcases hw with e | e
    · subst e; rw [if_neg (by decide)] at h16; simp only [List.length_nil] at h16; omega
    · subst e; rw [if_pos rfl] at h16; simp only [List.length_cons, List.length_nil] at h16; omega
  refine v_cVI (k := 0) (n := 3) C (mE_ok _) trivial hR (kM_putPart _ xCl D cA ad hJ (f_p1 σ 0 17 0) a w how ha hw hh (fun h => by have := hrv h; show 1 ≤ σ.1 0 10 ∧ σ.1 0 10 ≤ 60; omega) (fun i => hI0.2.1 1 i) (fun i => hI0.2.1 2 i) (fun i => hI0.2.1 3 i) (fun i => hI0.2.1 5 i) (fun i => hI0.2.1 6 i) (fun i => hI0.2.1 9 i) (fun i => hI0.2.1 13 i) (Or.inl rfl) (by omega) (fun _ => by omega) (fun _ => hbl)) dM_putAll_10 (by show (0 : Nat) < 18; decide) rfl rfl gM_119 (by decide +kernel) (by decide) (by decide) rfl (Nat.le_of_ble_eq_true rfl) rfl ⟨rfl, rfl⟩ (fun r1 σ1 hp1 => ?_)
  obtain ⟨e1, e2⟩ := hp1
  subst r1
  obtain ⟨P, hP⟩ : ∃ s, s = m_pa σ a w how := ⟨_, rfl⟩
  have e3 : σ1 = P := by rw [e2, hP]; rfl
  subst σ1
  have e4 : m_part (f_p1 σ 0 17 0) a w how = P := by rw [hP]; rfl
  rw [e4] at e3
  refine v_st e4 ?_
  have hIP : m_I P := by rw [hP]; exact m_I_part hI0 ha hw hh
  have hP10 : P.1 0 10 = σ.1 0 10 := by rw [hP]; exact (m_part_f hI0 ha hw hh).2.1 10 (by decide) (by decide)
  rw [e4]
  refine v_putI (k := 0) (q := 7) C dM_putAll_13 (by show (0 : Nat) < 18; decide) rfl rfl (by decide) rfl inM tyM_ok nmM lM_116 rfl rfl rfl rfl rfl ?_
  refine v_aload_n C dM_putAll_16 rfl rfl ?_
  refine v_iconst C dM_putAll_17 ?_
  refine v_putI (k := 0) (q := 9) C dM_putAll_18 (by show (0 : Nat) < 18; decide) rfl rfl (by decide) rfl inM tyM_ok nmM lM_123 rfl rfl rfl (fN_bool (by omega)) (fF_bool (by omega)) ?_
  refine v_aload_n C dM_putAll_21 rfl rfl ?_
  refine v_iload_n C dM_putAll_22 rfl rfl ?_
  refine v_cVV (k := 0) (n := 1) C (mE_ok _) trivial hR (kM_remember _ xCl D cA ad hJ (f_p1 (f_p1 P 0 7 (P.1 0 16)) 0 9 0) w hw (fun h => by show 1 ≤ P.1 0 10 ∧ P.1 0 10 ≤ 59; rw [hP10]; exact hrv h) (fun i => hIP.2.1 1 i) (fun i => hIP.2.1 3 i)) dM_putAll_23 (by show (0 : Nat) < 18; decide) rfl rfl gM_126 (by decide +kernel) (by decide) (by decide) rfl (Nat.le_of_ble_eq_true rfl) rfl ⟨rfl, rfl⟩ (fun σ1 hp1 => ?_)
  subst σ1
  refine v_aload_n C dM_putAll_26 rfl rfl ?_
  refine v_cVV (k := 0) (n := 0) C (mE_ok _) trivial hR (kM_save _ xCl D cA ad hJ (m_remd (f_p1 (f_p1 P 0 7 (P.1 0 16)) 0 9 0) w (m_rr (f_p1 (f_p1 P 0 7 (P.1 0 16)) 0 9 0) w)) (fun i => by have hx : (m_remd (f_p1 (f_p1 P 0 7 (P.1 0 16)) 0 9 0) w (m_rr (f_p1 (f_p1 P 0 7 (P.1 0 16)) 0 9 0) w)).2 1 i = P.2 1 i := (by unfold m_remd; rw [p1_2, p2_2, if_neg (by omega), p2_2, if_neg (by omega), m_rem_o _ _ _ _ _ _ (by omega)]; rfl); rw [hx]; exact hIP.2.1 1 i)) dM_putAll_27 (by show (0 : Nat) < 18; decide) rfl rfl gM_130 (by decide +kernel) (by decide) (by decide) rfl (Nat.le_of_ble_eq_true rfl) rfl ⟨rfl, rfl⟩ (fun σ1 hp1 => ?_)
  subst σ1
  exact v_vret C hRt hLk dM_putAll_30 (by rw [hP]; rfl)
set_option maxRecDepth 100000 in
set_option maxHeartbeats 4000000 in
theorem kM_write (l : Launch) (xCl : List vw_C) (D : va_G) (cA : Nat → ClassId) (ad : Nat → Nat) (hJ : f_J (mG xCl D cA ad)) (σ : fS) (how : Int) (hh : 0 ≤ how ∧ how ≤ 2) (hI : m_I σ) : f_M l (mG xCl D cA ad) mE yM_write (Cond.code yM_write cM_write 2 (some .int) :: A9) 6 σ [.ref (ad 0), .int (fI how)] (f_QI (fun r σ1 => σ1 = m_all (m_part (f_p1 (f_p1 σ 0 0 0) 0 17 1) 0 1 how) 0 1 how ∧ r = σ1.1 0 7 ∧ m_I σ1 ∧ σ1.1 0 0 = 0) (mG xCl D cA ad)) := by
  refine f_enter (by decide +kernel) hJ rfl (Nat.le_of_ble_eq_true rfl) ?_
  intro z hzl hR C hRt hLk hEz
  subst hzl
  refine v_aload_n C dM_write_0 rfl rfl ?_
  refine v_iload_n C dM_write_1 rfl rfl ?_
  refine v_if_lt (tgt := 10) C dM_write_2 (by decide) (by omega) (fun hc1 => ?_) (fun hc1 => ?_)
  · exfalso; omega
  · refine v_iload_n C dM_write_5 rfl rfl ?_
    refine v_iconst C dM_write_6 ?_
    refine v_icmp_le (tgt := 14) C dM_write_7 (by decide) (by omega) (by omega) (fun hc2 => ?_) (fun hc2 => ?_)
    · refine v_iconst C dM_write_14 ?_
      refine v_putI (k := 0) (q := 0) C dM_write_15 (by show (0 : Nat) < 18; decide) rfl rfl (by decide) rfl inM tyM_ok nmM lM_63 rfl rfl rfl rfl rfl ?_
      refine v_aload_n C dM_write_18 rfl rfl ?_
      refine v_getI (k := 0) (q := 0) (v := 0) C dM_write_19 (by show (0 : Nat) < 18; decide) rfl rfl (by decide) rfl inM lM_63 rfl rfl ?_
      refine v_if_le (tgt := 27) C dM_write_22 (by decide) (by omega) (fun hc3 => ?_) (fun hc3 => ?_)
      · refine v_aload_n C dM_write_27 rfl rfl ?_
        refine v_iconst C dM_write_28 ?_
        refine v_putI (k := 0) (q := 17) C dM_write_29 (by show (0 : Nat) < 18; decide) rfl rfl (by decide) rfl inM tyM_ok nmM lM_78 rfl rfl rfl (fN_bool (by omega)) (fF_bool (by omega)) ?_
        refine v_aload_n C dM_write_32 rfl rfl ?_
        refine v_iconst C dM_write_33 ?_
        refine v_iconst C dM_write_34 ?_
        refine v_iload_n C dM_write_35 rfl rfl ?_
        have hI1 : m_I (f_p1 (f_p1 σ 0 0 0) 0 17 1) := m_I_p (m_I_p hI 0 0 (by decide) (m_okF_n _ _ (by decide))) 17 1 (by decide) (m_okF_n _ _ (by decide))
        have hpf := (m_part_f hI1 (show (0 : Int) ≤ 0 ∧ (0 : Int) ≤ 12000 by omega) (Or.inr rfl) hh).2.2.1
        have hrl := m_rl (f_p1 (f_p1 σ 0 0 0) 0 17 1) 1 how hh (fun i => hI1.2.1 5 i)
        refine v_cVI (k := 0) (n := 3) C (mE_ok _) trivial hR (kM_putPart _ xCl D cA ad hJ (f_p1 (f_p1 σ 0 0 0) 0 17 1) 0 1 how (by omega) (Or.inr rfl) hh (fun h => absurd h (by decide)) (fun i => hI1.2.1 1 i) (fun i => hI1.2.1 2 i) (fun i => hI1.2.1 3 i) (fun i => hI1.2.1 5 i) (fun i => hI1.2.1 6 i) (fun i => hI1.2.1 9 i) (fun i => hI1.2.1 13 i) (Or.inr rfl) (by omega) (fun h => absurd h (show ¬ (1 : Int) = 0 by decide)) (fun h => absurd h (show ¬ (1 : Int) = 0 by decide))) dM_write_36 (by show (0 : Nat) < 18; decide) rfl rfl gM_119 (by decide +kernel) (by decide) (by decide) rfl (Nat.le_of_ble_eq_true rfl) rfl ⟨rfl, rfl⟩ (fun r1 σ1 hp1 => ?_)
        obtain ⟨e1, e2⟩ := hp1
        subst r1
        obtain ⟨P, hP⟩ : ∃ s, s = m_part (f_p1 (f_p1 σ 0 0 0) 0 17 1) 0 1 how := ⟨_, rfl⟩
        subst σ1
        refine v_st hP.symm ?_
        rw [← hP] at hpf ⊢
        have hIP : m_I P := by rw [hP]; exact m_I_part hI1 (by omega) (Or.inr rfl) hh
        have hP0 : P.1 0 0 = 0 := by rw [hP, (m_part_f hI1 (show (0 : Int) ≤ 0 ∧ (0 : Int) ≤ 12000 by omega) (Or.inr rfl) hh).2.1 0 (by decide) (by decide)]; rfl
        refine v_sipush C dM_write_39 (by decide +kernel) ?_
        refine v_icmp_le (tgt := 52) C dM_write_42 (by decide) (by omega) (by omega) (fun hc4 => ?_) (fun hc4 => ?_)
        · refine v_aload_n C dM_write_52 rfl rfl ?_
          refine v_iconst C dM_write_53 ?_
          refine v_iconst C dM_write_54 ?_
          refine v_iload_n C dM_write_55 rfl rfl ?_
          have hI2 : m_I (f_p1 P 0 17 0) := m_I_p hIP 17 0 (by decide) (m_okF_n _ _ (by decide))
          have hpf2 := (m_part_f hI2 (show (0 : Int) ≤ 0 ∧ (0 : Int) ≤ 12000 by omega) (Or.inr rfl) hh).2.2.1
          have hpf3 : (m_pa P 0 1 how).1 0 16 ≤ 12000 := by show (m_part (f_p1 P 0 17 0) 0 1 how).1 0 16 ≤ 12000; omega
          obtain ⟨g1, g2, g3⟩ := m_I_all hIP (show (0 : Int) ≤ 0 ∧ (0 : Int) ≤ 12000 by omega) (Or.inr rfl) hh (fun h => absurd h (by decide)) hpf3
          refine v_cVV (k := 0) (n := 3) C (mE_ok _) trivial hR (kM_putAll _ xCl D cA ad hJ P 0 1 how hIP (by omega) (Or.inr rfl) hh (fun h => absurd h (by decide)) hpf3) dM_write_56 (by show (0 : Nat) < 18; decide) rfl rfl gM_133 (by decide +kernel) (by decide) (by decide) rfl (Nat.le_of_ble_eq_true rfl) rfl ⟨rfl, rfl⟩ (fun σ1 hp1 => ?_)
          obtain ⟨T, hT⟩ : ∃ s, s = m_all P 0 1 how := ⟨_, rfl⟩
          subst σ1
          refine v_st hT.symm ?_
          refine v_aload_n C dM_write_59 rfl rfl ?_
          refine v_getI (k := 0) (q := 7) (v := T.1 0 7) C dM_write_60 (by show (0 : Nat) < 18; decide) rfl rfl (by decide) rfl inM lM_116 rfl rfl ?_
          exact v_iret C hRt hLk dM_write_63 ⟨by rw [hT, hP], rfl, by rw [hT]; exact g1, by rw [hT, g3]; exact hP0⟩
        · exfalso; omega
      · exfalso; omega
    · exfalso; omega
set_option maxRecDepth 100000 in
set_option maxHeartbeats 4000000 in
theorem kM_append (l : Launch) (xCl : List vw_C) (D : va_G) (cA : Nat → ClassId) (ad : Nat → Nat) (hJ : f_J (mG xCl D cA ad)) (σ : fS) (hI : m_I σ) (hz : σ.1 0 7 ≠ 0) (ha : σ.1 0 9 = 0) : f_M l (mG xCl D cA ad) mE yM_append (Cond.code yM_append cM_append 2 (some .int) :: A9) 6 σ [.ref (ad 0)] (f_QI (fun r σ1 => (m_cnt (σ.2 3) 40 = 0 ∧ r = 0 ∧ σ1 = f_p1 σ 0 0 0) ∨ (m_cnt (σ.2 3) 40 ≠ 0 ∧ σ.1 0 10 = 60 ∧ r = 0 ∧ σ1 = f_p1 (f_p1 (f_p1 σ 0 0 0) 0 17 1) 0 0 2) ∨ (m_cnt (σ.2 3) 40 ≠ 0 ∧ σ.1 0 10 < 60 ∧ 12000 < (m_part (f_p1 (f_p1 σ 0 0 0) 0 17 1) (σ.1 0 7) 0 0).1 0 16 ∧ r = 0 ∧ σ1 = f_p1 (m_part (f_p1 (f_p1 σ 0 0 0) 0 17 1) (σ.1 0 7) 0 0) 0 0 2) ∨ (m_cnt (σ.2 3) 40 ≠ 0 ∧ σ.1 0 10 < 60 ∧ (m_part (f_p1 (f_p1 σ 0 0 0) 0 17 1) (σ.1 0 7) 0 0).1 0 16 ≤ 12000 ∧ σ1 = m_all (m_part (f_p1 (f_p1 σ 0 0 0) 0 17 1) (σ.1 0 7) 0 0) (σ.1 0 7) 0 0 ∧ r = σ1.1 0 7 - σ.1 0 7 ∧ m_I σ1 ∧ σ1.1 0 0 = 0)) (mG xCl D cA ad)) := by
  refine f_enter (by decide +kernel) hJ rfl (Nat.le_of_ble_eq_true rfl) ?_
  intro z hzl hR C hRt hLk hEz
  subst hzl
  have h7 : 0 ≤ σ.1 0 7 ∧ σ.1 0 7 ≤ 12000 := hI.1 7
  have h10 : 0 ≤ σ.1 0 10 ∧ σ.1 0 10 ≤ 60 := hI.1 10
  have h101 := hI.2.2.2 hz
  have hcn := m_cnt_le (σ.2 3) 40
  refine v_aload_n C dM_append_0 rfl rfl ?_
  refine v_aload_n C dM_append_1 rfl rfl ?_
  refine v_getI (k := 0) (q := 7) (v := σ.1 0 7) C dM_append_2 (by show (0 : Nat) < 18; decide) rfl rfl (by decide) rfl inM lM_116 rfl rfl ?_
  refine v_if_eq (tgt := 15) C dM_append_5 (by decide) (by omega) (fun hc1 => ?_) (fun hc1 => ?_)
  · exfalso; omega
  · refine v_aload_n C dM_append_8 rfl rfl ?_
    refine v_getI (k := 0) (q := 9) (v := σ.1 0 9) C dM_append_9 (by show (0 : Nat) < 18; decide) rfl rfl (by decide) rfl inM lM_123 rfl rfl ?_
    refine v_if_eq (tgt := 19) C dM_append_12 (by decide) (by omega) (fun hc2 => ?_) (fun hc2 => ?_)
    · refine v_iconst C dM_append_19 ?_
      refine v_putI (k := 0) (q := 0) C dM_append_20 (by show (0 : Nat) < 18; decide) rfl rfl (by decide) rfl inM tyM_ok nmM lM_63 rfl rfl rfl rfl rfl ?_
      refine v_aload_n C dM_append_23 rfl rfl ?_
      refine v_getI (k := 0) (q := 0) (v := 0) C dM_append_24 (by show (0 : Nat) < 18; decide) rfl rfl (by decide) rfl inM lM_63 rfl rfl ?_
      refine v_if_gt (tgt := 37) C dM_append_27 (by decide) (by omega) (fun hc3 => ?_) (fun hc3 => ?_)
      · exfalso; omega
      · refine v_aload_n C dM_append_30 rfl rfl ?_
        refine v_cVI (k := 0) (n := 0) C (mE_ok _) trivial hR (kM_changed _ xCl D cA ad hJ (f_p1 σ 0 0 0) (fun i => hI.2.1 3 i)) dM_append_31 (by show (0 : Nat) < 18; decide) rfl rfl gM_137 (by decide +kernel) (by decide) (by decide) rfl (Nat.le_of_ble_eq_true rfl) rfl ⟨rfl, rfl⟩ (fun r1 σ1 hp1 => ?_)
        obtain ⟨e1, e2⟩ := hp1
        subst σ1
        have e3 : r1 = m_cnt (σ.2 3) 40 := e1
        subst e3
        refine v_if_ne (tgt := 39) C dM_append_34 (by decide) (by omega) (fun hc4 => ?_) (fun hc4 => ?_)
        · refine v_aload_n C dM_append_39 rfl rfl ?_
          refine v_iconst C dM_append_40 ?_
          refine v_putI (k := 0) (q := 17) C dM_append_41 (by show (0 : Nat) < 18; decide) rfl rfl (by decide) rfl inM tyM_ok nmM lM_78 rfl rfl rfl (fN_bool (by omega)) (fF_bool (by omega)) ?_
          refine v_aload_n C dM_append_44 rfl rfl ?_
          refine v_getI (k := 0) (q := 10) (v := σ.1 0 10) C dM_append_45 (by show (0 : Nat) < 18; decide) rfl rfl (by decide) rfl inM lM_110 rfl rfl ?_
          refine v_bipush C dM_append_48 (by decide +kernel) ?_
          refine v_icmp_eq (tgt := 69) C dM_append_50 (by decide) (by omega) (by omega) (fun hc5 => ?_) (fun hc5 => ?_)
          · refine v_aload_n C dM_append_69 rfl rfl ?_
            refine v_iconst C dM_append_70 ?_
            refine v_putI (k := 0) (q := 0) C dM_append_71 (by show (0 : Nat) < 18; decide) rfl rfl (by decide) rfl inM tyM_ok nmM lM_63 rfl rfl rfl rfl rfl ?_
            refine v_iconst C dM_append_74 ?_
            exact v_iret C hRt hLk dM_append_75 (by first | exact Or.inr (Or.inl ⟨by omega, by omega, rfl, rfl⟩) | exact Or.inr (Or.inr (Or.inl ⟨by omega, by omega, by first | omega | (rw [← hP]; omega), rfl, by rw [hP]⟩)))
          · refine v_aload_n C dM_append_53 rfl rfl ?_
            refine v_aload_n C dM_append_54 rfl rfl ?_
            refine v_getI (k := 0) (q := 7) (v := σ.1 0 7) C dM_append_55 (by show (0 : Nat) < 18; decide) rfl rfl (by decide) rfl inM lM_116 rfl rfl ?_
            refine v_iconst C dM_append_58 ?_
            refine v_iconst C dM_append_59 ?_
            have hI1 : m_I (f_p1 (f_p1 σ 0 0 0) 0 17 1) := m_I_p (m_I_p hI 0 0 (by decide) (m_okF_n _ _ (by decide))) 17 1 (by decide) (m_okF_n _ _ (by decide))
            have hpf := (m_part_f hI1 h7 (Or.inl rfl) (show (0 : Int) ≤ 0 ∧ (0 : Int) ≤ 2 by omega)).2.2.1
            have hrl := m_rl (f_p1 (f_p1 σ 0 0 0) 0 17 1) 0 0 (by omega) (fun i => hI1.2.1 5 i)
            refine v_cVI (k := 0) (n := 3) C (mE_ok _) trivial hR (kM_putPart _ xCl D cA ad hJ (f_p1 (f_p1 σ 0 0 0) 0 17 1) (σ.1 0 7) 0 0 h7 (Or.inl rfl) (by omega) (fun _ => by show 1 ≤ σ.1 0 10 ∧ σ.1 0 10 ≤ 60; omega) (fun i => hI1.2.1 1 i) (fun i => hI1.2.1 2 i) (fun i => hI1.2.1 3 i) (fun i => hI1.2.1 5 i) (fun i => hI1.2.1 6 i) (fun i => hI1.2.1 9 i) (fun i => hI1.2.1 13 i) (Or.inr rfl) (by omega) (fun h => absurd h (show ¬ (1 : Int) = 0 by decide)) (fun h => absurd h (show ¬ (1 : Int) = 0 by decide))) dM_append_60 (by show (0 : Nat) < 18; decide) rfl rfl gM_119 (by decide +kernel) (by decide) (by decide) rfl (Nat.le_of_ble_eq_true rfl) rfl ⟨rfl, rfl⟩ (fun r1 σ1 hp1 => ?_)
            obtain ⟨e1, e2⟩ := hp1
            subst r1
            obtain ⟨P, hP⟩ : ∃ s, s = m_part (f_p1 (f_p1 σ 0 0 0) 0 17 1) (σ.1 0 7) 0 0 := ⟨_, rfl⟩
            subst σ1
            refine v_st hP.symm ?_
            rw [← hP] at hpf ⊢
            have hIP : m_I P := by rw [hP]; exact m_I_part hI1 h7 (Or.inl rfl) (by omega)
            have hPf : ∀ q, q ≠ 16 → q ≠ 26 → P.1 0 q = (f_p1 (f_p1 σ 0 0 0) 0 17 1).1 0 q := fun q g1 g2 => by rw [hP]; exact (m_part_f hI1 h7 (Or.inl rfl) (show (0 : Int) ≤ 0 ∧ (0 : Int) ≤ 2 by omega)).2.1 q g1 g2
            have hP7 : P.1 0 7 = σ.1 0 7 := hPf 7 (by decide) (by decide)
            have hP10 : P.1 0 10 = σ.1 0 10 := hPf 10 (by decide) (by decide)
            have hP0 : P.1 0 0 = 0 := hPf 0 (by decide) (by decide)
            refine v_sipush C dM_append_63 (by decide +kernel) ?_
            refine v_icmp_le (tgt := 76) C dM_append_66 (by decide) (by omega) (by omega) (fun hc6 => ?_) (fun hc6 => ?_)
            · refine v_aload_n C dM_append_76 rfl rfl ?_
              refine v_getI (k := 0) (q := 7) (v := σ.1 0 7) C dM_append_77 (by show (0 : Nat) < 18; decide) rfl rfl (by decide) rfl inM lM_116 rfl hP7 ?_
              refine v_istore_n C dM_append_80 rfl (by decide) ?_
              refine v_aload_n C dM_append_81 rfl rfl ?_
              refine v_aload_n C dM_append_82 rfl rfl ?_
              refine v_getI (k := 0) (q := 7) (v := σ.1 0 7) C dM_append_83 (by show (0 : Nat) < 18; decide) rfl rfl (by decide) rfl inM lM_116 rfl hP7 ?_
              refine v_iconst C dM_append_86 ?_
              refine v_iconst C dM_append_87 ?_
              have hI2 : m_I (f_p1 P 0 17 0) := m_I_p hIP 17 0 (by decide) (m_okF_n _ _ (by decide))
              have hew : m_eqw (f_p1 (f_p1 σ 0 0 0) 0 17 1) (f_p1 P 0 17 0) := fun k i hk => by show P.2 k i = σ.2 k i; rw [hP]; exact (m_part_f hI1 h7 (Or.inl rfl) (show (0 : Int) ≤ 0 ∧ (0 : Int) ≤ 2 by omega)).1 k i (by omega) (by omega) (by omega)
              have hpq : m_pq (f_p1 P 0 17 0) 0 = m_pq (f_p1 (f_p1 σ 0 0 0) 0 17 1) 0 := by unfold m_pq; rw [if_neg (by decide), if_neg (by decide)]; show P.2 9 (P.1 0 10 - 1).toNat = σ.2 9 (σ.1 0 10 - 1).toNat; rw [hP10, hP]; exact (m_part_f hI1 h7 (Or.inl rfl) (show (0 : Int) ≤ 0 ∧ (0 : Int) ≤ 2 by omega)).1 9 _ (by decide) (by decide) (by decide)
              have hpf2 := (m_part_f hI2 h7 (Or.inl rfl) (show (0 : Int) ≤ 0 ∧ (0 : Int) ≤ 2 by omega)).2.2.1.1
              rw [m_eqw_16 hew, hpq, m_eqw_tail hew (σ.1 0 7) 0 0 (m_pq (f_p1 (f_p1 σ 0 0 0) 0 17 1) 0) (Or.inl rfl) (by omega) (fun i => hI.2.1 2 i) (fun i => hI.2.1 5 i)] at hpf2
              have hpf3 : (m_pa P (σ.1 0 7) 0 0).1 0 16 ≤ 12000 := by show (m_part (f_p1 P 0 17 0) (σ.1 0 7) 0 0).1 0 16 ≤ 12000; omega
              obtain ⟨g1, g2, g3⟩ := m_I_all hIP h7 (Or.inl rfl) (show (0 : Int) ≤ 0 ∧ (0 : Int) ≤ 2 by omega) (fun _ => by rw [hP10]; omega) hpf3
              refine v_cVV (k := 0) (n := 3) C (mE_ok _) trivial hR (kM_putAll _ xCl D cA ad hJ P (σ.1 0 7) 0 0 hIP h7 (Or.inl rfl) (by omega) (fun _ => by rw [hP10]; omega) hpf3) dM_append_88 (by show (0 : Nat) < 18; decide) rfl rfl gM_133 (by decide +kernel) (by decide) (by decide) rfl (Nat.le_of_ble_eq_true rfl) rfl ⟨rfl, rfl⟩ (fun σ1 hp1 => ?_)
              obtain ⟨T, hT⟩ : ∃ s, s = m_all P (σ.1 0 7) 0 0 := ⟨_, rfl⟩
              subst σ1
              refine v_st hT.symm ?_
              refine v_aload_n C dM_append_91 rfl rfl ?_
              refine v_getI (k := 0) (q := 7) (v := T.1 0 7) C dM_append_92 (by show (0 : Nat) < 18; decide) rfl rfl (by decide) rfl inM lM_116 rfl rfl ?_
              refine v_iload_n C dM_append_95 rfl rfl ?_
              refine v_isub C dM_append_96 ?_
              exact v_iret C hRt hLk dM_append_97 (Or.inr (Or.inr (Or.inr ⟨by omega, by omega, by first | omega | (rw [← hP]; omega), by rw [hT, hP], rfl, by rw [hT]; exact g1, by rw [hT, g3]; exact hP0⟩)))
            · refine v_aload_n C dM_append_69 rfl rfl ?_
              refine v_iconst C dM_append_70 ?_
              refine v_putI (k := 0) (q := 0) C dM_append_71 (by show (0 : Nat) < 18; decide) rfl rfl (by decide) rfl inM tyM_ok nmM lM_63 rfl rfl rfl rfl rfl ?_
              refine v_iconst C dM_append_74 ?_
              exact v_iret C hRt hLk dM_append_75 (by first | exact Or.inr (Or.inl ⟨by omega, by omega, rfl, rfl⟩) | exact Or.inr (Or.inr (Or.inl ⟨by omega, by omega, by first | omega | (rw [← hP]; omega), rfl, by rw [hP]⟩)))
        · refine v_iconst C dM_append_37 ?_
          exact v_iret C hRt hLk dM_append_38 (Or.inl ⟨by omega, rfl, rfl⟩)
    · exfalso; omega
theorem m_I_app {σ : fS} {r : Int} {σ1 : fS} (hI : m_I σ) (h : (fun r σ1 => (m_cnt (σ.2 3) 40 = 0 ∧ r = 0 ∧ σ1 = f_p1 σ 0 0 0) ∨ (m_cnt (σ.2 3) 40 ≠ 0 ∧ σ.1 0 10 = 60 ∧ r = 0 ∧ σ1 = f_p1 (f_p1 (f_p1 σ 0 0 0) 0 17 1) 0 0 2) ∨ (m_cnt (σ.2 3) 40 ≠ 0 ∧ σ.1 0 10 < 60 ∧ 12000 < (m_part (f_p1 (f_p1 σ 0 0 0) 0 17 1) (σ.1 0 7) 0 0).1 0 16 ∧ r = 0 ∧ σ1 = f_p1 (m_part (f_p1 (f_p1 σ 0 0 0) 0 17 1) (σ.1 0 7) 0 0) 0 0 2) ∨ (m_cnt (σ.2 3) 40 ≠ 0 ∧ σ.1 0 10 < 60 ∧ (m_part (f_p1 (f_p1 σ 0 0 0) 0 17 1) (σ.1 0 7) 0 0).1 0 16 ≤ 12000 ∧ σ1 = m_all (m_part (f_p1 (f_p1 σ 0 0 0) 0 17 1) (σ.1 0 7) 0 0) (σ.1 0 7) 0 0 ∧ r = σ1.1 0 7 - σ.1 0 7 ∧ m_I σ1 ∧ σ1.1 0 0 = 0)) r σ1) : m_I σ1 := by
  have h7 : 0 ≤ σ.1 0 7 ∧ σ.1 0 7 ≤ 12000 := hI.1 7
  have i1 : m_I (f_p1 (f_p1 σ 0 0 0) 0 17 1) := m_I_p (m_I_p hI 0 0 (by decide) (m_okF_n _ _ (by decide))) 17 1 (by decide) (m_okF_n _ _ (by decide))
  rcases h with ⟨-, -, rfl⟩ | ⟨-, -, -, rfl⟩ | ⟨-, -, -, -, rfl⟩ | ⟨-, -, -, -, -, h, -⟩
  · exact m_I_p hI 0 0 (by decide) (m_okF_n _ _ (by decide))
  · exact m_I_p i1 0 2 (by decide) (m_okF_n _ _ (by decide))
  · exact m_I_p (m_I_part i1 h7 (Or.inl rfl) (by omega)) 0 2 (by decide) (m_okF_n _ _ (by decide))
  · exact h
end
section
/-! learn -/
/-- a PART that stands -/
def p_okp (f : Nat → Int) (z x : Int) : Prop := p_tell f z x 120 ∧ (∀ i, i < p_many f z x → p_good f z x i) ∧ (p_tell f z (p_pl f z x) 112 ∧ p_tv f z (p_pl f z x) < x) ∧ p_eok f z x ∧ ∀ i, i < p_many f z x → p_rok f z x (p_at f z x i)
theorem p_look_ok {f : Nat → Int} {z x pt r fl : Int} (h : p_look f z x pt r fl) (hr : r ≠ -1) : p_okp f z x ∧ r = p_tv f z (p_pl f z x) := by
  rcases h with ⟨_, h, _⟩ | ⟨h1, ⟨j, _, _, _, h, _⟩ | ⟨h2, ⟨_, h, _⟩ | ⟨h3, ⟨_, h, _⟩ | ⟨h4, ⟨_, _, h, _⟩ | ⟨_, ⟨j, _, _, _, h, _⟩ | ⟨h5, h6⟩⟩⟩⟩⟩⟩
  · exact absurd h hr
  · exact absurd h hr
  · exact absurd h hr
  · exact absurd h hr
  · exact absurd h hr
  · exact absurd h hr
  · exact ⟨⟨h1, h2, ⟨h3.1, h3.2.1⟩, h4, h5⟩, h6⟩
theorem p_at_r {f : Nat → Int} {z x : Int} (hx : 0 ≤ x) (h1 : p_tell f z x 120) : ∀ j, (∀ i, i < j → p_good f z x i) → 0 ≤ p_at f z x j ∧ p_at f z x j ≤ z := by
  intro j
  induction j with
  | zero =>
    intro _
    have a := h1.1
    have b := @p_eol_le f z x
    show 0 ≤ p_eol f z x + 1 ∧ p_eol f z x + 1 ≤ z
    omega
  | succ j ih =>
    intro h
    have a := (h j (by omega)).1.1
    have b := @p_eol_le f z (p_at f z x j)
    have c := ih (fun i hi => h i (by omega))
    rw [p_at_s]
    omega
theorem p_rec_le {f : Nat → Int} {z p n b c : Int} (h : p_rec f z p n b) (hbc : b ≤ c) : p_rec f z p n c := by
  obtain ⟨h1, h2, h3, h4, h5, h6, h7, h8, h9, h10, h11⟩ := h
  exact ⟨h1, h2, h3, h4, h5, h6, h7, h8, h9, by omega, h11⟩
theorem p_rl_r {f : Nat → Int} {z p n b : Int} (h : p_rec f z p n b) : (0 ≤ p_rl f z p ∧ p_rl f z p ≤ 120) ∧ p_eol f z p + 1 + p_rl f z p < b := by
  obtain ⟨h1, h2, h3, h4, h5, h6, h7, h8, h9, h10, h11⟩ := h
  have a := p_num_v f (p_eol f z p) ((p_num f (p_eol f z p) (p + 2)).2 + 1)
  exact ⟨⟨a.1, h9⟩, h10⟩
/-- the rows of the revision before, up to object k - 1 -/
def m_cp (σ : fS) (t k : Nat) : fS := (σ.1, fun a b => if (a = 10 ∨ a = 11 ∨ a = 12) ∧ 41 * t + 1 ≤ b ∧ b < 41 * t + k then (if t = 0 then (if a = 10 then -1 else 0) else σ.2 a (b - 41)) else σ.2 a b)
theorem m_cp_o (σ : fS) (t k a : Nat) (h : ¬ (a = 10 ∨ a = 11 ∨ a = 12)) : (m_cp σ t k).2 a = σ.2 a := by
  funext b
  show (if (a = 10 ∨ a = 11 ∨ a = 12) ∧ 41 * t + 1 ≤ b ∧ b < 41 * t + k then (if t = 0 then (if a = 10 then -1 else 0) else σ.2 a (b - 41)) else σ.2 a b) = _
  rw [if_neg (fun g => h g.1)]
theorem m_cp_lo (σ : fS) (t k a b : Nat) (h : b < 41 * t + 1 ∨ 41 * t + k ≤ b) : (m_cp σ t k).2 a b = σ.2 a b := by
  show (if (a = 10 ∨ a = 11 ∨ a = 12) ∧ 41 * t + 1 ≤ b ∧ b < 41 * t + k then (if t = 0 then (if a = 10 then -1 else 0) else σ.2 a (b - 41)) else σ.2 a b) = _
  rw [if_neg (by omega)]
theorem m_cp_1 (σ : fS) (t : Nat) : σ = m_cp σ t 1 := fS_ext (fun _ _ => rfl) (fun a b => (m_cp_lo σ t 1 a b (by omega)).symm)
def m_cpv (σ : fS) (t a i : Nat) : Int := if t = 0 then (if a = 10 then -1 else 0) else σ.2 a (i - 41)
theorem m_cp_s (σ : fS) (t k : Nat) (hk : 1 ≤ k) : f_p2 (f_p2 (f_p2 (m_cp σ t k) 10 (41 * t + k) (m_cpv σ t 10 (41 * t + k))) 11 (41 * t + k) (m_cpv σ t 11 (41 * t + k))) 12 (41 * t + k) (m_cpv σ t 12 (41 * t + k)) = m_cp σ t (k + 1) := by
  refine fS_ext (fun _ _ => rfl) (fun a b => ?_)
  rw [p2_2, p2_2, p2_2]
  show _ = if (a = 10 ∨ a = 11 ∨ a = 12) ∧ 41 * t + 1 ≤ b ∧ b < 41 * t + (k + 1) then m_cpv σ t a b else σ.2 a b
  by_cases g : b = 41 * t + k
  · subst g
    by_cases g12 : a = 12
    · subst g12; rw [if_pos ⟨rfl, rfl⟩, if_pos ⟨by decide, by omega, by omega⟩]
    · rw [if_neg (by omega)]
      by_cases g11 : a = 11
      · subst g11; rw [if_pos ⟨rfl, rfl⟩, if_pos ⟨by decide, by omega, by omega⟩]
      · rw [if_neg (by omega)]
        by_cases g10 : a = 10
        · subst g10; rw [if_pos ⟨rfl, rfl⟩, if_pos ⟨by decide, by omega, by omega⟩]
        · rw [if_neg (by omega), if_neg (by omega), m_cp_o _ _ _ _ (by omega)]
  · rw [if_neg (by omega), if_neg (by omega), if_neg (by omega)]
    show (if (a = 10 ∨ a = 11 ∨ a = 12) ∧ 41 * t + 1 ≤ b ∧ b < 41 * t + k then m_cpv σ t a b else σ.2 a b) = _
    by_cases g2 : (a = 10 ∨ a = 11 ∨ a = 12) ∧ 41 * t + 1 ≤ b ∧ b < 41 * t + k
    · rw [if_pos g2, if_pos ⟨g2.1, by omega, by omega⟩]
    · rw [if_neg g2, if_neg (by omega)]
/-- the rows of a PART, up to the j-th -/
def m_rw1 (f : Nat → Int) (z : Int) (y : fS) (i : Nat) (v : Int) : fS := if v = -1 then f_p2 y 10 i v else f_p2 (f_p2 (f_p2 y 10 i v) 11 i (p_eol f z v + 1)) 12 i (p_rl f z v)
def m_rwF (f : Nat → Int) (z : Int) (σ : fS) (t : Nat) (x : Int) : Nat → fS
  | 0 => σ
  | j + 1 => m_rw1 f z (m_rwF f z σ t x j) (41 * t + (p_rn f z (p_at f z x j)).toNat) (p_rpv f z (p_at f z x j))
theorem m_rw1_o (f : Nat → Int) (z : Int) (y : fS) (i : Nat) (v : Int) : (m_rw1 f z y i v).1 = y.1 ∧ ∀ a, ¬ (a = 10 ∨ a = 11 ∨ a = 12) → (m_rw1 f z y i v).2 a = y.2 a := by
  unfold m_rw1
  split
  · exact ⟨rfl, fun a h => by funext b; rw [p2_2, if_neg (by omega)]⟩
  · exact ⟨rfl, fun a h => by funext b; rw [p2_2, if_neg (by omega), p2_2, if_neg (by omega), p2_2, if_neg (by omega)]⟩
theorem m_rwF_o (f : Nat → Int) (z : Int) (σ : fS) (t : Nat) (x : Int) : ∀ j, (m_rwF f z σ t x j).1 = σ.1 ∧ ∀ a, ¬ (a = 10 ∨ a = 11 ∨ a = 12) → (m_rwF f z σ t x j).2 a = σ.2 a := by
  intro j
  induction j with
  | zero => exact ⟨rfl, fun _ _ => rfl⟩
  | succ j ih =>
    have h := m_rw1_o f z (m_rwF f z σ t x j) (41 * t + (p_rn f z (p_at f z x j)).toNat) (p_rpv f z (p_at f z x j))
    exact ⟨h.1.trans ih.1, fun a g => (h.2 a g).trans (ih.2 a g)⟩
/-- a PART is learned as revision t; all of them up to t -/
def m_lp (f : Nat → Int) (z : Int) (σ : fS) (t : Nat) (x : Int) : fS := f_p1 (f_p2 (f_p2 (m_rwF f z (m_cp σ t 41) t x (p_many f z x)) 8 t (p_end f z x)) 9 t x) 0 10 ((t : Int) + 1)
def m_lF (f : Nat → Int) (z : Int) (σ : fS) (xs : Nat → Int) (pts : Nat) : Nat → fS
  | 0 => f_p1 σ 0 10 0
  | t + 1 => m_lp f z (m_lF f z σ xs pts t) t (xs (pts - 1 - t))
theorem m_lF_o (f : Nat → Int) (z : Int) (σ : fS) (xs : Nat → Int) (pts : Nat) : ∀ t, (∀ q, q ≠ 10 → (m_lF f z σ xs pts t).1 0 q = σ.1 0 q) ∧ (m_lF f z σ xs pts t).1 0 10 = (t : Int) ∧ ∀ a, ¬ (8 ≤ a ∧ a ≤ 12) → (m_lF f z σ xs pts t).2 a = σ.2 a := by
  intro t
  induction t with
  | zero => exact ⟨fun q h => by show (f_p1 σ 0 10 0).1 0 q = _; rw [p1_1, if_neg (by omega)], rfl, fun _ _ => rfl⟩
  | succ t ih =>
    obtain ⟨i1, i2, i3⟩ := ih
    have h := m_rwF_o f z (m_cp (m_lF f z σ xs pts t) t 41) t (xs (pts - 1 - t)) (p_many f z (xs (pts - 1 - t)))
    refine ⟨fun q hq => ?_, ?_, fun a ha => ?_⟩
    · show (m_lp f z (m_lF f z σ xs pts t) t (xs (pts - 1 - t))).1 0 q = _
      unfold m_lp
      rw [p1_1, if_neg (by omega)]
      show (m_rwF _ _ _ _ _ _).1 0 q = _
      rw [h.1]
      exact i1 q hq
    · show (m_lp f z (m_lF f z σ xs pts t) t (xs (pts - 1 - t))).1 0 10 = _
      unfold m_lp
      rw [p1_1, if_pos ⟨rfl, rfl⟩]; push_cast; rfl
    · show (m_lp f z (m_lF f z σ xs pts t) t (xs (pts - 1 - t))).2 a = _
      unfold m_lp
      rw [p1_2]
      funext b
      rw [p2_2, if_neg (by omega), p2_2, if_neg (by omega), h.2 a (by omega), m_cp_o _ _ _ _ (by omega), i3 a ha]
theorem m_scr_q2 {B S : fS} (h : m_scr B S) (k q : Nat) (v : Int) : m_scr (f_p2 B k q v) (f_p2 S k q v) := by
  refine ⟨?_, h.2⟩
  unfold f_p2
  show va_up S.2 k _ = va_up B.2 k _
  rw [h.1]
theorem m_scr_q1 {B S : fS} (h : m_scr B S) (q : Nat) (v : Int) : m_scr (f_p1 B 0 q v) (f_p1 S 0 q v) := by
  refine ⟨h.1, fun a b g => ?_⟩
  rw [p1_1, p1_1, h.2 a b g]
set_option maxRecDepth 100000 in
set_option maxHeartbeats 4000000 in
theorem kM_learn (l : Launch) (xCl : List vw_C) (D : va_G) (cA : Nat → ClassId) (ad : Nat → Nat) (hJ : f_J (mG xCl D cA ad)) (σ : fS) (f : Nat → Int) (fz : Int) (pts : Nat) (xs : Nat → Int) (hf : σ.2 7 = f) (hz : σ.1 0 7 = fz) (hp : σ.1 0 24 = (pts : Int)) (hpt : 1 ≤ pts ∧ pts ≤ 60) (hx : ∀ k, k < pts → σ.2 15 k = xs k) (hok : ∀ k, k < pts → p_okp f fz (xs k) ∧ 0 ≤ xs k ∧ xs k ≤ 11999 ∧ xs k < fz) (h7 : ∀ i, -128 ≤ f i ∧ f i ≤ 127) (hz0 : 0 ≤ fz ∧ fz ≤ 12000) : f_M l (mG xCl D cA ad) mE yM_learn (Cond.code yM_learn cM_learn 7 none :: A9) 2 σ [.ref (ad 0)] (f_QV (fun σ1 => m_scr (m_lF f fz σ xs pts pts) σ1) (mG xCl D cA ad)) := by
  refine f_enter (by decide +kernel) hJ rfl (Nat.le_of_ble_eq_true rfl) ?_
  intro z hzl hR C hRt hLk hEz
  subst hzl
  have L : ∀ (m t : Nat), m + t = pts → ∀ (S : fS), m_scr (m_lF f fz σ xs pts t) S → ∀ o2 o3 o4 o5 o6 : Option Value, fv z (mG xCl D cA ad) 7 (f_R z (mG xCl D cA ad) (f_QV (fun σ1 => m_scr (m_lF f fz σ xs pts pts) σ1) (mG xCl D cA ad))) 0 0 S 12 [some (.ref (ad 0)), some (.int (fI ((pts : Int) - 1 - (t : Int)))), o2, o3, o4, o5, o6] [] := by
    intro m
    induction m with
    | zero =>
      intro t ht S hS o2 o3 o4 o5 o6
      obtain rfl : t = pts := by omega
      refine v_iload_n C dM_learn_12 rfl rfl ?_
      refine v_if_lt (tgt := 316) C dM_learn_13 (by decide) (by omega) (fun hc1 => ?_) (fun hc1 => ?_)
      · exact v_vret C hRt hLk dM_learn_316 hS
      · exfalso; omega
    | succ m ih =>
      intro t ht S hS o2 o3 o4 o5 o6
      obtain ⟨B, hB⟩ : ∃ s, s = m_lF f fz σ xs pts t := ⟨_, rfl⟩
      rw [← hB] at hS
      have hB7 : B.1 0 7 = fz := by rw [hB, (m_lF_o f fz σ xs pts t).1 7 (by decide)]; exact hz
      have hB10 : B.1 0 10 = (t : Int) := by rw [hB]; exact (m_lF_o f fz σ xs pts t).2.1
      have hB24 : B.1 0 24 = (pts : Int) := by rw [hB, (m_lF_o f fz σ xs pts t).1 24 (by decide)]; exact hp
      have hBf : B.2 7 = f := by rw [hB, (m_lF_o f fz σ xs pts t).2.2 7 (by decide)]; exact hf
      have hB15 : B.2 15 ((pts : Int) - 1 - (t : Int)).toNat = xs (pts - 1 - t) := by rw [hB, (m_lF_o f fz σ xs pts t).2.2 15 (by decide), show ((pts : Int) - 1 - (t : Int)).toNat = pts - 1 - t by omega]; exact hx _ (by omega)
      obtain ⟨x, hxd⟩ : ∃ v, v = xs (pts - 1 - t) := ⟨_, rfl⟩
      obtain ⟨hok1, hx0, hx1, hx2⟩ := hok (pts - 1 - t) (by omega)
      rw [← hxd] at hok1 hx0 hx1 hx2 hB15
      have hmr := p_num_v f (p_eol f fz x) (x + 2)
      have htv : 0 ≤ p_tv f fz x ∧ p_tv f fz x ≤ 99999 := hmr
      have hmany : p_many f fz x = (p_tv f fz x).toNat := rfl
      have L2 : ∀ (n j : Nat), n + j = p_many f fz x → ∀ (S : fS), m_scr (m_rwF f fz (m_cp B t 41) t x j) S → ∀ o6 : Option Value, fv z (mG xCl D cA ad) 7 (f_R z (mG xCl D cA ad) (f_QV (fun σ1 => m_scr (m_lF f fz σ xs pts pts) σ1) (mG xCl D cA ad))) 0 0 S 157 [some (.ref (ad 0)), some (.int (fI ((pts : Int) - 1 - (t : Int)))), some (.int (fI (41 * (t : Int)))), some (.int (fI (p_tv f fz x))), some (.int (fI (p_at f fz x j))), some (.int (fI (j : Int))), o6] [] := by
        intro n
        induction n with
        | zero =>
          intro j hj S hS o6
          have hat := p_at_r hx0 hok1.1 j (fun i hi => hok1.2.1 i (by omega))
          have hRo := m_rwF_o f fz (m_cp B t 41) t x j
          have hB7 : (m_rwF f fz (m_cp B t 41) t x j).1 0 7 = fz := by rw [hRo.1]; exact hB7
          have hB10 : (m_rwF f fz (m_cp B t 41) t x j).1 0 10 = (t : Int) := by rw [hRo.1]; exact hB10
          have hB24 : (m_rwF f fz (m_cp B t 41) t x j).1 0 24 = (pts : Int) := by rw [hRo.1]; exact hB24
          have hBf : (m_rwF f fz (m_cp B t 41) t x j).2 7 = f := by rw [hRo.2 7 (by decide), m_cp_o _ _ _ _ (by decide)]; exact hBf
          have hB15 : (m_rwF f fz (m_cp B t 41) t x j).2 15 ((pts : Int) - 1 - (t : Int)).toNat = x := by rw [hRo.2 15 (by decide), m_cp_o _ _ _ _ (by decide)]; exact hB15
          obtain rfl : j = p_many f fz x := by omega
          have hpl : p_at f fz x (p_many f fz x) = p_pl f fz x := rfl
          rw [hpl] at hat ⊢
          have hpe := @p_eol_le f fz (p_pl f fz x)
          have hpt1 := hok1.2.2.1.1.1
          have hele : p_el f fz x = p_eol f fz (p_pl f fz x) + 1 := rfl
          have hpe2 := @p_eol_le f fz (p_el f fz x)
          refine v_iload C dM_learn_157 rfl ?_
          refine v_iload_n C dM_learn_159 rfl rfl ?_
          refine v_icmp_ge (tgt := 252) C dM_learn_160 (by decide) (by omega) (by omega) (fun hc2 => ?_) (fun hc2 => ?_)
          · refine v_aload_n C dM_learn_252 rfl rfl ?_
            refine v_iload C dM_learn_253 rfl ?_
            have hzz3 : 0 ≤ S.1 0 7 ∧ S.1 0 7 ≤ 12000 := by rw [hS.2 0 7 (by decide), hB7]; exact hz0
            have h774 : ∀ i, -128 ≤ S.2 7 i ∧ S.2 7 i ≤ 127 := fun i => by rw [hS.1, hBf]; exact h7 i
            have hzz3f : S.2 7 = f := by rw [hS.1]; exact hBf
            have hzz3z : S.1 0 7 = fz := by rw [hS.2 0 7 (by decide)]; exact hB7
            refine v_cVI (k := 0) (n := 1) C (mE_ok _) trivial hR (kM_line2 _ xCl D cA ad hJ S (p_pl f fz x) (by omega) hzz3 h774) dM_learn_255 (by show (0 : Nat) < 18; decide) rfl rfl gM_150 (by decide +kernel) (by decide) (by decide) rfl (Nat.le_of_ble_eq_true rfl) rfl ⟨rfl, rfl⟩ (fun rl6 S6 hp6 => ?_)
            rw [hzz3f, hzz3z] at hp6
            obtain ⟨u06, -, u206, -, -, -, -⟩ := hp6
            have hS6 := m_scr_tr hS u06
            refine v_pop C dM_learn_258 rfl ?_
            refine v_aload_n C dM_learn_259 rfl rfl ?_
            refine v_aload_n C dM_learn_260 rfl rfl ?_
            refine v_getI (k := 0) (q := 20) (v := p_eol f fz (p_pl f fz x)) C dM_learn_261 (by show (0 : Nat) < 18; decide) rfl rfl (by decide) rfl inM lM_144 rfl u206 ?_
            refine v_iconst C dM_learn_264 ?_
            refine v_iadd C dM_learn_265 ?_
            refine v_top (b := (p_el f fz x)) rfl ?_
            have hzz5 : 0 ≤ S6.1 0 7 ∧ S6.1 0 7 ≤ 12000 := by rw [hS6.2 0 7 (by decide), hB7]; exact hz0
            have h776 : ∀ i, -128 ≤ S6.2 7 i ∧ S6.2 7 i ≤ 127 := fun i => by rw [hS6.1, hBf]; exact h7 i
            have hzz5f : S6.2 7 = f := by rw [hS6.1]; exact hBf
            have hzz5z : S6.1 0 7 = fz := by rw [hS6.2 0 7 (by decide)]; exact hB7
            refine v_cVI (k := 0) (n := 1) C (mE_ok _) trivial hR (kM_line2 _ xCl D cA ad hJ S6 (p_el f fz x) (by omega) hzz5 h776) dM_learn_266 (by show (0 : Nat) < 18; decide) rfl rfl gM_150 (by decide +kernel) (by decide) (by decide) rfl (Nat.le_of_ble_eq_true rfl) rfl ⟨rfl, rfl⟩ (fun rl7 S7 hp7 => ?_)
            rw [hzz5f, hzz5z] at hp7
            obtain ⟨u07, -, u207, -, -, -, -⟩ := hp7
            have hS7 := m_scr_tr hS6 u07
            refine v_pop C dM_learn_269 rfl ?_
            refine v_aload_n C dM_learn_270 rfl rfl ?_
            refine v_getR (k := 0) (q := 11) C dM_learn_271 (by show (0 : Nat) < 18; decide) rfl rfl (by decide) rfl inM lM_33 rfl ?_
            refine v_aload_n C dM_learn_274 rfl rfl ?_
            refine v_getI (k := 0) (q := 10) (v := (t : Int)) C dM_learn_275 (by show (0 : Nat) < 18; decide) rfl rfl (by decide) rfl inM lM_110 rfl ((hS7.2 0 10 (by decide)).trans hB10) ?_
            refine v_aload_n C dM_learn_278 rfl rfl ?_
            refine v_getI (k := 0) (q := 20) (v := p_eol f fz (p_el f fz x)) C dM_learn_279 (by show (0 : Nat) < 18; decide) rfl rfl (by decide) rfl inM lM_144 rfl u207 ?_
            refine v_iconst C dM_learn_282 ?_
            refine v_iadd C dM_learn_283 ?_
            refine v_top (b := (p_end f fz x)) rfl ?_
            refine v_iast (k := 8) C dM_learn_284 (by show (8 : Nat) < 18; decide) rfl rfl (by omega) (by decide) ?_
            refine v_aload_n C dM_learn_285 rfl rfl ?_
            refine v_getR (k := 0) (q := 12) C dM_learn_286 (by show (0 : Nat) < 18; decide) rfl rfl (by decide) rfl inM lM_36 rfl ?_
            refine v_aload_n C dM_learn_289 rfl rfl ?_
            refine v_getI (k := 0) (q := 10) (v := (t : Int)) C dM_learn_290 (by show (0 : Nat) < 18; decide) rfl rfl (by decide) rfl inM lM_110 rfl ((hS7.2 0 10 (by decide)).trans hB10) ?_
            refine v_aload_n C dM_learn_293 rfl rfl ?_
            refine v_getR (k := 0) (q := 25) C dM_learn_294 (by show (0 : Nat) < 18; decide) rfl rfl (by decide) rfl inM lM_54 rfl ?_
            refine v_iload_n C dM_learn_297 rfl rfl ?_
            refine v_iald (k := 15) (v := x) C dM_learn_298 (by show (15 : Nat) < 18; decide) rfl rfl (by omega) (by decide) (by rw [p2_2, if_neg (by omega), hS7.1]; exact hB15) ?_
            refine v_iast (k := 9) C dM_learn_299 (by show (9 : Nat) < 18; decide) rfl rfl (by omega) (by decide) ?_
            refine v_aload_n C dM_learn_300 rfl rfl ?_
            refine v_dup C dM_learn_301 rfl ?_
            refine v_getI (k := 0) (q := 10) (v := (t : Int)) C dM_learn_302 (by show (0 : Nat) < 18; decide) rfl rfl (by decide) rfl inM lM_110 rfl ((hS7.2 0 10 (by decide)).trans hB10) ?_
            refine v_iconst C dM_learn_305 ?_
            refine v_iadd C dM_learn_306 ?_
            refine v_putI (k := 0) (q := 10) C dM_learn_307 (by show (0 : Nat) < 18; decide) rfl rfl (by decide) rfl inM tyM_ok nmM lM_110 rfl rfl rfl rfl rfl ?_
            refine v_iinc C dM_learn_310 rfl (by decide) ?_
            refine v_goto (tgt := 12) C dM_learn_313 (by decide) ?_
            exact v_lv (by rw [show (pts : Int) - 1 - (t : Int) + -1 = (pts : Int) - 1 - ((t + 1 : Nat) : Int) by omega]; rfl) (ih (t + 1) (by omega) _ (by show m_scr (m_lp f fz (m_lF f fz σ xs pts t) t (xs (pts - 1 - t))) _; rw [← hB, ← hxd]; exact m_scr_q1 (m_scr_q2 (m_scr_q2 hS7 8 t (p_end f fz x)) 9 t x) 10 ((t : Int) + 1)) _ _ _ _ _)
          · exfalso; omega
        | succ n ih2 =>
          intro j hj S hS o6
          have hat := p_at_r hx0 hok1.1 j (fun i hi => hok1.2.1 i (by omega))
          have hRo := m_rwF_o f fz (m_cp B t 41) t x j
          have hB7 : (m_rwF f fz (m_cp B t 41) t x j).1 0 7 = fz := by rw [hRo.1]; exact hB7
          have hB10 : (m_rwF f fz (m_cp B t 41) t x j).1 0 10 = (t : Int) := by rw [hRo.1]; exact hB10
          have hB24 : (m_rwF f fz (m_cp B t 41) t x j).1 0 24 = (pts : Int) := by rw [hRo.1]; exact hB24
          have hBf : (m_rwF f fz (m_cp B t 41) t x j).2 7 = f := by rw [hRo.2 7 (by decide), m_cp_o _ _ _ _ (by decide)]; exact hBf
          have hB15 : (m_rwF f fz (m_cp B t 41) t x j).2 15 ((pts : Int) - 1 - (t : Int)).toNat = x := by rw [hRo.2 15 (by decide), m_cp_o _ _ _ _ (by decide)]; exact hB15
          have hgd := hok1.2.1 j (by omega)
          have hrk := hok1.2.2.2.2 j (by omega)
          have hrn := hgd.2.1
          have hrv := hgd.2.2.2
          have hrvr := p_rpv_r f fz (p_at f fz x j)
          have hix : (41 * (t : Int) + p_rn f fz (p_at f fz x j)).toNat = 41 * t + (p_rn f fz (p_at f fz x j)).toNat := by omega
          refine v_iload C dM_learn_157 rfl ?_
          refine v_iload_n C dM_learn_159 rfl rfl ?_
          refine v_icmp_ge (tgt := 252) C dM_learn_160 (by decide) (by omega) (by omega) (fun hc7 => ?_) (fun hc7 => ?_)
          · exfalso; omega
          · refine v_aload_n C dM_learn_163 rfl rfl ?_
            refine v_iload C dM_learn_164 rfl ?_
            have hzz8 : 0 ≤ S.1 0 7 ∧ S.1 0 7 ≤ 12000 := by rw [hS.2 0 7 (by decide), hB7]; exact hz0
            have h779 : ∀ i, -128 ≤ S.2 7 i ∧ S.2 7 i ≤ 127 := fun i => by rw [hS.1, hBf]; exact h7 i
            have hzz8f : S.2 7 = f := by rw [hS.1]; exact hBf
            have hzz8z : S.1 0 7 = fz := by rw [hS.2 0 7 (by decide)]; exact hB7
            refine v_cVI (k := 0) (n := 1) C (mE_ok _) trivial hR (kM_isRow _ xCl D cA ad hJ S (p_at f fz x j) (by omega) hzz8 h779) dM_learn_166 (by show (0 : Nat) < 18; decide) rfl rfl gM_172 (by decide +kernel) (by decide) (by decide) rfl (Nat.le_of_ble_eq_true rfl) rfl ⟨rfl, rfl⟩ (fun rr S4 hp4 => ?_)
            rw [hzz8f, hzz8z] at hp4
            obtain ⟨w0, w20, hp4⟩ := hp4
            have hS4 := m_scr_tr hS w0
            have hq4 : S4.1 0 26 = p_rn f fz (p_at f fz x j) ∧ S4.1 0 27 = p_rpv f fz (p_at f fz x j) := by rcases hp4 with ⟨-, -, w26, w27⟩ | ⟨gn, -⟩; (· exact ⟨w26, p_rp_v w27⟩); (· exact absurd hgd.1 gn)
            obtain ⟨w26, w27⟩ := hq4
            refine v_pop C dM_learn_169 rfl ?_
            refine v_aload_n C dM_learn_170 rfl rfl ?_
            refine v_getI (k := 0) (q := 20) (v := p_eol f fz (p_at f fz x j)) C dM_learn_171 (by show (0 : Nat) < 18; decide) rfl rfl (by decide) rfl inM lM_144 rfl w20 ?_
            refine v_iconst C dM_learn_174 ?_
            refine v_iadd C dM_learn_175 ?_
            refine v_istore C dM_learn_176 (by decide) ?_
            refine v_aload_n C dM_learn_178 rfl rfl ?_
            refine v_getI (k := 0) (q := 26) (v := p_rn f fz (p_at f fz x j)) C dM_learn_179 (by show (0 : Nat) < 18; decide) rfl rfl (by decide) rfl inM lM_113 rfl w26 ?_
            refine v_istore C dM_learn_182 (by decide) ?_
            refine v_aload_n C dM_learn_184 rfl rfl ?_
            refine v_getR (k := 0) (q := 13) C dM_learn_185 (by show (0 : Nat) < 18; decide) rfl rfl (by decide) rfl inM lM_39 rfl ?_
            refine v_iload_n C dM_learn_188 rfl rfl ?_
            refine v_iload C dM_learn_189 rfl ?_
            refine v_iadd C dM_learn_191 ?_
            refine v_aload_n C dM_learn_192 rfl rfl ?_
            refine v_getI (k := 0) (q := 27) (v := p_rpv f fz (p_at f fz x j)) C dM_learn_193 (by show (0 : Nat) < 18; decide) rfl rfl (by decide) rfl inM lM_163 rfl w27 ?_
            refine v_iast (k := 10) C dM_learn_196 (by show (10 : Nat) < 18; decide) rfl rfl (by omega) (by decide) ?_
            refine v_aload_n C dM_learn_197 rfl rfl ?_
            refine v_getI (k := 0) (q := 27) (v := p_rpv f fz (p_at f fz x j)) C dM_learn_198 (by show (0 : Nat) < 18; decide) rfl rfl (by decide) rfl inM lM_163 rfl w27 ?_
            refine v_iconst C dM_learn_201 ?_
            refine v_icmp_eq (tgt := 246) C dM_learn_202 (by decide) (by omega) (by omega) (fun hc10 => ?_) (fun hc10 => ?_)
            · refine v_iinc C dM_learn_246 rfl (by decide) ?_
              refine v_goto (tgt := 157) C dM_learn_249 (by decide) ?_
              exact v_lv rfl (ih2 (j + 1) (by omega) _ (by show m_scr (m_rw1 _ _ _ _ _) _; unfold m_rw1; rw [if_pos (by omega), hix]; exact m_scr_q2 hS4 _ _ _) _)
            · refine v_aload_n C dM_learn_205 rfl rfl ?_
              refine v_aload_n C dM_learn_206 rfl rfl ?_
              refine v_getI (k := 0) (q := 27) (v := p_rpv f fz (p_at f fz x j)) C dM_learn_207 (by show (0 : Nat) < 18; decide) rfl rfl (by decide) rfl inM lM_163 rfl w27 ?_
              refine v_iload C dM_learn_210 rfl ?_
              refine v_aload_n C dM_learn_212 rfl rfl ?_
              refine v_getI (k := 0) (q := 7) (v := fz) C dM_learn_213 (by show (0 : Nat) < 18; decide) rfl rfl (by decide) rfl inM lM_116 rfl ((hS4.2 0 7 (by decide)).trans hB7) ?_
              obtain ⟨S4b, hS4b⟩ : ∃ s, s = f_p2 S4 10 (41 * (t : Int) + p_rn f fz (p_at f fz x j)).toNat (p_rpv f fz (p_at f fz x j)) := ⟨_, rfl⟩
              refine v_st hS4b.symm ?_
              have hS4s : m_scr (f_p2 (m_rwF f fz (m_cp B t 41) t x j) 10 (41 * t + (p_rn f fz (p_at f fz x j)).toNat) (p_rpv f fz (p_at f fz x j))) S4b := by rw [hS4b, hix]; exact m_scr_q2 hS4 _ _ _
              have hzb : 0 ≤ S4b.1 0 7 ∧ S4b.1 0 7 ≤ 12000 := by rw [hS4b]; show 0 ≤ S4.1 0 7 ∧ S4.1 0 7 ≤ 12000; rw [hS4.2 0 7 (by decide), hB7]; exact hz0
              have hfb : S4b.2 7 = f := by rw [hS4b]; funext b; rw [p2_2, if_neg (by omega), hS4.1, hBf]
              have hzb2 : S4b.1 0 7 = fz := by rw [hS4b]; show S4.1 0 7 = fz; rw [hS4.2 0 7 (by decide)]; exact hB7
              have hrc : p_rec f fz (p_rpv f fz (p_at f fz x j)) (p_rn f fz (p_at f fz x j)) fz := by rcases hrk with e | e; (· omega); (· exact p_rec_le e (by omega))
              refine v_cVI (k := 0) (n := 3) C (mE_ok _) trivial hR (kM_isRecord _ xCl D cA ad hJ S4b (p_rpv f fz (p_at f fz x j)) (p_rn f fz (p_at f fz x j)) fz (by omega) (by omega) (by omega) (by omega) hzb (fun i => by rw [hfb]; exact h7 i)) dM_learn_216 (by show (0 : Nat) < 18; decide) rfl rfl gM_181 (by decide +kernel) (by decide) (by decide) rfl (Nat.le_of_ble_eq_true rfl) rfl ⟨rfl, rfl⟩ (fun rc S5 hp5 => ?_)
              rw [hfb, hzb2] at hp5
              obtain ⟨v0, hp5⟩ := hp5
              have hS5 := m_scr_tr hS4s v0
              have hq5 : S5.1 0 26 = p_eol f fz (p_rpv f fz (p_at f fz x j)) + 1 ∧ S5.1 0 27 = p_rl f fz (p_rpv f fz (p_at f fz x j)) := by rcases hp5 with ⟨-, -, v26, v27⟩ | ⟨gn, -⟩; (· exact ⟨v26, v27⟩); (· exact absurd hrc gn)
              obtain ⟨v26, v27⟩ := hq5
              refine v_pop C dM_learn_219 rfl ?_
              refine v_aload_n C dM_learn_220 rfl rfl ?_
              refine v_getR (k := 0) (q := 14) C dM_learn_221 (by show (0 : Nat) < 18; decide) rfl rfl (by decide) rfl inM lM_42 rfl ?_
              refine v_iload_n C dM_learn_224 rfl rfl ?_
              refine v_iload C dM_learn_225 rfl ?_
              refine v_iadd C dM_learn_227 ?_
              refine v_aload_n C dM_learn_228 rfl rfl ?_
              refine v_getI (k := 0) (q := 26) (v := p_eol f fz (p_rpv f fz (p_at f fz x j)) + 1) C dM_learn_229 (by show (0 : Nat) < 18; decide) rfl rfl (by decide) rfl inM lM_113 rfl v26 ?_
              refine v_iast (k := 11) C dM_learn_232 (by show (11 : Nat) < 18; decide) rfl rfl (by omega) (by decide) ?_
              refine v_aload_n C dM_learn_233 rfl rfl ?_
              refine v_getR (k := 0) (q := 15) C dM_learn_234 (by show (0 : Nat) < 18; decide) rfl rfl (by decide) rfl inM lM_45 rfl ?_
              refine v_iload_n C dM_learn_237 rfl rfl ?_
              refine v_iload C dM_learn_238 rfl ?_
              refine v_iadd C dM_learn_240 ?_
              refine v_aload_n C dM_learn_241 rfl rfl ?_
              refine v_getI (k := 0) (q := 27) (v := p_rl f fz (p_rpv f fz (p_at f fz x j))) C dM_learn_242 (by show (0 : Nat) < 18; decide) rfl rfl (by decide) rfl inM lM_163 rfl v27 ?_
              refine v_iast (k := 12) C dM_learn_245 (by show (12 : Nat) < 18; decide) rfl rfl (by omega) (by decide) ?_
              refine v_iinc C dM_learn_246 rfl (by decide) ?_
              refine v_goto (tgt := 157) C dM_learn_249 (by decide) ?_
              exact v_lv rfl (ih2 (j + 1) (by omega) _ (by show m_scr (m_rw1 _ _ _ _ _) _; unfold m_rw1; rw [if_neg (by omega), hix]; exact m_scr_q2 (m_scr_q2 hS5 _ _ _) _ _ _) _)
      have L1 : ∀ (n k : Nat), n + k = 41 → 1 ≤ k → ∀ (S : fS), m_scr (m_cp B t k) S → ∀ o4 o5 o6 : Option Value, fv z (mG xCl D cA ad) 7 (f_R z (mG xCl D cA ad) (f_QV (fun σ1 => m_scr (m_lF f fz σ xs pts pts) σ1) (mG xCl D cA ad))) 0 0 S 26 [some (.ref (ad 0)), some (.int (fI ((pts : Int) - 1 - (t : Int)))), some (.int (fI (41 * (t : Int)))), some (.int (fI (k : Int))), o4, o5, o6] [] := by
        intro n
        induction n with
        | zero =>
          intro k hk hk1 S hS o4 o5 o6
          have hB7 : (m_cp B t k).1 0 7 = fz := hB7
          have hB10 : (m_cp B t k).1 0 10 = (t : Int) := hB10
          have hB24 : (m_cp B t k).1 0 24 = (pts : Int) := hB24
          have hBf : (m_cp B t k).2 7 = f := by rw [m_cp_o _ _ _ _ (by decide)]; exact hBf
          have hB15 : (m_cp B t k).2 15 ((pts : Int) - 1 - (t : Int)).toNat = x := by rw [m_cp_o _ _ _ _ (by decide)]; exact hB15
          obtain rfl : k = 41 := by omega
          refine v_iload_n C dM_learn_26 rfl rfl ?_
          refine v_bipush C dM_learn_27 (by decide +kernel) ?_
          refine v_icmp_gt (tgt := 128) C dM_learn_29 (by decide) (by omega) (by omega) (fun hc11 => ?_) (fun hc11 => ?_)
          · refine v_aload_n C dM_learn_128 rfl rfl ?_
            refine v_aload_n C dM_learn_129 rfl rfl ?_
            refine v_getR (k := 0) (q := 25) C dM_learn_130 (by show (0 : Nat) < 18; decide) rfl rfl (by decide) rfl inM lM_54 rfl ?_
            refine v_iload_n C dM_learn_133 rfl rfl ?_
            refine v_iald (k := 15) (v := x) C dM_learn_134 (by show (15 : Nat) < 18; decide) rfl rfl (by omega) (by decide) (by rw [hS.1]; exact hB15) ?_
            refine v_bipush C dM_learn_135 (by decide +kernel) ?_
            have hzz12 : 0 ≤ S.1 0 7 ∧ S.1 0 7 ≤ 12000 := by rw [hS.2 0 7 (by decide), hB7]; exact hz0
            have h7713 : ∀ i, -128 ≤ S.2 7 i ∧ S.2 7 i ≤ 127 := fun i => by rw [hS.1, hBf]; exact h7 i
            have hzz12f : S.2 7 = f := by rw [hS.1]; exact hBf
            have hzz12z : S.1 0 7 = fz := by rw [hS.2 0 7 (by decide)]; exact hB7
            refine v_cVI (k := 0) (n := 2) C (mE_ok _) trivial hR (kM_tells _ xCl D cA ad hJ S x 120 (by omega) (by omega) hzz12 h7713) dM_learn_137 (by show (0 : Nat) < 18; decide) rfl rfl gM_169 (by decide +kernel) (by decide) (by decide) rfl (Nat.le_of_ble_eq_true rfl) rfl ⟨rfl, rfl⟩ (fun rt S3 hp3 => ?_)
            rw [hzz12f, hzz12z] at hp3
            obtain ⟨g0, -, -, hp3⟩ := hp3
            have hS3 := m_scr_tr hS g0
            have hq3 : S3.1 0 20 = p_eol f fz x ∧ S3.1 0 22 = p_tv f fz x := by rcases hp3 with ⟨-, -, g20, g22⟩ | ⟨gn, -⟩; (· exact ⟨g20, g22⟩); (· exact absurd hok1.1 gn)
            obtain ⟨g20, g22⟩ := hq3
            refine v_pop C dM_learn_140 rfl ?_
            refine v_aload_n C dM_learn_141 rfl rfl ?_
            refine v_getI (k := 0) (q := 22) (v := p_tv f fz x) C dM_learn_142 (by show (0 : Nat) < 18; decide) rfl rfl (by decide) rfl inM lM_147 rfl g22 ?_
            refine v_istore_n C dM_learn_145 rfl (by decide) ?_
            refine v_aload_n C dM_learn_146 rfl rfl ?_
            refine v_getI (k := 0) (q := 20) (v := p_eol f fz x) C dM_learn_147 (by show (0 : Nat) < 18; decide) rfl rfl (by decide) rfl inM lM_144 rfl g20 ?_
            refine v_iconst C dM_learn_150 ?_
            refine v_iadd C dM_learn_151 ?_
            refine v_istore C dM_learn_152 (by decide) ?_
            refine v_iconst C dM_learn_154 ?_
            refine v_istore C dM_learn_155 (by decide) ?_
            exact v_lv rfl (L2 (p_many f fz x) 0 (by omega) S3 hS3 _)
          · exfalso; omega
        | succ n ih1 =>
          intro k hk hk1 S hS o4 o5 o6
          have hB7 : (m_cp B t k).1 0 7 = fz := hB7
          have hB10 : (m_cp B t k).1 0 10 = (t : Int) := hB10
          have hB24 : (m_cp B t k).1 0 24 = (pts : Int) := hB24
          have hBf : (m_cp B t k).2 7 = f := by rw [m_cp_o _ _ _ _ (by decide)]; exact hBf
          have hB15 : (m_cp B t k).2 15 ((pts : Int) - 1 - (t : Int)).toNat = x := by rw [m_cp_o _ _ _ _ (by decide)]; exact hB15
          have hik : (41 * (t : Int) + (k : Int)).toNat = 41 * t + k := by omega
          refine v_iload_n C dM_learn_26 rfl rfl ?_
          refine v_bipush C dM_learn_27 (by decide +kernel) ?_
          refine v_icmp_gt (tgt := 128) C dM_learn_29 (by decide) (by omega) (by omega) (fun hc14 => ?_) (fun hc14 => ?_)
          · exfalso; omega
          · refine v_aload_n C dM_learn_32 rfl rfl ?_
            refine v_getR (k := 0) (q := 13) C dM_learn_33 (by show (0 : Nat) < 18; decide) rfl rfl (by decide) rfl inM lM_39 rfl ?_
            refine v_iload_n C dM_learn_36 rfl rfl ?_
            refine v_iload_n C dM_learn_37 rfl rfl ?_
            refine v_iadd C dM_learn_38 ?_
            refine v_aload_n C dM_learn_39 rfl rfl ?_
            refine v_getI (k := 0) (q := 10) (v := (t : Int)) C dM_learn_40 (by show (0 : Nat) < 18; decide) rfl rfl (by decide) rfl inM lM_110 rfl ((hS.2 0 10 (by decide)).trans hB10) ?_
            refine v_if_ne (tgt := 50) C dM_learn_43 (by decide) (by omega) (fun hc15 => ?_) (fun hc15 => ?_)
            · refine v_aload_n C dM_learn_50 rfl rfl ?_
              refine v_getR (k := 0) (q := 13) C dM_learn_51 (by show (0 : Nat) < 18; decide) rfl rfl (by decide) rfl inM lM_39 rfl ?_
              refine v_iload_n C dM_learn_54 rfl rfl ?_
              refine v_bipush C dM_learn_55 (by decide +kernel) ?_
              refine v_isub C dM_learn_57 ?_
              refine v_iload_n C dM_learn_58 rfl rfl ?_
              refine v_iadd C dM_learn_59 ?_
              refine v_iald (k := 10) (v := (B.2 10 (41 * t + k - 41))) C dM_learn_60 (by show (10 : Nat) < 18; decide) rfl rfl (by omega) (by decide) (by rw [hS.1, show (41 * (t : Int) - 41 + (k : Int)).toNat = 41 * t + k - 41 by omega]; exact m_cp_lo _ _ _ _ _ (by omega)) ?_
              refine v_iast (k := 10) C dM_learn_61 (by show (10 : Nat) < 18; decide) rfl rfl (by omega) (by decide) ?_
              refine v_aload_n C dM_learn_62 rfl rfl ?_
              refine v_getR (k := 0) (q := 14) C dM_learn_63 (by show (0 : Nat) < 18; decide) rfl rfl (by decide) rfl inM lM_42 rfl ?_
              refine v_iload_n C dM_learn_66 rfl rfl ?_
              refine v_iload_n C dM_learn_67 rfl rfl ?_
              refine v_iadd C dM_learn_68 ?_
              refine v_aload_n C dM_learn_69 rfl rfl ?_
              refine v_getI (k := 0) (q := 10) (v := (t : Int)) C dM_learn_70 (by show (0 : Nat) < 18; decide) rfl rfl (by decide) rfl inM lM_110 rfl ((hS.2 0 10 (by decide)).trans hB10) ?_
              refine v_if_ne (tgt := 80) C dM_learn_73 (by decide) (by omega) (fun hc16 => ?_) (fun hc16 => ?_)
              · refine v_aload_n C dM_learn_80 rfl rfl ?_
                refine v_getR (k := 0) (q := 14) C dM_learn_81 (by show (0 : Nat) < 18; decide) rfl rfl (by decide) rfl inM lM_42 rfl ?_
                refine v_iload_n C dM_learn_84 rfl rfl ?_
                refine v_bipush C dM_learn_85 (by decide +kernel) ?_
                refine v_isub C dM_learn_87 ?_
                refine v_iload_n C dM_learn_88 rfl rfl ?_
                refine v_iadd C dM_learn_89 ?_
                refine v_iald (k := 11) (v := (B.2 11 (41 * t + k - 41))) C dM_learn_90 (by show (11 : Nat) < 18; decide) rfl rfl (by omega) (by decide) (by rw [p2_2, if_neg (by omega)]; rw [hS.1, show (41 * (t : Int) - 41 + (k : Int)).toNat = 41 * t + k - 41 by omega]; exact m_cp_lo _ _ _ _ _ (by omega)) ?_
                refine v_iast (k := 11) C dM_learn_91 (by show (11 : Nat) < 18; decide) rfl rfl (by omega) (by decide) ?_
                refine v_aload_n C dM_learn_92 rfl rfl ?_
                refine v_getR (k := 0) (q := 15) C dM_learn_93 (by show (0 : Nat) < 18; decide) rfl rfl (by decide) rfl inM lM_45 rfl ?_
                refine v_iload_n C dM_learn_96 rfl rfl ?_
                refine v_iload_n C dM_learn_97 rfl rfl ?_
                refine v_iadd C dM_learn_98 ?_
                refine v_aload_n C dM_learn_99 rfl rfl ?_
                refine v_getI (k := 0) (q := 10) (v := (t : Int)) C dM_learn_100 (by show (0 : Nat) < 18; decide) rfl rfl (by decide) rfl inM lM_110 rfl ((hS.2 0 10 (by decide)).trans hB10) ?_
                refine v_if_ne (tgt := 110) C dM_learn_103 (by decide) (by omega) (fun hc17 => ?_) (fun hc17 => ?_)
                · refine v_aload_n C dM_learn_110 rfl rfl ?_
                  refine v_getR (k := 0) (q := 15) C dM_learn_111 (by show (0 : Nat) < 18; decide) rfl rfl (by decide) rfl inM lM_45 rfl ?_
                  refine v_iload_n C dM_learn_114 rfl rfl ?_
                  refine v_bipush C dM_learn_115 (by decide +kernel) ?_
                  refine v_isub C dM_learn_117 ?_
                  refine v_iload_n C dM_learn_118 rfl rfl ?_
                  refine v_iadd C dM_learn_119 ?_
                  refine v_iald (k := 12) (v := (B.2 12 (41 * t + k - 41))) C dM_learn_120 (by show (12 : Nat) < 18; decide) rfl rfl (by omega) (by decide) (by rw [p2_2, if_neg (by omega)]; rw [p2_2, if_neg (by omega)]; rw [hS.1, show (41 * (t : Int) - 41 + (k : Int)).toNat = 41 * t + k - 41 by omega]; exact m_cp_lo _ _ _ _ _ (by omega)) ?_
                  refine v_iast (k := 12) C dM_learn_121 (by show (12 : Nat) < 18; decide) rfl rfl (by omega) (by decide) ?_
                  refine v_iinc C dM_learn_122 rfl (by decide) ?_
                  refine v_goto (tgt := 26) C dM_learn_125 (by decide) ?_
                  exact v_lv rfl (ih1 (k + 1) (by omega) (by omega) _ (by have hcs := m_cp_s B t k hk1; unfold m_cpv at hcs; rw [if_neg (show ¬ t = 0 by omega), if_neg (show ¬ t = 0 by omega), if_neg (show ¬ t = 0 by omega)] at hcs; rw [← hcs, hik]; exact m_scr_q2 (m_scr_q2 (m_scr_q2 hS _ _ _) _ _ _) _ _ _) _ _ _)
                · exfalso; omega
              · exfalso; omega
            · refine v_iconst C dM_learn_46 ?_
              refine v_goto (tgt := 61) C dM_learn_47 (by decide) ?_
              refine v_iast (k := 10) C dM_learn_61 (by show (10 : Nat) < 18; decide) rfl rfl (by omega) (by decide) ?_
              refine v_aload_n C dM_learn_62 rfl rfl ?_
              refine v_getR (k := 0) (q := 14) C dM_learn_63 (by show (0 : Nat) < 18; decide) rfl rfl (by decide) rfl inM lM_42 rfl ?_
              refine v_iload_n C dM_learn_66 rfl rfl ?_
              refine v_iload_n C dM_learn_67 rfl rfl ?_
              refine v_iadd C dM_learn_68 ?_
              refine v_aload_n C dM_learn_69 rfl rfl ?_
              refine v_getI (k := 0) (q := 10) (v := (t : Int)) C dM_learn_70 (by show (0 : Nat) < 18; decide) rfl rfl (by decide) rfl inM lM_110 rfl ((hS.2 0 10 (by decide)).trans hB10) ?_
              refine v_if_ne (tgt := 80) C dM_learn_73 (by decide) (by omega) (fun hc18 => ?_) (fun hc18 => ?_)
              · exfalso; omega
              · refine v_iconst C dM_learn_76 ?_
                refine v_goto (tgt := 91) C dM_learn_77 (by decide) ?_
                refine v_iast (k := 11) C dM_learn_91 (by show (11 : Nat) < 18; decide) rfl rfl (by omega) (by decide) ?_
                refine v_aload_n C dM_learn_92 rfl rfl ?_
                refine v_getR (k := 0) (q := 15) C dM_learn_93 (by show (0 : Nat) < 18; decide) rfl rfl (by decide) rfl inM lM_45 rfl ?_
                refine v_iload_n C dM_learn_96 rfl rfl ?_
                refine v_iload_n C dM_learn_97 rfl rfl ?_
                refine v_iadd C dM_learn_98 ?_
                refine v_aload_n C dM_learn_99 rfl rfl ?_
                refine v_getI (k := 0) (q := 10) (v := (t : Int)) C dM_learn_100 (by show (0 : Nat) < 18; decide) rfl rfl (by decide) rfl inM lM_110 rfl ((hS.2 0 10 (by decide)).trans hB10) ?_
                refine v_if_ne (tgt := 110) C dM_learn_103 (by decide) (by omega) (fun hc19 => ?_) (fun hc19 => ?_)
                · exfalso; omega
                · refine v_iconst C dM_learn_106 ?_
                  refine v_goto (tgt := 121) C dM_learn_107 (by decide) ?_
                  refine v_iast (k := 12) C dM_learn_121 (by show (12 : Nat) < 18; decide) rfl rfl (by omega) (by decide) ?_
                  refine v_iinc C dM_learn_122 rfl (by decide) ?_
                  refine v_goto (tgt := 26) C dM_learn_125 (by decide) ?_
                  exact v_lv rfl (ih1 (k + 1) (by omega) (by omega) _ (by have hcs := m_cp_s B t k hk1; unfold m_cpv at hcs; rw [if_pos (show t = 0 by omega), if_pos (show t = 0 by omega), if_pos (show t = 0 by omega), if_pos rfl, if_neg (by decide), if_neg (by decide)] at hcs; rw [← hcs, hik]; exact m_scr_q2 (m_scr_q2 (m_scr_q2 hS _ _ _) _ _ _) _ _ _) _ _ _)
      refine v_iload_n C dM_learn_12 rfl rfl ?_
      refine v_if_lt (tgt := 316) C dM_learn_13 (by decide) (by omega) (fun hc20 => ?_) (fun hc20 => ?_)
      · exfalso; omega
      · refine v_bipush C dM_learn_16 (by decide +kernel) ?_
        refine v_aload_n C dM_learn_18 rfl rfl ?_
        refine v_getI (k := 0) (q := 10) (v := (t : Int)) C dM_learn_19 (by show (0 : Nat) < 18; decide) rfl rfl (by decide) rfl inM lM_110 rfl ((hS.2 0 10 (by decide)).trans hB10) ?_
        refine v_imul C dM_learn_22 ?_
        refine v_istore_n C dM_learn_23 rfl (by decide) ?_
        refine v_iconst C dM_learn_24 ?_
        refine v_istore_n C dM_learn_25 rfl (by decide) ?_
        exact v_lv rfl (L1 40 1 (by omega) (by omega) S (by rw [← m_cp_1]; exact hS) _ _ _)
  refine v_aload_n C dM_learn_0 rfl rfl ?_
  refine v_iconst C dM_learn_1 ?_
  refine v_putI (k := 0) (q := 10) C dM_learn_2 (by show (0 : Nat) < 18; decide) rfl rfl (by decide) rfl inM tyM_ok nmM lM_110 rfl rfl rfl rfl rfl ?_
  obtain ⟨S0, hS0⟩ : ∃ s, s = f_p1 σ 0 10 0 := ⟨_, rfl⟩
  refine v_st hS0.symm ?_
  have hpS : S0.1 0 24 = (pts : Int) := by rw [hS0]; exact hp
  refine v_aload_n C dM_learn_5 rfl rfl ?_
  refine v_getI (k := 0) (q := 24) (v := (pts : Int)) C dM_learn_6 (by show (0 : Nat) < 18; decide) rfl rfl (by decide) rfl inM lM_175 rfl hpS ?_
  refine v_iconst C dM_learn_9 ?_
  refine v_isub C dM_learn_10 ?_
  refine v_istore_n C dM_learn_11 rfl (by decide) ?_
  exact v_lv (by simp) (L pts 0 (by omega) S0 (by rw [hS0]; exact m_scr_rf _) none none none none none)
end
section
/-! what learn leaves -/
def m_okL (σ : fS) : Prop := (∀ a b, m_okA a (σ.2 a b)) ∧ m_okS σ
theorem m_okL_cp {σ : fS} (h : m_okL σ) (t k : Nat) : m_okL (m_cp σ t k) := by
  refine ⟨fun a b => ?_, fun i hi => ?_⟩
  · show m_okA a (if (a = 10 ∨ a = 11 ∨ a = 12) ∧ 41 * t + 1 ≤ b ∧ b < 41 * t + k then (if t = 0 then (if a = 10 then -1 else 0) else σ.2 a (b - 41)) else σ.2 a b)
    split
    · rename_i g
      split
      · rcases g.1 with e | e | e
        · subst e; rw [if_pos rfl]; show (-1 : Int) ≤ -1 ∧ (-1 : Int) ≤ 99999; omega
        · exact m_okA_n _ _ (by omega)
        · subst e; rw [if_neg (by decide)]; show (0 : Int) ≤ 0 ∧ (0 : Int) ≤ 120; omega
      · exact h.1 a _
    · exact h.1 a b
  · have v : ∀ a, (a = 10 ∨ a = 11 ∨ a = 12) → (m_cp σ t k).2 a i = if 41 * t + 1 ≤ i ∧ i < 41 * t + k then (if t = 0 then (if a = 10 then -1 else 0) else σ.2 a (i - 41)) else σ.2 a i := fun a ha => by
      show (if (a = 10 ∨ a = 11 ∨ a = 12) ∧ 41 * t + 1 ≤ i ∧ i < 41 * t + k then (if t = 0 then (if a = 10 then -1 else 0) else σ.2 a (i - 41)) else σ.2 a i) = _
      by_cases g : 41 * t + 1 ≤ i ∧ i < 41 * t + k
      · rw [if_pos ⟨ha, g⟩, if_pos g]
      · rw [if_neg (fun q => g q.2), if_neg g]
    rw [v 10 (by decide)] at hi
    rw [v 11 (by decide), v 12 (by decide)]
    by_cases g : 41 * t + 1 ≤ i ∧ i < 41 * t + k
    · rw [if_pos g] at hi
      rw [if_pos g, if_pos g]
      by_cases g0 : t = 0
      · rw [if_pos g0, if_pos rfl] at hi; exact absurd rfl hi
      · rw [if_neg g0] at hi
        rw [if_neg g0, if_neg g0]
        exact h.2 _ hi
    · rw [if_neg g] at hi
      rw [if_neg g, if_neg g]
      exact h.2 i hi
theorem m_okL_rw1 {f : Nat → Int} {z x n : Int} {y : fS} (h : m_okL y) (i : Nat) (v : Int) (hv : -1 ≤ v ∧ v ≤ 99999) (hr : v = -1 ∨ p_rec f z v n x) (hx : x ≤ 12000) : m_okL (m_rw1 f z y i v) := by
  unfold m_rw1
  by_cases g : v = -1
  · rw [if_pos g]
    refine ⟨fun a b => ?_, fun j hj => ?_⟩
    · rw [p2_2]
      split
      · rename_i q; rw [q.1]; exact hv
      · exact h.1 a b
    · rw [p2_2] at hj
      rw [p2_2, if_neg (by omega), p2_2, if_neg (by omega)]
      by_cases q : 10 = 10 ∧ j = i
      · rw [if_pos q] at hj; exact absurd g hj
      · rw [if_neg q] at hj; exact h.2 j hj
  · rw [if_neg g]
    have hr : p_rec f z v n x := hr.elim (fun e => absurd e g) id
    have hl := p_rl_r hr
    have he := @p_eol_le f z v
    refine ⟨fun a b => ?_, fun j hj => ?_⟩
    · rw [p2_2]
      split
      · rename_i q; rw [q.1]; exact hl.1
      · rw [p2_2]
        split
        · rename_i q; exact m_okA_n _ _ (by omega)
        · rw [p2_2]
          split
          · rename_i q; rw [q.1]; exact hv
          · exact h.1 a b
    · rw [p2_2, if_neg (by omega), p2_2, if_neg (by omega), p2_2] at hj
      by_cases q : j = i
      · have e11 : (f_p2 (f_p2 (f_p2 y 10 i v) 11 i (p_eol f z v + 1)) 12 i (p_rl f z v)).2 11 j = p_eol f z v + 1 := by rw [p2_2, if_neg (by omega), p2_2, if_pos ⟨rfl, q⟩]
        have e12 : (f_p2 (f_p2 (f_p2 y 10 i v) 11 i (p_eol f z v + 1)) 12 i (p_rl f z v)).2 12 j = p_rl f z v := by rw [p2_2, if_pos ⟨rfl, q⟩]
        rw [e11, e12]
        omega
      · rw [if_neg (by omega)] at hj
        have e11 : (f_p2 (f_p2 (f_p2 y 10 i v) 11 i (p_eol f z v + 1)) 12 i (p_rl f z v)).2 11 j = y.2 11 j := by rw [p2_2, if_neg (by omega), p2_2, if_neg (by omega), p2_2, if_neg (by omega)]
        have e12 : (f_p2 (f_p2 (f_p2 y 10 i v) 11 i (p_eol f z v + 1)) 12 i (p_rl f z v)).2 12 j = y.2 12 j := by rw [p2_2, if_neg (by omega), p2_2, if_neg (by omega), p2_2, if_neg (by omega)]
        rw [e11, e12]
        exact h.2 j hj
theorem m_okL_rw {f : Nat → Int} {z x : Int} {σ : fS} (h : m_okL σ) (t : Nat) (hx : x ≤ 12000) (hk : p_okp f z x) : ∀ j, j ≤ p_many f z x → m_okL (m_rwF f z σ t x j) := by
  intro j
  induction j with
  | zero => intro _; exact h
  | succ j ih =>
    intro hj
    exact m_okL_rw1 (ih (by omega)) _ _ (p_rpv_r f z _) (hk.2.2.2.2 j (by omega)) hx
theorem m_okL_lF {f : Nat → Int} {z : Int} {σ : fS} {xs : Nat → Int} {pts : Nat} (h : m_okL σ) (hz : z ≤ 12000) (hok : ∀ k, k < pts → p_okp f z (xs k) ∧ 0 ≤ xs k ∧ xs k ≤ 11999 ∧ xs k < z) : ∀ t, t ≤ pts → m_okL (m_lF f z σ xs pts t) := by
  intro t
  induction t with
  | zero => intro _; exact h
  | succ t ih =>
    intro ht
    obtain ⟨hk, h0, h1, h2⟩ := hok (pts - 1 - t) (by omega)
    have hr := m_okL_rw (m_okL_cp (ih (by omega)) t 41) t (by omega) hk (p_many f z (xs (pts - 1 - t))) (Nat.le_refl _)
    have hat := p_at_r h0 hk.1 (p_many f z (xs (pts - 1 - t))) hk.2.1
    have e1 := hk.2.2.2.1.1.1
    have e2 := @p_eol_le f z (p_el f z (xs (pts - 1 - t)))
    have e3 := @p_eol_le f z (p_pl f z (xs (pts - 1 - t)))
    have e4 : p_el f z (xs (pts - 1 - t)) = p_eol f z (p_pl f z (xs (pts - 1 - t))) + 1 := rfl
    have e5 : p_end f z (xs (pts - 1 - t)) = p_eol f z (p_el f z (xs (pts - 1 - t))) + 1 := rfl
    have e6 : p_at f z (xs (pts - 1 - t)) (p_many f z (xs (pts - 1 - t))) = p_pl f z (xs (pts - 1 - t)) := rfl
    refine ⟨fun a b => ?_, fun i hi => ?_⟩
    · show m_okA a ((m_lp f z (m_lF f z σ xs pts t) t (xs (pts - 1 - t))).2 a b)
      unfold m_lp
      rw [p1_2, p2_2]
      split
      · rename_i q; rw [q.1]; show 0 ≤ xs (pts - 1 - t) ∧ xs (pts - 1 - t) ≤ 99999; omega
      · rw [p2_2]
        split
        · rename_i q; rw [q.1]; show 0 ≤ p_end f z (xs (pts - 1 - t)) ∧ p_end f z (xs (pts - 1 - t)) ≤ 12000; omega
        · exact hr.1 a b
    · have v : ∀ a, (a = 10 ∨ a = 11 ∨ a = 12) → (m_lF f z σ xs pts (t + 1)).2 a i = (m_rwF f z (m_cp (m_lF f z σ xs pts t) t 41) t (xs (pts - 1 - t)) (p_many f z (xs (pts - 1 - t)))).2 a i := fun a ha => by
        show (m_lp f z (m_lF f z σ xs pts t) t (xs (pts - 1 - t))).2 a i = _
        unfold m_lp
        rw [p1_2, p2_2, if_neg (by omega), p2_2, if_neg (by omega)]
      rw [v 10 (by decide)] at hi
      rw [v 11 (by decide), v 12 (by decide)]
      exact hr.2 i hi
/-- the x of the PARTS of a file that stands -/
theorem p_tv_r (f : Nat → Int) (z p : Int) : 0 ≤ p_tv f z p ∧ p_tv f z p ≤ 99999 := p_num_v _ _ _
theorem p_file_ok {f : Nat → Int} {z fl pts : Int} {xs : Nat → Int} (h : p_file f z 1 fl pts xs) (hz : 0 ≤ z ∧ z ≤ 12000) : ∃ n : Nat, pts = (n : Int) ∧ 1 ≤ n ∧ n ≤ 60 ∧ ∀ k, k < n → p_okp f z (xs k) ∧ 0 ≤ xs k ∧ xs k ≤ 11999 ∧ xs k < z := by
  rcases h with ⟨_, h, _⟩ | ⟨hf, ⟨_, h, _⟩ | ⟨_, ⟨_, h, _⟩ | ⟨⟨hL, hL2⟩, j, hj, hc, ⟨_, h⟩ | ⟨⟨g, hlk⟩, -, hp, hxs⟩⟩⟩⟩
  · exact absurd h (by decide)
  · exact absurd h (by decide)
  · exact absurd h (by decide)
  · exact absurd h (by decide)
  · have hz4 : 4 ≤ z := by
      have a := hf.1
      have b := hf.2.2.2.2
      omega
    have hl := lastF_le f (z - 1).toNat (z - 1)
    have hle : p_lst f z ≤ z - 1 := hl.2
    have rng : ∀ i, i ≤ j → 0 ≤ p_ch f z i ∧ p_ch f z i < p_lst f z := by
      intro i
      induction i with
      | zero => intro _; exact ⟨(p_tv_r f z _).1, hL2⟩
      | succ i ih =>
        intro hi
        obtain ⟨g, hg⟩ := (hc i (by omega)).1
        have hp := (hc i (by omega)).2
        have ho := (p_look_ok hg (by omega)).1.2.2.1.2
        have := ih (by omega)
        have e : p_ch f z (i + 1) = p_tv f z (p_pl f z (p_ch f z i)) := rfl
        have := p_tv_r f z (p_pl f z (p_ch f z i))
        omega
    refine ⟨j + 1, by push_cast; omega, by omega, by omega, fun k hk => ?_⟩
    have hr := rng k (by omega)
    rw [hxs k (by omega)]
    refine ⟨?_, by omega, by omega, by omega⟩
    by_cases e : k = j
    · subst e; exact (p_look_ok hlk (by decide)).1
    · obtain ⟨g, hg⟩ := (hc k (by omega)).1
      have hp := (hc k (by omega)).2
      exact (p_look_ok hg (by omega)).1
/-! the objects of the last revision -/
def m_ldo (f : Nat → Int) (y : fS) (n : Nat) (sz stt : Int) (k : Nat) : fS := (y.1, fun a i => if a = 6 ∧ 120 * n ≤ i ∧ i < 120 * n + k then (if ((i - 120 * n : Nat) : Int) < sz then f (stt + ((i - 120 * n : Nat) : Int)).toNat else 0) else y.2 a i)
theorem m_ldo_0 (f : Nat → Int) (y : fS) (n : Nat) (sz stt : Int) : y = m_ldo f y n sz stt 0 := fS_ext (fun _ _ => rfl) (fun a i => by
  show _ = if a = 6 ∧ 120 * n ≤ i ∧ i < 120 * n + 0 then (if ((i - 120 * n : Nat) : Int) < sz then f (stt + ((i - 120 * n : Nat) : Int)).toNat else 0) else y.2 a i
  rw [if_neg (by omega)])
theorem m_ldo_o (f : Nat → Int) (y : fS) (n : Nat) (sz stt : Int) (k a : Nat) (h : a ≠ 6) : (m_ldo f y n sz stt k).2 a = y.2 a := by
  funext i
  show (if a = 6 ∧ 120 * n ≤ i ∧ i < 120 * n + k then (if ((i - 120 * n : Nat) : Int) < sz then f (stt + ((i - 120 * n : Nat) : Int)).toNat else 0) else y.2 a i) = _
  rw [if_neg (by omega)]
theorem m_ldo_s (f : Nat → Int) (y : fS) (n : Nat) (sz stt : Int) (k : Nat) : f_p2 (m_ldo f y n sz stt k) 6 (120 * n + k) (if (k : Int) < sz then f (stt + (k : Int)).toNat else 0) = m_ldo f y n sz stt (k + 1) := by
  refine fS_ext (fun _ _ => rfl) (fun a i => ?_)
  rw [p2_2]
  show (if _ then _ else (if a = 6 ∧ 120 * n ≤ i ∧ i < 120 * n + k then (if ((i - 120 * n : Nat) : Int) < sz then f (stt + ((i - 120 * n : Nat) : Int)).toNat else 0) else y.2 a i)) = if a = 6 ∧ 120 * n ≤ i ∧ i < 120 * n + (k + 1) then (if ((i - 120 * n : Nat) : Int) < sz then f (stt + ((i - 120 * n : Nat) : Int)).toNat else 0) else y.2 a i
  by_cases g : a = 6 ∧ i = 120 * n + k
  · rw [if_pos g, if_pos (show a = 6 ∧ 120 * n ≤ i ∧ i < 120 * n + (k + 1) by omega), show i - 120 * n = k by omega]
  · rw [if_neg g]
    by_cases g2 : a = 6 ∧ 120 * n ≤ i ∧ i < 120 * n + k
    · rw [if_pos g2, if_pos (show a = 6 ∧ 120 * n ≤ i ∧ i < 120 * n + (k + 1) by omega)]
    · rw [if_neg g2, if_neg (show ¬ (a = 6 ∧ 120 * n ≤ i ∧ i < 120 * n + (k + 1)) by omega)]
def m_ld1 (L y : fS) (b n : Nat) : fS := f_p2 (f_p2 (f_p2 y 1 n (if L.2 10 (b + n) = -1 then 0 else 1)) 2 n 0) 5 n (if L.2 10 (b + n) = -1 then 0 else L.2 12 (b + n))
def m_ldn (f : Nat → Int) (L : fS) (b : Nat) : Nat → fS
  | 0 => L
  | k + 1 => m_ldo f (m_ld1 L (m_ldn f L b k) b (k + 1)) (k + 1) (if L.2 10 (b + (k + 1)) = -1 then 0 else L.2 12 (b + (k + 1))) (L.2 11 (b + (k + 1))) 120
theorem m_ld1_o (L y : fS) (b n a : Nat) (h : a ≠ 1 ∧ a ≠ 2 ∧ a ≠ 5) : (m_ld1 L y b n).2 a = y.2 a := by
  funext i
  unfold m_ld1
  rw [p2_2, if_neg (by omega), p2_2, if_neg (by omega), p2_2, if_neg (by omega)]
theorem m_ldn_o (f : Nat → Int) (L : fS) (b : Nat) : ∀ k, (m_ldn f L b k).1 = L.1 ∧ ∀ a, (a ≠ 1 ∧ a ≠ 2 ∧ a ≠ 5 ∧ a ≠ 6) → (m_ldn f L b k).2 a = L.2 a := by
  intro k
  induction k with
  | zero => exact ⟨rfl, fun _ _ => rfl⟩
  | succ k ih => exact ⟨ih.1, fun a h => by show (m_ldo _ _ _ _ _ _).2 a = _; rw [m_ldo_o _ _ _ _ _ _ a (by omega), m_ld1_o _ _ _ _ a (by omega)]; exact ih.2 a h⟩
theorem m_ldn_A {f : Nat → Int} {L : fS} {b : Nat} (h : ∀ a i, m_okA a (L.2 a i)) (hf : ∀ i, -128 ≤ f i ∧ f i ≤ 127) : ∀ k a i, m_okA a ((m_ldn f L b k).2 a i) := by
  intro k
  induction k with
  | zero => exact h
  | succ k ih =>
    intro a i
    have h1 : ∀ a i, m_okA a ((m_ld1 L (m_ldn f L b k) b (k + 1)).2 a i) := by
      intro a i
      unfold m_ld1
      rw [p2_2]
      split
      · rename_i q; rw [q.1]
        split
        · show (0 : Int) ≤ 0 ∧ (0 : Int) ≤ 120; omega
        · exact h 12 _
      · rw [p2_2]
        split
        · rename_i q; rw [q.1]; show (0 : Int) ≤ 0 ∧ (0 : Int) ≤ 1; omega
        · rw [p2_2]
          split
          · rename_i q; rw [q.1]
            split
            · show (0 : Int) ≤ 0 ∧ (0 : Int) ≤ 1; omega
            · show (0 : Int) ≤ 1 ∧ (1 : Int) ≤ 1; omega
          · exact ih a i
    show m_okA a (if a = 6 ∧ 120 * (k + 1) ≤ i ∧ i < 120 * (k + 1) + 120 then (if ((i - 120 * (k + 1) : Nat) : Int) < (if L.2 10 (b + (k + 1)) = -1 then 0 else L.2 12 (b + (k + 1))) then f (L.2 11 (b + (k + 1)) + ((i - 120 * (k + 1) : Nat) : Int)).toNat else 0) else (m_ld1 L (m_ldn f L b k) b (k + 1)).2 a i)
    split
    · rename_i q; rw [q.1]
      by_cases q2 : ((i - 120 * (k + 1) : Nat) : Int) < (if L.2 10 (b + (k + 1)) = -1 then 0 else L.2 12 (b + (k + 1)))
      · rw [if_pos q2]; exact hf _
      · rw [if_neg q2]; show (-128 : Int) ≤ 0 ∧ (0 : Int) ≤ 127; omega
    · exact h1 a i
theorem m_scr_sv {B S : fS} (h : m_scr B S) (k : Nat) : m_scr (m_save B k) (m_save S k) := by
  refine ⟨?_, h.2⟩
  unfold m_save
  show (fun a b => _) = (fun a b => _)
  rw [h.1]
noncomputable def m_fin (f : Nat → Int) (z : Int) (S : fS) (n : Nat) : fS := m_save (f_p1 (m_ldn f (m_lF f z S (S.2 15) n n) (41 * (n - 1)) 40) 0 9 0) 41
def m_rd (f : Nat → Int) (z : Int) (σ : fS) (v : Int) (σ1 : fS) : Prop :=
  (m_scx σ σ1 ∧ p_file f z 0 (σ1.1 0 23) (σ1.1 0 24) (σ1.2 15) ∧ v = -1 - σ1.1 0 23) ∨
  (∃ (S : fS) (n : Nat), m_scx σ S ∧ p_file f z 1 (S.1 0 23) (S.1 0 24) (S.2 15) ∧ S.1 0 24 = (n : Int) ∧ v = (n : Int) ∧ m_scr (m_fin f z S n) σ1)
theorem m_I_scx {σ S : fS} (h : m_I σ) (hs : m_scx σ S) : m_I S := by
  refine m_I_fr h (fun b => ?_) (fun a b => ?_)
  · by_cases g : b = 20 ∨ b = 21 ∨ b = 22 ∨ b = 23 ∨ b = 24 ∨ b = 26 ∨ b = 27
    · right; exact ⟨by omega, by omega, m_okF_n _ _ (by omega)⟩
    · left; exact hs.2 0 b (by omega)
  · by_cases g : a = 15
    · right; exact ⟨by omega, by omega, by omega, m_okA_n _ _ (by omega)⟩
    · left; exact hs.1 a b g
theorem m_I_scr {σ S : fS} (h : m_I σ) (hs : m_scr σ S) : m_I S := m_I_scx h (m_scx_of (m_scf_of hs))
theorem m_rd_I {f : Nat → Int} {z v : Int} {σ σ1 : fS} (hI : m_I σ) (hf : σ.2 7 = f) (hz : σ.1 0 7 = z) (h : m_rd f z σ v σ1) : m_I σ1 ∧ σ1.1 0 0 = σ.1 0 0 := by
  have hzr : 0 ≤ z ∧ z ≤ 12000 := by rw [← hz]; exact hI.1 7
  rcases h with ⟨hs, -, -⟩ | ⟨S, n, hs, hp, hn, -, hm⟩
  · exact ⟨m_I_scx hI hs, hs.2 0 0 (by decide)⟩
  · have hIS := m_I_scx hI hs
    obtain ⟨n2, e2, n1, n60, hok⟩ := p_file_ok hp hzr
    have e : n2 = n := by omega
    subst e
    have hL := m_okL_lF ⟨hIS.2.1, hIS.2.2.1⟩ hzr.2 hok n2 (Nat.le_refl _)
    obtain ⟨l1, l2, l3⟩ := m_lF_o f z S (S.2 15) n2 n2
    obtain ⟨o1, o2⟩ := m_ldn_o f (m_lF f z S (S.2 15) n2 n2) (41 * (n2 - 1)) 40
    have hA := m_ldn_A (f := f) (b := 41 * (n2 - 1)) hL.1 (fun i => by rw [← hf]; exact hI.2.1 7 i) 40
    have hfin : m_I (m_fin f z S n2) := by
      refine ⟨fun b => ?_, fun a b => ?_, fun i hi => ?_, fun _ => ?_⟩
      · show m_okF b ((f_p1 (m_ldn f (m_lF f z S (S.2 15) n2 n2) (41 * (n2 - 1)) 40) 0 9 0).1 0 b)
        rw [p1_1]
        by_cases g : 0 = 0 ∧ b = 9
        · rw [if_pos g, g.2]; show (0 : Int) ≤ 0 ∧ (0 : Int) ≤ 1; omega
        · rw [if_neg g, o1]
          by_cases g10 : b = 10
          · subst g10; rw [l2]; show 0 ≤ (n2 : Int) ∧ (n2 : Int) ≤ 60; omega
          · rw [l1 b g10]; exact hIS.1 b
      · show m_okA a (if a = 3 ∧ 1 ≤ b ∧ b < 41 then 0 else if a = 4 ∧ 1 ≤ b ∧ b < 41 then (m_ldn f (m_lF f z S (S.2 15) n2 n2) (41 * (n2 - 1)) 40).2 1 b else (m_ldn f (m_lF f z S (S.2 15) n2 n2) (41 * (n2 - 1)) 40).2 a b)
        split
        · rename_i q; rw [q.1]; show (0 : Int) ≤ 0 ∧ (0 : Int) ≤ 1; omega
        · split
          · rename_i q; rw [q.1]; exact hA 1 b
          · exact hA a b
      · have v : ∀ a, (a = 10 ∨ a = 11 ∨ a = 12) → (m_fin f z S n2).2 a i = (m_lF f z S (S.2 15) n2 n2).2 a i := fun a ha => by
          show (if a = 3 ∧ 1 ≤ i ∧ i < 41 then 0 else if a = 4 ∧ 1 ≤ i ∧ i < 41 then (m_ldn f (m_lF f z S (S.2 15) n2 n2) (41 * (n2 - 1)) 40).2 1 i else (m_ldn f (m_lF f z S (S.2 15) n2 n2) (41 * (n2 - 1)) 40).2 a i) = _
          rw [if_neg (by omega), if_neg (by omega), o2 a (by omega)]
        rw [v 10 (by decide)] at hi
        rw [v 11 (by decide), v 12 (by decide)]
        exact hL.2 i hi
      · show 1 ≤ (f_p1 (m_ldn f (m_lF f z S (S.2 15) n2 n2) (41 * (n2 - 1)) 40) 0 9 0).1 0 10
        rw [p1_1, if_neg (by decide), o1, l2]
        omega
    refine ⟨m_I_scr hfin hm, ?_⟩
    rw [hm.2 0 0 (by decide)]
    show (f_p1 (m_ldn f (m_lF f z S (S.2 15) n2 n2) (41 * (n2 - 1)) 40) 0 9 0).1 0 0 = _
    rw [p1_1, if_neg (by decide), o1, l1 0 (by decide)]
    exact hs.2 0 0 (by decide)
/-- take: the file is cut -/
def m_tkn (σ : fS) (k : Nat) : Int := if σ.2 8 k < σ.1 0 7 then σ.2 8 k else σ.1 0 7
def m_tk (σ : fS) (k : Nat) : fS := f_p1 (f_p1 (f_p1 σ 0 0 0) 0 7 (m_tkn σ k)) 0 9 1
theorem m_tk_I {σ : fS} {k : Nat} (h : m_I σ) : m_I (m_tk σ k) := by
  have h8 : 0 ≤ σ.2 8 k ∧ σ.2 8 k ≤ 12000 := h.2.1 8 k
  have h7 : 0 ≤ σ.1 0 7 ∧ σ.1 0 7 ≤ 12000 := h.1 7
  have hn : (0 ≤ m_tkn σ k ∧ m_tkn σ k ≤ 12000) ∧ (m_tkn σ k ≠ 0 → σ.1 0 7 ≠ 0) := by unfold m_tkn; split <;> omega
  refine ⟨fun b => ?_, h.2.1, h.2.2.1, fun g => ?_⟩
  · unfold m_tk
    rw [p1_1]
    by_cases g9 : 0 = 0 ∧ b = 9
    · rw [if_pos g9, g9.2]; show (0 : Int) ≤ 1 ∧ (1 : Int) ≤ 1; omega
    · rw [if_neg g9, p1_1]
      by_cases g7 : 0 = 0 ∧ b = 7
      · rw [if_pos g7, g7.2]; exact hn.1
      · rw [if_neg g7, p1_1]
        by_cases g0 : 0 = 0 ∧ b = 0
        · rw [if_pos g0, g0.2]; exact m_okF_n _ _ (by decide)
        · rw [if_neg g0]; exact h.1 b
  · have e7 : (m_tk σ k).1 0 7 = m_tkn σ k := rfl
    have e10 : (m_tk σ k).1 0 10 = σ.1 0 10 := rfl
    rw [e7] at g
    rw [e10]
    exact h.2.2.2 (hn.2 g)
set_option maxRecDepth 100000 in
set_option maxHeartbeats 4000000 in
theorem kM_readFile (l : Launch) (xCl : List vw_C) (D : va_G) (cA : Nat → ClassId) (ad : Nat → Nat) (hJ : f_J (mG xCl D cA ad)) (σ : fS) (f : Nat → Int) (fz : Int) (hf : σ.2 7 = f) (hz : σ.1 0 7 = fz) (hI : m_I σ) : f_M l (mG xCl D cA ad) mE yM_readFile (Cond.code yM_readFile cM_readFile 4 (some .int) :: A9) 5 σ [.ref (ad 0)] (f_QI (fun v σ1 => m_rd f fz σ v σ1) (mG xCl D cA ad)) := by
  refine f_enter (by decide +kernel) hJ rfl (Nat.le_of_ble_eq_true rfl) ?_
  intro z hzl hR C hRt hLk hEz
  subst hzl
  have h7 : ∀ i, -128 ≤ f i ∧ f i ≤ 127 := fun i => by rw [← hf]; exact hI.2.1 7 i
  have hz0 : 0 ≤ fz ∧ fz ≤ 12000 := by rw [← hz]; exact hI.1 7
  have LL : ∀ (S : fS) (n : Nat), m_scx σ S → p_file f fz 1 (S.1 0 23) (S.1 0 24) (S.2 15) → S.1 0 24 = (n : Int) → 1 ≤ n → n ≤ 60 → (∀ k, k < n → p_okp f fz (S.2 15 k) ∧ 0 ≤ S.2 15 k ∧ S.2 15 k ≤ 11999 ∧ S.2 15 k < fz) → ∀ (m k : Nat), m + k = 40 → ∀ (S2 : fS), m_scr (m_ldn f (m_lF f fz S (S.2 15) n n) (41 * (n - 1)) k) S2 → ∀ o3 : Option Value, fv z (mG xCl D cA ad) 4 (f_R z (mG xCl D cA ad) (f_QI (fun v σ1 => m_rd f fz σ v σ1) (mG xCl D cA ad))) 0 0 S2 30 [some (.ref (ad 0)), some (.int (fI (41 * ((n : Int) - 1)))), some (.int (fI ((k : Int) + 1))), o3] [] := by
    intro S n hs hpl hn n1 n60 hok m
    have hIS := m_I_scx hI hs
    obtain ⟨L, hL⟩ : ∃ s, s = m_lF f fz S (S.2 15) n n := ⟨_, rfl⟩
    have hLo := m_lF_o f fz S (S.2 15) n n
    have hLq := m_okL_lF ⟨hIS.2.1, hIS.2.2.1⟩ hz0.2 hok n (Nat.le_refl _)
    rw [← hL] at hLo hLq ⊢
    have hLf : L.2 7 = f := by rw [hLo.2.2 7 (by decide), m_scx_f hs]; exact hf
    induction m with
    | zero =>
      intro k hk S2 hS o3
      have hno := m_ldn_o f L (41 * (n - 1)) k
      obtain ⟨B, hB⟩ : ∃ s, s = m_ldn f L (41 * (n - 1)) k := ⟨_, rfl⟩
      rw [← hB] at hno hS
      have hB10 : B.1 0 10 = (n : Int) := by rw [hno.1]; exact hLo.2.1
      obtain rfl : k = 40 := by omega
      refine v_iload_n C dM_readFile_30 rfl rfl ?_
      refine v_bipush C dM_readFile_31 (by decide +kernel) ?_
      refine v_icmp_gt (tgt := 153) C dM_readFile_33 (by decide) (by omega) (by omega) (fun hc1 => ?_) (fun hc1 => ?_)
      · refine v_aload_n C dM_readFile_153 rfl rfl ?_
        refine v_iconst C dM_readFile_154 ?_
        refine v_putI (k := 0) (q := 9) C dM_readFile_155 (by show (0 : Nat) < 18; decide) rfl rfl (by decide) rfl inM tyM_ok nmM lM_123 rfl rfl rfl (fN_bool (by omega)) (fF_bool (by omega)) ?_
        obtain ⟨S3, hS3⟩ : ∃ s, s = f_p1 S2 0 9 0 := ⟨_, rfl⟩
        refine v_st hS3.symm ?_
        have hS3s : m_scr (f_p1 B 0 9 0) S3 := by rw [hS3]; exact m_scr_q1 hS 9 0
        refine v_aload_n C dM_readFile_158 rfl rfl ?_
        refine v_cVV (k := 0) (n := 0) C (mE_ok _) trivial hR (kM_save _ xCl D cA ad hJ S3 (fun i => by rw [hS3s.1]; show 0 ≤ B.2 1 i ∧ B.2 1 i ≤ 1; rw [hB]; exact m_ldn_A (b := 41 * (n - 1)) hLq.1 h7 40 1 i)) dM_readFile_159 (by show (0 : Nat) < 18; decide) rfl rfl gM_130 (by decide +kernel) (by decide) (by decide) rfl (Nat.le_of_ble_eq_true rfl) rfl ⟨rfl, rfl⟩ (fun σ1 hp1 => ?_)
        obtain ⟨T, hT⟩ : ∃ s, s = m_save S3 41 := ⟨_, rfl⟩
        subst σ1
        refine v_st hT.symm ?_
        have hTs : m_scr (m_save (f_p1 B 0 9 0) 41) T := by rw [hT]; exact m_scr_sv hS3s 41
        have hT10 : T.1 0 10 = (n : Int) := by rw [hTs.2 0 10 (by decide)]; show (f_p1 B 0 9 0).1 0 10 = _; rw [p1_1, if_neg (by decide)]; exact hB10
        refine v_aload_n C dM_readFile_162 rfl rfl ?_
        refine v_getI (k := 0) (q := 10) (v := (n : Int)) C dM_readFile_163 (by show (0 : Nat) < 18; decide) rfl rfl (by decide) rfl inM lM_110 rfl hT10 ?_
        exact v_iret C hRt hLk dM_readFile_166 (Or.inr ⟨S, n, hs, hpl, hn, rfl, by unfold m_fin; rw [← hL, ← hB]; exact hTs⟩)
      · exfalso; omega
    | succ m ih =>
      intro k hk S2 hS o3
      have hno := m_ldn_o f L (41 * (n - 1)) k
      obtain ⟨B, hB⟩ : ∃ s, s = m_ldn f L (41 * (n - 1)) k := ⟨_, rfl⟩
      rw [← hB] at hno hS
      have hB10 : B.1 0 10 = (n : Int) := by rw [hno.1]; exact hLo.2.1
      have hkt : ((k : Int) + 1).toNat = k + 1 := by omega
      have hbi : (41 * ((n : Int) - 1) + ((k : Int) + 1)).toNat = 41 * (n - 1) + (k + 1) := by omega
      obtain ⟨p, hp⟩ : ∃ v, v = L.2 10 (41 * (n - 1) + (k + 1)) := ⟨_, rfl⟩
      obtain ⟨stt, hst⟩ : ∃ v, v = L.2 11 (41 * (n - 1) + (k + 1)) := ⟨_, rfl⟩
      obtain ⟨cc9, hcc⟩ : ∃ v, v = L.2 12 (41 * (n - 1) + (k + 1)) := ⟨_, rfl⟩
      have hpr : -1 ≤ p ∧ p ≤ 99999 := by rw [hp]; exact hLq.1 10 _
      have hcr : 0 ≤ cc9 ∧ cc9 ≤ 120 := by rw [hcc]; exact hLq.1 12 _
      have hsr : p ≠ -1 → 0 ≤ stt ∧ stt + cc9 ≤ 12000 := fun g => by rw [hst, hcc]; exact hLq.2 _ (by rw [← hp]; exact g)
      have hs1 : m_ldn f L (41 * (n - 1)) (k + 1) = m_ldo f (m_ld1 L B (41 * (n - 1)) (k + 1)) (k + 1) (if p = -1 then 0 else cc9) stt 120 := by rw [hp, hcc, hst, hB]; rfl
      have LI : ∀ (w i : Nat), w + i = 120 → ∀ (S3 : fS), m_scr (m_ldo f (m_ld1 L B (41 * (n - 1)) (k + 1)) (k + 1) (if p = -1 then 0 else cc9) stt i) S3 → fv z (mG xCl D cA ad) 4 (f_R z (mG xCl D cA ad) (f_QI (fun v σ1 => m_rd f fz σ v σ1) (mG xCl D cA ad))) 0 0 S3 95 [some (.ref (ad 0)), some (.int (fI (41 * ((n : Int) - 1)))), some (.int (fI ((k : Int) + 1))), some (.int (fI (i : Int)))] [] := by
        intro w
        induction w with
        | zero =>
          intro i hi S3 hS3
          obtain rfl : i = 120 := by omega
          refine v_iload_n C dM_readFile_95 rfl rfl ?_
          refine v_bipush C dM_readFile_96 (by decide +kernel) ?_
          refine v_icmp_ge (tgt := 147) C dM_readFile_98 (by decide) (by omega) (by omega) (fun hc2 => ?_) (fun hc2 => ?_)
          · refine v_iinc C dM_readFile_147 rfl (by decide) ?_
            refine v_goto (tgt := 30) C dM_readFile_150 (by decide) ?_
            exact v_lv rfl (ih (k + 1) (by omega) S3 (by rw [hs1]; exact hS3) _)
          · exfalso; omega
        | succ w ihw =>
          intro i hi S3 hS3
          have hA : ∀ a, a ≠ 6 → S3.2 a = (m_ld1 L B (41 * (n - 1)) (k + 1)).2 a := fun a g => by rw [hS3.1, m_ldo_o _ _ _ _ _ _ a g]
          have hA2 : ∀ a, (a ≠ 1 ∧ a ≠ 2 ∧ a ≠ 5 ∧ a ≠ 6) → S3.2 a = L.2 a := fun a g => by rw [hA a (by omega), m_ld1_o _ _ _ _ a (by omega), hno.2 a g]
          have h5v : S3.2 5 ((k : Int) + 1).toNat = if p = -1 then 0 else cc9 := by rw [hkt, hA 5 (by decide)]; unfold m_ld1; rw [p2_2, if_pos ⟨rfl, rfl⟩, hp, hcc]
          have hcv : p = -1 ∨ ((if p = -1 then 0 else cc9) = cc9) := by by_cases g : p = -1; (· exact Or.inl g); (· right; rw [if_neg g])
          have hcv0 : p = -1 → (if p = -1 then 0 else cc9) = 0 := fun g => if_pos g
          have hci : (120 * ((k : Int) + 1) + (i : Int)).toNat = 120 * (k + 1) + i := by omega
          obtain ⟨sz, hsz⟩ : ∃ v, v = if p = -1 then 0 else cc9 := ⟨_, rfl⟩
          rw [← hsz] at h5v hcv hcv0 hS3
          have hls := m_ldo_s f (m_ld1 L B (41 * (n - 1)) (k + 1)) (k + 1) sz stt i
          have hszr : 0 ≤ sz ∧ sz ≤ 120 := by rcases hcv with g | g; (· rw [hcv0 g]; omega); (· omega)
          refine v_iload_n C dM_readFile_95 rfl rfl ?_
          refine v_bipush C dM_readFile_96 (by decide +kernel) ?_
          refine v_icmp_ge (tgt := 147) C dM_readFile_98 (by decide) (by omega) (by omega) (fun hc3 => ?_) (fun hc3 => ?_)
          · exfalso; omega
          · refine v_aload_n C dM_readFile_101 rfl rfl ?_
            refine v_getR (k := 0) (q := 6) C dM_readFile_102 (by show (0 : Nat) < 18; decide) rfl rfl (by decide) rfl inM lM_26 rfl ?_
            refine v_bipush C dM_readFile_105 (by decide +kernel) ?_
            refine v_iload_n C dM_readFile_107 rfl rfl ?_
            refine v_imul C dM_readFile_108 ?_
            refine v_iload_n C dM_readFile_109 rfl rfl ?_
            refine v_iadd C dM_readFile_110 ?_
            refine v_iload_n C dM_readFile_111 rfl rfl ?_
            refine v_aload_n C dM_readFile_112 rfl rfl ?_
            refine v_getR (k := 0) (q := 5) C dM_readFile_113 (by show (0 : Nat) < 18; decide) rfl rfl (by decide) rfl inM lM_22 rfl ?_
            refine v_iload_n C dM_readFile_116 rfl rfl ?_
            refine v_iald (k := 5) (v := sz) C dM_readFile_117 (by show (5 : Nat) < 18; decide) rfl rfl (by omega) (by decide) h5v ?_
            refine v_icmp_ge (tgt := 139) C dM_readFile_118 (by decide) (by omega) (by omega) (fun hc4 => ?_) (fun hc4 => ?_)
            · refine v_iconst C dM_readFile_139 ?_
              refine v_bast (k := 6) C dM_readFile_140 (by show (6 : Nat) < 18; decide) rfl rfl (by omega) (by decide) (by omega) ?_
              refine v_iinc C dM_readFile_141 rfl (by decide) ?_
              refine v_goto (tgt := 95) C dM_readFile_144 (by decide) ?_
              exact v_lv rfl (ihw (i + 1) (by omega) _ (by rw [← hsz, ← hls, hci]; first | (rw [if_pos (by omega)]; exact m_scr_q2 hS3 _ _ _) | (rw [if_neg (by omega)]; exact m_scr_q2 hS3 _ _ _)))
            · have hfb := h7 (stt + (i : Int)).toNat
              have hsr2 := hsr (fun g => by rw [hcv0 g] at *; omega)
              refine v_aload_n C dM_readFile_121 rfl rfl ?_
              refine v_getR (k := 0) (q := 8) C dM_readFile_122 (by show (0 : Nat) < 18; decide) rfl rfl (by decide) rfl inM lM_30 rfl ?_
              refine v_aload_n C dM_readFile_125 rfl rfl ?_
              refine v_getR (k := 0) (q := 14) C dM_readFile_126 (by show (0 : Nat) < 18; decide) rfl rfl (by decide) rfl inM lM_42 rfl ?_
              refine v_iload_n C dM_readFile_129 rfl rfl ?_
              refine v_iload_n C dM_readFile_130 rfl rfl ?_
              refine v_iadd C dM_readFile_131 ?_
              refine v_iald (k := 11) (v := stt) C dM_readFile_132 (by show (11 : Nat) < 18; decide) rfl rfl (by omega) (by decide) (by rw [hA2 11 (by decide), hbi]; exact hst.symm) ?_
              refine v_iload_n C dM_readFile_133 rfl rfl ?_
              refine v_iadd C dM_readFile_134 ?_
              refine v_bald (k := 7) (v := f (stt + (i : Int)).toNat) C dM_readFile_135 (by show (7 : Nat) < 18; decide) rfl rfl (by omega) (by decide) (by rw [hA2 7 (by decide), hLf]) ?_
              refine v_goto (tgt := 140) C dM_readFile_136 (by decide) ?_
              refine v_bast (k := 6) C dM_readFile_140 (by show (6 : Nat) < 18; decide) rfl rfl (by omega) (by decide) (by omega) ?_
              refine v_iinc C dM_readFile_141 rfl (by decide) ?_
              refine v_goto (tgt := 95) C dM_readFile_144 (by decide) ?_
              exact v_lv rfl (ihw (i + 1) (by omega) _ (by rw [← hsz, ← hls, hci]; first | (rw [if_pos (by omega)]; exact m_scr_q2 hS3 _ _ _) | (rw [if_neg (by omega)]; exact m_scr_q2 hS3 _ _ _)))
      refine v_iload_n C dM_readFile_30 rfl rfl ?_
      refine v_bipush C dM_readFile_31 (by decide +kernel) ?_
      refine v_icmp_gt (tgt := 153) C dM_readFile_33 (by decide) (by omega) (by omega) (fun hc5 => ?_) (fun hc5 => ?_)
      · exfalso; omega
      · refine v_aload_n C dM_readFile_36 rfl rfl ?_
        refine v_getR (k := 0) (q := 1) C dM_readFile_37 (by show (0 : Nat) < 18; decide) rfl rfl (by decide) rfl inM lM_7 rfl ?_
        refine v_iload_n C dM_readFile_40 rfl rfl ?_
        refine v_aload_n C dM_readFile_41 rfl rfl ?_
        refine v_getR (k := 0) (q := 13) C dM_readFile_42 (by show (0 : Nat) < 18; decide) rfl rfl (by decide) rfl inM lM_39 rfl ?_
        refine v_iload_n C dM_readFile_45 rfl rfl ?_
        refine v_iload_n C dM_readFile_46 rfl rfl ?_
        refine v_iadd C dM_readFile_47 ?_
        refine v_iald (k := 10) (v := p) C dM_readFile_48 (by show (10 : Nat) < 18; decide) rfl rfl (by omega) (by decide) (by rw [hS.1, hno.2 10 (by decide), hbi]; exact hp.symm) ?_
        refine v_iconst C dM_readFile_49 ?_
        refine v_icmp_eq (tgt := 57) C dM_readFile_50 (by decide) (by omega) (by omega) (fun hc6 => ?_) (fun hc6 => ?_)
        · refine v_iconst C dM_readFile_57 ?_
          refine v_zast (k := 1) C dM_readFile_58 (by show (1 : Nat) < 18; decide) rfl rfl (by omega) (by decide) (by omega) ?_
          refine v_aload_n C dM_readFile_59 rfl rfl ?_
          refine v_getR (k := 0) (q := 2) C dM_readFile_60 (by show (0 : Nat) < 18; decide) rfl rfl (by decide) rfl inM lM_13 rfl ?_
          refine v_iload_n C dM_readFile_63 rfl rfl ?_
          refine v_iconst C dM_readFile_64 ?_
          refine v_zast (k := 2) C dM_readFile_65 (by show (2 : Nat) < 18; decide) rfl rfl (by omega) (by decide) (by omega) ?_
          refine v_aload_n C dM_readFile_66 rfl rfl ?_
          refine v_getR (k := 0) (q := 5) C dM_readFile_67 (by show (0 : Nat) < 18; decide) rfl rfl (by decide) rfl inM lM_22 rfl ?_
          refine v_iload_n C dM_readFile_70 rfl rfl ?_
          refine v_aload_n C dM_readFile_71 rfl rfl ?_
          refine v_getR (k := 0) (q := 1) C dM_readFile_72 (by show (0 : Nat) < 18; decide) rfl rfl (by decide) rfl inM lM_7 rfl ?_
          refine v_iload_n C dM_readFile_75 rfl rfl ?_
          refine v_zald (k := 1) (v := 0) C dM_readFile_76 (by show (1 : Nat) < 18; decide) rfl rfl (by omega) (by decide) (by rw [p2_2, if_neg (by omega), p2_2, if_pos ⟨rfl, rfl⟩]) ?_
          refine v_if_eq (tgt := 91) C dM_readFile_77 (by decide) (by omega) (fun hc7 => ?_) (fun hc7 => ?_)
          · refine v_iconst C dM_readFile_91 ?_
            refine v_iast (k := 5) C dM_readFile_92 (by show (5 : Nat) < 18; decide) rfl rfl (by omega) (by decide) ?_
            refine v_iconst C dM_readFile_93 ?_
            refine v_istore_n C dM_readFile_94 rfl (by decide) ?_
            exact v_lv rfl (LI 120 0 (by omega) _ (by rw [← m_ldo_0]; unfold m_ld1; rw [← hp, ← hcc, hkt]; first | (rw [if_pos (by omega), if_pos (by omega)]; exact m_scr_q2 (m_scr_q2 (m_scr_q2 hS _ _ _) _ _ _) _ _ _) | (rw [if_neg (by omega), if_neg (by omega)]; exact m_scr_q2 (m_scr_q2 (m_scr_q2 hS _ _ _) _ _ _) _ _ _)))
          · exfalso; omega
        · refine v_iconst C dM_readFile_53 ?_
          refine v_goto (tgt := 58) C dM_readFile_54 (by decide) ?_
          refine v_zast (k := 1) C dM_readFile_58 (by show (1 : Nat) < 18; decide) rfl rfl (by omega) (by decide) (by omega) ?_
          refine v_aload_n C dM_readFile_59 rfl rfl ?_
          refine v_getR (k := 0) (q := 2) C dM_readFile_60 (by show (0 : Nat) < 18; decide) rfl rfl (by decide) rfl inM lM_13 rfl ?_
          refine v_iload_n C dM_readFile_63 rfl rfl ?_
          refine v_iconst C dM_readFile_64 ?_
          refine v_zast (k := 2) C dM_readFile_65 (by show (2 : Nat) < 18; decide) rfl rfl (by omega) (by decide) (by omega) ?_
          refine v_aload_n C dM_readFile_66 rfl rfl ?_
          refine v_getR (k := 0) (q := 5) C dM_readFile_67 (by show (0 : Nat) < 18; decide) rfl rfl (by decide) rfl inM lM_22 rfl ?_
          refine v_iload_n C dM_readFile_70 rfl rfl ?_
          refine v_aload_n C dM_readFile_71 rfl rfl ?_
          refine v_getR (k := 0) (q := 1) C dM_readFile_72 (by show (0 : Nat) < 18; decide) rfl rfl (by decide) rfl inM lM_7 rfl ?_
          refine v_iload_n C dM_readFile_75 rfl rfl ?_
          refine v_zald (k := 1) (v := 1) C dM_readFile_76 (by show (1 : Nat) < 18; decide) rfl rfl (by omega) (by decide) (by rw [p2_2, if_neg (by omega), p2_2, if_pos ⟨rfl, rfl⟩]) ?_
          refine v_if_eq (tgt := 91) C dM_readFile_77 (by decide) (by omega) (fun hc8 => ?_) (fun hc8 => ?_)
          · exfalso; omega
          · refine v_aload_n C dM_readFile_80 rfl rfl ?_
            refine v_getR (k := 0) (q := 15) C dM_readFile_81 (by show (0 : Nat) < 18; decide) rfl rfl (by decide) rfl inM lM_45 rfl ?_
            refine v_iload_n C dM_readFile_84 rfl rfl ?_
            refine v_iload_n C dM_readFile_85 rfl rfl ?_
            refine v_iadd C dM_readFile_86 ?_
            refine v_iald (k := 12) (v := cc9) C dM_readFile_87 (by show (12 : Nat) < 18; decide) rfl rfl (by omega) (by decide) (by rw [p2_2, if_neg (by omega), p2_2, if_neg (by omega), hS.1, hno.2 12 (by decide), hbi]; exact hcc.symm) ?_
            refine v_goto (tgt := 92) C dM_readFile_88 (by decide) ?_
            refine v_iast (k := 5) C dM_readFile_92 (by show (5 : Nat) < 18; decide) rfl rfl (by omega) (by decide) ?_
            refine v_iconst C dM_readFile_93 ?_
            refine v_istore_n C dM_readFile_94 rfl (by decide) ?_
            exact v_lv rfl (LI 120 0 (by omega) _ (by rw [← m_ldo_0]; unfold m_ld1; rw [← hp, ← hcc, hkt]; first | (rw [if_pos (by omega), if_pos (by omega)]; exact m_scr_q2 (m_scr_q2 (m_scr_q2 hS _ _ _) _ _ _) _ _ _) | (rw [if_neg (by omega), if_neg (by omega)]; exact m_scr_q2 (m_scr_q2 (m_scr_q2 hS _ _ _) _ _ _) _ _ _)))
  refine v_aload_n C dM_readFile_0 rfl rfl ?_
  refine v_cVI (k := 0) (n := 0) C (mE_ok _) trivial hR (kM_isFile _ xCl D cA ad hJ σ (hI.1 7) (fun i => hI.2.1 7 i)) dM_readFile_1 (by show (0 : Nat) < 18; decide) rfl rfl gM_192 (by decide +kernel) (by decide) (by decide) rfl (Nat.le_of_ble_eq_true rfl) rfl ⟨rfl, rfl⟩ (fun rf S hpf => ?_)
  obtain ⟨hs, hpl⟩ := hpf
  rw [hf, hz] at hpl
  have hIS := m_I_scx hI hs
  have hrf : rf = 0 ∨ rf = 1 := by rcases hpl with ⟨_, h, _⟩ | ⟨_, ⟨_, h, _⟩ | ⟨_, ⟨_, h, _⟩ | ⟨_, _, _, _, ⟨_, h⟩ | ⟨_, h, _⟩⟩⟩⟩ <;> omega
  rcases hrf with e9 | e9
  · subst rf
    refine v_if_ne (tgt := 14) C dM_readFile_4 (by decide) (by omega) (fun hc9 => ?_) (fun hc9 => ?_)
    · exfalso; omega
    · refine v_iconst C dM_readFile_7 ?_
      refine v_aload_n C dM_readFile_8 rfl rfl ?_
      refine v_getI (k := 0) (q := 23) (v := S.1 0 23) C dM_readFile_9 (by show (0 : Nat) < 18; decide) rfl rfl (by decide) rfl inM lM_166 rfl rfl ?_
      refine v_isub C dM_readFile_12 ?_
      exact v_iret C hRt hLk dM_readFile_13 (Or.inl ⟨hs, hpl, rfl⟩)
  · subst rf
    obtain ⟨n, hn, n1, n60, hok⟩ := p_file_ok hpl hz0
    refine v_if_ne (tgt := 14) C dM_readFile_4 (by decide) (by omega) (fun hc10 => ?_) (fun hc10 => ?_)
    · refine v_aload_n C dM_readFile_14 rfl rfl ?_
      have hfS : S.2 7 = f := by rw [m_scx_f hs]; exact hf
      have hzS : S.1 0 7 = fz := by rw [m_scx_z hs]; exact hz
      refine v_cVV (k := 0) (n := 0) C (mE_ok _) trivial hR (kM_learn _ xCl D cA ad hJ S f fz n (S.2 15) hfS hzS hn ⟨n1, n60⟩ (fun k hk => rfl) hok (fun i => by rw [← hf]; exact hI.2.1 7 i) hz0) dM_readFile_15 (by show (0 : Nat) < 18; decide) rfl rfl gM_195 (by decide +kernel) (by decide) (by decide) rfl (Nat.le_of_ble_eq_true rfl) rfl ⟨rfl, rfl⟩ (fun S2 hS => ?_)
      have hB10 : (m_lF f fz S (S.2 15) n n).1 0 10 = (n : Int) := (m_lF_o f fz S (S.2 15) n n).2.1
      refine v_bipush C dM_readFile_18 (by decide +kernel) ?_
      refine v_aload_n C dM_readFile_20 rfl rfl ?_
      refine v_getI (k := 0) (q := 10) (v := (n : Int)) C dM_readFile_21 (by show (0 : Nat) < 18; decide) rfl rfl (by decide) rfl inM lM_110 rfl ((hS.2 0 10 (by decide)).trans hB10) ?_
      refine v_iconst C dM_readFile_24 ?_
      refine v_isub C dM_readFile_25 ?_
      refine v_imul C dM_readFile_26 ?_
      refine v_istore_n C dM_readFile_27 rfl (by decide) ?_
      refine v_iconst C dM_readFile_28 ?_
      refine v_istore_n C dM_readFile_29 rfl (by decide) ?_
      exact v_lv rfl (LL S n hs hpl hn n1 n60 hok 40 0 (by omega) S2 hS none)
    · exfalso; omega
set_option maxRecDepth 100000 in
set_option maxHeartbeats 4000000 in
theorem kM_take (l : Launch) (xCl : List vw_C) (D : va_G) (cA : Nat → ClassId) (ad : Nat → Nat) (hJ : f_J (mG xCl D cA ad)) (σ : fS) (i : Int) (hI : m_I σ) (hg : 0 ≤ i ∧ i < σ.1 0 10) : f_M l (mG xCl D cA ad) mE yM_take (Cond.code yM_take cM_take 2 (some .int) :: A9) 6 σ [.ref (ad 0), .int (fI i)] (f_QI (fun v σ1 => m_rd (σ.2 7) (m_tkn σ i.toNat) (m_tk σ i.toNat) v σ1) (mG xCl D cA ad)) := by
  refine f_enter (by decide +kernel) hJ rfl (Nat.le_of_ble_eq_true rfl) ?_
  intro z hzl hR C hRt hLk hEz
  subst hzl
  have h10 : 0 ≤ σ.1 0 10 ∧ σ.1 0 10 ≤ 60 := hI.1 10
  have h7 : 0 ≤ σ.1 0 7 ∧ σ.1 0 7 ≤ 12000 := hI.1 7
  have h8 : 0 ≤ σ.2 8 i.toNat ∧ σ.2 8 i.toNat ≤ 12000 := hI.2.1 8 i.toNat
  refine v_aload_n C dM_take_0 rfl rfl ?_
  refine v_iload_n C dM_take_1 rfl rfl ?_
  refine v_cVI (k := 0) (n := 1) C (mE_ok _) trivial hR (kM_isRevision _ xCl D cA ad hJ σ i (by omega) (hI.1 10)) dM_take_2 (by show (0 : Nat) < 18; decide) rfl rfl gM_201 (by decide +kernel) (by decide) (by decide) rfl (Nat.le_of_ble_eq_true rfl) rfl ⟨rfl, rfl⟩ (fun r1 σ1 hp1 => ?_)
  have hq : r1 = 1 ∧ σ1 = f_p1 σ 0 0 0 := by rcases hp1 with ⟨e1, e2, e3⟩ | ⟨e1, e2, e3⟩; (· exact ⟨e2, e3⟩); (· exact absurd hg e1)
  obtain ⟨e2, e3⟩ := hq
  subst σ1
  subst r1
  refine v_if_ne (tgt := 10) C dM_take_5 (by decide) (by omega) (fun hc1 => ?_) (fun hc1 => ?_)
  · refine v_aload_n C dM_take_10 rfl rfl ?_
    refine v_aload_n C dM_take_11 rfl rfl ?_
    refine v_getR (k := 0) (q := 11) C dM_take_12 (by show (0 : Nat) < 18; decide) rfl rfl (by decide) rfl inM lM_33 rfl ?_
    refine v_iload_n C dM_take_15 rfl rfl ?_
    refine v_iald (k := 8) (v := σ.2 8 (i).toNat) C dM_take_16 (by show (8 : Nat) < 18; decide) rfl rfl (by omega) (by decide) rfl ?_
    refine v_aload_n C dM_take_17 rfl rfl ?_
    refine v_getI (k := 0) (q := 7) (v := σ.1 0 7) C dM_take_18 (by show (0 : Nat) < 18; decide) rfl rfl (by decide) rfl inM lM_116 rfl rfl ?_
    refine v_icmp_ge (tgt := 33) C dM_take_21 (by decide) (by omega) (by omega) (fun hc2 => ?_) (fun hc2 => ?_)
    · refine v_aload_n C dM_take_33 rfl rfl ?_
      refine v_getI (k := 0) (q := 7) (v := σ.1 0 7) C dM_take_34 (by show (0 : Nat) < 18; decide) rfl rfl (by decide) rfl inM lM_116 rfl rfl ?_
      refine v_putI (k := 0) (q := 7) C dM_take_37 (by show (0 : Nat) < 18; decide) rfl rfl (by decide) rfl inM tyM_ok nmM lM_116 rfl rfl rfl rfl rfl ?_
      refine v_aload_n C dM_take_40 rfl rfl ?_
      refine v_iconst C dM_take_41 ?_
      refine v_putI (k := 0) (q := 9) C dM_take_42 (by show (0 : Nat) < 18; decide) rfl rfl (by decide) rfl inM tyM_ok nmM lM_123 rfl rfl rfl (fN_bool (by omega)) (fF_bool (by omega)) ?_
      refine v_aload_n C dM_take_45 rfl rfl ?_
      obtain ⟨T, hT⟩ : ∃ s, s = m_tk σ i.toNat := ⟨_, rfl⟩
      refine v_st (σ1 := T) (by rw [hT]; unfold m_tk m_tkn; first | rw [if_pos (by omega)] | rw [if_neg (by omega)]) ?_
      refine v_cVI (k := 0) (n := 0) C (mE_ok _) trivial hR (kM_readFile _ xCl D cA ad hJ T (σ.2 7) (m_tkn σ i.toNat) (by rw [hT]; rfl) (by rw [hT]; rfl) (by rw [hT]; exact m_tk_I hI)) dM_take_46 (by show (0 : Nat) < 18; decide) rfl rfl gM_198 (by decide +kernel) (by decide) (by decide) rfl (Nat.le_of_ble_eq_true rfl) rfl ⟨rfl, rfl⟩ (fun r1 σ1 hp1 => ?_)
      rw [hT] at hp1
      exact v_iret C hRt hLk dM_take_49 hp1
    · refine v_aload_n C dM_take_24 rfl rfl ?_
      refine v_getR (k := 0) (q := 11) C dM_take_25 (by show (0 : Nat) < 18; decide) rfl rfl (by decide) rfl inM lM_33 rfl ?_
      refine v_iload_n C dM_take_28 rfl rfl ?_
      refine v_iald (k := 8) (v := σ.2 8 (i).toNat) C dM_take_29 (by show (8 : Nat) < 18; decide) rfl rfl (by omega) (by decide) rfl ?_
      refine v_goto (tgt := 37) C dM_take_30 (by decide) ?_
      refine v_putI (k := 0) (q := 7) C dM_take_37 (by show (0 : Nat) < 18; decide) rfl rfl (by decide) rfl inM tyM_ok nmM lM_116 rfl rfl rfl rfl rfl ?_
      refine v_aload_n C dM_take_40 rfl rfl ?_
      refine v_iconst C dM_take_41 ?_
      refine v_putI (k := 0) (q := 9) C dM_take_42 (by show (0 : Nat) < 18; decide) rfl rfl (by decide) rfl inM tyM_ok nmM lM_123 rfl rfl rfl (fN_bool (by omega)) (fF_bool (by omega)) ?_
      refine v_aload_n C dM_take_45 rfl rfl ?_
      obtain ⟨T, hT⟩ : ∃ s, s = m_tk σ i.toNat := ⟨_, rfl⟩
      refine v_st (σ1 := T) (by rw [hT]; unfold m_tk m_tkn; first | rw [if_pos (by omega)] | rw [if_neg (by omega)]) ?_
      refine v_cVI (k := 0) (n := 0) C (mE_ok _) trivial hR (kM_readFile _ xCl D cA ad hJ T (σ.2 7) (m_tkn σ i.toNat) (by rw [hT]; rfl) (by rw [hT]; rfl) (by rw [hT]; exact m_tk_I hI)) dM_take_46 (by show (0 : Nat) < 18; decide) rfl rfl gM_198 (by decide +kernel) (by decide) (by decide) rfl (Nat.le_of_ble_eq_true rfl) rfl ⟨rfl, rfl⟩ (fun r1 σ1 hp1 => ?_)
      rw [hT] at hp1
      exact v_iret C hRt hLk dM_take_49 hp1
  · exfalso; omega
end
