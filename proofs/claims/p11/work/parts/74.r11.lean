/-- a record -/
theorem q_recq {f : Nat → Int} {z n p x : Int} (hp : 0 ≤ p) (hz : p ≤ z) (hx : x ≤ z) (hn : 1 ≤ n) : (q_rec f z n p x ↔ p_rec f z p n x) ∧ (q_rec f z n p x → q_len f z p = p_rl f z p ∧ q_by f z p = p_eol f z p + 1) := by
  obtain ⟨s1, s2, s3⟩ := p_eol_sp (f := f) hp hz
  have hl : q_ln f z (p_eol f z p) p := ⟨⟨hp, s1.1, s1.2⟩, s2, s3⟩
  obtain ⟨le, hle⟩ : ∃ v, v = p_eol f z p := ⟨_, rfl⟩
  unfold p_rec p_rl
  rw [← hle] at hl s1 s2 s3 ⊢
  have head : (q_va f z p = 111 ∧ q_va f z (p + 1) = 32) ↔ ((p < le ∧ f p.toNat = 111) ∧ (p + 1 < le ∧ f (p + 1).toNat = 32)) := by
    constructor
    · rintro ⟨g1, g2⟩
      have g3 : p < le := by
        by_cases g : p < le
        · exact g
        · exfalso
          rw [show p = le by omega] at g1
          rcases q_ln_end hl with ⟨-, e⟩ | ⟨-, e⟩ <;> omega
      have g4 : p + 1 < le := by
        by_cases g : p + 1 < le
        · exact g
        · exfalso
          rw [show p + 1 = le by omega] at g2
          rcases q_ln_end hl with ⟨-, e⟩ | ⟨-, e⟩ <;> omega
      rw [q_ln_va hl ⟨by omega, g3⟩] at g1
      rw [q_ln_va hl ⟨by omega, g4⟩] at g2
      exact ⟨⟨g3, g1⟩, g4, g2⟩
    · rintro ⟨⟨g3, g1⟩, g4, g2⟩
      exact ⟨by rw [q_ln_va hl ⟨by omega, g3⟩]; exact g1, by rw [q_ln_va hl ⟨by omega, g4⟩]; exact g2⟩
  obtain ⟨q, hq⟩ : ∃ v, v = (p_num f le (p + 2)).2 := ⟨_, rfl⟩
  have ql := p_num_le f le (p + 2)
  have fwd : q_rec f z n p x → ((le < z ∧ (p < le ∧ f p.toNat = 111) ∧ (p + 1 < le ∧ f (p + 1).toNat = 32) ∧ p_nok f le (p + 2) ∧ (p_num f le (p + 2)).1 = n ∧ ((p_num f le (p + 2)).2 < le ∧ f ((p_num f le (p + 2)).2).toNat = 32) ∧ p_nok f le ((p_num f le (p + 2)).2 + 1) ∧ (p_num f le ((p_num f le (p + 2)).2 + 1)).2 = le ∧ (p_num f le ((p_num f le (p + 2)).2 + 1)).1 ≤ 120 ∧ le + 1 + (p_num f le ((p_num f le (p + 2)).2 + 1)).1 < x ∧ f (le + 1 + (p_num f le ((p_num f le (p + 2)).2 + 1)).1).toNat = 10)) ∧ q_len f z p = (p_num f le ((p_num f le (p + 2)).2 + 1)).1 ∧ q_by f z p = le + 1 := by
    rintro ⟨g1, g2, g3, g4, g5, g6, g7, g8⟩
    obtain ⟨k1, k2⟩ := head.mp ⟨g1, g2⟩
    have n1 := q_num (c := 32) (q_ln_on hl (q := p + 2) (by omega)) (Or.inl rfl)
    obtain ⟨a1, a2⟩ := n1.1.mp ⟨by omega, g4⟩
    obtain ⟨a3, a4⟩ := n1.2 ⟨by omega, g4⟩
    rcases a2 with ⟨-, a2⟩ | ⟨w, -⟩
    · have hla : q_la f z p = (p_num f le (p + 2)).2 + 1 := by unfold q_la; rw [a3]
      have n2 := q_num (c := 10) (q_ln_on hl (q := (p_num f le (p + 2)).2 + 1) (by omega)) (Or.inr rfl)
      have e5 : q_len f z p = q_nr f z ((p_num f le (p + 2)).2 + 1) := by unfold q_len; rw [hla]
      rw [hla] at g6
      obtain ⟨b1, b2⟩ := n2.1.mp ⟨by rw [← e5]; exact g5.1, g6⟩
      obtain ⟨b3, b4⟩ := n2.2 ⟨by rw [← e5]; exact g5.1, g6⟩
      rcases b2 with ⟨w, -⟩ | ⟨-, b2, b5⟩
      · exact absurd w (by decide)
      · have hby : q_by f z p = le + 1 := by unfold q_by; rw [hla, b3, b2]
        have hlen : q_len f z p = (p_num f le ((p_num f le (p + 2)).2 + 1)).1 := by rw [e5, b4]
        have hpos := p_num_v f le ((p_num f le (p + 2)).2 + 1)
        rw [hby, hlen] at g7 g8
        rw [hlen] at g5
        have g9 : q_va f z (le + 1 + (p_num f le ((p_num f le (p + 2)).2 + 1)).1) = f (le + 1 + (p_num f le ((p_num f le (p + 2)).2 + 1)).1).toNat := by unfold q_va; rw [if_pos (by omega)]
        exact ⟨⟨b5, k1, k2, a1, by omega, a2, b1, b2, g5.2, g7, by rw [← g9]; exact g8⟩, hlen, hby⟩
    · exact absurd w (by decide)
  refine ⟨⟨fun h => (fwd h).1, ?_⟩, fun h => (fwd h).2⟩
  rintro ⟨h0, k1, k2, a1, a4, a2, b1, b2, b6, b7, b8⟩
  obtain ⟨g1, g2⟩ := head.mpr ⟨k1, k2⟩
  have n1 := q_num (c := 32) (q_ln_on hl (q := p + 2) (by omega)) (Or.inl rfl)
  have g34 := n1.1.mpr ⟨a1, Or.inl ⟨rfl, a2⟩⟩
  obtain ⟨c1, c2⟩ := n1.2 g34
  have hla : q_la f z p = (p_num f le (p + 2)).2 + 1 := by unfold q_la; rw [c1]
  have n2 := q_num (c := 10) (q_ln_on hl (q := (p_num f le (p + 2)).2 + 1) (by omega)) (Or.inr rfl)
  have g56 := n2.1.mpr ⟨b1, Or.inr ⟨rfl, b2, h0⟩⟩
  obtain ⟨d1, d2⟩ := n2.2 g56
  have e5 : q_len f z p = q_nr f z ((p_num f le (p + 2)).2 + 1) := by unfold q_len; rw [hla]
  have hby : q_by f z p = le + 1 := by unfold q_by; rw [hla, d1, b2]
  have hpos := p_num_v f le ((p_num f le (p + 2)).2 + 1)
  have hlen : q_len f z p = (p_num f le ((p_num f le (p + 2)).2 + 1)).1 := by rw [e5, d2]
  refine ⟨g1, g2, by omega, g34.2, ⟨by rw [e5]; exact g56.1, by rw [hlen]; exact b6⟩, by rw [hla]; exact g56.2, by rw [hby, hlen]; exact b7, ?_⟩
  rw [hby, hlen]
  unfold q_va
  rw [if_pos (by omega)]
  exact b8
/-! how many digits a number has -/
theorem q_nl_lo (fb : Nat → Int) (fn : Int) : ∀ (k : Nat) (p v : Int), 0 ≤ v → ∃ j : Nat, (q_nl fb fn k p v).2 = p + j ∧ v * 10 ^ j ≤ (q_nl fb fn k p v).1 := by
  intro k
  induction k with
  | zero => intro p v hv; exact ⟨0, by show p = p + 0; omega, by show v * 1 ≤ v; omega⟩
  | succ k ih =>
    intro p v hv
    by_cases g : 48 ≤ q_va fb fn p ∧ q_va fb fn p ≤ 57
    · obtain ⟨j, h1, h2⟩ := ih (p + 1) (v * 10 + q_va fb fn p - 48) (by omega)
      have e : q_nl fb fn (k + 1) p v = q_nl fb fn k (p + 1) (v * 10 + q_va fb fn p - 48) := by show (if _ then _ else _) = _; rw [if_pos g]
      rw [e]
      refine ⟨j + 1, by rw [h1]; push_cast; omega, ?_⟩
      have h6 : (v * 10) * 10 ^ j ≤ (v * 10 + q_va fb fn p - 48) * 10 ^ j := Int.mul_le_mul_of_nonneg_right (by omega) (Int.le_of_lt (Int.pow_pos (by omega)))
      have h7 : v * 10 ^ (j + 1) = (v * 10) * 10 ^ j := by rw [Int.pow_succ, Int.mul_comm (10 ^ j) 10, Int.mul_assoc]
      omega
    · have e : q_nl fb fn (k + 1) p v = (v, p) := by show (if _ then _ else _) = _; rw [if_neg g]
      rw [e]
      exact ⟨0, by show p = p + 0; omega, by show v * 1 ≤ v; omega⟩
theorem q_dgs {fb : Nat → Int} {fn p : Int} (h : q_nr fb fn p ≠ -1) (h9 : q_nr fb fn p ≤ 999) : q_np fb fn p = p + x_dgs (q_nr fb fn p) := by
  have hnr : q_nr fb fn p = (q_nl fb fn 6 p 0).1 ∧ ¬ (q_np fb fn p - p < 1 ∨ 5 < q_np fb fn p - p ∨ (1 < q_np fb fn p - p ∧ q_va fb fn p = 48)) := by
    unfold q_nr at h ⊢
    split at h
    · exact absurd rfl h
    · rename_i g
      rw [if_neg g]
      exact ⟨rfl, g⟩
  obtain ⟨e, g⟩ := hnr
  obtain ⟨j, j1, j2, -, j4, j5⟩ := q_nl_r fb fn 6 p 0 (by omega)
  have hnp : q_np fb fn p = p + j := j2
  by_cases gd : 48 ≤ q_va fb fn p ∧ q_va fb fn p ≤ 57
  · have e6 : q_nl fb fn 6 p 0 = q_nl fb fn 5 (p + 1) (0 * 10 + q_va fb fn p - 48) := by show (if _ then _ else _) = _; rw [if_pos gd]
    obtain ⟨i, i1, i2⟩ := q_nl_lo fb fn 5 (p + 1) (0 * 10 + q_va fb fn p - 48) (by omega)
    rw [← e6] at i1 i2
    have hij : j = i + 1 := by omega
    have hlow : 1 < j → (10 : Int) ^ i ≤ (q_nl fb fn 6 p 0).1 := fun hj => by
      have : (1 : Int) * 10 ^ i ≤ (0 * 10 + q_va fb fn p - 48) * 10 ^ i := Int.mul_le_mul_of_nonneg_right (by omega) (Int.le_of_lt (Int.pow_pos (by omega)))
      omega
    rw [e] at h9 ⊢
    rw [hnp]
    unfold x_dgs
    rcases (show j = 1 ∨ j = 2 ∨ j = 3 ∨ j = 4 ∨ j = 5 by omega) with q | q | q | q | q
    · subst q
      rw [if_pos (by simp only [Int.reducePow] at j5; omega)]; rfl
    · subst q
      obtain rfl : i = 1 := by omega
      have := hlow (by omega)
      simp only [Int.reducePow] at j5 this
      rw [if_neg (by omega), if_pos (by omega)]; rfl
    · subst q
      obtain rfl : i = 2 := by omega
      have := hlow (by omega)
      simp only [Int.reducePow] at j5 this
      rw [if_neg (by omega), if_neg (by omega)]; rfl
    · subst q
      obtain rfl : i = 3 := by omega
      have := hlow (by omega)
      simp only [Int.reducePow] at this
      omega
    · subst q
      obtain rfl : i = 4 := by omega
      have := hlow (by omega)
      simp only [Int.reducePow] at this
      omega
  · exfalso
    have e6 : q_nl fb fn 6 p 0 = (0, p) := by show (if _ then _ else _) = _; rw [if_neg gd]
    have : q_np fb fn p = p := by unfold q_np; rw [e6]
    omega
/-- where a record's bytes begin, by its numbers -/
theorem q_by_dgs {fb : Nat → Int} {fn n p x : Int} (h : q_rec fb fn n p x) (hn : 1 ≤ n ∧ n ≤ 40) : q_by fb fn p = p + 4 + x_dgs n + x_dgs (q_len fb fn p) := by
  obtain ⟨h1, h2, h3, h4, h5, h6, h7, h8⟩ := h
  have a := q_dgs (fb := fb) (fn := fn) (p := p + 2) (by omega) (by omega)
  have e2 : q_la fb fn p = q_np fb fn (p + 2) + 1 := rfl
  have b := q_dgs (fb := fb) (fn := fn) (p := q_la fb fn p) h5.1 (by have := h5.2; show q_len fb fn p ≤ 999; omega)
  have e3 : q_by fb fn p = q_np fb fn (q_la fb fn p) + 1 := rfl
  have e4 : q_len fb fn p = q_nr fb fn (q_la fb fn p) := rfl
  rw [h3] at a
  rw [e4]
  omega
