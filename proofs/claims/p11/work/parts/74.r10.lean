/-! READING: the class's signs and the reference's lines say the same -/
theorem eolF_sp (f : Nat → Int) : ∀ (k : Nat) (p : Int), 0 ≤ p → (∀ i : Int, p ≤ i → i < eolF f k p → f i.toNat ≠ 10) ∧ (eolF f k p < p + k → f (eolF f k p).toNat = 10) := by
  intro k
  induction k with
  | zero => intro p hp; exact ⟨fun i h1 h2 => absurd h2 (by show ¬ i < p; omega), fun h => absurd h (by show ¬ p < p + 0; omega)⟩
  | succ k ih =>
    intro p hp
    by_cases g : f p.toNat = 10
    · have e : eolF f (k + 1) p = p := by show (if _ then _ else _) = _; rw [if_pos g]
      rw [e]
      exact ⟨fun i h1 h2 => absurd h2 (by omega), fun _ => g⟩
    · have e : eolF f (k + 1) p = eolF f k (p + 1) := by show (if _ then _ else _) = _; rw [if_neg g]
      rw [e]
      obtain ⟨i1, i2⟩ := ih (p + 1) (by omega)
      refine ⟨fun i h1 h2 => ?_, fun h => i2 (by push_cast at h; omega)⟩
      by_cases gi : i = p
      · rw [gi]; exact g
      · exact i1 i (by omega) h2
theorem p_eol_sp {f : Nat → Int} {z p : Int} (hp : 0 ≤ p) (hz : p ≤ z) : (p ≤ p_eol f z p ∧ p_eol f z p ≤ z) ∧ (∀ i : Int, p ≤ i → i < p_eol f z p → f i.toNat ≠ 10) ∧ (p_eol f z p < z → f (p_eol f z p).toNat = 10) := by
  obtain ⟨h1, h2⟩ := eolF_sp f (z - p).toNat p hp
  have h3 := eolF_le f (z - p).toNat p
  have e : p_eol f z p = eolF f (z - p).toNat p := rfl
  rw [e]
  exact ⟨by omega, h1, fun h => h2 (by omega)⟩
/-- an end of a line, and a place in it -/
def q_ln (f : Nat → Int) (z le p : Int) : Prop := (0 ≤ p ∧ p ≤ le ∧ le ≤ z) ∧ (∀ i : Int, p ≤ i → i < le → f i.toNat ≠ 10) ∧ (le < z → f le.toNat = 10)
theorem q_ln_va {f : Nat → Int} {z le p i : Int} (h : q_ln f z le p) (hi : p ≤ i ∧ i < le) : q_va f z i = f i.toNat := by
  unfold q_va
  rw [if_pos (by have := h.1; omega)]
theorem q_ln_end {f : Nat → Int} {z le p : Int} (h : q_ln f z le p) : (le < z ∧ q_va f z le = 10) ∨ (le = z ∧ q_va f z le = 256) := by
  have h1 := h.1
  by_cases g : le < z
  · left
    refine ⟨g, ?_⟩
    unfold q_va
    rw [if_pos (by omega)]
    exact h.2.2 g
  · right
    refine ⟨by omega, ?_⟩
    unfold q_va
    rw [if_neg (by omega)]
theorem q_ln_on {f : Nat → Int} {z le p q : Int} (h : q_ln f z le p) (hq : p ≤ q ∧ q ≤ le) : q_ln f z le q := ⟨by have := h.1; omega, fun i h1 h2 => h.2.1 i (by omega) h2, h.2.2⟩
theorem q_nl_eq {f : Nat → Int} {z le : Int} : ∀ (k : Nat) (p v : Int), q_ln f z le p → q_nl f z k p v = numF f le k p v := by
  intro k
  induction k with
  | zero => intro p v _; rfl
  | succ k ih =>
    intro p v h
    show (if 48 ≤ q_va f z p ∧ q_va f z p ≤ 57 then q_nl f z k (p + 1) (v * 10 + q_va f z p - 48) else (v, p)) = (if p < le ∧ 48 ≤ f p.toNat ∧ f p.toNat ≤ 57 then numF f le k (p + 1) (10 * v + f p.toNat - 48) else (v, p))
    have h1 := h.1
    by_cases g : p < le
    · rw [q_ln_va h ⟨Int.le_refl _, g⟩]
      by_cases g2 : 48 ≤ f p.toNat ∧ f p.toNat ≤ 57
      · rw [if_pos g2, if_pos ⟨g, g2⟩, ih (p + 1) _ (q_ln_on h (by omega)), show v * 10 + f p.toNat - 48 = 10 * v + f p.toNat - 48 by omega]
      · rw [if_neg g2, if_neg (fun q => g2 q.2)]
    · have e : p = le := by omega
      have hva : ¬ (48 ≤ q_va f z p ∧ q_va f z p ≤ 57) := by
        rw [e]
        rcases q_ln_end h with ⟨-, e⟩ | ⟨-, e⟩ <;> omega
      rw [if_neg hva, if_neg (by omega)]
theorem numF_s (f : Nat → Int) (le : Int) : ∀ (k : Nat) (p v : Int), (numF f le k p v).2 < p + k → numF f le (k + 1) p v = numF f le k p v := by
  intro k
  induction k with
  | zero => intro p v h; exact absurd h (by show ¬ p < p + 0; omega)
  | succ k ih =>
    intro p v h
    by_cases g : p < le ∧ 48 ≤ f p.toNat ∧ f p.toNat ≤ 57
    · have e : ∀ j, numF f le (j + 1) p v = numF f le j (p + 1) (10 * v + f p.toNat - 48) := fun j => by show (if _ then _ else _) = _; rw [if_pos g]
      rw [e (k + 1), e k]
      rw [e k] at h
      exact ih _ _ (by push_cast at h; omega)
    · have e : ∀ j, numF f le (j + 1) p v = (v, p) := fun j => by show (if _ then _ else _) = _; rw [if_neg g]
      rw [e (k + 1), e k]
theorem numF_6 (f : Nat → Int) (le : Int) : ∀ (k : Nat) (p v : Int), (numF f le k p v).2 = p + k → (numF f le (k + 1) p v).2 = p + k + 1 ∧ ((p + k < le) ∧ 48 ≤ f (p + k).toNat ∧ f (p + k).toNat ≤ 57) ∨ numF f le (k + 1) p v = numF f le k p v := by
  intro k
  induction k with
  | zero =>
    intro p v _
    by_cases g : p < le ∧ 48 ≤ f p.toNat ∧ f p.toNat ≤ 57
    · left
      refine ⟨?_, ?_⟩
      · show (if p < le ∧ 48 ≤ f p.toNat ∧ f p.toNat ≤ 57 then (10 * v + f p.toNat - 48, p + 1) else (v, p)).2 = p + 0 + 1
        rw [if_pos g]; show p + 1 = _; omega
      · rw [show p + ((0 : Nat) : Int) = p by omega]; exact g
    · right
      show (if p < le ∧ 48 ≤ f p.toNat ∧ f p.toNat ≤ 57 then (10 * v + f p.toNat - 48, p + 1) else (v, p)) = (v, p)
      rw [if_neg g]
  | succ k ih =>
    intro p v h
    by_cases g : p < le ∧ 48 ≤ f p.toNat ∧ f p.toNat ≤ 57
    · have e : ∀ j, numF f le (j + 1) p v = numF f le j (p + 1) (10 * v + f p.toNat - 48) := fun j => by show (if _ then _ else _) = _; rw [if_pos g]
      rw [e (k + 1), e k]
      rw [e k] at h
      rcases ih (p + 1) (10 * v + f p.toNat - 48) (by push_cast at h; omega) with ⟨h1, h2⟩ | h1
      · left
        rw [show p + ((k + 1 : Nat) : Int) = p + 1 + (k : Int) by push_cast; omega]
        exact ⟨h1, h2⟩
      · right; exact h1
    · right
      have e : ∀ j, numF f le (j + 1) p v = (v, p) := fun j => by show (if _ then _ else _) = _; rw [if_neg g]
      rw [e (k + 1), e k]
/-- a number, and what stands behind it -/
theorem q_num {f : Nat → Int} {z le p c : Int} (h : q_ln f z le p) (hc : c = 32 ∨ c = 10) : ((q_nr f z p ≠ -1 ∧ q_va f z (q_np f z p) = c) ↔ (p_nok f le p ∧ ((c = 32 ∧ (p_num f le p).2 < le ∧ f ((p_num f le p).2).toNat = 32) ∨ (c = 10 ∧ (p_num f le p).2 = le ∧ le < z)))) ∧ ((q_nr f z p ≠ -1 ∧ q_va f z (q_np f z p) = c) → q_np f z p = (p_num f le p).2 ∧ q_nr f z p = (p_num f le p).1) := by
  have h1 := h.1
  have en : q_nl f z 6 p 0 = numF f le 6 p 0 := q_nl_eq 6 p 0 h
  have enp : q_np f z p = (numF f le 6 p 0).2 := by unfold q_np; rw [en]
  have hl5 := p_num_le f le p
  have hv5 := p_num_v f le p
  have hvp : q_va f z p = 48 → (p < le ∧ f p.toNat = 48) := fun hq => by
    by_cases g : p < le
    · rw [q_ln_va h ⟨Int.le_refl _, g⟩] at hq; exact ⟨g, hq⟩
    · have e : p = le := by omega
      rw [e] at hq
      rcases q_ln_end h with ⟨-, e⟩ | ⟨-, e⟩ <;> omega
  have hvp2 : p < le → q_va f z p = f p.toNat := fun g => q_ln_va h ⟨Int.le_refl _, g⟩
  have same : numF f le 6 p 0 = p_num f le p → (((q_nr f z p ≠ -1 ∧ q_va f z (q_np f z p) = c) ↔ (p_nok f le p ∧ ((c = 32 ∧ (p_num f le p).2 < le ∧ f ((p_num f le p).2).toNat = 32) ∨ (c = 10 ∧ (p_num f le p).2 = le ∧ le < z)))) ∧ ((q_nr f z p ≠ -1 ∧ q_va f z (q_np f z p) = c) → q_np f z p = (p_num f le p).2 ∧ q_nr f z p = (p_num f le p).1)) := by
    intro e
    rw [e] at enp
    have hnr : q_nr f z p = if q_np f z p - p < 1 ∨ 5 < q_np f z p - p ∨ (1 < q_np f z p - p ∧ q_va f z p = 48) then -1 else (p_num f le p).1 := by unfold q_nr; rw [en, e]
    have hok : q_nr f z p ≠ -1 ↔ p_nok f le p := by
      unfold p_nok
      rw [hnr]
      constructor
      · intro hne
        split at hne
        · exact absurd rfl hne
        · rename_i g
          refine ⟨by omega, ?_⟩
          by_cases g2 : (p_num f le p).2 = p + 1
          · exact Or.inl g2
          · right
            intro h48
            have hlt : p < le := by omega
            rw [hvp2 hlt] at g
            omega
      · rintro ⟨g1, g2⟩
        rw [if_neg]
        · omega
        · rintro (q | q | ⟨q1, q2⟩)
          · omega
          · omega
          · have := hvp q2
            omega
    have hva : q_va f z (q_np f z p) = c ↔ ((c = 32 ∧ (p_num f le p).2 < le ∧ f ((p_num f le p).2).toNat = 32) ∨ (c = 10 ∧ (p_num f le p).2 = le ∧ le < z)) := by
      rw [enp]
      by_cases g : (p_num f le p).2 < le
      · have e1 := q_ln_va h (i := (p_num f le p).2) ⟨by omega, g⟩
        have e2 := h.2.1 (p_num f le p).2 (by omega) g
        rw [e1]
        constructor
        · intro hq; rcases hc with hc | hc
          · left; exact ⟨hc, g, by omega⟩
          · omega
        · rintro (⟨q1, -, q2⟩ | ⟨-, q2, -⟩) <;> omega
      · have e0 : (p_num f le p).2 = le := by omega
        rw [e0]
        rcases q_ln_end h with ⟨e1, e2⟩ | ⟨e1, e2⟩
        · rw [e2]
          constructor
          · intro hq; right; exact ⟨hq.symm, rfl, e1⟩
          · rintro (⟨-, q, -⟩ | ⟨q, -, -⟩) <;> omega
        · rw [e2]
          constructor
          · intro hq; omega
          · rintro (⟨-, q, -⟩ | ⟨-, -, q⟩) <;> omega
    refine ⟨by rw [hok, hva], fun g => ⟨enp, ?_⟩⟩
    have g1 := g.1
    rw [hnr] at g1 ⊢
    split at g1
    · exact absurd rfl g1
    · rename_i q
      rw [if_neg q]
  by_cases g5 : (p_num f le p).2 < p + 5
  · exact same (numF_s f le 5 p 0 (by push_cast; exact g5))
  · have e5 : (numF f le 5 p 0).2 = p + ((5 : Nat) : Int) := by
      have : (p_num f le p).2 = p + 5 := by omega
      push_cast
      exact this
    rcases numF_6 f le 5 p 0 e5 with ⟨g6, g7, g8, g9⟩ | g6
    · have hno : q_nr f z p = -1 := by
        unfold q_nr
        rw [if_pos]
        right; left
        rw [enp, g6]
        push_cast
        omega
      have e5' : (p_num f le p).2 = p + 5 := by omega
      refine ⟨⟨fun q => absurd hno q.1, fun q => ?_⟩, fun q => absurd hno q.1⟩
      exfalso
      push_cast at g7 g8 g9
      rcases q.2 with ⟨-, -, q2⟩ | ⟨-, q2, -⟩
      · rw [e5'] at q2; omega
      · omega
    · exact same g6
/-- a line of a letter and a number -/
theorem q_tell {f : Nat → Int} {z p c : Int} (hp : 0 ≤ p) (hz : p ≤ z) (hc : c ≠ 10 ∧ c ≠ 256) : (q_tg f z p c ↔ p_tell f z p c) ∧ (q_tg f z p c → q_nr f z (p + 2) = p_tv f z p ∧ q_eat f z p = p_eol f z p + 1) := by
  obtain ⟨s1, s2, s3⟩ := p_eol_sp (f := f) hp hz
  have hl : q_ln f z (p_eol f z p) p := ⟨⟨hp, s1.1, s1.2⟩, s2, s3⟩
  have head : (q_va f z p = c ∧ q_va f z (p + 1) = 32) ↔ ((p < p_eol f z p ∧ f p.toNat = c) ∧ (p + 1 < p_eol f z p ∧ f (p + 1).toNat = 32)) := by
    constructor
    · rintro ⟨g1, g2⟩
      have g3 : p < p_eol f z p := by
        by_cases g : p < p_eol f z p
        · exact g
        · exfalso
          rw [show p = p_eol f z p by omega] at g1
          rcases q_ln_end hl with ⟨-, e⟩ | ⟨-, e⟩ <;> omega
      have g4 : p + 1 < p_eol f z p := by
        by_cases g : p + 1 < p_eol f z p
        · exact g
        · exfalso
          rw [show p + 1 = p_eol f z p by omega] at g2
          rcases q_ln_end hl with ⟨-, e⟩ | ⟨-, e⟩ <;> omega
      rw [q_ln_va hl ⟨by omega, g3⟩] at g1
      rw [q_ln_va hl ⟨by omega, g4⟩] at g2
      exact ⟨⟨g3, g1⟩, g4, g2⟩
    · rintro ⟨⟨g3, g1⟩, g4, g2⟩
      exact ⟨by rw [q_ln_va hl ⟨by omega, g3⟩]; exact g1, by rw [q_ln_va hl ⟨by omega, g4⟩]; exact g2⟩
  refine ⟨⟨fun h => ?_, fun h => ?_⟩, fun h => ?_⟩
  · obtain ⟨g1, g2, g3, g4⟩ := h
    obtain ⟨k1, k2⟩ := head.mp ⟨g1, g2⟩
    have hn := q_num (c := 10) (q_ln_on hl (q := p + 2) (by omega)) (Or.inr rfl)
    obtain ⟨n1, n2⟩ := hn.1.mp ⟨g3, g4⟩
    rcases n2 with ⟨q, -⟩ | ⟨-, q1, q2⟩
    · exact absurd q (by decide)
    · exact ⟨q2, k1, k2, n1, q1⟩
  · obtain ⟨g0, k1, k2, n1, q1⟩ := h
    obtain ⟨g1, g2⟩ := head.mpr ⟨k1, k2⟩
    have hn := q_num (c := 10) (q_ln_on hl (q := p + 2) (by omega)) (Or.inr rfl)
    obtain ⟨g3, g4⟩ := hn.1.mpr ⟨n1, Or.inr ⟨rfl, q1, g0⟩⟩
    exact ⟨g1, g2, g3, g4⟩
  · obtain ⟨g1, g2, g3, g4⟩ := h
    obtain ⟨k1, k2⟩ := head.mp ⟨g1, g2⟩
    have hn := q_num (c := 10) (q_ln_on hl (q := p + 2) (by omega)) (Or.inr rfl)
    obtain ⟨e1, e2⟩ := hn.2 ⟨g3, g4⟩
    obtain ⟨n1, n2⟩ := hn.1.mp ⟨g3, g4⟩
    rcases n2 with ⟨q, -⟩ | ⟨-, q1, q2⟩
    · exact absurd q (by decide)
    · refine ⟨e2, ?_⟩
      show q_np f z (p + 2) + 1 = _
      rw [e1, q1]
/-- a row -/
theorem q_rowq {f : Nat → Int} {z p x ab : Int} (hp : 0 ≤ p) (hz : p ≤ z) (hx : 0 ≤ x) (hab : 0 ≤ ab) : (q_rw f z x ab p ↔ (p_row f z p ∧ (1 ≤ p_rn f z p ∧ p_rn f z p ≤ 40) ∧ ab < p_rn f z p ∧ p_rpv f z p < x)) ∧ (q_rw f z x ab p → q_nr f z p = p_rn f z p ∧ q_pl f z p = p_rpv f z p ∧ q_re f z p = p_eol f z p) := by
  obtain ⟨s1, s2, s3⟩ := p_eol_sp (f := f) hp hz
  have hl : q_ln f z (p_eol f z p) p := ⟨⟨hp, s1.1, s1.2⟩, s2, s3⟩
  obtain ⟨le, hle⟩ : ∃ v, v = p_eol f z p := ⟨_, rfl⟩
  rw [← hle] at hl s1 s2 s3
  have hn := q_num (c := 32) hl (Or.inl rfl)
  obtain ⟨q, hq⟩ : ∃ v, v = (p_num f le p).2 := ⟨_, rfl⟩
  have hpq : p_q f z p = q := by rw [hq, hle]; rfl
  have hrn : p_rn f z p = (p_num f le p).1 := by rw [hle]; rfl
  have hql := p_num_le f le p
  rw [← hq] at hn hql
  have key : (q_nr f z p ≠ -1 ∧ q_va f z (q_np f z p) = 32) ↔ (p_nok f le p ∧ q < le ∧ f q.toNat = 32) := by
    rw [hn.1]
    constructor
    · rintro ⟨g1, ⟨-, g2, g3⟩ | ⟨g2, -⟩⟩
      · exact ⟨g1, g2, g3⟩
      · exact absurd g2 (by decide)
    · rintro ⟨g1, g2, g3⟩
      exact ⟨g1, Or.inl ⟨rfl, g2, g3⟩⟩
  have dash : q < le → (q_va f z (q + 1) = 45 ↔ (q + 1 < le ∧ f (q + 1).toNat = 45)) := fun g => by
    constructor
    · intro h
      have g2 : q + 1 < le := by
        by_cases g2 : q + 1 < le
        · exact g2
        · exfalso
          rw [show q + 1 = le by omega] at h
          rcases q_ln_end hl with ⟨-, e⟩ | ⟨-, e⟩ <;> omega
      rw [q_ln_va hl ⟨by omega, g2⟩] at h
      exact ⟨g2, h⟩
    · rintro ⟨g2, h⟩
      rw [q_ln_va hl ⟨by omega, g2⟩]; exact h
  have dashp : p_dash f z p ↔ (q + 1 < le ∧ f (q + 1).toNat = 45) := by unfold p_dash; rw [hpq, ← hle]
  have row : p_row f z p ↔ (le < z ∧ p_nok f le p ∧ (q < le ∧ f q.toNat = 32) ∧ (((q + 1 < le ∧ f (q + 1).toNat = 45) ∧ q + 2 = le) ∨ (¬ (q + 1 < le ∧ f (q + 1).toNat = 45) ∧ p_nok f le (q + 1) ∧ (p_num f le (q + 1)).2 = le))) := by
    unfold p_row
    rw [hpq, ← hle, dashp]
  have rpv : p_rpv f z p = if q + 1 < le ∧ f (q + 1).toNat = 45 then -1 else (p_num f le (q + 1)).1 := by
    unfold p_rpv
    rw [hpq, ← hle]
  have both : (q_nr f z p ≠ -1 ∧ q_va f z (q_np f z p) = 32) → q_np f z p = q ∧ q_nr f z p = (p_num f le p).1 := hn.2
  have tail : q < le → q_np f z p = q → (((q_va f z (q_np f z p + 1) = 45 ∨ (q_nr f z (q_np f z p + 1) ≠ -1 ∧ q_nr f z (q_np f z p + 1) < x)) ∧ q_va f z (q_re f z p) = 10) ↔ (le < z ∧ (((q + 1 < le ∧ f (q + 1).toNat = 45) ∧ q + 2 = le) ∨ (¬ (q + 1 < le ∧ f (q + 1).toNat = 45) ∧ p_nok f le (q + 1) ∧ (p_num f le (q + 1)).2 = le)) ∧ p_rpv f z p < x)) ∧ (((q_va f z (q_np f z p + 1) = 45 ∨ (q_nr f z (q_np f z p + 1) ≠ -1 ∧ q_nr f z (q_np f z p + 1) < x)) ∧ q_va f z (q_re f z p) = 10) → q_pl f z p = p_rpv f z p ∧ q_re f z p = le) := by
    intro hqle hnp
    have hre : q_re f z p = if q_va f z (q + 1) = 45 then q + 2 else q_np f z (q + 1) := by unfold q_re; rw [hnp]
    have hpl : q_pl f z p = if q_va f z (q + 1) = 45 then -1 else q_nr f z (q + 1) := by unfold q_pl; rw [hnp]
    rw [hnp]
    by_cases gd : q_va f z (q + 1) = 45
    · have gd2 := (dash hqle).mp gd
      rw [hre, hpl, rpv, if_pos gd, if_pos gd, if_pos gd2]
      have e : q_va f z (q + 2) = 10 ↔ (le < z ∧ q + 2 = le) := by
        constructor
        · intro h
          by_cases g2 : q + 2 < le
          · rw [q_ln_va hl ⟨by omega, g2⟩] at h
            exact absurd h (s2 (q + 2) (by omega) g2)
          · have e2 : q + 2 = le := by omega
            rw [e2] at h
            rcases q_ln_end hl with ⟨e3, e4⟩ | ⟨e3, e4⟩
            · exact ⟨e3, e2⟩
            · omega
        · rintro ⟨g1, g2⟩
          rw [g2]
          rcases q_ln_end hl with ⟨e3, e4⟩ | ⟨e3, e4⟩
          · exact e4
          · omega
      constructor
      · constructor
        · rintro ⟨-, h⟩
          have := e.mp h
          exact ⟨this.1, Or.inl ⟨gd2, this.2⟩, by omega⟩
        · rintro ⟨g1, g2 | g2, -⟩
          · exact ⟨Or.inl gd, e.mpr ⟨g1, g2.2⟩⟩
          · exact absurd gd2 g2.1
      · rintro ⟨-, h⟩
        exact ⟨rfl, (e.mp h).2⟩
    · have gd2 : ¬ (q + 1 < le ∧ f (q + 1).toNat = 45) := fun g => gd ((dash hqle).mpr g)
      rw [hre, hpl, rpv, if_neg gd, if_neg gd, if_neg gd2]
      have hn2 := q_num (c := 10) (q_ln_on hl (q := q + 1) (by omega)) (Or.inr rfl)
      constructor
      · constructor
        · rintro ⟨g | g, h⟩
          · exact absurd g gd
          · obtain ⟨n1, n2⟩ := hn2.1.mp ⟨g.1, h⟩
            have n3 := (hn2.2 ⟨g.1, h⟩).2
            rcases n2 with ⟨w, -⟩ | ⟨-, w1, w2⟩
            · exact absurd w (by decide)
            · exact ⟨w2, Or.inr ⟨gd2, n1, w1⟩, by omega⟩
        · rintro ⟨g1, g2 | g2, g3⟩
          · exact absurd g2.1 gd2
          · have n1 := hn2.1.mpr ⟨g2.2.1, Or.inr ⟨rfl, g2.2.2, g1⟩⟩
            have n3 := (hn2.2 n1).2
            exact ⟨Or.inr ⟨n1.1, by omega⟩, n1.2⟩
      · rintro ⟨g | g, h⟩
        · exact absurd g gd
        · obtain ⟨n1, n2⟩ := hn2.1.mp ⟨g.1, h⟩
          obtain ⟨n3, n4⟩ := hn2.2 ⟨g.1, h⟩
          rcases n2 with ⟨w, -⟩ | ⟨-, w1, w2⟩
          · exact absurd w (by decide)
          · exact ⟨n4, by rw [n3, w1]⟩
  have hv5 := p_num_v f le p
  constructor
  · constructor
    · rintro ⟨⟨g1, g2⟩, g3, g4, g5⟩
      have hk := key.mp ⟨by omega, g3⟩
      obtain ⟨b1, b2⟩ := both ⟨by omega, g3⟩
      obtain ⟨t1, -⟩ := tail hk.2.1 b1
      obtain ⟨w1, w2, w3⟩ := t1.mp ⟨g4, g5⟩
      exact ⟨row.mpr ⟨w1, hk.1, hk.2, w2⟩, by rw [hrn]; omega, by rw [hrn]; omega, w3⟩
    · rintro ⟨g1, g2, g3, g4⟩
      obtain ⟨w1, w2, w3, w4⟩ := row.mp g1
      have hk := key.mpr ⟨w2, w3⟩
      obtain ⟨b1, b2⟩ := both hk
      obtain ⟨t1, -⟩ := tail w3.1 b1
      obtain ⟨k1, k2⟩ := t1.mpr ⟨w1, w4, g4⟩
      exact ⟨by rw [hrn] at g2 g3; omega, hk.2, k1, k2⟩
  · rintro ⟨⟨g1, g2⟩, g3, g4, g5⟩
    have hk := key.mp ⟨by omega, g3⟩
    obtain ⟨b1, b2⟩ := both ⟨by omega, g3⟩
    obtain ⟨-, t2⟩ := tail hk.2.1 b1
    obtain ⟨e1, e2⟩ := t2 ⟨g4, g5⟩
    exact ⟨by rw [b2, hrn], e1, e2.trans hle⟩
