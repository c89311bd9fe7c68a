/-! the records of a draft, one behind the other -/
def x_recs (σ : fS) : Nat → fS
  | 0 => σ
  | k + 1 => x_puts (x_r0 (x_recs σ k) (σ.2 376 k)) (x_rec (x_recs σ k) (σ.2 376 k))
theorem x_recs_I {σ : fS} (h4 : ∀ i, 0 ≤ σ.2 4 i ∧ σ.2 4 i ≤ 120) (ho : ∀ j : Nat, (j : Int) < σ.1 374 4 → 1 ≤ σ.2 376 j ∧ σ.2 376 j ≤ 40) : ∀ k : Nat, (k : Int) ≤ σ.1 374 4 → (∀ a b, a ≠ 375 → a ≠ 378 → a ≠ 379 → (x_recs σ k).2 a b = σ.2 a b) ∧ (∀ a b, ¬ (a = 374 ∧ b = 6) → (x_recs σ k).1 a b = σ.1 a b) ∧ σ.1 374 6 ≤ (x_recs σ k).1 374 6 ∧ (x_recs σ k).1 374 6 ≤ σ.1 374 6 + 130 * (k : Int) := by
  intro k
  induction k with
  | zero => intro _; exact ⟨fun _ _ _ _ _ => rfl, fun _ _ _ => rfl, Int.le_refl _, by show σ.1 374 6 ≤ _; omega⟩
  | succ k ih =>
    intro hk
    obtain ⟨i1, i2, i3, i4⟩ := ih (by omega)
    have hn := ho k (by omega)
    have hl := x_rec_len (σ := x_recs σ k) (n := σ.2 376 k) hn.2 (by rw [i1 4 _ (by decide) (by decide) (by decide)]; exact h4 _)
    have hu := x_puts_u (x_r0 (x_recs σ k) (σ.2 376 k)) (x_rec (x_recs σ k) (σ.2 376 k))
    have e : (x_r0 (x_recs σ k) (σ.2 376 k)).1 374 6 = (x_recs σ k).1 374 6 := rfl
    refine ⟨fun a b g1 g2 g3 => ?_, fun a b g => ?_, ?_, ?_⟩
    · show (x_puts _ _).2 a b = _
      rw [x_puts_2 _ _ _ _ g1, x_r0_2 _ _ _ _ g2 g3]
      exact i1 a b g1 g2 g3
    · show (x_puts _ _).1 a b = _
      rw [x_puts_1, if_neg g]
      exact i2 a b g
    · show _ ≤ (x_puts _ _).1 374 6
      omega
    · show (x_puts _ _).1 374 6 ≤ _
      omega
