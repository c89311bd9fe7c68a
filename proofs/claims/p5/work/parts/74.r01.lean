/-! THE RELATION between the class and the reference -/
def Rs (σ τ : fS) : Prop := ∀ n : Nat, 1 ≤ n → n ≤ 40 → σ.2 2 n = τ.2 1 n ∧ x_ch σ n = τ.2 3 n ∧ σ.2 7 n = τ.2 4 n ∧ (σ.2 2 n = 1 → σ.2 3 n = τ.2 2 n ∧ σ.2 4 n = τ.2 5 n ∧ ∀ i : Nat, (i : Int) < σ.2 4 n → σ.2 5 (120 * n + i) = τ.2 6 (120 * n + i))
def Rf (σ τ : fS) : Prop := σ.1 8 1 = τ.1 0 7 ∧ σ.2 9 = τ.2 7 ∧ σ.1 8 2 = τ.1 0 9
def Rh (σ τ : fS) : Prop := σ.1 10 1 = τ.1 0 10 ∧ ∀ r : Nat, (r : Int) < σ.1 10 1 → σ.1 (12 + 3 * r) 3 = τ.2 8 r ∧ σ.1 (12 + 3 * r) 2 = τ.2 9 r ∧ ∀ n : Nat, 1 ≤ n → n ≤ 40 → σ.2 (12 + 3 * r + 1) n = τ.2 10 (41 * r + n)
def Rr (σ τ : fS) : Prop := Rs σ τ ∧ Rf σ τ ∧ Rh σ τ
theorem Rs_cg {σ σ1 τ τ1 : fS} (h : Rs σ τ) (h1 : ∀ a b, (a = 2 ∨ a = 3 ∨ a = 4 ∨ a = 5 ∨ a = 6 ∨ a = 7) → σ1.2 a b = σ.2 a b) (h2 : ∀ a b, (1 ≤ a ∧ a ≤ 6) → τ1.2 a b = τ.2 a b) : Rs σ1 τ1 := by
  intro n n1 n40
  obtain ⟨e1, e2, e3, e4⟩ := h n n1 n40
  have hch : x_ch σ1 n = x_ch σ n := by unfold x_ch; rw [h1 2 n (by decide), h1 6 n (by decide), h1 7 n (by decide)]
  refine ⟨by rw [h1 2 n (by decide), h2 1 n (by decide)]; exact e1, by rw [hch, h2 3 n (by decide)]; exact e2, by rw [h1 7 n (by decide), h2 4 n (by decide)]; exact e3, fun g => ?_⟩
  rw [h1 2 n (by decide)] at g
  obtain ⟨f1, f2, f3⟩ := e4 g
  refine ⟨by rw [h1 3 n (by decide), h2 2 n (by decide)]; exact f1, by rw [h1 4 n (by decide), h2 5 n (by decide)]; exact f2, fun i hi => ?_⟩
  rw [h1 4 n (by decide)] at hi
  rw [h1 5 _ (by decide), h2 6 _ (by decide)]
  exact f3 i hi
theorem Rh_cg {σ σ1 τ τ1 : fS} (h : Rh σ τ) (h1 : ∀ a b, (a = 10 ∨ (12 ≤ a ∧ a < 192)) → σ1.1 a b = σ.1 a b) (h2 : ∀ a b, (12 ≤ a ∧ a < 192) → σ1.2 a b = σ.2 a b) (h3 : τ1.1 0 10 = τ.1 0 10) (h4 : ∀ a b, (8 ≤ a ∧ a ≤ 10) → τ1.2 a b = τ.2 a b) (h60 : σ.1 10 1 ≤ 60) : Rh σ1 τ1 := by
  refine ⟨by rw [h1 10 1 (by decide), h3]; exact h.1, fun r hr => ?_⟩
  rw [h1 10 1 (by decide)] at hr
  obtain ⟨e1, e2, e3⟩ := h.2 r hr
  refine ⟨by rw [h1 _ 3 (by omega), h4 8 r (by decide)]; exact e1, by rw [h1 _ 2 (by omega), h4 9 r (by decide)]; exact e2, fun n n1 n40 => ?_⟩
  rw [h2 _ n (by omega), h4 10 _ (by decide)]
  exact e3 n n1 n40
theorem Rr_0 {σ τ : fS} (h : Rr σ τ) (q : Int) : Rr σ (f_p1 τ 0 0 q) := ⟨Rs_cg h.1 (fun _ _ _ => rfl) (fun _ _ _ => rfl), ⟨h.2.1.1, h.2.1.2.1, h.2.1.2.2⟩, ⟨h.2.2.1, h.2.2.2⟩⟩
