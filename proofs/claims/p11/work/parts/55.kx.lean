/-! how long a record and a row are at most -/
theorem x_dig2 {v : Int} (h : v ≤ 99) : (dig v).length ≤ 2 := by
  unfold dig
  rw [dg_len]
  have h2 := x_dl2 v 1 (by omega) (show v < (10 : Int) ^ (1 + 1) by simp only [Nat.reduceAdd, Int.reducePow]; omega)
  omega
theorem x_dig3 {v : Int} (h : v ≤ 999) : (dig v).length ≤ 3 := by
  unfold dig
  rw [dg_len]
  have h2 := x_dl2 v 2 (by omega) (show v < (10 : Int) ^ (2 + 1) by simp only [Nat.reduceAdd, Int.reducePow]; omega)
  omega
theorem x_rec_len {σ : fS} {n : Int} (hn : n ≤ 40) (h4 : 0 ≤ σ.2 4 n.toNat ∧ σ.2 4 n.toNat ≤ 120) : (x_rec σ n).length ≤ 130 := by
  have h1 := x_dig2 (v := n) (by omega)
  have h2 := x_dig3 (v := σ.2 4 n.toNat) (by omega)
  unfold x_rec x_hd
  simp only [List.length_append, List.length_cons, List.length_nil, x_byt_len]
  omega
theorem x_row_len {σ : fS} {n : Int} (hn : n ≤ 40) : (x_row σ n).length ≤ 9 := by
  have h1 := x_dig2 (v := n) (by omega)
  have h2 := dig_len (σ.2 378 n.toNat)
  unfold x_row
  split
  · simp only [List.length_append, List.length_cons, List.length_nil]
    omega
  · simp only [List.length_append, List.length_cons, List.length_nil]
    omega
