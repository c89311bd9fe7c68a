section FT
variable {z : fZ} {G : fG} {nL : Nat} {Q : State → Prop} {kc ks : Nat} {σ : fS} {pc : Nat} {lv : List (Option Value)} {st : List Value}
theorem v_top {a b : Int} (h : a = b) (k : fv z G nL Q kc ks σ pc lv (.int (fI b) :: st)) : fv z G nL Q kc ks σ pc lv (.int (fI a) :: st) := h ▸ k
theorem v_st {σ1 : fS} (h : σ = σ1) (k : fv z G nL Q kc ks σ1 pc lv st) : fv z G nL Q kc ks σ pc lv st := h ▸ k
theorem v_lv {lv1 : List (Option Value)} (h : lv = lv1) (k : fv z G nL Q kc ks σ pc lv1 st) : fv z G nL Q kc ks σ pc lv st := h ▸ k
end FT
/-- two states are one when their numbers are -/
theorem fS_ext {σ τ : fS} (h1 : ∀ a b, σ.1 a b = τ.1 a b) (h2 : ∀ a b, σ.2 a b = τ.2 a b) : σ = τ := Prod.ext (funext fun a => funext fun b => h1 a b) (funext fun a => funext fun b => h2 a b)
/-- digits, from the j-th on -/
def dg : Nat → Int → List Int
  | 0, v => [48 + v % 10]
  | j + 1, v => (48 + v / 10 ^ (j + 1) % 10) :: dg j v
def dl (v : Int) : Nat := if v < 10 then 0 else if v < 100 then 1 else if v < 1000 then 2 else if v < 10000 then 3 else 4
def dig (v : Int) : List Int := dg (dl v) v
theorem dg_len (j : Nat) (v : Int) : (dg j v).length = j + 1 := by
  induction j with
  | zero => rfl
  | succ j ih => simp [dg, ih]
theorem dig_len (v : Int) : 1 ≤ (dig v).length ∧ (dig v).length ≤ 5 := by
  unfold dig
  rw [dg_len]
  unfold dl
  split
  · omega
  · split
    · omega
    · split
      · omega
      · split <;> omega
theorem dg_byte (j : Nat) (v : Int) : ∀ x ∈ dg j v, 48 ≤ x ∧ x ≤ 57 := by
  induction j with
  | zero =>
    intro x hx
    simp [dg] at hx
    omega
  | succ j ih =>
    intro x hx
    simp only [dg, List.mem_cons] at hx
    rcases hx with rfl | hx
    · omega
    · exact ih x hx
theorem dl_4 (v : Int) : dl v ≤ 4 := by
  unfold dl
  split
  · omega
  · split
    · omega
    · split
      · omega
      · split <;> omega
theorem dl_le {v : Int} (hv : 0 ≤ v ∧ v ≤ 99999) : v / 10 ^ dl v ≤ 9 := by
  unfold dl
  split
  · show v / 1 ≤ 9; omega
  · split
    · show v / 10 ≤ 9; omega
    · split
      · show v / 100 ≤ 9; omega
      · split
        · show v / 1000 ≤ 9; omega
        · show v / 10000 ≤ 9; omega
theorem dl_gt {v : Int} {j : Nat} (h : j < dl v) : 9 < v / 10 ^ j := by
  have h4 := dl_4 v
  have hj : j = 0 ∨ j = 1 ∨ j = 2 ∨ j = 3 := by omega
  unfold dl at h
  rcases hj with rfl | rfl | rfl | rfl
  · show 9 < v / 1
    split at h <;> omega
  · show 9 < v / 10
    split at h
    · omega
    · split at h <;> omega
  · show 9 < v / 100
    split at h
    · omega
    · split at h
      · omega
      · split at h <;> omega
  · show 9 < v / 1000
    split at h
    · omega
    · split at h
      · omega
      · split at h
        · omega
        · split at h <;> omega
theorem pow10_4 {j : Nat} (h : j ≤ 4) : (10 : Int) ^ j ≤ 10000 := by
  have hj : j = 0 ∨ j = 1 ∨ j = 2 ∨ j = 3 ∨ j = 4 := by omega
  rcases hj with rfl | rfl | rfl | rfl | rfl <;> decide
