/-! BETWEEN THE CALLS: the ranges of both -/
def Jv (σ τ : fS) : Prop := x_I σ ∧ m_I τ
theorem x_I_0 : x_I x_0 := by
  refine ⟨fun a b => ?_, fun a b => ?_⟩
  · show x_okF a b 0
    unfold x_okF
    (repeat' split) <;> first | trivial | omega
  · show x_okA a 0
    unfold x_okA
    (repeat' split) <;> first | trivial | omega
theorem m_I_0 : m_I x_0 := by
  refine ⟨fun b => ?_, fun a b => ?_, fun i _ => (show (0 : Int) ≤ 0 ∧ (0 : Int) + 0 ≤ 12000 by omega), fun h => absurd rfl h⟩
  · show m_okF b 0
    unfold m_okF
    (repeat' split) <;> first | trivial | omega
  · show m_okA a 0
    unfold m_okA
    (repeat' split) <;> first | trivial | omega
theorem Jv_0 : Jv x_0 x_0 := ⟨x_I_0, m_I_0⟩
section JV
variable {σ σ1 τ τ1 : fS} {k v r n i m b c w how : Int}
theorem st_object (h : Jv σ τ) (hy : y_object σ n m k v σ1) (hu : u_object τ n m τ1) : Jv σ1 τ1 ∧ τ1.1 0 0 = k ∧ 0 ≤ k ∧ k ≤ 2 := by
  refine ⟨⟨xI_object h.1 hy, mI_object h.2 hu⟩, ?_⟩
  rcases hy with ⟨g1, rfl, -⟩ | ⟨g1, g2, rfl, -⟩ | ⟨g1, g2, rfl, -⟩
  · rcases hu with ⟨-, rfl⟩ | ⟨q1, -, -⟩ | ⟨q1, -, -⟩
    · exact ⟨rfl, by decide, by decide⟩
    · exact absurd q1 g1
    · exact absurd q1 g1
  · rcases hu with ⟨q1, -⟩ | ⟨-, -, rfl⟩ | ⟨-, q2, -⟩
    · exact absurd g1 q1
    · exact ⟨rfl, by decide, by decide⟩
    · exact absurd q2 g2
  · rcases hu with ⟨q1, -⟩ | ⟨-, q2, -⟩ | ⟨-, -, rfl⟩
    · exact absurd g1 q1
    · exact absurd g2 q2
    · exact ⟨rfl, by decide, by decide⟩
theorem st_octet (h : Jv σ τ) (hb : -128 ≤ b ∧ b ≤ 127) (hy : y_octet σ n i b k v σ1) (hu : u_octet τ n i b r τ1) : Jv σ1 τ1 := ⟨xI_octet h.1 hb hy, mI_octet h.2 hb hu⟩
theorem st_drop (h : Jv σ τ) (hy : y_drop σ n k v σ1) (hu : u_drop τ n r τ1) : Jv σ1 τ1 := ⟨xI_drop h.1 hy, mI_drop h.2 hu⟩
theorem st_first (h : Jv σ τ) (hw : w = 0 ∨ w = 1) (hy : y_first σ n w k v σ1) (hu : u_first τ n w r τ1) : Jv σ1 τ1 := ⟨xI_first h.1 hw hy, mI_first h.2 hw hu⟩
theorem st_write (h : Jv σ τ) (hy : y_write σ how k v σ1) (hu : u_write τ how r τ1) : Jv σ1 τ1 := ⟨xI_write h.1 hy, mI_write h.2 hu⟩
theorem st_append (h : Jv σ τ) (hy : y_append σ  k v σ1) (hu : u_append τ  r τ1) : Jv σ1 τ1 := ⟨xI_append h.1 hy, mI_append h.2 hu⟩
theorem st_poke (h : Jv σ τ) (hb : -128 ≤ b ∧ b ≤ 127) (hy : y_poke σ i b k v σ1) (hu : u_poke τ i b r τ1) : Jv σ1 τ1 := ⟨xI_poke h.1 hb hy, mI_poke h.2 hb hu⟩
theorem st_take (h : Jv σ τ) (hy : y_take σ i k v σ1) (hu : u_take τ i r τ1) : Jv σ1 τ1 := ⟨xI_take h.1 hy, mI_take h.2 hu⟩
theorem st_at (h : Jv σ τ) (hy : y_at σ i k v σ1) (hu : u_at τ i r τ1) : Jv σ1 τ1 := ⟨xI_at h.1 hy, mI_at h.2 hu⟩
theorem st_length (h : Jv σ τ) (hy : y_length σ n k v σ1) (hu : u_length τ n r τ1) : Jv σ1 τ1 := ⟨xI_length h.1 hy, mI_length h.2 hu⟩
theorem st_byteOf (h : Jv σ τ) (hy : y_byteOf σ n i k v σ1) (hu : u_byteOf τ n i r τ1) : Jv σ1 τ1 := ⟨xI_byteOf h.1 hy, mI_byteOf h.2 hu⟩
theorem st_size (h : Jv σ τ) (hy : y_size σ i k v σ1) (hu : u_size τ i r τ1) : Jv σ1 τ1 := ⟨xI_size h.1 hy, mI_size h.2 hu⟩
theorem st_place (h : Jv σ τ) (hy : y_place σ i n k v σ1) (hu : u_place τ i n r τ1) : Jv σ1 τ1 := ⟨xI_place h.1 hy, mI_place h.2 hu⟩
theorem st_differ (h : Jv σ τ) (hy : y_differ σ b c k v σ1) (hu : u_differ τ b c r τ1) : Jv σ1 τ1 := ⟨xI_differ h.1 hy, mI_differ h.2 hu⟩
theorem st_row (h : Jv σ τ) (hy : y_row σ i w k v σ1) (hu : u_row τ i w r τ1) : Jv σ1 τ1 := ⟨xI_row h.1 hy, mI_row h.2 hu⟩
theorem st_read (h : Jv σ τ) (hy : x_rd (σ.2 9) (σ.1 8 1) σ v σ1) (hu : u_read τ r τ1) : Jv σ1 τ1 := ⟨x_rd_I (h.1.1 8 1) h.1 hy, mI_read h.2 hu⟩
theorem st_told (h : Jv σ τ) (hu : u_told τ w r τ1) : Jv σ τ1 := ⟨h.1, mI_told h.2 hu⟩
end JV
