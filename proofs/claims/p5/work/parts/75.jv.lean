/-! BETWEEN THE CALLS: the ranges of both, and the relation -/
def Jv (σ τ : fS) : Prop := x_I σ ∧ m_I τ ∧ Rr σ τ
theorem Jv_x {σ τ : fS} (h : Jv σ τ) : x_I σ := h.1
theorem Jv_m {σ τ : fS} (h : Jv σ τ) : m_I τ := h.2.1
theorem x_I_0 : x_I x_0 := by
  refine ⟨fun a b => ?_, fun a b => ?_⟩
  · show x_okF a b 0
    unfold x_okF
    (repeat' split) <;> first | trivial | omega
  · show x_okA a 0
    unfold x_okA
    (repeat' split) <;> first | trivial | omega
theorem m_I_0 : m_I x_0 := by
  refine ⟨fun b => ?_, fun a b => ?_, fun i _ => (show (0 : Int) ≤ 0 ∧ (0 : Int) + 0 ≤ 12000 by omega), fun h => absurd rfl h⟩
  · show m_okF b 0
    unfold m_okF
    (repeat' split) <;> first | trivial | omega
  · show m_okA a 0
    unfold m_okA
    (repeat' split) <;> first | trivial | omega
theorem Rr_x0 : Rr x_0 x_0 := by
  refine ⟨fun n n1 n40 => ⟨rfl, ?_, rfl, fun h => absurd h (by show ¬ (0 : Int) = 1; decide)⟩, ⟨rfl, rfl, rfl⟩, rfl, fun r hr => absurd hr (by show ¬ (r : Int) < 0; omega)⟩
  unfold x_ch
  rw [if_neg (by show ¬ (0 : Int) = 1; decide)]
  rfl
theorem Jv_0 : Jv x_0 x_0 := ⟨x_I_0, m_I_0, Rr_x0⟩
section JV
variable {σ σ1 τ τ1 : fS} {k v r n i m b c w how : Int}
theorem sj_object (h : Jv σ τ) (hy : y_object σ n m k v σ1) (hu : u_object τ n m τ1) : Jv σ1 τ1 := ⟨xI_object h.1 hy, mI_object h.2.1 hu, (rs_object h.2.2 h.1 hy hu).1⟩
theorem st_object (h : Jv σ τ) (hy : y_object σ n m k v σ1) (hu : u_object τ n m τ1) : Jv σ1 τ1 ∧ τ1.1 0 0 = k ∧ 0 ≤ k ∧ k ≤ 2 := ⟨sj_object h  hy hu, (rs_object h.2.2 h.1 hy hu).2⟩
theorem sj_octet (h : Jv σ τ) (hb : -128 ≤ b ∧ b ≤ 127) (hy : y_octet σ n i b k v σ1) (hu : u_octet τ n i b r τ1) : Jv σ1 τ1 := ⟨xI_octet h.1 hb hy, mI_octet h.2.1 hb hu, (rs_octet h.2.2 h.1 h.2.1 hb hy hu).1⟩
theorem st_octet (h : Jv σ τ) (hb : -128 ≤ b ∧ b ≤ 127) (hy : y_octet σ n i b k v σ1) (hu : u_octet τ n i b r τ1) : Jv σ1 τ1 ∧ τ1.1 0 0 = k ∧ (0 ≤ k ∧ k ≤ 2) ∧ (k = 0 → v = r) ∧ -2147483648 ≤ r ∧ r ≤ 2147483647 := ⟨sj_octet h hb hy hu, (rs_octet h.2.2 h.1 h.2.1 hb hy hu).2⟩
theorem sj_drop (h : Jv σ τ) (hy : y_drop σ n k v σ1) (hu : u_drop τ n r τ1) : Jv σ1 τ1 := ⟨xI_drop h.1 hy, mI_drop h.2.1 hu, (rs_drop h.2.2 h.1 h.2.1 hy hu).1⟩
theorem st_drop (h : Jv σ τ) (hy : y_drop σ n k v σ1) (hu : u_drop τ n r τ1) : Jv σ1 τ1 ∧ τ1.1 0 0 = k ∧ (0 ≤ k ∧ k ≤ 2) ∧ (k = 0 → v = r) ∧ (r = 0 ∨ r = 1) := ⟨sj_drop h  hy hu, (rs_drop h.2.2 h.1 h.2.1 hy hu).2⟩
theorem sj_first (h : Jv σ τ) (hw : w = 0 ∨ w = 1) (hy : y_first σ n w k v σ1) (hu : u_first τ n w r τ1) : Jv σ1 τ1 := ⟨xI_first h.1 hw hy, mI_first h.2.1 hw hu, (rs_first h.2.2 h.1 h.2.1 hw hy hu).1⟩
theorem st_first (h : Jv σ τ) (hw : w = 0 ∨ w = 1) (hy : y_first σ n w k v σ1) (hu : u_first τ n w r τ1) : Jv σ1 τ1 ∧ τ1.1 0 0 = k ∧ (0 ≤ k ∧ k ≤ 2) ∧ (k = 0 → v = r) ∧ (r = 0 ∨ r = 1) := ⟨sj_first h hw hy hu, (rs_first h.2.2 h.1 h.2.1 hw hy hu).2⟩
theorem sj_write (h : Jv σ τ) (hy : y_write σ how k v σ1) (hu : u_write τ how r τ1) : Jv σ1 τ1 := ⟨xI_write h.1 hy, mI_write h.2.1 hu, (rs_write h.2.2 h.1 h.2.1 hy hu).1⟩
theorem st_write (h : Jv σ τ) (hy : y_write σ how k v σ1) (hu : u_write τ how r τ1) : Jv σ1 τ1 ∧ τ1.1 0 0 = k ∧ (0 ≤ k ∧ k ≤ 2) ∧ (k = 0 → v = r) ∧ -2147483648 ≤ r ∧ r ≤ 2147483647 := ⟨sj_write h  hy hu, (rs_write h.2.2 h.1 h.2.1 hy hu).2⟩
theorem sj_append (h : Jv σ τ) (hy : y_append σ  k v σ1) (hu : u_append τ  r τ1) : Jv σ1 τ1 := ⟨xI_append h.1 hy, mI_append h.2.1 hu, (rs_append h.2.2 h.1 h.2.1 hy hu).1⟩
theorem st_append (h : Jv σ τ) (hy : y_append σ  k v σ1) (hu : u_append τ  r τ1) : Jv σ1 τ1 ∧ τ1.1 0 0 = k ∧ (0 ≤ k ∧ k ≤ 2) ∧ (k = 0 → v = r) ∧ -2147483648 ≤ r ∧ r ≤ 2147483647 := ⟨sj_append h  hy hu, (rs_append h.2.2 h.1 h.2.1 hy hu).2⟩
theorem sj_poke (h : Jv σ τ) (hb : -128 ≤ b ∧ b ≤ 127) (hy : y_poke σ i b k v σ1) (hu : u_poke τ i b r τ1) : Jv σ1 τ1 := ⟨xI_poke h.1 hb hy, mI_poke h.2.1 hb hu, (rs_poke h.2.2 h.1 h.2.1 hy hu).1⟩
theorem st_poke (h : Jv σ τ) (hb : -128 ≤ b ∧ b ≤ 127) (hy : y_poke σ i b k v σ1) (hu : u_poke τ i b r τ1) : Jv σ1 τ1 ∧ τ1.1 0 0 = k ∧ (0 ≤ k ∧ k ≤ 2) ∧ (k = 0 → v = r) ∧ -2147483648 ≤ r ∧ r ≤ 2147483647 := ⟨sj_poke h hb hy hu, (rs_poke h.2.2 h.1 h.2.1 hy hu).2⟩
theorem sj_take (h : Jv σ τ) (hy : y_take σ i k v σ1) (hu : u_take τ i r τ1) : Jv σ1 τ1 := ⟨xI_take h.1 hy, mI_take h.2.1 hu, (rs_take h.2.2 h.1 h.2.1 hy hu).1⟩
theorem st_take (h : Jv σ τ) (hy : y_take σ i k v σ1) (hu : u_take τ i r τ1) : Jv σ1 τ1 ∧ τ1.1 0 0 = k ∧ (0 ≤ k ∧ k ≤ 2) ∧ (k = 0 → v = r) ∧ -2147483648 ≤ r ∧ r ≤ 2147483647 := ⟨sj_take h  hy hu, (rs_take h.2.2 h.1 h.2.1 hy hu).2⟩
theorem sj_at (h : Jv σ τ) (hy : y_at σ i k v σ1) (hu : u_at τ i r τ1) : Jv σ1 τ1 := ⟨xI_at h.1 hy, mI_at h.2.1 hu, (rs_at h.2.2 h.2.1 hy hu).1⟩
theorem st_at (h : Jv σ τ) (hy : y_at σ i k v σ1) (hu : u_at τ i r τ1) : Jv σ1 τ1 ∧ τ1.1 0 0 = k ∧ (0 ≤ k ∧ k ≤ 2) ∧ (k = 0 → v = r) ∧ -2147483648 ≤ r ∧ r ≤ 2147483647 := ⟨sj_at h  hy hu, (rs_at h.2.2 h.2.1 hy hu).2⟩
theorem sj_length (h : Jv σ τ) (hy : y_length σ n k v σ1) (hu : u_length τ n r τ1) : Jv σ1 τ1 := ⟨xI_length h.1 hy, mI_length h.2.1 hu, (rs_length h.2.2 h.2.1 hy hu).1⟩
theorem st_length (h : Jv σ τ) (hy : y_length σ n k v σ1) (hu : u_length τ n r τ1) : Jv σ1 τ1 ∧ τ1.1 0 0 = k ∧ (0 ≤ k ∧ k ≤ 2) ∧ (k = 0 → v = r) ∧ -2147483648 ≤ r ∧ r ≤ 2147483647 := ⟨sj_length h  hy hu, (rs_length h.2.2 h.2.1 hy hu).2⟩
theorem sj_byteOf (h : Jv σ τ) (hy : y_byteOf σ n i k v σ1) (hu : u_byteOf τ n i r τ1) : Jv σ1 τ1 := ⟨xI_byteOf h.1 hy, mI_byteOf h.2.1 hu, (rs_byteOf h.2.2 h.2.1 hy hu).1⟩
theorem st_byteOf (h : Jv σ τ) (hy : y_byteOf σ n i k v σ1) (hu : u_byteOf τ n i r τ1) : Jv σ1 τ1 ∧ τ1.1 0 0 = k ∧ (0 ≤ k ∧ k ≤ 2) ∧ (k = 0 → v = r) ∧ -2147483648 ≤ r ∧ r ≤ 2147483647 := ⟨sj_byteOf h  hy hu, (rs_byteOf h.2.2 h.2.1 hy hu).2⟩
theorem sj_size (h : Jv σ τ) (hy : y_size σ i k v σ1) (hu : u_size τ i r τ1) : Jv σ1 τ1 := ⟨xI_size h.1 hy, mI_size h.2.1 hu, (rs_size h.2.2 h.2.1 hy hu).1⟩
theorem st_size (h : Jv σ τ) (hy : y_size σ i k v σ1) (hu : u_size τ i r τ1) : Jv σ1 τ1 ∧ τ1.1 0 0 = k ∧ (0 ≤ k ∧ k ≤ 2) ∧ (k = 0 → v = r) ∧ -2147483648 ≤ r ∧ r ≤ 2147483647 := ⟨sj_size h  hy hu, (rs_size h.2.2 h.2.1 hy hu).2⟩
theorem sj_place (h : Jv σ τ) (hy : y_place σ i n k v σ1) (hu : u_place τ i n r τ1) : Jv σ1 τ1 := ⟨xI_place h.1 hy, mI_place h.2.1 hu, (rs_place h.2.2 h.2.1 hy hu).1⟩
theorem st_place (h : Jv σ τ) (hy : y_place σ i n k v σ1) (hu : u_place τ i n r τ1) : Jv σ1 τ1 ∧ τ1.1 0 0 = k ∧ (0 ≤ k ∧ k ≤ 2) ∧ (k = 0 → v = r) ∧ -2147483648 ≤ r ∧ r ≤ 2147483647 := ⟨sj_place h  hy hu, (rs_place h.2.2 h.2.1 hy hu).2⟩
theorem sj_differ (h : Jv σ τ) (hy : y_differ σ b c k v σ1) (hu : u_differ τ b c r τ1) : Jv σ1 τ1 := ⟨xI_differ h.1 hy, mI_differ h.2.1 hu, (rs_differ h.2.2 h.1 hy hu).1⟩
theorem st_differ (h : Jv σ τ) (hy : y_differ σ b c k v σ1) (hu : u_differ τ b c r τ1) : Jv σ1 τ1 ∧ τ1.1 0 0 = k ∧ 0 ≤ k ∧ k ≤ 2 := ⟨sj_differ h  hy hu, (rs_differ h.2.2 h.1 hy hu).2⟩
theorem sj_row (h : Jv σ τ) (hy : y_row σ i w k v σ1) (hu : u_row τ i w r τ1) : Jv σ1 τ1 := ⟨xI_row h.1 hy, mI_row h.2.1 hu, rs_row h.2.2  hy hu⟩
theorem sj_read (h : Jv σ τ) (hy : x_rd (σ.2 9) (σ.1 8 1) σ v σ1) (hu : u_read τ r τ1) : Jv σ1 τ1 := ⟨x_rd_I (h.1.1 8 1) h.1 hy, mI_read h.2.1 hu, (rs_read h.2.2 h.1 h.2.1 hy hu).1⟩
theorem st_read (h : Jv σ τ) (hy : x_rd (σ.2 9) (σ.1 8 1) σ v σ1) (hu : u_read τ r τ1) : Jv σ1 τ1 ∧ v = r ∧ -2147483648 ≤ r ∧ r ≤ 2147483647 := ⟨sj_read h hy hu, (rs_read h.2.2 h.1 h.2.1 hy hu).2⟩
theorem sj_told (h : Jv σ τ) (hu : u_told τ w r τ1) : Jv σ τ1 := ⟨h.1, mI_told h.2.1 hu, by rw [hu.1]; exact Rr_0 h.2.2 0⟩
theorem st_told (h : Jv σ τ) (hy : v = (if w = 0 then σ.1 8 1 else if w = 1 then σ.1 10 1 else if w = 2 then m_cnt (σ.2 2) 40 else if w = 3 then m_cnt (x_ch σ) 40 else if w = 4 then σ.1 8 2 else -1)) (hu : u_told τ w r τ1) : Jv σ τ1 ∧ v = r ∧ -2147483648 ≤ v ∧ v ≤ 2147483647 := ⟨sj_told h hu, (rs_told h.2.2 h.2.1 hy hu).2⟩
end JV
