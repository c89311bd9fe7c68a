section R3
variable {σ σ1 τ τ1 : fS} {k v r n i m b c w : Int}
theorem rs_drop (h : Rr σ τ) (hI : x_I σ) (hM : m_I τ) (hy : y_drop σ n k v σ1) (hu : u_drop τ n r τ1) : Rr σ1 τ1 ∧ τ1.1 0 0 = k ∧ (0 ≤ k ∧ k ≤ 2) ∧ (k = 0 → v = r) ∧ (r = 0 ∨ r = 1) := by
  rcases hy with ⟨g, rfl, rfl⟩ | ⟨g, rfl, hv, rfl⟩
  · rcases hu with ⟨q, -⟩ | ⟨q, -⟩ | ⟨-, rfl, rfl⟩
    · exact absurd q g
    · exact absurd q g
    · exact ⟨Rr_0 h 1, rfl, by decide, fun e => absurd e (by decide), Or.inl rfl⟩
  · have ht := Rs_has h g
    have s2 : ∀ a q, (f_p2 σ 2 n.toNat 0).2 a q = if a = 2 ∧ q = n.toNat then 0 else σ.2 a q := fun a q => p2_2 _ _ _ _ _ _
    rcases hu with ⟨-, g2, rfl, rfl⟩ | ⟨-, g2, rfl, rfl⟩ | ⟨q, -⟩
    · have t2 : ∀ a q, (f_p2 (f_p2 (f_p2 (f_p1 τ 0 0 0) 1 n.toNat 0) 2 n.toNat 0) 3 n.toNat (τ.2 4 n.toNat)).2 a q = if a = 3 ∧ q = n.toNat then τ.2 4 n.toNat else if a = 2 ∧ q = n.toNat then 0 else if a = 1 ∧ q = n.toNat then 0 else τ.2 a q := fun a q => by rw [p2_2, p2_2, p2_2]; rfl
      refine ⟨⟨fun j j1 j40 => ?_, ⟨h.2.1.1, ?_, h.2.1.2.2⟩, ?_⟩, rfl, by decide, fun _ => by rw [hv, ht]; exact g2, Or.inr rfl⟩
      · obtain ⟨e1, e2, e3, e4⟩ := h.1 j j1 j40
        by_cases gj : j = n.toNat
        · subst gj
          refine ⟨by rw [s2, t2, if_pos ⟨rfl, rfl⟩, if_neg (by omega), if_neg (by omega), if_pos ⟨rfl, rfl⟩], ?_, by rw [s2, t2, if_neg (by omega), if_neg (by omega), if_neg (by omega), if_neg (by omega)]; exact e3, fun q => ?_⟩
          · unfold x_ch
            have a2 : (f_p2 σ 2 n.toNat 0).2 2 n.toNat = 0 := by rw [s2, if_pos ⟨rfl, rfl⟩]
            have a7 : (f_p2 σ 2 n.toNat 0).2 7 n.toNat = σ.2 7 n.toNat := by rw [s2, if_neg (by omega)]
            rw [a2, if_neg (by decide), a7, t2, if_pos ⟨rfl, rfl⟩]
            exact e3
          · rw [s2, if_pos ⟨rfl, rfl⟩] at q
            exact absurd q (by decide)
        · have s9 : ∀ a, (f_p2 σ 2 n.toNat 0).2 a j = σ.2 a j := fun a => by rw [s2, if_neg (by omega)]
          have t9 : ∀ a, (f_p2 (f_p2 (f_p2 (f_p1 τ 0 0 0) 1 n.toNat 0) 2 n.toNat 0) 3 n.toNat (τ.2 4 n.toNat)).2 a j = τ.2 a j := fun a => by rw [t2, if_neg (by omega), if_neg (by omega), if_neg (by omega)]
          refine ⟨by rw [s9, t9]; exact e1, by unfold x_ch; rw [s9, s9, s9, t9]; exact e2, by rw [s9, t9]; exact e3, fun q => ?_⟩
          rw [s9] at q
          obtain ⟨f1, f2, f3⟩ := e4 q
          refine ⟨by rw [s9, t9]; exact f1, by rw [s9, t9]; exact f2, fun q9 hq => ?_⟩
          rw [s9] at hq
          rw [s2, t2, if_neg (by omega), if_neg (by omega), if_neg (by omega), if_neg (by omega)]
          exact f3 q9 hq
      · funext q
        rw [s2, t2, if_neg (by omega), if_neg (by omega), if_neg (by omega), if_neg (by omega)]
        exact congrFun h.2.1.2.1 q
      · refine Rh_cg h.2.2 (fun _ _ _ => rfl) (fun a q g => ?_) rfl (fun a q g => ?_) (hI.1 10 1).2
        · rw [s2, if_neg (by omega)]
        · rw [t2, if_neg (by omega), if_neg (by omega), if_neg (by omega)]
    · have e : f_p2 σ 2 n.toNat 0 = σ := by
        refine fS_ext (fun _ _ => rfl) (fun a q => ?_)
        rw [s2]
        split
        · rename_i gq; rw [gq.1, gq.2, ht, g2]
        · rfl
      rw [e]
      exact ⟨Rr_0 h 0, rfl, by decide, fun _ => by rw [hv, ht]; exact g2, Or.inl rfl⟩
    · exact absurd g q
theorem R_obj (h : Rr σ τ) : ((1 ≤ n ∧ n ≤ 40) ∧ σ.2 2 n.toNat = 1) ↔ ((1 ≤ n ∧ n ≤ 40) ∧ τ.2 1 n.toNat = 1) := by
  constructor
  · rintro ⟨g1, g2⟩
    exact ⟨g1, by rw [← Rs_has h g1]; exact g2⟩
  · rintro ⟨g1, g2⟩
    exact ⟨g1, by rw [Rs_has h g1]; exact g2⟩
theorem rs_first (h : Rr σ τ) (hI : x_I σ) (hM : m_I τ) (hw : w = 0 ∨ w = 1) (hy : y_first σ n w k v σ1) (hu : u_first τ n w r τ1) : Rr σ1 τ1 ∧ τ1.1 0 0 = k ∧ (0 ≤ k ∧ k ≤ 2) ∧ (k = 0 → v = r) ∧ (r = 0 ∨ r = 1) := by
  rcases hy with ⟨g, rfl, rfl⟩ | ⟨g, rfl, hv, rfl⟩
  · rcases hu with ⟨q, -⟩ | ⟨q, -⟩ | ⟨-, rfl, rfl⟩
    · exact absurd ((R_obj h).mpr q) g
    · exact absurd ((R_obj h).mpr q) g
    · exact ⟨Rr_0 h 1, rfl, by decide, fun e => absurd e (by decide), Or.inl rfl⟩
  · have hl := ((h.1 n.toNat (by omega) (by omega)).2.2.2 g.2).1
    have s2 : ∀ a q, (f_p2 σ 3 n.toNat w).2 a q = if a = 3 ∧ q = n.toNat then w else σ.2 a q := fun a q => p2_2 _ _ _ _ _ _
    have key : ∀ T : fS, (∀ a q, T.2 a q = if a = 2 ∧ q = n.toNat then w else τ.2 a q) → T.1 = (f_p1 τ 0 0 0).1 → Rr (f_p2 σ 3 n.toNat w) T := by
      intro T t2 t1
      refine ⟨fun j j1 j40 => ?_, ⟨by rw [t1]; exact h.2.1.1, ?_, by rw [t1]; exact h.2.1.2.2⟩, ?_⟩
      · obtain ⟨e1, e2, e3, e4⟩ := h.1 j j1 j40
        refine ⟨by rw [s2, t2, if_neg (by omega), if_neg (by omega)]; exact e1, ?_, by rw [s2, t2, if_neg (by omega), if_neg (by omega)]; exact e3, fun q => ?_⟩
        · unfold x_ch
          have a2 : (f_p2 σ 3 n.toNat w).2 2 j = σ.2 2 j := by rw [s2, if_neg (by omega)]
          have a6 : (f_p2 σ 3 n.toNat w).2 6 j = σ.2 6 j := by rw [s2, if_neg (by omega)]
          have a7 : (f_p2 σ 3 n.toNat w).2 7 j = σ.2 7 j := by rw [s2, if_neg (by omega)]
          have t3 : T.2 3 j = τ.2 3 j := by rw [t2, if_neg (by omega)]
          rw [a2, a6, a7, t3]
          exact e2
        · rw [s2, if_neg (by omega)] at q
          obtain ⟨f1, f2, f3⟩ := e4 q
          refine ⟨?_, by rw [s2, t2, if_neg (by omega), if_neg (by omega)]; exact f2, fun q9 hq => ?_⟩
          · rw [s2, t2]
            by_cases gj : j = n.toNat
            · rw [if_pos ⟨rfl, gj⟩, if_pos ⟨rfl, gj⟩]
            · rw [if_neg (by omega), if_neg (by omega)]; exact f1
          · rw [s2, if_neg (by omega)] at hq
            rw [s2, t2, if_neg (by omega), if_neg (by omega)]
            exact f3 q9 hq
      · funext q
        rw [s2, t2, if_neg (by omega), if_neg (by omega)]
        exact congrFun h.2.1.2.1 q
      · refine Rh_cg h.2.2 (fun _ _ _ => rfl) (fun a q g => ?_) (by rw [t1]; rfl) (fun a q g => ?_) (hI.1 10 1).2
        · rw [s2, if_neg (by omega)]
        · rw [t2, if_neg (by omega)]
    rcases hu with ⟨-, g2, rfl, rfl⟩ | ⟨-, g2, rfl, rfl⟩ | ⟨q, -⟩
    · exact ⟨key _ (fun a q => by rw [p2_2]; rfl) rfl, rfl, by decide, fun _ => by rw [hv, if_neg (by omega)], Or.inr rfl⟩
    · refine ⟨key _ (fun a q => ?_) rfl, rfl, by decide, fun _ => by rw [hv, if_pos (by omega)], Or.inl rfl⟩
      show τ.2 a q = _
      split
      · rename_i gq; rw [gq.1, gq.2]; exact g2
      · rfl
    · exact absurd ((R_obj h).mp g) q
theorem rs_poke (h : Rr σ τ) (hI : x_I σ) (hM : m_I τ) (hy : y_poke σ i b k v σ1) (hu : u_poke τ i b r τ1) : Rr σ1 τ1 ∧ τ1.1 0 0 = k ∧ (0 ≤ k ∧ k ≤ 2) ∧ (k = 0 → v = r) ∧ -2147483648 ≤ r ∧ r ≤ 2147483647 := by
  have hz := h.2.1.1
  rcases hy with ⟨g, rfl, rfl⟩ | ⟨g, rfl, hv, rfl⟩
  · rcases hu with ⟨q, -⟩ | ⟨-, rfl, rfl⟩
    · exact absurd (by rw [hz]; exact q) g
    · exact ⟨Rr_0 h 1, rfl, by decide, fun e => absurd e (by decide), by decide⟩
  · rcases hu with ⟨-, rfl, rfl⟩ | ⟨q, -⟩
    · have h7 : -128 ≤ τ.2 7 i.toNat ∧ τ.2 7 i.toNat ≤ 127 := hM.2.1 7 _
      refine ⟨⟨Rs_cg h.1 (fun a q g9 => ?_) (fun a q g9 => ?_), ⟨h.2.1.1, ?_, rfl⟩, ?_⟩, rfl, by decide, fun _ => by rw [hv]; exact congrFun h.2.1.2.1 _, by omega⟩
      · rw [p1_2, p2_2, if_neg (by omega)]
      · rw [p1_2, p2_2, if_neg (by omega)]; rfl
      · funext q
        rw [p1_2, p1_2, p2_2, p2_2]
        by_cases e : q = i.toNat
        · rw [if_pos ⟨rfl, e⟩, if_pos ⟨rfl, e⟩]
        · rw [if_neg (by omega), if_neg (by omega)]; exact congrFun h.2.1.2.1 q
      · refine Rh_cg h.2.2 (fun a q g9 => ?_) (fun a q g9 => ?_) rfl (fun a q g9 => ?_) (hI.1 10 1).2
        · rw [p1_1, if_neg (by omega)]; rfl
        · rw [p1_2, p2_2, if_neg (by omega)]
        · rw [p1_2, p2_2, if_neg (by omega)]; rfl
    · exact absurd (by rw [← hz]; exact g) q
theorem rs_at (h : Rr σ τ) (hM : m_I τ) (hy : y_at σ i k v σ1) (hu : u_at τ i r τ1) : Rr σ1 τ1 ∧ τ1.1 0 0 = k ∧ (0 ≤ k ∧ k ≤ 2) ∧ (k = 0 → v = r) ∧ -2147483648 ≤ r ∧ r ≤ 2147483647 := by
  have hz := h.2.1.1
  rcases hy with ⟨g, rfl, rfl⟩ | ⟨g, rfl, hv, rfl⟩
  · rcases hu with ⟨q, -⟩ | ⟨-, rfl, rfl⟩
    · exact absurd (by rw [hz]; exact q) g
    · exact ⟨Rr_0 h 1, rfl, by decide, fun e => absurd e (by decide), by decide⟩
  · rcases hu with ⟨-, rfl, rfl⟩ | ⟨q, -⟩
    · have h7 : -128 ≤ τ.2 7 i.toNat ∧ τ.2 7 i.toNat ≤ 127 := hM.2.1 7 _
      exact ⟨Rr_0 h 0, rfl, by decide, fun _ => by rw [hv]; exact congrFun h.2.1.2.1 _, by omega⟩
    · exact absurd (by rw [← hz]; exact g) q
theorem rs_length (h : Rr σ τ) (hM : m_I τ) (hy : y_length σ n k v σ1) (hu : u_length τ n r τ1) : Rr σ1 τ1 ∧ τ1.1 0 0 = k ∧ (0 ≤ k ∧ k ≤ 2) ∧ (k = 0 → v = r) ∧ -2147483648 ≤ r ∧ r ≤ 2147483647 := by
  rcases hy with ⟨g, rfl, rfl⟩ | ⟨g, rfl, hv, rfl⟩
  · rcases hu with ⟨q, -⟩ | ⟨-, rfl, rfl⟩
    · exact absurd q g
    · exact ⟨Rr_0 h 1, rfl, by decide, fun e => absurd e (by decide), by decide⟩
  · have hs := Rs_has h g
    have h5 : 0 ≤ τ.2 5 n.toNat ∧ τ.2 5 n.toNat ≤ 120 := hM.2.1 5 _
    rcases hu with ⟨-, hu, rfl⟩ | ⟨q, -⟩
    · rcases hu with ⟨e, rfl⟩ | ⟨e, rfl⟩
      · refine ⟨Rr_0 h 0, rfl, by decide, fun _ => ?_, by omega⟩
        have e1 := hs.trans e
        rw [hv, if_pos e1]
        exact ((h.1 n.toNat (by omega) (by omega)).2.2.2 e1).2.1
      · refine ⟨Rr_0 h 0, rfl, by decide, fun _ => ?_, by decide⟩
        rw [hv, if_neg (by omega)]
    · exact absurd g q
theorem rs_byteOf (h : Rr σ τ) (hM : m_I τ) (hy : y_byteOf σ n i k v σ1) (hu : u_byteOf τ n i r τ1) : Rr σ1 τ1 ∧ τ1.1 0 0 = k ∧ (0 ≤ k ∧ k ≤ 2) ∧ (k = 0 → v = r) ∧ -2147483648 ≤ r ∧ r ≤ 2147483647 := by
  rcases hy with ⟨g, rfl, rfl⟩ | ⟨g, rfl, hv, rfl⟩
  · rcases hu with ⟨q, -⟩ | ⟨-, rfl, rfl⟩
    · exact absurd ((R_isB h).mpr q) g
    · exact ⟨Rr_0 h 1, rfl, by decide, fun e => absurd e (by decide), by decide⟩
  · rcases hu with ⟨q, rfl, rfl⟩ | ⟨q, -⟩
    · have h6 : -128 ≤ τ.2 6 (120 * n + i).toNat ∧ τ.2 6 (120 * n + i).toNat ≤ 127 := hM.2.1 6 _
      exact ⟨Rr_0 h 0, rfl, by decide, fun _ => by rw [hv]; exact R_byte h q, by omega⟩
    · exact absurd ((R_isB h).mp g) q
theorem rs_size (h : Rr σ τ) (hM : m_I τ) (hy : y_size σ i k v σ1) (hu : u_size τ i r τ1) : Rr σ1 τ1 ∧ τ1.1 0 0 = k ∧ (0 ≤ k ∧ k ≤ 2) ∧ (k = 0 → v = r) ∧ -2147483648 ≤ r ∧ r ≤ 2147483647 := by
  have hz := h.2.2.1
  rcases hy with ⟨g, rfl, rfl⟩ | ⟨g, rfl, hv, rfl⟩
  · rcases hu with ⟨q, -⟩ | ⟨-, rfl, rfl⟩
    · exact absurd (by rw [hz]; exact q) g
    · exact ⟨Rr_0 h 1, rfl, by decide, fun e => absurd e (by decide), by decide⟩
  · rcases hu with ⟨-, rfl, rfl⟩ | ⟨q, -⟩
    · have h8 : 0 ≤ τ.2 8 i.toNat ∧ τ.2 8 i.toNat ≤ 12000 := hM.2.1 8 _
      exact ⟨Rr_0 h 0, rfl, by decide, fun _ => by rw [hv]; exact (h.2.2.2 i.toNat (by omega)).1, by omega⟩
    · exact absurd (by rw [← hz]; exact g) q
theorem rs_place (h : Rr σ τ) (hM : m_I τ) (hy : y_place σ i n k v σ1) (hu : u_place τ i n r τ1) : Rr σ1 τ1 ∧ τ1.1 0 0 = k ∧ (0 ≤ k ∧ k ≤ 2) ∧ (k = 0 → v = r) ∧ -2147483648 ≤ r ∧ r ≤ 2147483647 := by
  have hz := h.2.2.1
  rcases hy with ⟨g, rfl, rfl⟩ | ⟨g, rfl, hv, rfl⟩
  · rcases hu with ⟨q, -⟩ | ⟨-, rfl, rfl⟩
    · exact absurd (by rw [hz]; exact q) g
    · exact ⟨Rr_0 h 1, rfl, by decide, fun e => absurd e (by decide), by decide⟩
  · rcases hu with ⟨-, rfl, rfl⟩ | ⟨q, -⟩
    · have h8 : -1 ≤ τ.2 10 (41 * i + n).toNat ∧ τ.2 10 (41 * i + n).toNat ≤ 99999 := hM.2.1 10 _
      refine ⟨Rr_0 h 0, rfl, by decide, fun _ => ?_, by omega⟩
      rw [hv, (h.2.2.2 i.toNat (by omega)).2.2 n.toNat (by omega) (by omega), show (41 * i + n).toNat = 41 * i.toNat + n.toNat by omega]
    · exact absurd (by rw [← hz]; exact g) q
theorem rs_differ (h : Rr σ τ) (hI : x_I σ) (hy : y_differ σ b c k v σ1) (hu : u_differ τ b c r τ1) : Rr σ1 τ1 ∧ τ1.1 0 0 = k ∧ 0 ≤ k ∧ k ≤ 2 := by
  have hz := h.2.2.1
  rcases hy with ⟨g, rfl, rfl⟩ | ⟨g, rfl, hf, -⟩
  · rcases hu with ⟨-, rfl, rfl⟩ | ⟨q, -⟩
    · exact ⟨Rr_0 h 1, rfl, by decide, by decide⟩
    · exact absurd (by rw [hz]; exact q) g
  · rcases hu with ⟨q, -⟩ | ⟨-, hd, h0, -⟩
    · exact absurd (by rw [← hz]; exact g) q
    · refine ⟨⟨Rs_cg h.1 (fun a q g9 => by rw [hf.1 a (by omega) (by omega)]) (fun a q g9 => hd.1 a q (by omega) (by omega)), ⟨by rw [hf.2.1 8 1 (by omega), hd.2 0 7 (by omega)]; exact h.2.1.1, ?_, by rw [hf.2.1 8 2 (by omega), hd.2 0 9 (by omega)]; exact h.2.1.2.2⟩, ?_⟩, h0, by decide, by decide⟩
      · funext q
        rw [hf.1 9 (by omega) (by omega), hd.1 7 q (by omega) (by omega)]
        exact congrFun h.2.1.2.1 q
      · exact Rh_cg h.2.2 (fun a q g9 => hf.2.1 a q (by omega)) (fun a q g9 => by rw [hf.1 a (by omega) (by omega)]) (hd.2 0 10 (by omega)) (fun a q g9 => hd.1 a q (by omega) (by omega)) (hI.1 10 1).2
theorem rs_row (h : Rr σ τ) (hy : y_row σ i w k v σ1) (hu : u_row τ i w r τ1) : Rr σ1 τ1 := by
  have e : σ1 = σ := by rcases hy with ⟨-, -, e⟩ | ⟨-, -, -, e⟩ <;> exact e
  rw [e]
  rcases hu with ⟨-, -, rfl⟩ | ⟨-, -, rfl⟩ <;> exact Rr_0 h _
theorem m_cnt_eq {f g : Nat → Int} : ∀ k : Nat, (∀ i, 1 ≤ i → i ≤ k → f i = g i) → m_cnt f k = m_cnt g k := by
  intro k
  induction k with
  | zero => intro _; rfl
  | succ k ih =>
    intro h
    show m_cnt f k + (if f (k + 1) = 1 then 1 else 0) = m_cnt g k + (if g (k + 1) = 1 then 1 else 0)
    rw [ih (fun i h1 h2 => h i h1 (by omega)), h (k + 1) (by omega) (by omega)]
theorem rs_told (h : Rr σ τ) (hM : m_I τ) (hy : v = (if w = 0 then σ.1 8 1 else if w = 1 then σ.1 10 1 else if w = 2 then m_cnt (σ.2 2) 40 else if w = 3 then m_cnt (x_ch σ) 40 else if w = 4 then σ.1 8 2 else -1)) (hu : u_told τ w r τ1) : Rr σ τ1 ∧ v = r ∧ -2147483648 ≤ v ∧ v ≤ 2147483647 := by
  obtain ⟨rfl, hu⟩ := hu
  have e1 : m_cnt (σ.2 2) 40 = m_cnt (τ.2 1) 40 := m_cnt_eq 40 (fun i h1 h2 => (h.1 i h1 h2).1)
  have e2 : m_cnt (x_ch σ) 40 = m_cnt (τ.2 3) 40 := m_cnt_eq 40 (fun i h1 h2 => (h.1 i h1 h2).2.1)
  have c1 := m_cnt_le (τ.2 1) 40
  have c2 := m_cnt_le (τ.2 3) 40
  have z7 : 0 ≤ τ.1 0 7 ∧ τ.1 0 7 ≤ 12000 := hM.1 7
  have z9 : 0 ≤ τ.1 0 9 ∧ τ.1 0 9 ≤ 1 := hM.1 9
  have z10 : 0 ≤ τ.1 0 10 ∧ τ.1 0 10 ≤ 60 := hM.1 10
  rw [h.2.1.1, h.2.2.1, h.2.1.2.2, e1, e2] at hy
  refine ⟨Rr_0 h 0, ?_⟩
  rcases hu with ⟨hw, rfl⟩ | ⟨hw, rfl⟩ | ⟨hw, rfl⟩ | ⟨hw, rfl⟩ | ⟨hw, rfl⟩ | ⟨hw, rfl⟩
  · subst hw; rw [if_pos rfl] at hy; exact ⟨hy, by omega⟩
  · subst hw; rw [if_neg (by decide), if_pos rfl] at hy; exact ⟨hy, by omega⟩
  · subst hw; rw [if_neg (by decide), if_neg (by decide), if_pos rfl] at hy; exact ⟨hy, by omega⟩
  · subst hw; rw [if_neg (by decide), if_neg (by decide), if_neg (by decide), if_pos rfl] at hy; exact ⟨hy, by omega⟩
  · subst hw; rw [if_neg (by decide), if_neg (by decide), if_neg (by decide), if_neg (by decide), if_pos rfl] at hy; exact ⟨hy, by omega⟩
  · rw [if_neg (by omega), if_neg (by omega), if_neg (by omega), if_neg (by omega), if_neg (by omega)] at hy; exact ⟨hy, by omega⟩
end R3
