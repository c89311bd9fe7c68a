/-! the short steps -/
section R2
variable {σ σ1 τ τ1 : fS} {k v r n i m b c w : Int}
theorem x_bring_2 (σ : fS) (n m : Int) (a q : Nat) : (x_bring σ n m).2 a q = if a = 5 then (if n * 120 ≤ (q : Int) ∧ (q : Int) < n * 120 + m then 0 else σ.2 5 q) else if a = 4 ∧ q = n.toNat then m else if a = 6 ∧ q = n.toNat then 1 else if a = 3 ∧ q = n.toNat then 0 else if a = 2 ∧ q = n.toNat then 1 else σ.2 a q := by
  unfold x_bring x_fill
  rw [pa_2]
  by_cases g : a = 5
  · subst g
    have e : (f_p2 (f_p2 (f_p2 (f_p2 σ 2 n.toNat 1) 3 n.toNat 0) 6 n.toNat 1) 4 n.toNat m).2 5 q = σ.2 5 q := by
      rw [p2_2, if_neg (by omega), p2_2, if_neg (by omega), p2_2, if_neg (by omega), p2_2, if_neg (by omega)]
    rw [if_pos rfl, if_pos rfl, e]
  · rw [if_neg g, if_neg g, p2_2, p2_2, p2_2, p2_2]
theorem m_bring_2 (τ : fS) (n m : Int) (a q : Nat) : (m_zero (m_bring τ n m) n 120).2 a q = if a = 6 ∧ (120 * n).toNat ≤ q ∧ q < (120 * n).toNat + 120 then 0 else if a = 5 ∧ q = n.toNat then m else if a = 3 ∧ q = n.toNat then 1 else if a = 2 ∧ q = n.toNat then 0 else if a = 1 ∧ q = n.toNat then 1 else τ.2 a q := by
  show (if a = 6 ∧ (120 * n).toNat ≤ q ∧ q < (120 * n).toNat + 120 then 0 else (m_bring τ n m).2 a q) = _
  unfold m_bring
  rw [p2_2, p2_2, p2_2, p2_2]
  rfl
theorem rs_object (h : Rr σ τ) (hI : x_I σ) (hy : y_object σ n m k v σ1) (hu : u_object τ n m τ1) : Rr σ1 τ1 ∧ τ1.1 0 0 = k ∧ 0 ≤ k ∧ k ≤ 2 := by
  rcases hy with ⟨g1, rfl, rfl⟩ | ⟨g1, g2, rfl, rfl⟩ | ⟨g1, g2, rfl, rfl⟩
  · rcases hu with ⟨-, rfl⟩ | ⟨q1, -, -⟩ | ⟨q1, -, -⟩
    · exact ⟨Rr_0 h 1, rfl, by decide, by decide⟩
    · exact absurd q1 g1
    · exact absurd q1 g1
  · rcases hu with ⟨q1, -⟩ | ⟨-, -, rfl⟩ | ⟨-, q2, -⟩
    · exact absurd g1 q1
    · exact ⟨Rr_0 h 2, rfl, by decide, by decide⟩
    · exact absurd q2 g2
  · rcases hu with ⟨q1, -⟩ | ⟨-, q2, -⟩ | ⟨-, -, rfl⟩
    · exact absurd g1 q1
    · exact absurd g2 q2
    · refine ⟨⟨fun j j1 j40 => ?_, ⟨h.2.1.1, ?_, h.2.1.2.2⟩, ?_⟩, rfl, by decide, by decide⟩
      · obtain ⟨e1, e2, e3, e4⟩ := h.1 j j1 j40
        have b2 : (x_bring σ n m).2 2 j = if j = n.toNat then 1 else σ.2 2 j := by rw [x_bring_2]; simp
        have b3 : (x_bring σ n m).2 3 j = if j = n.toNat then 0 else σ.2 3 j := by rw [x_bring_2]; simp
        have b4 : (x_bring σ n m).2 4 j = if j = n.toNat then m else σ.2 4 j := by rw [x_bring_2]; simp
        have b6 : (x_bring σ n m).2 6 j = if j = n.toNat then 1 else σ.2 6 j := by rw [x_bring_2]; simp
        have b7 : (x_bring σ n m).2 7 j = σ.2 7 j := by rw [x_bring_2]; simp
        have b5 : ∀ q, (x_bring σ n m).2 5 q = if n * 120 ≤ (q : Int) ∧ (q : Int) < n * 120 + m then 0 else σ.2 5 q := fun q => by rw [x_bring_2, if_pos rfl]
        have d1 : (m_zero (m_bring τ n m) n 120).2 1 j = if j = n.toNat then 1 else τ.2 1 j := by rw [m_bring_2]; simp
        have d2 : (m_zero (m_bring τ n m) n 120).2 2 j = if j = n.toNat then 0 else τ.2 2 j := by rw [m_bring_2]; simp
        have d3 : (m_zero (m_bring τ n m) n 120).2 3 j = if j = n.toNat then 1 else τ.2 3 j := by rw [m_bring_2]; simp
        have d4 : (m_zero (m_bring τ n m) n 120).2 4 j = τ.2 4 j := by rw [m_bring_2]; simp
        have d5 : (m_zero (m_bring τ n m) n 120).2 5 j = if j = n.toNat then m else τ.2 5 j := by rw [m_bring_2]; simp
        have d6 : ∀ q, (m_zero (m_bring τ n m) n 120).2 6 q = if (120 * n).toNat ≤ q ∧ q < (120 * n).toNat + 120 then 0 else τ.2 6 q := fun q => by rw [m_bring_2]; simp
        have hl : 0 ≤ σ.2 4 j ∧ σ.2 4 j ≤ 120 := hI.2 4 j
        by_cases gj : j = n.toNat
        · rw [if_pos gj] at b2 b3 b4 b6 d1 d2 d3 d5
          refine ⟨by rw [b2, d1], by unfold x_ch; rw [b2, if_pos rfl, b6, d3], by rw [b7, d4]; exact e3, fun _ => ⟨by rw [b3, d2], by rw [b4, d5], fun i hi => ?_⟩⟩
          rw [b4] at hi
          rw [b5, d6, if_pos (by omega), if_pos (by omega)]
        · rw [if_neg gj] at b2 b3 b4 b6 d1 d2 d3 d5
          refine ⟨by rw [b2, d1]; exact e1, ?_, by rw [b7, d4]; exact e3, fun g => ?_⟩
          · unfold x_ch
            rw [b2, b6, b7, d3]
            exact e2
          · rw [b2] at g
            obtain ⟨f1, f2, f3⟩ := e4 g
            refine ⟨by rw [b3, d2]; exact f1, by rw [b4, d5]; exact f2, fun i hi => ?_⟩
            rw [b4] at hi
            rw [b5, d6, if_neg (by omega), if_neg (by omega)]
            exact f3 i hi
      · funext q
        rw [x_bring_2, m_bring_2]
        simp only [show ¬ (9 = 5) by decide, show ¬ (9 = 4) by decide, show ¬ (9 = 6) by decide, show ¬ (9 = 3) by decide, show ¬ (9 = 2) by decide, show ¬ (7 = 6) by decide, show ¬ (7 = 5) by decide, show ¬ (7 = 3) by decide, show ¬ (7 = 2) by decide, show ¬ (7 = 1) by decide, false_and, if_false]
        exact congrFun h.2.1.2.1 q
      · refine Rh_cg h.2.2 (fun _ _ _ => rfl) (fun a q g => ?_) rfl (fun a q g => ?_) (hI.1 10 1).2
        · rw [x_bring_2, if_neg (by omega), if_neg (by omega), if_neg (by omega), if_neg (by omega), if_neg (by omega)]
        · rw [m_bring_2, if_neg (by omega), if_neg (by omega), if_neg (by omega), if_neg (by omega), if_neg (by omega)]
theorem Rs_has (h : Rr σ τ) (hn : 1 ≤ n ∧ n ≤ 40) : σ.2 2 n.toNat = τ.2 1 n.toNat := (h.1 n.toNat (by omega) (by omega)).1
theorem R_isB (h : Rr σ τ) : (((1 ≤ n ∧ n ≤ 40) ∧ σ.2 2 n.toNat = 1) ∧ 0 ≤ i ∧ i < σ.2 4 n.toNat) ↔ m_isB τ n i := by
  unfold m_isB
  constructor
  · rintro ⟨⟨g1, g2⟩, g3, g4⟩
    obtain ⟨e1, -, -, e4⟩ := h.1 n.toNat (by omega) (by omega)
    exact ⟨⟨g1, by rw [← e1]; exact g2⟩, g3, by rw [← (e4 g2).2.1]; exact g4⟩
  · rintro ⟨⟨g1, g2⟩, g3, g4⟩
    obtain ⟨e1, -, -, e4⟩ := h.1 n.toNat (by omega) (by omega)
    have g5 : σ.2 2 n.toNat = 1 := by rw [e1]; exact g2
    exact ⟨⟨g1, g5⟩, g3, by rw [(e4 g5).2.1]; exact g4⟩
theorem R_byte (h : Rr σ τ) (hb : m_isB τ n i) : σ.2 5 (n * 120 + i).toNat = τ.2 6 (120 * n + i).toNat := by
  obtain ⟨⟨g1, g2⟩, g3, g4⟩ := (R_isB h).mpr hb
  have := ((h.1 n.toNat (by omega) (by omega)).2.2.2 g2).2.2 i.toNat (by omega)
  rw [show (n * 120 + i).toNat = 120 * n.toNat + i.toNat by omega, show (120 * n + i).toNat = 120 * n.toNat + i.toNat by omega]
  exact this
theorem rs_octet (h : Rr σ τ) (hI : x_I σ) (hM : m_I τ) (hb : -128 ≤ b ∧ b ≤ 127) (hy : y_octet σ n i b k v σ1) (hu : u_octet τ n i b r τ1) : Rr σ1 τ1 ∧ τ1.1 0 0 = k ∧ (0 ≤ k ∧ k ≤ 2) ∧ (k = 0 → v = r) ∧ -2147483648 ≤ r ∧ r ≤ 2147483647 := by
  rcases hy with ⟨g, rfl, rfl⟩ | ⟨g, rfl, hv, rfl⟩
  · rcases hu with ⟨q, -⟩ | ⟨-, rfl, rfl⟩
    · exact absurd ((R_isB h).mpr q) g
    · exact ⟨Rr_0 h 1, rfl, by decide, fun e => absurd e (by decide), by decide⟩
  · have gB := (R_isB h).mp g
    have hbt := R_byte h gB
    obtain ⟨⟨g1, g2⟩, g3, g4⟩ := g
    have h6 : -128 ≤ τ.2 6 (120 * n + i).toNat ∧ τ.2 6 (120 * n + i).toNat ≤ 127 := hM.2.1 6 _
    rcases hu with ⟨-, hr, hu⟩ | ⟨q, -⟩
    · have hch : x_ch σ n.toNat = τ.2 3 n.toNat := (h.1 n.toNat (by omega) (by omega)).2.1
      have hch2 : x_ch σ n.toNat = σ.2 6 n.toNat := by unfold x_ch; rw [if_pos g2]
      have hx2 : ∀ a q, (x_exch σ n i b).2 a q = if a = 5 ∧ q = (n * 120 + i).toNat then b else if a = 6 ∧ q = n.toNat ∧ σ.2 5 (n * 120 + i).toNat ≠ b then 1 else σ.2 a q := fun a q => by
        unfold x_exch
        by_cases e : σ.2 5 (n * 120 + i).toNat = b
        · rw [if_pos e, p2_2]
          by_cases e2 : a = 5 ∧ q = (n * 120 + i).toNat
          · rw [if_pos e2, if_pos e2]
          · rw [if_neg e2, if_neg e2, if_neg (fun g => g.2.2 e)]
        · rw [if_neg e, p2_2, p2_2]
          by_cases e2 : a = 5 ∧ q = (n * 120 + i).toNat
          · rw [if_neg (by omega), if_pos e2, if_pos e2]
          · rw [if_neg e2, if_neg e2]
            by_cases e3 : a = 6 ∧ q = n.toNat
            · rw [if_pos e3, if_pos ⟨e3.1, e3.2, e⟩]
            · rw [if_neg e3, if_neg (fun g => e3 ⟨g.1, g.2.1⟩)]
      have hx1 : (x_exch σ n i b).1 = σ.1 := by unfold x_exch; split <;> rfl
      obtain ⟨c3, hc3, ht, hch3⟩ : ∃ c3 : Int, c3 = (if τ.2 3 n.toNat = 1 ∨ τ.2 6 (120 * n + i).toNat ≠ b then 1 else 0) ∧ τ1 = f_p2 (f_p2 (f_p1 τ 0 0 0) 6 (120 * n + i).toNat b) 3 n.toNat c3 ∧ c3 = if σ.2 5 (n * 120 + i).toNat ≠ b then 1 else σ.2 6 n.toNat := by
        have h3 : 0 ≤ τ.2 3 n.toNat ∧ τ.2 3 n.toNat ≤ 1 := hM.2.1 3 _
        rcases hu with ⟨hu, e⟩ | ⟨hu, e⟩
        · refine ⟨1, by rw [if_pos hu], e, ?_⟩
          split
          · rfl
          · omega
        · refine ⟨0, by rw [if_neg (by omega)], e, ?_⟩
          rw [if_neg (by omega)]
          omega
      have ht2 : ∀ a q, τ1.2 a q = if a = 3 ∧ q = n.toNat then c3 else if a = 6 ∧ q = (120 * n + i).toNat then b else τ.2 a q := fun a q => by rw [ht, p2_2, p2_2]; rfl
      have ht1 : τ1.1 = (f_p1 τ 0 0 0).1 := by rw [ht]; rfl
      refine ⟨⟨fun j j1 j40 => ?_, ⟨by rw [hx1, ht1]; exact h.2.1.1, ?_, by rw [hx1, ht1]; exact h.2.1.2.2⟩, ?_⟩, by rw [ht1]; rfl, by decide, fun _ => by rw [hv, hr]; exact hbt, by omega⟩
      · obtain ⟨e1, e2, e3, e4⟩ := h.1 j j1 j40
        have x2 : (x_exch σ n i b).2 2 j = σ.2 2 j := by rw [hx2, if_neg (by omega), if_neg (by omega)]
        have x3 : (x_exch σ n i b).2 3 j = σ.2 3 j := by rw [hx2, if_neg (by omega), if_neg (by omega)]
        have x4 : (x_exch σ n i b).2 4 j = σ.2 4 j := by rw [hx2, if_neg (by omega), if_neg (by omega)]
        have x7 : (x_exch σ n i b).2 7 j = σ.2 7 j := by rw [hx2, if_neg (by omega), if_neg (by omega)]
        have t1 : τ1.2 1 j = τ.2 1 j := by rw [ht2, if_neg (by omega), if_neg (by omega)]
        have t2 : τ1.2 2 j = τ.2 2 j := by rw [ht2, if_neg (by omega), if_neg (by omega)]
        have t4 : τ1.2 4 j = τ.2 4 j := by rw [ht2, if_neg (by omega), if_neg (by omega)]
        have t5 : τ1.2 5 j = τ.2 5 j := by rw [ht2, if_neg (by omega), if_neg (by omega)]
        refine ⟨by rw [x2, t1]; exact e1, ?_, by rw [x7, t4]; exact e3, fun g => ?_⟩
        · unfold x_ch
          rw [x2, x7]
          by_cases gj : j = n.toNat
          · subst gj
            rw [if_pos g2, ht2, if_pos ⟨rfl, rfl⟩, hx2, if_neg (by omega), hch3]
            by_cases e : σ.2 5 (n * 120 + i).toNat ≠ b
            · rw [if_pos ⟨rfl, rfl, e⟩, if_pos e]
            · rw [if_neg (fun g => e g.2.2), if_neg e]
          · have x6 : (x_exch σ n i b).2 6 j = σ.2 6 j := by rw [hx2, if_neg (by omega), if_neg (by omega)]
            have t3 : τ1.2 3 j = τ.2 3 j := by rw [ht2, if_neg (by omega), if_neg (by omega)]
            rw [x6, t3]
            exact e2
        · rw [x2] at g
          obtain ⟨f1, f2, f3⟩ := e4 g
          refine ⟨by rw [x3, t2]; exact f1, by rw [x4, t5]; exact f2, fun q hq => ?_⟩
          rw [x4] at hq
          have := f3 q hq
          have hl : 0 ≤ σ.2 4 j ∧ σ.2 4 j ≤ 120 := hI.2 4 j
          have hl2 : 0 ≤ σ.2 4 n.toNat ∧ σ.2 4 n.toNat ≤ 120 := hI.2 4 n.toNat
          rw [hx2, ht2]
          by_cases e : 120 * j + q = (n * 120 + i).toNat
          · rw [if_pos ⟨rfl, e⟩, if_neg (by omega), if_pos ⟨rfl, by omega⟩]
          · rw [if_neg (by omega), if_neg (by omega), if_neg (by omega), if_neg (by omega)]
            exact this
      · funext q
        rw [hx2, ht2, if_neg (by omega), if_neg (by omega), if_neg (by omega), if_neg (by omega)]
        exact congrFun h.2.1.2.1 q
      · refine Rh_cg h.2.2 (fun _ _ _ => by rw [hx1]) (fun a q g => ?_) (by rw [ht1]; rfl) (fun a q g => ?_) (hI.1 10 1).2
        · rw [hx2, if_neg (by omega), if_neg (by omega)]
        · rw [ht2, if_neg (by omega), if_neg (by omega)]
    · exact absurd gB q
end R2
