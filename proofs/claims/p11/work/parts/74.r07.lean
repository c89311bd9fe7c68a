/-! a part is kept by both -/
theorem m_puts_7c : ∀ (L : List Int) (t : fS), t.1 0 17 = 1 → ∀ i, (m_puts t L).2 7 i = t.2 7 i := by
  intro L
  induction L with
  | nil => intro t _ i; rfl
  | cons x r ih =>
    intro t h i
    have e : m_puts t (x :: r) = m_puts (m_put t x) r := rfl
    rw [e, ih (m_put t x) (by rw [m_put_1, if_neg (by decide)]; exact h), m_put_2, if_neg (by omega)]
theorem m_recs_7c : ∀ (l : List Int) (t : fS), t.1 0 17 = 1 → ∀ i, (m_recs t l).2 7 i = t.2 7 i := by
  intro l
  induction l with
  | nil => intro t _ i; rfl
  | cons n r ih =>
    intro t h i
    have e : m_recs t (n :: r) = m_recs (m_puts (m_r0 t n) (m_rec t n)) r := rfl
    rw [e, ih _ (by rw [m_one_1, if_neg (by decide)]; exact h), m_puts_7c _ (m_r0 t n) h]
    unfold m_r0
    rw [p2_2, if_neg (by omega), p2_2, if_neg (by omega)]
theorem m_part_7c (t : fS) (a w how : Int) (h : t.1 0 17 = 1) (i : Nat) : (m_part t a w how).2 7 i = t.2 7 i := by
  have h1 : (m_puts (f_p1 t 0 16 a) (if w = 1 then [37, 70, 49, 10] else [])).1 0 17 = 1 := by rw [m_puts_cnt]; exact h
  have h2 : (m_body t a w how).1 0 17 = 1 := by
    show (m_recs _ _).1 0 17 = 1
    rw [m_recs_cnt]; exact h1
  unfold m_part
  rw [p1_2, m_puts_7c _ _ h2]
  show (m_recs _ _).2 7 i = _
  rw [m_recs_7c _ _ h1, m_puts_7c _ (f_p1 t 0 16 a) h]
  rfl
theorem x_kept_2 (K : fS) (c a b : Nat) (h : a ≠ 6 ∧ a ≠ 7 ∧ a ≠ 9 ∧ a ≠ 12 + 3 * c + 1 ∧ a ≠ 12 + 3 * c + 2) : (x_kept K c).2 a b = K.2 a b := by
  show (if 1 ≤ b ∧ b < 41 then (if a = 6 then 0 else if a = 7 then (x_ad _ 377 c).2 2 b else (x_ad _ 377 c).2 a b) else (x_ad _ 377 c).2 a b) = _
  rw [if_neg h.1, if_neg h.2.1, ite_self, x_ad_o _ _ _ _ _ ⟨h.2.2.2.1, h.2.2.2.2⟩]
  show (x_behind K _ _).2 a b = _
  exact x_behind_2 _ _ _ _ _ h.2.2.1
theorem x_kept_9 (K : fS) (c i : Nat) : (x_kept K c).2 9 i = if (K.1 374 5).toNat ≤ i ∧ i < (K.1 374 5).toNat + (K.1 374 6).toNat then K.2 375 (i - (K.1 374 5).toNat) else K.2 9 i := by
  have e0 : (x_kept K c).2 9 i = (x_ad (f_p1 (x_behind K (K.1 374 5) (K.1 374 6)) 8 2 0) 377 c).2 9 i := by
    show (if 1 ≤ i ∧ i < 41 then (x_ad _ 377 c).2 9 i else (x_ad _ 377 c).2 9 i) = _
    rw [ite_self]
  rw [e0, x_ad_o _ _ _ _ _ (by omega)]
  show (if (K.1 374 5).toNat ≤ i ∧ i < (K.1 374 5).toNat + (K.1 374 6).toNat then K.2 375 ((0 : Int).toNat + (i - (K.1 374 5).toNat)) else K.2 9 i) = _
  by_cases g : (K.1 374 5).toNat ≤ i ∧ i < (K.1 374 5).toNat + (K.1 374 6).toNat
  · rw [if_pos g, if_pos g, show (0 : Int).toNat + (i - (K.1 374 5).toNat) = i - (K.1 374 5).toNat by simp]
  · rw [if_neg g, if_neg g]
theorem x_kept_sv (K : fS) (c b : Nat) (h : 1 ≤ b ∧ b < 41) : (x_kept K c).2 6 b = 0 ∧ (x_kept K c).2 7 b = K.2 2 b := by
  refine ⟨?_, ?_⟩
  · show (if 1 ≤ b ∧ b < 41 then (if 6 = 6 then 0 else _) else _) = _
    rw [if_pos h, if_pos rfl]
  · show (if 1 ≤ b ∧ b < 41 then (if 7 = 6 then 0 else if 7 = 7 then (x_ad _ 377 c).2 2 b else _) else _) = _
    rw [if_pos h, if_neg (by decide), if_pos rfl, x_ad_o _ _ _ _ _ (by omega)]
    exact x_behind_2 K (K.1 374 5) (K.1 374 6) 2 b (by decide)
theorem x_kept_pl (K : fS) (c b : Nat) (h : 1 ≤ b ∧ b < 41) : (x_kept K c).2 (12 + 3 * c + 1) b = if K.2 378 b ≠ -2 then K.2 378 b else if c = 0 then -1 else K.2 (12 + 3 * (c - 1) + 1) b := by
  obtain ⟨S, hS⟩ : ∃ s, s = f_p1 (x_behind K (K.1 374 5) (K.1 374 6)) 8 2 0 := ⟨_, rfl⟩
  have s2 : ∀ a q, a ≠ 9 → S.2 a q = K.2 a q := fun a q g => by rw [hS]; exact x_behind_2 _ _ _ _ _ g
  have e0 : (x_kept K c).2 (12 + 3 * c + 1) b = (x_layk (x_adr S c) (12 + 3 * c) 377 41).2 (12 + 3 * c + 1) b := by
    show (if 1 ≤ b ∧ b < 41 then (if 12 + 3 * c + 1 = 6 then 0 else if 12 + 3 * c + 1 = 7 then (x_ad _ 377 c).2 2 b else (x_ad _ 377 c).2 (12 + 3 * c + 1) b) else (x_ad _ 377 c).2 (12 + 3 * c + 1) b) = _
    rw [if_pos h, if_neg (by omega), if_neg (by omega), ← hS]
    rfl
  have e378 : (x_adr S c).2 378 b = K.2 378 b ∨ 60 ≤ c := by
    by_cases g : c < 60
    · left; rw [x_adr_o _ _ _ _ (by omega), s2 378 b (by decide)]
    · right; omega
  have e1 : (x_adr S c).2 (12 + 3 * c + 1) b = if c = 0 then -1 else K.2 (12 + 3 * (c - 1) + 1) b := by
    unfold x_adr
    by_cases g : c = 0
    · subst g
      rw [if_pos rfl, if_pos rfl]
      exact x_reset_p _ 12 _ b h.2
    · rw [if_neg g, if_neg g]
      unfold x_copy
      rw [pa_2, if_neg (by omega), pa_2, if_pos rfl, if_pos ⟨by simp, by simpa using h.2⟩, s2 _ _ (by omega)]
      simp
  rw [e0]
  show (if (1 ≤ b ∧ b < 41) ∧ (x_adr S c).2 (377 + 1) b ≠ -2 then (if 12 + 3 * c + 1 = 12 + 3 * c + 1 then (x_adr S c).2 (377 + 1) b else _) else (x_adr S c).2 (12 + 3 * c + 1) b) = _
  have e378 : (x_adr S c).2 378 b = K.2 378 b := by
    unfold x_adr
    split
    · rw [x_reset_o _ _ _ _ _ (by omega), s2 378 b (by decide)]
    · rename_i g
      by_cases g2 : 378 = 12 + 3 * c + 1 ∨ 378 = 12 + 3 * c + 2
      · omega
      · rw [x_copy_o _ _ _ _ _ (by omega), s2 378 b (by decide)]
  rw [if_pos rfl, e378, e1]
  by_cases g : K.2 378 b ≠ -2
  · rw [if_pos ⟨h, g⟩, if_pos g]
  · rw [if_neg (fun q => g q.2), if_neg g]
theorem R_keep {K P t : fS} {w a : Int} {c : Nat} {TL : List Int} (h60 : c < 60) (ha : 0 ≤ a) (hD : Dr K TL) (hM : Mr t a P TL) (hc0 : P.1 0 17 = 0) (hb : K.1 374 5 = a) (hf : K.2 9 = t.2 7)
    (he : K.1 377 3 = P.1 0 16) (hx : K.1 377 2 = P.1 0 26) (hw : w = 0 ∨ w = 1) (hwc : w = 1 → c = 0) (hw0 : w = 0 → 1 ≤ c)
    (hrow : ∀ n : Nat, 1 ≤ n → n ≤ 40 → (m_mv P w n = 1 ∧ K.2 378 n = if P.2 1 n = 1 then P.2 13 n else -1) ∨ (m_mv P w n = 0 ∧ K.2 378 n = -2)) (hp13 : ∀ i, 0 ≤ P.2 13 i)
    (hS : ∀ n : Nat, 1 ≤ n → n ≤ 40 → K.2 2 n = P.2 1 n ∧ (K.2 2 n = 1 → K.2 3 n = P.2 2 n ∧ K.2 4 n = P.2 5 n ∧ ∀ i : Nat, (i : Int) < K.2 4 n → K.2 5 (120 * n + i) = P.2 6 (120 * n + i))) (h2 : ∀ i, 0 ≤ K.2 2 i ∧ K.2 2 i ≤ 1)
    (hH : ∀ r : Nat, r < c → K.1 (12 + 3 * r) 3 = P.2 8 r ∧ K.1 (12 + 3 * r) 2 = P.2 9 r ∧ ∀ n : Nat, 1 ≤ n → n ≤ 40 → K.2 (12 + 3 * r + 1) n = P.2 10 (41 * r + n)) :
    Rr (x_kept K c) (m_save (m_remd (f_p1 (f_p1 P 0 7 (P.1 0 16)) 0 9 0) w c) 41) := by
  obtain ⟨Q, hQ⟩ : ∃ s, s = f_p1 (f_p1 P 0 7 (P.1 0 16)) 0 9 0 := ⟨_, rfl⟩
  have q2 : ∀ k i, Q.2 k i = P.2 k i := fun k i => by rw [hQ]; rfl
  have q7 : Q.1 0 7 = P.1 0 16 := by rw [hQ]; rfl
  have q26 : Q.1 0 26 = P.1 0 26 := by rw [hQ]; rfl
  obtain ⟨T1, hT1⟩ : ∃ s, s = m_save (m_remd Q w c) 41 := ⟨_, rfl⟩
  rw [← hQ, ← hT1]
  have d2 : ∀ k i, (m_remd Q w c).2 k i = if k = 9 ∧ i = c then Q.1 0 26 else if k = 8 ∧ i = c then Q.1 0 7 else (m_rem Q w c 41).2 k i := fun k i => by
    unfold m_remd
    rw [p1_2, p2_2, p2_2]
  have a2 : ∀ k i, T1.2 k i = if k = 3 ∧ 1 ≤ i ∧ i < 41 then 0 else if k = 4 ∧ 1 ≤ i ∧ i < 41 then (m_remd Q w c).2 1 i else (m_remd Q w c).2 k i := fun k i => by rw [hT1]; rfl
  have dl : ∀ k i, k ≤ 7 → (m_remd Q w c).2 k i = P.2 k i := fun k i g => by rw [d2, if_neg (by omega), if_neg (by omega), m_rem_o _ _ _ _ _ _ (by omega), q2]
  have tl : ∀ k i, k ≤ 7 → k ≠ 3 → k ≠ 4 → T1.2 k i = P.2 k i := fun k i g g3 g4 => by rw [a2, if_neg (by omega), if_neg (by omega), dl k i g]
  have t1 : ∀ b, T1.1 0 b = if b = 10 then (c : Int) + 1 else Q.1 0 b := fun b => by
    rw [hT1]
    show (m_remd Q w c).1 0 b = _
    unfold m_remd
    rw [p1_1]
    simp only [true_and]
    rfl
  have hmv : ∀ n, m_mv Q w n = m_mv P w n := m_mv_cg (fun i => q2 1 i) (fun i => q2 3 i)
  refine ⟨fun n n1 n40 => ?_, ⟨?_, ?_, ?_⟩, ?_, fun r hr => ?_⟩
  · obtain ⟨s1, s2⟩ := hS n n1 n40
    obtain ⟨v6, v7⟩ := x_kept_sv K c n ⟨n1, by omega⟩
    have k2 : (x_kept K c).2 2 n = K.2 2 n := x_kept_2 K c 2 n (by omega)
    have k3 : (x_kept K c).2 3 n = K.2 3 n := x_kept_2 K c 3 n (by omega)
    have k4 : (x_kept K c).2 4 n = K.2 4 n := x_kept_2 K c 4 n (by omega)
    have hh := h2 n
    refine ⟨by rw [k2, tl 1 n (by decide) (by decide) (by decide)]; exact s1, ?_, ?_, fun g => ?_⟩
    · rw [a2, if_pos ⟨rfl, n1, by omega⟩]
      unfold x_ch
      rw [k2, v6, v7]
      split
      · rfl
      · omega
    · rw [v7, a2, if_neg (by omega), if_pos ⟨rfl, n1, by omega⟩, dl 1 n (by decide)]; exact s1
    · rw [k2] at g
      obtain ⟨f1, f2, f3⟩ := s2 g
      refine ⟨by rw [k3, tl 2 n (by decide) (by decide) (by decide)]; exact f1, by rw [k4, tl 5 n (by decide) (by decide) (by decide)]; exact f2, fun i hi => ?_⟩
      rw [k4] at hi
      rw [x_kept_2 K c 5 _ (by omega), tl 6 _ (by decide) (by decide) (by decide)]
      exact f3 i hi
  · rw [x_kept_81, t1, if_neg (by decide), q7, hM.1, hb, hD.1]
  · funext i
    rw [x_kept_9, tl 7 i (by decide) (by decide) (by decide), hM.2 hc0 i, hb, hD.1]
    by_cases g : a ≤ (i : Int) ∧ (i : Int) < a + (TL.length : Int)
    · rw [if_pos g, if_pos (by omega), hD.2 _ (by omega)]
    · rw [if_neg g, if_neg (by omega)]; exact congrFun hf i
  · rw [t1, if_neg (by decide), hQ]
    show (x_ad (f_p1 (x_behind K (K.1 374 5) (K.1 374 6)) 8 2 0) 377 c).1 8 2 = 0
    rw [x_ad_1, if_neg (by omega), if_neg (by omega), if_neg (by omega), p1_1, if_pos ⟨rfl, rfl⟩]
  · rw [t1, if_pos rfl]
    show (x_ad (f_p1 (x_behind K (K.1 374 5) (K.1 374 6)) 8 2 0) 377 c).1 10 1 = _
    rw [x_ad_1, if_pos ⟨rfl, rfl⟩]
  · have hk10 : (x_kept K c).1 10 1 = (c : Int) + 1 := by
      show (x_ad (f_p1 (x_behind K (K.1 374 5) (K.1 374 6)) 8 2 0) 377 c).1 10 1 = _
      rw [x_ad_1, if_pos ⟨rfl, rfl⟩]
    rw [hk10] at hr
    have k377 : ∀ q, (f_p1 (x_behind K (K.1 374 5) (K.1 374 6)) 8 2 0).1 377 q = K.1 377 q := fun q => by
      rw [p1_1, if_neg (by omega)]
      unfold x_behind
      rw [p1_1, if_neg (by omega)]
      rfl
    by_cases g : r = c
    · subst g
      refine ⟨?_, ?_, fun n n1 n40 => ?_⟩
      · show (x_ad _ 377 r).1 (12 + 3 * r) 3 = _
        rw [x_ad_1, if_neg (by omega), if_pos ⟨rfl, rfl⟩, k377, a2, if_neg (by omega), if_neg (by omega), d2, if_neg (by omega), if_pos ⟨rfl, rfl⟩, q7]
        exact he
      · show (x_ad _ 377 r).1 (12 + 3 * r) 2 = _
        rw [x_ad_1, if_neg (by omega), if_neg (by omega), if_pos ⟨rfl, rfl⟩, k377, a2, if_neg (by omega), if_neg (by omega), d2, if_pos ⟨rfl, rfl⟩, q26]
        exact hx
      · rw [a2, if_neg (by omega), if_neg (by omega), d2, if_neg (by omega), if_neg (by omega), x_kept_pl K r n ⟨n1, by omega⟩]
        have e : (m_rem Q w r 41).2 10 (41 * r + n) = m_rv Q w 10 (41 * r + n) n := by
          show (if (10 = 10 ∨ 10 = 11 ∨ 10 = 12) ∧ 41 * r + 1 ≤ 41 * r + n ∧ 41 * r + n < 41 * r + 41 then m_rv Q w 10 (41 * r + n) (41 * r + n - 41 * r) else Q.2 10 (41 * r + n)) = _
          rw [if_pos ⟨by decide, by omega, by omega⟩, show 41 * r + n - 41 * r = n by omega]
        rw [e]
        unfold m_rv
        simp only [hmv, q2]
        rcases hrow n n1 n40 with ⟨g1, g2⟩ | ⟨g1, g2⟩
        · have hne : K.2 378 n ≠ -2 := by
            rw [g2]
            have := hp13 n
            split <;> omega
          rw [if_pos hne, if_pos g1, if_pos trivial]; exact g2
        · rw [if_neg (show ¬ (K.2 378 n ≠ -2) by omega), if_neg (show ¬ m_mv P w n = 1 by omega)]
          rcases hw with e | e
          · have hc1 := hw0 e
            rw [if_neg (show ¬ r = 0 by omega), if_neg (show ¬ w = 1 by omega), (hH (r - 1) (by omega)).2.2 n n1 n40, show 41 * r + n - 41 = 41 * (r - 1) + n by omega]
          · rw [if_pos (hwc e), if_pos e, if_pos trivial]
    · obtain ⟨h1, h2, h3⟩ := hH r (by omega)
      have kf : ∀ q, (q = 2 ∨ q = 3) → (x_kept K c).1 (12 + 3 * r) q = K.1 (12 + 3 * r) q := fun q hq => x_kept_1 _ _ _ _ (by omega)
      refine ⟨?_, ?_, fun n n1 n40 => ?_⟩
      · rw [kf 3 (Or.inr rfl), a2, if_neg (by omega), if_neg (by omega), d2, if_neg (by omega), if_neg (by omega), m_rem_o _ _ _ _ _ _ (by omega), q2]; exact h1
      · rw [kf 2 (Or.inl rfl), a2, if_neg (by omega), if_neg (by omega), d2, if_neg (by omega), if_neg (by omega), m_rem_o _ _ _ _ _ _ (by omega), q2]; exact h2
      · rw [x_kept_2 _ _ _ _ (by omega), a2, if_neg (by omega), if_neg (by omega), d2, if_neg (by omega), if_neg (by omega), m_rem_o _ _ _ _ _ _ (by omega), q2]
        exact h3 n n1 n40
