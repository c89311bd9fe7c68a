section
/-! write and append -/
theorem R_rec {σ τ : fS} {n : Int} (h : Rs σ τ) (hn : 1 ≤ n ∧ n ≤ 40) (ht : σ.2 2 n.toNat = 1) : x_rec σ n = m_rec τ n := by
  obtain ⟨-, -, -, e4⟩ := h n.toNat (by omega) (by omega)
  obtain ⟨-, f2, f3⟩ := e4 ht
  unfold x_rec m_rec x_hd m_hdr
  rw [← f2]
  have e : x_byt σ n (σ.2 4 n.toNat).toNat = m_byt τ n (σ.2 4 n.toNat).toNat := by
    unfold x_byt m_byt
    refine List.map_congr_left (fun j hj => ?_)
    have hj := List.mem_range.mp hj
    rw [show (n * 120 + (j : Int)).toNat = 120 * n.toNat + j by omega, show (120 * n + (j : Int)).toNat = 120 * n.toNat + j by omega]
    exact f3 j (by omega)
  rw [e]
  rfl
theorem m_last_mem {t : fS} {w how : Int} (hh : 0 ≤ how ∧ how ≤ 2) {x : Int} (hx : x ∈ m_turns t w how (m_last how + 1)) : ∃ u : Nat, u < m_last how + 1 ∧ m_sel t w how (u : Int) x ∧ 1 ≤ x ∧ x ≤ 40 := by
  rw [← m_tk2_40] at hx
  obtain ⟨u, hu, hm⟩ := m_tk2_el t w how 40 _ x hx
  obtain ⟨hs, h1, h2⟩ := m_turn_el t w how (u : Int) 40 x hm
  exact ⟨u, hu, hs, h1, h2⟩
section R8
variable {σ σ1 τ τ1 : fS} {k v r how : Int}
theorem rs_write (h : Rr σ τ) (hI : x_I σ) (hM : m_I τ) (hy : y_write σ how k v σ1) (hu : u_write τ how r τ1) : Rr σ1 τ1 ∧ τ1.1 0 0 = k ∧ (0 ≤ k ∧ k ≤ 2) ∧ (k = 0 → v = r) ∧ -2147483648 ≤ r ∧ r ≤ 2147483647 := by
  rcases hy with ⟨g, rfl, rfl⟩ | ⟨hh, rfl, hw, hv⟩
  · rcases hu with ⟨-, rfl, rfl⟩ | ⟨q, -⟩
    · exact ⟨Rr_0 h 1, rfl, by decide, fun e => absurd e (by decide), by decide⟩
    · exact absurd q g
  · rcases hu with ⟨q, -⟩ | ⟨-, ht1, hr, hI1, h00⟩
    · exact absurd hh q
    · have hr7 : 0 ≤ τ1.1 0 7 ∧ τ1.1 0 7 ≤ 12000 := hI1.1 7
      suffices hR : Rr σ1 τ1 by
        exact ⟨hR, h00, by decide, fun _ => by rw [hv, hr]; exact hR.2.1.1, by omega⟩
      obtain ⟨C, hC, rfl⟩ := hw
      obtain ⟨S1, hS1⟩ : ∃ s, s = f_p1 (f_p1 τ 0 0 0) 0 17 1 := ⟨_, rfl⟩
      have iS1 : m_I S1 := by rw [hS1]; exact m_I_p (m_I_00 hM 0) 17 1 (by decide) (m_okF_n _ _ (by decide))
      obtain ⟨P1, hP1⟩ : ∃ s, s = m_part S1 0 1 how := ⟨_, rfl⟩
      have iP1 : m_I P1 := by rw [hP1]; exact m_I_part iS1 (by omega) (Or.inr rfl) hh
      obtain ⟨u1, u2, -⟩ := m_part_f iS1 (show (0 : Int) ≤ 0 ∧ (0 : Int) ≤ 12000 by omega) (Or.inr rfl) hh
      rw [← hP1] at u1 u2
      have u7 : ∀ i, P1.2 7 i = τ.2 7 i := fun i => by rw [hP1, m_part_7c _ _ _ _ (by rw [hS1]; rfl), hS1]; rfl
      obtain ⟨t, ht⟩ : ∃ s, s = f_p1 P1 0 17 0 := ⟨_, rfl⟩
      have it : m_I t := by rw [ht]; exact m_I_p iP1 17 0 (by decide) (m_okF_n _ _ (by decide))
      have t2 : ∀ k i, k ≠ 7 → k ≠ 13 → k ≠ 14 → t.2 k i = τ.2 k i := fun k i g1 g2 g3 => by rw [ht]; show P1.2 k i = _; rw [u1 k i g1 g2 g3, hS1]; rfl
      have t7 : ∀ i, t.2 7 i = τ.2 7 i := fun i => by rw [ht]; exact u7 i
      obtain ⟨F, hF⟩ : ∃ s, s = x_puts (x_beg σ 0) [37, 70, 49, 10] := ⟨_, rfl⟩
      have F2 : ∀ a b, a ≠ 375 → a ≠ 378 → a ≠ 379 → F.2 a b = σ.2 a b := fun a b g1 g2 g3 => by rw [hF, x_puts_2 _ _ _ _ g1, x_beg_2 _ _ _ _ ⟨g2, g3⟩]
      obtain ⟨b5, b6, b4⟩ := x_beg_1 σ 0
      have F4 : F.1 374 4 = 0 := by rw [hF, x_puts_1, if_neg (by omega)]; exact b4
      have hC' := hC
      rw [← hF] at hC'
      have hrd := x_rdy_w hI hC
      obtain ⟨c1, c2, c3, c4⟩ := x_chR_I F4 40 C (by omega) hC'
      have RF : Rs F t := Rs_cg h.1 (fun a b g => F2 a b (by omega) (by omega) (by omega)) (fun a b g => t2 a b (by omega) (by omega) (by omega))
      have RC : Rs C t := Rs_cg RF (fun a b g => c3 a b (by omega)) (fun _ _ _ => rfl)
      have hF3 : ∀ i, 0 ≤ F.2 3 i ∧ F.2 3 i ≤ 1 := fun i => by rw [F2 3 i (by decide) (by decide) (by decide)]; exact hI.2 3 i
      have hord : x_ord C = m_turns t 1 how (m_last how + 1) := by
        rw [← m_tk2_40]
        exact x_chR_ord hh RF F4 (fun i => by rw [F2 2 i (by decide) (by decide) (by decide)]; exact hI.2 2 i) hF3 (fun i => by rw [F2 4 i (by decide) (by decide) (by decide)]; exact hI.2 4 i) 40 C (by omega) hC'
      have hDB : Dr (x_beg σ 0) [] := ⟨by rw [b6]; rfl, fun j hj => absurd hj (by simp)⟩
      have hDF : Dr F [37, 70, 49, 10] := by
        have := Dr_puts [37, 70, 49, 10] hDB
        rw [← hF] at this
        exact this
      have hDC : Dr C [37, 70, 49, 10] := Dr_cg hDF (c2 374 6 (by omega)) (fun j => c3 375 j (by decide))
      have hmem : ∀ n : Nat, n ∈ (x_ord C).map Int.toNat ↔ (1 ≤ n ∧ n ≤ 40 ∧ t.2 1 n = 1) := by
        intro n
        rw [hord]
        constructor
        · intro hn
          obtain ⟨x, hx, e⟩ := List.mem_map.mp hn
          obtain ⟨u, -, hs, x1, x2⟩ := m_last_mem hh hx
          have := hs.2.1
          rw [e] at this
          exact ⟨by omega, by omega, this⟩
        · rintro ⟨n1, n40, hn⟩
          refine List.mem_map.mpr ⟨((n - 1 : Nat) : Int) + 1, ?_, by omega⟩
          refine m_all_in t 1 how (n - 1) (by omega) hh (Or.inl ⟨rfl, ?_⟩) ?_ ?_ ?_
          · rw [show n - 1 + 1 = n by omega]; exact hn
          · rw [show n - 1 + 1 = n by omega]; exact hn
          · exact it.2.1 2 _
          · exact it.2.1 5 _
      have hpq : m_pq t 1 = 0 := by unfold m_pq; rw [if_pos rfl]
      have hmv1 : ∀ n, m_mv t 1 n = t.2 1 n := fun n => by unfold m_mv; rw [if_pos rfl]
      obtain ⟨TL, p1, p2, p3, p4, p5, p6, p7⟩ := R_part (q := 0) hrd (show (0 : Int) ≤ 0 by omega) (by rw [c2 374 5 (by omega), hF, x_puts_1, if_neg (by omega)]; exact b5) hDC (by rw [if_pos rfl]) hord (fun n hn => by
          have hm := (hmem n.toNat).mp (List.mem_map.mpr ⟨n, hn, rfl⟩)
          rw [hord] at hn
          obtain ⟨u, -, hs, x1, x2⟩ := m_last_mem hh hn
          exact R_rec RC ⟨x1, x2⟩ (by rw [(RC n.toNat (by omega) (by omega)).1]; exact hm.2.2)) hpq (fun n n1 n40 => by
          rw [hmv1]
          have h1 : 0 ≤ t.2 1 n ∧ t.2 1 n ≤ 1 := it.2.1 1 n
          by_cases g : t.2 1 n = 1
          · exact Or.inl ⟨⟨g, g⟩, (hmem n).mpr ⟨n1, n40, g⟩⟩
          · refine Or.inr (Or.inr ⟨by omega, fun q => g ((hmem n).mp q).2.2, ?_⟩)
            rw [c3 378 n (by decide), hF, x_puts_2 _ _ _ _ (by decide), x_beg_378, if_pos (by omega)])
      obtain ⟨P, hP⟩ : ∃ s, s = m_part t 0 1 how := ⟨_, rfl⟩
      rw [← hP] at p2 p4 p5 p6
      obtain ⟨v1, v2, -, v4, -, -⟩ := m_part_f it (show (0 : Int) ≤ 0 ∧ (0 : Int) ≤ 12000 by omega) (Or.inr rfl) hh
      rw [← hP] at v1 v2 v4
      have eA : τ1 = m_save (m_remd (f_p1 (f_p1 P 0 7 (P.1 0 16)) 0 9 0) 1 0) 41 := by
        rw [ht1, ← hS1, ← hP1]
        unfold m_all m_Q m_pa m_rr
        rw [if_pos rfl, ← ht, ← hP]
      rw [eA]
      have E2 : ∀ a b, a ≠ 375 → a ≠ 376 → a ≠ 378 → a ≠ 379 → (x_fin C 0).2 a b = σ.2 a b := fun a b g1 g2 g3 g4 => by rw [p7 a b g1 g3 g4, c3 a b g2, F2 a b g1 g3 g4]
      have hPmv : ∀ n, m_mv P 1 n = m_mv t 1 n := m_mv_cg (fun i => v1 1 i (by decide) (by decide) (by decide)) (fun i => v1 3 i (by decide) (by decide) (by decide))
      have P2 : ∀ a b, a ≤ 6 → P.2 a b = τ.2 a b := fun a b g => by rw [v1 a b (by omega) (by omega) (by omega), t2 a b (by omega) (by omega) (by omega)]
      obtain ⟨K, hK⟩ : ∃ s, s = f_p1 (x_fin C 0) 10 1 0 := ⟨_, rfl⟩
      have K1 : ∀ a b, a ≠ 10 → K.1 a b = (x_fin C 0).1 a b := fun a b g => by rw [hK, p1_1, if_neg (by omega)]
      have K2 : ∀ a b, K.2 a b = (x_fin C 0).2 a b := fun a b => by rw [hK, p1_2]
      rw [← hK]
      refine R_keep (K := K) (t := t) (a := 0) (TL := TL) (by omega) (by omega) ⟨by rw [K1 _ _ (by decide)]; exact p1.1, fun j hj => by rw [K2]; exact p1.2 j hj⟩ p2 ?_ (by rw [K1 _ _ (by decide)]; exact p3) ?_ (by rw [K1 _ _ (by decide)]; exact p4) (by rw [K1 _ _ (by decide)]; exact p5) (Or.inr rfl) (fun _ => rfl) (fun e => absurd e (by decide)) (fun n n1 n40 => ?_) (fun i => (v4 i).1) (fun n n1 n40 => ?_) (fun i => ?_) (fun r hr => absurd hr (by omega))
      · rw [v2 17 (by decide) (by decide), ht]; rfl
      · funext i
        rw [K2, E2 9 i (by decide) (by decide) (by decide) (by decide), t7]
        exact congrFun h.2.1.2.1 i
      · rw [hPmv, v1 1 n (by decide) (by decide) (by decide), K2]
        exact p6 n n1 n40
      · obtain ⟨e1, -, -, e4⟩ := h.1 n n1 n40
        simp only [K2]
        rw [E2 2 n (by decide) (by decide) (by decide) (by decide), E2 3 n (by decide) (by decide) (by decide) (by decide), E2 4 n (by decide) (by decide) (by decide) (by decide), P2 1 n (by decide), P2 2 n (by decide), P2 5 n (by decide)]
        refine ⟨e1, fun g => ?_⟩
        obtain ⟨f1, f2, f3⟩ := e4 g
        exact ⟨f1, f2, fun i hi => by rw [E2 5 _ (by decide) (by decide) (by decide) (by decide), P2 6 _ (by decide)]; exact f3 i hi⟩
      · rw [K2, E2 2 i (by decide) (by decide) (by decide) (by decide)]
        exact hI.2 2 i
theorem x_insd_378 (s : fS) (t : Nat) (n : Int) (b : Nat) : (x_insd s t n).2 378 b = s.2 378 b := by
  unfold x_insd
  rw [p1_2, p2_2, if_neg (by omega)]
  exact x_sh_2 _ _ _ _ _ (by decide)
theorem x_ccF_378 (F : fS) (b : Nat) : ∀ k : Nat, (x_ccF F k).2 378 b = if (1 ≤ b ∧ b ≤ k) ∧ x_ch F b = 1 ∧ F.2 2 b ≠ 1 then -1 else F.2 378 b := by
  intro k
  induction k with
  | zero => rw [if_neg (by omega)]; rfl
  | succ k ih =>
    have e : x_ccF F (k + 1) = if x_ch F (k + 1) = 1 then (if F.2 2 (k + 1) = 1 then x_insd (x_ccF F k) ((x_ccF F k).1 374 4).toNat ((k : Int) + 1) else f_p2 (x_ccF F k) 378 (k + 1) (-1)) else x_ccF F k := rfl
    by_cases gb : b = k + 1
    · subst gb
      rw [e]
      by_cases g1 : x_ch F (k + 1) = 1
      · rw [if_pos g1]
        by_cases g2 : F.2 2 (k + 1) = 1
        · rw [if_pos g2, x_insd_378, ih, if_neg (by omega), if_neg (fun q => q.2.2 g2)]
        · rw [if_neg g2, p2_2, if_pos ⟨rfl, rfl⟩, if_pos ⟨by omega, g1, g2⟩]
      · rw [if_neg g1, ih, if_neg (by omega), if_neg (fun q => g1 q.2.1)]
    · have e2 : (x_ccF F (k + 1)).2 378 b = (x_ccF F k).2 378 b := by
        rw [e]
        split
        · split
          · exact x_insd_378 _ _ _ _
          · rw [p2_2, if_neg (by omega)]
        · rfl
      rw [e2, ih]
      by_cases g : (1 ≤ b ∧ b ≤ k) ∧ x_ch F b = 1 ∧ F.2 2 b ≠ 1
      · rw [if_pos g, if_pos ⟨by omega, g.2⟩]
      · rw [if_neg g, if_neg (fun q => g ⟨by omega, q.2⟩)]
/-- an append's part, by both, in either pass -/
theorem R_apart {σ τ t : fS} {c : Nat} (h : Rr σ τ) (hI : x_I σ) (it : m_I t) (hc : σ.1 10 1 = (c : Int)) (hc1 : 1 ≤ c) (ht2 : ∀ k i, k ≠ 7 → k ≠ 13 → k ≠ 14 → t.2 k i = τ.2 k i) (ht10 : t.1 0 10 = τ.1 0 10) (hr : x_ccR (x_beg σ (σ.1 8 1)) 40 (x_ccF (x_beg σ (σ.1 8 1)) 40)) :
    ∃ TL : List Int, Dr (x_apd σ c) TL ∧ Mr t (σ.1 8 1) (m_part t (σ.1 8 1) 0 0) TL ∧ (x_apd σ c).1 374 5 = σ.1 8 1 ∧ (x_apd σ c).1 377 3 = (m_part t (σ.1 8 1) 0 0).1 0 16 ∧ (x_apd σ c).1 377 2 = (m_part t (σ.1 8 1) 0 0).1 0 26 ∧ (∀ n : Nat, 1 ≤ n → n ≤ 40 → (m_mv t 0 n = 1 ∧ (x_apd σ c).2 378 n = if t.2 1 n = 1 then (m_part t (σ.1 8 1) 0 0).2 13 n else -1) ∨ (m_mv t 0 n = 0 ∧ (x_apd σ c).2 378 n = -2)) ∧ (∀ a b, a ≠ 375 → a ≠ 376 → a ≠ 378 → a ≠ 379 → (x_apd σ c).2 a b = σ.2 a b) ∧ (∀ a b, a ≠ 374 → a ≠ 377 → (x_apd σ c).1 a b = σ.1 a b) := by
  have h8 : 0 ≤ σ.1 8 1 ∧ σ.1 8 1 ≤ 12000 := hI.1 8 1
  have h10 : 0 ≤ σ.1 10 1 ∧ σ.1 10 1 ≤ 60 := hI.1 10 1
  obtain ⟨F, hF⟩ : ∃ s, s = x_beg σ (σ.1 8 1) := ⟨_, rfl⟩
  obtain ⟨b5, b6, b4⟩ := x_beg_1 σ (σ.1 8 1)
  have hrd := x_rdy_a hI hr
  rw [← hF] at b5 b6 b4 hr hrd
  have F2 : ∀ a b, a ≠ 378 → a ≠ 379 → F.2 a b = σ.2 a b := fun a b g1 g2 => by rw [hF, x_beg_2 _ _ _ _ ⟨g1, g2⟩]
  obtain ⟨c1, c2, c3, c4, c5⟩ := x_ccR_I b4 40 _ (by omega) hr
  obtain ⟨C, hC⟩ : ∃ s, s = x_ccF F 40 := ⟨_, rfl⟩
  have hord0 : x_ord (x_ccF F 40) = m_turn t 0 0 0 40 := x_ccF_ord (Rs_cg h.1 (fun a b g => F2 a b (by omega) (by omega)) (fun a b g => ht2 a b (by omega) (by omega) (by omega))) b4 40 (by omega) hr
  have h378 := fun b => x_ccF_378 F b 40
  rw [← hC] at hr hrd c1 c2 c3 c4 c5 hord0 h378
  have RF : Rs F t := Rs_cg h.1 (fun a b g => F2 a b (by omega) (by omega)) (fun a b g => ht2 a b (by omega) (by omega) (by omega))
  have RC : Rs C t := Rs_cg RF (fun a b g => c3 a b (by omega) (by omega)) (fun _ _ _ => rfl)
  have hord : x_ord C = m_turns t 0 0 (m_last 0 + 1) := by
    rw [hord0, show m_last 0 = 0 from by decide]
    have e1 : m_turns t 0 0 (0 + 1) = m_turns t 0 0 0 ++ m_turn t 0 0 ((0 : Nat) : Int) 40 := m_turns.eq_2 t 0 0 0
    have e2 : m_turns t 0 0 0 = [] := m_turns.eq_1 t 0 0
    rw [e1, e2, List.nil_append, show ((0 : Nat) : Int) = 0 from rfl]
  have hDC : Dr C [] := ⟨by rw [c2 374 6 (by omega), b6]; rfl, fun j hj => absurd hj (by simp)⟩
  have hmem : ∀ n : Nat, n ∈ (x_ord C).map Int.toNat ↔ (1 ≤ n ∧ n ≤ 40 ∧ t.2 3 n = 1 ∧ t.2 1 n = 1) := by
    intro n
    rw [hord]
    constructor
    · intro hn
      obtain ⟨x, hx, e⟩ := List.mem_map.mp hn
      obtain ⟨u, -, hs, x1, x2⟩ := m_last_mem (by omega) hx
      obtain ⟨q1, q2, -⟩ := hs
      rw [e] at q1 q2
      exact ⟨by omega, by omega, by omega, q2⟩
    · rintro ⟨n1, n40, hn3, hn1⟩
      refine List.mem_map.mpr ⟨((n - 1 : Nat) : Int) + 1, ?_, by omega⟩
      refine m_all_in t 0 0 (n - 1) (by omega) (by omega) (Or.inr ⟨rfl, ?_⟩) ?_ ?_ ?_
      · rw [show n - 1 + 1 = n by omega]; exact hn3
      · rw [show n - 1 + 1 = n by omega]; exact hn1
      · exact it.2.1 2 _
      · exact it.2.1 5 _
  have hmv0 : ∀ n, m_mv t 0 n = t.2 3 n := fun n => by unfold m_mv; rw [if_neg (by decide)]
  have hlx : m_pq t 0 = x_lx σ c := by
    unfold m_pq x_lx
    rw [if_neg (by decide), if_neg (by omega), ht10, ← h.2.2.1, hc, show ((c : Int) - 1).toNat = c - 1 by omega, ht2 9 _ (by decide) (by decide) (by decide)]
    exact ((h.2.2.2 (c - 1) (by omega)).2.1).symm
  obtain ⟨TL, p1, p2, p3, p4, p5, p6, p7⟩ := R_part (q := x_lx σ c) (w := 0) (how := 0) (T := []) hrd h8.1 (by rw [c2 374 5 (by omega)]; exact b5) hDC (by rw [if_neg (by decide)]) hord (fun n hn => by
      have hm := (hmem n.toNat).mp (List.mem_map.mpr ⟨n, hn, rfl⟩)
      rw [hord] at hn
      obtain ⟨u, -, hs, x1, x2⟩ := m_last_mem (by omega) hn
      exact R_rec RC ⟨x1, x2⟩ (by rw [(RC n.toNat (by omega) (by omega)).1]; exact hm.2.2.2)) hlx (fun n n1 n40 => by
      rw [hmv0]
      have h1 : 0 ≤ t.2 1 n ∧ t.2 1 n ≤ 1 := it.2.1 1 n
      have h3 : 0 ≤ t.2 3 n ∧ t.2 3 n ≤ 1 := it.2.1 3 n
      obtain ⟨e1, e2, -, -⟩ := RF n n1 n40
      have f378 : F.2 378 n = -2 := by rw [hF, x_beg_378, if_pos (by omega)]
      by_cases g3 : t.2 3 n = 1
      · by_cases g1 : t.2 1 n = 1
        · exact Or.inl ⟨⟨g3, g1⟩, (hmem n).mpr ⟨n1, n40, g3, g1⟩⟩
        · refine Or.inr (Or.inl ⟨⟨g3, by omega⟩, fun q => g1 ((hmem n).mp q).2.2.2, ?_⟩)
          rw [h378, if_pos ⟨⟨n1, n40⟩, by rw [e2]; exact g3, by rw [e1]; exact g1⟩]
      · refine Or.inr (Or.inr ⟨by omega, fun q => g3 ((hmem n).mp q).2.2.1, ?_⟩)
        rw [h378, if_neg (fun q => g3 (by rw [← e2]; exact q.2.1))]
        exact f378)
  have eA : x_apd σ c = x_fin C (x_lx σ c) := by unfold x_apd; rw [← hF, ← hC]
  rw [← eA] at p1 p3 p4 p5 p6 p7
  refine ⟨TL, p1, p2, p3, p4, p5, p6, fun a b g1 g2 g3 g4 => by rw [p7 a b g1 g3 g4, c3 a b g2 g3, F2 a b g3 g4], fun a b g1 g2 => ?_⟩
  rw [eA, x_fin_o hrd _ a b (by omega), c2 a b (by omega), hF]
  show (f_p1 (f_p1 (f_p1 σ 374 5 _) 374 6 0) 374 4 0).1 a b = _
  rw [p1_1, if_neg (by omega), p1_1, if_neg (by omega), p1_1, if_neg (by omega)]
end R8
end
section
section R9
variable {σ σ1 τ τ1 : fS} {k v r : Int}
theorem rs_append (h : Rr σ τ) (hI : x_I σ) (hM : m_I τ) (hy : y_append σ k v σ1) (hu : u_append τ r τ1) : Rr σ1 τ1 ∧ τ1.1 0 0 = k ∧ (0 ≤ k ∧ k ≤ 2) ∧ (k = 0 → v = r) ∧ -2147483648 ≤ r ∧ r ≤ 2147483647 := by
  have z7 := h.2.1.1
  have z9 := h.2.1.2.2
  have z10 := h.2.2.1
  have hcn : m_cnt (x_ch σ) 40 = m_cnt (τ.2 3) 40 := m_cnt_eq 40 (fun i h1 h2 => (h.1 i h1 h2).2.1)
  have h7 : 0 ≤ τ.1 0 7 ∧ τ.1 0 7 ≤ 12000 := hM.1 7
  have h10 : 0 ≤ τ.1 0 10 ∧ τ.1 0 10 ≤ 60 := hM.1 10
  have hg : (σ.1 8 1 = 0 ∨ σ.1 8 2 = 1) ↔ (τ.1 0 7 = 0 ∨ τ.1 0 9 = 1) := by rw [z7, z9]
  obtain ⟨c, hc⟩ : ∃ c, c = (σ.1 10 1).toNat := ⟨_, rfl⟩
  have hcc : σ.1 10 1 = (c : Int) := by omega
  obtain ⟨S1, hS1⟩ : ∃ s, s = f_p1 (f_p1 τ 0 0 0) 0 17 1 := ⟨_, rfl⟩
  have iS1 : m_I S1 := by rw [hS1]; exact m_I_p (m_I_00 hM 0) 17 1 (by decide) (m_okF_n _ _ (by decide))
  obtain ⟨PP, hPP⟩ : ∃ s, s = m_part S1 (σ.1 8 1) 0 0 := ⟨_, rfl⟩
  have ha : 0 ≤ σ.1 8 1 ∧ σ.1 8 1 ≤ 12000 := hI.1 8 1
  obtain ⟨u1, u2, -, u4, -, -⟩ := m_part_f iS1 ha (Or.inl rfl) (show (0 : Int) ≤ 0 ∧ (0 : Int) ≤ 2 by omega)
  rw [← hPP] at u1 u2 u4
  have PP2 : ∀ k i, k ≠ 7 → k ≠ 13 → k ≠ 14 → PP.2 k i = τ.2 k i := fun k i g1 g2 g3 => by rw [u1 k i g1 g2 g3, hS1]; rfl
  have PP7 : ∀ i, PP.2 7 i = τ.2 7 i := fun i => by rw [hPP, m_part_7c _ _ _ _ (by rw [hS1]; rfl), hS1]; rfl
  have PPf : ∀ q, q ≠ 16 → q ≠ 26 → q ≠ 0 → q ≠ 17 → PP.1 0 q = τ.1 0 q := fun q g1 g2 g3 g4 => by
    rw [u2 q g1 g2, hS1, p1_1, if_neg (by omega), p1_1, if_neg (by omega)]
  have PP0 : PP.1 0 0 = 0 := by rw [u2 0 (by decide) (by decide), hS1]; rfl
  unfold u_append at hu
  rw [← hS1, ← z7, ← hPP] at hu
  have zz7 := z7
  rw [z7] at hg
  rcases hy with ⟨g, rfl, rfl⟩ | ⟨g, g2, rfl, hv, rfl⟩ | ⟨g, g2, g3, rfl, rfl⟩ | ⟨g, g2, g3, g4, rfl, hr, hσ⟩ | ⟨g, g2, g3, g4, rfl, hr, hσ, hv⟩
  · rcases hu with ⟨-, rfl, rfl⟩ | ⟨q, -⟩
    · exact ⟨Rr_0 h 1, rfl, by decide, fun e => absurd e (by decide), by decide⟩
    · exact absurd (by rw [z7, ← z9]; rw [z7] at g; exact g) q
  · rcases hu with ⟨q, -⟩ | ⟨-, ⟨-, rfl, rfl⟩ | ⟨q, -⟩ | ⟨q, -⟩ | ⟨q, -⟩⟩
    · exact absurd (by rw [z9]; exact q) g
    · exact ⟨Rr_0 h 0, rfl, by decide, fun _ => hv, by decide⟩
    · exact absurd (by rw [← hcn]; exact g2) q
    · exact absurd (by rw [← hcn]; exact g2) q
    · exact absurd (by rw [← hcn]; exact g2) q
  · rcases hu with ⟨q, -⟩ | ⟨-, ⟨q, -⟩ | ⟨-, -, rfl, rfl⟩ | ⟨-, q, -⟩ | ⟨-, q, -⟩⟩
    · exact absurd (by rw [z9]; exact q) g
    · exact absurd (by rw [hcn]; exact q) g2
    · refine ⟨?_, rfl, by decide, fun e => absurd e (by decide), by decide⟩
      rw [hS1]
      exact ⟨Rs_cg h.1 (fun _ _ _ => rfl) (fun _ _ _ => rfl), ⟨h.2.1.1, h.2.1.2.1, h.2.1.2.2⟩, ⟨h.2.2.1, h.2.2.2⟩⟩
    · omega
    · omega
  · have hc1 : 1 ≤ c := by
      have := hM.2.2.2 (by omega)
      omega
    rw [← hc] at g4 hσ
    obtain ⟨TL, p1, p2, p3, p4, p5, p6, p7, p8⟩ := R_apart h hI iS1 hcc hc1 (fun k i _ _ _ => by rw [hS1]; rfl) (by rw [hS1]; rfl) hr
    rw [← hPP] at p4
    rcases hu with ⟨q, -⟩ | ⟨-, ⟨q, -⟩ | ⟨-, q, -⟩ | ⟨-, -, -, rfl, rfl⟩ | ⟨-, -, q, -⟩⟩
    · exact absurd (by rw [z9]; exact q) g
    · exact absurd (by rw [hcn]; exact q) g2
    · omega
    · refine ⟨?_, rfl, by decide, fun e => absurd e (by decide), by decide⟩
      rw [hσ]
      refine ⟨Rs_cg h.1 (fun a b g => p7 a b (by omega) (by omega) (by omega) (by omega)) (fun a b g => PP2 a b (by omega) (by omega) (by omega)), ⟨?_, ?_, ?_⟩, ?_⟩
      · rw [p8 8 1 (by decide) (by decide)]
        show _ = PP.1 0 7
        rw [PPf 7 (by decide) (by decide) (by decide) (by decide)]; exact z7
      · funext i
        rw [p7 9 i (by decide) (by decide) (by decide) (by decide)]
        show _ = PP.2 7 i
        rw [PP7]; exact congrFun h.2.1.2.1 i
      · rw [p8 8 2 (by decide) (by decide)]
        show _ = PP.1 0 9
        rw [PPf 9 (by decide) (by decide) (by decide) (by decide)]; exact z9
      · refine Rh_cg h.2.2 (fun a b g => p8 a b (by omega) (by omega)) (fun a b g => p7 a b (by omega) (by omega) (by omega) (by omega)) ?_ (fun a b g => PP2 a b (by omega) (by omega) (by omega)) (by omega)
        show PP.1 0 10 = _
        exact PPf 10 (by decide) (by decide) (by decide) (by decide)
    · omega
  · have hc1 : 1 ≤ c := by
      have := hM.2.2.2 (by omega)
      omega
    rw [← hc] at g4 hσ hv
    obtain ⟨-, -, -, -, q4, -, -, -, -⟩ := R_apart h hI iS1 hcc hc1 (fun k i _ _ _ => by rw [hS1]; rfl) (by rw [hS1]; rfl) hr
    rw [← hPP] at q4
    rcases hu with ⟨q, -⟩ | ⟨-, ⟨q, -⟩ | ⟨-, q, -⟩ | ⟨-, -, q, -⟩ | ⟨-, -, -, ht1, hrr, hI1, h00⟩⟩
    · exact absurd (by rw [z9]; exact q) g
    · exact absurd (by rw [hcn]; exact q) g2
    · omega
    · omega
    · have iPP : m_I PP := by rw [hPP]; exact m_I_part iS1 ha (Or.inl rfl) (by omega)
      obtain ⟨t, ht⟩ : ∃ s, s = f_p1 PP 0 17 0 := ⟨_, rfl⟩
      have it : m_I t := by rw [ht]; exact m_I_p iPP 17 0 (by decide) (m_okF_n _ _ (by decide))
      have t2 : ∀ k i, k ≠ 7 → k ≠ 13 → k ≠ 14 → t.2 k i = τ.2 k i := fun k i g1 g2 g3 => by rw [ht]; exact PP2 k i g1 g2 g3
      have t10 : t.1 0 10 = τ.1 0 10 := by rw [ht, p1_1, if_neg (by decide)]; exact PPf 10 (by decide) (by decide) (by decide) (by decide)
      obtain ⟨TL, p1, p2, p3, p4, p5, p6, p7, p8⟩ := R_apart h hI it hcc hc1 t2 t10 hr
      obtain ⟨P, hP⟩ : ∃ s, s = m_part t (σ.1 8 1) 0 0 := ⟨_, rfl⟩
      rw [← hP] at p2 p4 p5 p6
      obtain ⟨v1, v2, -, v4, -, -⟩ := m_part_f it ha (Or.inl rfl) (show (0 : Int) ≤ 0 ∧ (0 : Int) ≤ 2 by omega)
      rw [← hP] at v1 v2 v4
      have P10 : P.1 0 10 = τ.1 0 10 := by rw [v2 10 (by decide) (by decide)]; exact t10
      have eA : τ1 = m_save (m_remd (f_p1 (f_p1 P 0 7 (P.1 0 16)) 0 9 0) 0 c) 41 := by
        rw [ht1]
        unfold m_all m_Q m_pa m_rr
        rw [if_neg (by decide), ← ht, ← hP]
        have e : ((f_p1 (f_p1 P 0 7 (P.1 0 16)) 0 9 0).1 0 10).toNat = c := by
          show (P.1 0 10).toNat = c
          rw [P10]; omega
        rw [e]
      have P2 : ∀ a b, a ≠ 7 → a ≠ 13 → a ≠ 14 → P.2 a b = τ.2 a b := fun a b g1 g2 g3 => by rw [v1 a b g1 g2 g3, t2 a b g1 g2 g3]
      have hPmv : ∀ n, m_mv P 0 n = m_mv t 0 n := m_mv_cg (fun i => v1 1 i (by decide) (by decide) (by decide)) (fun i => v1 3 i (by decide) (by decide) (by decide))
      have hR : Rr σ1 τ1 := by
        rw [hσ, eA]
        refine R_keep (t := t) (a := σ.1 8 1) (TL := TL) (by omega) ha.1 p1 p2 ?_ p3 ?_ p4 p5 (Or.inl rfl) (fun e => absurd e (by decide)) (fun _ => hc1) (fun n n1 n40 => ?_) (fun i => (v4 i).1) (fun n n1 n40 => ?_) (fun i => ?_) (fun q hq => ?_)
        · rw [v2 17 (by decide) (by decide), ht]; rfl
        · funext i
          rw [p7 9 i (by decide) (by decide) (by decide) (by decide), ht]
          show _ = PP.2 7 i
          rw [PP7]; exact congrFun h.2.1.2.1 i
        · rw [hPmv, v1 1 n (by decide) (by decide) (by decide)]
          exact p6 n n1 n40
        · obtain ⟨e1, -, -, e4⟩ := h.1 n n1 n40
          rw [p7 2 n (by decide) (by decide) (by decide) (by decide), p7 3 n (by decide) (by decide) (by decide) (by decide), p7 4 n (by decide) (by decide) (by decide) (by decide), P2 1 n (by decide) (by decide) (by decide), P2 2 n (by decide) (by decide) (by decide), P2 5 n (by decide) (by decide) (by decide)]
          refine ⟨e1, fun g => ?_⟩
          obtain ⟨f1, f2, f3⟩ := e4 g
          exact ⟨f1, f2, fun i hi => by rw [p7 5 _ (by decide) (by decide) (by decide) (by decide), P2 6 _ (by decide) (by decide) (by decide)]; exact f3 i hi⟩
        · rw [p7 2 i (by decide) (by decide) (by decide) (by decide)]
          exact hI.2 2 i
        · obtain ⟨e1, e2, e3⟩ := h.2.2.2 q (by omega)
          refine ⟨by rw [p8 _ 3 (by omega) (by omega), P2 8 q (by decide) (by decide) (by decide)]; exact e1, by rw [p8 _ 2 (by omega) (by omega), P2 9 q (by decide) (by decide) (by decide)]; exact e2, fun n n1 n40 => ?_⟩
          rw [p7 _ n (by omega) (by omega) (by omega) (by omega), P2 10 _ (by decide) (by decide) (by decide)]
          exact e3 n n1 n40
      have hr7 : 0 ≤ τ1.1 0 7 ∧ τ1.1 0 7 ≤ 12000 := hI1.1 7
      have hz := hR.2.1.1
      refine ⟨hR, h00, by decide, fun _ => ?_, by omega⟩
      rw [hσ, x_kept_81, p3] at hz
      rw [hv, hrr, ← hz]
      omega
end R9
end
section
/-! READING: the class's signs and the reference's lines say the same -/
theorem eolF_sp (f : Nat → Int) : ∀ (k : Nat) (p : Int), 0 ≤ p → (∀ i : Int, p ≤ i → i < eolF f k p → f i.toNat ≠ 10) ∧ (eolF f k p < p + k → f (eolF f k p).toNat = 10) := by
  intro k
  induction k with
  | zero => intro p hp; exact ⟨fun i h1 h2 => absurd h2 (by show ¬ i < p; omega), fun h => absurd h (by show ¬ p < p + 0; omega)⟩
  | succ k ih =>
    intro p hp
    by_cases g : f p.toNat = 10
    · have e : eolF f (k + 1) p = p := by show (if _ then _ else _) = _; rw [if_pos g]
      rw [e]
      exact ⟨fun i h1 h2 => absurd h2 (by omega), fun _ => g⟩
    · have e : eolF f (k + 1) p = eolF f k (p + 1) := by show (if _ then _ else _) = _; rw [if_neg g]
      rw [e]
      obtain ⟨i1, i2⟩ := ih (p + 1) (by omega)
      refine ⟨fun i h1 h2 => ?_, fun h => i2 (by push_cast at h; omega)⟩
      by_cases gi : i = p
      · rw [gi]; exact g
      · exact i1 i (by omega) h2
theorem p_eol_sp {f : Nat → Int} {z p : Int} (hp : 0 ≤ p) (hz : p ≤ z) : (p ≤ p_eol f z p ∧ p_eol f z p ≤ z) ∧ (∀ i : Int, p ≤ i → i < p_eol f z p → f i.toNat ≠ 10) ∧ (p_eol f z p < z → f (p_eol f z p).toNat = 10) := by
  obtain ⟨h1, h2⟩ := eolF_sp f (z - p).toNat p hp
  have h3 := eolF_le f (z - p).toNat p
  have e : p_eol f z p = eolF f (z - p).toNat p := rfl
  rw [e]
  exact ⟨by omega, h1, fun h => h2 (by omega)⟩
/-- an end of a line, and a place in it -/
def q_ln (f : Nat → Int) (z le p : Int) : Prop := (0 ≤ p ∧ p ≤ le ∧ le ≤ z) ∧ (∀ i : Int, p ≤ i → i < le → f i.toNat ≠ 10) ∧ (le < z → f le.toNat = 10)
theorem q_ln_va {f : Nat → Int} {z le p i : Int} (h : q_ln f z le p) (hi : p ≤ i ∧ i < le) : q_va f z i = f i.toNat := by
  unfold q_va
  rw [if_pos (by have := h.1; omega)]
theorem q_ln_end {f : Nat → Int} {z le p : Int} (h : q_ln f z le p) : (le < z ∧ q_va f z le = 10) ∨ (le = z ∧ q_va f z le = 256) := by
  have h1 := h.1
  by_cases g : le < z
  · left
    refine ⟨g, ?_⟩
    unfold q_va
    rw [if_pos (by omega)]
    exact h.2.2 g
  · right
    refine ⟨by omega, ?_⟩
    unfold q_va
    rw [if_neg (by omega)]
theorem q_ln_on {f : Nat → Int} {z le p q : Int} (h : q_ln f z le p) (hq : p ≤ q ∧ q ≤ le) : q_ln f z le q := ⟨by have := h.1; omega, fun i h1 h2 => h.2.1 i (by omega) h2, h.2.2⟩
theorem q_nl_eq {f : Nat → Int} {z le : Int} : ∀ (k : Nat) (p v : Int), q_ln f z le p → q_nl f z k p v = numF f le k p v := by
  intro k
  induction k with
  | zero => intro p v _; rfl
  | succ k ih =>
    intro p v h
    show (if 48 ≤ q_va f z p ∧ q_va f z p ≤ 57 then q_nl f z k (p + 1) (v * 10 + q_va f z p - 48) else (v, p)) = (if p < le ∧ 48 ≤ f p.toNat ∧ f p.toNat ≤ 57 then numF f le k (p + 1) (10 * v + f p.toNat - 48) else (v, p))
    have h1 := h.1
    by_cases g : p < le
    · rw [q_ln_va h ⟨Int.le_refl _, g⟩]
      by_cases g2 : 48 ≤ f p.toNat ∧ f p.toNat ≤ 57
      · rw [if_pos g2, if_pos ⟨g, g2⟩, ih (p + 1) _ (q_ln_on h (by omega)), show v * 10 + f p.toNat - 48 = 10 * v + f p.toNat - 48 by omega]
      · rw [if_neg g2, if_neg (fun q => g2 q.2)]
    · have e : p = le := by omega
      have hva : ¬ (48 ≤ q_va f z p ∧ q_va f z p ≤ 57) := by
        rw [e]
        rcases q_ln_end h with ⟨-, e⟩ | ⟨-, e⟩ <;> omega
      rw [if_neg hva, if_neg (by omega)]
theorem numF_s (f : Nat → Int) (le : Int) : ∀ (k : Nat) (p v : Int), (numF f le k p v).2 < p + k → numF f le (k + 1) p v = numF f le k p v := by
  intro k
  induction k with
  | zero => intro p v h; exact absurd h (by show ¬ p < p + 0; omega)
  | succ k ih =>
    intro p v h
    by_cases g : p < le ∧ 48 ≤ f p.toNat ∧ f p.toNat ≤ 57
    · have e : ∀ j, numF f le (j + 1) p v = numF f le j (p + 1) (10 * v + f p.toNat - 48) := fun j => by show (if _ then _ else _) = _; rw [if_pos g]
      rw [e (k + 1), e k]
      rw [e k] at h
      exact ih _ _ (by push_cast at h; omega)
    · have e : ∀ j, numF f le (j + 1) p v = (v, p) := fun j => by show (if _ then _ else _) = _; rw [if_neg g]
      rw [e (k + 1), e k]
theorem numF_6 (f : Nat → Int) (le : Int) : ∀ (k : Nat) (p v : Int), (numF f le k p v).2 = p + k → (numF f le (k + 1) p v).2 = p + k + 1 ∧ ((p + k < le) ∧ 48 ≤ f (p + k).toNat ∧ f (p + k).toNat ≤ 57) ∨ numF f le (k + 1) p v = numF f le k p v := by
  intro k
  induction k with
  | zero =>
    intro p v _
    by_cases g : p < le ∧ 48 ≤ f p.toNat ∧ f p.toNat ≤ 57
    · left
      refine ⟨?_, ?_⟩
      · show (if p < le ∧ 48 ≤ f p.toNat ∧ f p.toNat ≤ 57 then (10 * v + f p.toNat - 48, p + 1) else (v, p)).2 = p + 0 + 1
        rw [if_pos g]; show p + 1 = _; omega
      · rw [show p + ((0 : Nat) : Int) = p by omega]; exact g
    · right
      show (if p < le ∧ 48 ≤ f p.toNat ∧ f p.toNat ≤ 57 then (10 * v + f p.toNat - 48, p + 1) else (v, p)) = (v, p)
      rw [if_neg g]
  | succ k ih =>
    intro p v h
    by_cases g : p < le ∧ 48 ≤ f p.toNat ∧ f p.toNat ≤ 57
    · have e : ∀ j, numF f le (j + 1) p v = numF f le j (p + 1) (10 * v + f p.toNat - 48) := fun j => by show (if _ then _ else _) = _; rw [if_pos g]
      rw [e (k + 1), e k]
      rw [e k] at h
      rcases ih (p + 1) (10 * v + f p.toNat - 48) (by push_cast at h; omega) with ⟨h1, h2⟩ | h1
      · left
        rw [show p + ((k + 1 : Nat) : Int) = p + 1 + (k : Int) by push_cast; omega]
        exact ⟨h1, h2⟩
      · right; exact h1
    · right
      have e : ∀ j, numF f le (j + 1) p v = (v, p) := fun j => by show (if _ then _ else _) = _; rw [if_neg g]
      rw [e (k + 1), e k]
/-- a number, and what stands behind it -/
theorem q_num {f : Nat → Int} {z le p c : Int} (h : q_ln f z le p) (hc : c = 32 ∨ c = 10) : ((q_nr f z p ≠ -1 ∧ q_va f z (q_np f z p) = c) ↔ (p_nok f le p ∧ ((c = 32 ∧ (p_num f le p).2 < le ∧ f ((p_num f le p).2).toNat = 32) ∨ (c = 10 ∧ (p_num f le p).2 = le ∧ le < z)))) ∧ ((q_nr f z p ≠ -1 ∧ q_va f z (q_np f z p) = c) → q_np f z p = (p_num f le p).2 ∧ q_nr f z p = (p_num f le p).1) := by
  have h1 := h.1
  have en : q_nl f z 6 p 0 = numF f le 6 p 0 := q_nl_eq 6 p 0 h
  have enp : q_np f z p = (numF f le 6 p 0).2 := by unfold q_np; rw [en]
  have hl5 := p_num_le f le p
  have hv5 := p_num_v f le p
  have hvp : q_va f z p = 48 → (p < le ∧ f p.toNat = 48) := fun hq => by
    by_cases g : p < le
    · rw [q_ln_va h ⟨Int.le_refl _, g⟩] at hq; exact ⟨g, hq⟩
    · have e : p = le := by omega
      rw [e] at hq
      rcases q_ln_end h with ⟨-, e⟩ | ⟨-, e⟩ <;> omega
  have hvp2 : p < le → q_va f z p = f p.toNat := fun g => q_ln_va h ⟨Int.le_refl _, g⟩
  have same : numF f le 6 p 0 = p_num f le p → (((q_nr f z p ≠ -1 ∧ q_va f z (q_np f z p) = c) ↔ (p_nok f le p ∧ ((c = 32 ∧ (p_num f le p).2 < le ∧ f ((p_num f le p).2).toNat = 32) ∨ (c = 10 ∧ (p_num f le p).2 = le ∧ le < z)))) ∧ ((q_nr f z p ≠ -1 ∧ q_va f z (q_np f z p) = c) → q_np f z p = (p_num f le p).2 ∧ q_nr f z p = (p_num f le p).1)) := by
    intro e
    rw [e] at enp
    have hnr : q_nr f z p = if q_np f z p - p < 1 ∨ 5 < q_np f z p - p ∨ (1 < q_np f z p - p ∧ q_va f z p = 48) then -1 else (p_num f le p).1 := by unfold q_nr; rw [en, e]
    have hok : q_nr f z p ≠ -1 ↔ p_nok f le p := by
      unfold p_nok
      rw [hnr]
      constructor
      · intro hne
        split at hne
        · exact absurd rfl hne
        · rename_i g
          refine ⟨by omega, ?_⟩
          by_cases g2 : (p_num f le p).2 = p + 1
          · exact Or.inl g2
          · right
            intro h48
            have hlt : p < le := by omega
            rw [hvp2 hlt] at g
            omega
      · rintro ⟨g1, g2⟩
        rw [if_neg]
        · omega
        · rintro (q | q | ⟨q1, q2⟩)
          · omega
          · omega
          · have := hvp q2
            omega
    have hva : q_va f z (q_np f z p) = c ↔ ((c = 32 ∧ (p_num f le p).2 < le ∧ f ((p_num f le p).2).toNat = 32) ∨ (c = 10 ∧ (p_num f le p).2 = le ∧ le < z)) := by
      rw [enp]
      by_cases g : (p_num f le p).2 < le
      · have e1 := q_ln_va h (i := (p_num f le p).2) ⟨by omega, g⟩
        have e2 := h.2.1 (p_num f le p).2 (by omega) g
        rw [e1]
        constructor
        · intro hq; rcases hc with hc | hc
          · left; exact ⟨hc, g, by omega⟩
          · omega
        · rintro (⟨q1, -, q2⟩ | ⟨-, q2, -⟩) <;> omega
      · have e0 : (p_num f le p).2 = le := by omega
        rw [e0]
        rcases q_ln_end h with ⟨e1, e2⟩ | ⟨e1, e2⟩
        · rw [e2]
          constructor
          · intro hq; right; exact ⟨hq.symm, rfl, e1⟩
          · rintro (⟨-, q, -⟩ | ⟨q, -, -⟩) <;> omega
        · rw [e2]
          constructor
          · intro hq; omega
          · rintro (⟨-, q, -⟩ | ⟨-, -, q⟩) <;> omega
    refine ⟨by rw [hok, hva], fun g => ⟨enp, ?_⟩⟩
    have g1 := g.1
    rw [hnr] at g1 ⊢
    split at g1
    · exact absurd rfl g1
    · rename_i q
      rw [if_neg q]
  by_cases g5 : (p_num f le p).2 < p + 5
  · exact same (numF_s f le 5 p 0 (by push_cast; exact g5))
  · have e5 : (numF f le 5 p 0).2 = p + ((5 : Nat) : Int) := by
      have : (p_num f le p).2 = p + 5 := by omega
      push_cast
      exact this
    rcases numF_6 f le 5 p 0 e5 with ⟨g6, g7, g8, g9⟩ | g6
    · have hno : q_nr f z p = -1 := by
        unfold q_nr
        rw [if_pos]
        right; left
        rw [enp, g6]
        push_cast
        omega
      have e5' : (p_num f le p).2 = p + 5 := by omega
      refine ⟨⟨fun q => absurd hno q.1, fun q => ?_⟩, fun q => absurd hno q.1⟩
      exfalso
      push_cast at g7 g8 g9
      rcases q.2 with ⟨-, -, q2⟩ | ⟨-, q2, -⟩
      · rw [e5'] at q2; omega
      · omega
    · exact same g6
/-- a line of a letter and a number -/
theorem q_tell {f : Nat → Int} {z p c : Int} (hp : 0 ≤ p) (hz : p ≤ z) (hc : c ≠ 10 ∧ c ≠ 256) : (q_tg f z p c ↔ p_tell f z p c) ∧ (q_tg f z p c → q_nr f z (p + 2) = p_tv f z p ∧ q_eat f z p = p_eol f z p + 1) := by
  obtain ⟨s1, s2, s3⟩ := p_eol_sp (f := f) hp hz
  have hl : q_ln f z (p_eol f z p) p := ⟨⟨hp, s1.1, s1.2⟩, s2, s3⟩
  have head : (q_va f z p = c ∧ q_va f z (p + 1) = 32) ↔ ((p < p_eol f z p ∧ f p.toNat = c) ∧ (p + 1 < p_eol f z p ∧ f (p + 1).toNat = 32)) := by
    constructor
    · rintro ⟨g1, g2⟩
      have g3 : p < p_eol f z p := by
        by_cases g : p < p_eol f z p
        · exact g
        · exfalso
          rw [show p = p_eol f z p by omega] at g1
          rcases q_ln_end hl with ⟨-, e⟩ | ⟨-, e⟩ <;> omega
      have g4 : p + 1 < p_eol f z p := by
        by_cases g : p + 1 < p_eol f z p
        · exact g
        · exfalso
          rw [show p + 1 = p_eol f z p by omega] at g2
          rcases q_ln_end hl with ⟨-, e⟩ | ⟨-, e⟩ <;> omega
      rw [q_ln_va hl ⟨by omega, g3⟩] at g1
      rw [q_ln_va hl ⟨by omega, g4⟩] at g2
      exact ⟨⟨g3, g1⟩, g4, g2⟩
    · rintro ⟨⟨g3, g1⟩, g4, g2⟩
      exact ⟨by rw [q_ln_va hl ⟨by omega, g3⟩]; exact g1, by rw [q_ln_va hl ⟨by omega, g4⟩]; exact g2⟩
  refine ⟨⟨fun h => ?_, fun h => ?_⟩, fun h => ?_⟩
  · obtain ⟨g1, g2, g3, g4⟩ := h
    obtain ⟨k1, k2⟩ := head.mp ⟨g1, g2⟩
    have hn := q_num (c := 10) (q_ln_on hl (q := p + 2) (by omega)) (Or.inr rfl)
    obtain ⟨n1, n2⟩ := hn.1.mp ⟨g3, g4⟩
    rcases n2 with ⟨q, -⟩ | ⟨-, q1, q2⟩
    · exact absurd q (by decide)
    · exact ⟨q2, k1, k2, n1, q1⟩
  · obtain ⟨g0, k1, k2, n1, q1⟩ := h
    obtain ⟨g1, g2⟩ := head.mpr ⟨k1, k2⟩
    have hn := q_num (c := 10) (q_ln_on hl (q := p + 2) (by omega)) (Or.inr rfl)
    obtain ⟨g3, g4⟩ := hn.1.mpr ⟨n1, Or.inr ⟨rfl, q1, g0⟩⟩
    exact ⟨g1, g2, g3, g4⟩
  · obtain ⟨g1, g2, g3, g4⟩ := h
    obtain ⟨k1, k2⟩ := head.mp ⟨g1, g2⟩
    have hn := q_num (c := 10) (q_ln_on hl (q := p + 2) (by omega)) (Or.inr rfl)
    obtain ⟨e1, e2⟩ := hn.2 ⟨g3, g4⟩
    obtain ⟨n1, n2⟩ := hn.1.mp ⟨g3, g4⟩
    rcases n2 with ⟨q, -⟩ | ⟨-, q1, q2⟩
    · exact absurd q (by decide)
    · refine ⟨e2, ?_⟩
      show q_np f z (p + 2) + 1 = _
      rw [e1, q1]
/-- a row -/
theorem q_rowq {f : Nat → Int} {z p x ab : Int} (hp : 0 ≤ p) (hz : p ≤ z) (hx : 0 ≤ x) (hab : 0 ≤ ab) : (q_rw f z x ab p ↔ (p_row f z p ∧ (1 ≤ p_rn f z p ∧ p_rn f z p ≤ 40) ∧ ab < p_rn f z p ∧ p_rpv f z p < x)) ∧ (q_rw f z x ab p → q_nr f z p = p_rn f z p ∧ q_pl f z p = p_rpv f z p ∧ q_re f z p = p_eol f z p) := by
  obtain ⟨s1, s2, s3⟩ := p_eol_sp (f := f) hp hz
  have hl : q_ln f z (p_eol f z p) p := ⟨⟨hp, s1.1, s1.2⟩, s2, s3⟩
  obtain ⟨le, hle⟩ : ∃ v, v = p_eol f z p := ⟨_, rfl⟩
  rw [← hle] at hl s1 s2 s3
  have hn := q_num (c := 32) hl (Or.inl rfl)
  obtain ⟨q, hq⟩ : ∃ v, v = (p_num f le p).2 := ⟨_, rfl⟩
  have hpq : p_q f z p = q := by rw [hq, hle]; rfl
  have hrn : p_rn f z p = (p_num f le p).1 := by rw [hle]; rfl
  have hql := p_num_le f le p
  rw [← hq] at hn hql
  have key : (q_nr f z p ≠ -1 ∧ q_va f z (q_np f z p) = 32) ↔ (p_nok f le p ∧ q < le ∧ f q.toNat = 32) := by
    rw [hn.1]
    constructor
    · rintro ⟨g1, ⟨-, g2, g3⟩ | ⟨g2, -⟩⟩
      · exact ⟨g1, g2, g3⟩
      · exact absurd g2 (by decide)
    · rintro ⟨g1, g2, g3⟩
      exact ⟨g1, Or.inl ⟨rfl, g2, g3⟩⟩
  have dash : q < le → (q_va f z (q + 1) = 45 ↔ (q + 1 < le ∧ f (q + 1).toNat = 45)) := fun g => by
    constructor
    · intro h
      have g2 : q + 1 < le := by
        by_cases g2 : q + 1 < le
        · exact g2
        · exfalso
          rw [show q + 1 = le by omega] at h
          rcases q_ln_end hl with ⟨-, e⟩ | ⟨-, e⟩ <;> omega
      rw [q_ln_va hl ⟨by omega, g2⟩] at h
      exact ⟨g2, h⟩
    · rintro ⟨g2, h⟩
      rw [q_ln_va hl ⟨by omega, g2⟩]; exact h
  have dashp : p_dash f z p ↔ (q + 1 < le ∧ f (q + 1).toNat = 45) := by unfold p_dash; rw [hpq, ← hle]
  have row : p_row f z p ↔ (le < z ∧ p_nok f le p ∧ (q < le ∧ f q.toNat = 32) ∧ (((q + 1 < le ∧ f (q + 1).toNat = 45) ∧ q + 2 = le) ∨ (¬ (q + 1 < le ∧ f (q + 1).toNat = 45) ∧ p_nok f le (q + 1) ∧ (p_num f le (q + 1)).2 = le))) := by
    unfold p_row
    rw [hpq, ← hle, dashp]
  have rpv : p_rpv f z p = if q + 1 < le ∧ f (q + 1).toNat = 45 then -1 else (p_num f le (q + 1)).1 := by
    unfold p_rpv
    rw [hpq, ← hle]
  have both : (q_nr f z p ≠ -1 ∧ q_va f z (q_np f z p) = 32) → q_np f z p = q ∧ q_nr f z p = (p_num f le p).1 := hn.2
  have tail : q < le → q_np f z p = q → (((q_va f z (q_np f z p + 1) = 45 ∨ (q_nr f z (q_np f z p + 1) ≠ -1 ∧ q_nr f z (q_np f z p + 1) < x)) ∧ q_va f z (q_re f z p) = 10) ↔ (le < z ∧ (((q + 1 < le ∧ f (q + 1).toNat = 45) ∧ q + 2 = le) ∨ (¬ (q + 1 < le ∧ f (q + 1).toNat = 45) ∧ p_nok f le (q + 1) ∧ (p_num f le (q + 1)).2 = le)) ∧ p_rpv f z p < x)) ∧ (((q_va f z (q_np f z p + 1) = 45 ∨ (q_nr f z (q_np f z p + 1) ≠ -1 ∧ q_nr f z (q_np f z p + 1) < x)) ∧ q_va f z (q_re f z p) = 10) → q_pl f z p = p_rpv f z p ∧ q_re f z p = le) := by
    intro hqle hnp
    have hre : q_re f z p = if q_va f z (q + 1) = 45 then q + 2 else q_np f z (q + 1) := by unfold q_re; rw [hnp]
    have hpl : q_pl f z p = if q_va f z (q + 1) = 45 then -1 else q_nr f z (q + 1) := by unfold q_pl; rw [hnp]
    rw [hnp]
    by_cases gd : q_va f z (q + 1) = 45
    · have gd2 := (dash hqle).mp gd
      rw [hre, hpl, rpv, if_pos gd, if_pos gd, if_pos gd2]
      have e : q_va f z (q + 2) = 10 ↔ (le < z ∧ q + 2 = le) := by
        constructor
        · intro h
          by_cases g2 : q + 2 < le
          · rw [q_ln_va hl ⟨by omega, g2⟩] at h
            exact absurd h (s2 (q + 2) (by omega) g2)
          · have e2 : q + 2 = le := by omega
            rw [e2] at h
            rcases q_ln_end hl with ⟨e3, e4⟩ | ⟨e3, e4⟩
            · exact ⟨e3, e2⟩
            · omega
        · rintro ⟨g1, g2⟩
          rw [g2]
          rcases q_ln_end hl with ⟨e3, e4⟩ | ⟨e3, e4⟩
          · exact e4
          · omega
      constructor
      · constructor
        · rintro ⟨-, h⟩
          have := e.mp h
          exact ⟨this.1, Or.inl ⟨gd2, this.2⟩, by omega⟩
        · rintro ⟨g1, g2 | g2, -⟩
          · exact ⟨Or.inl gd, e.mpr ⟨g1, g2.2⟩⟩
          · exact absurd gd2 g2.1
      · rintro ⟨-, h⟩
        exact ⟨rfl, (e.mp h).2⟩
    · have gd2 : ¬ (q + 1 < le ∧ f (q + 1).toNat = 45) := fun g => gd ((dash hqle).mpr g)
      rw [hre, hpl, rpv, if_neg gd, if_neg gd, if_neg gd2]
      have hn2 := q_num (c := 10) (q_ln_on hl (q := q + 1) (by omega)) (Or.inr rfl)
      constructor
      · constructor
        · rintro ⟨g | g, h⟩
          · exact absurd g gd
          · obtain ⟨n1, n2⟩ := hn2.1.mp ⟨g.1, h⟩
            have n3 := (hn2.2 ⟨g.1, h⟩).2
            rcases n2 with ⟨w, -⟩ | ⟨-, w1, w2⟩
            · exact absurd w (by decide)
            · exact ⟨w2, Or.inr ⟨gd2, n1, w1⟩, by omega⟩
        · rintro ⟨g1, g2 | g2, g3⟩
          · exact absurd g2.1 gd2
          · have n1 := hn2.1.mpr ⟨g2.2.1, Or.inr ⟨rfl, g2.2.2, g1⟩⟩
            have n3 := (hn2.2 n1).2
            exact ⟨Or.inr ⟨n1.1, by omega⟩, n1.2⟩
      · rintro ⟨g | g, h⟩
        · exact absurd g gd
        · obtain ⟨n1, n2⟩ := hn2.1.mp ⟨g.1, h⟩
          obtain ⟨n3, n4⟩ := hn2.2 ⟨g.1, h⟩
          rcases n2 with ⟨w, -⟩ | ⟨-, w1, w2⟩
          · exact absurd w (by decide)
          · exact ⟨n4, by rw [n3, w1]⟩
  have hv5 := p_num_v f le p
  constructor
  · constructor
    · rintro ⟨⟨g1, g2⟩, g3, g4, g5⟩
      have hk := key.mp ⟨by omega, g3⟩
      obtain ⟨b1, b2⟩ := both ⟨by omega, g3⟩
      obtain ⟨t1, -⟩ := tail hk.2.1 b1
      obtain ⟨w1, w2, w3⟩ := t1.mp ⟨g4, g5⟩
      exact ⟨row.mpr ⟨w1, hk.1, hk.2, w2⟩, by rw [hrn]; omega, by rw [hrn]; omega, w3⟩
    · rintro ⟨g1, g2, g3, g4⟩
      obtain ⟨w1, w2, w3, w4⟩ := row.mp g1
      have hk := key.mpr ⟨w2, w3⟩
      obtain ⟨b1, b2⟩ := both hk
      obtain ⟨t1, -⟩ := tail w3.1 b1
      obtain ⟨k1, k2⟩ := t1.mpr ⟨w1, w4, g4⟩
      exact ⟨by rw [hrn] at g2 g3; omega, hk.2, k1, k2⟩
  · rintro ⟨⟨g1, g2⟩, g3, g4, g5⟩
    have hk := key.mp ⟨by omega, g3⟩
    obtain ⟨b1, b2⟩ := both ⟨by omega, g3⟩
    obtain ⟨-, t2⟩ := tail hk.2.1 b1
    obtain ⟨e1, e2⟩ := t2 ⟨g4, g5⟩
    exact ⟨by rw [b2, hrn], e1, e2.trans hle⟩
end
section
/-- a record -/
theorem q_recq {f : Nat → Int} {z n p x : Int} (hp : 0 ≤ p) (hz : p ≤ z) (hx : x ≤ z) (hn : 1 ≤ n) : (q_rec f z n p x ↔ p_rec f z p n x) ∧ (q_rec f z n p x → q_len f z p = p_rl f z p ∧ q_by f z p = p_eol f z p + 1) := by
  obtain ⟨s1, s2, s3⟩ := p_eol_sp (f := f) hp hz
  have hl : q_ln f z (p_eol f z p) p := ⟨⟨hp, s1.1, s1.2⟩, s2, s3⟩
  obtain ⟨le, hle⟩ : ∃ v, v = p_eol f z p := ⟨_, rfl⟩
  unfold p_rec p_rl
  rw [← hle] at hl s1 s2 s3 ⊢
  have head : (q_va f z p = 111 ∧ q_va f z (p + 1) = 32) ↔ ((p < le ∧ f p.toNat = 111) ∧ (p + 1 < le ∧ f (p + 1).toNat = 32)) := by
    constructor
    · rintro ⟨g1, g2⟩
      have g3 : p < le := by
        by_cases g : p < le
        · exact g
        · exfalso
          rw [show p = le by omega] at g1
          rcases q_ln_end hl with ⟨-, e⟩ | ⟨-, e⟩ <;> omega
      have g4 : p + 1 < le := by
        by_cases g : p + 1 < le
        · exact g
        · exfalso
          rw [show p + 1 = le by omega] at g2
          rcases q_ln_end hl with ⟨-, e⟩ | ⟨-, e⟩ <;> omega
      rw [q_ln_va hl ⟨by omega, g3⟩] at g1
      rw [q_ln_va hl ⟨by omega, g4⟩] at g2
      exact ⟨⟨g3, g1⟩, g4, g2⟩
    · rintro ⟨⟨g3, g1⟩, g4, g2⟩
      exact ⟨by rw [q_ln_va hl ⟨by omega, g3⟩]; exact g1, by rw [q_ln_va hl ⟨by omega, g4⟩]; exact g2⟩
  obtain ⟨q, hq⟩ : ∃ v, v = (p_num f le (p + 2)).2 := ⟨_, rfl⟩
  have ql := p_num_le f le (p + 2)
  have fwd : q_rec f z n p x → ((le < z ∧ (p < le ∧ f p.toNat = 111) ∧ (p + 1 < le ∧ f (p + 1).toNat = 32) ∧ p_nok f le (p + 2) ∧ (p_num f le (p + 2)).1 = n ∧ ((p_num f le (p + 2)).2 < le ∧ f ((p_num f le (p + 2)).2).toNat = 32) ∧ p_nok f le ((p_num f le (p + 2)).2 + 1) ∧ (p_num f le ((p_num f le (p + 2)).2 + 1)).2 = le ∧ (p_num f le ((p_num f le (p + 2)).2 + 1)).1 ≤ 120 ∧ le + 1 + (p_num f le ((p_num f le (p + 2)).2 + 1)).1 < x ∧ f (le + 1 + (p_num f le ((p_num f le (p + 2)).2 + 1)).1).toNat = 10)) ∧ q_len f z p = (p_num f le ((p_num f le (p + 2)).2 + 1)).1 ∧ q_by f z p = le + 1 := by
    rintro ⟨g1, g2, g3, g4, g5, g6, g7, g8⟩
    obtain ⟨k1, k2⟩ := head.mp ⟨g1, g2⟩
    have n1 := q_num (c := 32) (q_ln_on hl (q := p + 2) (by omega)) (Or.inl rfl)
    obtain ⟨a1, a2⟩ := n1.1.mp ⟨by omega, g4⟩
    obtain ⟨a3, a4⟩ := n1.2 ⟨by omega, g4⟩
    rcases a2 with ⟨-, a2⟩ | ⟨w, -⟩
    · have hla : q_la f z p = (p_num f le (p + 2)).2 + 1 := by unfold q_la; rw [a3]
      have n2 := q_num (c := 10) (q_ln_on hl (q := (p_num f le (p + 2)).2 + 1) (by omega)) (Or.inr rfl)
      have e5 : q_len f z p = q_nr f z ((p_num f le (p + 2)).2 + 1) := by unfold q_len; rw [hla]
      rw [hla] at g6
      obtain ⟨b1, b2⟩ := n2.1.mp ⟨by rw [← e5]; exact g5.1, g6⟩
      obtain ⟨b3, b4⟩ := n2.2 ⟨by rw [← e5]; exact g5.1, g6⟩
      rcases b2 with ⟨w, -⟩ | ⟨-, b2, b5⟩
      · exact absurd w (by decide)
      · have hby : q_by f z p = le + 1 := by unfold q_by; rw [hla, b3, b2]
        have hlen : q_len f z p = (p_num f le ((p_num f le (p + 2)).2 + 1)).1 := by rw [e5, b4]
        have hpos := p_num_v f le ((p_num f le (p + 2)).2 + 1)
        rw [hby, hlen] at g7 g8
        rw [hlen] at g5
        have g9 : q_va f z (le + 1 + (p_num f le ((p_num f le (p + 2)).2 + 1)).1) = f (le + 1 + (p_num f le ((p_num f le (p + 2)).2 + 1)).1).toNat := by unfold q_va; rw [if_pos (by omega)]
        exact ⟨⟨b5, k1, k2, a1, by omega, a2, b1, b2, g5.2, g7, by rw [← g9]; exact g8⟩, hlen, hby⟩
    · exact absurd w (by decide)
  refine ⟨⟨fun h => (fwd h).1, ?_⟩, fun h => (fwd h).2⟩
  rintro ⟨h0, k1, k2, a1, a4, a2, b1, b2, b6, b7, b8⟩
  obtain ⟨g1, g2⟩ := head.mpr ⟨k1, k2⟩
  have n1 := q_num (c := 32) (q_ln_on hl (q := p + 2) (by omega)) (Or.inl rfl)
  have g34 := n1.1.mpr ⟨a1, Or.inl ⟨rfl, a2⟩⟩
  obtain ⟨c1, c2⟩ := n1.2 g34
  have hla : q_la f z p = (p_num f le (p + 2)).2 + 1 := by unfold q_la; rw [c1]
  have n2 := q_num (c := 10) (q_ln_on hl (q := (p_num f le (p + 2)).2 + 1) (by omega)) (Or.inr rfl)
  have g56 := n2.1.mpr ⟨b1, Or.inr ⟨rfl, b2, h0⟩⟩
  obtain ⟨d1, d2⟩ := n2.2 g56
  have e5 : q_len f z p = q_nr f z ((p_num f le (p + 2)).2 + 1) := by unfold q_len; rw [hla]
  have hby : q_by f z p = le + 1 := by unfold q_by; rw [hla, d1, b2]
  have hpos := p_num_v f le ((p_num f le (p + 2)).2 + 1)
  have hlen : q_len f z p = (p_num f le ((p_num f le (p + 2)).2 + 1)).1 := by rw [e5, d2]
  refine ⟨g1, g2, by omega, g34.2, ⟨by rw [e5]; exact g56.1, by rw [hlen]; exact b6⟩, by rw [hla]; exact g56.2, by rw [hby, hlen]; exact b7, ?_⟩
  rw [hby, hlen]
  unfold q_va
  rw [if_pos (by omega)]
  exact b8
/-! how many digits a number has -/
theorem q_nl_lo (fb : Nat → Int) (fn : Int) : ∀ (k : Nat) (p v : Int), 0 ≤ v → ∃ j : Nat, (q_nl fb fn k p v).2 = p + j ∧ v * 10 ^ j ≤ (q_nl fb fn k p v).1 := by
  intro k
  induction k with
  | zero => intro p v hv; exact ⟨0, by show p = p + 0; omega, by show v * 1 ≤ v; omega⟩
  | succ k ih =>
    intro p v hv
    by_cases g : 48 ≤ q_va fb fn p ∧ q_va fb fn p ≤ 57
    · obtain ⟨j, h1, h2⟩ := ih (p + 1) (v * 10 + q_va fb fn p - 48) (by omega)
      have e : q_nl fb fn (k + 1) p v = q_nl fb fn k (p + 1) (v * 10 + q_va fb fn p - 48) := by show (if _ then _ else _) = _; rw [if_pos g]
      rw [e]
      refine ⟨j + 1, by rw [h1]; push_cast; omega, ?_⟩
      have h6 : (v * 10) * 10 ^ j ≤ (v * 10 + q_va fb fn p - 48) * 10 ^ j := Int.mul_le_mul_of_nonneg_right (by omega) (Int.le_of_lt (Int.pow_pos (by omega)))
      have h7 : v * 10 ^ (j + 1) = (v * 10) * 10 ^ j := by rw [Int.pow_succ, Int.mul_comm (10 ^ j) 10, Int.mul_assoc]
      omega
    · have e : q_nl fb fn (k + 1) p v = (v, p) := by show (if _ then _ else _) = _; rw [if_neg g]
      rw [e]
      exact ⟨0, by show p = p + 0; omega, by show v * 1 ≤ v; omega⟩
theorem q_dgs {fb : Nat → Int} {fn p : Int} (h : q_nr fb fn p ≠ -1) (h9 : q_nr fb fn p ≤ 999) : q_np fb fn p = p + x_dgs (q_nr fb fn p) := by
  have hnr : q_nr fb fn p = (q_nl fb fn 6 p 0).1 ∧ ¬ (q_np fb fn p - p < 1 ∨ 5 < q_np fb fn p - p ∨ (1 < q_np fb fn p - p ∧ q_va fb fn p = 48)) := by
    unfold q_nr at h ⊢
    split at h
    · exact absurd rfl h
    · rename_i g
      rw [if_neg g]
      exact ⟨rfl, g⟩
  obtain ⟨e, g⟩ := hnr
  obtain ⟨j, j1, j2, -, j4, j5⟩ := q_nl_r fb fn 6 p 0 (by omega)
  have hnp : q_np fb fn p = p + j := j2
  by_cases gd : 48 ≤ q_va fb fn p ∧ q_va fb fn p ≤ 57
  · have e6 : q_nl fb fn 6 p 0 = q_nl fb fn 5 (p + 1) (0 * 10 + q_va fb fn p - 48) := by show (if _ then _ else _) = _; rw [if_pos gd]
    obtain ⟨i, i1, i2⟩ := q_nl_lo fb fn 5 (p + 1) (0 * 10 + q_va fb fn p - 48) (by omega)
    rw [← e6] at i1 i2
    have hij : j = i + 1 := by omega
    have hlow : 1 < j → (10 : Int) ^ i ≤ (q_nl fb fn 6 p 0).1 := fun hj => by
      have : (1 : Int) * 10 ^ i ≤ (0 * 10 + q_va fb fn p - 48) * 10 ^ i := Int.mul_le_mul_of_nonneg_right (by omega) (Int.le_of_lt (Int.pow_pos (by omega)))
      omega
    rw [e] at h9 ⊢
    rw [hnp]
    unfold x_dgs
    rcases (show j = 1 ∨ j = 2 ∨ j = 3 ∨ j = 4 ∨ j = 5 by omega) with q | q | q | q | q
    · subst q
      rw [if_pos (by simp only [Int.reducePow] at j5; omega)]; rfl
    · subst q
      obtain rfl : i = 1 := by omega
      have := hlow (by omega)
      simp only [Int.reducePow] at j5 this
      rw [if_neg (by omega), if_pos (by omega)]; rfl
    · subst q
      obtain rfl : i = 2 := by omega
      have := hlow (by omega)
      simp only [Int.reducePow] at j5 this
      rw [if_neg (by omega), if_neg (by omega)]; rfl
    · subst q
      obtain rfl : i = 3 := by omega
      have := hlow (by omega)
      simp only [Int.reducePow] at this
      omega
    · subst q
      obtain rfl : i = 4 := by omega
      have := hlow (by omega)
      simp only [Int.reducePow] at this
      omega
  · exfalso
    have e6 : q_nl fb fn 6 p 0 = (0, p) := by show (if _ then _ else _) = _; rw [if_neg gd]
    have : q_np fb fn p = p := by unfold q_np; rw [e6]
    omega
/-- where a record's bytes begin, by its numbers -/
theorem q_by_dgs {fb : Nat → Int} {fn n p x : Int} (h : q_rec fb fn n p x) (hn : 1 ≤ n ∧ n ≤ 40) : q_by fb fn p = p + 4 + x_dgs n + x_dgs (q_len fb fn p) := by
  obtain ⟨h1, h2, h3, h4, h5, h6, h7, h8⟩ := h
  have a := q_dgs (fb := fb) (fn := fn) (p := p + 2) (by omega) (by omega)
  have e2 : q_la fb fn p = q_np fb fn (p + 2) + 1 := rfl
  have b := q_dgs (fb := fb) (fn := fn) (p := q_la fb fn p) h5.1 (by have := h5.2; show q_len fb fn p ≤ 999; omega)
  have e3 : q_by fb fn p = q_np fb fn (q_la fb fn p) + 1 := rfl
  have e4 : q_len fb fn p = q_nr fb fn (q_la fb fn p) := rfl
  rw [h3] at a
  rw [e4]
  omega
end
section
/-! A PART, read by both -/
theorem q_rows {f : Nat → Int} {z x : Int} (hx0 : 0 ≤ x) (hxz : x < z) (ht : q_tg f z x 120) : ∀ j : Nat, ((∀ i, i < j → q_rwi f z x (q_eat f z x) i) ↔ (∀ i, i < j → p_good f z x i)) ∧ ((∀ i, i < j → q_rwi f z x (q_eat f z x) i) → q_rat f z (q_eat f z x) j = p_at f z x j ∧ q_ab f z (q_eat f z x) j = p_lastn f z x j ∧ ∀ i, i < j → q_nr f z (q_rat f z (q_eat f z x) i) = p_rn f z (p_at f z x i) ∧ q_pl f z (q_rat f z (q_eat f z x) i) = p_rpv f z (p_at f z x i)) := by
  have htl := q_tell (f := f) (z := z) (c := 120) hx0 (by omega) (by decide)
  have htr := q_tg_r ht (by decide)
  have he : q_eat f z x = p_eol f z x + 1 := (htl.2 ht).2
  intro j
  induction j with
  | zero =>
    refine ⟨⟨fun _ i hi => absurd hi (by omega), fun _ i hi => absurd hi (by omega)⟩, fun _ => ⟨he, rfl, fun i hi => absurd hi (by omega)⟩⟩
  | succ j ih =>
    obtain ⟨i1, i2⟩ := ih
    have step : (∀ i, i < j → q_rwi f z x (q_eat f z x) i) → ((q_rwi f z x (q_eat f z x) j ↔ p_good f z x j) ∧ (q_rwi f z x (q_eat f z x) j → q_nr f z (q_rat f z (q_eat f z x) j) = p_rn f z (p_at f z x j) ∧ q_pl f z (q_rat f z (q_eat f z x) j) = p_rpv f z (p_at f z x j) ∧ q_re f z (q_rat f z (q_eat f z x) j) = p_eol f z (p_at f z x j))) := by
      intro hall
      obtain ⟨e1, e2, -⟩ := i2 hall
      have hr := q_rat_r (x := x) (show 0 ≤ q_eat f z x ∧ q_eat f z x ≤ z by omega) j hall
      have hq := q_rowq (f := f) (z := z) (p := q_rat f z (q_eat f z x) j) (x := x) (ab := q_ab f z (q_eat f z x) j) hr.1.1 hr.1.2 hx0 hr.2.1
      unfold q_rwi p_good
      rw [e1, e2] at hq
      rw [e1, e2]
      exact hq
    refine ⟨⟨fun h i hi => ?_, fun h i hi => ?_⟩, fun h => ?_⟩
    · have hall := fun i hi => h i (Nat.lt_succ_of_lt hi)
      by_cases g : i = j
      · rw [g]; exact (step hall).1.mp (h j (by omega))
      · exact i1.mp hall i (by omega)
    · have hall := i1.mpr (fun i hi => h i (Nat.lt_succ_of_lt hi))
      by_cases g : i = j
      · rw [g]; exact (step hall).1.mpr (h j (by omega))
      · exact hall i (by omega)
    · have hall := fun i hi => h i (Nat.lt_succ_of_lt hi)
      obtain ⟨e1, e2, e3⟩ := i2 hall
      obtain ⟨s1, s2, s3⟩ := (step hall).2 (h j (by omega))
      refine ⟨?_, ?_, fun i hi => ?_⟩
      · show q_re f z (q_rat f z (q_eat f z x) j) + 1 = _
        rw [s3, p_at_s]
      · show q_nr f z (q_rat f z (q_eat f z x) j) = p_rn f z (p_at f z x j)
        exact s1
      · by_cases g : i = j
        · rw [g]; exact ⟨s1, s2⟩
        · exact e3 i (by omega)
/-- the rows are in order -/
theorem q_mono {f : Nat → Int} {z x p : Int} {j : Nat} (h : ∀ i, i < j → q_rwi f z x p i) : ∀ a b : Nat, a < b → b < j → q_nr f z (q_rat f z p a) < q_nr f z (q_rat f z p b) := by
  intro a b hab hb
  induction b with
  | zero => omega
  | succ b ih =>
    have h1 := (h (b + 1) hb).1.1
    have e : q_ab f z p (b + 1) = q_nr f z (q_rat f z p b) := rfl
    rw [e] at h1
    by_cases g : a = b
    · rw [g]; exact h1
    · have := ih (by omega) (by omega)
      omega
/-- what the rows leave in the table -/
theorem x_rwF_at {f : Nat → Int} {z x p : Int} {S : fS} {r : Nat} (h0 : 0 ≤ p ∧ p ≤ z) : ∀ j : Nat, (∀ i, i < j → q_rwi f z x p i) → (∀ i, i < j → (x_rwF f z S r p j).2 (r + 1) (q_nr f z (q_rat f z p i)).toNat = q_pl f z (q_rat f z p i)) ∧ (∀ n : Nat, (∀ i, i < j → (q_nr f z (q_rat f z p i)).toNat ≠ n) → (x_rwF f z S r p j).2 (r + 1) n = S.2 (r + 1) n) := by
  intro j
  induction j with
  | zero => intro _; exact ⟨fun i hi => absurd hi (by omega), fun _ _ => rfl⟩
  | succ j ih =>
    intro h
    have hall := fun i hi => h i (Nat.lt_succ_of_lt hi)
    obtain ⟨i1, i2⟩ := ih hall
    have e : x_rwF f z S r p (j + 1) = f_p2 (x_rwF f z S r p j) (r + 1) (q_nr f z (q_rat f z p j)).toNat (q_pl f z (q_rat f z p j)) := rfl
    have pos : ∀ i, i < j + 1 → 0 ≤ q_ab f z p i ∧ 0 < q_nr f z (q_rat f z p i) := fun i hi => by
      have a := (q_rat_r h0 i (fun k hk => h k (by omega))).2.1
      have b := (h i hi).1.1
      exact ⟨a, by omega⟩
    rw [e]
    refine ⟨fun i hi => ?_, fun n hn => ?_⟩
    · rw [p2_2]
      by_cases g : i = j
      · rw [g, if_pos ⟨rfl, rfl⟩]
      · have hm := q_mono h i j (by omega) (by omega)
        have p1 := pos i hi
        have p2 := pos j (by omega)
        rw [if_neg (by omega)]
        exact i1 i (by omega)
    · rw [p2_2, if_neg (fun q => hn j (by omega) q.2.symm)]
      exact i2 n (fun i hi => hn i (by omega))
/-- the table T of a part that stands, and its lengths -/
def q_tab (f : Nat → Int) (z x : Int) (T L : Nat → Int) : Prop :=
  (∀ i, i < p_many f z x → T (p_rn f z (p_at f z x i)).toNat = p_rpv f z (p_at f z x i)) ∧ (∀ n : Nat, 1 ≤ n → n ≤ 40 → (∀ i, i < p_many f z x → (p_rn f z (p_at f z x i)).toNat ≠ n) → T n = -2) ∧ (∀ n : Nat, 1 ≤ n → n ≤ 40 → 0 ≤ T n → L n = p_rl f z (T n) ∧ T n + 4 + x_dgs (n : Int) + x_dgs (L n) = p_eol f z (T n) + 1)
theorem x_pf_eq {f : Nat → Int} {z x v pt r fl : Int} {S σ1 : fS} {i : Nat} (hi : i < 60) (hz : 0 ≤ z ∧ z ≤ 12000) (hx : 0 ≤ x ∧ x ≤ 11999) (hxz : x < z) (hct : S.1 192 2 + 1 = pt) (hpt : 1 ≤ pt ∧ pt ≤ 60) (hp : x_pf f z S (194 + 3 * i) x v σ1) (hl : p_look f z x pt r fl) :
    (v = -1 ∧ r ≠ -1 ∧ σ1.1 192 4 = r ∧ σ1.1 (194 + 3 * i) 2 = x ∧ σ1.1 (194 + 3 * i) 3 = p_end f z x ∧ q_tab f z x (σ1.2 (194 + 3 * i + 1)) (σ1.2 (194 + 3 * i + 2))) ∨ (v ≠ -1 ∧ r = -1 ∧ fl = v) := by
  obtain ⟨q, hq⟩ : ∃ q, q = 194 + 3 * i := ⟨_, rfl⟩
  rw [← hq] at hp ⊢
  have htl := q_tell (f := f) (z := z) (p := x) (c := 120) hx.1 (by omega) (by decide)
  rcases hp with ⟨ht, hv, y, hy⟩ | ⟨ht, v1, S1, h1, hp⟩
  · right
    rcases hl with ⟨-, h2, h3⟩ | ⟨h2, -⟩
    · exact ⟨by omega, h2, by omega⟩
    · exact absurd (htl.1.mpr h2) ht
  · obtain ⟨htv, hte⟩ := htl.2 ht
    have htp := htl.1.mp ht
    have htr := q_tg_r ht (by decide)
    have hP : 0 ≤ q_eat f z x ∧ q_eat f z x ≤ z := by omega
    have hmany : (q_nr f z (x + 2)).toNat = p_many f z x := by unfold p_many; rw [htv]
    rcases hl with ⟨h2, -⟩ | ⟨-, hl⟩
    · exact absurd htp h2
    · have nr : ∀ (y : Int) (s : fS) (b : Nat), (x_nx s y).1 q b = s.1 q b := fun y s b => by unfold x_nx; rw [p1_1, if_neg (by omega)]
      have s0r := x_S0_r S q x
      unfold q_rf at h1
      rw [nr, s0r] at h1
      rcases h1 with ⟨j, j1, j2, j3, j4, -⟩ | ⟨j1, j2, j3⟩
      · have hr := q_rows hx.1 hxz ht
        have a1 := (hr j).1.mp j2
        have a2 := ((hr j).2 j2).1
        have a3 : ¬ p_good f z x j := fun g => j3 ((hr (j + 1)).1.mpr (fun i hi => by
          by_cases e : i = j
          · rw [e]; exact g
          · exact a1 i (by omega)) j (by omega))
        have hjm : j < p_many f z x := by omega
        have hv1 : v1 ≠ -1 := by
          have := (q_rat_r hP j j2).1
          omega
        have hvv : v = v1 := by
          rcases hp with ⟨-, e, -⟩ | ⟨e, -⟩
          · exact e
          · exact absurd e hv1
        right
        rcases hl with ⟨k, k1, k2, k3, k4, k5⟩ | ⟨k1, -⟩
        · have e : j = k := by
            rcases Nat.lt_trichotomy j k with g | g | g
            · exact absurd (k2 j g) a3
            · exact g
            · exact absurd (a1 k g) k3
          exact ⟨by omega, k4, by rw [k5, hvv, j4, ← e, a2]⟩
        · exact absurd (k1 j hjm) a3
      · have hall : ∀ i, i < p_many f z x → q_rwi f z x (q_eat f z x) i := fun i hi => j1 i (by omega)
        have hr := q_rows hx.1 hxz ht (p_many f z x)
        have a1 := hr.1.mp hall
        obtain ⟨a2, a3, a4⟩ := hr.2 hall
        rw [hmany] at j3 hp
        have hpl : q_rat f z (q_eat f z x) (p_many f z x) = p_pl f z x := a2
        rcases hl with ⟨k, k1, k2, k3, -⟩ | ⟨-, hl⟩
        · exact absurd (a1 k k1) k3
        · rcases hp with ⟨e, -⟩ | ⟨-, v2, S2, h2, hp⟩
          · exact absurd j2 e
          · have g1 : ∀ a b, ¬ (a = 192 ∧ b = 3) → S1.1 a b = (x_S0 S q x).1 a b := fun a b g => by rw [j3]; unfold x_nx; rw [p1_1, if_neg g, x_rwF_1, p1_1, if_neg g]
            have x1 : S1.1 q 2 = x := by rw [g1 q 2 (by omega)]; exact s0r
            have c1 : S1.1 192 2 = pt - 1 := by rw [g1 192 2 (by omega), x_S0_1 _ _ _ _ _ (by omega)]; omega
            have hPr := (q_rat_r (x := x) hP (p_many f z x) hall).1
            rw [hpl] at h2 hPr
            have tp := q_tell (f := f) (z := z) (p := p_pl f z x) (c := 112) hPr.1 hPr.2 (by decide)
            obtain ⟨hfr, h2⟩ := h2
            rw [x1, c1] at h2
            have okP : q_okP f z x (pt - 1) (p_pl f z x) ↔ p_pok f z x pt := by
              unfold q_okP p_pok
              constructor
              · rintro ⟨w1, w2, w3⟩
                have := (tp.2 w1).1
                exact ⟨tp.1.mp w1, by omega, by omega⟩
              · rintro ⟨w1, w2, w3⟩
                have w4 := tp.1.mpr w1
                have := (tp.2 w4).1
                have := (p_num_v f (p_eol f z (p_pl f z x)) (p_pl f z x + 2)).1
                have e9 : p_tv f z (p_pl f z x) = (p_num f (p_eol f z (p_pl f z x)) (p_pl f z x + 2)).1 := rfl
                exact ⟨w4, by omega, by omega⟩
            rcases h2 with ⟨w, hv2⟩ | ⟨w, h2⟩
            · have hv2n : v2 ≠ -1 := by omega
              right
              rcases hl with ⟨-, l2, l3⟩ | ⟨l1, -⟩
              · rcases hp with ⟨-, e, -⟩ | ⟨e, -⟩
                · exact ⟨by omega, l2, by rw [l3]; omega⟩
                · exact absurd e hv2n
              · exact absurd (okP.mpr l1) w
            · rcases hl with ⟨l1, -⟩ | ⟨-, hl⟩
              · exact absurd (okP.mp w) l1
              · have eel : q_eat f z (p_pl f z x) = p_el f z x := (tp.2 w.1).2
                have tr2 := q_tg_r w.1 (by decide)
                rw [eel] at h2 tr2
                have te := q_tell (f := f) (z := z) (p := p_el f z x) (c := 101) (by omega) (by omega) (by decide)
                have okE : q_okE f z x (p_el f z x) ↔ p_eok f z x := by
                  unfold q_okE p_eok
                  constructor
                  · rintro ⟨w1, w2⟩
                    have := (te.2 w1).1
                    exact ⟨te.1.mp w1, by omega⟩
                  · rintro ⟨w1, w2⟩
                    have w4 := te.1.mpr w1
                    have := (te.2 w4).1
                    exact ⟨w4, by omega⟩
                rcases h2 with ⟨w5, hv2⟩ | ⟨w5, h24, h23, h2⟩
                · have hv2n : v2 ≠ -1 := by omega
                  right
                  rcases hl with ⟨-, l2, l3⟩ | ⟨l1, -⟩
                  · rcases hp with ⟨-, e, -⟩ | ⟨e, -⟩
                    · exact ⟨by omega, l2, by rw [l3]; omega⟩
                    · exact absurd e hv2n
                  · exact absurd (okE.mpr l1) w5
                · rcases hl with ⟨l1, -⟩ | ⟨-, hl⟩
                  · exact absurd (okE.mp w5) l1
                  · have een : q_eat f z (p_el f z x) = p_end f z x := (te.2 w5.1).2
                    have tr3 := q_tg_r w5.1 (by decide)
                    rw [een] at h2 h23 tr3
                    rcases h2 with ⟨w6, w7, hv2⟩ | ⟨w6, hv2⟩
                    · have hv2n : v2 ≠ -1 := by omega
                      right
                      rcases hl with ⟨-, -, l2, l3⟩ | ⟨l1, -⟩
                      · rcases hp with ⟨-, e, -⟩ | ⟨e, -⟩
                        · exact ⟨by omega, l2, by rw [l3]; omega⟩
                        · exact absurd e hv2n
                      · exact absurd ⟨by omega, w7⟩ l1
                    · rcases hl with ⟨l1, l2, -⟩ | ⟨-, hl⟩
                      · exact absurd ⟨by omega, l2⟩ w6
                      · rcases hp with ⟨e, -⟩ | ⟨-, hc⟩
                        · exact absurd hv2 e
                        · -- the records
                          have x2 : S2.1 q 2 = x := by rw [hfr.2.1 q 2 (by omega) (by omega)]; exact x1
                          have T2 : S2.2 (q + 1) = (x_rwF f z (x_nx (x_S0 S q x) (q_eat f z x)) q (q_eat f z x) (p_many f z x)).2 (q + 1) := by rw [hfr.1, j3]; rfl
                          obtain ⟨t1, t2⟩ := x_rwF_at (S := x_nx (x_S0 S q x) (q_eat f z x)) (r := q) hP (p_many f z x) hall
                          have tA : ∀ i, i < p_many f z x → S2.2 (q + 1) (p_rn f z (p_at f z x i)).toNat = p_rpv f z (p_at f z x i) := fun i hi => by
                            obtain ⟨b1, b2⟩ := a4 i hi
                            rw [T2, ← b1, ← b2]; exact t1 i hi
                          have tB : ∀ n : Nat, n < 41 → (∀ i, i < p_many f z x → (p_rn f z (p_at f z x i)).toNat ≠ n) → S2.2 (q + 1) n = -2 := fun n hn h => by
                            rw [T2, t2 n (fun i hi => by rw [(a4 i hi).1]; exact h i hi)]
                            show (x_S0 S q x).2 (q + 1) n = -2
                            rw [x_S0_p, if_pos hn]
                          have rnr : ∀ i, i < p_many f z x → 1 ≤ p_rn f z (p_at f z x i) ∧ p_rn f z (p_at f z x i) ≤ 40 := fun i hi => (a1 i hi).2.1
                          have told : ∀ n : Nat, n < 41 → S2.2 (q + 1) n ≠ -2 → ∃ i, i < p_many f z x ∧ (p_rn f z (p_at f z x i)).toNat = n := fun n hn h => by
                            by_cases g : ∃ i, i < p_many f z x ∧ (p_rn f z (p_at f z x i)).toNat = n
                            · exact g
                            · exact absurd (tB n hn (fun i hi e => g ⟨i, hi, e⟩)) h
                          have recc : ∀ i, i < p_many f z x → p_rpv f z (p_at f z x i) ≠ -1 → (q_rec f z (p_rn f z (p_at f z x i)) (p_rpv f z (p_at f z x i)) x ↔ p_rec f z (p_rpv f z (p_at f z x i)) (p_rn f z (p_at f z x i)) x) := fun i hi h => by
                            have w1 := p_rpv_r f z (p_at f z x i)
                            have w2 := (a1 i hi).2.2.2
                            exact (q_recq (by omega) (by omega) (by omega) (rnr i hi).1).1
                          have rci : ∀ i, i < p_many f z x → (q_rci f z S2 q ((p_rn f z (p_at f z x i)).toNat - 1) ↔ p_rok f z x (p_at f z x i)) := fun i hi => by
                            have w1 := rnr i hi
                            unfold q_rci p_rok
                            rw [show (p_rn f z (p_at f z x i)).toNat - 1 + 1 = (p_rn f z (p_at f z x i)).toNat by omega, tA i hi, x2, show (((p_rn f z (p_at f z x i)).toNat - 1 : Nat) : Int) + 1 = p_rn f z (p_at f z x i) by omega]
                            have w3 := p_rpv_r f z (p_at f z x i)
                            by_cases g : p_rpv f z (p_at f z x i) = -1
                            · exact ⟨fun _ => Or.inl g, fun _ h => by omega⟩
                            · constructor
                              · intro h; exact Or.inr ((recc i hi g).mp (h (by omega)))
                              · rintro (h | h)
                                · exact absurd h g
                                · exact fun _ => (recc i hi g).mpr h
                          have mono := q_mono (j := p_many f z x) hall
                          rcases hc with ⟨j, k1, k2, k3, k4, -⟩ | ⟨k1, k2, y, k3⟩
                          · right
                            have kp : 0 ≤ S2.2 (q + 1) (j + 1) := by
                              by_cases g : 0 ≤ S2.2 (q + 1) (j + 1)
                              · exact g
                              · exact absurd (fun h => absurd h g) k3
                            obtain ⟨i0, i1, i2⟩ := told (j + 1) (by omega) (by omega)
                            have nok : ¬ p_rok f z x (p_at f z x i0) := fun h => k3 (by have := (rci i0 i1).mpr h; rw [i2] at this; exact this)
                            rcases hl with ⟨m, m1, m2, m3, m4, m5⟩ | ⟨m1, -⟩
                            · have e : m = i0 := by
                                rcases Nat.lt_trichotomy m i0 with g | g | g
                                · exfalso
                                  have b1 := mono m i0 g i1
                                  rw [(a4 m m1).1, (a4 i0 i1).1] at b1
                                  have b2 := rnr m m1
                                  have b3 := rnr i0 i1
                                  have := k2 ((p_rn f z (p_at f z x m)).toNat - 1) (by omega)
                                  exact m3 ((rci m m1).mp this)
                                · exact g
                                · exact absurd (m2 i0 g) nok
                              refine ⟨by omega, m4, ?_⟩
                              rw [m5, k4, e, ← tA i0 i1, i2]
                            · exact absurd (m1 i0 i1) nok
                          · left
                            have allok : ∀ i, i < p_many f z x → p_rok f z x (p_at f z x i) := fun i hi => by
                              have w1 := rnr i hi
                              exact (rci i hi).mp (k1 _ (by omega))
                            rcases hl with ⟨m, m1, m2, m3, -⟩ | ⟨-, m2⟩
                            · exact absurd (allok m m1) m3
                            · have b1 : ∀ a b, ¬ (a = 192 ∧ b = 3) → σ1.1 a b = S2.1 a b := fun a b g => by rw [k3]; unfold x_nx; rw [p1_1, if_neg g, x_rlF_1]
                              have b2 : ∀ a, a ≠ q + 2 → σ1.2 a = S2.2 a := fun a g => by rw [k3]; exact x_rlF_2 f z S2 q a g 40
                              have pv := (p_num_v f (p_eol f z (p_pl f z x)) (p_pl f z x + 2)).1
                              have e9 : p_tv f z (p_pl f z x) = (p_num f (p_eol f z (p_pl f z x)) (p_pl f z x + 2)).1 := rfl
                              refine ⟨k2, by omega, ?_, ?_, ?_, ?_, ?_, ?_⟩
                              · rw [b1 192 4 (by omega), h24, (tp.2 w.1).1, m2]
                              · rw [b1 q 2 (by omega)]; exact x2
                              · rw [b1 q 3 (by omega)]; exact h23
                              · intro i hi
                                rw [b2 (q + 1) (by omega)]; exact tA i hi
                              · intro n n1 n40 h
                                rw [b2 (q + 1) (by omega)]; exact tB n (by omega) h
                              · intro n n1 n40 h
                                rw [b2 (q + 1) (by omega)] at h ⊢
                                have hrc := k1 (n - 1) (by omega)
                                unfold q_rci at hrc
                                rw [show n - 1 + 1 = n by omega, x2, show (((n - 1 : Nat) : Int) + 1) = (n : Int) by omega] at hrc
                                have hrec := hrc h
                                have hln : σ1.2 (q + 2) n = q_len f z (S2.2 (q + 1) n) := by
                                  rw [k3]
                                  show (x_rlF f z S2 q 40).2 (q + 2) n = _
                                  rw [x_rlF_at, if_pos ⟨⟨n1, n40⟩, h⟩]
                                have hrr := q_rec_r hrec
                                have hqr := (q_recq (f := f) (z := z) (n := (n : Int)) (x := x) hrr.2.1 (by omega) (by omega) (by omega)).2 hrec
                                rw [hln]
                                refine ⟨hqr.1, ?_⟩
                                rw [← hqr.2, q_by_dgs hrec (by omega)]
end
section
/-! THE FILE, read by both -/
theorem q_va_i {f : Nat → Int} {z i : Int} (h : 0 ≤ i ∧ i < z) : q_va f z i = f i.toNat := by unfold q_va; rw [if_pos h]
theorem q_fl_eq {f : Nat → Int} {z : Int} (hz : 0 ≤ z) : q_fl f z ↔ p_first f z := by
  obtain ⟨s1, s2, s3⟩ := p_eol_sp (f := f) (z := z) (p := 0) (by omega) hz
  unfold p_first
  simp only [Int.zero_add]
  obtain ⟨le, hle⟩ : ∃ v, v = p_eol f z 0 := ⟨_, rfl⟩
  rw [← hle] at s1 s2 s3 ⊢
  constructor
  · intro h
    have h4 := q_fl_r h
    obtain ⟨h0, h1, h2, h3⟩ := h
    rw [q_va_i (by omega)] at h0 h1 h2 h3
    have e3 : le = 3 := by
      by_cases g : 3 < le
      · exact absurd h3 (s2 3 (by omega) g)
      · by_cases g2 : le = 3
        · exact g2
        · exfalso
          have h10 := s3 (by omega)
          rcases (show le = 0 ∨ le = 1 ∨ le = 2 by omega) with e | e | e <;> rw [e] at h10
          · rw [h0] at h10; exact absurd h10 (by decide)
          · rw [h1] at h10; exact absurd h10 (by decide)
          · rw [h2] at h10; exact absurd h10 (by decide)
    rw [e3]
    exact ⟨by omega, ⟨by omega, h0⟩, ⟨by omega, h1⟩, ⟨by omega, h2⟩, rfl⟩
  · rintro ⟨h1, ⟨-, h2⟩, ⟨-, h3⟩, ⟨-, h4⟩, h5⟩
    have h6 := s3 h1
    rw [← h5] at h6 h1
    exact ⟨by rw [q_va_i (by omega)]; exact h2, by rw [q_va_i (by omega)]; exact h3, by rw [q_va_i (by omega)]; exact h4, by rw [q_va_i (by omega)]; exact h6⟩
theorem q_ll_eq {f : Nat → Int} {z : Int} : ∀ (k : Nat) (p : Int), (k : Int) ≤ p → p ≤ z → q_ll f z k p = lastF f k p := by
  intro k
  induction k with
  | zero => intro p _ _; rfl
  | succ k ih =>
    intro p h1 h2
    show (if q_va f z (p - 1) = 10 then p else q_ll f z k (p - 1)) = if f (p - 1).toNat = 10 then p else lastF f k (p - 1)
    push_cast at h1
    rw [q_va_i (by omega), ih (p - 1) (by omega) (by omega)]
theorem q_lst_eq {f : Nat → Int} {z : Int} (hz : 1 ≤ z) : q_lst f z = p_lst f z := by
  unfold q_lst p_lst
  exact q_ll_eq _ _ (by omega) (by omega)
theorem q_okL_eq {f : Nat → Int} {z : Int} (hz : 4 ≤ z) : (q_okL f z ↔ (p_tell f z (p_lst f z) 101 ∧ p_x0 f z < p_lst f z)) ∧ (q_okL f z → q_nr f z (q_lst f z + 2) = p_x0 f z) := by
  have e := q_lst_eq (f := f) (z := z) (by omega)
  have r := q_lst_r (fb := f) (fn := z) (by omega)
  rw [e] at r
  have tl := q_tell (f := f) (z := z) (p := p_lst f z) (c := 101) r.1 (by omega) (by decide)
  have ex : p_x0 f z = p_tv f z (p_lst f z) := rfl
  unfold q_okL
  rw [e]
  refine ⟨⟨fun h => ?_, fun h => ?_⟩, fun h => ?_⟩
  · have := (tl.2 h.1).1
    exact ⟨tl.1.mp h.1, by have := h.2; omega⟩
  · have h1 := tl.1.mpr h.1
    have := (tl.2 h1).1
    exact ⟨h1, by have := h.2; omega⟩
  · rw [(tl.2 h.1).1, ex]
theorem p_ch_r {f : Nat → Int} {z : Int} {J : Nat} (hx : p_x0 f z < p_lst f z) (hlk : ∀ i, i < J → (∃ g, p_look f z (p_ch f z i) (i + 1) (p_ch f z (i + 1)) g) ∧ 0 < p_ch f z (i + 1)) : ∀ i, i ≤ J → 0 ≤ p_ch f z i ∧ p_ch f z i < p_lst f z := by
  intro i
  induction i with
  | zero => intro _; exact ⟨(p_tv_r f z _).1, hx⟩
  | succ i ih =>
    intro hi
    obtain ⟨g, hg⟩ := (hlk i (by omega)).1
    have hp := (hlk i (by omega)).2
    have ho := (p_look_ok hg (by omega)).1.2.2.1.2
    have := ih (by omega)
    have e : p_ch f z (i + 1) = p_tv f z (p_pl f z (p_ch f z i)) := rfl
    omega
theorem x_ffc_eq {f : Nat → Int} {z : Int} {σ0 : fS} {J : Nat} (hz : 0 ≤ z ∧ z ≤ 12000) (hI : x_I σ0) (hc : σ0.1 192 2 = 0) (hx : p_x0 f z < p_lst f z) (hl : p_lst f z ≤ z - 1) (hlk : ∀ i, i < J → (∃ g, p_look f z (p_ch f z i) (i + 1) (p_ch f z (i + 1)) g) ∧ 0 < p_ch f z (i + 1)) (hlast : ∃ r g, p_look f z (p_ch f z J) ((J : Int) + 1) r g ∧ (r = -1 ∨ r = 0)) (hJ : J ≤ 59) :
    ∀ (j : Nat) (S : fS) (x : Int), j ≤ 59 → x_ffc f z σ0 (p_x0 f z) j S x → (j ≤ J ∧ x = p_ch f z j) ∧ ∀ i, i < j → S.1 (194 + 3 * i) 2 = p_ch f z i ∧ S.1 (194 + 3 * i) 3 = p_end f z (p_ch f z i) ∧ q_tab f z (p_ch f z i) (S.2 (194 + 3 * i + 1)) (S.2 (194 + 3 * i + 2)) := by
  have rng := p_ch_r hx hlk
  intro j
  induction j with
  | zero =>
    intro S x _ h
    obtain ⟨rfl, rfl⟩ := h
    exact ⟨⟨Nat.zero_le _, rfl⟩, fun i hi => absurd hi (by omega)⟩
  | succ j ih =>
    intro S x hj h
    obtain ⟨S1, x1, S2, h1, h2, h3, hxx, hS⟩ := h
    obtain ⟨⟨i1, i2⟩, i3⟩ := ih S1 x1 (by omega) h1
    have hr := rng j i1
    have h0 := (rng 0 (Nat.zero_le _))
    have e0 : p_ch f z 0 = p_x0 f z := rfl
    obtain ⟨f1, f2, f3, f4, -⟩ := x_ffc_I hz hI hc (by omega) j S1 x1 (by omega) h1
    obtain ⟨p1, -, -, -⟩ := x_pf_I (by omega) f1 hz f4 h2
    rw [i2] at h2
    have key : j < J ∧ S2.1 192 4 = p_ch f z (j + 1) ∧ S2.1 (194 + 3 * j) 2 = p_ch f z j ∧ S2.1 (194 + 3 * j) 3 = p_end f z (p_ch f z j) ∧ q_tab f z (p_ch f z j) (S2.2 (194 + 3 * j + 1)) (S2.2 (194 + 3 * j + 2)) := by
      by_cases g : j = J
      · exfalso
        obtain ⟨r, g2, hg, hr2⟩ := hlast
        rw [← g] at hg
        rcases x_pf_eq (by omega) hz (by omega) (by omega) (by rw [f3]) (by omega) h2 hg with ⟨-, e1, e2, -⟩ | ⟨e, -⟩
        · rcases hr2 with e | e
          · exact e1 e
          · exact h3 (by rw [e2, e])
        · exact e rfl
      · obtain ⟨⟨g2, hg⟩, hpos⟩ := hlk j (by omega)
        rcases x_pf_eq (by omega) hz (by omega) (by omega) (by rw [f3]) (by omega) h2 hg with ⟨-, e1, e2, e3⟩ | ⟨e, -⟩
        · exact ⟨by omega, e2, e3⟩
        · exact absurd rfl e
    obtain ⟨k1, k2, k3⟩ := key
    refine ⟨⟨by omega, by rw [hxx, k2]⟩, fun i hi => ?_⟩
    have s1 : ∀ b, S.1 (194 + 3 * i) b = S2.1 (194 + 3 * i) b := fun b => by rw [hS, p1_1, if_neg (by omega)]
    have s2 : ∀ a, S.2 a = S2.2 a := fun a => by rw [hS]; rfl
    rw [s1, s1, s2, s2]
    by_cases g : i = j
    · rw [g]; exact k3
    · rw [p1.2 (194 + 3 * i) 2 (by omega) (by omega), p1.2 (194 + 3 * i) 3 (by omega) (by omega), p1.1 (194 + 3 * i + 1) (by omega) (by omega), p1.1 (194 + 3 * i + 2) (by omega) (by omega)]
      exact i3 i (by omega)
theorem x_ff_eq {f : Nat → Int} {z v r fl pts : Int} {xs : Nat → Int} {σ S : fS} (hz : 0 ≤ z ∧ z ≤ 12000) (hI : x_I σ) (h : x_ff f z σ v S) (hp : p_file f z r fl pts xs) :
    (v ≠ -1 ∧ r = 0 ∧ fl = v) ∨ (v = -1 ∧ r = 1 ∧ ∃ c : Nat, pts = (c : Int) ∧ 1 ≤ c ∧ c ≤ 60 ∧ S.1 192 2 = (c : Int) ∧ ∀ i, i < c → S.1 (194 + 3 * i) 2 = xs i ∧ S.1 (194 + 3 * i) 3 = p_end f z (xs i) ∧ q_tab f z (xs i) (S.2 (194 + 3 * i + 1)) (S.2 (194 + 3 * i + 2))) := by
  rcases h with ⟨a1, a2, a3⟩ | ⟨a1, h⟩
  · rcases hp with ⟨-, b2, b3⟩ | ⟨b1, -⟩
    · left; exact ⟨by omega, b2, by omega⟩
    · exact absurd ((q_fl_eq hz.1).mpr b1) a1
  have h4 := q_fl_r a1
  rcases hp with ⟨b1, -⟩ | ⟨b1, hp⟩
  · exact absurd ((q_fl_eq hz.1).mp a1) b1
  have eva := q_va_i (f := f) (z := z) (i := z - 1) (by omega)
  rw [eva] at h
  rcases h with ⟨a2, a3, a4⟩ | ⟨a2, y, h⟩
  · rcases hp with ⟨-, b2, b3⟩ | ⟨b2, -⟩
    · left; exact ⟨by omega, b2, by omega⟩
    · exact absurd b2 a2
  rcases hp with ⟨b2, -⟩ | ⟨-, hp⟩
  · exact absurd a2 b2
  have hok := q_okL_eq (f := f) (z := z) h4
  have lst := q_lst_eq (f := f) (z := z) (by omega)
  have lr := q_lst_r (fb := f) (fn := z) (by omega)
  rcases h with ⟨a3, a4, a5⟩ | ⟨a3, j, S1, x, hj, hc, h⟩
  · rcases hp with ⟨-, b3, b4⟩ | ⟨b3, -⟩
    · left; exact ⟨by omega, b3, by rw [b4, a4, lst]⟩
    · exact absurd (hok.1.mpr b3) a3
  rcases hp with ⟨b3, -⟩ | ⟨b3, J, hJ, hlk, hp⟩
  · exact absurd (hok.1.mp a3) b3
  have hlast : ∃ r g, p_look f z (p_ch f z J) ((J : Int) + 1) r g ∧ (r = -1 ∨ r = 0) := by
    rcases hp with ⟨g, -⟩ | ⟨⟨g, hg⟩, -⟩
    · exact ⟨-1, fl, g, Or.inl rfl⟩
    · exact ⟨0, g, hg, Or.inr rfl⟩
  rw [hok.2 a3] at hc
  have rng := p_ch_r b3.2 hlk
  have I0 : x_I (x_nx (f_p1 σ 192 2 0) y) := x_I_192 (x_I_192 hI _ _) _ _
  obtain ⟨⟨c1, c2⟩, c3⟩ := x_ffc_eq hz I0 rfl b3.2 (by omega) hlk hlast hJ j S1 x hj hc
  have r0 := rng 0 (Nat.zero_le _)
  have e0 : p_ch f z 0 = p_x0 f z := rfl
  obtain ⟨i1, -, i3, i4, -⟩ := x_ffc_I hz I0 rfl (by omega) j S1 x (by omega) hc
  have hr := rng j c1
  rcases h with ⟨hv, hpf⟩ | ⟨hv, S2, hpf, hb, hS⟩
  · rw [c2] at hpf
    by_cases g : j = J
    · subst g
      rcases hp with ⟨hlk2, hr0⟩ | ⟨⟨g, hg⟩, -⟩
      · rcases x_pf_eq (by omega) hz (by omega) (by omega) (by rw [i3]) (by omega) hpf hlk2 with ⟨e, -⟩ | ⟨-, -, e3⟩
        · exact absurd e hv
        · left; exact ⟨hv, hr0, e3⟩
      · rcases x_pf_eq (by omega) hz (by omega) (by omega) (by rw [i3]) (by omega) hpf hg with ⟨e, -⟩ | ⟨-, e, -⟩
        · exact absurd e hv
        · exact absurd e (by decide)
    · obtain ⟨⟨g2, hg⟩, hpos⟩ := hlk j (by omega)
      rcases x_pf_eq (by omega) hz (by omega) (by omega) (by rw [i3]) (by omega) hpf hg with ⟨e, -⟩ | ⟨-, e, -⟩
      · exact absurd e hv
      · omega
  · obtain ⟨p1, -, -, -⟩ := x_pf_I (by omega) i1 hz i4 hpf
    rw [c2] at hpf
    by_cases g : j = J
    · subst g
      rcases hp with ⟨hlk2, -⟩ | ⟨⟨g, hg⟩, hr1, hpts, hxs⟩
      · rcases x_pf_eq (by omega) hz (by omega) (by omega) (by rw [i3]) (by omega) hpf hlk2 with ⟨-, e, -⟩ | ⟨e, -⟩
        · exact absurd rfl e
        · exact absurd rfl e
      · rcases x_pf_eq (by omega) hz (by omega) (by omega) (by rw [i3]) (by omega) hpf hg with ⟨-, -, -, d⟩ | ⟨e, -⟩
        · right
          refine ⟨hv, hr1, j + 1, by push_cast; omega, by omega, by omega, ?_, fun i hi => ?_⟩
          · rw [hS, p1_1, if_pos ⟨rfl, rfl⟩]; push_cast; rfl
          · have s1 : ∀ b, S.1 (194 + 3 * i) b = S2.1 (194 + 3 * i) b := fun b => by rw [hS, p1_1, if_neg (by omega)]
            have s2 : ∀ a, S.2 a = S2.2 a := fun a => by rw [hS]; rfl
            rw [s1, s1, s2, s2, hxs i (by omega)]
            by_cases e : i = j
            · rw [e]; exact d
            · rw [p1.2 (194 + 3 * i) 2 (by omega) (by omega), p1.2 (194 + 3 * i) 3 (by omega) (by omega), p1.1 (194 + 3 * i + 1) (by omega) (by omega), p1.1 (194 + 3 * i + 2) (by omega) (by omega)]
              exact c3 i (by omega)
        · exact absurd rfl e
    · exfalso
      obtain ⟨⟨g2, hg⟩, hpos⟩ := hlk j (by omega)
      rcases x_pf_eq (by omega) hz (by omega) (by omega) (by rw [i3]) (by omega) hpf hg with ⟨-, -, e, -⟩ | ⟨e, -⟩
      · omega
      · exact absurd rfl e
end
section
/-! THE HISTORY, learned by both -/
theorem p_mono {f : Nat → Int} {z x : Int} {j : Nat} (h : ∀ i, i < j → p_good f z x i) : ∀ a b : Nat, a < b → b < j → p_rn f z (p_at f z x a) < p_rn f z (p_at f z x b) := by
  intro a b hab hb
  induction b with
  | zero => omega
  | succ b ih =>
    have h1 := (h (b + 1) hb).2.2.1
    have e : p_lastn f z x (b + 1) = p_rn f z (p_at f z x b) := rfl
    rw [e] at h1
    by_cases g : a = b
    · rw [g]; exact h1
    · have := ih (by omega) (by omega)
      omega
theorem m_rw1_10 (f : Nat → Int) (z : Int) (y : fS) (i : Nat) (v : Int) : (m_rw1 f z y i v).2 10 i = v := by
  unfold m_rw1
  split
  · rw [p2_2, if_pos ⟨rfl, rfl⟩]
  · rw [p2_2, if_neg (by omega), p2_2, if_neg (by omega), p2_2, if_pos ⟨rfl, rfl⟩]
theorem m_rw1_n (f : Nat → Int) (z : Int) (y : fS) (i : Nat) (v : Int) (a k : Nat) (h : k ≠ i) : (m_rw1 f z y i v).2 a k = y.2 a k := by
  unfold m_rw1
  split
  · rw [p2_2, if_neg (by omega)]
  · rw [p2_2, if_neg (by omega), p2_2, if_neg (by omega), p2_2, if_neg (by omega)]
theorem m_rw1_v (f : Nat → Int) (z : Int) (y : fS) (i : Nat) (v : Int) (h : v ≠ -1) : (m_rw1 f z y i v).2 11 i = p_eol f z v + 1 ∧ (m_rw1 f z y i v).2 12 i = p_rl f z v := by
  unfold m_rw1
  rw [if_neg h]
  refine ⟨?_, ?_⟩
  · rw [p2_2, if_neg (by omega), p2_2, if_pos ⟨rfl, rfl⟩]
  · rw [p2_2, if_pos ⟨rfl, rfl⟩]
theorem m_rwF_at {f : Nat → Int} {z x : Int} {σ : fS} {t : Nat} : ∀ j : Nat, (∀ i, i < j → p_good f z x i) → (∀ i, i < j → (m_rwF f z σ t x j).2 10 (41 * t + (p_rn f z (p_at f z x i)).toNat) = p_rpv f z (p_at f z x i) ∧ (p_rpv f z (p_at f z x i) ≠ -1 → (m_rwF f z σ t x j).2 11 (41 * t + (p_rn f z (p_at f z x i)).toNat) = p_eol f z (p_rpv f z (p_at f z x i)) + 1 ∧ (m_rwF f z σ t x j).2 12 (41 * t + (p_rn f z (p_at f z x i)).toNat) = p_rl f z (p_rpv f z (p_at f z x i)))) ∧ (∀ a k : Nat, (∀ i, i < j → 41 * t + (p_rn f z (p_at f z x i)).toNat ≠ k) → (m_rwF f z σ t x j).2 a k = σ.2 a k) := by
  intro j
  induction j with
  | zero => intro _; exact ⟨fun i hi => absurd hi (by omega), fun _ _ _ => rfl⟩
  | succ j ih =>
    intro h
    obtain ⟨i1, i2⟩ := ih (fun i hi => h i (Nat.lt_succ_of_lt hi))
    have e : m_rwF f z σ t x (j + 1) = m_rw1 f z (m_rwF f z σ t x j) (41 * t + (p_rn f z (p_at f z x j)).toNat) (p_rpv f z (p_at f z x j)) := rfl
    rw [e]
    refine ⟨fun i hi => ?_, fun a k hk => ?_⟩
    · by_cases g : i = j
      · subst g
        exact ⟨m_rw1_10 _ _ _ _ _, fun hv => m_rw1_v _ _ _ _ _ hv⟩
      · have hm := p_mono h i j (by omega) (by omega)
        have p1 := (h i hi).2.1
        have p2 := (h j (by omega)).2.1
        have hne : 41 * t + (p_rn f z (p_at f z x i)).toNat ≠ 41 * t + (p_rn f z (p_at f z x j)).toNat := by omega
        rw [m_rw1_n _ _ _ _ _ 10 _ hne, m_rw1_n _ _ _ _ _ 11 _ hne, m_rw1_n _ _ _ _ _ 12 _ hne]
        exact i1 i (by omega)
    · rw [m_rw1_n _ _ _ _ _ a k (fun q => hk j (by omega) q.symm)]
      exact i2 a k (fun i hi => hk i (by omega))
/-- one object's entry of a revision, in both -/
def R_ent (z P L A B C n : Int) : Prop := P = A ∧ (P ≠ -1 → L = C ∧ P + 4 + x_dgs n + x_dgs L = B ∧ (0 ≤ B ∧ 0 ≤ C ∧ B + C < z))
def R_his (z : Int) (X M : fS) (t : Nat) : Prop := ∀ r : Nat, r < t → X.1 (12 + 3 * r) 3 = M.2 8 r ∧ X.1 (12 + 3 * r) 2 = M.2 9 r ∧ ∀ n : Nat, 1 ≤ n → n ≤ 40 → R_ent z (X.2 (12 + 3 * r + 1) n) (X.2 (12 + 3 * r + 2) n) (M.2 10 (41 * r + n)) (M.2 11 (41 * r + n)) (M.2 12 (41 * r + n)) (n : Int)
theorem x_adr_p (X : fS) (t b : Nat) (h : 1 ≤ b ∧ b < 41) : (x_adr X t).2 (12 + 3 * t + 1) b = (if t = 0 then -1 else X.2 (12 + 3 * (t - 1) + 1) b) ∧ (t ≠ 0 → (x_adr X t).2 (12 + 3 * t + 2) b = X.2 (12 + 3 * (t - 1) + 2) b) := by
  unfold x_adr
  by_cases g : t = 0
  · subst g
    rw [if_pos rfl, if_pos rfl]
    exact ⟨x_reset_p _ 12 _ b h.2, fun q => absurd rfl q⟩
  · rw [if_neg g, if_neg g]
    unfold x_copy
    refine ⟨?_, fun _ => ?_⟩
    · rw [pa_2, if_neg (by omega), pa_2, if_pos rfl, if_pos ⟨by simp, by simpa using h.2⟩]
      simp
    · rw [pa_2, if_pos rfl, if_pos ⟨by simp, by simpa using h.2⟩]
      simp
theorem x_ad_e (X : fS) (p t b : Nat) (h : 1 ≤ b ∧ b < 41) (hp : 192 ≤ p) (ht : t < 60) : (X.2 (p + 1) b ≠ -2 → (x_ad X p t).2 (12 + 3 * t + 1) b = X.2 (p + 1) b ∧ (x_ad X p t).2 (12 + 3 * t + 2) b = X.2 (p + 2) b) ∧ (X.2 (p + 1) b = -2 → (x_ad X p t).2 (12 + 3 * t + 1) b = (if t = 0 then -1 else X.2 (12 + 3 * (t - 1) + 1) b) ∧ (t ≠ 0 → (x_ad X p t).2 (12 + 3 * t + 2) b = X.2 (12 + 3 * (t - 1) + 2) b)) := by
  have e1 : (x_adr X t).2 (p + 1) b = X.2 (p + 1) b := x_adr_o _ _ _ _ (by omega)
  have e2 : (x_adr X t).2 (p + 2) b = X.2 (p + 2) b := x_adr_o _ _ _ _ (by omega)
  have ea : ∀ a, (x_ad X p t).2 a b = if (1 ≤ b ∧ b < 41) ∧ (x_adr X t).2 (p + 1) b ≠ -2 then (if a = 12 + 3 * t + 1 then (x_adr X t).2 (p + 1) b else if a = 12 + 3 * t + 2 then (x_adr X t).2 (p + 2) b else (x_adr X t).2 a b) else (x_adr X t).2 a b := fun a => rfl
  have hq := x_adr_p X t b h
  refine ⟨fun g => ?_, fun g => ?_⟩
  · have c1 : (1 ≤ b ∧ b < 41) ∧ (x_adr X t).2 (p + 1) b ≠ -2 := ⟨h, by rw [e1]; exact g⟩
    exact ⟨by rw [ea, if_pos c1, if_pos rfl]; exact e1, by rw [ea, if_pos c1, if_neg (by omega), if_pos rfl]; exact e2⟩
  · have c1 : ¬ ((1 ≤ b ∧ b < 41) ∧ (x_adr X t).2 (p + 1) b ≠ -2) := fun q => q.2 (by rw [e1]; exact g)
    have r1 : ∀ a, (x_ad X p t).2 a b = (x_adr X t).2 a b := fun a => by rw [ea, if_neg c1]
    rw [r1, r1]
    exact hq
theorem m_cp_at (M : fS) (t n a : Nat) (h : 1 ≤ n ∧ n ≤ 40) (ha : a = 10 ∨ a = 11 ∨ a = 12) : (m_cp M t 41).2 a (41 * t + n) = if t = 0 then (if a = 10 then -1 else 0) else M.2 a (41 * t + n - 41) := by
  show (if (a = 10 ∨ a = 11 ∨ a = 12) ∧ 41 * t + 1 ≤ 41 * t + n ∧ 41 * t + n < 41 * t + 41 then (if t = 0 then (if a = 10 then -1 else 0) else M.2 a (41 * t + n - 41)) else M.2 a (41 * t + n)) = _
  rw [if_pos ⟨ha, by omega, by omega⟩]
theorem R_his_s {f : Nat → Int} {z x : Int} {X M : fS} {p t : Nat} (h : R_his z X M t) (hp : 192 ≤ p) (ht : t < 60) (hx : 0 ≤ x ∧ x < z) (hok : p_okp f z x) (h2 : X.1 p 2 = x) (h3 : X.1 p 3 = p_end f z x) (ht1 : q_tab f z x (X.2 (p + 1)) (X.2 (p + 2))) : R_his z (x_ad X p t) (m_lp f z M t x) (t + 1) := by
  obtain ⟨o1, o2, -, -, o5⟩ := hok
  obtain ⟨w1, w2⟩ := m_rwF_at (σ := m_cp M t 41) (t := t) (p_many f z x) o2
  have l2 : ∀ a k, (m_lp f z M t x).2 a k = if a = 9 ∧ k = t then x else if a = 8 ∧ k = t then p_end f z x else (m_rwF f z (m_cp M t 41) t x (p_many f z x)).2 a k := fun a k => by
    unfold m_lp
    rw [p1_2, p2_2, p2_2]
  have lw : ∀ a k, (a = 10 ∨ a = 11 ∨ a = 12) → (m_lp f z M t x).2 a k = (m_rwF f z (m_cp M t 41) t x (p_many f z x)).2 a k := fun a k g => by rw [l2, if_neg (by omega), if_neg (by omega)]
  have l89 : ∀ a k, (a = 8 ∨ a = 9) → k ≠ t → (m_lp f z M t x).2 a k = M.2 a k := fun a k g g2 => by
    rw [l2, if_neg (by omega), if_neg (by omega), (m_rwF_o f z _ t x _).2 a (by omega), m_cp_o _ _ _ _ (by omega)]
  intro r hr
  by_cases g : r = t
  · subst g
    refine ⟨?_, ?_, fun n n1 n40 => ?_⟩
    · rw [x_ad_1, if_neg (by omega), if_pos ⟨rfl, rfl⟩, h3, l2, if_neg (by omega), if_pos ⟨rfl, rfl⟩]
    · rw [x_ad_1, if_neg (by omega), if_neg (by omega), if_pos ⟨rfl, rfl⟩, h2, l2, if_pos ⟨rfl, rfl⟩]
    · obtain ⟨a1, a2⟩ := x_ad_e X p r n ⟨n1, by omega⟩ hp ht
      rw [lw 10 _ (by decide), lw 11 _ (by decide), lw 12 _ (by decide)]
      by_cases gi : ∃ i, i < p_many f z x ∧ (p_rn f z (p_at f z x i)).toNat = n
      · obtain ⟨i, hi, hn⟩ := gi
        have e1 := ht1.1 i hi
        obtain ⟨e2, e3⟩ := w1 i hi
        have hv := p_rpv_r f z (p_at f z x i)
        rw [hn] at e1 e2 e3
        obtain ⟨b1, b2⟩ := a1 (by omega)
        refine ⟨by rw [b1, e2, e1], fun hne => ?_⟩
        rw [b1] at hne
        have hv1 : p_rpv f z (p_at f z x i) ≠ -1 := by rw [← e1]; exact hne
        obtain ⟨e4, e5⟩ := e3 hv1
        obtain ⟨q1, q2⟩ := ht1.2.2 n n1 n40 (by omega)
        have hrec : p_rec f z (p_rpv f z (p_at f z x i)) (p_rn f z (p_at f z x i)) x := by
          rcases o5 i hi with q | q
          · exact absurd q hv1
          · exact q
        have hrl := p_rl_r hrec
        have hlt := hrec.2.1.1
        rw [b1, b2, e4, e5, q2, q1, e1]
        exact ⟨rfl, rfl, by omega, by omega, by omega⟩
      · have hno : ∀ i, i < p_many f z x → (p_rn f z (p_at f z x i)).toNat ≠ n := fun i hi q => gi ⟨i, hi, q⟩
        have e1 := ht1.2.1 n n1 n40 hno
        obtain ⟨b1, b2⟩ := a2 e1
        have wn : ∀ a, (m_rwF f z (m_cp M r 41) r x (p_many f z x)).2 a (41 * r + n) = (m_cp M r 41).2 a (41 * r + n) := fun a => w2 a _ (fun i hi q => hno i hi (by omega))
        rw [wn, wn, wn, m_cp_at M r n 10 ⟨n1, n40⟩ (by decide), m_cp_at M r n 11 ⟨n1, n40⟩ (by decide), m_cp_at M r n 12 ⟨n1, n40⟩ (by decide), b1]
        by_cases g0 : r = 0
        · rw [if_pos g0, if_pos g0]
          exact ⟨rfl, fun q => absurd rfl q⟩
        · have hh := (h (r - 1) (by omega)).2.2 n n1 n40
          rw [if_neg g0, if_neg g0, if_neg g0, if_neg g0, b2 g0, show 41 * r + n - 41 = 41 * (r - 1) + n by omega]
          exact hh
  · obtain ⟨c1, c2, c3⟩ := h r (by omega)
    refine ⟨?_, ?_, fun n n1 n40 => ?_⟩
    · rw [x_ad_1, if_neg (by omega), if_neg (by omega), if_neg (by omega), l89 8 r (by decide) g]; exact c1
    · rw [x_ad_1, if_neg (by omega), if_neg (by omega), if_neg (by omega), l89 9 r (by decide) g]; exact c2
    · have wn : ∀ a, (a = 10 ∨ a = 11 ∨ a = 12) → (m_lp f z M t x).2 a (41 * r + n) = M.2 a (41 * r + n) := fun a ha => by
        rw [lw a _ ha, w2 a _ (fun i hi q => by have := (o2 i hi).2.1; omega), m_cp_lo _ _ _ _ _ (by omega)]
      rw [x_ad_o _ _ _ _ _ (by omega), x_ad_o _ _ _ _ _ (by omega), wn 10 (by decide), wn 11 (by decide), wn 12 (by decide)]
      exact c3 n n1 n40
theorem R_his_F {f : Nat → Int} {z : Int} {S T : fS} {xs : Nat → Int} {c : Nat} (hc : c ≤ 60) (hI : x_I S) (hg : ∀ t, t < c → x_good S (194 + 3 * t)) (hok : ∀ k, k < c → p_okp f z (xs k) ∧ 0 ≤ xs k ∧ xs k ≤ 11999 ∧ xs k < z) (ht : ∀ i, i < c → S.1 (194 + 3 * i) 2 = xs i ∧ S.1 (194 + 3 * i) 3 = p_end f z (xs i) ∧ q_tab f z (xs i) (S.2 (194 + 3 * i + 1)) (S.2 (194 + 3 * i + 2))) : ∀ t, t ≤ c → R_his z (x_adF S c t) (m_lF f z T xs c t) t := by
  intro t
  induction t with
  | zero => intro _ r hr; exact absurd hr (by omega)
  | succ t ih =>
    intro htc
    obtain ⟨-, -, i3, i4⟩ := x_adF_I hI hc hg t (by omega)
    obtain ⟨k1, k2, k3, k4⟩ := hok (c - 1 - t) (by omega)
    obtain ⟨t1, t2, t3⟩ := ht (c - 1 - t) (by omega)
    refine R_his_s (p := 194 + 3 * (c - 1 - t)) (ih (by omega)) (by omega) (by omega) ⟨k2, k4⟩ k1 ?_ ?_ ?_
    · rw [i4 _ _ (by omega) (by omega)]; exact t1
    · rw [i4 _ _ (by omega) (by omega)]; exact t2
    · rw [i3 _ (by omega), i3 _ (by omega)]; exact t3
end
section
/-! READ and TAKE, by both -/
theorem x_ldF_at {f : Nat → Int} {z : Int} {σ : fS} {r : Nat} (hr : 9 < r) (hl : ∀ n, 0 ≤ σ.2 (r + 2) n ∧ σ.2 (r + 2) n ≤ 120) : ∀ k n : Nat, 1 ≤ n → n ≤ k → (x_ldF f z σ r k).2 2 n = (if σ.2 (r + 1) n = -1 then 0 else 1) ∧ (x_ldF f z σ r k).2 3 n = 0 ∧ (σ.2 (r + 1) n ≠ -1 → (x_ldF f z σ r k).2 4 n = σ.2 (r + 2) n ∧ ∀ i : Nat, (i : Int) < σ.2 (r + 2) n → (x_ldF f z σ r k).2 5 (120 * n + i) = (q_va f z (x_bp σ r (n : Int) + (i : Int))).bmod 256) := by
  intro k
  induction k with
  | zero => intro n h1 h2; omega
  | succ k ih =>
    intro n h1 h2
    obtain ⟨y, hy⟩ : ∃ s, s = x_ldF f z σ r k := ⟨_, rfl⟩
    have yo := (x_ldF_o f z σ r k).2
    rw [← hy] at yo ih
    obtain ⟨Y, hY⟩ : ∃ s, s = x_ld1 σ r k y := ⟨_, rfl⟩
    have Y2 : ∀ a b, Y.2 a b = if a = 3 ∧ b = k + 1 then 0 else if a = 2 ∧ b = k + 1 then (if σ.2 (r + 1) (k + 1) = -1 then 0 else 1) else y.2 a b := fun a b => by
      rw [hY]
      unfold x_ld1
      rw [p2_2, p2_2]
    have Yr : ∀ a b, 5 < a → Y.2 a b = σ.2 a b := fun a b g => by rw [Y2, if_neg (by omega), if_neg (by omega), yo a (by omega)]
    have e : x_ldF f z σ r (k + 1) = if σ.2 (r + 1) (k + 1) = -1 then Y else x_ldb f z Y r ((k : Int) + 1) := by rw [hY, hy]; rfl
    by_cases gp : σ.2 (r + 1) (k + 1) = -1
    · rw [e, if_pos gp]
      by_cases g : n = k + 1
      · subst g
        exact ⟨by rw [Y2, if_neg (by omega), if_pos ⟨rfl, rfl⟩], by rw [Y2, if_pos ⟨rfl, rfl⟩], fun q => absurd gp q⟩
      · have yy : ∀ a b, (a = 4 ∨ a = 5 ∨ b ≠ k + 1) → Y.2 a b = y.2 a b := fun a b q => by rw [Y2, if_neg (by omega), if_neg (by omega)]
        obtain ⟨i1, i2, i3⟩ := ih n h1 (by omega)
        rw [yy 2 n (by omega), yy 3 n (by omega), yy 4 n (by omega)]
        refine ⟨i1, i2, fun q => ⟨(i3 q).1, fun i hi => ?_⟩⟩
        rw [yy 5 _ (by omega)]
        exact (i3 q).2 i hi
    · rw [e, if_neg gp]
      have kt : ((k : Int) + 1).toNat = k + 1 := by omega
      have kt2 : (((k : Int) + 1) * 120).toNat = 120 * (k + 1) := by omega
      have bp : x_bp Y r ((k : Int) + 1) = x_bp σ r ((k : Int) + 1) := by unfold x_bp; rw [Yr _ _ (by omega), Yr _ _ (by omega)]
      have Z2 : ∀ a b, (x_ldb f z Y r ((k : Int) + 1)).2 a b = if a = 5 ∧ 120 * (k + 1) ≤ b ∧ b < 120 * (k + 1) + (σ.2 (r + 2) (k + 1)).toNat then (q_va f z (x_bp σ r ((k : Int) + 1) + ((b - 120 * (k + 1) : Nat) : Int))).bmod 256 else if a = 4 ∧ b = k + 1 then σ.2 (r + 2) (k + 1) else Y.2 a b := fun a b => by
        unfold x_ldb
        rw [bp, kt, Yr (r + 2) (k + 1) (by omega)]
        show (if a = 5 ∧ (((k : Int) + 1) * 120).toNat ≤ b ∧ b < (((k : Int) + 1) * 120).toNat + (σ.2 (r + 2) (k + 1)).toNat then (q_va f z (x_bp σ r ((k : Int) + 1) + ((b - (((k : Int) + 1) * 120).toNat : Nat) : Int))).bmod 256 else (f_p2 Y 4 (k + 1) (σ.2 (r + 2) (k + 1))).2 a b) = _
        rw [kt2, p2_2]
      by_cases g : n = k + 1
      · subst g
        refine ⟨by rw [Z2, if_neg (by omega), if_neg (by omega), Y2, if_neg (by omega), if_pos ⟨rfl, rfl⟩], by rw [Z2, if_neg (by omega), if_neg (by omega), Y2, if_pos ⟨rfl, rfl⟩], fun q => ⟨by rw [Z2, if_neg (by omega), if_pos ⟨rfl, rfl⟩], fun i hi => ?_⟩⟩
        rw [Z2, if_pos ⟨rfl, by omega, by omega⟩, show 120 * (k + 1) + i - 120 * (k + 1) = i by omega, show ((k + 1 : Nat) : Int) = (k : Int) + 1 by push_cast; rfl]
      · obtain ⟨i1, i2, i3⟩ := ih n h1 (by omega)
        have yy : ∀ a b, (a = 4 ∨ a = 5 ∨ b ≠ k + 1) → Y.2 a b = y.2 a b := fun a b q => by rw [Y2, if_neg (by omega), if_neg (by omega)]
        have zz : ∀ a, a ≠ 5 → (x_ldb f z Y r ((k : Int) + 1)).2 a n = y.2 a n := fun a q => by rw [Z2, if_neg (by omega), if_neg (by omega), yy a n (by omega)]
        rw [zz 2 (by decide), zz 3 (by decide), zz 4 (by decide)]
        refine ⟨i1, i2, fun q => ⟨(i3 q).1, fun i hi => ?_⟩⟩
        have := hl n
        rw [Z2, if_neg (by omega), if_neg (by omega), yy 5 _ (by omega)]
        exact (i3 q).2 i hi
theorem m_ldn_at {f : Nat → Int} {L : fS} {b : Nat} : ∀ k n : Nat, 1 ≤ n → n ≤ k → (m_ldn f L b k).2 1 n = (if L.2 10 (b + n) = -1 then 0 else 1) ∧ (m_ldn f L b k).2 2 n = 0 ∧ (m_ldn f L b k).2 5 n = (if L.2 10 (b + n) = -1 then 0 else L.2 12 (b + n)) ∧ (L.2 10 (b + n) ≠ -1 → ∀ i : Nat, i < 120 → (i : Int) < L.2 12 (b + n) → (m_ldn f L b k).2 6 (120 * n + i) = f (L.2 11 (b + n) + (i : Int)).toNat) := by
  intro k
  induction k with
  | zero => intro n h1 h2; omega
  | succ k ih =>
    intro n h1 h2
    obtain ⟨y, hy⟩ : ∃ s, s = m_ldn f L b k := ⟨_, rfl⟩
    rw [← hy] at ih
    obtain ⟨Y, hY⟩ : ∃ s, s = m_ld1 L y b (k + 1) := ⟨_, rfl⟩
    have Y2 : ∀ a i, Y.2 a i = if a = 5 ∧ i = k + 1 then (if L.2 10 (b + (k + 1)) = -1 then 0 else L.2 12 (b + (k + 1))) else if a = 2 ∧ i = k + 1 then 0 else if a = 1 ∧ i = k + 1 then (if L.2 10 (b + (k + 1)) = -1 then 0 else 1) else y.2 a i := fun a i => by
      rw [hY]
      unfold m_ld1
      rw [p2_2, p2_2, p2_2]
    have M2 : ∀ a i, (m_ldn f L b (k + 1)).2 a i = if a = 6 ∧ 120 * (k + 1) ≤ i ∧ i < 120 * (k + 1) + 120 then (if ((i - 120 * (k + 1) : Nat) : Int) < (if L.2 10 (b + (k + 1)) = -1 then 0 else L.2 12 (b + (k + 1))) then f (L.2 11 (b + (k + 1)) + ((i - 120 * (k + 1) : Nat) : Int)).toNat else 0) else Y.2 a i := fun a i => by rw [hY, hy]; rfl
    by_cases g : n = k + 1
    · subst g
      refine ⟨by rw [M2, if_neg (by omega), Y2, if_neg (by omega), if_neg (by omega), if_pos ⟨rfl, rfl⟩], by rw [M2, if_neg (by omega), Y2, if_neg (by omega), if_pos ⟨rfl, rfl⟩], by rw [M2, if_neg (by omega), Y2, if_pos ⟨rfl, rfl⟩], fun q i hi hi2 => ?_⟩
      rw [M2, if_pos ⟨rfl, by omega, by omega⟩, show 120 * (k + 1) + i - 120 * (k + 1) = i by omega, if_neg q, if_pos hi2]
    · obtain ⟨i1, i2, i3, i4⟩ := ih n h1 (by omega)
      have mm : ∀ a, a ≠ 6 → (m_ldn f L b (k + 1)).2 a n = y.2 a n := fun a q => by rw [M2, if_neg (by omega), Y2, if_neg (by omega), if_neg (by omega), if_neg (by omega)]
      rw [mm 1 (by decide), mm 2 (by decide), mm 5 (by decide)]
      refine ⟨i1, i2, i3, fun q i hi hi2 => ?_⟩
      rw [M2, if_neg (by omega), Y2, if_neg (by omega), if_neg (by omega), if_neg (by omega)]
      exact i4 q i hi hi2
theorem q_bm {v : Int} (h : -128 ≤ v ∧ v ≤ 127) : v.bmod 256 = v := by
  rw [Int.bmod_def]
  split <;> omega
theorem R_rd {f : Nat → Int} {z v r : Int} {σ τ σ1 τ1 : fS} (hs : Rs σ τ) (hh : Rh σ τ) (hf9 : σ.2 9 = f) (hf7 : τ.2 7 = f) (hz1 : σ.1 8 1 = z) (hz2 : τ.1 0 7 = z) (ha : σ.1 8 2 = τ.1 0 9) (hI : x_I σ) (hx : x_rd f z σ v σ1) (hm : m_rd f z τ r τ1) : Rr σ1 τ1 ∧ v = r ∧ -2147483648 ≤ r ∧ r ≤ 2147483647 := by
  have hz : 0 ≤ z ∧ z ≤ 12000 := by rw [← hz1]; exact hI.1 8 1
  have h60 : 0 ≤ σ.1 10 1 ∧ σ.1 10 1 ≤ 60 := hI.1 10 1
  have hvr := x_rd_r hx hz hI
  have hfb : ∀ i, -128 ≤ f i ∧ f i ≤ 127 := fun i => by rw [← hf9]; exact hI.2 9 i
  obtain ⟨w, S, hf, hx⟩ := hx
  obtain ⟨f1, f2, f3, f4⟩ := x_ff_I hz hI hf
  rcases hm with ⟨m1, m2, m3⟩ | ⟨T, n, m1, m2, m3, m4, m5⟩
  · rcases x_ff_eq hz hI hf m2 with ⟨e1, -, e3⟩ | ⟨-, e, -⟩
    · rcases hx with ⟨-, x2, x3⟩ | ⟨x1, -⟩
      · have hv : v = r := by omega
        subst x3
        refine ⟨⟨?_, ⟨?_, ?_, ?_⟩, ?_⟩, hv, by omega, by omega⟩
        · exact Rs_cg hs (fun a b g => by rw [f2.1 a (by omega)]) (fun a b g => m1.1 a b (by omega))
        · rw [f2.2 8 1 (by decide) (by decide), m1.2 0 7 (by decide)]; omega
        · rw [f2.1 9 (by decide), hf9]; funext i; rw [m1.1 7 i (by decide), hf7]
        · rw [f2.2 8 2 (by decide) (by decide), m1.2 0 9 (by decide)]; exact ha
        · exact Rh_cg hh (fun a b g => f2.2 a b (by omega) (by omega)) (fun a b g => by rw [f2.1 a (by omega)]) (m1.2 0 10 (by decide)) (fun a b g => m1.1 a b (by omega)) h60.2
      · exact absurd x1 e1
    · exact absurd e (by decide)
  · obtain ⟨n2, e2, n1, n60, hok⟩ := p_file_ok m2 hz
    rcases x_ff_eq hz hI hf m2 with ⟨-, e, -⟩ | ⟨e1, -, c, e3, c1, c60, e4, e5⟩
    · exact absurd e (by decide)
    · rcases hx with ⟨x1, -⟩ | ⟨-, c2, x2, -, -, x4, x5⟩
      · exact absurd e1 x1
      · have ec : c2 = c := by omega
        have en : n2 = c := by omega
        have em : n = c := by omega
        rw [ec] at x5 x4
        rw [en] at hok
        rw [em] at m4 m5
        obtain ⟨c3, g1, -, -, hg⟩ := f4 e1
        have ec3 : c3 = c := by omega
        rw [ec3] at hg
        have hH := R_his_F (T := T) c60 f1 hg hok e5 c (Nat.le_refl _)
        obtain ⟨a1, a2, a3, a4⟩ := x_adF_I f1 c60 hg c (Nat.le_refl _)
        obtain ⟨X, hX⟩ : ∃ s, s = x_adF S c c := ⟨_, rfl⟩
        obtain ⟨M, hMM⟩ : ∃ s, s = m_lF f z T (T.2 15) c c := ⟨_, rfl⟩
        obtain ⟨l1, l2, l3⟩ := m_lF_o f z T (T.2 15) c c
        rw [← hX] at hH a1 a2 a3 a4 x5
        rw [← hMM] at hH l1 l2 l3
        unfold m_fin at m5
        rw [← hMM] at m5
        obtain ⟨V, hV⟩ : ∃ s, s = m_ldn f M (41 * (c - 1)) 40 := ⟨_, rfl⟩
        obtain ⟨U, hU⟩ : ∃ s, s = x_ldF f z X (12 + 3 * (c - 1)) 40 := ⟨_, rfl⟩
        obtain ⟨o1, o2⟩ := m_ldn_o f M (41 * (c - 1)) 40
        obtain ⟨q1, q2⟩ := x_ldF_o f z X (12 + 3 * (c - 1)) 40
        rw [← hV] at o1 o2 m5
        rw [← hU] at q1 q2
        unfold x_ldd at x5
        rw [← hU] at x5
        have s2 : ∀ a b, σ1.2 a b = if 1 ≤ b ∧ b < 41 then (if a = 6 then 0 else if a = 7 then U.2 2 b else U.2 a b) else U.2 a b := fun a b => by rw [x5]; rfl
        have so : ∀ a b, a ≠ 6 → a ≠ 7 → σ1.2 a b = U.2 a b := fun a b h6 h7 => by rw [s2, if_neg h6, if_neg h7, ite_self]
        have s67 : ∀ b, 1 ≤ b ∧ b < 41 → σ1.2 6 b = 0 ∧ σ1.2 7 b = U.2 2 b := fun b hb => by
          refine ⟨?_, ?_⟩
          · rw [s2, if_pos hb, if_pos rfl]
          · rw [s2, if_pos hb, if_neg (by decide), if_pos rfl]
        have t2 : ∀ a b, τ1.2 a b = if a = 3 ∧ 1 ≤ b ∧ b < 41 then 0 else if a = 4 ∧ 1 ≤ b ∧ b < 41 then V.2 1 b else V.2 a b := fun a b => by rw [m5.1]; rfl
        have to : ∀ a b, a ≠ 3 → a ≠ 4 → τ1.2 a b = V.2 a b := fun a b h6 h7 => by rw [t2, if_neg (by omega), if_neg (by omega)]
        have t34 : ∀ b, 1 ≤ b ∧ b < 41 → τ1.2 3 b = 0 ∧ τ1.2 4 b = V.2 1 b := fun b hb => by
          refine ⟨?_, ?_⟩
          · rw [t2, if_pos ⟨rfl, hb⟩]
          · rw [t2, if_neg (by omega), if_pos ⟨rfl, hb⟩]
        have s1 : ∀ a b, ¬ (a = 8 ∧ b = 2) → σ1.1 a b = X.1 a b := fun a b g => by
          rw [x5, p1_1, if_neg g]
          show U.1 a b = _
          rw [q1]
        have t1 : ∀ b, b ≠ 9 → ¬ (b = 20 ∨ b = 21 ∨ b = 22 ∨ b = 26 ∨ b = 27) → τ1.1 0 b = M.1 0 b := fun b g g2 => by
          rw [m5.2 0 b (by omega)]
          show (f_p1 V 0 9 0).1 0 b = _
          rw [p1_1, if_neg (by omega), o1]
        refine ⟨⟨fun n n1 n40 => ?_, ⟨?_, ?_, ?_⟩, ?_, fun r hr => ?_⟩, by omega, by omega, by omega⟩
        · obtain ⟨u1, u2, u3⟩ := x_ldF_at (f := f) (z := z) (σ := X) (r := 12 + 3 * (c - 1)) (by omega) (fun q => (x_okA_hl (c - 1) (by omega) _).mp (a1.2 _ _)) 40 n n1 n40
          obtain ⟨w1, w2, w3, w4⟩ := m_ldn_at (f := f) (L := M) (b := 41 * (c - 1)) 40 n n1 n40
          rw [← hU] at u1 u2 u3
          rw [← hV] at w1 w2 w3 w4
          obtain ⟨E1, E2⟩ := (hH (c - 1) (by omega)).2.2 n n1 n40
          have hln := (x_okA_hl (c - 1) (by omega) _).mp (a1.2 (12 + 3 * (c - 1) + 2) n)
          rw [← E1] at w1 w3 w4
          have hb : 1 ≤ n ∧ n < 41 := ⟨n1, by omega⟩
          have hth : σ1.2 2 n = τ1.2 1 n := by rw [so 2 n (by decide) (by decide), to 1 n (by decide) (by decide), u1, w1]
          refine ⟨hth, ?_, ?_, fun g => ?_⟩
          · rw [(t34 n hb).1]
            unfold x_ch
            rw [so 2 n (by decide) (by decide), (s67 n hb).1, (s67 n hb).2, u1]
            by_cases gp : X.2 (12 + 3 * (c - 1) + 1) n = -1
            · rw [if_pos gp, if_neg (by decide)]
            · rw [if_neg gp, if_pos rfl]
          · rw [(s67 n hb).2, (t34 n hb).2, u1, w1]
          · rw [so 2 n (by decide) (by decide), u1] at g
            have gp : X.2 (12 + 3 * (c - 1) + 1) n ≠ -1 := fun q => by rw [if_pos q] at g; exact absurd g (by decide)
            obtain ⟨u4, u5⟩ := u3 gp
            obtain ⟨k1, k2, k3⟩ := E2 gp
            rw [so 3 n (by decide) (by decide), so 4 n (by decide) (by decide), to 2 n (by decide) (by decide), to 5 n (by decide) (by decide), u2, w2, u4, w3, if_neg gp]
            refine ⟨rfl, k1, fun i hi => ?_⟩
            rw [so 5 _ (by decide) (by decide), to 6 _ (by decide) (by decide), u5 i hi, w4 gp i (by omega) (by omega)]
            have hbp : x_bp X (12 + 3 * (c - 1)) (n : Int) = M.2 11 (41 * (c - 1) + n) := by
              unfold x_bp
              rw [show ((n : Int)).toNat = n by omega]
              exact k2
            rw [hbp, q_va_i (by omega), q_bm (hfb _)]
        · rw [s1 8 1 (by decide), a4 8 1 (by decide) (by decide), f2.2 8 1 (by decide) (by decide), t1 7 (by decide) (by decide), l1 7 (by decide), m1.2 0 7 (by decide)]; omega
        · funext i
          rw [so 9 i (by decide) (by decide), q2 9 (by decide), a3 9 (by decide), f2.1 9 (by decide), hf9, to 7 i (by decide) (by decide), o2 7 (by decide), l3 7 (by decide), m1.1 7 i (by decide), hf7]
        · rw [x5, p1_1, if_pos ⟨rfl, rfl⟩, m5.2 0 9 (by decide)]
          show 0 = (f_p1 V 0 9 0).1 0 9
          rw [p1_1, if_pos ⟨rfl, rfl⟩]
        · rw [s1 10 1 (by decide), a2, t1 10 (by decide) (by decide), l2]
        · rw [s1 10 1 (by decide), a2] at hr
          obtain ⟨k1, k2, k3⟩ := hH r (by omega)
          have tM : ∀ a b, 7 < a → τ1.2 a b = M.2 a b := fun a b g => by rw [to a b (by omega) (by omega), o2 a (by omega)]
          refine ⟨by rw [s1 _ 3 (by omega), tM 8 r (by decide)]; exact k1, by rw [s1 _ 2 (by omega), tM 9 r (by decide)]; exact k2, fun n n1 n40 => ?_⟩
          rw [so _ n (by omega) (by omega), q2 _ (by omega), tM 10 _ (by decide)]
          exact (k3 n n1 n40).1
section R15
variable {σ σ1 τ τ1 : fS} {k v r i : Int}
theorem rs_take (h : Rr σ τ) (hI : x_I σ) (hM : m_I τ) (hy : y_take σ i k v σ1) (hu : u_take τ i r τ1) : Rr σ1 τ1 ∧ τ1.1 0 0 = k ∧ (0 ≤ k ∧ k ≤ 2) ∧ (k = 0 → v = r) ∧ -2147483648 ≤ r ∧ r ≤ 2147483647 := by
  have h60 : 0 ≤ σ.1 10 1 ∧ σ.1 10 1 ≤ 60 := hI.1 10 1
  have z10 := h.2.2.1
  rcases hy with ⟨g, rfl, rfl⟩ | ⟨g, rfl, hx⟩
  · rcases hu with ⟨-, rfl, rfl⟩ | ⟨q, -⟩
    · exact ⟨Rr_0 h 1, rfl, by decide, fun e => absurd e (by decide), by decide⟩
    · exact absurd (by rw [z10]; exact q) g
  · rcases hu with ⟨q, -⟩ | ⟨-, hm⟩
    · exact absurd (by rw [← z10]; exact g) q
    · have en : x_tkn σ i.toNat = m_tkn τ i.toNat := by
        unfold x_tkn m_tkn
        rw [(h.2.2.2 i.toNat (by omega)).1, h.2.1.1]
      have hmI := (m_rd_I (m_tk_I hM) (f := τ.2 7) (z := m_tkn τ i.toNat) rfl rfl hm).2
      rw [← h.2.1.2.1, ← en] at hm
      have c1 : ∀ a b, a ≠ 8 → (x_tk σ i.toNat).1 a b = σ.1 a b := fun a b g => by
        unfold x_tk
        rw [p1_1, if_neg (by omega), p1_1, if_neg (by omega)]
      have hRs : Rs (x_tk σ i.toNat) (m_tk τ i.toNat) := Rs_cg h.1 (fun _ _ _ => rfl) (fun _ _ _ => rfl)
      have hRh : Rh (x_tk σ i.toNat) (m_tk τ i.toNat) := Rh_cg h.2.2 (fun a b g => c1 a b (by omega)) (fun _ _ _ => rfl) rfl (fun _ _ _ => rfl) h60.2
      obtain ⟨e1, e2, e3⟩ := R_rd hRs hRh rfl h.2.1.2.1.symm rfl en.symm rfl (x_tk_I hI (by omega)) hx hm
      exact ⟨e1, by rw [hmI]; rfl, by decide, fun _ => e2, e3⟩
end R15
end
