/-! write and append -/
theorem R_rec {σ τ : fS} {n : Int} (h : Rs σ τ) (hn : 1 ≤ n ∧ n ≤ 40) (ht : σ.2 2 n.toNat = 1) : x_rec σ n = m_rec τ n := by
  obtain ⟨-, -, -, e4⟩ := h n.toNat (by omega) (by omega)
  obtain ⟨-, f2, f3⟩ := e4 ht
  unfold x_rec m_rec x_hd m_hdr
  rw [← f2]
  have e : x_byt σ n (σ.2 4 n.toNat).toNat = m_byt τ n (σ.2 4 n.toNat).toNat := by
    unfold x_byt m_byt
    refine List.map_congr_left (fun j hj => ?_)
    have hj := List.mem_range.mp hj
    rw [show (n * 120 + (j : Int)).toNat = 120 * n.toNat + j by omega, show (120 * n + (j : Int)).toNat = 120 * n.toNat + j by omega]
    exact f3 j (by omega)
  rw [e]
  rfl
theorem m_last_mem {t : fS} {w how : Int} (hh : 0 ≤ how ∧ how ≤ 2) {x : Int} (hx : x ∈ m_turns t w how (m_last how + 1)) : ∃ u : Nat, u < m_last how + 1 ∧ m_sel t w how (u : Int) x ∧ 1 ≤ x ∧ x ≤ 40 := by
  rw [← m_tk2_40] at hx
  obtain ⟨u, hu, hm⟩ := m_tk2_el t w how 40 _ x hx
  obtain ⟨hs, h1, h2⟩ := m_turn_el t w how (u : Int) 40 x hm
  exact ⟨u, hu, hs, h1, h2⟩
section R8
variable {σ σ1 τ τ1 : fS} {k v r how : Int}
theorem rs_write (h : Rr σ τ) (hI : x_I σ) (hM : m_I τ) (hy : y_write σ how k v σ1) (hu : u_write τ how r τ1) : Rr σ1 τ1 ∧ τ1.1 0 0 = k ∧ (0 ≤ k ∧ k ≤ 2) ∧ (k = 0 → v = r) ∧ -2147483648 ≤ r ∧ r ≤ 2147483647 := by
  rcases hy with ⟨g, rfl, rfl⟩ | ⟨hh, rfl, hw, hv⟩
  · rcases hu with ⟨-, rfl, rfl⟩ | ⟨q, -⟩
    · exact ⟨Rr_0 h 1, rfl, by decide, fun e => absurd e (by decide), by decide⟩
    · exact absurd q g
  · rcases hu with ⟨q, -⟩ | ⟨-, ht1, hr, hI1, h00⟩
    · exact absurd hh q
    · have hr7 : 0 ≤ τ1.1 0 7 ∧ τ1.1 0 7 ≤ 12000 := hI1.1 7
      suffices hR : Rr σ1 τ1 by
        exact ⟨hR, h00, by decide, fun _ => by rw [hv, hr]; exact hR.2.1.1, by omega⟩
      obtain ⟨C, hC, rfl⟩ := hw
      obtain ⟨S1, hS1⟩ : ∃ s, s = f_p1 (f_p1 τ 0 0 0) 0 17 1 := ⟨_, rfl⟩
      have iS1 : m_I S1 := by rw [hS1]; exact m_I_p (m_I_00 hM 0) 17 1 (by decide) (m_okF_n _ _ (by decide))
      obtain ⟨P1, hP1⟩ : ∃ s, s = m_part S1 0 1 how := ⟨_, rfl⟩
      have iP1 : m_I P1 := by rw [hP1]; exact m_I_part iS1 (by omega) (Or.inr rfl) hh
      obtain ⟨u1, u2, -⟩ := m_part_f iS1 (show (0 : Int) ≤ 0 ∧ (0 : Int) ≤ 12000 by omega) (Or.inr rfl) hh
      rw [← hP1] at u1 u2
      have u7 : ∀ i, P1.2 7 i = τ.2 7 i := fun i => by rw [hP1, m_part_7c _ _ _ _ (by rw [hS1]; rfl), hS1]; rfl
      obtain ⟨t, ht⟩ : ∃ s, s = f_p1 P1 0 17 0 := ⟨_, rfl⟩
      have it : m_I t := by rw [ht]; exact m_I_p iP1 17 0 (by decide) (m_okF_n _ _ (by decide))
      have t2 : ∀ k i, k ≠ 7 → k ≠ 13 → k ≠ 14 → t.2 k i = τ.2 k i := fun k i g1 g2 g3 => by rw [ht]; show P1.2 k i = _; rw [u1 k i g1 g2 g3, hS1]; rfl
      have t7 : ∀ i, t.2 7 i = τ.2 7 i := fun i => by rw [ht]; exact u7 i
      obtain ⟨F, hF⟩ : ∃ s, s = x_puts (x_beg σ 0) [37, 70, 49, 10] := ⟨_, rfl⟩
      have F2 : ∀ a b, a ≠ 375 → a ≠ 378 → a ≠ 379 → F.2 a b = σ.2 a b := fun a b g1 g2 g3 => by rw [hF, x_puts_2 _ _ _ _ g1, x_beg_2 _ _ _ _ ⟨g2, g3⟩]
      obtain ⟨b5, b6, b4⟩ := x_beg_1 σ 0
      have F4 : F.1 374 4 = 0 := by rw [hF, x_puts_1, if_neg (by omega)]; exact b4
      have hC' := hC
      rw [← hF] at hC'
      have hrd := x_rdy_w hI hC
      obtain ⟨c1, c2, c3, c4⟩ := x_chR_I F4 40 C (by omega) hC'
      have RF : Rs F t := Rs_cg h.1 (fun a b g => F2 a b (by omega) (by omega) (by omega)) (fun a b g => t2 a b (by omega) (by omega) (by omega))
      have RC : Rs C t := Rs_cg RF (fun a b g => c3 a b (by omega)) (fun _ _ _ => rfl)
      have hF3 : ∀ i, 0 ≤ F.2 3 i ∧ F.2 3 i ≤ 1 := fun i => by rw [F2 3 i (by decide) (by decide) (by decide)]; exact hI.2 3 i
      have hord : x_ord C = m_turns t 1 how (m_last how + 1) := by
        rw [← m_tk2_40]
        exact x_chR_ord hh RF F4 (fun i => by rw [F2 2 i (by decide) (by decide) (by decide)]; exact hI.2 2 i) hF3 (fun i => by rw [F2 4 i (by decide) (by decide) (by decide)]; exact hI.2 4 i) 40 C (by omega) hC'
      have hDB : Dr (x_beg σ 0) [] := ⟨by rw [b6]; rfl, fun j hj => absurd hj (by simp)⟩
      have hDF : Dr F [37, 70, 49, 10] := by
        have := Dr_puts [37, 70, 49, 10] hDB
        rw [← hF] at this
        exact this
      have hDC : Dr C [37, 70, 49, 10] := Dr_cg hDF (c2 374 6 (by omega)) (fun j => c3 375 j (by decide))
      have hmem : ∀ n : Nat, n ∈ (x_ord C).map Int.toNat ↔ (1 ≤ n ∧ n ≤ 40 ∧ t.2 1 n = 1) := by
        intro n
        rw [hord]
        constructor
        · intro hn
          obtain ⟨x, hx, e⟩ := List.mem_map.mp hn
          obtain ⟨u, -, hs, x1, x2⟩ := m_last_mem hh hx
          have := hs.2.1
          rw [e] at this
          exact ⟨by omega, by omega, this⟩
        · rintro ⟨n1, n40, hn⟩
          refine List.mem_map.mpr ⟨((n - 1 : Nat) : Int) + 1, ?_, by omega⟩
          refine m_all_in t 1 how (n - 1) (by omega) hh (Or.inl ⟨rfl, ?_⟩) ?_ ?_ ?_
          · rw [show n - 1 + 1 = n by omega]; exact hn
          · rw [show n - 1 + 1 = n by omega]; exact hn
          · exact it.2.1 2 _
          · exact it.2.1 5 _
      have hpq : m_pq t 1 = 0 := by unfold m_pq; rw [if_pos rfl]
      have hmv1 : ∀ n, m_mv t 1 n = t.2 1 n := fun n => by unfold m_mv; rw [if_pos rfl]
      obtain ⟨TL, p1, p2, p3, p4, p5, p6, p7⟩ := R_part (q := 0) hrd (show (0 : Int) ≤ 0 by omega) (by rw [c2 374 5 (by omega), hF, x_puts_1, if_neg (by omega)]; exact b5) hDC (by rw [if_pos rfl]) hord (fun n hn => by
          have hm := (hmem n.toNat).mp (List.mem_map.mpr ⟨n, hn, rfl⟩)
          rw [hord] at hn
          obtain ⟨u, -, hs, x1, x2⟩ := m_last_mem hh hn
          exact R_rec RC ⟨x1, x2⟩ (by rw [(RC n.toNat (by omega) (by omega)).1]; exact hm.2.2)) hpq (fun n n1 n40 => by
          rw [hmv1]
          have h1 : 0 ≤ t.2 1 n ∧ t.2 1 n ≤ 1 := it.2.1 1 n
          by_cases g : t.2 1 n = 1
          · exact Or.inl ⟨⟨g, g⟩, (hmem n).mpr ⟨n1, n40, g⟩⟩
          · refine Or.inr (Or.inr ⟨by omega, fun q => g ((hmem n).mp q).2.2, ?_⟩)
            rw [c3 378 n (by decide), hF, x_puts_2 _ _ _ _ (by decide), x_beg_378, if_pos (by omega)])
      obtain ⟨P, hP⟩ : ∃ s, s = m_part t 0 1 how := ⟨_, rfl⟩
      rw [← hP] at p2 p4 p5 p6
      obtain ⟨v1, v2, -, v4, -, -⟩ := m_part_f it (show (0 : Int) ≤ 0 ∧ (0 : Int) ≤ 12000 by omega) (Or.inr rfl) hh
      rw [← hP] at v1 v2 v4
      have eA : τ1 = m_save (m_remd (f_p1 (f_p1 P 0 7 (P.1 0 16)) 0 9 0) 1 0) 41 := by
        rw [ht1, ← hS1, ← hP1]
        unfold m_all m_Q m_pa m_rr
        rw [if_pos rfl, ← ht, ← hP]
      rw [eA]
      have E2 : ∀ a b, a ≠ 375 → a ≠ 376 → a ≠ 378 → a ≠ 379 → (x_fin C 0).2 a b = σ.2 a b := fun a b g1 g2 g3 g4 => by rw [p7 a b g1 g3 g4, c3 a b g2, F2 a b g1 g3 g4]
      have hPmv : ∀ n, m_mv P 1 n = m_mv t 1 n := m_mv_cg (fun i => v1 1 i (by decide) (by decide) (by decide)) (fun i => v1 3 i (by decide) (by decide) (by decide))
      have P2 : ∀ a b, a ≤ 6 → P.2 a b = τ.2 a b := fun a b g => by rw [v1 a b (by omega) (by omega) (by omega), t2 a b (by omega) (by omega) (by omega)]
      obtain ⟨K, hK⟩ : ∃ s, s = f_p1 (x_fin C 0) 10 1 0 := ⟨_, rfl⟩
      have K1 : ∀ a b, a ≠ 10 → K.1 a b = (x_fin C 0).1 a b := fun a b g => by rw [hK, p1_1, if_neg (by omega)]
      have K2 : ∀ a b, K.2 a b = (x_fin C 0).2 a b := fun a b => by rw [hK, p1_2]
      rw [← hK]
      refine R_keep (K := K) (t := t) (a := 0) (TL := TL) (by omega) (by omega) ⟨by rw [K1 _ _ (by decide)]; exact p1.1, fun j hj => by rw [K2]; exact p1.2 j hj⟩ p2 ?_ (by rw [K1 _ _ (by decide)]; exact p3) ?_ (by rw [K1 _ _ (by decide)]; exact p4) (by rw [K1 _ _ (by decide)]; exact p5) (Or.inr rfl) (fun _ => rfl) (fun e => absurd e (by decide)) (fun n n1 n40 => ?_) (fun i => (v4 i).1) (fun n n1 n40 => ?_) (fun i => ?_) (fun r hr => absurd hr (by omega))
      · rw [v2 17 (by decide) (by decide), ht]; rfl
      · funext i
        rw [K2, E2 9 i (by decide) (by decide) (by decide) (by decide), t7]
        exact congrFun h.2.1.2.1 i
      · rw [hPmv, v1 1 n (by decide) (by decide) (by decide), K2]
        exact p6 n n1 n40
      · obtain ⟨e1, -, -, e4⟩ := h.1 n n1 n40
        simp only [K2]
        rw [E2 2 n (by decide) (by decide) (by decide) (by decide), E2 3 n (by decide) (by decide) (by decide) (by decide), E2 4 n (by decide) (by decide) (by decide) (by decide), P2 1 n (by decide), P2 2 n (by decide), P2 5 n (by decide)]
        refine ⟨e1, fun g => ?_⟩
        obtain ⟨f1, f2, f3⟩ := e4 g
        exact ⟨f1, f2, fun i hi => by rw [E2 5 _ (by decide) (by decide) (by decide) (by decide), P2 6 _ (by decide)]; exact f3 i hi⟩
      · rw [K2, E2 2 i (by decide) (by decide) (by decide) (by decide)]
        exact hI.2 2 i
theorem x_insd_378 (s : fS) (t : Nat) (n : Int) (b : Nat) : (x_insd s t n).2 378 b = s.2 378 b := by
  unfold x_insd
  rw [p1_2, p2_2, if_neg (by omega)]
  exact x_sh_2 _ _ _ _ _ (by decide)
theorem x_ccF_378 (F : fS) (b : Nat) : ∀ k : Nat, (x_ccF F k).2 378 b = if (1 ≤ b ∧ b ≤ k) ∧ x_ch F b = 1 ∧ F.2 2 b ≠ 1 then -1 else F.2 378 b := by
  intro k
  induction k with
  | zero => rw [if_neg (by omega)]; rfl
  | succ k ih =>
    have e : x_ccF F (k + 1) = if x_ch F (k + 1) = 1 then (if F.2 2 (k + 1) = 1 then x_insd (x_ccF F k) ((x_ccF F k).1 374 4).toNat ((k : Int) + 1) else f_p2 (x_ccF F k) 378 (k + 1) (-1)) else x_ccF F k := rfl
    by_cases gb : b = k + 1
    · subst gb
      rw [e]
      by_cases g1 : x_ch F (k + 1) = 1
      · rw [if_pos g1]
        by_cases g2 : F.2 2 (k + 1) = 1
        · rw [if_pos g2, x_insd_378, ih, if_neg (by omega), if_neg (fun q => q.2.2 g2)]
        · rw [if_neg g2, p2_2, if_pos ⟨rfl, rfl⟩, if_pos ⟨by omega, g1, g2⟩]
      · rw [if_neg g1, ih, if_neg (by omega), if_neg (fun q => g1 q.2.1)]
    · have e2 : (x_ccF F (k + 1)).2 378 b = (x_ccF F k).2 378 b := by
        rw [e]
        split
        · split
          · exact x_insd_378 _ _ _ _
          · rw [p2_2, if_neg (by omega)]
        · rfl
      rw [e2, ih]
      by_cases g : (1 ≤ b ∧ b ≤ k) ∧ x_ch F b = 1 ∧ F.2 2 b ≠ 1
      · rw [if_pos g, if_pos ⟨by omega, g.2⟩]
      · rw [if_neg g, if_neg (fun q => g ⟨by omega, q.2⟩)]
/-- an append's part, by both, in either pass -/
theorem R_apart {σ τ t : fS} {c : Nat} (h : Rr σ τ) (hI : x_I σ) (it : m_I t) (hc : σ.1 10 1 = (c : Int)) (hc1 : 1 ≤ c) (ht2 : ∀ k i, k ≠ 7 → k ≠ 13 → k ≠ 14 → t.2 k i = τ.2 k i) (ht10 : t.1 0 10 = τ.1 0 10) (hr : x_ccR (x_beg σ (σ.1 8 1)) 40 (x_ccF (x_beg σ (σ.1 8 1)) 40)) :
    ∃ TL : List Int, Dr (x_apd σ c) TL ∧ Mr t (σ.1 8 1) (m_part t (σ.1 8 1) 0 0) TL ∧ (x_apd σ c).1 374 5 = σ.1 8 1 ∧ (x_apd σ c).1 377 3 = (m_part t (σ.1 8 1) 0 0).1 0 16 ∧ (x_apd σ c).1 377 2 = (m_part t (σ.1 8 1) 0 0).1 0 26 ∧ (∀ n : Nat, 1 ≤ n → n ≤ 40 → (m_mv t 0 n = 1 ∧ (x_apd σ c).2 378 n = if t.2 1 n = 1 then (m_part t (σ.1 8 1) 0 0).2 13 n else -1) ∨ (m_mv t 0 n = 0 ∧ (x_apd σ c).2 378 n = -2)) ∧ (∀ a b, a ≠ 375 → a ≠ 376 → a ≠ 378 → a ≠ 379 → (x_apd σ c).2 a b = σ.2 a b) ∧ (∀ a b, a ≠ 374 → a ≠ 377 → (x_apd σ c).1 a b = σ.1 a b) := by
  have h8 : 0 ≤ σ.1 8 1 ∧ σ.1 8 1 ≤ 12000 := hI.1 8 1
  have h10 : 0 ≤ σ.1 10 1 ∧ σ.1 10 1 ≤ 60 := hI.1 10 1
  obtain ⟨F, hF⟩ : ∃ s, s = x_beg σ (σ.1 8 1) := ⟨_, rfl⟩
  obtain ⟨b5, b6, b4⟩ := x_beg_1 σ (σ.1 8 1)
  have hrd := x_rdy_a hI hr
  rw [← hF] at b5 b6 b4 hr hrd
  have F2 : ∀ a b, a ≠ 378 → a ≠ 379 → F.2 a b = σ.2 a b := fun a b g1 g2 => by rw [hF, x_beg_2 _ _ _ _ ⟨g1, g2⟩]
  obtain ⟨c1, c2, c3, c4, c5⟩ := x_ccR_I b4 40 _ (by omega) hr
  obtain ⟨C, hC⟩ : ∃ s, s = x_ccF F 40 := ⟨_, rfl⟩
  have hord0 : x_ord (x_ccF F 40) = m_turn t 0 0 0 40 := x_ccF_ord (Rs_cg h.1 (fun a b g => F2 a b (by omega) (by omega)) (fun a b g => ht2 a b (by omega) (by omega) (by omega))) b4 40 (by omega) hr
  have h378 := fun b => x_ccF_378 F b 40
  rw [← hC] at hr hrd c1 c2 c3 c4 c5 hord0 h378
  have RF : Rs F t := Rs_cg h.1 (fun a b g => F2 a b (by omega) (by omega)) (fun a b g => ht2 a b (by omega) (by omega) (by omega))
  have RC : Rs C t := Rs_cg RF (fun a b g => c3 a b (by omega) (by omega)) (fun _ _ _ => rfl)
  have hord : x_ord C = m_turns t 0 0 (m_last 0 + 1) := by
    rw [hord0, show m_last 0 = 0 from by decide]
    have e1 : m_turns t 0 0 (0 + 1) = m_turns t 0 0 0 ++ m_turn t 0 0 ((0 : Nat) : Int) 40 := m_turns.eq_2 t 0 0 0
    have e2 : m_turns t 0 0 0 = [] := m_turns.eq_1 t 0 0
    rw [e1, e2, List.nil_append, show ((0 : Nat) : Int) = 0 from rfl]
  have hDC : Dr C [] := ⟨by rw [c2 374 6 (by omega), b6]; rfl, fun j hj => absurd hj (by simp)⟩
  have hmem : ∀ n : Nat, n ∈ (x_ord C).map Int.toNat ↔ (1 ≤ n ∧ n ≤ 40 ∧ t.2 3 n = 1 ∧ t.2 1 n = 1) := by
    intro n
    rw [hord]
    constructor
    · intro hn
      obtain ⟨x, hx, e⟩ := List.mem_map.mp hn
      obtain ⟨u, -, hs, x1, x2⟩ := m_last_mem (by omega) hx
      obtain ⟨q1, q2, -⟩ := hs
      rw [e] at q1 q2
      exact ⟨by omega, by omega, by omega, q2⟩
    · rintro ⟨n1, n40, hn3, hn1⟩
      refine List.mem_map.mpr ⟨((n - 1 : Nat) : Int) + 1, ?_, by omega⟩
      refine m_all_in t 0 0 (n - 1) (by omega) (by omega) (Or.inr ⟨rfl, ?_⟩) ?_ ?_ ?_
      · rw [show n - 1 + 1 = n by omega]; exact hn3
      · rw [show n - 1 + 1 = n by omega]; exact hn1
      · exact it.2.1 2 _
      · exact it.2.1 5 _
  have hmv0 : ∀ n, m_mv t 0 n = t.2 3 n := fun n => by unfold m_mv; rw [if_neg (by decide)]
  have hlx : m_pq t 0 = x_lx σ c := by
    unfold m_pq x_lx
    rw [if_neg (by decide), if_neg (by omega), ht10, ← h.2.2.1, hc, show ((c : Int) - 1).toNat = c - 1 by omega, ht2 9 _ (by decide) (by decide) (by decide)]
    exact ((h.2.2.2 (c - 1) (by omega)).2.1).symm
  obtain ⟨TL, p1, p2, p3, p4, p5, p6, p7⟩ := R_part (q := x_lx σ c) (w := 0) (how := 0) (T := []) hrd h8.1 (by rw [c2 374 5 (by omega)]; exact b5) hDC (by rw [if_neg (by decide)]) hord (fun n hn => by
      have hm := (hmem n.toNat).mp (List.mem_map.mpr ⟨n, hn, rfl⟩)
      rw [hord] at hn
      obtain ⟨u, -, hs, x1, x2⟩ := m_last_mem (by omega) hn
      exact R_rec RC ⟨x1, x2⟩ (by rw [(RC n.toNat (by omega) (by omega)).1]; exact hm.2.2.2)) hlx (fun n n1 n40 => by
      rw [hmv0]
      have h1 : 0 ≤ t.2 1 n ∧ t.2 1 n ≤ 1 := it.2.1 1 n
      have h3 : 0 ≤ t.2 3 n ∧ t.2 3 n ≤ 1 := it.2.1 3 n
      obtain ⟨e1, e2, -, -⟩ := RF n n1 n40
      have f378 : F.2 378 n = -2 := by rw [hF, x_beg_378, if_pos (by omega)]
      by_cases g3 : t.2 3 n = 1
      · by_cases g1 : t.2 1 n = 1
        · exact Or.inl ⟨⟨g3, g1⟩, (hmem n).mpr ⟨n1, n40, g3, g1⟩⟩
        · refine Or.inr (Or.inl ⟨⟨g3, by omega⟩, fun q => g1 ((hmem n).mp q).2.2.2, ?_⟩)
          rw [h378, if_pos ⟨⟨n1, n40⟩, by rw [e2]; exact g3, by rw [e1]; exact g1⟩]
      · refine Or.inr (Or.inr ⟨by omega, fun q => g3 ((hmem n).mp q).2.2.1, ?_⟩)
        rw [h378, if_neg (fun q => g3 (by rw [← e2]; exact q.2.1))]
        exact f378)
  have eA : x_apd σ c = x_fin C (x_lx σ c) := by unfold x_apd; rw [← hF, ← hC]
  rw [← eA] at p1 p3 p4 p5 p6 p7
  refine ⟨TL, p1, p2, p3, p4, p5, p6, fun a b g1 g2 g3 g4 => by rw [p7 a b g1 g3 g4, c3 a b g2 g3, F2 a b g3 g4], fun a b g1 g2 => ?_⟩
  rw [eA, x_fin_o hrd _ a b (by omega), c2 a b (by omega), hF]
  show (f_p1 (f_p1 (f_p1 σ 374 5 _) 374 6 0) 374 4 0).1 a b = _
  rw [p1_1, if_neg (by omega), p1_1, if_neg (by omega), p1_1, if_neg (by omega)]
end R8
