section R9
variable {σ σ1 τ τ1 : fS} {k v r : Int}
theorem rs_append (h : Rr σ τ) (hI : x_I σ) (hM : m_I τ) (hy : y_append σ k v σ1) (hu : u_append τ r τ1) : Rr σ1 τ1 ∧ τ1.1 0 0 = k ∧ (0 ≤ k ∧ k ≤ 2) ∧ (k = 0 → v = r) ∧ -2147483648 ≤ r ∧ r ≤ 2147483647 := by
  have z7 := h.2.1.1
  have z9 := h.2.1.2.2
  have z10 := h.2.2.1
  have hcn : m_cnt (x_ch σ) 40 = m_cnt (τ.2 3) 40 := m_cnt_eq 40 (fun i h1 h2 => (h.1 i h1 h2).2.1)
  have h7 : 0 ≤ τ.1 0 7 ∧ τ.1 0 7 ≤ 12000 := hM.1 7
  have h10 : 0 ≤ τ.1 0 10 ∧ τ.1 0 10 ≤ 60 := hM.1 10
  have hg : (σ.1 8 1 = 0 ∨ σ.1 8 2 = 1) ↔ (τ.1 0 7 = 0 ∨ τ.1 0 9 = 1) := by rw [z7, z9]
  obtain ⟨c, hc⟩ : ∃ c, c = (σ.1 10 1).toNat := ⟨_, rfl⟩
  have hcc : σ.1 10 1 = (c : Int) := by omega
  obtain ⟨S1, hS1⟩ : ∃ s, s = f_p1 (f_p1 τ 0 0 0) 0 17 1 := ⟨_, rfl⟩
  have iS1 : m_I S1 := by rw [hS1]; exact m_I_p (m_I_00 hM 0) 17 1 (by decide) (m_okF_n _ _ (by decide))
  obtain ⟨PP, hPP⟩ : ∃ s, s = m_part S1 (σ.1 8 1) 0 0 := ⟨_, rfl⟩
  have ha : 0 ≤ σ.1 8 1 ∧ σ.1 8 1 ≤ 12000 := hI.1 8 1
  obtain ⟨u1, u2, -, u4, -, -⟩ := m_part_f iS1 ha (Or.inl rfl) (show (0 : Int) ≤ 0 ∧ (0 : Int) ≤ 2 by omega)
  rw [← hPP] at u1 u2 u4
  have PP2 : ∀ k i, k ≠ 7 → k ≠ 13 → k ≠ 14 → PP.2 k i = τ.2 k i := fun k i g1 g2 g3 => by rw [u1 k i g1 g2 g3, hS1]; rfl
  have PP7 : ∀ i, PP.2 7 i = τ.2 7 i := fun i => by rw [hPP, m_part_7c _ _ _ _ (by rw [hS1]; rfl), hS1]; rfl
  have PPf : ∀ q, q ≠ 16 → q ≠ 26 → q ≠ 0 → q ≠ 17 → PP.1 0 q = τ.1 0 q := fun q g1 g2 g3 g4 => by
    rw [u2 q g1 g2, hS1, p1_1, if_neg (by omega), p1_1, if_neg (by omega)]
  have PP0 : PP.1 0 0 = 0 := by rw [u2 0 (by decide) (by decide), hS1]; rfl
  unfold u_append at hu
  rw [← hS1, ← z7, ← hPP] at hu
  have zz7 := z7
  rw [z7] at hg
  rcases hy with ⟨g, rfl, rfl⟩ | ⟨g, g2, rfl, hv, rfl⟩ | ⟨g, g2, g3, rfl, rfl⟩ | ⟨g, g2, g3, g4, rfl, hr, hσ⟩ | ⟨g, g2, g3, g4, rfl, hr, hσ, hv⟩
  · rcases hu with ⟨-, rfl, rfl⟩ | ⟨q, -⟩
    · exact ⟨Rr_0 h 1, rfl, by decide, fun e => absurd e (by decide), by decide⟩
    · exact absurd (by rw [z7, ← z9]; rw [z7] at g; exact g) q
  · rcases hu with ⟨q, -⟩ | ⟨-, ⟨-, rfl, rfl⟩ | ⟨q, -⟩ | ⟨q, -⟩ | ⟨q, -⟩⟩
    · exact absurd (by rw [z9]; exact q) g
    · exact ⟨Rr_0 h 0, rfl, by decide, fun _ => hv, by decide⟩
    · exact absurd (by rw [← hcn]; exact g2) q
    · exact absurd (by rw [← hcn]; exact g2) q
    · exact absurd (by rw [← hcn]; exact g2) q
  · rcases hu with ⟨q, -⟩ | ⟨-, ⟨q, -⟩ | ⟨-, -, rfl, rfl⟩ | ⟨-, q, -⟩ | ⟨-, q, -⟩⟩
    · exact absurd (by rw [z9]; exact q) g
    · exact absurd (by rw [hcn]; exact q) g2
    · refine ⟨?_, rfl, by decide, fun e => absurd e (by decide), by decide⟩
      rw [hS1]
      exact ⟨Rs_cg h.1 (fun _ _ _ => rfl) (fun _ _ _ => rfl), ⟨h.2.1.1, h.2.1.2.1, h.2.1.2.2⟩, ⟨h.2.2.1, h.2.2.2⟩⟩
    · omega
    · omega
  · have hc1 : 1 ≤ c := by
      have := hM.2.2.2 (by omega)
      omega
    rw [← hc] at g4 hσ
    obtain ⟨TL, p1, p2, p3, p4, p5, p6, p7, p8⟩ := R_apart h hI iS1 hcc hc1 (fun k i _ _ _ => by rw [hS1]; rfl) (by rw [hS1]; rfl) hr
    rw [← hPP] at p4
    rcases hu with ⟨q, -⟩ | ⟨-, ⟨q, -⟩ | ⟨-, q, -⟩ | ⟨-, -, -, rfl, rfl⟩ | ⟨-, -, q, -⟩⟩
    · exact absurd (by rw [z9]; exact q) g
    · exact absurd (by rw [hcn]; exact q) g2
    · omega
    · refine ⟨?_, rfl, by decide, fun e => absurd e (by decide), by decide⟩
      rw [hσ]
      refine ⟨Rs_cg h.1 (fun a b g => p7 a b (by omega) (by omega) (by omega) (by omega)) (fun a b g => PP2 a b (by omega) (by omega) (by omega)), ⟨?_, ?_, ?_⟩, ?_⟩
      · rw [p8 8 1 (by decide) (by decide)]
        show _ = PP.1 0 7
        rw [PPf 7 (by decide) (by decide) (by decide) (by decide)]; exact z7
      · funext i
        rw [p7 9 i (by decide) (by decide) (by decide) (by decide)]
        show _ = PP.2 7 i
        rw [PP7]; exact congrFun h.2.1.2.1 i
      · rw [p8 8 2 (by decide) (by decide)]
        show _ = PP.1 0 9
        rw [PPf 9 (by decide) (by decide) (by decide) (by decide)]; exact z9
      · refine Rh_cg h.2.2 (fun a b g => p8 a b (by omega) (by omega)) (fun a b g => p7 a b (by omega) (by omega) (by omega) (by omega)) ?_ (fun a b g => PP2 a b (by omega) (by omega) (by omega)) (by omega)
        show PP.1 0 10 = _
        exact PPf 10 (by decide) (by decide) (by decide) (by decide)
    · omega
  · have hc1 : 1 ≤ c := by
      have := hM.2.2.2 (by omega)
      omega
    rw [← hc] at g4 hσ hv
    obtain ⟨-, -, -, -, q4, -, -, -, -⟩ := R_apart h hI iS1 hcc hc1 (fun k i _ _ _ => by rw [hS1]; rfl) (by rw [hS1]; rfl) hr
    rw [← hPP] at q4
    rcases hu with ⟨q, -⟩ | ⟨-, ⟨q, -⟩ | ⟨-, q, -⟩ | ⟨-, -, q, -⟩ | ⟨-, -, -, ht1, hrr, hI1, h00⟩⟩
    · exact absurd (by rw [z9]; exact q) g
    · exact absurd (by rw [hcn]; exact q) g2
    · omega
    · omega
    · have iPP : m_I PP := by rw [hPP]; exact m_I_part iS1 ha (Or.inl rfl) (by omega)
      obtain ⟨t, ht⟩ : ∃ s, s = f_p1 PP 0 17 0 := ⟨_, rfl⟩
      have it : m_I t := by rw [ht]; exact m_I_p iPP 17 0 (by decide) (m_okF_n _ _ (by decide))
      have t2 : ∀ k i, k ≠ 7 → k ≠ 13 → k ≠ 14 → t.2 k i = τ.2 k i := fun k i g1 g2 g3 => by rw [ht]; exact PP2 k i g1 g2 g3
      have t10 : t.1 0 10 = τ.1 0 10 := by rw [ht, p1_1, if_neg (by decide)]; exact PPf 10 (by decide) (by decide) (by decide) (by decide)
      obtain ⟨TL, p1, p2, p3, p4, p5, p6, p7, p8⟩ := R_apart h hI it hcc hc1 t2 t10 hr
      obtain ⟨P, hP⟩ : ∃ s, s = m_part t (σ.1 8 1) 0 0 := ⟨_, rfl⟩
      rw [← hP] at p2 p4 p5 p6
      obtain ⟨v1, v2, -, v4, -, -⟩ := m_part_f it ha (Or.inl rfl) (show (0 : Int) ≤ 0 ∧ (0 : Int) ≤ 2 by omega)
      rw [← hP] at v1 v2 v4
      have P10 : P.1 0 10 = τ.1 0 10 := by rw [v2 10 (by decide) (by decide)]; exact t10
      have eA : τ1 = m_save (m_remd (f_p1 (f_p1 P 0 7 (P.1 0 16)) 0 9 0) 0 c) 41 := by
        rw [ht1]
        unfold m_all m_Q m_pa m_rr
        rw [if_neg (by decide), ← ht, ← hP]
        have e : ((f_p1 (f_p1 P 0 7 (P.1 0 16)) 0 9 0).1 0 10).toNat = c := by
          show (P.1 0 10).toNat = c
          rw [P10]; omega
        rw [e]
      have P2 : ∀ a b, a ≠ 7 → a ≠ 13 → a ≠ 14 → P.2 a b = τ.2 a b := fun a b g1 g2 g3 => by rw [v1 a b g1 g2 g3, t2 a b g1 g2 g3]
      have hPmv : ∀ n, m_mv P 0 n = m_mv t 0 n := m_mv_cg (fun i => v1 1 i (by decide) (by decide) (by decide)) (fun i => v1 3 i (by decide) (by decide) (by decide))
      have hR : Rr σ1 τ1 := by
        rw [hσ, eA]
        refine R_keep (t := t) (a := σ.1 8 1) (TL := TL) (by omega) ha.1 p1 p2 ?_ p3 ?_ p4 p5 (Or.inl rfl) (fun e => absurd e (by decide)) (fun _ => hc1) (fun n n1 n40 => ?_) (fun i => (v4 i).1) (fun n n1 n40 => ?_) (fun i => ?_) (fun q hq => ?_)
        · rw [v2 17 (by decide) (by decide), ht]; rfl
        · funext i
          rw [p7 9 i (by decide) (by decide) (by decide) (by decide), ht]
          show _ = PP.2 7 i
          rw [PP7]; exact congrFun h.2.1.2.1 i
        · rw [hPmv, v1 1 n (by decide) (by decide) (by decide)]
          exact p6 n n1 n40
        · obtain ⟨e1, -, -, e4⟩ := h.1 n n1 n40
          rw [p7 2 n (by decide) (by decide) (by decide) (by decide), p7 3 n (by decide) (by decide) (by decide) (by decide), p7 4 n (by decide) (by decide) (by decide) (by decide), P2 1 n (by decide) (by decide) (by decide), P2 2 n (by decide) (by decide) (by decide), P2 5 n (by decide) (by decide) (by decide)]
          refine ⟨e1, fun g => ?_⟩
          obtain ⟨f1, f2, f3⟩ := e4 g
          exact ⟨f1, f2, fun i hi => by rw [p7 5 _ (by decide) (by decide) (by decide) (by decide), P2 6 _ (by decide) (by decide) (by decide)]; exact f3 i hi⟩
        · rw [p7 2 i (by decide) (by decide) (by decide) (by decide)]
          exact hI.2 2 i
        · obtain ⟨e1, e2, e3⟩ := h.2.2.2 q (by omega)
          refine ⟨by rw [p8 _ 3 (by omega) (by omega), P2 8 q (by decide) (by decide) (by decide)]; exact e1, by rw [p8 _ 2 (by omega) (by omega), P2 9 q (by decide) (by decide) (by decide)]; exact e2, fun n n1 n40 => ?_⟩
          rw [p7 _ n (by omega) (by omega) (by omega) (by omega), P2 10 _ (by decide) (by decide) (by decide)]
          exact e3 n n1 n40
      have hr7 : 0 ≤ τ1.1 0 7 ∧ τ1.1 0 7 ≤ 12000 := hI1.1 7
      have hz := hR.2.1.1
      refine ⟨hR, h00, by decide, fun _ => ?_, by omega⟩
      rw [hσ, x_kept_81, p3] at hz
      rw [hv, hrr, ← hz]
      omega
end R9
