/-! putAll, write, append -/
noncomputable def m_pa (σ : fS) (a w how : Int) : fS := m_part (f_p1 σ 0 17 0) a w how
noncomputable def m_Q (σ : fS) (a w how : Int) : fS := f_p1 (f_p1 (m_pa σ a w how) 0 7 ((m_pa σ a w how).1 0 16)) 0 9 0
noncomputable def m_all (σ : fS) (a w how : Int) : fS := m_save (m_remd (m_Q σ a w how) w (m_rr (m_Q σ a w how) w)) 41
theorem m_I_all {σ : fS} {a w how : Int} (hI : m_I σ) (ha : 0 ≤ a ∧ a ≤ 12000) (hw : w = 0 ∨ w = 1) (hh : 0 ≤ how ∧ how ≤ 2) (hrv : w = 0 → 1 ≤ σ.1 0 10 ∧ σ.1 0 10 ≤ 59) (hf : (m_pa σ a w how).1 0 16 ≤ 12000) : m_I (m_all σ a w how) ∧ (m_all σ a w how).1 0 7 = (m_pa σ a w how).1 0 16 ∧ (m_all σ a w how).1 0 0 = σ.1 0 0 := by
  have hI0 : m_I (f_p1 σ 0 17 0) := m_I_p hI 17 0 (by decide) (m_okF_n _ _ (by decide))
  have hIP : m_I (m_pa σ a w how) := m_I_part hI0 ha hw hh
  obtain ⟨f1, f2, f3, f4, f5, f6⟩ := m_part_f hI0 ha hw hh
  have f1 : ∀ k i, k ≠ 7 → k ≠ 13 → k ≠ 14 → (m_pa σ a w how).2 k i = σ.2 k i := f1
  have f2 : ∀ q, q ≠ 16 → q ≠ 26 → (m_pa σ a w how).1 0 q = (f_p1 σ 0 17 0).1 0 q := f2
  have f6 : ∀ n : Nat, 1 ≤ n → n ≤ 40 → m_mv σ w n = 1 → σ.2 1 n = 1 → 0 ≤ (m_pa σ a w how).2 14 n ∧ (m_pa σ a w how).2 14 n + σ.2 5 n ≤ (m_pa σ a w how).1 0 16 := f6
  have f3 : (m_pa σ a w how).1 0 26 = (m_body (f_p1 σ 0 17 0) a w how).1 0 16 ∧ a ≤ (m_body (f_p1 σ 0 17 0) a w how).1 0 16 ∧ (m_pa σ a w how).1 0 16 = (m_body (f_p1 σ 0 17 0) a w how).1 0 16 + (m_tail (m_body (f_p1 σ 0 17 0) a w how) w (m_pq (f_p1 σ 0 17 0) w)).length ∧ a < (m_pa σ a w how).1 0 16 := ⟨f3.2.1, f3.2.2.1, f3.1, f3.2.2.2.2⟩
  obtain ⟨P, hP⟩ : ∃ s, s = m_pa σ a w how := ⟨_, rfl⟩
  rw [← hP] at f1 f2 f3 f6 hIP hf
  have hQ : m_Q σ a w how = f_p1 (f_p1 P 0 7 (P.1 0 16)) 0 9 0 := by rw [hP]; rfl
  have q1 : ∀ b, (m_Q σ a w how).1 0 b = if b = 9 then 0 else if b = 7 then P.1 0 16 else P.1 0 b := fun b => by
    rw [hQ, p1_1, p1_1]
    simp only [true_and]
  have q2 : ∀ k i, (m_Q σ a w how).2 k i = P.2 k i := fun k i => by rw [hQ]; rfl
  have hr : (m_rr (m_Q σ a w how) w : Int) ≤ 59 ∧ (w = 0 → 1 ≤ m_rr (m_Q σ a w how) w) := by
    unfold m_rr
    rcases hw with e | e
    · rw [if_neg (by omega), q1, if_neg (by decide), if_neg (by decide), f2 10 (by decide) (by decide), p1_1, if_neg (by decide)]
      have := hrv e
      omega
    · rw [if_pos e]
      exact ⟨by decide, fun g => by omega⟩
  obtain ⟨r, hrd⟩ : ∃ r, r = m_rr (m_Q σ a w how) w := ⟨_, rfl⟩
  obtain ⟨Q, hQd⟩ : ∃ s, s = m_Q σ a w how := ⟨_, rfl⟩
  have hA : m_all σ a w how = m_save (m_remd Q w r) 41 := by rw [hrd, hQd]; rfl
  rw [← hrd] at hr
  rw [← hQd] at q1 q2
  have a1 : ∀ b, (m_all σ a w how).1 0 b = if b = 10 then (r : Int) + 1 else Q.1 0 b := fun b => by
    rw [hA]
    show (m_remd Q w r).1 0 b = _
    unfold m_remd
    rw [p1_1]
    simp only [true_and]
    rfl
  have d2 : ∀ k i, (m_remd Q w r).2 k i = if k = 9 ∧ i = r then Q.1 0 26 else if k = 8 ∧ i = r then Q.1 0 7 else (m_rem Q w r 41).2 k i := fun k i => by
    unfold m_remd
    rw [p1_2, p2_2, p2_2]
  have a2 : ∀ k i, (m_all σ a w how).2 k i = if k = 3 ∧ 1 ≤ i ∧ i < 41 then 0 else if k = 4 ∧ 1 ≤ i ∧ i < 41 then (m_remd Q w r).2 1 i else (m_remd Q w r).2 k i := fun k i => by rw [hA]; rfl
  have d1 : ∀ i, (m_remd Q w r).2 1 i = P.2 1 i := fun i => by
    rw [d2, if_neg (by omega), if_neg (by omega), m_rem_o _ _ _ _ _ _ (by omega), q2]
  have hmv : ∀ n, m_mv Q w n = m_mv σ w n := fun n => by
    unfold m_mv
    rw [q2, q2, f1 1 n (by decide) (by decide) (by decide), f1 3 n (by decide) (by decide) (by decide)]
  have hm : ∀ k i, (k = 10 ∨ k = 11 ∨ k = 12) → (m_all σ a w how).2 k i = (m_rem Q w r 41).2 k i := fun k i hk => by
    rw [a2, if_neg (by omega), if_neg (by omega), d2, if_neg (by omega), if_neg (by omega)]
  have e7 : (m_all σ a w how).1 0 7 = P.1 0 16 := by rw [a1, if_neg (by decide), q1, if_neg (by decide), if_pos rfl]
  have e0 : (m_all σ a w how).1 0 0 = σ.1 0 0 := by rw [a1, if_neg (by decide), q1, if_neg (by decide), if_neg (by decide), f2 0 (by decide) (by decide), p1_1, if_neg (by decide)]
  refine ⟨⟨fun b => ?_, fun k i => ?_, fun i hi => ?_, fun _ => ?_⟩, by rw [e7, hP], e0⟩
  · rw [a1]
    by_cases g : b = 10
    · subst g; rw [if_pos rfl]; show 0 ≤ (r : Int) + 1 ∧ (r : Int) + 1 ≤ 60; omega
    · rw [if_neg g, q1]
      by_cases g9 : b = 9
      · subst g9; rw [if_pos rfl]; show (0 : Int) ≤ 0 ∧ (0 : Int) ≤ 1; omega
      · rw [if_neg g9]
        by_cases g7 : b = 7
        · subst g7; rw [if_pos rfl]; show 0 ≤ P.1 0 16 ∧ P.1 0 16 ≤ 12000; omega
        · rw [if_neg g7]; exact hIP.1 b
  · rw [a2]
    by_cases g3 : k = 3 ∧ 1 ≤ i ∧ i < 41
    · rw [if_pos g3, g3.1]; show (0 : Int) ≤ 0 ∧ (0 : Int) ≤ 1; omega
    · rw [if_neg g3]
      by_cases g4 : k = 4 ∧ 1 ≤ i ∧ i < 41
      · rw [if_pos g4, g4.1, d1]; exact hIP.2.1 1 i
      · rw [if_neg g4, d2]
        by_cases g9 : k = 9 ∧ i = r
        · rw [if_pos g9, g9.1, q1, if_neg (by decide), if_neg (by decide), f3.1]
          show 0 ≤ (m_body (f_p1 σ 0 17 0) a w how).1 0 16 ∧ (m_body (f_p1 σ 0 17 0) a w how).1 0 16 ≤ 99999
          omega
        · rw [if_neg g9]
          by_cases g8 : k = 8 ∧ i = r
          · rw [if_pos g8, g8.1, q1, if_neg (by decide), if_pos rfl]
            show 0 ≤ P.1 0 16 ∧ P.1 0 16 ≤ 12000
            omega
          · rw [if_neg g8]
            by_cases gm : (k = 10 ∨ k = 11 ∨ k = 12) ∧ 41 * r + 1 ≤ i ∧ i < 41 * r + 41
            · show m_okA k (if (k = 10 ∨ k = 11 ∨ k = 12) ∧ 41 * r + 1 ≤ i ∧ i < 41 * r + 41 then m_rv Q w k i (i - 41 * r) else Q.2 k i)
              rw [if_pos gm]
              by_cases gv : m_mv Q w (i - 41 * r) = 1
              · unfold m_rv
                rw [if_pos gv]
                rcases gm.1 with e | e | e
                · subst e
                  rw [if_pos rfl]
                  split
                  · rw [q2]; have := hIP.2.1 13 (i - 41 * r); have h13 : 0 ≤ P.2 13 (i - 41 * r) ∧ P.2 13 (i - 41 * r) ≤ 99999 := this; show -1 ≤ _ ∧ _ ≤ 99999; omega
                  · show (-1 : Int) ≤ -1 ∧ (-1 : Int) ≤ 99999; omega
                · exact m_okA_n _ _ (by omega)
                · subst e
                  rw [if_neg (by decide), if_neg (by decide), q2]
                  exact hIP.2.1 5 _
              · unfold m_rv
                rw [if_neg gv]
                split
                · rcases gm.1 with e | e | e
                  · subst e; rw [if_pos rfl]; show (-1 : Int) ≤ -1 ∧ (-1 : Int) ≤ 99999; omega
                  · exact m_okA_n _ _ (by omega)
                  · subst e; rw [if_neg (by decide), q2]; exact hIP.2.1 12 _
                · rw [q2]; exact hIP.2.1 k _
            · rw [m_rem_o _ _ _ _ _ _ gm, q2]; exact hIP.2.1 k i
  · rw [hm 10 i (by decide)] at hi
    rw [hm 11 i (by decide), hm 12 i (by decide)]
    by_cases gi : 41 * r + 1 ≤ i ∧ i < 41 * r + 41
    · have v : ∀ k, (k = 10 ∨ k = 11 ∨ k = 12) → (m_rem Q w r 41).2 k i = m_rv Q w k i (i - 41 * r) := fun k hk => if_pos ⟨hk, gi⟩
      rw [v 10 (by decide)] at hi
      rw [v 11 (by decide), v 12 (by decide)]
      unfold m_rv at hi ⊢
      by_cases gv : m_mv Q w (i - 41 * r) = 1
      · rw [if_pos gv, if_pos rfl] at hi
        rw [if_pos gv, if_neg (by decide), if_pos rfl, if_pos gv, if_neg (by decide), if_neg (by decide), q2, q2]
        have gt : Q.2 1 (i - 41 * r) = 1 := by
          by_cases g : Q.2 1 (i - 41 * r) = 1
          · exact g
          · rw [if_neg g] at hi; exact absurd rfl hi
        rw [q2, f1 1 _ (by decide) (by decide) (by decide)] at gt
        have := f6 (i - 41 * r) (by omega) (by omega) (by rw [← hmv]; exact gv) gt
        rw [f1 5 _ (by decide) (by decide) (by decide)]
        omega
      · rw [if_neg gv] at hi
        rw [if_neg gv, if_neg gv]
        by_cases gw : w = 1
        · rw [if_pos gw, if_pos rfl] at hi; exact absurd rfl hi
        · rw [if_neg gw, q2] at hi
          rw [if_neg gw, if_neg gw, q2, q2]
          exact hIP.2.2.1 _ hi
    · have v : ∀ k, (m_rem Q w r 41).2 k i = P.2 k i := fun k => by rw [m_rem_o _ _ _ _ _ _ (by omega), q2]
      rw [v] at hi
      rw [v, v]
      exact hIP.2.2.1 i hi
  · rw [a1, if_pos rfl]; omega
set_option maxRecDepth 100000 in
set_option maxHeartbeats 4000000 in
theorem kM_putAll (l : Launch) (xCl : List vw_C) (D : va_G) (cA : Nat → ClassId) (ad : Nat → Nat) (hJ : f_J (mG xCl D cA ad)) (σ : fS) (a w how : Int) (hI : m_I σ) (ha : 0 ≤ a ∧ a ≤ 12000) (hw : w = 0 ∨ w = 1) (hh : 0 ≤ how ∧ how ≤ 2) (hrv : w = 0 → 1 ≤ σ.1 0 10 ∧ σ.1 0 10 ≤ 59) (hf : (m_pa σ a w how).1 0 16 ≤ 12000) : f_M l (mG xCl D cA ad) mE yM_putAll (Cond.code yM_putAll cM_putAll 4 none :: A9) 5 σ [.ref (ad 0), .int (fI a), .int (fI w), .int (fI how)] (f_QV (fun σ1 => σ1 = m_all σ a w how) (mG xCl D cA ad)) := by
  refine f_enter (by decide +kernel) hJ rfl (Nat.le_of_ble_eq_true rfl) ?_
  intro z hzl hR C hRt hLk hEz
  subst hzl
  refine v_aload_n C dM_putAll_0 rfl rfl ?_
  refine v_iconst C dM_putAll_1 ?_
  refine v_putI (k := 0) (q := 17) C dM_putAll_2 (by show (0 : Nat) < 18; decide) rfl rfl (by decide) rfl inM tyM_ok nmM lM_78 rfl rfl rfl (fN_bool (by omega)) (fF_bool (by omega)) ?_
  refine v_aload_n C dM_putAll_5 rfl rfl ?_
  refine v_aload_n C dM_putAll_6 rfl rfl ?_
  refine v_iload_n C dM_putAll_7 rfl rfl ?_
  refine v_iload_n C dM_putAll_8 rfl rfl ?_
  refine v_iload_n C dM_putAll_9 rfl rfl ?_
  have hI0 : m_I (f_p1 σ 0 17 0) := m_I_p hI 17 0 (by decide) (m_okF_n _ _ (by decide))
  have hpf := (m_part_f hI0 ha hw hh).2.2.1
  have hrl := m_rl (f_p1 σ 0 17 0) w how hh (fun i => hI0.2.1 5 i)
  have h16 := m_body_16 (f_p1 σ 0 17 0) a w how
  have htl := m_tail_len (m_body (f_p1 σ 0 17 0) a w how) w (m_pq (f_p1 σ 0 17 0) w)
  have ht1 := m_tell_len 120 (m_cnt (m_mv (m_body (f_p1 σ 0 17 0) a w how) w) 40)
  have hpf2 : (m_pa σ a w how).1 0 16 = (m_body (f_p1 σ 0 17 0) a w how).1 0 16 + (m_tail (m_body (f_p1 σ 0 17 0) a w how) w (m_pq (f_p1 σ 0 17 0) w)).length := hpf.1
  have hbl : a + 4 + (m_rlen (f_p1 σ 0 17 0) (m_turns (f_p1 σ 0 17 0) w how (m_last how + 1)) : Int) ≤ 12000 := by
    rcases hw with e | e
    · subst e; rw [if_neg (by decide)] at h16; simp only [List.length_nil] at h16; omega
    · subst e; rw [if_pos rfl] at h16; simp only [List.length_cons, List.length_nil] at h16; omega
  refine v_cVI (k := 0) (n := 3) C (mE_ok _) trivial hR (kM_putPart _ xCl D cA ad hJ (f_p1 σ 0 17 0) a w how ha hw hh (fun h => by have := hrv h; show 1 ≤ σ.1 0 10 ∧ σ.1 0 10 ≤ 60; omega) (fun i => hI0.2.1 1 i) (fun i => hI0.2.1 2 i) (fun i => hI0.2.1 3 i) (fun i => hI0.2.1 5 i) (fun i => hI0.2.1 6 i) (fun i => hI0.2.1 9 i) (fun i => hI0.2.1 13 i) (Or.inl rfl) (by omega) (fun _ => by omega) (fun _ => hbl)) dM_putAll_10 (by show (0 : Nat) < 18; decide) rfl rfl gM_119 (by decide +kernel) (by decide) (by decide) rfl (Nat.le_of_ble_eq_true rfl) rfl ⟨rfl, rfl⟩ (fun r1 σ1 hp1 => ?_)
  obtain ⟨e1, e2⟩ := hp1
  subst r1
  obtain ⟨P, hP⟩ : ∃ s, s = m_pa σ a w how := ⟨_, rfl⟩
  have e3 : σ1 = P := by rw [e2, hP]; rfl
  subst σ1
  have e4 : m_part (f_p1 σ 0 17 0) a w how = P := by rw [hP]; rfl
  rw [e4] at e3
  refine v_st e4 ?_
  have hIP : m_I P := by rw [hP]; exact m_I_part hI0 ha hw hh
  have hP10 : P.1 0 10 = σ.1 0 10 := by rw [hP]; exact (m_part_f hI0 ha hw hh).2.1 10 (by decide) (by decide)
  rw [e4]
  refine v_putI (k := 0) (q := 7) C dM_putAll_13 (by show (0 : Nat) < 18; decide) rfl rfl (by decide) rfl inM tyM_ok nmM lM_116 rfl rfl rfl rfl rfl ?_
  refine v_aload_n C dM_putAll_16 rfl rfl ?_
  refine v_iconst C dM_putAll_17 ?_
  refine v_putI (k := 0) (q := 9) C dM_putAll_18 (by show (0 : Nat) < 18; decide) rfl rfl (by decide) rfl inM tyM_ok nmM lM_123 rfl rfl rfl (fN_bool (by omega)) (fF_bool (by omega)) ?_
  refine v_aload_n C dM_putAll_21 rfl rfl ?_
  refine v_iload_n C dM_putAll_22 rfl rfl ?_
  refine v_cVV (k := 0) (n := 1) C (mE_ok _) trivial hR (kM_remember _ xCl D cA ad hJ (f_p1 (f_p1 P 0 7 (P.1 0 16)) 0 9 0) w hw (fun h => by show 1 ≤ P.1 0 10 ∧ P.1 0 10 ≤ 59; rw [hP10]; exact hrv h) (fun i => hIP.2.1 1 i) (fun i => hIP.2.1 3 i)) dM_putAll_23 (by show (0 : Nat) < 18; decide) rfl rfl gM_126 (by decide +kernel) (by decide) (by decide) rfl (Nat.le_of_ble_eq_true rfl) rfl ⟨rfl, rfl⟩ (fun σ1 hp1 => ?_)
  subst σ1
  refine v_aload_n C dM_putAll_26 rfl rfl ?_
  refine v_cVV (k := 0) (n := 0) C (mE_ok _) trivial hR (kM_save _ xCl D cA ad hJ (m_remd (f_p1 (f_p1 P 0 7 (P.1 0 16)) 0 9 0) w (m_rr (f_p1 (f_p1 P 0 7 (P.1 0 16)) 0 9 0) w)) (fun i => by have hx : (m_remd (f_p1 (f_p1 P 0 7 (P.1 0 16)) 0 9 0) w (m_rr (f_p1 (f_p1 P 0 7 (P.1 0 16)) 0 9 0) w)).2 1 i = P.2 1 i := (by unfold m_remd; rw [p1_2, p2_2, if_neg (by omega), p2_2, if_neg (by omega), m_rem_o _ _ _ _ _ _ (by omega)]; rfl); rw [hx]; exact hIP.2.1 1 i)) dM_putAll_27 (by show (0 : Nat) < 18; decide) rfl rfl gM_130 (by decide +kernel) (by decide) (by decide) rfl (Nat.le_of_ble_eq_true rfl) rfl ⟨rfl, rfl⟩ (fun σ1 hp1 => ?_)
  subst σ1
  exact v_vret C hRt hLk dM_putAll_30 (by rw [hP]; rfl)
set_option maxRecDepth 100000 in
set_option maxHeartbeats 4000000 in
theorem kM_write (l : Launch) (xCl : List vw_C) (D : va_G) (cA : Nat → ClassId) (ad : Nat → Nat) (hJ : f_J (mG xCl D cA ad)) (σ : fS) (how : Int) (hh : 0 ≤ how ∧ how ≤ 2) (hI : m_I σ) : f_M l (mG xCl D cA ad) mE yM_write (Cond.code yM_write cM_write 2 (some .int) :: A9) 6 σ [.ref (ad 0), .int (fI how)] (f_QI (fun r σ1 => σ1 = m_all (m_part (f_p1 (f_p1 σ 0 0 0) 0 17 1) 0 1 how) 0 1 how ∧ r = σ1.1 0 7 ∧ m_I σ1 ∧ σ1.1 0 0 = 0) (mG xCl D cA ad)) := by
  refine f_enter (by decide +kernel) hJ rfl (Nat.le_of_ble_eq_true rfl) ?_
  intro z hzl hR C hRt hLk hEz
  subst hzl
  refine v_aload_n C dM_write_0 rfl rfl ?_
  refine v_iload_n C dM_write_1 rfl rfl ?_
  refine v_if_lt (tgt := 10) C dM_write_2 (by decide) (by omega) (fun hc1 => ?_) (fun hc1 => ?_)
  · exfalso; omega
  · refine v_iload_n C dM_write_5 rfl rfl ?_
    refine v_iconst C dM_write_6 ?_
    refine v_icmp_le (tgt := 14) C dM_write_7 (by decide) (by omega) (by omega) (fun hc2 => ?_) (fun hc2 => ?_)
    · refine v_iconst C dM_write_14 ?_
      refine v_putI (k := 0) (q := 0) C dM_write_15 (by show (0 : Nat) < 18; decide) rfl rfl (by decide) rfl inM tyM_ok nmM lM_63 rfl rfl rfl rfl rfl ?_
      refine v_aload_n C dM_write_18 rfl rfl ?_
      refine v_getI (k := 0) (q := 0) (v := 0) C dM_write_19 (by show (0 : Nat) < 18; decide) rfl rfl (by decide) rfl inM lM_63 rfl rfl ?_
      refine v_if_le (tgt := 27) C dM_write_22 (by decide) (by omega) (fun hc3 => ?_) (fun hc3 => ?_)
      · refine v_aload_n C dM_write_27 rfl rfl ?_
        refine v_iconst C dM_write_28 ?_
        refine v_putI (k := 0) (q := 17) C dM_write_29 (by show (0 : Nat) < 18; decide) rfl rfl (by decide) rfl inM tyM_ok nmM lM_78 rfl rfl rfl (fN_bool (by omega)) (fF_bool (by omega)) ?_
        refine v_aload_n C dM_write_32 rfl rfl ?_
        refine v_iconst C dM_write_33 ?_
        refine v_iconst C dM_write_34 ?_
        refine v_iload_n C dM_write_35 rfl rfl ?_
        have hI1 : m_I (f_p1 (f_p1 σ 0 0 0) 0 17 1) := m_I_p (m_I_p hI 0 0 (by decide) (m_okF_n _ _ (by decide))) 17 1 (by decide) (m_okF_n _ _ (by decide))
        have hpf := (m_part_f hI1 (show (0 : Int) ≤ 0 ∧ (0 : Int) ≤ 12000 by omega) (Or.inr rfl) hh).2.2.1
        have hrl := m_rl (f_p1 (f_p1 σ 0 0 0) 0 17 1) 1 how hh (fun i => hI1.2.1 5 i)
        refine v_cVI (k := 0) (n := 3) C (mE_ok _) trivial hR (kM_putPart _ xCl D cA ad hJ (f_p1 (f_p1 σ 0 0 0) 0 17 1) 0 1 how (by omega) (Or.inr rfl) hh (fun h => absurd h (by decide)) (fun i => hI1.2.1 1 i) (fun i => hI1.2.1 2 i) (fun i => hI1.2.1 3 i) (fun i => hI1.2.1 5 i) (fun i => hI1.2.1 6 i) (fun i => hI1.2.1 9 i) (fun i => hI1.2.1 13 i) (Or.inr rfl) (by omega) (fun h => absurd h (show ¬ (1 : Int) = 0 by decide)) (fun h => absurd h (show ¬ (1 : Int) = 0 by decide))) dM_write_36 (by show (0 : Nat) < 18; decide) rfl rfl gM_119 (by decide +kernel) (by decide) (by decide) rfl (Nat.le_of_ble_eq_true rfl) rfl ⟨rfl, rfl⟩ (fun r1 σ1 hp1 => ?_)
        obtain ⟨e1, e2⟩ := hp1
        subst r1
        obtain ⟨P, hP⟩ : ∃ s, s = m_part (f_p1 (f_p1 σ 0 0 0) 0 17 1) 0 1 how := ⟨_, rfl⟩
        subst σ1
        refine v_st hP.symm ?_
        rw [← hP] at hpf ⊢
        have hIP : m_I P := by rw [hP]; exact m_I_part hI1 (by omega) (Or.inr rfl) hh
        have hP0 : P.1 0 0 = 0 := by rw [hP, (m_part_f hI1 (show (0 : Int) ≤ 0 ∧ (0 : Int) ≤ 12000 by omega) (Or.inr rfl) hh).2.1 0 (by decide) (by decide)]; rfl
        refine v_sipush C dM_write_39 (by decide +kernel) ?_
        refine v_icmp_le (tgt := 52) C dM_write_42 (by decide) (by omega) (by omega) (fun hc4 => ?_) (fun hc4 => ?_)
        · refine v_aload_n C dM_write_52 rfl rfl ?_
          refine v_iconst C dM_write_53 ?_
          refine v_iconst C dM_write_54 ?_
          refine v_iload_n C dM_write_55 rfl rfl ?_
          have hI2 : m_I (f_p1 P 0 17 0) := m_I_p hIP 17 0 (by decide) (m_okF_n _ _ (by decide))
          have hpf2 := (m_part_f hI2 (show (0 : Int) ≤ 0 ∧ (0 : Int) ≤ 12000 by omega) (Or.inr rfl) hh).2.2.1
          have hpf3 : (m_pa P 0 1 how).1 0 16 ≤ 12000 := by show (m_part (f_p1 P 0 17 0) 0 1 how).1 0 16 ≤ 12000; omega
          obtain ⟨g1, g2, g3⟩ := m_I_all hIP (show (0 : Int) ≤ 0 ∧ (0 : Int) ≤ 12000 by omega) (Or.inr rfl) hh (fun h => absurd h (by decide)) hpf3
          refine v_cVV (k := 0) (n := 3) C (mE_ok _) trivial hR (kM_putAll _ xCl D cA ad hJ P 0 1 how hIP (by omega) (Or.inr rfl) hh (fun h => absurd h (by decide)) hpf3) dM_write_56 (by show (0 : Nat) < 18; decide) rfl rfl gM_133 (by decide +kernel) (by decide) (by decide) rfl (Nat.le_of_ble_eq_true rfl) rfl ⟨rfl, rfl⟩ (fun σ1 hp1 => ?_)
          obtain ⟨T, hT⟩ : ∃ s, s = m_all P 0 1 how := ⟨_, rfl⟩
          subst σ1
          refine v_st hT.symm ?_
          refine v_aload_n C dM_write_59 rfl rfl ?_
          refine v_getI (k := 0) (q := 7) (v := T.1 0 7) C dM_write_60 (by show (0 : Nat) < 18; decide) rfl rfl (by decide) rfl inM lM_116 rfl rfl ?_
          exact v_iret C hRt hLk dM_write_63 ⟨by rw [hT, hP], rfl, by rw [hT]; exact g1, by rw [hT, g3]; exact hP0⟩
        · exfalso; omega
      · exfalso; omega
    · exfalso; omega
set_option maxRecDepth 100000 in
set_option maxHeartbeats 4000000 in
theorem kM_append (l : Launch) (xCl : List vw_C) (D : va_G) (cA : Nat → ClassId) (ad : Nat → Nat) (hJ : f_J (mG xCl D cA ad)) (σ : fS) (hI : m_I σ) (hz : σ.1 0 7 ≠ 0) (ha : σ.1 0 9 = 0) : f_M l (mG xCl D cA ad) mE yM_append (Cond.code yM_append cM_append 2 (some .int) :: A9) 6 σ [.ref (ad 0)] (f_QI (fun r σ1 => (m_cnt (σ.2 3) 40 = 0 ∧ r = 0 ∧ σ1 = f_p1 σ 0 0 0) ∨ (m_cnt (σ.2 3) 40 ≠ 0 ∧ σ.1 0 10 = 60 ∧ r = 0 ∧ σ1 = f_p1 (f_p1 (f_p1 σ 0 0 0) 0 17 1) 0 0 2) ∨ (m_cnt (σ.2 3) 40 ≠ 0 ∧ σ.1 0 10 < 60 ∧ 12000 < (m_part (f_p1 (f_p1 σ 0 0 0) 0 17 1) (σ.1 0 7) 0 0).1 0 16 ∧ r = 0 ∧ σ1 = f_p1 (m_part (f_p1 (f_p1 σ 0 0 0) 0 17 1) (σ.1 0 7) 0 0) 0 0 2) ∨ (m_cnt (σ.2 3) 40 ≠ 0 ∧ σ.1 0 10 < 60 ∧ (m_part (f_p1 (f_p1 σ 0 0 0) 0 17 1) (σ.1 0 7) 0 0).1 0 16 ≤ 12000 ∧ σ1 = m_all (m_part (f_p1 (f_p1 σ 0 0 0) 0 17 1) (σ.1 0 7) 0 0) (σ.1 0 7) 0 0 ∧ r = σ1.1 0 7 - σ.1 0 7 ∧ m_I σ1 ∧ σ1.1 0 0 = 0)) (mG xCl D cA ad)) := by
  refine f_enter (by decide +kernel) hJ rfl (Nat.le_of_ble_eq_true rfl) ?_
  intro z hzl hR C hRt hLk hEz
  subst hzl
  have h7 : 0 ≤ σ.1 0 7 ∧ σ.1 0 7 ≤ 12000 := hI.1 7
  have h10 : 0 ≤ σ.1 0 10 ∧ σ.1 0 10 ≤ 60 := hI.1 10
  have h101 := hI.2.2.2 hz
  have hcn := m_cnt_le (σ.2 3) 40
  refine v_aload_n C dM_append_0 rfl rfl ?_
  refine v_aload_n C dM_append_1 rfl rfl ?_
  refine v_getI (k := 0) (q := 7) (v := σ.1 0 7) C dM_append_2 (by show (0 : Nat) < 18; decide) rfl rfl (by decide) rfl inM lM_116 rfl rfl ?_
  refine v_if_eq (tgt := 15) C dM_append_5 (by decide) (by omega) (fun hc1 => ?_) (fun hc1 => ?_)
  · exfalso; omega
  · refine v_aload_n C dM_append_8 rfl rfl ?_
    refine v_getI (k := 0) (q := 9) (v := σ.1 0 9) C dM_append_9 (by show (0 : Nat) < 18; decide) rfl rfl (by decide) rfl inM lM_123 rfl rfl ?_
    refine v_if_eq (tgt := 19) C dM_append_12 (by decide) (by omega) (fun hc2 => ?_) (fun hc2 => ?_)
    · refine v_iconst C dM_append_19 ?_
      refine v_putI (k := 0) (q := 0) C dM_append_20 (by show (0 : Nat) < 18; decide) rfl rfl (by decide) rfl inM tyM_ok nmM lM_63 rfl rfl rfl rfl rfl ?_
      refine v_aload_n C dM_append_23 rfl rfl ?_
      refine v_getI (k := 0) (q := 0) (v := 0) C dM_append_24 (by show (0 : Nat) < 18; decide) rfl rfl (by decide) rfl inM lM_63 rfl rfl ?_
      refine v_if_gt (tgt := 37) C dM_append_27 (by decide) (by omega) (fun hc3 => ?_) (fun hc3 => ?_)
      · exfalso; omega
      · refine v_aload_n C dM_append_30 rfl rfl ?_
        refine v_cVI (k := 0) (n := 0) C (mE_ok _) trivial hR (kM_changed _ xCl D cA ad hJ (f_p1 σ 0 0 0) (fun i => hI.2.1 3 i)) dM_append_31 (by show (0 : Nat) < 18; decide) rfl rfl gM_137 (by decide +kernel) (by decide) (by decide) rfl (Nat.le_of_ble_eq_true rfl) rfl ⟨rfl, rfl⟩ (fun r1 σ1 hp1 => ?_)
        obtain ⟨e1, e2⟩ := hp1
        subst σ1
        have e3 : r1 = m_cnt (σ.2 3) 40 := e1
        subst e3
        refine v_if_ne (tgt := 39) C dM_append_34 (by decide) (by omega) (fun hc4 => ?_) (fun hc4 => ?_)
        · refine v_aload_n C dM_append_39 rfl rfl ?_
          refine v_iconst C dM_append_40 ?_
          refine v_putI (k := 0) (q := 17) C dM_append_41 (by show (0 : Nat) < 18; decide) rfl rfl (by decide) rfl inM tyM_ok nmM lM_78 rfl rfl rfl (fN_bool (by omega)) (fF_bool (by omega)) ?_
          refine v_aload_n C dM_append_44 rfl rfl ?_
          refine v_getI (k := 0) (q := 10) (v := σ.1 0 10) C dM_append_45 (by show (0 : Nat) < 18; decide) rfl rfl (by decide) rfl inM lM_110 rfl rfl ?_
          refine v_bipush C dM_append_48 (by decide +kernel) ?_
          refine v_icmp_eq (tgt := 69) C dM_append_50 (by decide) (by omega) (by omega) (fun hc5 => ?_) (fun hc5 => ?_)
          · refine v_aload_n C dM_append_69 rfl rfl ?_
            refine v_iconst C dM_append_70 ?_
            refine v_putI (k := 0) (q := 0) C dM_append_71 (by show (0 : Nat) < 18; decide) rfl rfl (by decide) rfl inM tyM_ok nmM lM_63 rfl rfl rfl rfl rfl ?_
            refine v_iconst C dM_append_74 ?_
            exact v_iret C hRt hLk dM_append_75 (by first | exact Or.inr (Or.inl ⟨by omega, by omega, rfl, rfl⟩) | exact Or.inr (Or.inr (Or.inl ⟨by omega, by omega, by first | omega | (rw [← hP]; omega), rfl, by rw [hP]⟩)))
          · refine v_aload_n C dM_append_53 rfl rfl ?_
            refine v_aload_n C dM_append_54 rfl rfl ?_
            refine v_getI (k := 0) (q := 7) (v := σ.1 0 7) C dM_append_55 (by show (0 : Nat) < 18; decide) rfl rfl (by decide) rfl inM lM_116 rfl rfl ?_
            refine v_iconst C dM_append_58 ?_
            refine v_iconst C dM_append_59 ?_
            have hI1 : m_I (f_p1 (f_p1 σ 0 0 0) 0 17 1) := m_I_p (m_I_p hI 0 0 (by decide) (m_okF_n _ _ (by decide))) 17 1 (by decide) (m_okF_n _ _ (by decide))
            have hpf := (m_part_f hI1 h7 (Or.inl rfl) (show (0 : Int) ≤ 0 ∧ (0 : Int) ≤ 2 by omega)).2.2.1
            have hrl := m_rl (f_p1 (f_p1 σ 0 0 0) 0 17 1) 0 0 (by omega) (fun i => hI1.2.1 5 i)
            refine v_cVI (k := 0) (n := 3) C (mE_ok _) trivial hR (kM_putPart _ xCl D cA ad hJ (f_p1 (f_p1 σ 0 0 0) 0 17 1) (σ.1 0 7) 0 0 h7 (Or.inl rfl) (by omega) (fun _ => by show 1 ≤ σ.1 0 10 ∧ σ.1 0 10 ≤ 60; omega) (fun i => hI1.2.1 1 i) (fun i => hI1.2.1 2 i) (fun i => hI1.2.1 3 i) (fun i => hI1.2.1 5 i) (fun i => hI1.2.1 6 i) (fun i => hI1.2.1 9 i) (fun i => hI1.2.1 13 i) (Or.inr rfl) (by omega) (fun h => absurd h (show ¬ (1 : Int) = 0 by decide)) (fun h => absurd h (show ¬ (1 : Int) = 0 by decide))) dM_append_60 (by show (0 : Nat) < 18; decide) rfl rfl gM_119 (by decide +kernel) (by decide) (by decide) rfl (Nat.le_of_ble_eq_true rfl) rfl ⟨rfl, rfl⟩ (fun r1 σ1 hp1 => ?_)
            obtain ⟨e1, e2⟩ := hp1
            subst r1
            obtain ⟨P, hP⟩ : ∃ s, s = m_part (f_p1 (f_p1 σ 0 0 0) 0 17 1) (σ.1 0 7) 0 0 := ⟨_, rfl⟩
            subst σ1
            refine v_st hP.symm ?_
            rw [← hP] at hpf ⊢
            have hIP : m_I P := by rw [hP]; exact m_I_part hI1 h7 (Or.inl rfl) (by omega)
            have hPf : ∀ q, q ≠ 16 → q ≠ 26 → P.1 0 q = (f_p1 (f_p1 σ 0 0 0) 0 17 1).1 0 q := fun q g1 g2 => by rw [hP]; exact (m_part_f hI1 h7 (Or.inl rfl) (show (0 : Int) ≤ 0 ∧ (0 : Int) ≤ 2 by omega)).2.1 q g1 g2
            have hP7 : P.1 0 7 = σ.1 0 7 := hPf 7 (by decide) (by decide)
            have hP10 : P.1 0 10 = σ.1 0 10 := hPf 10 (by decide) (by decide)
            have hP0 : P.1 0 0 = 0 := hPf 0 (by decide) (by decide)
            refine v_sipush C dM_append_63 (by decide +kernel) ?_
            refine v_icmp_le (tgt := 76) C dM_append_66 (by decide) (by omega) (by omega) (fun hc6 => ?_) (fun hc6 => ?_)
            · refine v_aload_n C dM_append_76 rfl rfl ?_
              refine v_getI (k := 0) (q := 7) (v := σ.1 0 7) C dM_append_77 (by show (0 : Nat) < 18; decide) rfl rfl (by decide) rfl inM lM_116 rfl hP7 ?_
              refine v_istore_n C dM_append_80 rfl (by decide) ?_
              refine v_aload_n C dM_append_81 rfl rfl ?_
              refine v_aload_n C dM_append_82 rfl rfl ?_
              refine v_getI (k := 0) (q := 7) (v := σ.1 0 7) C dM_append_83 (by show (0 : Nat) < 18; decide) rfl rfl (by decide) rfl inM lM_116 rfl hP7 ?_
              refine v_iconst C dM_append_86 ?_
              refine v_iconst C dM_append_87 ?_
              have hI2 : m_I (f_p1 P 0 17 0) := m_I_p hIP 17 0 (by decide) (m_okF_n _ _ (by decide))
              have hew : m_eqw (f_p1 (f_p1 σ 0 0 0) 0 17 1) (f_p1 P 0 17 0) := fun k i hk => by show P.2 k i = σ.2 k i; rw [hP]; exact (m_part_f hI1 h7 (Or.inl rfl) (show (0 : Int) ≤ 0 ∧ (0 : Int) ≤ 2 by omega)).1 k i (by omega) (by omega) (by omega)
              have hpq : m_pq (f_p1 P 0 17 0) 0 = m_pq (f_p1 (f_p1 σ 0 0 0) 0 17 1) 0 := by unfold m_pq; rw [if_neg (by decide), if_neg (by decide)]; show P.2 9 (P.1 0 10 - 1).toNat = σ.2 9 (σ.1 0 10 - 1).toNat; rw [hP10, hP]; exact (m_part_f hI1 h7 (Or.inl rfl) (show (0 : Int) ≤ 0 ∧ (0 : Int) ≤ 2 by omega)).1 9 _ (by decide) (by decide) (by decide)
              have hpf2 := (m_part_f hI2 h7 (Or.inl rfl) (show (0 : Int) ≤ 0 ∧ (0 : Int) ≤ 2 by omega)).2.2.1.1
              rw [m_eqw_16 hew, hpq, m_eqw_tail hew (σ.1 0 7) 0 0 (m_pq (f_p1 (f_p1 σ 0 0 0) 0 17 1) 0) (Or.inl rfl) (by omega) (fun i => hI.2.1 2 i) (fun i => hI.2.1 5 i)] at hpf2
              have hpf3 : (m_pa P (σ.1 0 7) 0 0).1 0 16 ≤ 12000 := by show (m_part (f_p1 P 0 17 0) (σ.1 0 7) 0 0).1 0 16 ≤ 12000; omega
              obtain ⟨g1, g2, g3⟩ := m_I_all hIP h7 (Or.inl rfl) (show (0 : Int) ≤ 0 ∧ (0 : Int) ≤ 2 by omega) (fun _ => by rw [hP10]; omega) hpf3
              refine v_cVV (k := 0) (n := 3) C (mE_ok _) trivial hR (kM_putAll _ xCl D cA ad hJ P (σ.1 0 7) 0 0 hIP h7 (Or.inl rfl) (by omega) (fun _ => by rw [hP10]; omega) hpf3) dM_append_88 (by show (0 : Nat) < 18; decide) rfl rfl gM_133 (by decide +kernel) (by decide) (by decide) rfl (Nat.le_of_ble_eq_true rfl) rfl ⟨rfl, rfl⟩ (fun σ1 hp1 => ?_)
              obtain ⟨T, hT⟩ : ∃ s, s = m_all P (σ.1 0 7) 0 0 := ⟨_, rfl⟩
              subst σ1
              refine v_st hT.symm ?_
              refine v_aload_n C dM_append_91 rfl rfl ?_
              refine v_getI (k := 0) (q := 7) (v := T.1 0 7) C dM_append_92 (by show (0 : Nat) < 18; decide) rfl rfl (by decide) rfl inM lM_116 rfl rfl ?_
              refine v_iload_n C dM_append_95 rfl rfl ?_
              refine v_isub C dM_append_96 ?_
              exact v_iret C hRt hLk dM_append_97 (Or.inr (Or.inr (Or.inr ⟨by omega, by omega, by first | omega | (rw [← hP]; omega), by rw [hT, hP], rfl, by rw [hT]; exact g1, by rw [hT, g3]; exact hP0⟩)))
            · refine v_aload_n C dM_append_69 rfl rfl ?_
              refine v_iconst C dM_append_70 ?_
              refine v_putI (k := 0) (q := 0) C dM_append_71 (by show (0 : Nat) < 18; decide) rfl rfl (by decide) rfl inM tyM_ok nmM lM_63 rfl rfl rfl rfl rfl ?_
              refine v_iconst C dM_append_74 ?_
              exact v_iret C hRt hLk dM_append_75 (by first | exact Or.inr (Or.inl ⟨by omega, by omega, rfl, rfl⟩) | exact Or.inr (Or.inr (Or.inl ⟨by omega, by omega, by first | omega | (rw [← hP]; omega), rfl, by rw [hP]⟩)))
        · refine v_iconst C dM_append_37 ?_
          exact v_iret C hRt hLk dM_append_38 (Or.inl ⟨by omega, rfl, rfl⟩)
    · exfalso; omega
theorem m_I_app {σ : fS} {r : Int} {σ1 : fS} (hI : m_I σ) (h : (fun r σ1 => (m_cnt (σ.2 3) 40 = 0 ∧ r = 0 ∧ σ1 = f_p1 σ 0 0 0) ∨ (m_cnt (σ.2 3) 40 ≠ 0 ∧ σ.1 0 10 = 60 ∧ r = 0 ∧ σ1 = f_p1 (f_p1 (f_p1 σ 0 0 0) 0 17 1) 0 0 2) ∨ (m_cnt (σ.2 3) 40 ≠ 0 ∧ σ.1 0 10 < 60 ∧ 12000 < (m_part (f_p1 (f_p1 σ 0 0 0) 0 17 1) (σ.1 0 7) 0 0).1 0 16 ∧ r = 0 ∧ σ1 = f_p1 (m_part (f_p1 (f_p1 σ 0 0 0) 0 17 1) (σ.1 0 7) 0 0) 0 0 2) ∨ (m_cnt (σ.2 3) 40 ≠ 0 ∧ σ.1 0 10 < 60 ∧ (m_part (f_p1 (f_p1 σ 0 0 0) 0 17 1) (σ.1 0 7) 0 0).1 0 16 ≤ 12000 ∧ σ1 = m_all (m_part (f_p1 (f_p1 σ 0 0 0) 0 17 1) (σ.1 0 7) 0 0) (σ.1 0 7) 0 0 ∧ r = σ1.1 0 7 - σ.1 0 7 ∧ m_I σ1 ∧ σ1.1 0 0 = 0)) r σ1) : m_I σ1 := by
  have h7 : 0 ≤ σ.1 0 7 ∧ σ.1 0 7 ≤ 12000 := hI.1 7
  have i1 : m_I (f_p1 (f_p1 σ 0 0 0) 0 17 1) := m_I_p (m_I_p hI 0 0 (by decide) (m_okF_n _ _ (by decide))) 17 1 (by decide) (m_okF_n _ _ (by decide))
  rcases h with ⟨-, -, rfl⟩ | ⟨-, -, -, rfl⟩ | ⟨-, -, -, -, rfl⟩ | ⟨-, -, -, -, -, h, -⟩
  · exact m_I_p hI 0 0 (by decide) (m_okF_n _ _ (by decide))
  · exact m_I_p i1 0 2 (by decide) (m_okF_n _ _ (by decide))
  · exact m_I_p (m_I_part i1 h7 (Or.inl rfl) (by omega)) 0 2 (by decide) (m_okF_n _ _ (by decide))
  · exact h
