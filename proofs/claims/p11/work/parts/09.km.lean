theorem kM_line2 (l : Launch) (xCl : List vw_C) (D : va_G) (cA : Nat → ClassId) (ad : Nat → Nat) (hJ : f_J (mG xCl D cA ad)) (σ : fS) (a : Int) (ha : 0 ≤ a ∧ a ≤ 100000) (hz : 0 ≤ σ.1 0 7 ∧ σ.1 0 7 ≤ 12000) (h7 : ∀ i, -128 ≤ σ.2 7 i ∧ σ.2 7 i ≤ 127) : f_M l (mG xCl D cA ad) mE yM_line (Cond.code yM_line cM_line 2 (some .boolean) :: A9) 0 σ [.ref (ad 0), .int (fI a)] (f_QI (fun r σ1 => m_scr σ σ1 ∧ σ1.1 0 21 = a ∧ σ1.1 0 20 = p_eol (σ.2 7) (σ.1 0 7) a ∧ σ1.1 0 22 = σ.1 0 22 ∧ σ1.1 0 26 = σ.1 0 26 ∧ σ1.1 0 27 = σ.1 0 27 ∧ ((p_eol (σ.2 7) (σ.1 0 7) a < σ.1 0 7 ∧ r = 1) ∨ (¬ p_eol (σ.2 7) (σ.1 0 7) a < σ.1 0 7 ∧ r = 0))) (mG xCl D cA ad)) :=
  f_weakI (kM_line l xCl D cA ad hJ σ a ha hz h7) (fun r σ1 h => by
    rcases h with ⟨h1, h2, rfl⟩ | ⟨h1, h2, rfl⟩
    · exact ⟨m_scr_p (m_scr_p (m_scr_rf σ) 21 a (by decide)) 20 _ (by decide), rfl, rfl, rfl, rfl, rfl, Or.inl ⟨h1, h2⟩⟩
    · exact ⟨m_scr_p (m_scr_p (m_scr_rf σ) 21 a (by decide)) 20 _ (by decide), rfl, rfl, rfl, rfl, rfl, Or.inr ⟨h1, h2⟩⟩)
theorem kM_takes2 (l : Launch) (xCl : List vw_C) (D : va_G) (cA : Nat → ClassId) (ad : Nat → Nat) (hJ : f_J (mG xCl D cA ad)) (σ : fS) (c : Int) (hc : -128 ≤ c ∧ c ≤ 127) (hu : 0 ≤ σ.1 0 21 ∧ σ.1 0 21 ≤ 100000) (he : σ.1 0 20 ≤ 12000 ∨ σ.1 0 20 ≤ σ.1 0 21) (hl : -2147483648 ≤ σ.1 0 20 ∧ σ.1 0 20 ≤ 2147483647) (h7 : ∀ i, -128 ≤ σ.2 7 i ∧ σ.2 7 i ≤ 127) : f_M l (mG xCl D cA ad) mE yM_takes (Cond.code yM_takes cM_takes 3 (some .boolean) :: A9) 0 σ [.ref (ad 0), .int (fI c)] (f_QI (fun r σ1 => m_scr σ σ1 ∧ σ1.1 0 20 = σ.1 0 20 ∧ σ1.1 0 22 = σ.1 0 22 ∧ σ1.1 0 26 = σ.1 0 26 ∧ σ1.1 0 27 = σ.1 0 27 ∧ (((σ.1 0 21 < σ.1 0 20 ∧ σ.2 7 (σ.1 0 21).toNat = c) ∧ r = 1 ∧ σ1.1 0 21 = σ.1 0 21 + 1) ∨ (¬ (σ.1 0 21 < σ.1 0 20 ∧ σ.2 7 (σ.1 0 21).toNat = c) ∧ r = 0 ∧ σ1.1 0 21 = σ.1 0 21))) (mG xCl D cA ad)) :=
  f_weakI (kM_takes l xCl D cA ad hJ σ c hc hu he hl h7) (fun r σ1 h => by
    rcases h with ⟨h1, h2, rfl⟩ | ⟨h1, h2, h3⟩
    · exact ⟨m_scr_p (m_scr_rf σ) 21 _ (by decide), rfl, rfl, rfl, rfl, Or.inl ⟨h1, h2, rfl⟩⟩
    · subst σ1; exact ⟨m_scr_rf σ, rfl, rfl, rfl, rfl, Or.inr ⟨h1, h2, rfl⟩⟩)
theorem kM_isOver2 (l : Launch) (xCl : List vw_C) (D : va_G) (cA : Nat → ClassId) (ad : Nat → Nat) (hJ : f_J (mG xCl D cA ad)) (σ : fS) (hc : -2147483648 ≤ σ.1 0 21 ∧ σ.1 0 21 ≤ 2147483647) (hl : -2147483648 ≤ σ.1 0 20 ∧ σ.1 0 20 ≤ 2147483647) : f_M l (mG xCl D cA ad) mE yM_isOver (Cond.code yM_isOver cM_isOver 1 (some .boolean) :: A9) 0 σ [.ref (ad 0)] (f_QI (fun r σ1 => (σ.1 0 21 = σ.1 0 20 ∧ r = 1 ∧ σ1 = σ) ∨ (¬ σ.1 0 21 = σ.1 0 20 ∧ r = 0 ∧ σ1 = σ)) (mG xCl D cA ad)) :=
  f_weakI (kM_isOver l xCl D cA ad hJ σ hc hl) (fun r σ1 h => by
    obtain ⟨h1, h2⟩ := h
    by_cases hc : σ.1 0 21 = σ.1 0 20
    · rw [if_pos hc] at h1; exact Or.inl ⟨hc, h1, h2⟩
    · rw [if_neg hc] at h1; exact Or.inr ⟨hc, h1, h2⟩)
set_option maxRecDepth 100000 in
set_option maxHeartbeats 4000000 in
/-- tells(from, letter) -/
theorem kM_tells (l : Launch) (xCl : List vw_C) (D : va_G) (cA : Nat → ClassId) (ad : Nat → Nat) (hJ : f_J (mG xCl D cA ad)) (σ : fS) (a c : Int) (ha : 0 ≤ a ∧ a ≤ 12000) (hc : -128 ≤ c ∧ c ≤ 127) (hz : 0 ≤ σ.1 0 7 ∧ σ.1 0 7 ≤ 12000) (h7 : ∀ i, -128 ≤ σ.2 7 i ∧ σ.2 7 i ≤ 127) : f_M l (mG xCl D cA ad) mE yM_tells (Cond.code yM_tells cM_tells 3 (some .boolean) :: A9) 1 σ [.ref (ad 0), .int (fI a), .int (fI c)] (f_QI (fun r σ1 => m_scr σ σ1 ∧ σ1.1 0 26 = σ.1 0 26 ∧ σ1.1 0 27 = σ.1 0 27 ∧ ((p_tell (σ.2 7) (σ.1 0 7) a c ∧ r = 1 ∧ σ1.1 0 20 = p_eol (σ.2 7) (σ.1 0 7) a ∧ σ1.1 0 22 = p_tv (σ.2 7) (σ.1 0 7) a) ∨ (¬ p_tell (σ.2 7) (σ.1 0 7) a c ∧ r = 0))) (mG xCl D cA ad)) := by
  refine f_enter (by decide +kernel) hJ rfl (Nat.le_of_ble_eq_true rfl) ?_
  intro z hzl hR C hRt hLk hEz
  subst hzl
  refine v_aload_n C dM_tells_0 rfl rfl ?_
  refine v_iload_n C dM_tells_1 rfl rfl ?_
  refine v_cVI (k := 0) (n := 1) C (mE_ok _) trivial hR (kM_line2 _ xCl D cA ad hJ σ (a) (by omega) hz h7) dM_tells_2 (by show (0 : Nat) < 18; decide) rfl rfl gM_150 (by decide +kernel) (by decide) (by decide) rfl (Nat.le_of_ble_eq_true rfl) rfl ⟨rfl, rfl⟩ (fun r1 τ1 hp1 => ?_)
  obtain ⟨g1_s, g1_21, g1_20, g1_22, g1_26, g1_27, ⟨g1_c, rfl⟩ | ⟨g1_c, rfl⟩⟩ := hp1
  · have hs1_ := g1_s
    have g1_l := @p_eol_le (σ.2 7) (σ.1 0 7) (a)
    refine v_if_eq (tgt := 43) C dM_tells_5 (by decide) (by omega) (fun hc1 => ?_) (fun hc1 => ?_)
    · exfalso; omega
    · refine v_aload_n C dM_tells_8 rfl rfl ?_
      refine v_iload_n C dM_tells_9 rfl rfl ?_
      have hz2 : 0 ≤ τ1.1 0 7 ∧ τ1.1 0 7 ≤ 12000 := by rw [m_scr_z hs1_]; exact hz
      have hb3 : ∀ i, -128 ≤ τ1.2 7 i ∧ τ1.2 7 i ≤ 127 := fun i => by rw [m_scr_a hs1_]; exact h7 i
      refine v_cVI (k := 0) (n := 1) C (mE_ok _) trivial hR (kM_takes2 _ xCl D cA ad hJ τ1 (c) (by omega) (by omega) (by omega) (by omega) hb3) dM_tells_10 (by show (0 : Nat) < 18; decide) rfl rfl gM_153 (by decide +kernel) (by decide) (by decide) rfl (Nat.le_of_ble_eq_true rfl) rfl ⟨rfl, rfl⟩ (fun r2 τ2 hp2 => ?_)
      simp only [hs1_.1, m_scr_z hs1_, g1_20, g1_21, g1_22, g1_26, g1_27] at hp2
      obtain ⟨g2_s, g2_20, g2_22, g2_26, g2_27, ⟨g2_c, rfl, g2_21⟩ | ⟨g2_c, rfl, g2_21⟩⟩ := hp2
      · have hs2_ := m_scr_tr hs1_ g2_s
        have g2_21n : τ2.1 0 21 = a + 1 := by omega
        refine v_if_eq (tgt := 43) C dM_tells_13 (by decide) (by omega) (fun hc4 => ?_) (fun hc4 => ?_)
        · exfalso; omega
        · refine v_aload_n C dM_tells_16 rfl rfl ?_
          refine v_bipush C dM_tells_17 (by decide +kernel) ?_
          have hz5 : 0 ≤ τ2.1 0 7 ∧ τ2.1 0 7 ≤ 12000 := by rw [m_scr_z hs2_]; exact hz
          have hb6 : ∀ i, -128 ≤ τ2.2 7 i ∧ τ2.2 7 i ≤ 127 := fun i => by rw [m_scr_a hs2_]; exact h7 i
          refine v_cVI (k := 0) (n := 1) C (mE_ok _) trivial hR (kM_takes2 _ xCl D cA ad hJ τ2 (32) (by omega) (by omega) (by omega) (by omega) hb6) dM_tells_19 (by show (0 : Nat) < 18; decide) rfl rfl gM_153 (by decide +kernel) (by decide) (by decide) rfl (Nat.le_of_ble_eq_true rfl) rfl ⟨rfl, rfl⟩ (fun r3 τ3 hp3 => ?_)
          simp only [hs2_.1, m_scr_z hs2_, g2_20, g2_21n, g2_22, g2_26, g2_27] at hp3
          obtain ⟨g3_s, g3_20, g3_22, g3_26, g3_27, ⟨g3_c, rfl, g3_21⟩ | ⟨g3_c, rfl, g3_21⟩⟩ := hp3
          · have hs3_ := m_scr_tr hs2_ g3_s
            have g3_21n : τ3.1 0 21 = a + 2 := by omega
            refine v_if_eq (tgt := 43) C dM_tells_22 (by decide) (by omega) (fun hc7 => ?_) (fun hc7 => ?_)
            · exfalso; omega
            · refine v_aload_n C dM_tells_25 rfl rfl ?_
              have hz8 : 0 ≤ τ3.1 0 7 ∧ τ3.1 0 7 ≤ 12000 := by rw [m_scr_z hs3_]; exact hz
              have hb9 : ∀ i, -128 ≤ τ3.2 7 i ∧ τ3.2 7 i ≤ 127 := fun i => by rw [m_scr_a hs3_]; exact h7 i
              refine v_cVI (k := 0) (n := 0) C (mE_ok _) trivial hR (kM_takesNumber _ xCl D cA ad hJ τ3 (by omega) (by omega) (by omega) (by omega) hb9) dM_tells_26 (by show (0 : Nat) < 18; decide) rfl rfl gM_156 (by decide +kernel) (by decide) (by decide) rfl (Nat.le_of_ble_eq_true rfl) rfl ⟨rfl, rfl⟩ (fun r4 τ4 hp4 => ?_)
              simp only [hs3_.1, m_scr_z hs3_, g3_20, g3_21n, g3_22, g3_26, g3_27] at hp4
              obtain ⟨g4_s, g4_20, g4_22, g4_21, g4_26, g4_27, ⟨g4_c, rfl⟩ | ⟨g4_c, rfl⟩⟩ := hp4
              · have hs4_ := m_scr_tr hs3_ g4_s
                have g4_l := p_num_le (σ.2 7) (p_eol (σ.2 7) (σ.1 0 7) (a)) (a + 2)
                have g4_v := p_num_v (σ.2 7) (p_eol (σ.2 7) (σ.1 0 7) (a)) (a + 2)
                refine v_if_eq (tgt := 43) C dM_tells_29 (by decide) (by omega) (fun hc10 => ?_) (fun hc10 => ?_)
                · exfalso; omega
                · refine v_aload_n C dM_tells_32 rfl rfl ?_
                  have hz11 : 0 ≤ τ4.1 0 7 ∧ τ4.1 0 7 ≤ 12000 := by rw [m_scr_z hs4_]; exact hz
                  have hb12 : ∀ i, -128 ≤ τ4.2 7 i ∧ τ4.2 7 i ≤ 127 := fun i => by rw [m_scr_a hs4_]; exact h7 i
                  refine v_cVI (k := 0) (n := 0) C (mE_ok _) trivial hR (kM_isOver2 _ xCl D cA ad hJ τ4 (by omega) (by omega)) dM_tells_33 (by show (0 : Nat) < 18; decide) rfl rfl gM_160 (by decide +kernel) (by decide) (by decide) rfl (Nat.le_of_ble_eq_true rfl) rfl ⟨rfl, rfl⟩ (fun r5 τ5 hp5 => ?_)
                  simp only [hs4_.1, m_scr_z hs4_, g4_20, g4_21, g4_22, g4_26, g4_27] at hp5
                  obtain ⟨g5_c, rfl, g5_e⟩ | ⟨g5_c, rfl, g5_e⟩ := hp5
                  · subst τ5
                    refine v_if_eq (tgt := 43) C dM_tells_36 (by decide) (by omega) (fun hc13 => ?_) (fun hc13 => ?_)
                    · exfalso; omega
                    · refine v_iconst C dM_tells_39 ?_
                      refine v_goto (tgt := 44) C dM_tells_40 (by decide) ?_
                      exact v_zret C hRt hLk dM_tells_44 (fN_bool (by omega)) ⟨hs4_, g4_26, g4_27, Or.inl ⟨⟨g1_c, g2_c, g3_c, g4_c, g5_c⟩, rfl, g4_20, g4_22⟩⟩
                  · subst τ5
                    refine v_if_eq (tgt := 43) C dM_tells_36 (by decide) (by omega) (fun hc14 => ?_) (fun hc14 => ?_)
                    · refine v_iconst C dM_tells_43 ?_
                      exact v_zret C hRt hLk dM_tells_44 (fN_bool (by omega)) ⟨hs4_, g4_26, g4_27, Or.inr ⟨fun h9 => by first | exact g1_c h9.1 | exact g2_c h9.2.1 | exact g3_c h9.2.2.1 | exact g4_c h9.2.2.2.1 | exact g5_c h9.2.2.2.2, rfl⟩⟩
                    · exfalso; omega
              · have hs4_ := m_scr_tr hs3_ g4_s
                have g4_l := p_num_le (σ.2 7) (p_eol (σ.2 7) (σ.1 0 7) (a)) (a + 2)
                have g4_v := p_num_v (σ.2 7) (p_eol (σ.2 7) (σ.1 0 7) (a)) (a + 2)
                refine v_if_eq (tgt := 43) C dM_tells_29 (by decide) (by omega) (fun hc15 => ?_) (fun hc15 => ?_)
                · refine v_iconst C dM_tells_43 ?_
                  exact v_zret C hRt hLk dM_tells_44 (fN_bool (by omega)) ⟨hs4_, g4_26, g4_27, Or.inr ⟨fun h9 => by first | exact g1_c h9.1 | exact g2_c h9.2.1 | exact g3_c h9.2.2.1 | exact g4_c h9.2.2.2.1 | exact g5_c h9.2.2.2.2, rfl⟩⟩
                · exfalso; omega
          · have hs3_ := m_scr_tr hs2_ g3_s
            refine v_if_eq (tgt := 43) C dM_tells_22 (by decide) (by omega) (fun hc16 => ?_) (fun hc16 => ?_)
            · refine v_iconst C dM_tells_43 ?_
              exact v_zret C hRt hLk dM_tells_44 (fN_bool (by omega)) ⟨hs3_, g3_26, g3_27, Or.inr ⟨fun h9 => by first | exact g1_c h9.1 | exact g2_c h9.2.1 | exact g3_c h9.2.2.1 | exact g4_c h9.2.2.2.1 | exact g5_c h9.2.2.2.2, rfl⟩⟩
            · exfalso; omega
      · have hs2_ := m_scr_tr hs1_ g2_s
        refine v_if_eq (tgt := 43) C dM_tells_13 (by decide) (by omega) (fun hc17 => ?_) (fun hc17 => ?_)
        · refine v_iconst C dM_tells_43 ?_
          exact v_zret C hRt hLk dM_tells_44 (fN_bool (by omega)) ⟨hs2_, g2_26, g2_27, Or.inr ⟨fun h9 => by first | exact g1_c h9.1 | exact g2_c h9.2.1 | exact g3_c h9.2.2.1 | exact g4_c h9.2.2.2.1 | exact g5_c h9.2.2.2.2, rfl⟩⟩
        · exfalso; omega
  · have hs1_ := g1_s
    have g1_l := @p_eol_le (σ.2 7) (σ.1 0 7) (a)
    refine v_if_eq (tgt := 43) C dM_tells_5 (by decide) (by omega) (fun hc18 => ?_) (fun hc18 => ?_)
    · refine v_iconst C dM_tells_43 ?_
      exact v_zret C hRt hLk dM_tells_44 (fN_bool (by omega)) ⟨hs1_, g1_26, g1_27, Or.inr ⟨fun h9 => by first | exact g1_c h9.1 | exact g2_c h9.2.1 | exact g3_c h9.2.2.1 | exact g4_c h9.2.2.2.1 | exact g5_c h9.2.2.2.2, rfl⟩⟩
    · exfalso; omega
