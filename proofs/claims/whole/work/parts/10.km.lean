section
/-- a row of the file at p: whether there is one, its number, its place (-1: gone) -/
def p_q (f : Nat → Int) (z p : Int) : Int := (p_num f (p_eol f z p) p).2
def p_dash (f : Nat → Int) (z p : Int) : Prop := p_q f z p + 1 < p_eol f z p ∧ f (p_q f z p + 1).toNat = 45
def p_row (f : Nat → Int) (z p : Int) : Prop := p_eol f z p < z ∧ p_nok f (p_eol f z p) p ∧ (p_q f z p < p_eol f z p ∧ f (p_q f z p).toNat = 32) ∧ ((p_dash f z p ∧ p_q f z p + 2 = p_eol f z p) ∨ (¬ p_dash f z p ∧ p_nok f (p_eol f z p) (p_q f z p + 1) ∧ (p_num f (p_eol f z p) (p_q f z p + 1)).2 = p_eol f z p))
def p_rn (f : Nat → Int) (z p : Int) : Int := (p_num f (p_eol f z p) p).1
def p_rp (f : Nat → Int) (z p v : Int) : Prop := (p_dash f z p ∧ v = -1) ∨ (¬ p_dash f z p ∧ v = (p_num f (p_eol f z p) (p_q f z p + 1)).1)
/-- a record of n at p, all of it before b -/
def p_rec (f : Nat → Int) (z p n b : Int) : Prop := p_eol f z p < z ∧ (p < p_eol f z p ∧ f p.toNat = 111) ∧ (p + 1 < p_eol f z p ∧ f (p + 1).toNat = 32) ∧ p_nok f (p_eol f z p) (p + 2) ∧ (p_num f (p_eol f z p) (p + 2)).1 = n ∧ ((p_num f (p_eol f z p) (p + 2)).2 < p_eol f z p ∧ f ((p_num f (p_eol f z p) (p + 2)).2).toNat = 32) ∧ p_nok f (p_eol f z p) ((p_num f (p_eol f z p) (p + 2)).2 + 1) ∧ (p_num f (p_eol f z p) ((p_num f (p_eol f z p) (p + 2)).2 + 1)).2 = p_eol f z p ∧ (p_num f (p_eol f z p) ((p_num f (p_eol f z p) (p + 2)).2 + 1)).1 ≤ 120 ∧ p_eol f z p + 1 + (p_num f (p_eol f z p) ((p_num f (p_eol f z p) (p + 2)).2 + 1)).1 < b ∧ f (p_eol f z p + 1 + (p_num f (p_eol f z p) ((p_num f (p_eol f z p) (p + 2)).2 + 1)).1).toNat = 10
def p_rl (f : Nat → Int) (z p : Int) : Int := (p_num f (p_eol f z p) ((p_num f (p_eol f z p) (p + 2)).2 + 1)).1
set_option maxRecDepth 100000 in
set_option maxHeartbeats 4000000 in
/-- isRow(from) -/
theorem kM_isRow (l : Launch) (xCl : List vw_C) (D : va_G) (cA : Nat → ClassId) (ad : Nat → Nat) (hJ : f_J (mG xCl D cA ad)) (σ : fS) (a : Int) (ha : 0 ≤ a ∧ a ≤ 12000) (hz : 0 ≤ σ.1 0 7 ∧ σ.1 0 7 ≤ 12000) (h7 : ∀ i, -128 ≤ σ.2 7 i ∧ σ.2 7 i ≤ 127) : f_M l (mG xCl D cA ad) mE yM_isRow (Cond.code yM_isRow cM_isRow 3 (some .boolean) :: A9) 1 σ [.ref (ad 0), .int (fI a)] (f_QI (fun r σ1 => m_scr σ σ1 ∧ σ1.1 0 20 = p_eol (σ.2 7) (σ.1 0 7) a ∧ ((p_row (σ.2 7) (σ.1 0 7) a ∧ r = 1 ∧ σ1.1 0 26 = p_rn (σ.2 7) (σ.1 0 7) a ∧ p_rp (σ.2 7) (σ.1 0 7) a (σ1.1 0 27)) ∨ (¬ p_row (σ.2 7) (σ.1 0 7) a ∧ r = 0))) (mG xCl D cA ad)) := by
  refine f_enter (by decide +kernel) hJ rfl (Nat.le_of_ble_eq_true rfl) ?_
  intro z hzl hR C hRt hLk hEz
  subst hzl
  refine v_aload_n C dM_isRow_0 rfl rfl ?_
  refine v_iload_n C dM_isRow_1 rfl rfl ?_
  refine v_cVI (k := 0) (n := 1) C (mE_ok _) trivial hR (kM_line2 _ xCl D cA ad hJ σ (a) (by omega) hz h7) dM_isRow_2 (by show (0 : Nat) < 18; decide) rfl rfl gM_150 (by decide +kernel) (by decide) (by decide) rfl (Nat.le_of_ble_eq_true rfl) rfl ⟨rfl, rfl⟩ (fun r1 τ1 hp1 => ?_)
  obtain ⟨g1_s, g1_21, g1_20, g1_22, g1_26, g1_27, ⟨g1_c, rfl⟩ | ⟨g1_c, rfl⟩⟩ := hp1
  · have hs1_ := g1_s
    have g1_l := @p_eol_le (σ.2 7) (σ.1 0 7) (a)
    refine v_if_eq (tgt := 15) C dM_isRow_5 (by decide) (by omega) (fun hc1 => ?_) (fun hc1 => ?_)
    · exfalso; omega
    · refine v_aload_n C dM_isRow_8 rfl rfl ?_
      have hz2 : 0 ≤ τ1.1 0 7 ∧ τ1.1 0 7 ≤ 12000 := by rw [m_scr_z hs1_]; exact hz
      have hb3 : ∀ i, -128 ≤ τ1.2 7 i ∧ τ1.2 7 i ≤ 127 := fun i => by rw [m_scr_a hs1_]; exact h7 i
      refine v_cVI (k := 0) (n := 0) C (mE_ok _) trivial hR (kM_takesNumber _ xCl D cA ad hJ τ1 (by omega) (by omega) (by omega) (by omega) hb3) dM_isRow_9 (by show (0 : Nat) < 18; decide) rfl rfl gM_156 (by decide +kernel) (by decide) (by decide) rfl (Nat.le_of_ble_eq_true rfl) rfl ⟨rfl, rfl⟩ (fun r2 τ2 hp2 => ?_)
      simp only [hs1_.1, m_scr_z hs1_, g1_20, g1_21, g1_22, g1_26, g1_27] at hp2
      obtain ⟨g2_s, g2_20, g2_22, g2_21, g2_26, g2_27, ⟨g2_c, rfl⟩ | ⟨g2_c, rfl⟩⟩ := hp2
      · have hs2_ := m_scr_tr hs1_ g2_s
        have g2_l := p_num_le (σ.2 7) (p_eol (σ.2 7) (σ.1 0 7) (a)) (a)
        have g2_v := p_num_v (σ.2 7) (p_eol (σ.2 7) (σ.1 0 7) (a)) (a)
        refine v_if_ne (tgt := 17) C dM_isRow_12 (by decide) (by omega) (fun hc4 => ?_) (fun hc4 => ?_)
        · refine v_aload_n C dM_isRow_17 rfl rfl ?_
          refine v_aload_n C dM_isRow_18 rfl rfl ?_
          refine v_getI (k := 0) (q := 22) (v := (p_num (σ.2 7) (p_eol (σ.2 7) (σ.1 0 7) (a)) (a)).1) C dM_isRow_19 (by show (0 : Nat) < 18; decide) rfl rfl (by decide) rfl inM lM_147 rfl g2_22 ?_
          refine v_putI (k := 0) (q := 26) C dM_isRow_22 (by show (0 : Nat) < 18; decide) rfl rfl (by decide) rfl inM tyM_ok nmM lM_113 rfl rfl rfl rfl rfl ?_
          refine v_aload_n C dM_isRow_25 rfl rfl ?_
          refine v_bipush C dM_isRow_26 (by decide +kernel) ?_
          obtain ⟨υ5, υ5e⟩ : ∃ s, s = (f_p1 τ2 0 26 ((p_num (σ.2 7) (p_eol (σ.2 7) (σ.1 0 7) (a)) (a)).1)) := ⟨_, rfl⟩
          refine v_st υ5e.symm ?_
          have hs6 : m_scr σ υ5 := by rw [υ5e]; exact (m_scr_p hs2_ 26 ((p_num (σ.2 7) (p_eol (σ.2 7) (σ.1 0 7) (a)) (a)).1) (by decide))
          have ef7 : υ5.1 0 20 = p_eol (σ.2 7) (σ.1 0 7) (a) := by rw [υ5e]; exact g2_20
          have ef8 : υ5.1 0 21 = (p_num (σ.2 7) (p_eol (σ.2 7) (σ.1 0 7) (a)) (a)).2 := by rw [υ5e]; exact g2_21
          have ef9 : υ5.1 0 22 = (p_num (σ.2 7) (p_eol (σ.2 7) (σ.1 0 7) (a)) (a)).1 := by rw [υ5e]; exact g2_22
          have ef10 : υ5.1 0 26 = (p_num (σ.2 7) (p_eol (σ.2 7) (σ.1 0 7) (a)) (a)).1 := by rw [υ5e]; exact rfl
          have ef11 : υ5.1 0 27 = σ.1 0 27 := by rw [υ5e]; exact g2_27
          have hz12 : 0 ≤ υ5.1 0 7 ∧ υ5.1 0 7 ≤ 12000 := by rw [m_scr_z hs6]; exact hz
          have hb13 : ∀ i, -128 ≤ υ5.2 7 i ∧ υ5.2 7 i ≤ 127 := fun i => by rw [m_scr_a hs6]; exact h7 i
          refine v_cVI (k := 0) (n := 1) C (mE_ok _) trivial hR (kM_takes2 _ xCl D cA ad hJ υ5 (32) (by omega) (by omega) (by omega) (by omega) hb13) dM_isRow_28 (by show (0 : Nat) < 18; decide) rfl rfl gM_153 (by decide +kernel) (by decide) (by decide) rfl (Nat.le_of_ble_eq_true rfl) rfl ⟨rfl, rfl⟩ (fun r3 τ3 hp3 => ?_)
          simp only [hs6.1, m_scr_z hs6, ef7, ef8, ef9, ef10, ef11] at hp3
          obtain ⟨g3_s, g3_20, g3_22, g3_26, g3_27, ⟨g3_c, rfl, g3_21⟩ | ⟨g3_c, rfl, g3_21⟩⟩ := hp3
          · have hs3_ := m_scr_tr hs6 g3_s
            have g3_21n : τ3.1 0 21 = (p_num (σ.2 7) (p_eol (σ.2 7) (σ.1 0 7) (a)) (a)).2 + 1 := by omega
            refine v_if_ne (tgt := 36) C dM_isRow_31 (by decide) (by omega) (fun hc14 => ?_) (fun hc14 => ?_)
            · refine v_aload_n C dM_isRow_36 rfl rfl ?_
              refine v_iconst C dM_isRow_37 ?_
              refine v_putI (k := 0) (q := 27) C dM_isRow_38 (by show (0 : Nat) < 18; decide) rfl rfl (by decide) rfl inM tyM_ok nmM lM_163 rfl rfl rfl rfl rfl ?_
              refine v_aload_n C dM_isRow_41 rfl rfl ?_
              refine v_bipush C dM_isRow_42 (by decide +kernel) ?_
              obtain ⟨υ15, υ15e⟩ : ∃ s, s = (f_p1 τ3 0 27 ((-1))) := ⟨_, rfl⟩
              refine v_st υ15e.symm ?_
              have hs16 : m_scr σ υ15 := by rw [υ15e]; exact (m_scr_p hs3_ 27 ((-1)) (by decide))
              have ef17 : υ15.1 0 20 = p_eol (σ.2 7) (σ.1 0 7) (a) := by rw [υ15e]; exact g3_20
              have ef18 : υ15.1 0 21 = (p_num (σ.2 7) (p_eol (σ.2 7) (σ.1 0 7) (a)) (a)).2 + 1 := by rw [υ15e]; exact g3_21n
              have ef19 : υ15.1 0 22 = (p_num (σ.2 7) (p_eol (σ.2 7) (σ.1 0 7) (a)) (a)).1 := by rw [υ15e]; exact g3_22
              have ef20 : υ15.1 0 26 = (p_num (σ.2 7) (p_eol (σ.2 7) (σ.1 0 7) (a)) (a)).1 := by rw [υ15e]; exact g3_26
              have ef21 : υ15.1 0 27 = (-1) := by rw [υ15e]; exact rfl
              have hz22 : 0 ≤ υ15.1 0 7 ∧ υ15.1 0 7 ≤ 12000 := by rw [m_scr_z hs16]; exact hz
              have hb23 : ∀ i, -128 ≤ υ15.2 7 i ∧ υ15.2 7 i ≤ 127 := fun i => by rw [m_scr_a hs16]; exact h7 i
              refine v_cVI (k := 0) (n := 1) C (mE_ok _) trivial hR (kM_takes2 _ xCl D cA ad hJ υ15 (45) (by omega) (by omega) (by omega) (by omega) hb23) dM_isRow_44 (by show (0 : Nat) < 18; decide) rfl rfl gM_153 (by decide +kernel) (by decide) (by decide) rfl (Nat.le_of_ble_eq_true rfl) rfl ⟨rfl, rfl⟩ (fun r4 τ4 hp4 => ?_)
              simp only [hs16.1, m_scr_z hs16, ef17, ef18, ef19, ef20, ef21] at hp4
              obtain ⟨g4_s, g4_20, g4_22, g4_26, g4_27, ⟨g4_c, rfl, g4_21⟩ | ⟨g4_c, rfl, g4_21⟩⟩ := hp4
              · have hs4_ := m_scr_tr hs16 g4_s
                have g4_21n : τ4.1 0 21 = (p_num (σ.2 7) (p_eol (σ.2 7) (σ.1 0 7) (a)) (a)).2 + 2 := by omega
                refine v_if_eq (tgt := 55) C dM_isRow_47 (by decide) (by omega) (fun hc24 => ?_) (fun hc24 => ?_)
                · exfalso; omega
                · refine v_aload_n C dM_isRow_50 rfl rfl ?_
                  have hz25 : 0 ≤ τ4.1 0 7 ∧ τ4.1 0 7 ≤ 12000 := by rw [m_scr_z hs4_]; exact hz
                  have hb26 : ∀ i, -128 ≤ τ4.2 7 i ∧ τ4.2 7 i ≤ 127 := fun i => by rw [m_scr_a hs4_]; exact h7 i
                  refine v_cVI (k := 0) (n := 0) C (mE_ok _) trivial hR (kM_isOver2 _ xCl D cA ad hJ τ4 (by omega) (by omega)) dM_isRow_51 (by show (0 : Nat) < 18; decide) rfl rfl gM_160 (by decide +kernel) (by decide) (by decide) rfl (Nat.le_of_ble_eq_true rfl) rfl ⟨rfl, rfl⟩ (fun r5 τ5 hp5 => ?_)
                  simp only [hs4_.1, m_scr_z hs4_, g4_20, g4_21n, g4_22, g4_26, g4_27] at hp5
                  obtain ⟨g5_c, rfl, g5_e⟩ | ⟨g5_c, rfl, g5_e⟩ := hp5
                  · subst τ5
                    exact v_zret C hRt hLk dM_isRow_54 (fN_bool (by omega)) ⟨hs4_, g4_20, Or.inl ⟨⟨g1_c, g2_c, g3_c, Or.inl ⟨g4_c, g5_c⟩⟩, rfl, g4_26, Or.inl ⟨g4_c, g4_27⟩⟩⟩
                  · subst τ5
                    exact v_zret C hRt hLk dM_isRow_54 (fN_bool (by omega)) ⟨hs4_, g4_20, Or.inr ⟨fun h9 => by first | exact g1_c h9.1 | exact g2_c h9.2.1 | exact g3_c h9.2.2.1 | exact h9.2.2.2.elim (fun k => by first | exact g5_c k.2 | exact g4_c k.1) (fun k => by first | exact k.1 g4_c | exact g5_c k.2.1 | exact nope k.2.2), rfl⟩⟩
              · have hs4_ := m_scr_tr hs16 g4_s
                refine v_if_eq (tgt := 55) C dM_isRow_47 (by decide) (by omega) (fun hc27 => ?_) (fun hc27 => ?_)
                · refine v_aload_n C dM_isRow_55 rfl rfl ?_
                  have hz28 : 0 ≤ τ4.1 0 7 ∧ τ4.1 0 7 ≤ 12000 := by rw [m_scr_z hs4_]; exact hz
                  have hb29 : ∀ i, -128 ≤ τ4.2 7 i ∧ τ4.2 7 i ≤ 127 := fun i => by rw [m_scr_a hs4_]; exact h7 i
                  refine v_cVI (k := 0) (n := 0) C (mE_ok _) trivial hR (kM_takesNumber _ xCl D cA ad hJ τ4 (by omega) (by omega) (by omega) (by omega) hb29) dM_isRow_56 (by show (0 : Nat) < 18; decide) rfl rfl gM_156 (by decide +kernel) (by decide) (by decide) rfl (Nat.le_of_ble_eq_true rfl) rfl ⟨rfl, rfl⟩ (fun r6 τ6 hp6 => ?_)
                  simp only [hs4_.1, m_scr_z hs4_, g4_20, g4_21, g4_22, g4_26, g4_27] at hp6
                  obtain ⟨g6_s, g6_20, g6_22, g6_21, g6_26, g6_27, ⟨g6_c, rfl⟩ | ⟨g6_c, rfl⟩⟩ := hp6
                  · have hs6_ := m_scr_tr hs4_ g6_s
                    have g6_l := p_num_le (σ.2 7) (p_eol (σ.2 7) (σ.1 0 7) (a)) ((p_num (σ.2 7) (p_eol (σ.2 7) (σ.1 0 7) (a)) (a)).2 + 1)
                    have g6_v := p_num_v (σ.2 7) (p_eol (σ.2 7) (σ.1 0 7) (a)) ((p_num (σ.2 7) (p_eol (σ.2 7) (σ.1 0 7) (a)) (a)).2 + 1)
                    refine v_if_eq (tgt := 73) C dM_isRow_59 (by decide) (by omega) (fun hc30 => ?_) (fun hc30 => ?_)
                    · exfalso; omega
                    · refine v_aload_n C dM_isRow_62 rfl rfl ?_
                      have hz31 : 0 ≤ τ6.1 0 7 ∧ τ6.1 0 7 ≤ 12000 := by rw [m_scr_z hs6_]; exact hz
                      have hb32 : ∀ i, -128 ≤ τ6.2 7 i ∧ τ6.2 7 i ≤ 127 := fun i => by rw [m_scr_a hs6_]; exact h7 i
                      refine v_cVI (k := 0) (n := 0) C (mE_ok _) trivial hR (kM_isOver2 _ xCl D cA ad hJ τ6 (by omega) (by omega)) dM_isRow_63 (by show (0 : Nat) < 18; decide) rfl rfl gM_160 (by decide +kernel) (by decide) (by decide) rfl (Nat.le_of_ble_eq_true rfl) rfl ⟨rfl, rfl⟩ (fun r7 τ7 hp7 => ?_)
                      simp only [hs6_.1, m_scr_z hs6_, g6_20, g6_21, g6_22, g6_26, g6_27] at hp7
                      obtain ⟨g7_c, rfl, g7_e⟩ | ⟨g7_c, rfl, g7_e⟩ := hp7
                      · subst τ7
                        refine v_if_eq (tgt := 73) C dM_isRow_66 (by decide) (by omega) (fun hc33 => ?_) (fun hc33 => ?_)
                        · exfalso; omega
                        · refine v_iconst C dM_isRow_69 ?_
                          refine v_goto (tgt := 74) C dM_isRow_70 (by decide) ?_
                          refine v_istore_n C dM_isRow_74 rfl (by decide) ?_
                          refine v_aload_n C dM_isRow_75 rfl rfl ?_
                          refine v_aload_n C dM_isRow_76 rfl rfl ?_
                          refine v_getI (k := 0) (q := 22) (v := (p_num (σ.2 7) (p_eol (σ.2 7) (σ.1 0 7) (a)) ((p_num (σ.2 7) (p_eol (σ.2 7) (σ.1 0 7) (a)) (a)).2 + 1)).1) C dM_isRow_77 (by show (0 : Nat) < 18; decide) rfl rfl (by decide) rfl inM lM_147 rfl g6_22 ?_
                          refine v_putI (k := 0) (q := 27) C dM_isRow_80 (by show (0 : Nat) < 18; decide) rfl rfl (by decide) rfl inM tyM_ok nmM lM_163 rfl rfl rfl rfl rfl ?_
                          refine v_iload_n C dM_isRow_83 rfl rfl ?_
                          exact v_zret C hRt hLk dM_isRow_84 (fN_bool (by omega)) ⟨(m_scr_p hs6_ 27 ((p_num (σ.2 7) (p_eol (σ.2 7) (σ.1 0 7) (a)) ((p_num (σ.2 7) (p_eol (σ.2 7) (σ.1 0 7) (a)) (a)).2 + 1)).1) (by decide)), g6_20, Or.inl ⟨⟨g1_c, g2_c, g3_c, Or.inr ⟨g4_c, g6_c, g7_c⟩⟩, rfl, g6_26, Or.inr ⟨g4_c, rfl⟩⟩⟩
                      · subst τ7
                        refine v_if_eq (tgt := 73) C dM_isRow_66 (by decide) (by omega) (fun hc34 => ?_) (fun hc34 => ?_)
                        · refine v_iconst C dM_isRow_73 ?_
                          refine v_istore_n C dM_isRow_74 rfl (by decide) ?_
                          refine v_aload_n C dM_isRow_75 rfl rfl ?_
                          refine v_aload_n C dM_isRow_76 rfl rfl ?_
                          refine v_getI (k := 0) (q := 22) (v := (p_num (σ.2 7) (p_eol (σ.2 7) (σ.1 0 7) (a)) ((p_num (σ.2 7) (p_eol (σ.2 7) (σ.1 0 7) (a)) (a)).2 + 1)).1) C dM_isRow_77 (by show (0 : Nat) < 18; decide) rfl rfl (by decide) rfl inM lM_147 rfl g6_22 ?_
                          refine v_putI (k := 0) (q := 27) C dM_isRow_80 (by show (0 : Nat) < 18; decide) rfl rfl (by decide) rfl inM tyM_ok nmM lM_163 rfl rfl rfl rfl rfl ?_
                          refine v_iload_n C dM_isRow_83 rfl rfl ?_
                          exact v_zret C hRt hLk dM_isRow_84 (fN_bool (by omega)) ⟨(m_scr_p hs6_ 27 ((p_num (σ.2 7) (p_eol (σ.2 7) (σ.1 0 7) (a)) ((p_num (σ.2 7) (p_eol (σ.2 7) (σ.1 0 7) (a)) (a)).2 + 1)).1) (by decide)), g6_20, Or.inr ⟨fun h9 => by first | exact g1_c h9.1 | exact g2_c h9.2.1 | exact g3_c h9.2.2.1 | exact h9.2.2.2.elim (fun k => by first | exact g6_c k.2 | exact g4_c k.1) (fun k => by first | exact k.1 g4_c | exact g6_c k.2.1 | exact g7_c k.2.2), rfl⟩⟩
                        · exfalso; omega
                  · have hs6_ := m_scr_tr hs4_ g6_s
                    have g6_l := p_num_le (σ.2 7) (p_eol (σ.2 7) (σ.1 0 7) (a)) ((p_num (σ.2 7) (p_eol (σ.2 7) (σ.1 0 7) (a)) (a)).2 + 1)
                    have g6_v := p_num_v (σ.2 7) (p_eol (σ.2 7) (σ.1 0 7) (a)) ((p_num (σ.2 7) (p_eol (σ.2 7) (σ.1 0 7) (a)) (a)).2 + 1)
                    refine v_if_eq (tgt := 73) C dM_isRow_59 (by decide) (by omega) (fun hc35 => ?_) (fun hc35 => ?_)
                    · refine v_iconst C dM_isRow_73 ?_
                      refine v_istore_n C dM_isRow_74 rfl (by decide) ?_
                      refine v_aload_n C dM_isRow_75 rfl rfl ?_
                      refine v_aload_n C dM_isRow_76 rfl rfl ?_
                      refine v_getI (k := 0) (q := 22) (v := (p_num (σ.2 7) (p_eol (σ.2 7) (σ.1 0 7) (a)) ((p_num (σ.2 7) (p_eol (σ.2 7) (σ.1 0 7) (a)) (a)).2 + 1)).1) C dM_isRow_77 (by show (0 : Nat) < 18; decide) rfl rfl (by decide) rfl inM lM_147 rfl g6_22 ?_
                      refine v_putI (k := 0) (q := 27) C dM_isRow_80 (by show (0 : Nat) < 18; decide) rfl rfl (by decide) rfl inM tyM_ok nmM lM_163 rfl rfl rfl rfl rfl ?_
                      refine v_iload_n C dM_isRow_83 rfl rfl ?_
                      exact v_zret C hRt hLk dM_isRow_84 (fN_bool (by omega)) ⟨(m_scr_p hs6_ 27 ((p_num (σ.2 7) (p_eol (σ.2 7) (σ.1 0 7) (a)) ((p_num (σ.2 7) (p_eol (σ.2 7) (σ.1 0 7) (a)) (a)).2 + 1)).1) (by decide)), g6_20, Or.inr ⟨fun h9 => by first | exact g1_c h9.1 | exact g2_c h9.2.1 | exact g3_c h9.2.2.1 | exact h9.2.2.2.elim (fun k => by first | exact g6_c k.2 | exact g4_c k.1) (fun k => by first | exact k.1 g4_c | exact g6_c k.2.1 | exact nope k.2.2), rfl⟩⟩
                    · exfalso; omega
                · exfalso; omega
            · exfalso; omega
          · have hs3_ := m_scr_tr hs6 g3_s
            refine v_if_ne (tgt := 36) C dM_isRow_31 (by decide) (by omega) (fun hc36 => ?_) (fun hc36 => ?_)
            · exfalso; omega
            · refine v_iconst C dM_isRow_34 ?_
              exact v_zret C hRt hLk dM_isRow_35 (fN_bool (by omega)) ⟨hs3_, g3_20, Or.inr ⟨fun h9 => by first | exact g1_c h9.1 | exact g2_c h9.2.1 | exact g3_c h9.2.2.1 | exact h9.2.2.2.elim (fun k => by first | exact nope k.2 | exact nope k.1) (fun k => by first | exact k.1 nope | exact nope k.2.1 | exact nope k.2.2), rfl⟩⟩
        · exfalso; omega
      · have hs2_ := m_scr_tr hs1_ g2_s
        have g2_l := p_num_le (σ.2 7) (p_eol (σ.2 7) (σ.1 0 7) (a)) (a)
        have g2_v := p_num_v (σ.2 7) (p_eol (σ.2 7) (σ.1 0 7) (a)) (a)
        refine v_if_ne (tgt := 17) C dM_isRow_12 (by decide) (by omega) (fun hc37 => ?_) (fun hc37 => ?_)
        · exfalso; omega
        · refine v_iconst C dM_isRow_15 ?_
          exact v_zret C hRt hLk dM_isRow_16 (fN_bool (by omega)) ⟨hs2_, g2_20, Or.inr ⟨fun h9 => by first | exact g1_c h9.1 | exact g2_c h9.2.1 | exact nope h9.2.2.1 | exact h9.2.2.2.elim (fun k => by first | exact nope k.2 | exact nope k.1) (fun k => by first | exact k.1 nope | exact nope k.2.1 | exact nope k.2.2), rfl⟩⟩
  · have hs1_ := g1_s
    have g1_l := @p_eol_le (σ.2 7) (σ.1 0 7) (a)
    refine v_if_eq (tgt := 15) C dM_isRow_5 (by decide) (by omega) (fun hc38 => ?_) (fun hc38 => ?_)
    · refine v_iconst C dM_isRow_15 ?_
      exact v_zret C hRt hLk dM_isRow_16 (fN_bool (by omega)) ⟨hs1_, g1_20, Or.inr ⟨fun h9 => by first | exact g1_c h9.1 | exact nope h9.2.1 | exact nope h9.2.2.1 | exact h9.2.2.2.elim (fun k => by first | exact nope k.2 | exact nope k.1) (fun k => by first | exact k.1 nope | exact nope k.2.1 | exact nope k.2.2), rfl⟩⟩
    · exfalso; omega
set_option maxRecDepth 100000 in
set_option maxHeartbeats 4000000 in
/-- isRecord(at, n, before) -/
theorem kM_isRecord (l : Launch) (xCl : List vw_C) (D : va_G) (cA : Nat → ClassId) (ad : Nat → Nat) (hJ : f_J (mG xCl D cA ad)) (σ : fS) (a n b : Int) (ha : 0 ≤ a ∧ a ≤ 11999) (hn : -2147483648 ≤ n ∧ n ≤ 2147483647) (hb : b ≤ 12000) (hb2 : 0 ≤ b) (hz : 0 ≤ σ.1 0 7 ∧ σ.1 0 7 ≤ 12000) (h7 : ∀ i, -128 ≤ σ.2 7 i ∧ σ.2 7 i ≤ 127) : f_M l (mG xCl D cA ad) mE yM_isRecord (Cond.code yM_isRecord cM_isRecord 4 (some .boolean) :: A9) 1 σ [.ref (ad 0), .int (fI a), .int (fI n), .int (fI b)] (f_QI (fun r σ1 => m_scr σ σ1 ∧ ((p_rec (σ.2 7) (σ.1 0 7) a n b ∧ r = 1 ∧ σ1.1 0 26 = p_eol (σ.2 7) (σ.1 0 7) a + 1 ∧ σ1.1 0 27 = p_rl (σ.2 7) (σ.1 0 7) a) ∨ (¬ p_rec (σ.2 7) (σ.1 0 7) a n b ∧ r = 0))) (mG xCl D cA ad)) := by
  refine f_enter (by decide +kernel) hJ rfl (Nat.le_of_ble_eq_true rfl) ?_
  intro z hzl hR C hRt hLk hEz
  subst hzl
  refine v_aload_n C dM_isRecord_0 rfl rfl ?_
  refine v_iload_n C dM_isRecord_1 rfl rfl ?_
  refine v_cVI (k := 0) (n := 1) C (mE_ok _) trivial hR (kM_line2 _ xCl D cA ad hJ σ (a) (by omega) hz h7) dM_isRecord_2 (by show (0 : Nat) < 18; decide) rfl rfl gM_150 (by decide +kernel) (by decide) (by decide) rfl (Nat.le_of_ble_eq_true rfl) rfl ⟨rfl, rfl⟩ (fun r1 τ1 hp1 => ?_)
  obtain ⟨g1_s, g1_21, g1_20, g1_22, g1_26, g1_27, ⟨g1_c, rfl⟩ | ⟨g1_c, rfl⟩⟩ := hp1
  · have hs1_ := g1_s
    have g1_l := @p_eol_le (σ.2 7) (σ.1 0 7) (a)
    refine v_if_eq (tgt := 73) C dM_isRecord_5 (by decide) (by omega) (fun hc1 => ?_) (fun hc1 => ?_)
    · exfalso; omega
    · refine v_aload_n C dM_isRecord_8 rfl rfl ?_
      refine v_bipush C dM_isRecord_9 (by decide +kernel) ?_
      have hz2 : 0 ≤ τ1.1 0 7 ∧ τ1.1 0 7 ≤ 12000 := by rw [m_scr_z hs1_]; exact hz
      have hb3 : ∀ i, -128 ≤ τ1.2 7 i ∧ τ1.2 7 i ≤ 127 := fun i => by rw [m_scr_a hs1_]; exact h7 i
      refine v_cVI (k := 0) (n := 1) C (mE_ok _) trivial hR (kM_takes2 _ xCl D cA ad hJ τ1 (111) (by omega) (by omega) (by omega) (by omega) hb3) dM_isRecord_11 (by show (0 : Nat) < 18; decide) rfl rfl gM_153 (by decide +kernel) (by decide) (by decide) rfl (Nat.le_of_ble_eq_true rfl) rfl ⟨rfl, rfl⟩ (fun r2 τ2 hp2 => ?_)
      simp only [hs1_.1, m_scr_z hs1_, g1_20, g1_21, g1_22, g1_26, g1_27] at hp2
      obtain ⟨g2_s, g2_20, g2_22, g2_26, g2_27, ⟨g2_c, rfl, g2_21⟩ | ⟨g2_c, rfl, g2_21⟩⟩ := hp2
      · have hs2_ := m_scr_tr hs1_ g2_s
        have g2_21n : τ2.1 0 21 = a + 1 := by omega
        refine v_if_eq (tgt := 73) C dM_isRecord_14 (by decide) (by omega) (fun hc4 => ?_) (fun hc4 => ?_)
        · exfalso; omega
        · refine v_aload_n C dM_isRecord_17 rfl rfl ?_
          refine v_bipush C dM_isRecord_18 (by decide +kernel) ?_
          have hz5 : 0 ≤ τ2.1 0 7 ∧ τ2.1 0 7 ≤ 12000 := by rw [m_scr_z hs2_]; exact hz
          have hb6 : ∀ i, -128 ≤ τ2.2 7 i ∧ τ2.2 7 i ≤ 127 := fun i => by rw [m_scr_a hs2_]; exact h7 i
          refine v_cVI (k := 0) (n := 1) C (mE_ok _) trivial hR (kM_takes2 _ xCl D cA ad hJ τ2 (32) (by omega) (by omega) (by omega) (by omega) hb6) dM_isRecord_20 (by show (0 : Nat) < 18; decide) rfl rfl gM_153 (by decide +kernel) (by decide) (by decide) rfl (Nat.le_of_ble_eq_true rfl) rfl ⟨rfl, rfl⟩ (fun r3 τ3 hp3 => ?_)
          simp only [hs2_.1, m_scr_z hs2_, g2_20, g2_21n, g2_22, g2_26, g2_27] at hp3
          obtain ⟨g3_s, g3_20, g3_22, g3_26, g3_27, ⟨g3_c, rfl, g3_21⟩ | ⟨g3_c, rfl, g3_21⟩⟩ := hp3
          · have hs3_ := m_scr_tr hs2_ g3_s
            have g3_21n : τ3.1 0 21 = a + 2 := by omega
            refine v_if_eq (tgt := 73) C dM_isRecord_23 (by decide) (by omega) (fun hc7 => ?_) (fun hc7 => ?_)
            · exfalso; omega
            · refine v_aload_n C dM_isRecord_26 rfl rfl ?_
              have hz8 : 0 ≤ τ3.1 0 7 ∧ τ3.1 0 7 ≤ 12000 := by rw [m_scr_z hs3_]; exact hz
              have hb9 : ∀ i, -128 ≤ τ3.2 7 i ∧ τ3.2 7 i ≤ 127 := fun i => by rw [m_scr_a hs3_]; exact h7 i
              refine v_cVI (k := 0) (n := 0) C (mE_ok _) trivial hR (kM_takesNumber _ xCl D cA ad hJ τ3 (by omega) (by omega) (by omega) (by omega) hb9) dM_isRecord_27 (by show (0 : Nat) < 18; decide) rfl rfl gM_156 (by decide +kernel) (by decide) (by decide) rfl (Nat.le_of_ble_eq_true rfl) rfl ⟨rfl, rfl⟩ (fun r4 τ4 hp4 => ?_)
              simp only [hs3_.1, m_scr_z hs3_, g3_20, g3_21n, g3_22, g3_26, g3_27] at hp4
              obtain ⟨g4_s, g4_20, g4_22, g4_21, g4_26, g4_27, ⟨g4_c, rfl⟩ | ⟨g4_c, rfl⟩⟩ := hp4
              · have hs4_ := m_scr_tr hs3_ g4_s
                have g4_l := p_num_le (σ.2 7) (p_eol (σ.2 7) (σ.1 0 7) (a)) (a + 2)
                have g4_v := p_num_v (σ.2 7) (p_eol (σ.2 7) (σ.1 0 7) (a)) (a + 2)
                refine v_if_eq (tgt := 73) C dM_isRecord_30 (by decide) (by omega) (fun hc10 => ?_) (fun hc10 => ?_)
                · exfalso; omega
                · refine v_aload_n C dM_isRecord_33 rfl rfl ?_
                  refine v_getI (k := 0) (q := 22) (v := (p_num (σ.2 7) (p_eol (σ.2 7) (σ.1 0 7) (a)) (a + 2)).1) C dM_isRecord_34 (by show (0 : Nat) < 18; decide) rfl rfl (by decide) rfl inM lM_147 rfl g4_22 ?_
                  refine v_iload_n C dM_isRecord_37 rfl rfl ?_
                  refine v_icmp_ne (tgt := 73) C dM_isRecord_38 (by decide) (by omega) (by omega) (fun hc11 => ?_) (fun hc11 => ?_)
                  · refine v_iconst C dM_isRecord_73 ?_
                    exact v_zret C hRt hLk dM_isRecord_74 (fN_bool (by omega)) ⟨hs4_, Or.inr ⟨fun h9 => by first | exact g1_c h9.1 | exact g2_c h9.2.1 | exact g3_c h9.2.2.1 | exact g4_c h9.2.2.2.1 | exact nope h9.2.2.2.2.2.1 | exact nope h9.2.2.2.2.2.2.1 | exact nope h9.2.2.2.2.2.2.2.1 | (have k1 := h9.2.2.2.2.1; have k2 := h9.2.2.2.2.2.2.2.2.1; have k3 := h9.2.2.2.2.2.2.2.2.2.1; have k4 := h9.2.2.2.2.2.2.2.2.2.2; omega), rfl⟩⟩
                  · refine v_aload_n C dM_isRecord_41 rfl rfl ?_
                    refine v_bipush C dM_isRecord_42 (by decide +kernel) ?_
                    have hz12 : 0 ≤ τ4.1 0 7 ∧ τ4.1 0 7 ≤ 12000 := by rw [m_scr_z hs4_]; exact hz
                    have hb13 : ∀ i, -128 ≤ τ4.2 7 i ∧ τ4.2 7 i ≤ 127 := fun i => by rw [m_scr_a hs4_]; exact h7 i
                    refine v_cVI (k := 0) (n := 1) C (mE_ok _) trivial hR (kM_takes2 _ xCl D cA ad hJ τ4 (32) (by omega) (by omega) (by omega) (by omega) hb13) dM_isRecord_44 (by show (0 : Nat) < 18; decide) rfl rfl gM_153 (by decide +kernel) (by decide) (by decide) rfl (Nat.le_of_ble_eq_true rfl) rfl ⟨rfl, rfl⟩ (fun r5 τ5 hp5 => ?_)
                    simp only [hs4_.1, m_scr_z hs4_, g4_20, g4_21, g4_22, g4_26, g4_27] at hp5
                    obtain ⟨g5_s, g5_20, g5_22, g5_26, g5_27, ⟨g5_c, rfl, g5_21⟩ | ⟨g5_c, rfl, g5_21⟩⟩ := hp5
                    · have hs5_ := m_scr_tr hs4_ g5_s
                      have g5_21n : τ5.1 0 21 = (p_num (σ.2 7) (p_eol (σ.2 7) (σ.1 0 7) (a)) (a + 2)).2 + 1 := by omega
                      refine v_if_eq (tgt := 73) C dM_isRecord_47 (by decide) (by omega) (fun hc14 => ?_) (fun hc14 => ?_)
                      · exfalso; omega
                      · refine v_aload_n C dM_isRecord_50 rfl rfl ?_
                        have hz15 : 0 ≤ τ5.1 0 7 ∧ τ5.1 0 7 ≤ 12000 := by rw [m_scr_z hs5_]; exact hz
                        have hb16 : ∀ i, -128 ≤ τ5.2 7 i ∧ τ5.2 7 i ≤ 127 := fun i => by rw [m_scr_a hs5_]; exact h7 i
                        refine v_cVI (k := 0) (n := 0) C (mE_ok _) trivial hR (kM_takesNumber _ xCl D cA ad hJ τ5 (by omega) (by omega) (by omega) (by omega) hb16) dM_isRecord_51 (by show (0 : Nat) < 18; decide) rfl rfl gM_156 (by decide +kernel) (by decide) (by decide) rfl (Nat.le_of_ble_eq_true rfl) rfl ⟨rfl, rfl⟩ (fun r6 τ6 hp6 => ?_)
                        simp only [hs5_.1, m_scr_z hs5_, g5_20, g5_21n, g5_22, g5_26, g5_27] at hp6
                        obtain ⟨g6_s, g6_20, g6_22, g6_21, g6_26, g6_27, ⟨g6_c, rfl⟩ | ⟨g6_c, rfl⟩⟩ := hp6
                        · have hs6_ := m_scr_tr hs5_ g6_s
                          have g6_l := p_num_le (σ.2 7) (p_eol (σ.2 7) (σ.1 0 7) (a)) ((p_num (σ.2 7) (p_eol (σ.2 7) (σ.1 0 7) (a)) (a + 2)).2 + 1)
                          have g6_v := p_num_v (σ.2 7) (p_eol (σ.2 7) (σ.1 0 7) (a)) ((p_num (σ.2 7) (p_eol (σ.2 7) (σ.1 0 7) (a)) (a + 2)).2 + 1)
                          refine v_if_eq (tgt := 73) C dM_isRecord_54 (by decide) (by omega) (fun hc17 => ?_) (fun hc17 => ?_)
                          · exfalso; omega
                          · refine v_aload_n C dM_isRecord_57 rfl rfl ?_
                            have hz18 : 0 ≤ τ6.1 0 7 ∧ τ6.1 0 7 ≤ 12000 := by rw [m_scr_z hs6_]; exact hz
                            have hb19 : ∀ i, -128 ≤ τ6.2 7 i ∧ τ6.2 7 i ≤ 127 := fun i => by rw [m_scr_a hs6_]; exact h7 i
                            refine v_cVI (k := 0) (n := 0) C (mE_ok _) trivial hR (kM_isOver2 _ xCl D cA ad hJ τ6 (by omega) (by omega)) dM_isRecord_58 (by show (0 : Nat) < 18; decide) rfl rfl gM_160 (by decide +kernel) (by decide) (by decide) rfl (Nat.le_of_ble_eq_true rfl) rfl ⟨rfl, rfl⟩ (fun r7 τ7 hp7 => ?_)
                            simp only [hs6_.1, m_scr_z hs6_, g6_20, g6_21, g6_22, g6_26, g6_27] at hp7
                            obtain ⟨g7_c, rfl, g7_e⟩ | ⟨g7_c, rfl, g7_e⟩ := hp7
                            · subst τ7
                              refine v_if_eq (tgt := 73) C dM_isRecord_61 (by decide) (by omega) (fun hc20 => ?_) (fun hc20 => ?_)
                              · exfalso; omega
                              · refine v_aload_n C dM_isRecord_64 rfl rfl ?_
                                refine v_getI (k := 0) (q := 22) (v := (p_num (σ.2 7) (p_eol (σ.2 7) (σ.1 0 7) (a)) ((p_num (σ.2 7) (p_eol (σ.2 7) (σ.1 0 7) (a)) (a + 2)).2 + 1)).1) C dM_isRecord_65 (by show (0 : Nat) < 18; decide) rfl rfl (by decide) rfl inM lM_147 rfl g6_22 ?_
                                refine v_bipush C dM_isRecord_68 (by decide +kernel) ?_
                                refine v_icmp_le (tgt := 75) C dM_isRecord_70 (by decide) (by omega) (by omega) (fun hc21 => ?_) (fun hc21 => ?_)
                                · refine v_aload_n C dM_isRecord_75 rfl rfl ?_
                                  refine v_aload_n C dM_isRecord_76 rfl rfl ?_
                                  refine v_getI (k := 0) (q := 20) (v := p_eol (σ.2 7) (σ.1 0 7) (a)) C dM_isRecord_77 (by show (0 : Nat) < 18; decide) rfl rfl (by decide) rfl inM lM_144 rfl g6_20 ?_
                                  refine v_iconst C dM_isRecord_80 ?_
                                  refine v_iadd C dM_isRecord_81 ?_
                                  refine v_putI (k := 0) (q := 26) C dM_isRecord_82 (by show (0 : Nat) < 18; decide) rfl rfl (by decide) rfl inM tyM_ok nmM lM_113 rfl rfl rfl rfl rfl ?_
                                  refine v_aload_n C dM_isRecord_85 rfl rfl ?_
                                  refine v_aload_n C dM_isRecord_86 rfl rfl ?_
                                  refine v_getI (k := 0) (q := 22) (v := (p_num (σ.2 7) (p_eol (σ.2 7) (σ.1 0 7) (a)) ((p_num (σ.2 7) (p_eol (σ.2 7) (σ.1 0 7) (a)) (a + 2)).2 + 1)).1) C dM_isRecord_87 (by show (0 : Nat) < 18; decide) rfl rfl (by decide) rfl inM lM_147 rfl g6_22 ?_
                                  refine v_putI (k := 0) (q := 27) C dM_isRecord_90 (by show (0 : Nat) < 18; decide) rfl rfl (by decide) rfl inM tyM_ok nmM lM_163 rfl rfl rfl rfl rfl ?_
                                  refine v_aload_n C dM_isRecord_93 rfl rfl ?_
                                  refine v_getI (k := 0) (q := 26) (v := (p_eol (σ.2 7) (σ.1 0 7) (a) + 1)) C dM_isRecord_94 (by show (0 : Nat) < 18; decide) rfl rfl (by decide) rfl inM lM_113 rfl rfl ?_
                                  refine v_aload_n C dM_isRecord_97 rfl rfl ?_
                                  refine v_getI (k := 0) (q := 27) (v := (p_num (σ.2 7) (p_eol (σ.2 7) (σ.1 0 7) (a)) ((p_num (σ.2 7) (p_eol (σ.2 7) (σ.1 0 7) (a)) (a + 2)).2 + 1)).1) C dM_isRecord_98 (by show (0 : Nat) < 18; decide) rfl rfl (by decide) rfl inM lM_163 rfl rfl ?_
                                  refine v_iadd C dM_isRecord_101 ?_
                                  refine v_iload_n C dM_isRecord_102 rfl rfl ?_
                                  refine v_icmp_ge (tgt := 129) C dM_isRecord_103 (by decide) (by omega) (by omega) (fun hc22 => ?_) (fun hc22 => ?_)
                                  · refine v_iconst C dM_isRecord_129 ?_
                                    exact v_zret C hRt hLk dM_isRecord_130 (fN_bool (by omega)) ⟨(m_scr_p (m_scr_p hs6_ 26 ((p_eol (σ.2 7) (σ.1 0 7) (a) + 1)) (by decide)) 27 ((p_num (σ.2 7) (p_eol (σ.2 7) (σ.1 0 7) (a)) ((p_num (σ.2 7) (p_eol (σ.2 7) (σ.1 0 7) (a)) (a + 2)).2 + 1)).1) (by decide)), Or.inr ⟨fun h9 => by first | exact g1_c h9.1 | exact g2_c h9.2.1 | exact g3_c h9.2.2.1 | exact g4_c h9.2.2.2.1 | exact g5_c h9.2.2.2.2.2.1 | exact g6_c h9.2.2.2.2.2.2.1 | exact g7_c h9.2.2.2.2.2.2.2.1 | (have k1 := h9.2.2.2.2.1; have k2 := h9.2.2.2.2.2.2.2.2.1; have k3 := h9.2.2.2.2.2.2.2.2.2.1; have k4 := h9.2.2.2.2.2.2.2.2.2.2; omega), rfl⟩⟩
                                  · refine v_aload_n C dM_isRecord_106 rfl rfl ?_
                                    refine v_getR (k := 0) (q := 8) C dM_isRecord_107 (by show (0 : Nat) < 18; decide) rfl rfl (by decide) rfl inM lM_30 rfl ?_
                                    refine v_aload_n C dM_isRecord_110 rfl rfl ?_
                                    refine v_getI (k := 0) (q := 26) (v := (p_eol (σ.2 7) (σ.1 0 7) (a) + 1)) C dM_isRecord_111 (by show (0 : Nat) < 18; decide) rfl rfl (by decide) rfl inM lM_113 rfl rfl ?_
                                    refine v_aload_n C dM_isRecord_114 rfl rfl ?_
                                    refine v_getI (k := 0) (q := 27) (v := (p_num (σ.2 7) (p_eol (σ.2 7) (σ.1 0 7) (a)) ((p_num (σ.2 7) (p_eol (σ.2 7) (σ.1 0 7) (a)) (a + 2)).2 + 1)).1) C dM_isRecord_115 (by show (0 : Nat) < 18; decide) rfl rfl (by decide) rfl inM lM_163 rfl rfl ?_
                                    refine v_iadd C dM_isRecord_118 ?_
                                    have hb23 := h7 (((p_eol (σ.2 7) (σ.1 0 7) (a) + 1) + (p_num (σ.2 7) (p_eol (σ.2 7) (σ.1 0 7) (a)) ((p_num (σ.2 7) (p_eol (σ.2 7) (σ.1 0 7) (a)) (a + 2)).2 + 1)).1)).toNat
                                    refine v_bald (k := 7) (v := σ.2 7 (((p_eol (σ.2 7) (σ.1 0 7) (a) + 1) + (p_num (σ.2 7) (p_eol (σ.2 7) (σ.1 0 7) (a)) ((p_num (σ.2 7) (p_eol (σ.2 7) (σ.1 0 7) (a)) (a + 2)).2 + 1)).1)).toNat) C dM_isRecord_119 (by show (7 : Nat) < 18; decide) rfl rfl (by omega) (by decide) (m_scr_a hs6_ _ _) ?_
                                    refine v_bipush C dM_isRecord_120 (by decide +kernel) ?_
                                    refine v_icmp_ne (tgt := 129) C dM_isRecord_122 (by decide) (by omega) (by omega) (fun hc24 => ?_) (fun hc24 => ?_)
                                    · refine v_iconst C dM_isRecord_129 ?_
                                      exact v_zret C hRt hLk dM_isRecord_130 (fN_bool (by omega)) ⟨(m_scr_p (m_scr_p hs6_ 26 ((p_eol (σ.2 7) (σ.1 0 7) (a) + 1)) (by decide)) 27 ((p_num (σ.2 7) (p_eol (σ.2 7) (σ.1 0 7) (a)) ((p_num (σ.2 7) (p_eol (σ.2 7) (σ.1 0 7) (a)) (a + 2)).2 + 1)).1) (by decide)), Or.inr ⟨fun h9 => by first | exact g1_c h9.1 | exact g2_c h9.2.1 | exact g3_c h9.2.2.1 | exact g4_c h9.2.2.2.1 | exact g5_c h9.2.2.2.2.2.1 | exact g6_c h9.2.2.2.2.2.2.1 | exact g7_c h9.2.2.2.2.2.2.2.1 | (have k1 := h9.2.2.2.2.1; have k2 := h9.2.2.2.2.2.2.2.2.1; have k3 := h9.2.2.2.2.2.2.2.2.2.1; have k4 := h9.2.2.2.2.2.2.2.2.2.2; omega), rfl⟩⟩
                                    · refine v_iconst C dM_isRecord_125 ?_
                                      refine v_goto (tgt := 130) C dM_isRecord_126 (by decide) ?_
                                      exact v_zret C hRt hLk dM_isRecord_130 (fN_bool (by omega)) ⟨(m_scr_p (m_scr_p hs6_ 26 ((p_eol (σ.2 7) (σ.1 0 7) (a) + 1)) (by decide)) 27 ((p_num (σ.2 7) (p_eol (σ.2 7) (σ.1 0 7) (a)) ((p_num (σ.2 7) (p_eol (σ.2 7) (σ.1 0 7) (a)) (a + 2)).2 + 1)).1) (by decide)), Or.inl ⟨⟨g1_c, g2_c, g3_c, g4_c, by omega, g5_c, g6_c, g7_c, by omega, by omega, by omega⟩, rfl, rfl, rfl⟩⟩
                                · refine v_iconst C dM_isRecord_73 ?_
                                  exact v_zret C hRt hLk dM_isRecord_74 (fN_bool (by omega)) ⟨hs6_, Or.inr ⟨fun h9 => by first | exact g1_c h9.1 | exact g2_c h9.2.1 | exact g3_c h9.2.2.1 | exact g4_c h9.2.2.2.1 | exact g5_c h9.2.2.2.2.2.1 | exact g6_c h9.2.2.2.2.2.2.1 | exact g7_c h9.2.2.2.2.2.2.2.1 | (have k1 := h9.2.2.2.2.1; have k2 := h9.2.2.2.2.2.2.2.2.1; have k3 := h9.2.2.2.2.2.2.2.2.2.1; have k4 := h9.2.2.2.2.2.2.2.2.2.2; omega), rfl⟩⟩
                            · subst τ7
                              refine v_if_eq (tgt := 73) C dM_isRecord_61 (by decide) (by omega) (fun hc25 => ?_) (fun hc25 => ?_)
                              · refine v_iconst C dM_isRecord_73 ?_
                                exact v_zret C hRt hLk dM_isRecord_74 (fN_bool (by omega)) ⟨hs6_, Or.inr ⟨fun h9 => by first | exact g1_c h9.1 | exact g2_c h9.2.1 | exact g3_c h9.2.2.1 | exact g4_c h9.2.2.2.1 | exact g5_c h9.2.2.2.2.2.1 | exact g6_c h9.2.2.2.2.2.2.1 | exact g7_c h9.2.2.2.2.2.2.2.1 | (have k1 := h9.2.2.2.2.1; have k2 := h9.2.2.2.2.2.2.2.2.1; have k3 := h9.2.2.2.2.2.2.2.2.2.1; have k4 := h9.2.2.2.2.2.2.2.2.2.2; omega), rfl⟩⟩
                              · exfalso; omega
                        · have hs6_ := m_scr_tr hs5_ g6_s
                          have g6_l := p_num_le (σ.2 7) (p_eol (σ.2 7) (σ.1 0 7) (a)) ((p_num (σ.2 7) (p_eol (σ.2 7) (σ.1 0 7) (a)) (a + 2)).2 + 1)
                          have g6_v := p_num_v (σ.2 7) (p_eol (σ.2 7) (σ.1 0 7) (a)) ((p_num (σ.2 7) (p_eol (σ.2 7) (σ.1 0 7) (a)) (a + 2)).2 + 1)
                          refine v_if_eq (tgt := 73) C dM_isRecord_54 (by decide) (by omega) (fun hc26 => ?_) (fun hc26 => ?_)
                          · refine v_iconst C dM_isRecord_73 ?_
                            exact v_zret C hRt hLk dM_isRecord_74 (fN_bool (by omega)) ⟨hs6_, Or.inr ⟨fun h9 => by first | exact g1_c h9.1 | exact g2_c h9.2.1 | exact g3_c h9.2.2.1 | exact g4_c h9.2.2.2.1 | exact g5_c h9.2.2.2.2.2.1 | exact g6_c h9.2.2.2.2.2.2.1 | exact nope h9.2.2.2.2.2.2.2.1 | (have k1 := h9.2.2.2.2.1; have k2 := h9.2.2.2.2.2.2.2.2.1; have k3 := h9.2.2.2.2.2.2.2.2.2.1; have k4 := h9.2.2.2.2.2.2.2.2.2.2; omega), rfl⟩⟩
                          · exfalso; omega
                    · have hs5_ := m_scr_tr hs4_ g5_s
                      refine v_if_eq (tgt := 73) C dM_isRecord_47 (by decide) (by omega) (fun hc27 => ?_) (fun hc27 => ?_)
                      · refine v_iconst C dM_isRecord_73 ?_
                        exact v_zret C hRt hLk dM_isRecord_74 (fN_bool (by omega)) ⟨hs5_, Or.inr ⟨fun h9 => by first | exact g1_c h9.1 | exact g2_c h9.2.1 | exact g3_c h9.2.2.1 | exact g4_c h9.2.2.2.1 | exact g5_c h9.2.2.2.2.2.1 | exact nope h9.2.2.2.2.2.2.1 | exact nope h9.2.2.2.2.2.2.2.1 | (have k1 := h9.2.2.2.2.1; have k2 := h9.2.2.2.2.2.2.2.2.1; have k3 := h9.2.2.2.2.2.2.2.2.2.1; have k4 := h9.2.2.2.2.2.2.2.2.2.2; omega), rfl⟩⟩
                      · exfalso; omega
              · have hs4_ := m_scr_tr hs3_ g4_s
                have g4_l := p_num_le (σ.2 7) (p_eol (σ.2 7) (σ.1 0 7) (a)) (a + 2)
                have g4_v := p_num_v (σ.2 7) (p_eol (σ.2 7) (σ.1 0 7) (a)) (a + 2)
                refine v_if_eq (tgt := 73) C dM_isRecord_30 (by decide) (by omega) (fun hc28 => ?_) (fun hc28 => ?_)
                · refine v_iconst C dM_isRecord_73 ?_
                  exact v_zret C hRt hLk dM_isRecord_74 (fN_bool (by omega)) ⟨hs4_, Or.inr ⟨fun h9 => by first | exact g1_c h9.1 | exact g2_c h9.2.1 | exact g3_c h9.2.2.1 | exact g4_c h9.2.2.2.1 | exact nope h9.2.2.2.2.2.1 | exact nope h9.2.2.2.2.2.2.1 | exact nope h9.2.2.2.2.2.2.2.1 | (have k1 := h9.2.2.2.2.1; have k2 := h9.2.2.2.2.2.2.2.2.1; have k3 := h9.2.2.2.2.2.2.2.2.2.1; have k4 := h9.2.2.2.2.2.2.2.2.2.2; omega), rfl⟩⟩
                · exfalso; omega
          · have hs3_ := m_scr_tr hs2_ g3_s
            refine v_if_eq (tgt := 73) C dM_isRecord_23 (by decide) (by omega) (fun hc29 => ?_) (fun hc29 => ?_)
            · refine v_iconst C dM_isRecord_73 ?_
              exact v_zret C hRt hLk dM_isRecord_74 (fN_bool (by omega)) ⟨hs3_, Or.inr ⟨fun h9 => by first | exact g1_c h9.1 | exact g2_c h9.2.1 | exact g3_c h9.2.2.1 | exact nope h9.2.2.2.1 | exact nope h9.2.2.2.2.2.1 | exact nope h9.2.2.2.2.2.2.1 | exact nope h9.2.2.2.2.2.2.2.1 | (have k1 := h9.2.2.2.2.1; have k2 := h9.2.2.2.2.2.2.2.2.1; have k3 := h9.2.2.2.2.2.2.2.2.2.1; have k4 := h9.2.2.2.2.2.2.2.2.2.2; omega), rfl⟩⟩
            · exfalso; omega
      · have hs2_ := m_scr_tr hs1_ g2_s
        refine v_if_eq (tgt := 73) C dM_isRecord_14 (by decide) (by omega) (fun hc30 => ?_) (fun hc30 => ?_)
        · refine v_iconst C dM_isRecord_73 ?_
          exact v_zret C hRt hLk dM_isRecord_74 (fN_bool (by omega)) ⟨hs2_, Or.inr ⟨fun h9 => by first | exact g1_c h9.1 | exact g2_c h9.2.1 | exact nope h9.2.2.1 | exact nope h9.2.2.2.1 | exact nope h9.2.2.2.2.2.1 | exact nope h9.2.2.2.2.2.2.1 | exact nope h9.2.2.2.2.2.2.2.1 | (have k1 := h9.2.2.2.2.1; have k2 := h9.2.2.2.2.2.2.2.2.1; have k3 := h9.2.2.2.2.2.2.2.2.2.1; have k4 := h9.2.2.2.2.2.2.2.2.2.2; omega), rfl⟩⟩
        · exfalso; omega
  · have hs1_ := g1_s
    have g1_l := @p_eol_le (σ.2 7) (σ.1 0 7) (a)
    refine v_if_eq (tgt := 73) C dM_isRecord_5 (by decide) (by omega) (fun hc31 => ?_) (fun hc31 => ?_)
    · refine v_iconst C dM_isRecord_73 ?_
      exact v_zret C hRt hLk dM_isRecord_74 (fN_bool (by omega)) ⟨hs1_, Or.inr ⟨fun h9 => by first | exact g1_c h9.1 | exact nope h9.2.1 | exact nope h9.2.2.1 | exact nope h9.2.2.2.1 | exact nope h9.2.2.2.2.2.1 | exact nope h9.2.2.2.2.2.2.1 | exact nope h9.2.2.2.2.2.2.2.1 | (have k1 := h9.2.2.2.2.1; have k2 := h9.2.2.2.2.2.2.2.2.1; have k3 := h9.2.2.2.2.2.2.2.2.2.1; have k4 := h9.2.2.2.2.2.2.2.2.2.2; omega), rfl⟩⟩
    · exfalso; omega
end
section
/-- what is known of locals is known there too -/
def lvLe : List (Option Value) → List (Option Value) → Prop
  | [], _ => True
  | none :: a, _ :: b => lvLe a b
  | some v :: a, w :: b => w = some v ∧ lvLe a b
  | _ :: _, [] => False
theorem lvLe_at : ∀ (a b : List (Option Value)), lvLe a b → ∀ (i : Nat) (v : Value), a[i]? = some (some v) → b[i]? = some (some v)
  | [], _, _, i, v, h => by simp at h
  | none :: a, w :: b, h, i, v, hi => by
    cases i with
    | zero => simp at hi
    | succ i => simp at hi ⊢; exact lvLe_at a b h i v hi
  | some u :: a, w :: b, h, i, v, hi => by
    cases i with
    | zero =>
      simp at hi ⊢
      rw [h.1, hi]
    | succ i => simp at hi ⊢; exact lvLe_at a b h.2 i v hi
/-- fewer locals are known -/
theorem v_less {z : fZ} {G : fG} {nL : Nat} {Q : State → Prop} {kc ks : Nat} {σ : fS} {pc : Nat} {lv0 lv1 : List (Option Value)} {st : List Value} (h : lvLe lv0 lv1) (k : fv z G nL Q kc ks σ pc lv0 st) : fv z G nL Q kc ks σ pc lv1 st :=
  fun H locs ls hP hS hl => k H locs ls hP hS ⟨hl.1, hl.2.1, fun i v hi => hl.2.2.1 i v (lvLe_at _ _ h i v hi), fun i v hi => hl.2.2.2 i v (lvLe_at _ _ h i v hi)⟩
/-- where the j-th line behind p begins -/
def p_ln (f : Nat → Int) (z : Int) : Nat → Int → Int
  | 0, a => a
  | j + 1, a => p_eol f z (p_ln f z j a) + 1
/-- a row's place as a number -/
def p_rpv (f : Nat → Int) (z p : Int) : Int := if p_q f z p + 1 < p_eol f z p ∧ f (p_q f z p + 1).toNat = 45 then -1 else (p_num f (p_eol f z p) (p_q f z p + 1)).1
theorem p_rp_v {f : Nat → Int} {z p v : Int} (h : p_rp f z p v) : v = p_rpv f z p := by
  unfold p_rpv
  rcases h with ⟨h1, h2⟩ | ⟨h1, h2⟩
  · rw [if_pos (show p_q f z p + 1 < p_eol f z p ∧ f (p_q f z p + 1).toNat = 45 from h1)]; exact h2
  · rw [if_neg (show ¬ (p_q f z p + 1 < p_eol f z p ∧ f (p_q f z p + 1).toNat = 45) from h1)]; exact h2
theorem p_ln_0 (f : Nat → Int) (z : Int) : ∀ (j : Nat) (a : Int), 0 ≤ a → 0 ≤ p_ln f z j a := by
  intro j
  induction j with
  | zero => intro a h; exact h
  | succ j ih =>
    intro a h
    have h1 := ih a h
    have h2 := @p_eol_le f z (p_ln f z j a)
    show 0 ≤ p_eol f z (p_ln f z j a) + 1
    omega
theorem p_rpv_r (f : Nat → Int) (z p : Int) : -1 ≤ p_rpv f z p ∧ p_rpv f z p ≤ 99999 := by
  unfold p_rpv
  have h := p_num_v f (p_eol f z p) (p_q f z p + 1)
  split <;> omega
theorem p_rn_r (f : Nat → Int) (z p : Int) : 0 ≤ p_rn f z p ∧ p_rn f z p ≤ 99999 := p_num_v _ _ _
/-- the j-th row's record stands -/
def p_rok (f : Nat → Int) (z x a : Int) : Prop := p_rpv f z a = -1 ∨ p_rec f z (p_rpv f z a) (p_rn f z a) x
/-- the state but for what is used while a file is read: also the fault -/
def m_scf (σ σ1 : fS) : Prop := σ1.2 = σ.2 ∧ ∀ a b, ¬ (a = 0 ∧ (b = 20 ∨ b = 21 ∨ b = 22 ∨ b = 23 ∨ b = 26 ∨ b = 27)) → σ1.1 a b = σ.1 a b
theorem m_scf_of {σ σ1 : fS} (h : m_scr σ σ1) : m_scf σ σ1 := ⟨h.1, fun a b hab => h.2 a b (fun q => hab ⟨q.1, by omega⟩)⟩
theorem m_scf_tr {σ τ υ : fS} (h1 : m_scf σ τ) (h2 : m_scf τ υ) : m_scf σ υ := ⟨h2.1.trans h1.1, fun a b h => (h2.2 a b h).trans (h1.2 a b h)⟩
theorem m_scf_p {σ τ : fS} (h : m_scf σ τ) (v : Int) : m_scf σ (f_p1 τ 0 23 v) := by
  refine ⟨h.1, fun a b hab => ?_⟩
  rw [p1_1, if_neg (by
    intro h9
    exact hab ⟨h9.1, by omega⟩)]
  exact h.2 a b hab
set_option maxRecDepth 100000 in
set_option maxHeartbeats 4000000 in
/-- recordsStand(x, many) -/
theorem kM_recordsStand (l : Launch) (xCl : List vw_C) (D : va_G) (cA : Nat → ClassId) (ad : Nat → Nat) (hJ : f_J (mG xCl D cA ad)) (σ : fS) (x w : Int) (hx : 0 ≤ x ∧ x ≤ 11999) (hw : 0 ≤ w ∧ w ≤ 99999) (hz : 0 ≤ σ.1 0 7 ∧ σ.1 0 7 ≤ 12000) (h7 : ∀ i, -128 ≤ σ.2 7 i ∧ σ.2 7 i ≤ 127) (hx1 : p_eol (σ.2 7) (σ.1 0 7) x < σ.1 0 7) (hrows : ∀ j, j < w.toNat → p_row (σ.2 7) (σ.1 0 7) (p_ln (σ.2 7) (σ.1 0 7) j (p_eol (σ.2 7) (σ.1 0 7) x + 1)) ∧ p_rpv (σ.2 7) (σ.1 0 7) (p_ln (σ.2 7) (σ.1 0 7) j (p_eol (σ.2 7) (σ.1 0 7) x + 1)) < x) : f_M l (mG xCl D cA ad) mE yM_recordsStand (Cond.code yM_recordsStand cM_recordsStand 7 (some .boolean) :: A9) 2 σ [.ref (ad 0), .int (fI x), .int (fI w)] (f_QI (fun r σ1 => m_scf σ σ1 ∧ ((∃ j : Nat, j < w.toNat ∧ (∀ i, i < j → p_rok (σ.2 7) (σ.1 0 7) x (p_ln (σ.2 7) (σ.1 0 7) i (p_eol (σ.2 7) (σ.1 0 7) x + 1))) ∧ ¬ p_rok (σ.2 7) (σ.1 0 7) x (p_ln (σ.2 7) (σ.1 0 7) j (p_eol (σ.2 7) (σ.1 0 7) x + 1)) ∧ r = 0 ∧ σ1.1 0 23 = p_rpv (σ.2 7) (σ.1 0 7) (p_ln (σ.2 7) (σ.1 0 7) j (p_eol (σ.2 7) (σ.1 0 7) x + 1))) ∨ ((∀ i, i < w.toNat → p_rok (σ.2 7) (σ.1 0 7) x (p_ln (σ.2 7) (σ.1 0 7) i (p_eol (σ.2 7) (σ.1 0 7) x + 1))) ∧ r = 1))) (mG xCl D cA ad)) := by
  refine f_enter (by decide +kernel) hJ rfl (Nat.le_of_ble_eq_true rfl) ?_
  intro z hzl hR C hRt hLk hEz
  subst hzl
  have L : ∀ (m k : Nat) (S : fS), m + k = w.toNat → m_scr σ S → (∀ i, i < k → p_rok (σ.2 7) (σ.1 0 7) x (p_ln (σ.2 7) (σ.1 0 7) i (p_eol (σ.2 7) (σ.1 0 7) x + 1))) → fv z (mG xCl D cA ad) 7 (f_R z (mG xCl D cA ad) (f_QI (fun r σ1 => m_scf σ σ1 ∧ ((∃ j : Nat, j < w.toNat ∧ (∀ i, i < j → p_rok (σ.2 7) (σ.1 0 7) x (p_ln (σ.2 7) (σ.1 0 7) i (p_eol (σ.2 7) (σ.1 0 7) x + 1))) ∧ ¬ p_rok (σ.2 7) (σ.1 0 7) x (p_ln (σ.2 7) (σ.1 0 7) j (p_eol (σ.2 7) (σ.1 0 7) x + 1)) ∧ r = 0 ∧ σ1.1 0 23 = p_rpv (σ.2 7) (σ.1 0 7) (p_ln (σ.2 7) (σ.1 0 7) j (p_eol (σ.2 7) (σ.1 0 7) x + 1))) ∨ ((∀ i, i < w.toNat → p_rok (σ.2 7) (σ.1 0 7) x (p_ln (σ.2 7) (σ.1 0 7) i (p_eol (σ.2 7) (σ.1 0 7) x + 1))) ∧ r = 1))) (mG xCl D cA ad))) 0 0 S 16 [some (.ref (ad 0)), some (.int (fI x)), some (.int (fI w)), some (.int (fI (p_ln (σ.2 7) (σ.1 0 7) k (p_eol (σ.2 7) (σ.1 0 7) x + 1)))), some (.int (fI (k : Int))), none, none] [] := by
    intro m
    induction m with
    | zero =>
      intro k S hk hs hall
      refine v_iload C dM_recordsStand_16 rfl ?_
      refine v_iload_n C dM_recordsStand_18 rfl rfl ?_
      refine v_icmp_ge (tgt := 80) C dM_recordsStand_19 (by decide) (by omega) (by omega) (fun hc1 => ?_) (fun hc1 => ?_)
      · refine v_iconst C dM_recordsStand_80 ?_
        exact v_zret C hRt hLk dM_recordsStand_81 (fN_bool (by omega)) ⟨m_scf_of hs, Or.inr ⟨fun i hi => hall i (by omega), rfl⟩⟩
      · exfalso; omega
    | succ m ih =>
      intro k S hk hs hall
      have hrow := hrows k (by omega)
      have hlk := @p_eol_le (σ.2 7) (σ.1 0 7) (p_ln (σ.2 7) (σ.1 0 7) k (p_eol (σ.2 7) (σ.1 0 7) x + 1))
      have hlt := hrow.1.1
      have hx0 := @p_eol_le (σ.2 7) (σ.1 0 7) x
      have hl0 := p_ln_0 (σ.2 7) (σ.1 0 7) k (p_eol (σ.2 7) (σ.1 0 7) x + 1) (by omega)
      refine v_iload C dM_recordsStand_16 rfl ?_
      refine v_iload_n C dM_recordsStand_18 rfl rfl ?_
      refine v_icmp_ge (tgt := 80) C dM_recordsStand_19 (by decide) (by omega) (by omega) (fun hc2 => ?_) (fun hc2 => ?_)
      · exfalso; omega
      · refine v_aload_n C dM_recordsStand_22 rfl rfl ?_
        refine v_iload_n C dM_recordsStand_23 rfl rfl ?_
        have hz3 : 0 ≤ S.1 0 7 ∧ S.1 0 7 ≤ 12000 := by rw [m_scr_z hs]; exact hz
        have hb4 : ∀ i, -128 ≤ S.2 7 i ∧ S.2 7 i ≤ 127 := fun i => by rw [m_scr_a hs]; exact h7 i
        refine v_cVI (k := 0) (n := 1) C (mE_ok _) trivial hR (kM_isRow _ xCl D cA ad hJ S (p_ln (σ.2 7) (σ.1 0 7) k (p_eol (σ.2 7) (σ.1 0 7) x + 1)) (by omega) hz3 hb4) dM_recordsStand_24 (by show (0 : Nat) < 18; decide) rfl rfl gM_172 (by decide +kernel) (by decide) (by decide) rfl (Nat.le_of_ble_eq_true rfl) rfl ⟨rfl, rfl⟩ (fun r1 τ1 hp1 => ?_)
        simp only [hs.1, m_scr_z hs] at hp1
        obtain ⟨g1_s, g1_20, ⟨g1_c, rfl, g1_26, g1_w⟩ | ⟨g1_c, rfl⟩⟩ := hp1
        · have hs1_ := m_scr_tr hs g1_s
          have g1_27 := p_rp_v g1_w
          have g1_r1 := p_rn_r (σ.2 7) (σ.1 0 7) (p_ln (σ.2 7) (σ.1 0 7) k (p_eol (σ.2 7) (σ.1 0 7) x + 1))
          have g1_r2 := p_rpv_r (σ.2 7) (σ.1 0 7) (p_ln (σ.2 7) (σ.1 0 7) k (p_eol (σ.2 7) (σ.1 0 7) x + 1))
          have g1_l := @p_eol_le (σ.2 7) (σ.1 0 7) (p_ln (σ.2 7) (σ.1 0 7) k (p_eol (σ.2 7) (σ.1 0 7) x + 1))
          refine v_istore C dM_recordsStand_27 (by decide) ?_
          refine v_aload_n C dM_recordsStand_29 rfl rfl ?_
          refine v_getI (k := 0) (q := 27) (v := p_rpv (σ.2 7) (σ.1 0 7) (p_ln (σ.2 7) (σ.1 0 7) k (p_eol (σ.2 7) (σ.1 0 7) x + 1))) C dM_recordsStand_30 (by show (0 : Nat) < 18; decide) rfl rfl (by decide) rfl inM lM_163 rfl g1_27 ?_
          refine v_istore C dM_recordsStand_33 (by decide) ?_
          refine v_aload_n C dM_recordsStand_35 rfl rfl ?_
          refine v_getI (k := 0) (q := 20) (v := p_eol (σ.2 7) (σ.1 0 7) (p_ln (σ.2 7) (σ.1 0 7) k (p_eol (σ.2 7) (σ.1 0 7) x + 1))) C dM_recordsStand_36 (by show (0 : Nat) < 18; decide) rfl rfl (by decide) rfl inM lM_144 rfl g1_20 ?_
          refine v_iconst C dM_recordsStand_39 ?_
          refine v_iadd C dM_recordsStand_40 ?_
          refine v_istore_n C dM_recordsStand_41 rfl (by decide) ?_
          refine v_iload C dM_recordsStand_42 rfl ?_
          refine v_if_eq (tgt := 74) C dM_recordsStand_44 (by decide) (by omega) (fun hc5 => ?_) (fun hc5 => ?_)
          · exfalso; omega
          · refine v_iload C dM_recordsStand_47 rfl ?_
            refine v_iconst C dM_recordsStand_49 ?_
            refine v_icmp_eq (tgt := 74) C dM_recordsStand_50 (by decide) (by omega) (by omega) (fun hc6 => ?_) (fun hc6 => ?_)
            · refine v_iinc C dM_recordsStand_74 rfl (by decide) ?_
              refine v_goto (tgt := 16) C dM_recordsStand_77 (by decide) ?_
              exact v_less (by exact ⟨rfl, rfl, rfl, rfl, rfl, trivial⟩) (ih (k + 1) τ1 (by omega) hs1_ (fun i hi => (Nat.lt_succ_iff_lt_or_eq.mp hi).elim (fun h => hall i h) (fun h => by rw [h]; first | exact Or.inl (by omega) | exact Or.inr nope)))
            · refine v_aload_n C dM_recordsStand_53 rfl rfl ?_
              refine v_iload C dM_recordsStand_54 rfl ?_
              refine v_aload_n C dM_recordsStand_56 rfl rfl ?_
              refine v_getI (k := 0) (q := 26) (v := p_rn (σ.2 7) (σ.1 0 7) (p_ln (σ.2 7) (σ.1 0 7) k (p_eol (σ.2 7) (σ.1 0 7) x + 1))) C dM_recordsStand_57 (by show (0 : Nat) < 18; decide) rfl rfl (by decide) rfl inM lM_113 rfl g1_26 ?_
              refine v_iload_n C dM_recordsStand_60 rfl rfl ?_
              have hz7 : 0 ≤ τ1.1 0 7 ∧ τ1.1 0 7 ≤ 12000 := by rw [m_scr_z hs1_]; exact hz
              have hb8 : ∀ i, -128 ≤ τ1.2 7 i ∧ τ1.2 7 i ≤ 127 := fun i => by rw [m_scr_a hs1_]; exact h7 i
              refine v_cVI (k := 0) (n := 3) C (mE_ok _) trivial hR (kM_isRecord _ xCl D cA ad hJ τ1 (p_rpv (σ.2 7) (σ.1 0 7) (p_ln (σ.2 7) (σ.1 0 7) k (p_eol (σ.2 7) (σ.1 0 7) x + 1))) (p_rn (σ.2 7) (σ.1 0 7) (p_ln (σ.2 7) (σ.1 0 7) k (p_eol (σ.2 7) (σ.1 0 7) x + 1))) (x) (by omega) (by omega) (by omega) (by omega) hz7 hb8) dM_recordsStand_61 (by show (0 : Nat) < 18; decide) rfl rfl gM_181 (by decide +kernel) (by decide) (by decide) rfl (Nat.le_of_ble_eq_true rfl) rfl ⟨rfl, rfl⟩ (fun r2 τ2 hp2 => ?_)
              simp only [hs1_.1, m_scr_z hs1_, g1_20, g1_26, g1_27] at hp2
              obtain ⟨g2_s, ⟨g2_c, rfl, g2_26, g2_27⟩ | ⟨g2_c, rfl⟩⟩ := hp2
              · have hs2_ := m_scr_tr hs1_ g2_s
                refine v_if_ne (tgt := 74) C dM_recordsStand_64 (by decide) (by omega) (fun hc9 => ?_) (fun hc9 => ?_)
                · refine v_iinc C dM_recordsStand_74 rfl (by decide) ?_
                  refine v_goto (tgt := 16) C dM_recordsStand_77 (by decide) ?_
                  exact v_less (by exact ⟨rfl, rfl, rfl, rfl, rfl, trivial⟩) (ih (k + 1) τ2 (by omega) hs2_ (fun i hi => (Nat.lt_succ_iff_lt_or_eq.mp hi).elim (fun h => hall i h) (fun h => by rw [h]; first | exact Or.inl (by omega) | exact Or.inr g2_c)))
                · exfalso; omega
              · have hs2_ := m_scr_tr hs1_ g2_s
                refine v_if_ne (tgt := 74) C dM_recordsStand_64 (by decide) (by omega) (fun hc10 => ?_) (fun hc10 => ?_)
                · exfalso; omega
                · refine v_aload_n C dM_recordsStand_67 rfl rfl ?_
                  refine v_iload C dM_recordsStand_68 rfl ?_
                  refine v_cVI (k := 0) (n := 1) C (mE_ok _) trivial hR (kM_wrong _ xCl D cA ad hJ τ2 (p_rpv (σ.2 7) (σ.1 0 7) (p_ln (σ.2 7) (σ.1 0 7) k (p_eol (σ.2 7) (σ.1 0 7) x + 1)))) dM_recordsStand_70 (by show (0 : Nat) < 18; decide) rfl rfl gM_185 (by decide +kernel) (by decide) (by decide) rfl (Nat.le_of_ble_eq_true rfl) rfl ⟨rfl, rfl⟩ (fun r3 τ3 hp3 => ?_)
                  obtain ⟨rfl, hw3⟩ := hp3
                  subst τ3
                  · exact v_zret C hRt hLk dM_recordsStand_73 (fN_bool (by omega)) ⟨m_scf_p (m_scf_of hs2_) _, Or.inl ⟨k, by omega, hall, fun h9 => h9.elim (fun h => absurd h (by omega)) g2_c, rfl, rfl⟩⟩
        · have hs1_ := m_scr_tr hs g1_s
          exact absurd hrow.1 g1_c
  refine v_aload_n C dM_recordsStand_0 rfl rfl ?_
  refine v_iload_n C dM_recordsStand_1 rfl rfl ?_
  refine v_cVI (k := 0) (n := 1) C (mE_ok _) trivial hR (kM_line2 _ xCl D cA ad hJ σ (x) (by omega) hz h7) dM_recordsStand_2 (by show (0 : Nat) < 18; decide) rfl rfl gM_150 (by decide +kernel) (by decide) (by decide) rfl (Nat.le_of_ble_eq_true rfl) rfl ⟨rfl, rfl⟩ (fun r4 τ4 hp4 => ?_)
  obtain ⟨g4_s, g4_21, g4_20, g4_22, g4_26, g4_27, ⟨g4_c, rfl⟩ | ⟨g4_c, rfl⟩⟩ := hp4
  · have hs4_ := g4_s
    have g4_l := @p_eol_le (σ.2 7) (σ.1 0 7) (x)
    refine v_pop C dM_recordsStand_5 rfl ?_
    refine v_aload_n C dM_recordsStand_6 rfl rfl ?_
    refine v_getI (k := 0) (q := 20) (v := p_eol (σ.2 7) (σ.1 0 7) (x)) C dM_recordsStand_7 (by show (0 : Nat) < 18; decide) rfl rfl (by decide) rfl inM lM_144 rfl g4_20 ?_
    refine v_iconst C dM_recordsStand_10 ?_
    refine v_iadd C dM_recordsStand_11 ?_
    refine v_istore_n C dM_recordsStand_12 rfl (by decide) ?_
    refine v_iconst C dM_recordsStand_13 ?_
    refine v_istore C dM_recordsStand_14 (by decide) ?_
    exact v_less (by exact ⟨rfl, rfl, rfl, rfl, rfl, trivial⟩) (L w.toNat 0 τ4 (by omega) hs4_ (fun i hi => absurd hi (Nat.not_lt_zero i)))
  · have hs4_ := g4_s
    have g4_l := @p_eol_le (σ.2 7) (σ.1 0 7) (x)
    refine v_pop C dM_recordsStand_5 rfl ?_
    refine v_aload_n C dM_recordsStand_6 rfl rfl ?_
    refine v_getI (k := 0) (q := 20) (v := p_eol (σ.2 7) (σ.1 0 7) (x)) C dM_recordsStand_7 (by show (0 : Nat) < 18; decide) rfl rfl (by decide) rfl inM lM_144 rfl g4_20 ?_
    refine v_iconst C dM_recordsStand_10 ?_
    refine v_iadd C dM_recordsStand_11 ?_
    refine v_istore_n C dM_recordsStand_12 rfl (by decide) ?_
    refine v_iconst C dM_recordsStand_13 ?_
    refine v_istore C dM_recordsStand_14 (by decide) ?_
    exact v_less (by exact ⟨rfl, rfl, rfl, rfl, rfl, trivial⟩) (L w.toNat 0 τ4 (by omega) hs4_ (fun i hi => absurd hi (Nat.not_lt_zero i)))
end
section
/-- a PART at x: its rows, its end, its records -/
def p_at (f : Nat → Int) (z x : Int) (j : Nat) : Int := p_ln f z j (p_eol f z x + 1)
def p_many (f : Nat → Int) (z x : Int) : Nat := (p_tv f z x).toNat
def p_lastn (f : Nat → Int) (z x : Int) : Nat → Int
  | 0 => 0
  | j + 1 => p_rn f z (p_at f z x j)
def p_good (f : Nat → Int) (z x : Int) (j : Nat) : Prop := p_row f z (p_at f z x j) ∧ (1 ≤ p_rn f z (p_at f z x j) ∧ p_rn f z (p_at f z x j) ≤ 40) ∧ p_lastn f z x j < p_rn f z (p_at f z x j) ∧ p_rpv f z (p_at f z x j) < x
def p_pl (f : Nat → Int) (z x : Int) : Int := p_at f z x (p_many f z x)
def p_pok (f : Nat → Int) (z x pt : Int) : Prop := p_tell f z (p_pl f z x) 112 ∧ p_tv f z (p_pl f z x) < x ∧ ¬ (0 < p_tv f z (p_pl f z x) ∧ pt = 60)
def p_el (f : Nat → Int) (z x : Int) : Int := p_eol f z (p_pl f z x) + 1
def p_eok (f : Nat → Int) (z x : Int) : Prop := p_tell f z (p_el f z x) 101 ∧ p_tv f z (p_el f z x) = x
def p_end (f : Nat → Int) (z x : Int) : Int := p_eol f z (p_el f z x) + 1
def p_look (f : Nat → Int) (z x pt r fl : Int) : Prop :=
  (¬ p_tell f z x 120 ∧ r = -1 ∧ fl = x) ∨ (p_tell f z x 120 ∧
  ((∃ j, j < p_many f z x ∧ (∀ i, i < j → p_good f z x i) ∧ ¬ p_good f z x j ∧ r = -1 ∧ fl = p_at f z x j) ∨ ((∀ i, i < p_many f z x → p_good f z x i) ∧
  ((¬ p_pok f z x pt ∧ r = -1 ∧ fl = p_pl f z x) ∨ (p_pok f z x pt ∧
  ((¬ p_eok f z x ∧ r = -1 ∧ fl = p_el f z x) ∨ (p_eok f z x ∧
  ((pt = 1 ∧ p_end f z x ≠ z ∧ r = -1 ∧ fl = p_end f z x) ∨ (¬ (pt = 1 ∧ p_end f z x ≠ z) ∧
  ((∃ j, j < p_many f z x ∧ (∀ i, i < j → p_rok f z x (p_at f z x i)) ∧ ¬ p_rok f z x (p_at f z x j) ∧ r = -1 ∧ fl = p_rpv f z (p_at f z x j)) ∨
   ((∀ i, i < p_many f z x → p_rok f z x (p_at f z x i)) ∧ r = p_tv f z (p_pl f z x))))))))))))
theorem p_at_s (f : Nat → Int) (z x : Int) (j : Nat) : p_at f z x (j + 1) = p_eol f z (p_at f z x j) + 1 := rfl
set_option maxRecDepth 100000 in
set_option maxHeartbeats 4000000 in
/-- lookAt(x) -/
theorem kM_lookAt (l : Launch) (xCl : List vw_C) (D : va_G) (cA : Nat → ClassId) (ad : Nat → Nat) (hJ : f_J (mG xCl D cA ad)) (σ : fS) (x : Int) (hx : 0 ≤ x ∧ x ≤ 11999) (hz : 0 ≤ σ.1 0 7 ∧ σ.1 0 7 ≤ 12000) (hpt : 0 ≤ σ.1 0 24 ∧ σ.1 0 24 ≤ 60) (h7 : ∀ i, -128 ≤ σ.2 7 i ∧ σ.2 7 i ≤ 127) : f_M l (mG xCl D cA ad) mE yM_lookAt (Cond.code yM_lookAt cM_lookAt 6 (some .int) :: A9) 3 σ [.ref (ad 0), .int (fI x)] (f_QI (fun r σ1 => m_scf σ σ1 ∧ p_look (σ.2 7) (σ.1 0 7) x (σ.1 0 24) r (σ1.1 0 23)) (mG xCl D cA ad)) := by
  refine f_enter (by decide +kernel) hJ rfl (Nat.le_of_ble_eq_true rfl) ?_
  intro z hzl hR C hRt hLk hEz
  subst hzl
  have hmany : 0 ≤ p_tv (σ.2 7) (σ.1 0 7) x ∧ p_tv (σ.2 7) (σ.1 0 7) x ≤ 99999 := p_num_v _ _ _
  have L : p_tell (σ.2 7) (σ.1 0 7) x 120 → ∀ (m k : Nat) (S : fS), m + k = p_many (σ.2 7) (σ.1 0 7) x → m_scr σ S → (∀ i, i < k → p_good (σ.2 7) (σ.1 0 7) x i) → 0 ≤ p_at (σ.2 7) (σ.1 0 7) x k → p_at (σ.2 7) (σ.1 0 7) x k ≤ σ.1 0 7 → 0 ≤ p_lastn (σ.2 7) (σ.1 0 7) x k ∧ p_lastn (σ.2 7) (σ.1 0 7) x k ≤ 40 → fv z (mG xCl D cA ad) 6 (f_R z (mG xCl D cA ad) (f_QI (fun r σ1 => m_scf σ σ1 ∧ p_look (σ.2 7) (σ.1 0 7) x (σ.1 0 24) r (σ1.1 0 23)) (mG xCl D cA ad))) 0 0 S 35 [some (.ref (ad 0)), some (.int (fI x)), some (.int (fI (p_tv (σ.2 7) (σ.1 0 7) x))), some (.int (fI (p_at (σ.2 7) (σ.1 0 7) x k))), some (.int (fI (p_lastn (σ.2 7) (σ.1 0 7) x k))), some (.int (fI (k : Int)))] [] := by
    intro gt_c m
    induction m with
    | zero =>
      intro k S hk hs hall ha0 ha1 hla
      have hmn : (p_many (σ.2 7) (σ.1 0 7) x : Int) = p_tv (σ.2 7) (σ.1 0 7) x := by unfold p_many; omega
      have hkm : k = p_many (σ.2 7) (σ.1 0 7) x := by omega
      have hpl : p_at (σ.2 7) (σ.1 0 7) x k = p_pl (σ.2 7) (σ.1 0 7) x := by rw [hkm]; rfl
      rw [hkm] at hall
      rw [hpl] at ha0 ha1 ⊢
      refine v_iload C dM_lookAt_35 rfl ?_
      refine v_iload_n C dM_lookAt_37 rfl rfl ?_
      refine v_icmp_ge (tgt := 102) C dM_lookAt_38 (by decide) (by omega) (by omega) (fun hc1 => ?_) (fun hc1 => ?_)
      · refine v_aload_n C dM_lookAt_102 rfl rfl ?_
        refine v_iload_n C dM_lookAt_103 rfl rfl ?_
        refine v_bipush C dM_lookAt_104 (by decide +kernel) ?_
        have hz2 : 0 ≤ S.1 0 7 ∧ S.1 0 7 ≤ 12000 := by rw [m_scr_z hs]; exact hz
        have hb3 : ∀ i, -128 ≤ S.2 7 i ∧ S.2 7 i ≤ 127 := fun i => by rw [m_scr_a hs]; exact h7 i
        refine v_cVI (k := 0) (n := 2) C (mE_ok _) trivial hR (kM_tells _ xCl D cA ad hJ S ((p_pl (σ.2 7) (σ.1 0 7) x)) (112) (by omega) (by omega) hz2 hb3) dM_lookAt_106 (by show (0 : Nat) < 18; decide) rfl rfl gM_169 (by decide +kernel) (by decide) (by decide) rfl (Nat.le_of_ble_eq_true rfl) rfl ⟨rfl, rfl⟩ (fun r1 τ1 hp1 => ?_)
        simp only [hs.1, m_scr_z hs] at hp1
        obtain ⟨g1_s, g1_x, g1_y, ⟨g1_c, rfl, g1_20, g1_22⟩ | ⟨g1_c, rfl⟩⟩ := hp1
        · have hs1_ := m_scr_tr hs g1_s
          have g1_e := g1_c.1
          have g1_l := @p_eol_le (σ.2 7) (σ.1 0 7) ((p_pl (σ.2 7) (σ.1 0 7) x))
          have g1_v := p_num_v (σ.2 7) (p_eol (σ.2 7) (σ.1 0 7) ((p_pl (σ.2 7) (σ.1 0 7) x))) ((p_pl (σ.2 7) (σ.1 0 7) x) + 2)
          change 0 ≤ p_tv (σ.2 7) (σ.1 0 7) ((p_pl (σ.2 7) (σ.1 0 7) x)) ∧ p_tv (σ.2 7) (σ.1 0 7) ((p_pl (σ.2 7) (σ.1 0 7) x)) ≤ 99999 at g1_v
          refine v_if_eq (tgt := 136) C dM_lookAt_109 (by decide) (by omega) (fun hc4 => ?_) (fun hc4 => ?_)
          · exfalso; omega
          · refine v_aload_n C dM_lookAt_112 rfl rfl ?_
            refine v_getI (k := 0) (q := 22) (v := p_tv (σ.2 7) (σ.1 0 7) ((p_pl (σ.2 7) (σ.1 0 7) x))) C dM_lookAt_113 (by show (0 : Nat) < 18; decide) rfl rfl (by decide) rfl inM lM_147 rfl g1_22 ?_
            refine v_iload_n C dM_lookAt_116 rfl rfl ?_
            refine v_icmp_ge (tgt := 136) C dM_lookAt_117 (by decide) (by omega) (by omega) (fun hc5 => ?_) (fun hc5 => ?_)
            · refine v_aload_n C dM_lookAt_136 rfl rfl ?_
              refine v_iload_n C dM_lookAt_137 rfl rfl ?_
              refine v_putI (k := 0) (q := 23) C dM_lookAt_138 (by show (0 : Nat) < 18; decide) rfl rfl (by decide) rfl inM tyM_ok nmM lM_166 rfl rfl rfl rfl rfl ?_
              refine v_iconst C dM_lookAt_141 ?_
              exact v_iret C hRt hLk dM_lookAt_142 ⟨m_scf_p (m_scf_of hs1_) _, Or.inr ⟨gt_c, Or.inr ⟨hall, Or.inl ⟨fun h9 => by first | exact g1_c h9.1 | (have h91 := h9.2.1; have h92 := h9.2.2; omega), rfl, rfl⟩⟩⟩⟩
            · refine v_aload_n C dM_lookAt_120 rfl rfl ?_
              refine v_getI (k := 0) (q := 22) (v := p_tv (σ.2 7) (σ.1 0 7) ((p_pl (σ.2 7) (σ.1 0 7) x))) C dM_lookAt_121 (by show (0 : Nat) < 18; decide) rfl rfl (by decide) rfl inM lM_147 rfl g1_22 ?_
              refine v_if_le (tgt := 143) C dM_lookAt_124 (by decide) (by omega) (fun hc6 => ?_) (fun hc6 => ?_)
              · refine v_aload_n C dM_lookAt_143 rfl rfl ?_
                refine v_getI (k := 0) (q := 22) (v := p_tv (σ.2 7) (σ.1 0 7) ((p_pl (σ.2 7) (σ.1 0 7) x))) C dM_lookAt_144 (by show (0 : Nat) < 18; decide) rfl rfl (by decide) rfl inM lM_147 rfl g1_22 ?_
                refine v_istore C dM_lookAt_147 (by decide) ?_
                refine v_aload_n C dM_lookAt_149 rfl rfl ?_
                refine v_getI (k := 0) (q := 20) (v := p_eol (σ.2 7) (σ.1 0 7) ((p_pl (σ.2 7) (σ.1 0 7) x))) C dM_lookAt_150 (by show (0 : Nat) < 18; decide) rfl rfl (by decide) rfl inM lM_144 rfl g1_20 ?_
                refine v_iconst C dM_lookAt_153 ?_
                refine v_iadd C dM_lookAt_154 ?_
                refine v_istore_n C dM_lookAt_155 rfl (by decide) ?_
                refine v_aload_n C dM_lookAt_156 rfl rfl ?_
                refine v_iload_n C dM_lookAt_157 rfl rfl ?_
                refine v_bipush C dM_lookAt_158 (by decide +kernel) ?_
                have hz7 : 0 ≤ τ1.1 0 7 ∧ τ1.1 0 7 ≤ 12000 := by rw [m_scr_z hs1_]; exact hz
                have hb8 : ∀ i, -128 ≤ τ1.2 7 i ∧ τ1.2 7 i ≤ 127 := fun i => by rw [m_scr_a hs1_]; exact h7 i
                refine v_cVI (k := 0) (n := 2) C (mE_ok _) trivial hR (kM_tells _ xCl D cA ad hJ τ1 ((p_eol (σ.2 7) (σ.1 0 7) ((p_pl (σ.2 7) (σ.1 0 7) x)) + 1)) (101) (by omega) (by omega) hz7 hb8) dM_lookAt_160 (by show (0 : Nat) < 18; decide) rfl rfl gM_169 (by decide +kernel) (by decide) (by decide) rfl (Nat.le_of_ble_eq_true rfl) rfl ⟨rfl, rfl⟩ (fun r2 τ2 hp2 => ?_)
                simp only [hs1_.1, m_scr_z hs1_, g1_20, g1_22] at hp2
                obtain ⟨g2_s, g2_x, g2_y, ⟨g2_c, rfl, g2_20, g2_22⟩ | ⟨g2_c, rfl⟩⟩ := hp2
                · have hs2_ := m_scr_tr hs1_ g2_s
                  have g2_e := g2_c.1
                  have g2_l := @p_eol_le (σ.2 7) (σ.1 0 7) ((p_eol (σ.2 7) (σ.1 0 7) ((p_pl (σ.2 7) (σ.1 0 7) x)) + 1))
                  have g2_v := p_num_v (σ.2 7) (p_eol (σ.2 7) (σ.1 0 7) ((p_eol (σ.2 7) (σ.1 0 7) ((p_pl (σ.2 7) (σ.1 0 7) x)) + 1))) ((p_eol (σ.2 7) (σ.1 0 7) ((p_pl (σ.2 7) (σ.1 0 7) x)) + 1) + 2)
                  change 0 ≤ p_tv (σ.2 7) (σ.1 0 7) ((p_eol (σ.2 7) (σ.1 0 7) ((p_pl (σ.2 7) (σ.1 0 7) x)) + 1)) ∧ p_tv (σ.2 7) (σ.1 0 7) ((p_eol (σ.2 7) (σ.1 0 7) ((p_pl (σ.2 7) (σ.1 0 7) x)) + 1)) ≤ 99999 at g2_v
                  refine v_if_eq (tgt := 174) C dM_lookAt_163 (by decide) (by omega) (fun hc9 => ?_) (fun hc9 => ?_)
                  · exfalso; omega
                  · refine v_aload_n C dM_lookAt_166 rfl rfl ?_
                    refine v_getI (k := 0) (q := 22) (v := p_tv (σ.2 7) (σ.1 0 7) ((p_eol (σ.2 7) (σ.1 0 7) ((p_pl (σ.2 7) (σ.1 0 7) x)) + 1))) C dM_lookAt_167 (by show (0 : Nat) < 18; decide) rfl rfl (by decide) rfl inM lM_147 rfl g2_22 ?_
                    refine v_iload_n C dM_lookAt_170 rfl rfl ?_
                    refine v_icmp_eq (tgt := 181) C dM_lookAt_171 (by decide) (by omega) (by omega) (fun hc10 => ?_) (fun hc10 => ?_)
                    · refine v_aload_n C dM_lookAt_181 rfl rfl ?_
                      refine v_getI (k := 0) (q := 24) (v := σ.1 0 24) C dM_lookAt_182 (by show (0 : Nat) < 18; decide) rfl rfl (by decide) rfl inM lM_175 rfl (hs2_.2 0 24 (by decide)) ?_
                      refine v_iconst C dM_lookAt_185 ?_
                      refine v_icmp_ne (tgt := 214) C dM_lookAt_186 (by decide) (by omega) (by omega) (fun hc11 => ?_) (fun hc11 => ?_)
                      · refine v_aload_n C dM_lookAt_214 rfl rfl ?_
                        refine v_iload_n C dM_lookAt_215 rfl rfl ?_
                        refine v_iload_n C dM_lookAt_216 rfl rfl ?_
                        have hz12 : 0 ≤ τ2.1 0 7 ∧ τ2.1 0 7 ≤ 12000 := by rw [m_scr_z hs2_]; exact hz
                        have hb13 : ∀ i, -128 ≤ τ2.2 7 i ∧ τ2.2 7 i ≤ 127 := fun i => by rw [m_scr_a hs2_]; exact h7 i
                        refine v_cVI (k := 0) (n := 2) C (mE_ok _) trivial hR (kM_recordsStand _ xCl D cA ad hJ τ2 x ((p_tv (σ.2 7) (σ.1 0 7) x)) (by omega) (by omega) hz12 hb13 (by rw [hs2_.1, m_scr_z hs2_]; exact gt_c.1) (by rw [hs2_.1, m_scr_z hs2_]; exact fun j hj => ⟨(hall j (by unfold p_many; omega)).1, (hall j (by unfold p_many; omega)).2.2.2⟩)) dM_lookAt_217 (by show (0 : Nat) < 18; decide) rfl rfl gM_178 (by decide +kernel) (by decide) (by decide) rfl (Nat.le_of_ble_eq_true rfl) rfl ⟨rfl, rfl⟩ (fun r3 τ3 hp3 => ?_)
                        simp only [hs2_.1, m_scr_z hs2_] at hp3
                        obtain ⟨g3_s, ⟨g3_j, g3_1, g3_2, g3_3, rfl, g3_4⟩ | ⟨g3_1, rfl⟩⟩ := hp3
                        · refine v_if_eq (tgt := 228) C dM_lookAt_220 (by decide) (by omega) (fun hc14 => ?_) (fun hc14 => ?_)
                          · refine v_iconst C dM_lookAt_228 ?_
                            exact v_iret C hRt hLk dM_lookAt_229 ⟨m_scf_tr (m_scf_of hs2_) g3_s, Or.inr ⟨gt_c, Or.inr ⟨hall, Or.inr ⟨⟨g1_c, by omega, by omega⟩, Or.inr ⟨⟨g2_c, by unfold p_el at *; omega⟩, Or.inr ⟨by unfold p_end p_el at *; omega, Or.inl ⟨g3_j, by unfold p_many; omega, g3_2, g3_3, rfl, g3_4⟩⟩⟩⟩⟩⟩⟩
                          · exfalso; omega
                        · refine v_if_eq (tgt := 228) C dM_lookAt_220 (by decide) (by omega) (fun hc15 => ?_) (fun hc15 => ?_)
                          · exfalso; omega
                          · refine v_iload C dM_lookAt_223 rfl ?_
                            refine v_goto (tgt := 229) C dM_lookAt_225 (by decide) ?_
                            exact v_iret C hRt hLk dM_lookAt_229 ⟨m_scf_tr (m_scf_of hs2_) g3_s, Or.inr ⟨gt_c, Or.inr ⟨hall, Or.inr ⟨⟨g1_c, by omega, by omega⟩, Or.inr ⟨⟨g2_c, by unfold p_el at *; omega⟩, Or.inr ⟨by unfold p_end p_el at *; omega, Or.inr ⟨fun i hi => g3_1 i (by unfold p_many at hi; omega), rfl⟩⟩⟩⟩⟩⟩⟩
                      · refine v_aload_n C dM_lookAt_189 rfl rfl ?_
                        refine v_getI (k := 0) (q := 20) (v := p_eol (σ.2 7) (σ.1 0 7) ((p_eol (σ.2 7) (σ.1 0 7) ((p_pl (σ.2 7) (σ.1 0 7) x)) + 1))) C dM_lookAt_190 (by show (0 : Nat) < 18; decide) rfl rfl (by decide) rfl inM lM_144 rfl g2_20 ?_
                        refine v_iconst C dM_lookAt_193 ?_
                        refine v_iadd C dM_lookAt_194 ?_
                        refine v_aload_n C dM_lookAt_195 rfl rfl ?_
                        refine v_getI (k := 0) (q := 7) (v := σ.1 0 7) C dM_lookAt_196 (by show (0 : Nat) < 18; decide) rfl rfl (by decide) rfl inM lM_116 rfl (hs2_.2 0 7 (by decide)) ?_
                        refine v_icmp_eq (tgt := 214) C dM_lookAt_199 (by decide) (by omega) (by omega) (fun hc16 => ?_) (fun hc16 => ?_)
                        · refine v_aload_n C dM_lookAt_214 rfl rfl ?_
                          refine v_iload_n C dM_lookAt_215 rfl rfl ?_
                          refine v_iload_n C dM_lookAt_216 rfl rfl ?_
                          have hz17 : 0 ≤ τ2.1 0 7 ∧ τ2.1 0 7 ≤ 12000 := by rw [m_scr_z hs2_]; exact hz
                          have hb18 : ∀ i, -128 ≤ τ2.2 7 i ∧ τ2.2 7 i ≤ 127 := fun i => by rw [m_scr_a hs2_]; exact h7 i
                          refine v_cVI (k := 0) (n := 2) C (mE_ok _) trivial hR (kM_recordsStand _ xCl D cA ad hJ τ2 x ((p_tv (σ.2 7) (σ.1 0 7) x)) (by omega) (by omega) hz17 hb18 (by rw [hs2_.1, m_scr_z hs2_]; exact gt_c.1) (by rw [hs2_.1, m_scr_z hs2_]; exact fun j hj => ⟨(hall j (by unfold p_many; omega)).1, (hall j (by unfold p_many; omega)).2.2.2⟩)) dM_lookAt_217 (by show (0 : Nat) < 18; decide) rfl rfl gM_178 (by decide +kernel) (by decide) (by decide) rfl (Nat.le_of_ble_eq_true rfl) rfl ⟨rfl, rfl⟩ (fun r4 τ4 hp4 => ?_)
                          simp only [hs2_.1, m_scr_z hs2_] at hp4
                          obtain ⟨g4_s, ⟨g4_j, g4_1, g4_2, g4_3, rfl, g4_4⟩ | ⟨g4_1, rfl⟩⟩ := hp4
                          · refine v_if_eq (tgt := 228) C dM_lookAt_220 (by decide) (by omega) (fun hc19 => ?_) (fun hc19 => ?_)
                            · refine v_iconst C dM_lookAt_228 ?_
                              exact v_iret C hRt hLk dM_lookAt_229 ⟨m_scf_tr (m_scf_of hs2_) g4_s, Or.inr ⟨gt_c, Or.inr ⟨hall, Or.inr ⟨⟨g1_c, by omega, by omega⟩, Or.inr ⟨⟨g2_c, by unfold p_el at *; omega⟩, Or.inr ⟨by unfold p_end p_el at *; omega, Or.inl ⟨g4_j, by unfold p_many; omega, g4_2, g4_3, rfl, g4_4⟩⟩⟩⟩⟩⟩⟩
                            · exfalso; omega
                          · refine v_if_eq (tgt := 228) C dM_lookAt_220 (by decide) (by omega) (fun hc20 => ?_) (fun hc20 => ?_)
                            · exfalso; omega
                            · refine v_iload C dM_lookAt_223 rfl ?_
                              refine v_goto (tgt := 229) C dM_lookAt_225 (by decide) ?_
                              exact v_iret C hRt hLk dM_lookAt_229 ⟨m_scf_tr (m_scf_of hs2_) g4_s, Or.inr ⟨gt_c, Or.inr ⟨hall, Or.inr ⟨⟨g1_c, by omega, by omega⟩, Or.inr ⟨⟨g2_c, by unfold p_el at *; omega⟩, Or.inr ⟨by unfold p_end p_el at *; omega, Or.inr ⟨fun i hi => g4_1 i (by unfold p_many at hi; omega), rfl⟩⟩⟩⟩⟩⟩⟩
                        · refine v_aload_n C dM_lookAt_202 rfl rfl ?_
                          refine v_aload_n C dM_lookAt_203 rfl rfl ?_
                          refine v_getI (k := 0) (q := 20) (v := p_eol (σ.2 7) (σ.1 0 7) ((p_eol (σ.2 7) (σ.1 0 7) ((p_pl (σ.2 7) (σ.1 0 7) x)) + 1))) C dM_lookAt_204 (by show (0 : Nat) < 18; decide) rfl rfl (by decide) rfl inM lM_144 rfl g2_20 ?_
                          refine v_iconst C dM_lookAt_207 ?_
                          refine v_iadd C dM_lookAt_208 ?_
                          refine v_putI (k := 0) (q := 23) C dM_lookAt_209 (by show (0 : Nat) < 18; decide) rfl rfl (by decide) rfl inM tyM_ok nmM lM_166 rfl rfl rfl rfl rfl ?_
                          refine v_iconst C dM_lookAt_212 ?_
                          exact v_iret C hRt hLk dM_lookAt_213 ⟨m_scf_p (m_scf_of hs2_) _, Or.inr ⟨gt_c, Or.inr ⟨hall, Or.inr ⟨⟨g1_c, by omega, by omega⟩, Or.inr ⟨⟨g2_c, by unfold p_el at *; omega⟩, Or.inl ⟨by omega, by unfold p_end p_el at *; omega, rfl, rfl⟩⟩⟩⟩⟩⟩
                    · refine v_aload_n C dM_lookAt_174 rfl rfl ?_
                      refine v_iload_n C dM_lookAt_175 rfl rfl ?_
                      refine v_putI (k := 0) (q := 23) C dM_lookAt_176 (by show (0 : Nat) < 18; decide) rfl rfl (by decide) rfl inM tyM_ok nmM lM_166 rfl rfl rfl rfl rfl ?_
                      refine v_iconst C dM_lookAt_179 ?_
                      exact v_iret C hRt hLk dM_lookAt_180 ⟨m_scf_p (m_scf_of hs2_) _, Or.inr ⟨gt_c, Or.inr ⟨hall, Or.inr ⟨⟨g1_c, by omega, by omega⟩, Or.inl ⟨fun h9 => by first | exact g2_c h9.1 | (have h91 := h9.2; unfold p_el at *; omega), rfl, rfl⟩⟩⟩⟩⟩
                · have hs2_ := m_scr_tr hs1_ g2_s
                  refine v_if_eq (tgt := 174) C dM_lookAt_163 (by decide) (by omega) (fun hc21 => ?_) (fun hc21 => ?_)
                  · refine v_aload_n C dM_lookAt_174 rfl rfl ?_
                    refine v_iload_n C dM_lookAt_175 rfl rfl ?_
                    refine v_putI (k := 0) (q := 23) C dM_lookAt_176 (by show (0 : Nat) < 18; decide) rfl rfl (by decide) rfl inM tyM_ok nmM lM_166 rfl rfl rfl rfl rfl ?_
                    refine v_iconst C dM_lookAt_179 ?_
                    exact v_iret C hRt hLk dM_lookAt_180 ⟨m_scf_p (m_scf_of hs2_) _, Or.inr ⟨gt_c, Or.inr ⟨hall, Or.inr ⟨⟨g1_c, by omega, by omega⟩, Or.inl ⟨fun h9 => by first | exact g2_c h9.1 | (have h91 := h9.2; unfold p_el at *; omega), rfl, rfl⟩⟩⟩⟩⟩
                  · exfalso; omega
              · refine v_aload_n C dM_lookAt_127 rfl rfl ?_
                refine v_getI (k := 0) (q := 24) (v := σ.1 0 24) C dM_lookAt_128 (by show (0 : Nat) < 18; decide) rfl rfl (by decide) rfl inM lM_175 rfl (hs1_.2 0 24 (by decide)) ?_
                refine v_bipush C dM_lookAt_131 (by decide +kernel) ?_
                refine v_icmp_ne (tgt := 143) C dM_lookAt_133 (by decide) (by omega) (by omega) (fun hc22 => ?_) (fun hc22 => ?_)
                · refine v_aload_n C dM_lookAt_143 rfl rfl ?_
                  refine v_getI (k := 0) (q := 22) (v := p_tv (σ.2 7) (σ.1 0 7) ((p_pl (σ.2 7) (σ.1 0 7) x))) C dM_lookAt_144 (by show (0 : Nat) < 18; decide) rfl rfl (by decide) rfl inM lM_147 rfl g1_22 ?_
                  refine v_istore C dM_lookAt_147 (by decide) ?_
                  refine v_aload_n C dM_lookAt_149 rfl rfl ?_
                  refine v_getI (k := 0) (q := 20) (v := p_eol (σ.2 7) (σ.1 0 7) ((p_pl (σ.2 7) (σ.1 0 7) x))) C dM_lookAt_150 (by show (0 : Nat) < 18; decide) rfl rfl (by decide) rfl inM lM_144 rfl g1_20 ?_
                  refine v_iconst C dM_lookAt_153 ?_
                  refine v_iadd C dM_lookAt_154 ?_
                  refine v_istore_n C dM_lookAt_155 rfl (by decide) ?_
                  refine v_aload_n C dM_lookAt_156 rfl rfl ?_
                  refine v_iload_n C dM_lookAt_157 rfl rfl ?_
                  refine v_bipush C dM_lookAt_158 (by decide +kernel) ?_
                  have hz23 : 0 ≤ τ1.1 0 7 ∧ τ1.1 0 7 ≤ 12000 := by rw [m_scr_z hs1_]; exact hz
                  have hb24 : ∀ i, -128 ≤ τ1.2 7 i ∧ τ1.2 7 i ≤ 127 := fun i => by rw [m_scr_a hs1_]; exact h7 i
                  refine v_cVI (k := 0) (n := 2) C (mE_ok _) trivial hR (kM_tells _ xCl D cA ad hJ τ1 ((p_eol (σ.2 7) (σ.1 0 7) ((p_pl (σ.2 7) (σ.1 0 7) x)) + 1)) (101) (by omega) (by omega) hz23 hb24) dM_lookAt_160 (by show (0 : Nat) < 18; decide) rfl rfl gM_169 (by decide +kernel) (by decide) (by decide) rfl (Nat.le_of_ble_eq_true rfl) rfl ⟨rfl, rfl⟩ (fun r5 τ5 hp5 => ?_)
                  simp only [hs1_.1, m_scr_z hs1_, g1_20, g1_22] at hp5
                  obtain ⟨g5_s, g5_x, g5_y, ⟨g5_c, rfl, g5_20, g5_22⟩ | ⟨g5_c, rfl⟩⟩ := hp5
                  · have hs5_ := m_scr_tr hs1_ g5_s
                    have g5_e := g5_c.1
                    have g5_l := @p_eol_le (σ.2 7) (σ.1 0 7) ((p_eol (σ.2 7) (σ.1 0 7) ((p_pl (σ.2 7) (σ.1 0 7) x)) + 1))
                    have g5_v := p_num_v (σ.2 7) (p_eol (σ.2 7) (σ.1 0 7) ((p_eol (σ.2 7) (σ.1 0 7) ((p_pl (σ.2 7) (σ.1 0 7) x)) + 1))) ((p_eol (σ.2 7) (σ.1 0 7) ((p_pl (σ.2 7) (σ.1 0 7) x)) + 1) + 2)
                    change 0 ≤ p_tv (σ.2 7) (σ.1 0 7) ((p_eol (σ.2 7) (σ.1 0 7) ((p_pl (σ.2 7) (σ.1 0 7) x)) + 1)) ∧ p_tv (σ.2 7) (σ.1 0 7) ((p_eol (σ.2 7) (σ.1 0 7) ((p_pl (σ.2 7) (σ.1 0 7) x)) + 1)) ≤ 99999 at g5_v
                    refine v_if_eq (tgt := 174) C dM_lookAt_163 (by decide) (by omega) (fun hc25 => ?_) (fun hc25 => ?_)
                    · exfalso; omega
                    · refine v_aload_n C dM_lookAt_166 rfl rfl ?_
                      refine v_getI (k := 0) (q := 22) (v := p_tv (σ.2 7) (σ.1 0 7) ((p_eol (σ.2 7) (σ.1 0 7) ((p_pl (σ.2 7) (σ.1 0 7) x)) + 1))) C dM_lookAt_167 (by show (0 : Nat) < 18; decide) rfl rfl (by decide) rfl inM lM_147 rfl g5_22 ?_
                      refine v_iload_n C dM_lookAt_170 rfl rfl ?_
                      refine v_icmp_eq (tgt := 181) C dM_lookAt_171 (by decide) (by omega) (by omega) (fun hc26 => ?_) (fun hc26 => ?_)
                      · refine v_aload_n C dM_lookAt_181 rfl rfl ?_
                        refine v_getI (k := 0) (q := 24) (v := σ.1 0 24) C dM_lookAt_182 (by show (0 : Nat) < 18; decide) rfl rfl (by decide) rfl inM lM_175 rfl (hs5_.2 0 24 (by decide)) ?_
                        refine v_iconst C dM_lookAt_185 ?_
                        refine v_icmp_ne (tgt := 214) C dM_lookAt_186 (by decide) (by omega) (by omega) (fun hc27 => ?_) (fun hc27 => ?_)
                        · refine v_aload_n C dM_lookAt_214 rfl rfl ?_
                          refine v_iload_n C dM_lookAt_215 rfl rfl ?_
                          refine v_iload_n C dM_lookAt_216 rfl rfl ?_
                          have hz28 : 0 ≤ τ5.1 0 7 ∧ τ5.1 0 7 ≤ 12000 := by rw [m_scr_z hs5_]; exact hz
                          have hb29 : ∀ i, -128 ≤ τ5.2 7 i ∧ τ5.2 7 i ≤ 127 := fun i => by rw [m_scr_a hs5_]; exact h7 i
                          refine v_cVI (k := 0) (n := 2) C (mE_ok _) trivial hR (kM_recordsStand _ xCl D cA ad hJ τ5 x ((p_tv (σ.2 7) (σ.1 0 7) x)) (by omega) (by omega) hz28 hb29 (by rw [hs5_.1, m_scr_z hs5_]; exact gt_c.1) (by rw [hs5_.1, m_scr_z hs5_]; exact fun j hj => ⟨(hall j (by unfold p_many; omega)).1, (hall j (by unfold p_many; omega)).2.2.2⟩)) dM_lookAt_217 (by show (0 : Nat) < 18; decide) rfl rfl gM_178 (by decide +kernel) (by decide) (by decide) rfl (Nat.le_of_ble_eq_true rfl) rfl ⟨rfl, rfl⟩ (fun r6 τ6 hp6 => ?_)
                          simp only [hs5_.1, m_scr_z hs5_] at hp6
                          obtain ⟨g6_s, ⟨g6_j, g6_1, g6_2, g6_3, rfl, g6_4⟩ | ⟨g6_1, rfl⟩⟩ := hp6
                          · refine v_if_eq (tgt := 228) C dM_lookAt_220 (by decide) (by omega) (fun hc30 => ?_) (fun hc30 => ?_)
                            · refine v_iconst C dM_lookAt_228 ?_
                              exact v_iret C hRt hLk dM_lookAt_229 ⟨m_scf_tr (m_scf_of hs5_) g6_s, Or.inr ⟨gt_c, Or.inr ⟨hall, Or.inr ⟨⟨g1_c, by omega, by omega⟩, Or.inr ⟨⟨g5_c, by unfold p_el at *; omega⟩, Or.inr ⟨by unfold p_end p_el at *; omega, Or.inl ⟨g6_j, by unfold p_many; omega, g6_2, g6_3, rfl, g6_4⟩⟩⟩⟩⟩⟩⟩
                            · exfalso; omega
                          · refine v_if_eq (tgt := 228) C dM_lookAt_220 (by decide) (by omega) (fun hc31 => ?_) (fun hc31 => ?_)
                            · exfalso; omega
                            · refine v_iload C dM_lookAt_223 rfl ?_
                              refine v_goto (tgt := 229) C dM_lookAt_225 (by decide) ?_
                              exact v_iret C hRt hLk dM_lookAt_229 ⟨m_scf_tr (m_scf_of hs5_) g6_s, Or.inr ⟨gt_c, Or.inr ⟨hall, Or.inr ⟨⟨g1_c, by omega, by omega⟩, Or.inr ⟨⟨g5_c, by unfold p_el at *; omega⟩, Or.inr ⟨by unfold p_end p_el at *; omega, Or.inr ⟨fun i hi => g6_1 i (by unfold p_many at hi; omega), rfl⟩⟩⟩⟩⟩⟩⟩
                        · refine v_aload_n C dM_lookAt_189 rfl rfl ?_
                          refine v_getI (k := 0) (q := 20) (v := p_eol (σ.2 7) (σ.1 0 7) ((p_eol (σ.2 7) (σ.1 0 7) ((p_pl (σ.2 7) (σ.1 0 7) x)) + 1))) C dM_lookAt_190 (by show (0 : Nat) < 18; decide) rfl rfl (by decide) rfl inM lM_144 rfl g5_20 ?_
                          refine v_iconst C dM_lookAt_193 ?_
                          refine v_iadd C dM_lookAt_194 ?_
                          refine v_aload_n C dM_lookAt_195 rfl rfl ?_
                          refine v_getI (k := 0) (q := 7) (v := σ.1 0 7) C dM_lookAt_196 (by show (0 : Nat) < 18; decide) rfl rfl (by decide) rfl inM lM_116 rfl (hs5_.2 0 7 (by decide)) ?_
                          refine v_icmp_eq (tgt := 214) C dM_lookAt_199 (by decide) (by omega) (by omega) (fun hc32 => ?_) (fun hc32 => ?_)
                          · refine v_aload_n C dM_lookAt_214 rfl rfl ?_
                            refine v_iload_n C dM_lookAt_215 rfl rfl ?_
                            refine v_iload_n C dM_lookAt_216 rfl rfl ?_
                            have hz33 : 0 ≤ τ5.1 0 7 ∧ τ5.1 0 7 ≤ 12000 := by rw [m_scr_z hs5_]; exact hz
                            have hb34 : ∀ i, -128 ≤ τ5.2 7 i ∧ τ5.2 7 i ≤ 127 := fun i => by rw [m_scr_a hs5_]; exact h7 i
                            refine v_cVI (k := 0) (n := 2) C (mE_ok _) trivial hR (kM_recordsStand _ xCl D cA ad hJ τ5 x ((p_tv (σ.2 7) (σ.1 0 7) x)) (by omega) (by omega) hz33 hb34 (by rw [hs5_.1, m_scr_z hs5_]; exact gt_c.1) (by rw [hs5_.1, m_scr_z hs5_]; exact fun j hj => ⟨(hall j (by unfold p_many; omega)).1, (hall j (by unfold p_many; omega)).2.2.2⟩)) dM_lookAt_217 (by show (0 : Nat) < 18; decide) rfl rfl gM_178 (by decide +kernel) (by decide) (by decide) rfl (Nat.le_of_ble_eq_true rfl) rfl ⟨rfl, rfl⟩ (fun r7 τ7 hp7 => ?_)
                            simp only [hs5_.1, m_scr_z hs5_] at hp7
                            obtain ⟨g7_s, ⟨g7_j, g7_1, g7_2, g7_3, rfl, g7_4⟩ | ⟨g7_1, rfl⟩⟩ := hp7
                            · refine v_if_eq (tgt := 228) C dM_lookAt_220 (by decide) (by omega) (fun hc35 => ?_) (fun hc35 => ?_)
                              · refine v_iconst C dM_lookAt_228 ?_
                                exact v_iret C hRt hLk dM_lookAt_229 ⟨m_scf_tr (m_scf_of hs5_) g7_s, Or.inr ⟨gt_c, Or.inr ⟨hall, Or.inr ⟨⟨g1_c, by omega, by omega⟩, Or.inr ⟨⟨g5_c, by unfold p_el at *; omega⟩, Or.inr ⟨by unfold p_end p_el at *; omega, Or.inl ⟨g7_j, by unfold p_many; omega, g7_2, g7_3, rfl, g7_4⟩⟩⟩⟩⟩⟩⟩
                              · exfalso; omega
                            · refine v_if_eq (tgt := 228) C dM_lookAt_220 (by decide) (by omega) (fun hc36 => ?_) (fun hc36 => ?_)
                              · exfalso; omega
                              · refine v_iload C dM_lookAt_223 rfl ?_
                                refine v_goto (tgt := 229) C dM_lookAt_225 (by decide) ?_
                                exact v_iret C hRt hLk dM_lookAt_229 ⟨m_scf_tr (m_scf_of hs5_) g7_s, Or.inr ⟨gt_c, Or.inr ⟨hall, Or.inr ⟨⟨g1_c, by omega, by omega⟩, Or.inr ⟨⟨g5_c, by unfold p_el at *; omega⟩, Or.inr ⟨by unfold p_end p_el at *; omega, Or.inr ⟨fun i hi => g7_1 i (by unfold p_many at hi; omega), rfl⟩⟩⟩⟩⟩⟩⟩
                          · refine v_aload_n C dM_lookAt_202 rfl rfl ?_
                            refine v_aload_n C dM_lookAt_203 rfl rfl ?_
                            refine v_getI (k := 0) (q := 20) (v := p_eol (σ.2 7) (σ.1 0 7) ((p_eol (σ.2 7) (σ.1 0 7) ((p_pl (σ.2 7) (σ.1 0 7) x)) + 1))) C dM_lookAt_204 (by show (0 : Nat) < 18; decide) rfl rfl (by decide) rfl inM lM_144 rfl g5_20 ?_
                            refine v_iconst C dM_lookAt_207 ?_
                            refine v_iadd C dM_lookAt_208 ?_
                            refine v_putI (k := 0) (q := 23) C dM_lookAt_209 (by show (0 : Nat) < 18; decide) rfl rfl (by decide) rfl inM tyM_ok nmM lM_166 rfl rfl rfl rfl rfl ?_
                            refine v_iconst C dM_lookAt_212 ?_
                            exact v_iret C hRt hLk dM_lookAt_213 ⟨m_scf_p (m_scf_of hs5_) _, Or.inr ⟨gt_c, Or.inr ⟨hall, Or.inr ⟨⟨g1_c, by omega, by omega⟩, Or.inr ⟨⟨g5_c, by unfold p_el at *; omega⟩, Or.inl ⟨by omega, by unfold p_end p_el at *; omega, rfl, rfl⟩⟩⟩⟩⟩⟩
                      · refine v_aload_n C dM_lookAt_174 rfl rfl ?_
                        refine v_iload_n C dM_lookAt_175 rfl rfl ?_
                        refine v_putI (k := 0) (q := 23) C dM_lookAt_176 (by show (0 : Nat) < 18; decide) rfl rfl (by decide) rfl inM tyM_ok nmM lM_166 rfl rfl rfl rfl rfl ?_
                        refine v_iconst C dM_lookAt_179 ?_
                        exact v_iret C hRt hLk dM_lookAt_180 ⟨m_scf_p (m_scf_of hs5_) _, Or.inr ⟨gt_c, Or.inr ⟨hall, Or.inr ⟨⟨g1_c, by omega, by omega⟩, Or.inl ⟨fun h9 => by first | exact g5_c h9.1 | (have h91 := h9.2; unfold p_el at *; omega), rfl, rfl⟩⟩⟩⟩⟩
                  · have hs5_ := m_scr_tr hs1_ g5_s
                    refine v_if_eq (tgt := 174) C dM_lookAt_163 (by decide) (by omega) (fun hc37 => ?_) (fun hc37 => ?_)
                    · refine v_aload_n C dM_lookAt_174 rfl rfl ?_
                      refine v_iload_n C dM_lookAt_175 rfl rfl ?_
                      refine v_putI (k := 0) (q := 23) C dM_lookAt_176 (by show (0 : Nat) < 18; decide) rfl rfl (by decide) rfl inM tyM_ok nmM lM_166 rfl rfl rfl rfl rfl ?_
                      refine v_iconst C dM_lookAt_179 ?_
                      exact v_iret C hRt hLk dM_lookAt_180 ⟨m_scf_p (m_scf_of hs5_) _, Or.inr ⟨gt_c, Or.inr ⟨hall, Or.inr ⟨⟨g1_c, by omega, by omega⟩, Or.inl ⟨fun h9 => by first | exact g5_c h9.1 | (have h91 := h9.2; unfold p_el at *; omega), rfl, rfl⟩⟩⟩⟩⟩
                    · exfalso; omega
                · refine v_aload_n C dM_lookAt_136 rfl rfl ?_
                  refine v_iload_n C dM_lookAt_137 rfl rfl ?_
                  refine v_putI (k := 0) (q := 23) C dM_lookAt_138 (by show (0 : Nat) < 18; decide) rfl rfl (by decide) rfl inM tyM_ok nmM lM_166 rfl rfl rfl rfl rfl ?_
                  refine v_iconst C dM_lookAt_141 ?_
                  exact v_iret C hRt hLk dM_lookAt_142 ⟨m_scf_p (m_scf_of hs1_) _, Or.inr ⟨gt_c, Or.inr ⟨hall, Or.inl ⟨fun h9 => by first | exact g1_c h9.1 | (have h91 := h9.2.1; have h92 := h9.2.2; omega), rfl, rfl⟩⟩⟩⟩
        · have hs1_ := m_scr_tr hs g1_s
          refine v_if_eq (tgt := 136) C dM_lookAt_109 (by decide) (by omega) (fun hc38 => ?_) (fun hc38 => ?_)
          · refine v_aload_n C dM_lookAt_136 rfl rfl ?_
            refine v_iload_n C dM_lookAt_137 rfl rfl ?_
            refine v_putI (k := 0) (q := 23) C dM_lookAt_138 (by show (0 : Nat) < 18; decide) rfl rfl (by decide) rfl inM tyM_ok nmM lM_166 rfl rfl rfl rfl rfl ?_
            refine v_iconst C dM_lookAt_141 ?_
            exact v_iret C hRt hLk dM_lookAt_142 ⟨m_scf_p (m_scf_of hs1_) _, Or.inr ⟨gt_c, Or.inr ⟨hall, Or.inl ⟨fun h9 => by first | exact g1_c h9.1 | (have h91 := h9.2.1; have h92 := h9.2.2; omega), rfl, rfl⟩⟩⟩⟩
          · exfalso; omega
      · exfalso; omega
    | succ m ih =>
      intro k S hk hs hall ha0 ha1 hla
      have hmn : (p_many (σ.2 7) (σ.1 0 7) x : Int) = p_tv (σ.2 7) (σ.1 0 7) x := by unfold p_many; omega
      have hrr := p_rn_r (σ.2 7) (σ.1 0 7) (p_at (σ.2 7) (σ.1 0 7) x k)
      have hpr := p_rpv_r (σ.2 7) (σ.1 0 7) (p_at (σ.2 7) (σ.1 0 7) x k)
      have hel := @p_eol_le (σ.2 7) (σ.1 0 7) (p_at (σ.2 7) (σ.1 0 7) x k)
      refine v_iload C dM_lookAt_35 rfl ?_
      refine v_iload_n C dM_lookAt_37 rfl rfl ?_
      refine v_icmp_ge (tgt := 102) C dM_lookAt_38 (by decide) (by omega) (by omega) (fun hc39 => ?_) (fun hc39 => ?_)
      · exfalso; omega
      · refine v_aload_n C dM_lookAt_41 rfl rfl ?_
        refine v_iload_n C dM_lookAt_42 rfl rfl ?_
        have hz40 : 0 ≤ S.1 0 7 ∧ S.1 0 7 ≤ 12000 := by rw [m_scr_z hs]; exact hz
        have hb41 : ∀ i, -128 ≤ S.2 7 i ∧ S.2 7 i ≤ 127 := fun i => by rw [m_scr_a hs]; exact h7 i
        refine v_cVI (k := 0) (n := 1) C (mE_ok _) trivial hR (kM_isRow _ xCl D cA ad hJ S ((p_at (σ.2 7) (σ.1 0 7) x k)) (by omega) hz40 hb41) dM_lookAt_43 (by show (0 : Nat) < 18; decide) rfl rfl gM_172 (by decide +kernel) (by decide) (by decide) rfl (Nat.le_of_ble_eq_true rfl) rfl ⟨rfl, rfl⟩ (fun r8 τ8 hp8 => ?_)
        simp only [hs.1, m_scr_z hs] at hp8
        obtain ⟨g8_s, g8_20, ⟨g8_c, rfl, g8_26, g8_w⟩ | ⟨g8_c, rfl⟩⟩ := hp8
        · have hs8_ := m_scr_tr hs g8_s
          have g8_27 := p_rp_v g8_w
          have g8_r1 := p_rn_r (σ.2 7) (σ.1 0 7) ((p_at (σ.2 7) (σ.1 0 7) x k))
          have g8_r2 := p_rpv_r (σ.2 7) (σ.1 0 7) ((p_at (σ.2 7) (σ.1 0 7) x k))
          have g8_l := @p_eol_le (σ.2 7) (σ.1 0 7) ((p_at (σ.2 7) (σ.1 0 7) x k))
          refine v_if_eq (tgt := 76) C dM_lookAt_46 (by decide) (by omega) (fun hc42 => ?_) (fun hc42 => ?_)
          · exfalso; omega
          · refine v_aload_n C dM_lookAt_49 rfl rfl ?_
            refine v_getI (k := 0) (q := 26) (v := p_rn (σ.2 7) (σ.1 0 7) ((p_at (σ.2 7) (σ.1 0 7) x k))) C dM_lookAt_50 (by show (0 : Nat) < 18; decide) rfl rfl (by decide) rfl inM lM_113 rfl g8_26 ?_
            refine v_cSI (n := 1) C (mE_ok _) trivial hR (kM_isObject2 _ xCl D cA ad hJ τ8 (p_rn (σ.2 7) (σ.1 0 7) ((p_at (σ.2 7) (σ.1 0 7) x k))) (by omega)) dM_lookAt_53 gM_67 (by decide +kernel) (by decide) (by decide) rfl (Nat.le_of_ble_eq_true rfl) rfl ⟨rfl, rfl⟩ (fun r9 τ9 hp9 => ?_)
            obtain ⟨go9, rfl, ge9⟩ | ⟨go9, rfl, ge9⟩ := hp9
            · subst τ9
              refine v_if_eq (tgt := 76) C dM_lookAt_56 (by decide) (by omega) (fun hc43 => ?_) (fun hc43 => ?_)
              · exfalso; omega
              · refine v_aload_n C dM_lookAt_59 rfl rfl ?_
                refine v_getI (k := 0) (q := 26) (v := p_rn (σ.2 7) (σ.1 0 7) ((p_at (σ.2 7) (σ.1 0 7) x k))) C dM_lookAt_60 (by show (0 : Nat) < 18; decide) rfl rfl (by decide) rfl inM lM_113 rfl g8_26 ?_
                refine v_iload C dM_lookAt_63 rfl ?_
                refine v_icmp_le (tgt := 76) C dM_lookAt_65 (by decide) (by omega) (by omega) (fun hc44 => ?_) (fun hc44 => ?_)
                · refine v_aload_n C dM_lookAt_76 rfl rfl ?_
                  refine v_iload_n C dM_lookAt_77 rfl rfl ?_
                  refine v_putI (k := 0) (q := 23) C dM_lookAt_78 (by show (0 : Nat) < 18; decide) rfl rfl (by decide) rfl inM tyM_ok nmM lM_166 rfl rfl rfl rfl rfl ?_
                  refine v_iconst C dM_lookAt_81 ?_
                  exact v_iret C hRt hLk dM_lookAt_82 ⟨m_scf_p (m_scf_of hs8_) _, Or.inr ⟨gt_c, Or.inl ⟨k, by omega, hall, fun h9 => by first | exact g8_c h9.1 | (have h91 := h9.2.1; have h92 := h9.2.2.1; have h93 := h9.2.2.2; omega), rfl, rfl⟩⟩⟩
                · refine v_aload_n C dM_lookAt_68 rfl rfl ?_
                  refine v_getI (k := 0) (q := 27) (v := p_rpv (σ.2 7) (σ.1 0 7) ((p_at (σ.2 7) (σ.1 0 7) x k))) C dM_lookAt_69 (by show (0 : Nat) < 18; decide) rfl rfl (by decide) rfl inM lM_163 rfl g8_27 ?_
                  refine v_iload_n C dM_lookAt_72 rfl rfl ?_
                  refine v_icmp_lt (tgt := 83) C dM_lookAt_73 (by decide) (by omega) (by omega) (fun hc45 => ?_) (fun hc45 => ?_)
                  · refine v_aload_n C dM_lookAt_83 rfl rfl ?_
                    refine v_getI (k := 0) (q := 26) (v := p_rn (σ.2 7) (σ.1 0 7) ((p_at (σ.2 7) (σ.1 0 7) x k))) C dM_lookAt_84 (by show (0 : Nat) < 18; decide) rfl rfl (by decide) rfl inM lM_113 rfl g8_26 ?_
                    refine v_istore C dM_lookAt_87 (by decide) ?_
                    refine v_aload_n C dM_lookAt_89 rfl rfl ?_
                    refine v_getI (k := 0) (q := 20) (v := p_eol (σ.2 7) (σ.1 0 7) ((p_at (σ.2 7) (σ.1 0 7) x k))) C dM_lookAt_90 (by show (0 : Nat) < 18; decide) rfl rfl (by decide) rfl inM lM_144 rfl g8_20 ?_
                    refine v_iconst C dM_lookAt_93 ?_
                    refine v_iadd C dM_lookAt_94 ?_
                    refine v_istore_n C dM_lookAt_95 rfl (by decide) ?_
                    refine v_iinc C dM_lookAt_96 rfl (by decide) ?_
                    refine v_goto (tgt := 35) C dM_lookAt_99 (by decide) ?_
                    exact v_less (by exact ⟨rfl, rfl, rfl, rfl, rfl, rfl, trivial⟩) (ih (k + 1) τ8 (by omega) hs8_ (fun i hi => (Nat.lt_succ_iff_lt_or_eq.mp hi).elim (fun h => hall i h) (fun h => by rw [h]; exact ⟨g8_c, by omega, by omega, by omega⟩)) (by rw [p_at_s]; omega) (by rw [p_at_s]; have := g8_c.1; omega) (by show 0 ≤ p_rn (σ.2 7) (σ.1 0 7) (p_at (σ.2 7) (σ.1 0 7) x k) ∧ p_rn (σ.2 7) (σ.1 0 7) (p_at (σ.2 7) (σ.1 0 7) x k) ≤ 40; omega))
                  · refine v_aload_n C dM_lookAt_76 rfl rfl ?_
                    refine v_iload_n C dM_lookAt_77 rfl rfl ?_
                    refine v_putI (k := 0) (q := 23) C dM_lookAt_78 (by show (0 : Nat) < 18; decide) rfl rfl (by decide) rfl inM tyM_ok nmM lM_166 rfl rfl rfl rfl rfl ?_
                    refine v_iconst C dM_lookAt_81 ?_
                    exact v_iret C hRt hLk dM_lookAt_82 ⟨m_scf_p (m_scf_of hs8_) _, Or.inr ⟨gt_c, Or.inl ⟨k, by omega, hall, fun h9 => by first | exact g8_c h9.1 | (have h91 := h9.2.1; have h92 := h9.2.2.1; have h93 := h9.2.2.2; omega), rfl, rfl⟩⟩⟩
            · subst τ9
              refine v_if_eq (tgt := 76) C dM_lookAt_56 (by decide) (by omega) (fun hc46 => ?_) (fun hc46 => ?_)
              · refine v_aload_n C dM_lookAt_76 rfl rfl ?_
                refine v_iload_n C dM_lookAt_77 rfl rfl ?_
                refine v_putI (k := 0) (q := 23) C dM_lookAt_78 (by show (0 : Nat) < 18; decide) rfl rfl (by decide) rfl inM tyM_ok nmM lM_166 rfl rfl rfl rfl rfl ?_
                refine v_iconst C dM_lookAt_81 ?_
                exact v_iret C hRt hLk dM_lookAt_82 ⟨m_scf_p (m_scf_of hs8_) _, Or.inr ⟨gt_c, Or.inl ⟨k, by omega, hall, fun h9 => by first | exact g8_c h9.1 | (have h91 := h9.2.1; have h92 := h9.2.2.1; have h93 := h9.2.2.2; omega), rfl, rfl⟩⟩⟩
              · exfalso; omega
        · have hs8_ := m_scr_tr hs g8_s
          refine v_if_eq (tgt := 76) C dM_lookAt_46 (by decide) (by omega) (fun hc47 => ?_) (fun hc47 => ?_)
          · refine v_aload_n C dM_lookAt_76 rfl rfl ?_
            refine v_iload_n C dM_lookAt_77 rfl rfl ?_
            refine v_putI (k := 0) (q := 23) C dM_lookAt_78 (by show (0 : Nat) < 18; decide) rfl rfl (by decide) rfl inM tyM_ok nmM lM_166 rfl rfl rfl rfl rfl ?_
            refine v_iconst C dM_lookAt_81 ?_
            exact v_iret C hRt hLk dM_lookAt_82 ⟨m_scf_p (m_scf_of hs8_) _, Or.inr ⟨gt_c, Or.inl ⟨k, by omega, hall, fun h9 => by first | exact g8_c h9.1 | (have h91 := h9.2.1; have h92 := h9.2.2.1; have h93 := h9.2.2.2; omega), rfl, rfl⟩⟩⟩
          · exfalso; omega
  refine v_aload_n C dM_lookAt_0 rfl rfl ?_
  refine v_iload_n C dM_lookAt_1 rfl rfl ?_
  refine v_bipush C dM_lookAt_2 (by decide +kernel) ?_
  refine v_cVI (k := 0) (n := 2) C (mE_ok _) trivial hR (kM_tells _ xCl D cA ad hJ σ (x) (120) (by omega) (by omega) hz h7) dM_lookAt_4 (by show (0 : Nat) < 18; decide) rfl rfl gM_169 (by decide +kernel) (by decide) (by decide) rfl (Nat.le_of_ble_eq_true rfl) rfl ⟨rfl, rfl⟩ (fun r10 τ10 hp10 => ?_)
  obtain ⟨g10_s, g10_x, g10_y, ⟨g10_c, rfl, g10_20, g10_22⟩ | ⟨g10_c, rfl⟩⟩ := hp10
  · have hs10_ := g10_s
    have g10_e := g10_c.1
    have g10_l := @p_eol_le (σ.2 7) (σ.1 0 7) (x)
    have g10_v := p_num_v (σ.2 7) (p_eol (σ.2 7) (σ.1 0 7) (x)) (x + 2)
    change 0 ≤ p_tv (σ.2 7) (σ.1 0 7) (x) ∧ p_tv (σ.2 7) (σ.1 0 7) (x) ≤ 99999 at g10_v
    refine v_if_ne (tgt := 17) C dM_lookAt_7 (by decide) (by omega) (fun hc48 => ?_) (fun hc48 => ?_)
    · refine v_aload_n C dM_lookAt_17 rfl rfl ?_
      refine v_getI (k := 0) (q := 22) (v := p_tv (σ.2 7) (σ.1 0 7) (x)) C dM_lookAt_18 (by show (0 : Nat) < 18; decide) rfl rfl (by decide) rfl inM lM_147 rfl g10_22 ?_
      refine v_istore_n C dM_lookAt_21 rfl (by decide) ?_
      refine v_aload_n C dM_lookAt_22 rfl rfl ?_
      refine v_getI (k := 0) (q := 20) (v := p_eol (σ.2 7) (σ.1 0 7) (x)) C dM_lookAt_23 (by show (0 : Nat) < 18; decide) rfl rfl (by decide) rfl inM lM_144 rfl g10_20 ?_
      refine v_iconst C dM_lookAt_26 ?_
      refine v_iadd C dM_lookAt_27 ?_
      refine v_istore_n C dM_lookAt_28 rfl (by decide) ?_
      refine v_iconst C dM_lookAt_29 ?_
      refine v_istore C dM_lookAt_30 (by decide) ?_
      refine v_iconst C dM_lookAt_32 ?_
      refine v_istore C dM_lookAt_33 (by decide) ?_
      exact L g10_c (p_many (σ.2 7) (σ.1 0 7) x) 0 τ10 (by omega) hs10_ (fun i hi => absurd hi (Nat.not_lt_zero i)) (by show 0 ≤ p_eol (σ.2 7) (σ.1 0 7) x + 1; omega) (by show p_eol (σ.2 7) (σ.1 0 7) x + 1 ≤ σ.1 0 7; have := g10_c.1; omega) (by show (0 : Int) ≤ 0 ∧ (0 : Int) ≤ 40; omega)
    · exfalso; omega
  · have hs10_ := g10_s
    refine v_if_ne (tgt := 17) C dM_lookAt_7 (by decide) (by omega) (fun hc49 => ?_) (fun hc49 => ?_)
    · exfalso; omega
    · refine v_aload_n C dM_lookAt_10 rfl rfl ?_
      refine v_iload_n C dM_lookAt_11 rfl rfl ?_
      refine v_putI (k := 0) (q := 23) C dM_lookAt_12 (by show (0 : Nat) < 18; decide) rfl rfl (by decide) rfl inM tyM_ok nmM lM_166 rfl rfl rfl rfl rfl ?_
      refine v_iconst C dM_lookAt_15 ?_
      exact v_iret C hRt hLk dM_lookAt_16 ⟨m_scf_p (m_scf_of hs10_) _, Or.inl ⟨g10_c, rfl, rfl⟩⟩
end
section
/-- where the last line begins -/
def lastF (f : Nat → Int) : Nat → Int → Int
  | 0, p => p
  | k + 1, p => if f (p - 1).toNat = 10 then p else lastF f k (p - 1)
def p_lst (f : Nat → Int) (z : Int) : Int := lastF f (z - 1).toNat (z - 1)
theorem lastF_le (f : Nat → Int) : ∀ (k : Nat) (p : Int), p - k ≤ lastF f k p ∧ lastF f k p ≤ p := by
  intro k
  induction k with
  | zero => intro p; show p - 0 ≤ p ∧ p ≤ p; omega
  | succ k ih =>
    intro p
    have h := ih (p - 1)
    unfold lastF
    split <;> omega
def p_first (f : Nat → Int) (z : Int) : Prop := p_eol f z 0 < z ∧ (0 < p_eol f z 0 ∧ f (0 : Int).toNat = 37) ∧ (0 + 1 < p_eol f z 0 ∧ f (0 + 1 : Int).toNat = 70) ∧ (0 + 2 < p_eol f z 0 ∧ f (0 + 2 : Int).toNat = 49) ∧ 0 + 3 = p_eol f z 0
def p_x0 (f : Nat → Int) (z : Int) : Int := p_tv f z (p_lst f z)
/-- the places of the x of the PARTS, from the last one on -/
def p_ch (f : Nat → Int) (z : Int) : Nat → Int
  | 0 => p_x0 f z
  | i + 1 => p_tv f z (p_pl f z (p_ch f z i))
def p_file (f : Nat → Int) (z r fl pts : Int) (xs : Nat → Int) : Prop :=
  (¬ p_first f z ∧ r = 0 ∧ fl = 0) ∨ (p_first f z ∧ ((f (z - 1).toNat ≠ 10 ∧ r = 0 ∧ fl = z) ∨ (f (z - 1).toNat = 10 ∧
  ((¬ (p_tell f z (p_lst f z) 101 ∧ p_x0 f z < p_lst f z) ∧ r = 0 ∧ fl = p_lst f z) ∨ ((p_tell f z (p_lst f z) 101 ∧ p_x0 f z < p_lst f z) ∧
  ∃ j : Nat, j ≤ 59 ∧ (∀ i, i < j → (∃ g, p_look f z (p_ch f z i) (i + 1) (p_ch f z (i + 1)) g) ∧ 0 < p_ch f z (i + 1)) ∧
  ((p_look f z (p_ch f z j) (j + 1) (-1) fl ∧ r = 0) ∨ ((∃ g, p_look f z (p_ch f z j) (j + 1) 0 g) ∧ r = 1 ∧ pts = j + 1 ∧ ∀ i, i ≤ j → xs i = p_ch f z i)))))))
theorem p_look_r {f : Nat → Int} {z x pt r fl : Int} (h : p_look f z x pt r fl) : r = -1 ∨ (r = p_tv f z (p_pl f z x) ∧ p_pok f z x pt) := by
  rcases h with ⟨_, h, _⟩ | ⟨_, h⟩
  · exact Or.inl h
  rcases h with ⟨_, _, _, _, h, _⟩ | ⟨_, h⟩
  · exact Or.inl h
  rcases h with ⟨_, h, _⟩ | ⟨hp, h⟩
  · exact Or.inl h
  rcases h with ⟨_, h, _⟩ | ⟨_, h⟩
  · exact Or.inl h
  rcases h with ⟨_, _, h, _⟩ | ⟨_, h⟩
  · exact Or.inl h
  rcases h with ⟨_, _, _, _, h, _⟩ | ⟨_, h⟩
  · exact Or.inl h
  · exact Or.inr ⟨h, hp⟩
/-- the state but for what is used while a file is read: also the PARTS and their places -/
def m_scx (σ σ1 : fS) : Prop := (∀ k i, k ≠ 15 → σ1.2 k i = σ.2 k i) ∧ ∀ a b, ¬ (a = 0 ∧ (b = 20 ∨ b = 21 ∨ b = 22 ∨ b = 23 ∨ b = 24 ∨ b = 26 ∨ b = 27)) → σ1.1 a b = σ.1 a b
theorem m_scx_of {σ σ1 : fS} (h : m_scf σ σ1) : m_scx σ σ1 := ⟨fun k i _ => by rw [h.1], fun a b hab => h.2 a b (fun q => hab ⟨q.1, by omega⟩)⟩
theorem m_scx_tr {σ τ υ : fS} (h1 : m_scx σ τ) (h2 : m_scx τ υ) : m_scx σ υ := ⟨fun k i h => (h2.1 k i h).trans (h1.1 k i h), fun a b h => (h2.2 a b h).trans (h1.2 a b h)⟩
theorem m_scx_24 {σ τ : fS} (h : m_scx σ τ) (v : Int) : m_scx σ (f_p1 τ 0 24 v) := by
  refine ⟨h.1, fun a b hab => ?_⟩
  rw [p1_1, if_neg (by
    intro h9
    exact hab ⟨h9.1, by omega⟩)]
  exact h.2 a b hab
theorem m_scx_15 {σ τ : fS} (h : m_scx σ τ) (q : Nat) (v : Int) : m_scx σ (f_p2 τ 15 q v) := by
  refine ⟨fun k i hk => ?_, h.2⟩
  rw [p2_2, if_neg (by intro h9; exact hk h9.1)]
  exact h.1 k i hk
theorem m_scx_f {σ σ1 : fS} (h : m_scx σ σ1) : σ1.2 7 = σ.2 7 := funext fun i => h.1 7 i (by decide)
theorem m_scx_z {σ σ1 : fS} (h : m_scx σ σ1) : σ1.1 0 7 = σ.1 0 7 := h.2 0 7 (by decide)
set_option maxRecDepth 100000 in
set_option maxHeartbeats 4000000 in
/-- isFile() -/
theorem kM_isFile (l : Launch) (xCl : List vw_C) (D : va_G) (cA : Nat → ClassId) (ad : Nat → Nat) (hJ : f_J (mG xCl D cA ad)) (σ : fS) (hz : 0 ≤ σ.1 0 7 ∧ σ.1 0 7 ≤ 12000) (h7 : ∀ i, -128 ≤ σ.2 7 i ∧ σ.2 7 i ≤ 127) : f_M l (mG xCl D cA ad) mE yM_isFile (Cond.code yM_isFile cM_isFile 4 (some .boolean) :: A9) 4 σ [.ref (ad 0)] (f_QI (fun r σ1 => m_scx σ σ1 ∧ p_file (σ.2 7) (σ.1 0 7) r (σ1.1 0 23) (σ1.1 0 24) (σ1.2 15)) (mG xCl D cA ad)) := by
  refine f_enter (by decide +kernel) hJ rfl (Nat.le_of_ble_eq_true rfl) ?_
  intro z hzl hR C hRt hLk hEz
  subst hzl
  have hll := lastF_le (σ.2 7) (σ.1 0 7 - 1).toNat (σ.1 0 7 - 1)
  change σ.1 0 7 - 1 - ((σ.1 0 7 - 1).toNat : Int) ≤ p_lst (σ.2 7) (σ.1 0 7) ∧ p_lst (σ.2 7) (σ.1 0 7) ≤ σ.1 0 7 - 1 at hll
  have L : p_first (σ.2 7) (σ.1 0 7) → σ.2 7 (σ.1 0 7 - 1).toNat = 10 → (p_tell (σ.2 7) (σ.1 0 7) (p_lst (σ.2 7) (σ.1 0 7)) 101 ∧ p_x0 (σ.2 7) (σ.1 0 7) < p_lst (σ.2 7) (σ.1 0 7)) → ∀ (n i : Nat) (S : fS), (p_ch (σ.2 7) (σ.1 0 7) i).toNat < n → 0 ≤ p_ch (σ.2 7) (σ.1 0 7) i → p_ch (σ.2 7) (σ.1 0 7) i ≤ 11999 → i ≤ 59 → m_scx σ S → S.1 0 24 = (i : Int) → (∀ t, t < i → S.2 15 t = p_ch (σ.2 7) (σ.1 0 7) t) → (∀ t, t < i → (∃ g, p_look (σ.2 7) (σ.1 0 7) (p_ch (σ.2 7) (σ.1 0 7) t) (t + 1) (p_ch (σ.2 7) (σ.1 0 7) (t + 1)) g) ∧ 0 < p_ch (σ.2 7) (σ.1 0 7) (t + 1)) → fv z (mG xCl D cA ad) 4 (f_R z (mG xCl D cA ad) (f_QI (fun r σ1 => m_scx σ σ1 ∧ p_file (σ.2 7) (σ.1 0 7) r (σ1.1 0 23) (σ1.1 0 24) (σ1.2 15)) (mG xCl D cA ad))) 0 0 S 139 [some (.ref (ad 0)), some (.int (fI (p_lst (σ.2 7) (σ.1 0 7)))), some (.int (fI (p_ch (σ.2 7) (σ.1 0 7) i))), some (.int (fI 1))] [] := by
    intro hF1 hF2 hF3 n
    induction n with
    | zero => intro i S h; exact absurd h (Nat.not_lt_zero _)
    | succ n ih =>
      intro i S hn hc0 hc1 hi hS hS24 hxs hlk
      refine v_iload_n C dM_isFile_139 rfl rfl ?_
      refine v_if_eq (tgt := 189) C dM_isFile_140 (by decide) (by omega) (fun hc1 => ?_) (fun hc1 => ?_)
      · exfalso; omega
      · refine v_aload_n C dM_isFile_143 rfl rfl ?_
        refine v_getR (k := 0) (q := 25) C dM_isFile_144 (by show (0 : Nat) < 18; decide) rfl rfl (by decide) rfl inM lM_54 rfl ?_
        refine v_aload_n C dM_isFile_147 rfl rfl ?_
        refine v_getI (k := 0) (q := 24) (v := (i : Int)) C dM_isFile_148 (by show (0 : Nat) < 18; decide) rfl rfl (by decide) rfl inM lM_175 rfl hS24 ?_
        refine v_iload_n C dM_isFile_151 rfl rfl ?_
        refine v_iast (k := 15) C dM_isFile_152 (by show (15 : Nat) < 18; decide) rfl rfl (by omega) (by decide) ?_
        refine v_aload_n C dM_isFile_153 rfl rfl ?_
        refine v_dup C dM_isFile_154 rfl ?_
        refine v_getI (k := 0) (q := 24) (v := (i : Int)) C dM_isFile_155 (by show (0 : Nat) < 18; decide) rfl rfl (by decide) rfl inM lM_175 rfl hS24 ?_
        refine v_iconst C dM_isFile_158 ?_
        refine v_iadd C dM_isFile_159 ?_
        refine v_putI (k := 0) (q := 24) C dM_isFile_160 (by show (0 : Nat) < 18; decide) rfl rfl (by decide) rfl inM tyM_ok nmM lM_175 rfl rfl rfl rfl rfl ?_
        obtain ⟨υ, hυ⟩ : ∃ s, s = f_p1 (f_p2 S 15 ((i : Int)).toNat (p_ch (σ.2 7) (σ.1 0 7) i)) 0 24 ((i : Int) + 1) := ⟨_, rfl⟩
        refine v_st hυ.symm ?_
        have hυx : m_scx σ υ := by rw [hυ]; exact m_scx_24 (m_scx_15 hS _ _) _
        have hυ24 : υ.1 0 24 = (i : Int) + 1 := by rw [hυ]; rfl
        have hυ15 : ∀ t, t ≤ i → υ.2 15 t = p_ch (σ.2 7) (σ.1 0 7) t := by
          intro t ht
          rw [hυ, p1_2, p2_2]
          by_cases h9 : t = i
          · rw [if_pos (by omega), h9]
          · rw [if_neg (by omega)]; exact hxs t (by omega)
        refine v_aload_n C dM_isFile_163 rfl rfl ?_
        refine v_iload_n C dM_isFile_164 rfl rfl ?_
        refine v_cVI (k := 0) (n := 1) C (mE_ok _) trivial hR (kM_lookAt _ xCl D cA ad hJ υ ((p_ch (σ.2 7) (σ.1 0 7) i)) (by omega) (by rw [m_scx_z hυx]; exact hz) (by rw [hυ24]; omega) (fun i => by rw [m_scx_f hυx]; exact h7 i)) dM_isFile_165 (by show (0 : Nat) < 18; decide) rfl rfl gM_188 (by decide +kernel) (by decide) (by decide) rfl (Nat.le_of_ble_eq_true rfl) rfl ⟨rfl, rfl⟩ (fun r1 τ1 hp1 => ?_)
        obtain ⟨g1_s, g1_p⟩ := hp1
        rw [m_scx_f hυx, m_scx_z hυx, hυ24] at g1_p
        have g1_r := p_look_r g1_p
        have g1_x := m_scx_tr hυx (m_scx_of g1_s)
        have g1_24 : τ1.1 0 24 = (i : Int) + 1 := by rw [g1_s.2 0 24 (by decide)]; exact hυ24
        have g1_15 : τ1.2 15 = υ.2 15 := by rw [g1_s.1]
        · refine v_istore_n C dM_isFile_168 rfl (by decide) ?_
          have g1_b : -1 ≤ r1 ∧ r1 ≤ 99999 := by rcases g1_r with h | h; (· omega); (· have := p_num_v (σ.2 7) (p_eol (σ.2 7) (σ.1 0 7) (p_pl (σ.2 7) (σ.1 0 7) (p_ch (σ.2 7) (σ.1 0 7) i))) (p_pl (σ.2 7) (σ.1 0 7) (p_ch (σ.2 7) (σ.1 0 7) i) + 2); rw [h.1]; unfold p_tv; omega)
          refine v_iload_n C dM_isFile_169 rfl rfl ?_
          refine v_iconst C dM_isFile_170 ?_
          refine v_icmp_ne (tgt := 176) C dM_isFile_171 (by decide) (by omega) (by omega) (fun hc2 => ?_) (fun hc2 => ?_)
          · have g1_q := g1_r.resolve_left (by omega)
            have g1_v : r1 = p_ch (σ.2 7) (σ.1 0 7) (i + 1) := g1_q.1
            have g1_k := g1_q.2
            have g1_k1 := g1_k.2.1
            have g1_k2 := g1_k.2.2
            change p_ch (σ.2 7) (σ.1 0 7) (i + 1) < p_ch (σ.2 7) (σ.1 0 7) i at g1_k1
            change ¬ (0 < p_ch (σ.2 7) (σ.1 0 7) (i + 1) ∧ ((i : Int) + 1) = 60) at g1_k2
            refine v_iload_n C dM_isFile_176 rfl rfl ?_
            refine v_if_le (tgt := 184) C dM_isFile_177 (by decide) (by omega) (fun hc3 => ?_) (fun hc3 => ?_)
            · refine v_iconst C dM_isFile_184 ?_
              refine v_istore_n C dM_isFile_185 rfl (by decide) ?_
              refine v_goto (tgt := 139) C dM_isFile_186 (by decide) ?_
              refine v_iload_n C dM_isFile_139 rfl rfl ?_
              refine v_if_eq (tgt := 189) C dM_isFile_140 (by decide) (by omega) (fun hc4 => ?_) (fun hc4 => ?_)
              · refine v_iconst C dM_isFile_189 ?_
                exact v_zret C hRt hLk dM_isFile_190 (fN_bool (by omega)) ⟨g1_x, Or.inr ⟨hF1, Or.inr ⟨hF2, Or.inr ⟨hF3, i, hi, hlk, Or.inr ⟨⟨_, by rw [show (0 : Int) = r1 by omega]; exact g1_p⟩, rfl, g1_24, fun t ht => by rw [g1_15]; exact hυ15 t ht⟩⟩⟩⟩⟩
              · exfalso; omega
            · refine v_iconst C dM_isFile_180 ?_
              refine v_goto (tgt := 185) C dM_isFile_181 (by decide) ?_
              refine v_istore_n C dM_isFile_185 rfl (by decide) ?_
              refine v_goto (tgt := 139) C dM_isFile_186 (by decide) ?_
              exact v_lv (by rw [g1_v]; rfl) (ih (i + 1) τ1 (by rw [← g1_v]; omega) (by omega) (by omega) (by omega) g1_x (by rw [g1_24]; push_cast; rfl) (fun t ht => by rw [g1_15]; exact hυ15 t (by omega)) (fun t ht => (Nat.lt_succ_iff_lt_or_eq.mp ht).elim (fun h => hlk t h) (fun h => by rw [h]; exact ⟨⟨_, by rw [← g1_v]; exact g1_p⟩, by omega⟩)))
          · refine v_iconst C dM_isFile_174 ?_
            exact v_zret C hRt hLk dM_isFile_175 (fN_bool (by omega)) ⟨g1_x, Or.inr ⟨hF1, Or.inr ⟨hF2, Or.inr ⟨hF3, i, hi, hlk, Or.inl ⟨by rw [show (-1 : Int) = r1 by omega]; exact g1_p, rfl⟩⟩⟩⟩⟩
  have LL : p_first (σ.2 7) (σ.1 0 7) → σ.2 7 (σ.1 0 7 - 1).toNat = 10 → ∀ (k : Nat) (p : Int) (S : fS), p.toNat = k → 0 ≤ p → p ≤ σ.1 0 7 - 1 → lastF (σ.2 7) k p = p_lst (σ.2 7) (σ.1 0 7) → m_scr σ S → fv z (mG xCl D cA ad) 4 (f_R z (mG xCl D cA ad) (f_QI (fun r σ1 => m_scx σ σ1 ∧ p_file (σ.2 7) (σ.1 0 7) r (σ1.1 0 23) (σ1.1 0 24) (σ1.2 15)) (mG xCl D cA ad))) 0 0 S 80 [some (.ref (ad 0)), some (.int (fI p)), none, none] [] := by
    intro hF1 hF2 k
    induction k with
    | zero =>
      intro p S hk hp0 hp1 hE hs
      have hbp := h7 (p - 1).toNat
      have hE1 : p = p_lst (σ.2 7) (σ.1 0 7) := hE
      refine v_iload_n C dM_isFile_80 rfl rfl ?_
      refine v_if_le (tgt := 103) C dM_isFile_81 (by decide) (by omega) (fun hc5 => ?_) (fun hc5 => ?_)
      · have hpe : p = p_lst (σ.2 7) (σ.1 0 7) := by first | exact hE1 | exact hE2.elim (fun h => h.2) (fun h => absurd (by omega) h.1)
        subst hpe
        refine v_aload_n C dM_isFile_103 rfl rfl ?_
        refine v_iload_n C dM_isFile_104 rfl rfl ?_
        refine v_bipush C dM_isFile_105 (by decide +kernel) ?_
        have hz6 : 0 ≤ S.1 0 7 ∧ S.1 0 7 ≤ 12000 := by rw [m_scr_z hs]; exact hz
        have hb7 : ∀ i, -128 ≤ S.2 7 i ∧ S.2 7 i ≤ 127 := fun i => by rw [m_scr_a hs]; exact h7 i
        refine v_cVI (k := 0) (n := 2) C (mE_ok _) trivial hR (kM_tells _ xCl D cA ad hJ S ((p_lst (σ.2 7) (σ.1 0 7))) (101) (by omega) (by omega) hz6 hb7) dM_isFile_107 (by show (0 : Nat) < 18; decide) rfl rfl gM_169 (by decide +kernel) (by decide) (by decide) rfl (Nat.le_of_ble_eq_true rfl) rfl ⟨rfl, rfl⟩ (fun r2 τ2 hp2 => ?_)
        simp only [hs.1, m_scr_z hs] at hp2
        obtain ⟨g2_s, g2_x, g2_y, ⟨g2_c, rfl, g2_20, g2_22⟩ | ⟨g2_c, rfl⟩⟩ := hp2
        · have hs2_ := m_scr_tr hs g2_s
          have g2_e := g2_c.1
          have g2_l := @p_eol_le (σ.2 7) (σ.1 0 7) ((p_lst (σ.2 7) (σ.1 0 7)))
          have g2_v := p_num_v (σ.2 7) (p_eol (σ.2 7) (σ.1 0 7) ((p_lst (σ.2 7) (σ.1 0 7)))) ((p_lst (σ.2 7) (σ.1 0 7)) + 2)
          change 0 ≤ p_tv (σ.2 7) (σ.1 0 7) ((p_lst (σ.2 7) (σ.1 0 7))) ∧ p_tv (σ.2 7) (σ.1 0 7) ((p_lst (σ.2 7) (σ.1 0 7))) ≤ 99999 at g2_v
          refine v_if_eq (tgt := 121) C dM_isFile_110 (by decide) (by omega) (fun hc8 => ?_) (fun hc8 => ?_)
          · exfalso; omega
          · refine v_aload_n C dM_isFile_113 rfl rfl ?_
            refine v_getI (k := 0) (q := 22) (v := p_tv (σ.2 7) (σ.1 0 7) ((p_lst (σ.2 7) (σ.1 0 7)))) C dM_isFile_114 (by show (0 : Nat) < 18; decide) rfl rfl (by decide) rfl inM lM_147 rfl g2_22 ?_
            refine v_iload_n C dM_isFile_117 rfl rfl ?_
            refine v_icmp_lt (tgt := 127) C dM_isFile_118 (by decide) (by omega) (by omega) (fun hc9 => ?_) (fun hc9 => ?_)
            · refine v_aload_n C dM_isFile_127 rfl rfl ?_
              refine v_getI (k := 0) (q := 22) (v := p_tv (σ.2 7) (σ.1 0 7) ((p_lst (σ.2 7) (σ.1 0 7)))) C dM_isFile_128 (by show (0 : Nat) < 18; decide) rfl rfl (by decide) rfl inM lM_147 rfl g2_22 ?_
              refine v_istore_n C dM_isFile_131 rfl (by decide) ?_
              refine v_aload_n C dM_isFile_132 rfl rfl ?_
              refine v_iconst C dM_isFile_133 ?_
              refine v_putI (k := 0) (q := 24) C dM_isFile_134 (by show (0 : Nat) < 18; decide) rfl rfl (by decide) rfl inM tyM_ok nmM lM_175 rfl rfl rfl rfl rfl ?_
              refine v_iconst C dM_isFile_137 ?_
              refine v_istore_n C dM_isFile_138 rfl (by decide) ?_
              exact L hF1 hF2 ⟨g2_c, by unfold p_x0; omega⟩ ((p_x0 (σ.2 7) (σ.1 0 7)).toNat + 1) 0 _ (by show (p_x0 (σ.2 7) (σ.1 0 7)).toNat < _; omega) (by show 0 ≤ p_x0 (σ.2 7) (σ.1 0 7); unfold p_x0; omega) (by show p_x0 (σ.2 7) (σ.1 0 7) ≤ 11999; unfold p_x0; omega) (by omega) (m_scx_24 (m_scx_of (m_scf_of hs2_)) 0) rfl (fun t ht => absurd ht (Nat.not_lt_zero t)) (fun t ht => absurd ht (Nat.not_lt_zero t))
            · refine v_aload_n C dM_isFile_121 rfl rfl ?_
              refine v_iload_n C dM_isFile_122 rfl rfl ?_
              refine v_cVI (k := 0) (n := 1) C (mE_ok _) trivial hR (kM_wrong _ xCl D cA ad hJ τ2 ((p_lst (σ.2 7) (σ.1 0 7)))) dM_isFile_123 (by show (0 : Nat) < 18; decide) rfl rfl gM_185 (by decide +kernel) (by decide) (by decide) rfl (Nat.le_of_ble_eq_true rfl) rfl ⟨rfl, rfl⟩ (fun r3 τ3 hp3 => ?_)
              obtain ⟨rfl, hw3⟩ := hp3
              subst τ3
              · exact v_zret C hRt hLk dM_isFile_126 (fN_bool (by omega)) ⟨m_scx_of (m_scf_p (m_scf_of hs2_) _), Or.inr ⟨hF1, Or.inr ⟨hF2, Or.inl ⟨fun h9 => by first | exact g2_c h9.1 | (have h91 := h9.2; unfold p_x0 at h91; omega), rfl, rfl⟩⟩⟩⟩
        · have hs2_ := m_scr_tr hs g2_s
          refine v_if_eq (tgt := 121) C dM_isFile_110 (by decide) (by omega) (fun hc10 => ?_) (fun hc10 => ?_)
          · refine v_aload_n C dM_isFile_121 rfl rfl ?_
            refine v_iload_n C dM_isFile_122 rfl rfl ?_
            refine v_cVI (k := 0) (n := 1) C (mE_ok _) trivial hR (kM_wrong _ xCl D cA ad hJ τ2 ((p_lst (σ.2 7) (σ.1 0 7)))) dM_isFile_123 (by show (0 : Nat) < 18; decide) rfl rfl gM_185 (by decide +kernel) (by decide) (by decide) rfl (Nat.le_of_ble_eq_true rfl) rfl ⟨rfl, rfl⟩ (fun r4 τ4 hp4 => ?_)
            obtain ⟨rfl, hw4⟩ := hp4
            subst τ4
            · exact v_zret C hRt hLk dM_isFile_126 (fN_bool (by omega)) ⟨m_scx_of (m_scf_p (m_scf_of hs2_) _), Or.inr ⟨hF1, Or.inr ⟨hF2, Or.inl ⟨fun h9 => by first | exact g2_c h9.1 | (have h91 := h9.2; unfold p_x0 at h91; omega), rfl, rfl⟩⟩⟩⟩
          · exfalso; omega
      · exfalso; omega
    | succ k ih =>
      intro p S hk hp0 hp1 hE hs
      have hbp := h7 (p - 1).toNat
      unfold lastF at hE
      have hE2 : (σ.2 7 (p - 1).toNat = 10 ∧ p = p_lst (σ.2 7) (σ.1 0 7)) ∨ (¬ σ.2 7 (p - 1).toNat = 10 ∧ lastF (σ.2 7) k (p - 1) = p_lst (σ.2 7) (σ.1 0 7)) := by
        by_cases h9 : σ.2 7 (p - 1).toNat = 10
        · rw [if_pos h9] at hE; exact Or.inl ⟨h9, hE⟩
        · rw [if_neg h9] at hE; exact Or.inr ⟨h9, hE⟩
      refine v_iload_n C dM_isFile_80 rfl rfl ?_
      refine v_if_le (tgt := 103) C dM_isFile_81 (by decide) (by omega) (fun hc11 => ?_) (fun hc11 => ?_)
      · exfalso; omega
      · refine v_aload_n C dM_isFile_84 rfl rfl ?_
        refine v_getR (k := 0) (q := 8) C dM_isFile_85 (by show (0 : Nat) < 18; decide) rfl rfl (by decide) rfl inM lM_30 rfl ?_
        refine v_iload_n C dM_isFile_88 rfl rfl ?_
        refine v_iconst C dM_isFile_89 ?_
        refine v_isub C dM_isFile_90 ?_
        refine v_bald (k := 7) (v := σ.2 7 ((p - 1)).toNat) C dM_isFile_91 (by show (7 : Nat) < 18; decide) rfl rfl (by omega) (by decide) (m_scr_a hs _ _) ?_
        refine v_bipush C dM_isFile_92 (by decide +kernel) ?_
        refine v_icmp_eq (tgt := 103) C dM_isFile_94 (by decide) (by omega) (by omega) (fun hc12 => ?_) (fun hc12 => ?_)
        · have hpe : p = p_lst (σ.2 7) (σ.1 0 7) := by first | exact hE1 | exact hE2.elim (fun h => h.2) (fun h => absurd (by omega) h.1)
          subst hpe
          refine v_aload_n C dM_isFile_103 rfl rfl ?_
          refine v_iload_n C dM_isFile_104 rfl rfl ?_
          refine v_bipush C dM_isFile_105 (by decide +kernel) ?_
          have hz13 : 0 ≤ S.1 0 7 ∧ S.1 0 7 ≤ 12000 := by rw [m_scr_z hs]; exact hz
          have hb14 : ∀ i, -128 ≤ S.2 7 i ∧ S.2 7 i ≤ 127 := fun i => by rw [m_scr_a hs]; exact h7 i
          refine v_cVI (k := 0) (n := 2) C (mE_ok _) trivial hR (kM_tells _ xCl D cA ad hJ S ((p_lst (σ.2 7) (σ.1 0 7))) (101) (by omega) (by omega) hz13 hb14) dM_isFile_107 (by show (0 : Nat) < 18; decide) rfl rfl gM_169 (by decide +kernel) (by decide) (by decide) rfl (Nat.le_of_ble_eq_true rfl) rfl ⟨rfl, rfl⟩ (fun r5 τ5 hp5 => ?_)
          simp only [hs.1, m_scr_z hs] at hp5
          obtain ⟨g5_s, g5_x, g5_y, ⟨g5_c, rfl, g5_20, g5_22⟩ | ⟨g5_c, rfl⟩⟩ := hp5
          · have hs5_ := m_scr_tr hs g5_s
            have g5_e := g5_c.1
            have g5_l := @p_eol_le (σ.2 7) (σ.1 0 7) ((p_lst (σ.2 7) (σ.1 0 7)))
            have g5_v := p_num_v (σ.2 7) (p_eol (σ.2 7) (σ.1 0 7) ((p_lst (σ.2 7) (σ.1 0 7)))) ((p_lst (σ.2 7) (σ.1 0 7)) + 2)
            change 0 ≤ p_tv (σ.2 7) (σ.1 0 7) ((p_lst (σ.2 7) (σ.1 0 7))) ∧ p_tv (σ.2 7) (σ.1 0 7) ((p_lst (σ.2 7) (σ.1 0 7))) ≤ 99999 at g5_v
            refine v_if_eq (tgt := 121) C dM_isFile_110 (by decide) (by omega) (fun hc15 => ?_) (fun hc15 => ?_)
            · exfalso; omega
            · refine v_aload_n C dM_isFile_113 rfl rfl ?_
              refine v_getI (k := 0) (q := 22) (v := p_tv (σ.2 7) (σ.1 0 7) ((p_lst (σ.2 7) (σ.1 0 7)))) C dM_isFile_114 (by show (0 : Nat) < 18; decide) rfl rfl (by decide) rfl inM lM_147 rfl g5_22 ?_
              refine v_iload_n C dM_isFile_117 rfl rfl ?_
              refine v_icmp_lt (tgt := 127) C dM_isFile_118 (by decide) (by omega) (by omega) (fun hc16 => ?_) (fun hc16 => ?_)
              · refine v_aload_n C dM_isFile_127 rfl rfl ?_
                refine v_getI (k := 0) (q := 22) (v := p_tv (σ.2 7) (σ.1 0 7) ((p_lst (σ.2 7) (σ.1 0 7)))) C dM_isFile_128 (by show (0 : Nat) < 18; decide) rfl rfl (by decide) rfl inM lM_147 rfl g5_22 ?_
                refine v_istore_n C dM_isFile_131 rfl (by decide) ?_
                refine v_aload_n C dM_isFile_132 rfl rfl ?_
                refine v_iconst C dM_isFile_133 ?_
                refine v_putI (k := 0) (q := 24) C dM_isFile_134 (by show (0 : Nat) < 18; decide) rfl rfl (by decide) rfl inM tyM_ok nmM lM_175 rfl rfl rfl rfl rfl ?_
                refine v_iconst C dM_isFile_137 ?_
                refine v_istore_n C dM_isFile_138 rfl (by decide) ?_
                exact L hF1 hF2 ⟨g5_c, by unfold p_x0; omega⟩ ((p_x0 (σ.2 7) (σ.1 0 7)).toNat + 1) 0 _ (by show (p_x0 (σ.2 7) (σ.1 0 7)).toNat < _; omega) (by show 0 ≤ p_x0 (σ.2 7) (σ.1 0 7); unfold p_x0; omega) (by show p_x0 (σ.2 7) (σ.1 0 7) ≤ 11999; unfold p_x0; omega) (by omega) (m_scx_24 (m_scx_of (m_scf_of hs5_)) 0) rfl (fun t ht => absurd ht (Nat.not_lt_zero t)) (fun t ht => absurd ht (Nat.not_lt_zero t))
              · refine v_aload_n C dM_isFile_121 rfl rfl ?_
                refine v_iload_n C dM_isFile_122 rfl rfl ?_
                refine v_cVI (k := 0) (n := 1) C (mE_ok _) trivial hR (kM_wrong _ xCl D cA ad hJ τ5 ((p_lst (σ.2 7) (σ.1 0 7)))) dM_isFile_123 (by show (0 : Nat) < 18; decide) rfl rfl gM_185 (by decide +kernel) (by decide) (by decide) rfl (Nat.le_of_ble_eq_true rfl) rfl ⟨rfl, rfl⟩ (fun r6 τ6 hp6 => ?_)
                obtain ⟨rfl, hw6⟩ := hp6
                subst τ6
                · exact v_zret C hRt hLk dM_isFile_126 (fN_bool (by omega)) ⟨m_scx_of (m_scf_p (m_scf_of hs5_) _), Or.inr ⟨hF1, Or.inr ⟨hF2, Or.inl ⟨fun h9 => by first | exact g5_c h9.1 | (have h91 := h9.2; unfold p_x0 at h91; omega), rfl, rfl⟩⟩⟩⟩
          · have hs5_ := m_scr_tr hs g5_s
            refine v_if_eq (tgt := 121) C dM_isFile_110 (by decide) (by omega) (fun hc17 => ?_) (fun hc17 => ?_)
            · refine v_aload_n C dM_isFile_121 rfl rfl ?_
              refine v_iload_n C dM_isFile_122 rfl rfl ?_
              refine v_cVI (k := 0) (n := 1) C (mE_ok _) trivial hR (kM_wrong _ xCl D cA ad hJ τ5 ((p_lst (σ.2 7) (σ.1 0 7)))) dM_isFile_123 (by show (0 : Nat) < 18; decide) rfl rfl gM_185 (by decide +kernel) (by decide) (by decide) rfl (Nat.le_of_ble_eq_true rfl) rfl ⟨rfl, rfl⟩ (fun r7 τ7 hp7 => ?_)
              obtain ⟨rfl, hw7⟩ := hp7
              subst τ7
              · exact v_zret C hRt hLk dM_isFile_126 (fN_bool (by omega)) ⟨m_scx_of (m_scf_p (m_scf_of hs5_) _), Or.inr ⟨hF1, Or.inr ⟨hF2, Or.inl ⟨fun h9 => by first | exact g5_c h9.1 | (have h91 := h9.2; unfold p_x0 at h91; omega), rfl, rfl⟩⟩⟩⟩
            · exfalso; omega
        · refine v_iinc C dM_isFile_97 rfl (by decide) ?_
          refine v_goto (tgt := 80) C dM_isFile_100 (by decide) ?_
          exact v_lv rfl (ih (p + (-1)) S (by omega) (by omega) (by omega) (by rw [show p + (-1) = p - 1 by omega]; exact hE2.elim (fun h => absurd h.1 (by omega)) (fun h => h.2)) hs)
  refine v_aload_n C dM_isFile_0 rfl rfl ?_
  refine v_iconst C dM_isFile_1 ?_
  refine v_cVI (k := 0) (n := 1) C (mE_ok _) trivial hR (kM_line2 _ xCl D cA ad hJ σ (0) (by omega) hz h7) dM_isFile_2 (by show (0 : Nat) < 18; decide) rfl rfl gM_150 (by decide +kernel) (by decide) (by decide) rfl (Nat.le_of_ble_eq_true rfl) rfl ⟨rfl, rfl⟩ (fun r8 τ8 hp8 => ?_)
  obtain ⟨g8_s, g8_21, g8_20, g8_22, g8_26, g8_27, ⟨g8_c, rfl⟩ | ⟨g8_c, rfl⟩⟩ := hp8
  · have hs8_ := g8_s
    have g8_l := @p_eol_le (σ.2 7) (σ.1 0 7) (0)
    refine v_if_eq (tgt := 42) C dM_isFile_5 (by decide) (by omega) (fun hc18 => ?_) (fun hc18 => ?_)
    · exfalso; omega
    · refine v_aload_n C dM_isFile_8 rfl rfl ?_
      refine v_bipush C dM_isFile_9 (by decide +kernel) ?_
      have hz19 : 0 ≤ τ8.1 0 7 ∧ τ8.1 0 7 ≤ 12000 := by rw [m_scr_z hs8_]; exact hz
      have hb20 : ∀ i, -128 ≤ τ8.2 7 i ∧ τ8.2 7 i ≤ 127 := fun i => by rw [m_scr_a hs8_]; exact h7 i
      refine v_cVI (k := 0) (n := 1) C (mE_ok _) trivial hR (kM_takes2 _ xCl D cA ad hJ τ8 (37) (by omega) (by omega) (by omega) (by omega) hb20) dM_isFile_11 (by show (0 : Nat) < 18; decide) rfl rfl gM_153 (by decide +kernel) (by decide) (by decide) rfl (Nat.le_of_ble_eq_true rfl) rfl ⟨rfl, rfl⟩ (fun r9 τ9 hp9 => ?_)
      simp only [hs8_.1, m_scr_z hs8_, g8_20, g8_21, g8_22, g8_26, g8_27] at hp9
      obtain ⟨g9_s, g9_20, g9_22, g9_26, g9_27, ⟨g9_c, rfl, g9_21⟩ | ⟨g9_c, rfl, g9_21⟩⟩ := hp9
      · have hs9_ := m_scr_tr hs8_ g9_s
        have g9_21n : τ9.1 0 21 = 0 + 1 := by omega
        refine v_if_eq (tgt := 42) C dM_isFile_14 (by decide) (by omega) (fun hc21 => ?_) (fun hc21 => ?_)
        · exfalso; omega
        · refine v_aload_n C dM_isFile_17 rfl rfl ?_
          refine v_bipush C dM_isFile_18 (by decide +kernel) ?_
          have hz22 : 0 ≤ τ9.1 0 7 ∧ τ9.1 0 7 ≤ 12000 := by rw [m_scr_z hs9_]; exact hz
          have hb23 : ∀ i, -128 ≤ τ9.2 7 i ∧ τ9.2 7 i ≤ 127 := fun i => by rw [m_scr_a hs9_]; exact h7 i
          refine v_cVI (k := 0) (n := 1) C (mE_ok _) trivial hR (kM_takes2 _ xCl D cA ad hJ τ9 (70) (by omega) (by omega) (by omega) (by omega) hb23) dM_isFile_20 (by show (0 : Nat) < 18; decide) rfl rfl gM_153 (by decide +kernel) (by decide) (by decide) rfl (Nat.le_of_ble_eq_true rfl) rfl ⟨rfl, rfl⟩ (fun r10 τ10 hp10 => ?_)
          simp only [hs9_.1, m_scr_z hs9_, g9_20, g9_21n, g9_22, g9_26, g9_27] at hp10
          obtain ⟨g10_s, g10_20, g10_22, g10_26, g10_27, ⟨g10_c, rfl, g10_21⟩ | ⟨g10_c, rfl, g10_21⟩⟩ := hp10
          · have hs10_ := m_scr_tr hs9_ g10_s
            have g10_21n : τ10.1 0 21 = 0 + 2 := by omega
            refine v_if_eq (tgt := 42) C dM_isFile_23 (by decide) (by omega) (fun hc24 => ?_) (fun hc24 => ?_)
            · exfalso; omega
            · refine v_aload_n C dM_isFile_26 rfl rfl ?_
              refine v_bipush C dM_isFile_27 (by decide +kernel) ?_
              have hz25 : 0 ≤ τ10.1 0 7 ∧ τ10.1 0 7 ≤ 12000 := by rw [m_scr_z hs10_]; exact hz
              have hb26 : ∀ i, -128 ≤ τ10.2 7 i ∧ τ10.2 7 i ≤ 127 := fun i => by rw [m_scr_a hs10_]; exact h7 i
              refine v_cVI (k := 0) (n := 1) C (mE_ok _) trivial hR (kM_takes2 _ xCl D cA ad hJ τ10 (49) (by omega) (by omega) (by omega) (by omega) hb26) dM_isFile_29 (by show (0 : Nat) < 18; decide) rfl rfl gM_153 (by decide +kernel) (by decide) (by decide) rfl (Nat.le_of_ble_eq_true rfl) rfl ⟨rfl, rfl⟩ (fun r11 τ11 hp11 => ?_)
              simp only [hs10_.1, m_scr_z hs10_, g10_20, g10_21n, g10_22, g10_26, g10_27] at hp11
              obtain ⟨g11_s, g11_20, g11_22, g11_26, g11_27, ⟨g11_c, rfl, g11_21⟩ | ⟨g11_c, rfl, g11_21⟩⟩ := hp11
              · have hs11_ := m_scr_tr hs10_ g11_s
                have g11_21n : τ11.1 0 21 = 0 + 3 := by omega
                refine v_if_eq (tgt := 42) C dM_isFile_32 (by decide) (by omega) (fun hc27 => ?_) (fun hc27 => ?_)
                · exfalso; omega
                · refine v_aload_n C dM_isFile_35 rfl rfl ?_
                  have hz28 : 0 ≤ τ11.1 0 7 ∧ τ11.1 0 7 ≤ 12000 := by rw [m_scr_z hs11_]; exact hz
                  have hb29 : ∀ i, -128 ≤ τ11.2 7 i ∧ τ11.2 7 i ≤ 127 := fun i => by rw [m_scr_a hs11_]; exact h7 i
                  refine v_cVI (k := 0) (n := 0) C (mE_ok _) trivial hR (kM_isOver2 _ xCl D cA ad hJ τ11 (by omega) (by omega)) dM_isFile_36 (by show (0 : Nat) < 18; decide) rfl rfl gM_160 (by decide +kernel) (by decide) (by decide) rfl (Nat.le_of_ble_eq_true rfl) rfl ⟨rfl, rfl⟩ (fun r12 τ12 hp12 => ?_)
                  simp only [hs11_.1, m_scr_z hs11_, g11_20, g11_21n, g11_22, g11_26, g11_27] at hp12
                  obtain ⟨g12_c, rfl, g12_e⟩ | ⟨g12_c, rfl, g12_e⟩ := hp12
                  · subst τ12
                    refine v_if_ne (tgt := 48) C dM_isFile_39 (by decide) (by omega) (fun hc30 => ?_) (fun hc30 => ?_)
                    · refine v_aload_n C dM_isFile_48 rfl rfl ?_
                      refine v_getR (k := 0) (q := 8) C dM_isFile_49 (by show (0 : Nat) < 18; decide) rfl rfl (by decide) rfl inM lM_30 rfl ?_
                      refine v_aload_n C dM_isFile_52 rfl rfl ?_
                      refine v_getI (k := 0) (q := 7) (v := σ.1 0 7) C dM_isFile_53 (by show (0 : Nat) < 18; decide) rfl rfl (by decide) rfl inM lM_116 rfl (hs11_.2 0 7 (by decide)) ?_
                      refine v_iconst C dM_isFile_56 ?_
                      refine v_isub C dM_isFile_57 ?_
                      have hb31 := h7 ((σ.1 0 7 - 1)).toNat
                      refine v_bald (k := 7) (v := σ.2 7 ((σ.1 0 7 - 1)).toNat) C dM_isFile_58 (by show (7 : Nat) < 18; decide) rfl rfl (by omega) (by decide) (m_scr_a hs11_ _ _) ?_
                      refine v_bipush C dM_isFile_59 (by decide +kernel) ?_
                      refine v_icmp_eq (tgt := 73) C dM_isFile_61 (by decide) (by omega) (by omega) (fun hc32 => ?_) (fun hc32 => ?_)
                      · refine v_aload_n C dM_isFile_73 rfl rfl ?_
                        refine v_getI (k := 0) (q := 7) (v := σ.1 0 7) C dM_isFile_74 (by show (0 : Nat) < 18; decide) rfl rfl (by decide) rfl inM lM_116 rfl (hs11_.2 0 7 (by decide)) ?_
                        refine v_iconst C dM_isFile_77 ?_
                        refine v_isub C dM_isFile_78 ?_
                        refine v_istore_n C dM_isFile_79 rfl (by decide) ?_
                        exact v_less (by exact ⟨rfl, rfl, trivial⟩) (LL ⟨g8_c, g9_c, g10_c, g11_c, g12_c⟩ (by omega) (σ.1 0 7 - 1).toNat (σ.1 0 7 - 1) τ11 rfl (by omega) (by omega) rfl hs11_)
                      · refine v_aload_n C dM_isFile_64 rfl rfl ?_
                        refine v_aload_n C dM_isFile_65 rfl rfl ?_
                        refine v_getI (k := 0) (q := 7) (v := σ.1 0 7) C dM_isFile_66 (by show (0 : Nat) < 18; decide) rfl rfl (by decide) rfl inM lM_116 rfl (hs11_.2 0 7 (by decide)) ?_
                        refine v_cVI (k := 0) (n := 1) C (mE_ok _) trivial hR (kM_wrong _ xCl D cA ad hJ τ11 (σ.1 0 7)) dM_isFile_69 (by show (0 : Nat) < 18; decide) rfl rfl gM_185 (by decide +kernel) (by decide) (by decide) rfl (Nat.le_of_ble_eq_true rfl) rfl ⟨rfl, rfl⟩ (fun r13 τ13 hp13 => ?_)
                        obtain ⟨rfl, hw13⟩ := hp13
                        subst τ13
                        · exact v_zret C hRt hLk dM_isFile_72 (fN_bool (by omega)) ⟨m_scx_of (m_scf_p (m_scf_of hs11_) _), Or.inr ⟨⟨g8_c, g9_c, g10_c, g11_c, g12_c⟩, Or.inl ⟨by omega, rfl, rfl⟩⟩⟩
                    · exfalso; omega
                  · subst τ12
                    refine v_if_ne (tgt := 48) C dM_isFile_39 (by decide) (by omega) (fun hc33 => ?_) (fun hc33 => ?_)
                    · exfalso; omega
                    · refine v_aload_n C dM_isFile_42 rfl rfl ?_
                      refine v_iconst C dM_isFile_43 ?_
                      refine v_cVI (k := 0) (n := 1) C (mE_ok _) trivial hR (kM_wrong _ xCl D cA ad hJ τ11 (0)) dM_isFile_44 (by show (0 : Nat) < 18; decide) rfl rfl gM_185 (by decide +kernel) (by decide) (by decide) rfl (Nat.le_of_ble_eq_true rfl) rfl ⟨rfl, rfl⟩ (fun r14 τ14 hp14 => ?_)
                      obtain ⟨rfl, hw14⟩ := hp14
                      subst τ14
                      · exact v_zret C hRt hLk dM_isFile_47 (fN_bool (by omega)) ⟨m_scx_of (m_scf_p (m_scf_of hs11_) _), Or.inl ⟨fun h9 => by first | exact g8_c h9.1 | exact g9_c h9.2.1 | exact g10_c h9.2.2.1 | exact g11_c h9.2.2.2.1 | exact g12_c h9.2.2.2.2, rfl, rfl⟩⟩
              · have hs11_ := m_scr_tr hs10_ g11_s
                refine v_if_eq (tgt := 42) C dM_isFile_32 (by decide) (by omega) (fun hc34 => ?_) (fun hc34 => ?_)
                · refine v_aload_n C dM_isFile_42 rfl rfl ?_
                  refine v_iconst C dM_isFile_43 ?_
                  refine v_cVI (k := 0) (n := 1) C (mE_ok _) trivial hR (kM_wrong _ xCl D cA ad hJ τ11 (0)) dM_isFile_44 (by show (0 : Nat) < 18; decide) rfl rfl gM_185 (by decide +kernel) (by decide) (by decide) rfl (Nat.le_of_ble_eq_true rfl) rfl ⟨rfl, rfl⟩ (fun r15 τ15 hp15 => ?_)
                  obtain ⟨rfl, hw15⟩ := hp15
                  subst τ15
                  · exact v_zret C hRt hLk dM_isFile_47 (fN_bool (by omega)) ⟨m_scx_of (m_scf_p (m_scf_of hs11_) _), Or.inl ⟨fun h9 => by first | exact g8_c h9.1 | exact g9_c h9.2.1 | exact g10_c h9.2.2.1 | exact g11_c h9.2.2.2.1 | exact nope h9.2.2.2.2, rfl, rfl⟩⟩
                · exfalso; omega
          · have hs10_ := m_scr_tr hs9_ g10_s
            refine v_if_eq (tgt := 42) C dM_isFile_23 (by decide) (by omega) (fun hc35 => ?_) (fun hc35 => ?_)
            · refine v_aload_n C dM_isFile_42 rfl rfl ?_
              refine v_iconst C dM_isFile_43 ?_
              refine v_cVI (k := 0) (n := 1) C (mE_ok _) trivial hR (kM_wrong _ xCl D cA ad hJ τ10 (0)) dM_isFile_44 (by show (0 : Nat) < 18; decide) rfl rfl gM_185 (by decide +kernel) (by decide) (by decide) rfl (Nat.le_of_ble_eq_true rfl) rfl ⟨rfl, rfl⟩ (fun r16 τ16 hp16 => ?_)
              obtain ⟨rfl, hw16⟩ := hp16
              subst τ16
              · exact v_zret C hRt hLk dM_isFile_47 (fN_bool (by omega)) ⟨m_scx_of (m_scf_p (m_scf_of hs10_) _), Or.inl ⟨fun h9 => by first | exact g8_c h9.1 | exact g9_c h9.2.1 | exact g10_c h9.2.2.1 | exact nope h9.2.2.2.1 | exact nope h9.2.2.2.2, rfl, rfl⟩⟩
            · exfalso; omega
      · have hs9_ := m_scr_tr hs8_ g9_s
        refine v_if_eq (tgt := 42) C dM_isFile_14 (by decide) (by omega) (fun hc36 => ?_) (fun hc36 => ?_)
        · refine v_aload_n C dM_isFile_42 rfl rfl ?_
          refine v_iconst C dM_isFile_43 ?_
          refine v_cVI (k := 0) (n := 1) C (mE_ok _) trivial hR (kM_wrong _ xCl D cA ad hJ τ9 (0)) dM_isFile_44 (by show (0 : Nat) < 18; decide) rfl rfl gM_185 (by decide +kernel) (by decide) (by decide) rfl (Nat.le_of_ble_eq_true rfl) rfl ⟨rfl, rfl⟩ (fun r17 τ17 hp17 => ?_)
          obtain ⟨rfl, hw17⟩ := hp17
          subst τ17
          · exact v_zret C hRt hLk dM_isFile_47 (fN_bool (by omega)) ⟨m_scx_of (m_scf_p (m_scf_of hs9_) _), Or.inl ⟨fun h9 => by first | exact g8_c h9.1 | exact g9_c h9.2.1 | exact nope h9.2.2.1 | exact nope h9.2.2.2.1 | exact nope h9.2.2.2.2, rfl, rfl⟩⟩
        · exfalso; omega
  · have hs8_ := g8_s
    have g8_l := @p_eol_le (σ.2 7) (σ.1 0 7) (0)
    refine v_if_eq (tgt := 42) C dM_isFile_5 (by decide) (by omega) (fun hc37 => ?_) (fun hc37 => ?_)
    · refine v_aload_n C dM_isFile_42 rfl rfl ?_
      refine v_iconst C dM_isFile_43 ?_
      refine v_cVI (k := 0) (n := 1) C (mE_ok _) trivial hR (kM_wrong _ xCl D cA ad hJ τ8 (0)) dM_isFile_44 (by show (0 : Nat) < 18; decide) rfl rfl gM_185 (by decide +kernel) (by decide) (by decide) rfl (Nat.le_of_ble_eq_true rfl) rfl ⟨rfl, rfl⟩ (fun r18 τ18 hp18 => ?_)
      obtain ⟨rfl, hw18⟩ := hp18
      subst τ18
      · exact v_zret C hRt hLk dM_isFile_47 (fN_bool (by omega)) ⟨m_scx_of (m_scf_p (m_scf_of hs8_) _), Or.inl ⟨fun h9 => by first | exact g8_c h9.1 | exact nope h9.2.1 | exact nope h9.2.2.1 | exact nope h9.2.2.2.1 | exact nope h9.2.2.2.2, rfl, rfl⟩⟩
    · exfalso; omega
end
