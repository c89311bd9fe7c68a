/-- a row of the file at p: whether there is one, its number, its place (-1: gone) -/
def p_q (f : Nat → Int) (z p : Int) : Int := (p_num f (p_eol f z p) p).2
def p_dash (f : Nat → Int) (z p : Int) : Prop := p_q f z p + 1 < p_eol f z p ∧ f (p_q f z p + 1).toNat = 45
def p_row (f : Nat → Int) (z p : Int) : Prop := p_eol f z p < z ∧ p_nok f (p_eol f z p) p ∧ (p_q f z p < p_eol f z p ∧ f (p_q f z p).toNat = 32) ∧ ((p_dash f z p ∧ p_q f z p + 2 = p_eol f z p) ∨ (¬ p_dash f z p ∧ p_nok f (p_eol f z p) (p_q f z p + 1) ∧ (p_num f (p_eol f z p) (p_q f z p + 1)).2 = p_eol f z p))
def p_rn (f : Nat → Int) (z p : Int) : Int := (p_num f (p_eol f z p) p).1
def p_rp (f : Nat → Int) (z p v : Int) : Prop := (p_dash f z p ∧ v = -1) ∨ (¬ p_dash f z p ∧ v = (p_num f (p_eol f z p) (p_q f z p + 1)).1)
/-- a record of n at p, all of it before b -/
def p_rec (f : Nat → Int) (z p n b : Int) : Prop := p_eol f z p < z ∧ (p < p_eol f z p ∧ f p.toNat = 111) ∧ (p + 1 < p_eol f z p ∧ f (p + 1).toNat = 32) ∧ p_nok f (p_eol f z p) (p + 2) ∧ (p_num f (p_eol f z p) (p + 2)).1 = n ∧ ((p_num f (p_eol f z p) (p + 2)).2 < p_eol f z p ∧ f ((p_num f (p_eol f z p) (p + 2)).2).toNat = 32) ∧ p_nok f (p_eol f z p) ((p_num f (p_eol f z p) (p + 2)).2 + 1) ∧ (p_num f (p_eol f z p) ((p_num f (p_eol f z p) (p + 2)).2 + 1)).2 = p_eol f z p ∧ (p_num f (p_eol f z p) ((p_num f (p_eol f z p) (p + 2)).2 + 1)).1 ≤ 120 ∧ p_eol f z p + 1 + (p_num f (p_eol f z p) ((p_num f (p_eol f z p) (p + 2)).2 + 1)).1 < b ∧ f (p_eol f z p + 1 + (p_num f (p_eol f z p) ((p_num f (p_eol f z p) (p + 2)).2 + 1)).1).toNat = 10
def p_rl (f : Nat → Int) (z p : Int) : Int := (p_num f (p_eol f z p) ((p_num f (p_eol f z p) (p + 2)).2 + 1)).1
set_option maxRecDepth 100000 in
set_option maxHeartbeats 4000000 in
/-- isRow(from) -/
theorem kM_isRow (l : Launch) (xCl : List vw_C) (D : va_G) (cA : Nat → ClassId) (ad : Nat → Nat) (hJ : f_J (mG xCl D cA ad)) (σ : fS) (a : Int) (ha : 0 ≤ a ∧ a ≤ 12000) (hz : 0 ≤ σ.1 0 7 ∧ σ.1 0 7 ≤ 12000) (h7 : ∀ i, -128 ≤ σ.2 7 i ∧ σ.2 7 i ≤ 127) : f_M l (mG xCl D cA ad) mE yM_isRow (Cond.code yM_isRow cM_isRow 3 (some .boolean) :: A9) 1 σ [.ref (ad 0), .int (fI a)] (f_QI (fun r σ1 => m_scr σ σ1 ∧ σ1.1 0 20 = p_eol (σ.2 7) (σ.1 0 7) a ∧ ((p_row (σ.2 7) (σ.1 0 7) a ∧ r = 1 ∧ σ1.1 0 26 = p_rn (σ.2 7) (σ.1 0 7) a ∧ p_rp (σ.2 7) (σ.1 0 7) a (σ1.1 0 27)) ∨ (¬ p_row (σ.2 7) (σ.1 0 7) a ∧ r = 0))) (mG xCl D cA ad)) := by
  refine f_enter (by decide +kernel) hJ rfl (Nat.le_of_ble_eq_true rfl) ?_
  intro z hzl hR C hRt hLk hEz
  subst hzl
  refine v_aload_n C dM_isRow_0 rfl rfl ?_
  refine v_iload_n C dM_isRow_1 rfl rfl ?_
  refine v_cVI (k := 0) (n := 1) C (mE_ok _) trivial hR (kM_line2 _ xCl D cA ad hJ σ (a) (by omega) hz h7) dM_isRow_2 (by show (0 : Nat) < 18; decide) rfl rfl gM_150 (by decide +kernel) (by decide) (by decide) rfl (Nat.le_of_ble_eq_true rfl) rfl ⟨rfl, rfl⟩ (fun r1 τ1 hp1 => ?_)
  obtain ⟨g1_s, g1_21, g1_20, g1_22, g1_26, g1_27, ⟨g1_c, rfl⟩ | ⟨g1_c, rfl⟩⟩ := hp1
  · have hs1_ := g1_s
    have g1_l := @p_eol_le (σ.2 7) (σ.1 0 7) (a)
    refine v_if_eq (tgt := 15) C dM_isRow_5 (by decide) (by omega) (fun hc1 => ?_) (fun hc1 => ?_)
    · exfalso; omega
    · refine v_aload_n C dM_isRow_8 rfl rfl ?_
      have hz2 : 0 ≤ τ1.1 0 7 ∧ τ1.1 0 7 ≤ 12000 := by rw [m_scr_z hs1_]; exact hz
      have hb3 : ∀ i, -128 ≤ τ1.2 7 i ∧ τ1.2 7 i ≤ 127 := fun i => by rw [m_scr_a hs1_]; exact h7 i
      refine v_cVI (k := 0) (n := 0) C (mE_ok _) trivial hR (kM_takesNumber _ xCl D cA ad hJ τ1 (by omega) (by omega) (by omega) (by omega) hb3) dM_isRow_9 (by show (0 : Nat) < 18; decide) rfl rfl gM_156 (by decide +kernel) (by decide) (by decide) rfl (Nat.le_of_ble_eq_true rfl) rfl ⟨rfl, rfl⟩ (fun r2 τ2 hp2 => ?_)
      simp only [hs1_.1, m_scr_z hs1_, g1_20, g1_21, g1_22, g1_26, g1_27] at hp2
      obtain ⟨g2_s, g2_20, g2_22, g2_21, g2_26, g2_27, ⟨g2_c, rfl⟩ | ⟨g2_c, rfl⟩⟩ := hp2
      · have hs2_ := m_scr_tr hs1_ g2_s
        have g2_l := p_num_le (σ.2 7) (p_eol (σ.2 7) (σ.1 0 7) (a)) (a)
        have g2_v := p_num_v (σ.2 7) (p_eol (σ.2 7) (σ.1 0 7) (a)) (a)
        refine v_if_ne (tgt := 17) C dM_isRow_12 (by decide) (by omega) (fun hc4 => ?_) (fun hc4 => ?_)
        · refine v_aload_n C dM_isRow_17 rfl rfl ?_
          refine v_aload_n C dM_isRow_18 rfl rfl ?_
          refine v_getI (k := 0) (q := 22) (v := (p_num (σ.2 7) (p_eol (σ.2 7) (σ.1 0 7) (a)) (a)).1) C dM_isRow_19 (by show (0 : Nat) < 18; decide) rfl rfl (by decide) rfl inM lM_147 rfl g2_22 ?_
          refine v_putI (k := 0) (q := 26) C dM_isRow_22 (by show (0 : Nat) < 18; decide) rfl rfl (by decide) rfl inM tyM_ok nmM lM_113 rfl rfl rfl rfl rfl ?_
          refine v_aload_n C dM_isRow_25 rfl rfl ?_
          refine v_bipush C dM_isRow_26 (by decide +kernel) ?_
          obtain ⟨υ5, υ5e⟩ : ∃ s, s = (f_p1 τ2 0 26 ((p_num (σ.2 7) (p_eol (σ.2 7) (σ.1 0 7) (a)) (a)).1)) := ⟨_, rfl⟩
          refine v_st υ5e.symm ?_
          have hs6 : m_scr σ υ5 := by rw [υ5e]; exact (m_scr_p hs2_ 26 ((p_num (σ.2 7) (p_eol (σ.2 7) (σ.1 0 7) (a)) (a)).1) (by decide))
          have ef7 : υ5.1 0 20 = p_eol (σ.2 7) (σ.1 0 7) (a) := by rw [υ5e]; exact g2_20
          have ef8 : υ5.1 0 21 = (p_num (σ.2 7) (p_eol (σ.2 7) (σ.1 0 7) (a)) (a)).2 := by rw [υ5e]; exact g2_21
          have ef9 : υ5.1 0 22 = (p_num (σ.2 7) (p_eol (σ.2 7) (σ.1 0 7) (a)) (a)).1 := by rw [υ5e]; exact g2_22
          have ef10 : υ5.1 0 26 = (p_num (σ.2 7) (p_eol (σ.2 7) (σ.1 0 7) (a)) (a)).1 := by rw [υ5e]; exact rfl
          have ef11 : υ5.1 0 27 = σ.1 0 27 := by rw [υ5e]; exact g2_27
          have hz12 : 0 ≤ υ5.1 0 7 ∧ υ5.1 0 7 ≤ 12000 := by rw [m_scr_z hs6]; exact hz
          have hb13 : ∀ i, -128 ≤ υ5.2 7 i ∧ υ5.2 7 i ≤ 127 := fun i => by rw [m_scr_a hs6]; exact h7 i
          refine v_cVI (k := 0) (n := 1) C (mE_ok _) trivial hR (kM_takes2 _ xCl D cA ad hJ υ5 (32) (by omega) (by omega) (by omega) (by omega) hb13) dM_isRow_28 (by show (0 : Nat) < 18; decide) rfl rfl gM_153 (by decide +kernel) (by decide) (by decide) rfl (Nat.le_of_ble_eq_true rfl) rfl ⟨rfl, rfl⟩ (fun r3 τ3 hp3 => ?_)
          simp only [hs6.1, m_scr_z hs6, ef7, ef8, ef9, ef10, ef11] at hp3
          obtain ⟨g3_s, g3_20, g3_22, g3_26, g3_27, ⟨g3_c, rfl, g3_21⟩ | ⟨g3_c, rfl, g3_21⟩⟩ := hp3
          · have hs3_ := m_scr_tr hs6 g3_s
            have g3_21n : τ3.1 0 21 = (p_num (σ.2 7) (p_eol (σ.2 7) (σ.1 0 7) (a)) (a)).2 + 1 := by omega
            refine v_if_ne (tgt := 36) C dM_isRow_31 (by decide) (by omega) (fun hc14 => ?_) (fun hc14 => ?_)
            · refine v_aload_n C dM_isRow_36 rfl rfl ?_
              refine v_iconst C dM_isRow_37 ?_
              refine v_putI (k := 0) (q := 27) C dM_isRow_38 (by show (0 : Nat) < 18; decide) rfl rfl (by decide) rfl inM tyM_ok nmM lM_163 rfl rfl rfl rfl rfl ?_
              refine v_aload_n C dM_isRow_41 rfl rfl ?_
              refine v_bipush C dM_isRow_42 (by decide +kernel) ?_
              obtain ⟨υ15, υ15e⟩ : ∃ s, s = (f_p1 τ3 0 27 ((-1))) := ⟨_, rfl⟩
              refine v_st υ15e.symm ?_
              have hs16 : m_scr σ υ15 := by rw [υ15e]; exact (m_scr_p hs3_ 27 ((-1)) (by decide))
              have ef17 : υ15.1 0 20 = p_eol (σ.2 7) (σ.1 0 7) (a) := by rw [υ15e]; exact g3_20
              have ef18 : υ15.1 0 21 = (p_num (σ.2 7) (p_eol (σ.2 7) (σ.1 0 7) (a)) (a)).2 + 1 := by rw [υ15e]; exact g3_21n
              have ef19 : υ15.1 0 22 = (p_num (σ.2 7) (p_eol (σ.2 7) (σ.1 0 7) (a)) (a)).1 := by rw [υ15e]; exact g3_22
              have ef20 : υ15.1 0 26 = (p_num (σ.2 7) (p_eol (σ.2 7) (σ.1 0 7) (a)) (a)).1 := by rw [υ15e]; exact g3_26
              have ef21 : υ15.1 0 27 = (-1) := by rw [υ15e]; exact rfl
              have hz22 : 0 ≤ υ15.1 0 7 ∧ υ15.1 0 7 ≤ 12000 := by rw [m_scr_z hs16]; exact hz
              have hb23 : ∀ i, -128 ≤ υ15.2 7 i ∧ υ15.2 7 i ≤ 127 := fun i => by rw [m_scr_a hs16]; exact h7 i
              refine v_cVI (k := 0) (n := 1) C (mE_ok _) trivial hR (kM_takes2 _ xCl D cA ad hJ υ15 (45) (by omega) (by omega) (by omega) (by omega) hb23) dM_isRow_44 (by show (0 : Nat) < 18; decide) rfl rfl gM_153 (by decide +kernel) (by decide) (by decide) rfl (Nat.le_of_ble_eq_true rfl) rfl ⟨rfl, rfl⟩ (fun r4 τ4 hp4 => ?_)
              simp only [hs16.1, m_scr_z hs16, ef17, ef18, ef19, ef20, ef21] at hp4
              obtain ⟨g4_s, g4_20, g4_22, g4_26, g4_27, ⟨g4_c, rfl, g4_21⟩ | ⟨g4_c, rfl, g4_21⟩⟩ := hp4
              · have hs4_ := m_scr_tr hs16 g4_s
                have g4_21n : τ4.1 0 21 = (p_num (σ.2 7) (p_eol (σ.2 7) (σ.1 0 7) (a)) (a)).2 + 2 := by omega
                refine v_if_eq (tgt := 55) C dM_isRow_47 (by decide) (by omega) (fun hc24 => ?_) (fun hc24 => ?_)
                · exfalso; omega
                · refine v_aload_n C dM_isRow_50 rfl rfl ?_
                  have hz25 : 0 ≤ τ4.1 0 7 ∧ τ4.1 0 7 ≤ 12000 := by rw [m_scr_z hs4_]; exact hz
                  have hb26 : ∀ i, -128 ≤ τ4.2 7 i ∧ τ4.2 7 i ≤ 127 := fun i => by rw [m_scr_a hs4_]; exact h7 i
                  refine v_cVI (k := 0) (n := 0) C (mE_ok _) trivial hR (kM_isOver2 _ xCl D cA ad hJ τ4 (by omega) (by omega)) dM_isRow_51 (by show (0 : Nat) < 18; decide) rfl rfl gM_160 (by decide +kernel) (by decide) (by decide) rfl (Nat.le_of_ble_eq_true rfl) rfl ⟨rfl, rfl⟩ (fun r5 τ5 hp5 => ?_)
                  simp only [hs4_.1, m_scr_z hs4_, g4_20, g4_21n, g4_22, g4_26, g4_27] at hp5
                  obtain ⟨g5_c, rfl, g5_e⟩ | ⟨g5_c, rfl, g5_e⟩ := hp5
                  · subst τ5
                    exact v_zret C hRt hLk dM_isRow_54 (fN_bool (by omega)) ⟨hs4_, g4_20, Or.inl ⟨⟨g1_c, g2_c, g3_c, Or.inl ⟨g4_c, g5_c⟩⟩, rfl, g4_26, Or.inl ⟨g4_c, g4_27⟩⟩⟩
                  · subst τ5
                    exact v_zret C hRt hLk dM_isRow_54 (fN_bool (by omega)) ⟨hs4_, g4_20, Or.inr ⟨fun h9 => by first | exact g1_c h9.1 | exact g2_c h9.2.1 | exact g3_c h9.2.2.1 | exact h9.2.2.2.elim (fun k => by first | exact g5_c k.2 | exact g4_c k.1) (fun k => by first | exact k.1 g4_c | exact g5_c k.2.1 | exact nope k.2.2), rfl⟩⟩
              · have hs4_ := m_scr_tr hs16 g4_s
                refine v_if_eq (tgt := 55) C dM_isRow_47 (by decide) (by omega) (fun hc27 => ?_) (fun hc27 => ?_)
                · refine v_aload_n C dM_isRow_55 rfl rfl ?_
                  have hz28 : 0 ≤ τ4.1 0 7 ∧ τ4.1 0 7 ≤ 12000 := by rw [m_scr_z hs4_]; exact hz
                  have hb29 : ∀ i, -128 ≤ τ4.2 7 i ∧ τ4.2 7 i ≤ 127 := fun i => by rw [m_scr_a hs4_]; exact h7 i
                  refine v_cVI (k := 0) (n := 0) C (mE_ok _) trivial hR (kM_takesNumber _ xCl D cA ad hJ τ4 (by omega) (by omega) (by omega) (by omega) hb29) dM_isRow_56 (by show (0 : Nat) < 18; decide) rfl rfl gM_156 (by decide +kernel) (by decide) (by decide) rfl (Nat.le_of_ble_eq_true rfl) rfl ⟨rfl, rfl⟩ (fun r6 τ6 hp6 => ?_)
                  simp only [hs4_.1, m_scr_z hs4_, g4_20, g4_21, g4_22, g4_26, g4_27] at hp6
                  obtain ⟨g6_s, g6_20, g6_22, g6_21, g6_26, g6_27, ⟨g6_c, rfl⟩ | ⟨g6_c, rfl⟩⟩ := hp6
                  · have hs6_ := m_scr_tr hs4_ g6_s
                    have g6_l := p_num_le (σ.2 7) (p_eol (σ.2 7) (σ.1 0 7) (a)) ((p_num (σ.2 7) (p_eol (σ.2 7) (σ.1 0 7) (a)) (a)).2 + 1)
                    have g6_v := p_num_v (σ.2 7) (p_eol (σ.2 7) (σ.1 0 7) (a)) ((p_num (σ.2 7) (p_eol (σ.2 7) (σ.1 0 7) (a)) (a)).2 + 1)
                    refine v_if_eq (tgt := 73) C dM_isRow_59 (by decide) (by omega) (fun hc30 => ?_) (fun hc30 => ?_)
                    · exfalso; omega
                    · refine v_aload_n C dM_isRow_62 rfl rfl ?_
                      have hz31 : 0 ≤ τ6.1 0 7 ∧ τ6.1 0 7 ≤ 12000 := by rw [m_scr_z hs6_]; exact hz
                      have hb32 : ∀ i, -128 ≤ τ6.2 7 i ∧ τ6.2 7 i ≤ 127 := fun i => by rw [m_scr_a hs6_]; exact h7 i
                      refine v_cVI (k := 0) (n := 0) C (mE_ok _) trivial hR (kM_isOver2 _ xCl D cA ad hJ τ6 (by omega) (by omega)) dM_isRow_63 (by show (0 : Nat) < 18; decide) rfl rfl gM_160 (by decide +kernel) (by decide) (by decide) rfl (Nat.le_of_ble_eq_true rfl) rfl ⟨rfl, rfl⟩ (fun r7 τ7 hp7 => ?_)
                      simp only [hs6_.1, m_scr_z hs6_, g6_20, g6_21, g6_22, g6_26, g6_27] at hp7
                      obtain ⟨g7_c, rfl, g7_e⟩ | ⟨g7_c, rfl, g7_e⟩ := hp7
                      · subst τ7
                        refine v_if_eq (tgt := 73) C dM_isRow_66 (by decide) (by omega) (fun hc33 => ?_) (fun hc33 => ?_)
                        · exfalso; omega
                        · refine v_iconst C dM_isRow_69 ?_
                          refine v_goto (tgt := 74) C dM_isRow_70 (by decide) ?_
                          refine v_istore_n C dM_isRow_74 rfl (by decide) ?_
                          refine v_aload_n C dM_isRow_75 rfl rfl ?_
                          refine v_aload_n C dM_isRow_76 rfl rfl ?_
                          refine v_getI (k := 0) (q := 22) (v := (p_num (σ.2 7) (p_eol (σ.2 7) (σ.1 0 7) (a)) ((p_num (σ.2 7) (p_eol (σ.2 7) (σ.1 0 7) (a)) (a)).2 + 1)).1) C dM_isRow_77 (by show (0 : Nat) < 18; decide) rfl rfl (by decide) rfl inM lM_147 rfl g6_22 ?_
                          refine v_putI (k := 0) (q := 27) C dM_isRow_80 (by show (0 : Nat) < 18; decide) rfl rfl (by decide) rfl inM tyM_ok nmM lM_163 rfl rfl rfl rfl rfl ?_
                          refine v_iload_n C dM_isRow_83 rfl rfl ?_
                          exact v_zret C hRt hLk dM_isRow_84 (fN_bool (by omega)) ⟨(m_scr_p hs6_ 27 ((p_num (σ.2 7) (p_eol (σ.2 7) (σ.1 0 7) (a)) ((p_num (σ.2 7) (p_eol (σ.2 7) (σ.1 0 7) (a)) (a)).2 + 1)).1) (by decide)), g6_20, Or.inl ⟨⟨g1_c, g2_c, g3_c, Or.inr ⟨g4_c, g6_c, g7_c⟩⟩, rfl, g6_26, Or.inr ⟨g4_c, rfl⟩⟩⟩
                      · subst τ7
                        refine v_if_eq (tgt := 73) C dM_isRow_66 (by decide) (by omega) (fun hc34 => ?_) (fun hc34 => ?_)
                        · refine v_iconst C dM_isRow_73 ?_
                          refine v_istore_n C dM_isRow_74 rfl (by decide) ?_
                          refine v_aload_n C dM_isRow_75 rfl rfl ?_
                          refine v_aload_n C dM_isRow_76 rfl rfl ?_
                          refine v_getI (k := 0) (q := 22) (v := (p_num (σ.2 7) (p_eol (σ.2 7) (σ.1 0 7) (a)) ((p_num (σ.2 7) (p_eol (σ.2 7) (σ.1 0 7) (a)) (a)).2 + 1)).1) C dM_isRow_77 (by show (0 : Nat) < 18; decide) rfl rfl (by decide) rfl inM lM_147 rfl g6_22 ?_
                          refine v_putI (k := 0) (q := 27) C dM_isRow_80 (by show (0 : Nat) < 18; decide) rfl rfl (by decide) rfl inM tyM_ok nmM lM_163 rfl rfl rfl rfl rfl ?_
                          refine v_iload_n C dM_isRow_83 rfl rfl ?_
                          exact v_zret C hRt hLk dM_isRow_84 (fN_bool (by omega)) ⟨(m_scr_p hs6_ 27 ((p_num (σ.2 7) (p_eol (σ.2 7) (σ.1 0 7) (a)) ((p_num (σ.2 7) (p_eol (σ.2 7) (σ.1 0 7) (a)) (a)).2 + 1)).1) (by decide)), g6_20, Or.inr ⟨fun h9 => by first | exact g1_c h9.1 | exact g2_c h9.2.1 | exact g3_c h9.2.2.1 | exact h9.2.2.2.elim (fun k => by first | exact g6_c k.2 | exact g4_c k.1) (fun k => by first | exact k.1 g4_c | exact g6_c k.2.1 | exact g7_c k.2.2), rfl⟩⟩
                        · exfalso; omega
                  · have hs6_ := m_scr_tr hs4_ g6_s
                    have g6_l := p_num_le (σ.2 7) (p_eol (σ.2 7) (σ.1 0 7) (a)) ((p_num (σ.2 7) (p_eol (σ.2 7) (σ.1 0 7) (a)) (a)).2 + 1)
                    have g6_v := p_num_v (σ.2 7) (p_eol (σ.2 7) (σ.1 0 7) (a)) ((p_num (σ.2 7) (p_eol (σ.2 7) (σ.1 0 7) (a)) (a)).2 + 1)
                    refine v_if_eq (tgt := 73) C dM_isRow_59 (by decide) (by omega) (fun hc35 => ?_) (fun hc35 => ?_)
                    · refine v_iconst C dM_isRow_73 ?_
                      refine v_istore_n C dM_isRow_74 rfl (by decide) ?_
                      refine v_aload_n C dM_isRow_75 rfl rfl ?_
                      refine v_aload_n C dM_isRow_76 rfl rfl ?_
                      refine v_getI (k := 0) (q := 22) (v := (p_num (σ.2 7) (p_eol (σ.2 7) (σ.1 0 7) (a)) ((p_num (σ.2 7) (p_eol (σ.2 7) (σ.1 0 7) (a)) (a)).2 + 1)).1) C dM_isRow_77 (by show (0 : Nat) < 18; decide) rfl rfl (by decide) rfl inM lM_147 rfl g6_22 ?_
                      refine v_putI (k := 0) (q := 27) C dM_isRow_80 (by show (0 : Nat) < 18; decide) rfl rfl (by decide) rfl inM tyM_ok nmM lM_163 rfl rfl rfl rfl rfl ?_
                      refine v_iload_n C dM_isRow_83 rfl rfl ?_
                      exact v_zret C hRt hLk dM_isRow_84 (fN_bool (by omega)) ⟨(m_scr_p hs6_ 27 ((p_num (σ.2 7) (p_eol (σ.2 7) (σ.1 0 7) (a)) ((p_num (σ.2 7) (p_eol (σ.2 7) (σ.1 0 7) (a)) (a)).2 + 1)).1) (by decide)), g6_20, Or.inr ⟨fun h9 => by first | exact g1_c h9.1 | exact g2_c h9.2.1 | exact g3_c h9.2.2.1 | exact h9.2.2.2.elim (fun k => by first | exact g6_c k.2 | exact g4_c k.1) (fun k => by first | exact k.1 g4_c | exact g6_c k.2.1 | exact nope k.2.2), rfl⟩⟩
                    · exfalso; omega
                · exfalso; omega
            · exfalso; omega
          · have hs3_ := m_scr_tr hs6 g3_s
            refine v_if_ne (tgt := 36) C dM_isRow_31 (by decide) (by omega) (fun hc36 => ?_) (fun hc36 => ?_)
            · exfalso; omega
            · refine v_iconst C dM_isRow_34 ?_
              exact v_zret C hRt hLk dM_isRow_35 (fN_bool (by omega)) ⟨hs3_, g3_20, Or.inr ⟨fun h9 => by first | exact g1_c h9.1 | exact g2_c h9.2.1 | exact g3_c h9.2.2.1 | exact h9.2.2.2.elim (fun k => by first | exact nope k.2 | exact nope k.1) (fun k => by first | exact k.1 nope | exact nope k.2.1 | exact nope k.2.2), rfl⟩⟩
        · exfalso; omega
      · have hs2_ := m_scr_tr hs1_ g2_s
        have g2_l := p_num_le (σ.2 7) (p_eol (σ.2 7) (σ.1 0 7) (a)) (a)
        have g2_v := p_num_v (σ.2 7) (p_eol (σ.2 7) (σ.1 0 7) (a)) (a)
        refine v_if_ne (tgt := 17) C dM_isRow_12 (by decide) (by omega) (fun hc37 => ?_) (fun hc37 => ?_)
        · exfalso; omega
        · refine v_iconst C dM_isRow_15 ?_
          exact v_zret C hRt hLk dM_isRow_16 (fN_bool (by omega)) ⟨hs2_, g2_20, Or.inr ⟨fun h9 => by first | exact g1_c h9.1 | exact g2_c h9.2.1 | exact nope h9.2.2.1 | exact h9.2.2.2.elim (fun k => by first | exact nope k.2 | exact nope k.1) (fun k => by first | exact k.1 nope | exact nope k.2.1 | exact nope k.2.2), rfl⟩⟩
  · have hs1_ := g1_s
    have g1_l := @p_eol_le (σ.2 7) (σ.1 0 7) (a)
    refine v_if_eq (tgt := 15) C dM_isRow_5 (by decide) (by omega) (fun hc38 => ?_) (fun hc38 => ?_)
    · refine v_iconst C dM_isRow_15 ?_
      exact v_zret C hRt hLk dM_isRow_16 (fN_bool (by omega)) ⟨hs1_, g1_20, Or.inr ⟨fun h9 => by first | exact g1_c h9.1 | exact nope h9.2.1 | exact nope h9.2.2.1 | exact h9.2.2.2.elim (fun k => by first | exact nope k.2 | exact nope k.1) (fun k => by first | exact k.1 nope | exact nope k.2.1 | exact nope k.2.2), rfl⟩⟩
    · exfalso; omega
set_option maxRecDepth 100000 in
set_option maxHeartbeats 4000000 in
/-- isRecord(at, n, before) -/
theorem kM_isRecord (l : Launch) (xCl : List vw_C) (D : va_G) (cA : Nat → ClassId) (ad : Nat → Nat) (hJ : f_J (mG xCl D cA ad)) (σ : fS) (a n b : Int) (ha : 0 ≤ a ∧ a ≤ 11999) (hn : -2147483648 ≤ n ∧ n ≤ 2147483647) (hb : b ≤ 12000) (hb2 : 0 ≤ b) (hz : 0 ≤ σ.1 0 7 ∧ σ.1 0 7 ≤ 12000) (h7 : ∀ i, -128 ≤ σ.2 7 i ∧ σ.2 7 i ≤ 127) : f_M l (mG xCl D cA ad) mE yM_isRecord (Cond.code yM_isRecord cM_isRecord 4 (some .boolean) :: A9) 1 σ [.ref (ad 0), .int (fI a), .int (fI n), .int (fI b)] (f_QI (fun r σ1 => m_scr σ σ1 ∧ ((p_rec (σ.2 7) (σ.1 0 7) a n b ∧ r = 1 ∧ σ1.1 0 26 = p_eol (σ.2 7) (σ.1 0 7) a + 1 ∧ σ1.1 0 27 = p_rl (σ.2 7) (σ.1 0 7) a) ∨ (¬ p_rec (σ.2 7) (σ.1 0 7) a n b ∧ r = 0))) (mG xCl D cA ad)) := by
  refine f_enter (by decide +kernel) hJ rfl (Nat.le_of_ble_eq_true rfl) ?_
  intro z hzl hR C hRt hLk hEz
  subst hzl
  refine v_aload_n C dM_isRecord_0 rfl rfl ?_
  refine v_iload_n C dM_isRecord_1 rfl rfl ?_
  refine v_cVI (k := 0) (n := 1) C (mE_ok _) trivial hR (kM_line2 _ xCl D cA ad hJ σ (a) (by omega) hz h7) dM_isRecord_2 (by show (0 : Nat) < 18; decide) rfl rfl gM_150 (by decide +kernel) (by decide) (by decide) rfl (Nat.le_of_ble_eq_true rfl) rfl ⟨rfl, rfl⟩ (fun r1 τ1 hp1 => ?_)
  obtain ⟨g1_s, g1_21, g1_20, g1_22, g1_26, g1_27, ⟨g1_c, rfl⟩ | ⟨g1_c, rfl⟩⟩ := hp1
  · have hs1_ := g1_s
    have g1_l := @p_eol_le (σ.2 7) (σ.1 0 7) (a)
    refine v_if_eq (tgt := 73) C dM_isRecord_5 (by decide) (by omega) (fun hc1 => ?_) (fun hc1 => ?_)
    · exfalso; omega
    · refine v_aload_n C dM_isRecord_8 rfl rfl ?_
      refine v_bipush C dM_isRecord_9 (by decide +kernel) ?_
      have hz2 : 0 ≤ τ1.1 0 7 ∧ τ1.1 0 7 ≤ 12000 := by rw [m_scr_z hs1_]; exact hz
      have hb3 : ∀ i, -128 ≤ τ1.2 7 i ∧ τ1.2 7 i ≤ 127 := fun i => by rw [m_scr_a hs1_]; exact h7 i
      refine v_cVI (k := 0) (n := 1) C (mE_ok _) trivial hR (kM_takes2 _ xCl D cA ad hJ τ1 (111) (by omega) (by omega) (by omega) (by omega) hb3) dM_isRecord_11 (by show (0 : Nat) < 18; decide) rfl rfl gM_153 (by decide +kernel) (by decide) (by decide) rfl (Nat.le_of_ble_eq_true rfl) rfl ⟨rfl, rfl⟩ (fun r2 τ2 hp2 => ?_)
      simp only [hs1_.1, m_scr_z hs1_, g1_20, g1_21, g1_22, g1_26, g1_27] at hp2
      obtain ⟨g2_s, g2_20, g2_22, g2_26, g2_27, ⟨g2_c, rfl, g2_21⟩ | ⟨g2_c, rfl, g2_21⟩⟩ := hp2
      · have hs2_ := m_scr_tr hs1_ g2_s
        have g2_21n : τ2.1 0 21 = a + 1 := by omega
        refine v_if_eq (tgt := 73) C dM_isRecord_14 (by decide) (by omega) (fun hc4 => ?_) (fun hc4 => ?_)
        · exfalso; omega
        · refine v_aload_n C dM_isRecord_17 rfl rfl ?_
          refine v_bipush C dM_isRecord_18 (by decide +kernel) ?_
          have hz5 : 0 ≤ τ2.1 0 7 ∧ τ2.1 0 7 ≤ 12000 := by rw [m_scr_z hs2_]; exact hz
          have hb6 : ∀ i, -128 ≤ τ2.2 7 i ∧ τ2.2 7 i ≤ 127 := fun i => by rw [m_scr_a hs2_]; exact h7 i
          refine v_cVI (k := 0) (n := 1) C (mE_ok _) trivial hR (kM_takes2 _ xCl D cA ad hJ τ2 (32) (by omega) (by omega) (by omega) (by omega) hb6) dM_isRecord_20 (by show (0 : Nat) < 18; decide) rfl rfl gM_153 (by decide +kernel) (by decide) (by decide) rfl (Nat.le_of_ble_eq_true rfl) rfl ⟨rfl, rfl⟩ (fun r3 τ3 hp3 => ?_)
          simp only [hs2_.1, m_scr_z hs2_, g2_20, g2_21n, g2_22, g2_26, g2_27] at hp3
          obtain ⟨g3_s, g3_20, g3_22, g3_26, g3_27, ⟨g3_c, rfl, g3_21⟩ | ⟨g3_c, rfl, g3_21⟩⟩ := hp3
          · have hs3_ := m_scr_tr hs2_ g3_s
            have g3_21n : τ3.1 0 21 = a + 2 := by omega
            refine v_if_eq (tgt := 73) C dM_isRecord_23 (by decide) (by omega) (fun hc7 => ?_) (fun hc7 => ?_)
            · exfalso; omega
            · refine v_aload_n C dM_isRecord_26 rfl rfl ?_
              have hz8 : 0 ≤ τ3.1 0 7 ∧ τ3.1 0 7 ≤ 12000 := by rw [m_scr_z hs3_]; exact hz
              have hb9 : ∀ i, -128 ≤ τ3.2 7 i ∧ τ3.2 7 i ≤ 127 := fun i => by rw [m_scr_a hs3_]; exact h7 i
              refine v_cVI (k := 0) (n := 0) C (mE_ok _) trivial hR (kM_takesNumber _ xCl D cA ad hJ τ3 (by omega) (by omega) (by omega) (by omega) hb9) dM_isRecord_27 (by show (0 : Nat) < 18; decide) rfl rfl gM_156 (by decide +kernel) (by decide) (by decide) rfl (Nat.le_of_ble_eq_true rfl) rfl ⟨rfl, rfl⟩ (fun r4 τ4 hp4 => ?_)
              simp only [hs3_.1, m_scr_z hs3_, g3_20, g3_21n, g3_22, g3_26, g3_27] at hp4
              obtain ⟨g4_s, g4_20, g4_22, g4_21, g4_26, g4_27, ⟨g4_c, rfl⟩ | ⟨g4_c, rfl⟩⟩ := hp4
              · have hs4_ := m_scr_tr hs3_ g4_s
                have g4_l := p_num_le (σ.2 7) (p_eol (σ.2 7) (σ.1 0 7) (a)) (a + 2)
                have g4_v := p_num_v (σ.2 7) (p_eol (σ.2 7) (σ.1 0 7) (a)) (a + 2)
                refine v_if_eq (tgt := 73) C dM_isRecord_30 (by decide) (by omega) (fun hc10 => ?_) (fun hc10 => ?_)
                · exfalso; omega
                · refine v_aload_n C dM_isRecord_33 rfl rfl ?_
                  refine v_getI (k := 0) (q := 22) (v := (p_num (σ.2 7) (p_eol (σ.2 7) (σ.1 0 7) (a)) (a + 2)).1) C dM_isRecord_34 (by show (0 : Nat) < 18; decide) rfl rfl (by decide) rfl inM lM_147 rfl g4_22 ?_
                  refine v_iload_n C dM_isRecord_37 rfl rfl ?_
                  refine v_icmp_ne (tgt := 73) C dM_isRecord_38 (by decide) (by omega) (by omega) (fun hc11 => ?_) (fun hc11 => ?_)
                  · refine v_iconst C dM_isRecord_73 ?_
                    exact v_zret C hRt hLk dM_isRecord_74 (fN_bool (by omega)) ⟨hs4_, Or.inr ⟨fun h9 => by first | exact g1_c h9.1 | exact g2_c h9.2.1 | exact g3_c h9.2.2.1 | exact g4_c h9.2.2.2.1 | exact nope h9.2.2.2.2.2.1 | exact nope h9.2.2.2.2.2.2.1 | exact nope h9.2.2.2.2.2.2.2.1 | (have k1 := h9.2.2.2.2.1; have k2 := h9.2.2.2.2.2.2.2.2.1; have k3 := h9.2.2.2.2.2.2.2.2.2.1; have k4 := h9.2.2.2.2.2.2.2.2.2.2; omega), rfl⟩⟩
                  · refine v_aload_n C dM_isRecord_41 rfl rfl ?_
                    refine v_bipush C dM_isRecord_42 (by decide +kernel) ?_
                    have hz12 : 0 ≤ τ4.1 0 7 ∧ τ4.1 0 7 ≤ 12000 := by rw [m_scr_z hs4_]; exact hz
                    have hb13 : ∀ i, -128 ≤ τ4.2 7 i ∧ τ4.2 7 i ≤ 127 := fun i => by rw [m_scr_a hs4_]; exact h7 i
                    refine v_cVI (k := 0) (n := 1) C (mE_ok _) trivial hR (kM_takes2 _ xCl D cA ad hJ τ4 (32) (by omega) (by omega) (by omega) (by omega) hb13) dM_isRecord_44 (by show (0 : Nat) < 18; decide) rfl rfl gM_153 (by decide +kernel) (by decide) (by decide) rfl (Nat.le_of_ble_eq_true rfl) rfl ⟨rfl, rfl⟩ (fun r5 τ5 hp5 => ?_)
                    simp only [hs4_.1, m_scr_z hs4_, g4_20, g4_21, g4_22, g4_26, g4_27] at hp5
                    obtain ⟨g5_s, g5_20, g5_22, g5_26, g5_27, ⟨g5_c, rfl, g5_21⟩ | ⟨g5_c, rfl, g5_21⟩⟩ := hp5
                    · have hs5_ := m_scr_tr hs4_ g5_s
                      have g5_21n : τ5.1 0 21 = (p_num (σ.2 7) (p_eol (σ.2 7) (σ.1 0 7) (a)) (a + 2)).2 + 1 := by omega
                      refine v_if_eq (tgt := 73) C dM_isRecord_47 (by decide) (by omega) (fun hc14 => ?_) (fun hc14 => ?_)
                      · exfalso; omega
                      · refine v_aload_n C dM_isRecord_50 rfl rfl ?_
                        have hz15 : 0 ≤ τ5.1 0 7 ∧ τ5.1 0 7 ≤ 12000 := by rw [m_scr_z hs5_]; exact hz
                        have hb16 : ∀ i, -128 ≤ τ5.2 7 i ∧ τ5.2 7 i ≤ 127 := fun i => by rw [m_scr_a hs5_]; exact h7 i
                        refine v_cVI (k := 0) (n := 0) C (mE_ok _) trivial hR (kM_takesNumber _ xCl D cA ad hJ τ5 (by omega) (by omega) (by omega) (by omega) hb16) dM_isRecord_51 (by show (0 : Nat) < 18; decide) rfl rfl gM_156 (by decide +kernel) (by decide) (by decide) rfl (Nat.le_of_ble_eq_true rfl) rfl ⟨rfl, rfl⟩ (fun r6 τ6 hp6 => ?_)
                        simp only [hs5_.1, m_scr_z hs5_, g5_20, g5_21n, g5_22, g5_26, g5_27] at hp6
                        obtain ⟨g6_s, g6_20, g6_22, g6_21, g6_26, g6_27, ⟨g6_c, rfl⟩ | ⟨g6_c, rfl⟩⟩ := hp6
                        · have hs6_ := m_scr_tr hs5_ g6_s
                          have g6_l := p_num_le (σ.2 7) (p_eol (σ.2 7) (σ.1 0 7) (a)) ((p_num (σ.2 7) (p_eol (σ.2 7) (σ.1 0 7) (a)) (a + 2)).2 + 1)
                          have g6_v := p_num_v (σ.2 7) (p_eol (σ.2 7) (σ.1 0 7) (a)) ((p_num (σ.2 7) (p_eol (σ.2 7) (σ.1 0 7) (a)) (a + 2)).2 + 1)
                          refine v_if_eq (tgt := 73) C dM_isRecord_54 (by decide) (by omega) (fun hc17 => ?_) (fun hc17 => ?_)
                          · exfalso; omega
                          · refine v_aload_n C dM_isRecord_57 rfl rfl ?_
                            have hz18 : 0 ≤ τ6.1 0 7 ∧ τ6.1 0 7 ≤ 12000 := by rw [m_scr_z hs6_]; exact hz
                            have hb19 : ∀ i, -128 ≤ τ6.2 7 i ∧ τ6.2 7 i ≤ 127 := fun i => by rw [m_scr_a hs6_]; exact h7 i
                            refine v_cVI (k := 0) (n := 0) C (mE_ok _) trivial hR (kM_isOver2 _ xCl D cA ad hJ τ6 (by omega) (by omega)) dM_isRecord_58 (by show (0 : Nat) < 18; decide) rfl rfl gM_160 (by decide +kernel) (by decide) (by decide) rfl (Nat.le_of_ble_eq_true rfl) rfl ⟨rfl, rfl⟩ (fun r7 τ7 hp7 => ?_)
                            simp only [hs6_.1, m_scr_z hs6_, g6_20, g6_21, g6_22, g6_26, g6_27] at hp7
                            obtain ⟨g7_c, rfl, g7_e⟩ | ⟨g7_c, rfl, g7_e⟩ := hp7
                            · subst τ7
                              refine v_if_eq (tgt := 73) C dM_isRecord_61 (by decide) (by omega) (fun hc20 => ?_) (fun hc20 => ?_)
                              · exfalso; omega
                              · refine v_aload_n C dM_isRecord_64 rfl rfl ?_
                                refine v_getI (k := 0) (q := 22) (v := (p_num (σ.2 7) (p_eol (σ.2 7) (σ.1 0 7) (a)) ((p_num (σ.2 7) (p_eol (σ.2 7) (σ.1 0 7) (a)) (a + 2)).2 + 1)).1) C dM_isRecord_65 (by show (0 : Nat) < 18; decide) rfl rfl (by decide) rfl inM lM_147 rfl g6_22 ?_
                                refine v_bipush C dM_isRecord_68 (by decide +kernel) ?_
                                refine v_icmp_le (tgt := 75) C dM_isRecord_70 (by decide) (by omega) (by omega) (fun hc21 => ?_) (fun hc21 => ?_)
                                · refine v_aload_n C dM_isRecord_75 rfl rfl ?_
                                  refine v_aload_n C dM_isRecord_76 rfl rfl ?_
                                  refine v_getI (k := 0) (q := 20) (v := p_eol (σ.2 7) (σ.1 0 7) (a)) C dM_isRecord_77 (by show (0 : Nat) < 18; decide) rfl rfl (by decide) rfl inM lM_144 rfl g6_20 ?_
                                  refine v_iconst C dM_isRecord_80 ?_
                                  refine v_iadd C dM_isRecord_81 ?_
                                  refine v_putI (k := 0) (q := 26) C dM_isRecord_82 (by show (0 : Nat) < 18; decide) rfl rfl (by decide) rfl inM tyM_ok nmM lM_113 rfl rfl rfl rfl rfl ?_
                                  refine v_aload_n C dM_isRecord_85 rfl rfl ?_
                                  refine v_aload_n C dM_isRecord_86 rfl rfl ?_
                                  refine v_getI (k := 0) (q := 22) (v := (p_num (σ.2 7) (p_eol (σ.2 7) (σ.1 0 7) (a)) ((p_num (σ.2 7) (p_eol (σ.2 7) (σ.1 0 7) (a)) (a + 2)).2 + 1)).1) C dM_isRecord_87 (by show (0 : Nat) < 18; decide) rfl rfl (by decide) rfl inM lM_147 rfl g6_22 ?_
                                  refine v_putI (k := 0) (q := 27) C dM_isRecord_90 (by show (0 : Nat) < 18; decide) rfl rfl (by decide) rfl inM tyM_ok nmM lM_163 rfl rfl rfl rfl rfl ?_
                                  refine v_aload_n C dM_isRecord_93 rfl rfl ?_
                                  refine v_getI (k := 0) (q := 26) (v := (p_eol (σ.2 7) (σ.1 0 7) (a) + 1)) C dM_isRecord_94 (by show (0 : Nat) < 18; decide) rfl rfl (by decide) rfl inM lM_113 rfl rfl ?_
                                  refine v_aload_n C dM_isRecord_97 rfl rfl ?_
                                  refine v_getI (k := 0) (q := 27) (v := (p_num (σ.2 7) (p_eol (σ.2 7) (σ.1 0 7) (a)) ((p_num (σ.2 7) (p_eol (σ.2 7) (σ.1 0 7) (a)) (a + 2)).2 + 1)).1) C dM_isRecord_98 (by show (0 : Nat) < 18; decide) rfl rfl (by decide) rfl inM lM_163 rfl rfl ?_
                                  refine v_iadd C dM_isRecord_101 ?_
                                  refine v_iload_n C dM_isRecord_102 rfl rfl ?_
                                  refine v_icmp_ge (tgt := 129) C dM_isRecord_103 (by decide) (by omega) (by omega) (fun hc22 => ?_) (fun hc22 => ?_)
                                  · refine v_iconst C dM_isRecord_129 ?_
                                    exact v_zret C hRt hLk dM_isRecord_130 (fN_bool (by omega)) ⟨(m_scr_p (m_scr_p hs6_ 26 ((p_eol (σ.2 7) (σ.1 0 7) (a) + 1)) (by decide)) 27 ((p_num (σ.2 7) (p_eol (σ.2 7) (σ.1 0 7) (a)) ((p_num (σ.2 7) (p_eol (σ.2 7) (σ.1 0 7) (a)) (a + 2)).2 + 1)).1) (by decide)), Or.inr ⟨fun h9 => by first | exact g1_c h9.1 | exact g2_c h9.2.1 | exact g3_c h9.2.2.1 | exact g4_c h9.2.2.2.1 | exact g5_c h9.2.2.2.2.2.1 | exact g6_c h9.2.2.2.2.2.2.1 | exact g7_c h9.2.2.2.2.2.2.2.1 | (have k1 := h9.2.2.2.2.1; have k2 := h9.2.2.2.2.2.2.2.2.1; have k3 := h9.2.2.2.2.2.2.2.2.2.1; have k4 := h9.2.2.2.2.2.2.2.2.2.2; omega), rfl⟩⟩
                                  · refine v_aload_n C dM_isRecord_106 rfl rfl ?_
                                    refine v_getR (k := 0) (q := 8) C dM_isRecord_107 (by show (0 : Nat) < 18; decide) rfl rfl (by decide) rfl inM lM_30 rfl ?_
                                    refine v_aload_n C dM_isRecord_110 rfl rfl ?_
                                    refine v_getI (k := 0) (q := 26) (v := (p_eol (σ.2 7) (σ.1 0 7) (a) + 1)) C dM_isRecord_111 (by show (0 : Nat) < 18; decide) rfl rfl (by decide) rfl inM lM_113 rfl rfl ?_
                                    refine v_aload_n C dM_isRecord_114 rfl rfl ?_
                                    refine v_getI (k := 0) (q := 27) (v := (p_num (σ.2 7) (p_eol (σ.2 7) (σ.1 0 7) (a)) ((p_num (σ.2 7) (p_eol (σ.2 7) (σ.1 0 7) (a)) (a + 2)).2 + 1)).1) C dM_isRecord_115 (by show (0 : Nat) < 18; decide) rfl rfl (by decide) rfl inM lM_163 rfl rfl ?_
                                    refine v_iadd C dM_isRecord_118 ?_
                                    have hb23 := h7 (((p_eol (σ.2 7) (σ.1 0 7) (a) + 1) + (p_num (σ.2 7) (p_eol (σ.2 7) (σ.1 0 7) (a)) ((p_num (σ.2 7) (p_eol (σ.2 7) (σ.1 0 7) (a)) (a + 2)).2 + 1)).1)).toNat
                                    refine v_bald (k := 7) (v := σ.2 7 (((p_eol (σ.2 7) (σ.1 0 7) (a) + 1) + (p_num (σ.2 7) (p_eol (σ.2 7) (σ.1 0 7) (a)) ((p_num (σ.2 7) (p_eol (σ.2 7) (σ.1 0 7) (a)) (a + 2)).2 + 1)).1)).toNat) C dM_isRecord_119 (by show (7 : Nat) < 18; decide) rfl rfl (by omega) (by decide) (m_scr_a hs6_ _ _) ?_
                                    refine v_bipush C dM_isRecord_120 (by decide +kernel) ?_
                                    refine v_icmp_ne (tgt := 129) C dM_isRecord_122 (by decide) (by omega) (by omega) (fun hc24 => ?_) (fun hc24 => ?_)
                                    · refine v_iconst C dM_isRecord_129 ?_
                                      exact v_zret C hRt hLk dM_isRecord_130 (fN_bool (by omega)) ⟨(m_scr_p (m_scr_p hs6_ 26 ((p_eol (σ.2 7) (σ.1 0 7) (a) + 1)) (by decide)) 27 ((p_num (σ.2 7) (p_eol (σ.2 7) (σ.1 0 7) (a)) ((p_num (σ.2 7) (p_eol (σ.2 7) (σ.1 0 7) (a)) (a + 2)).2 + 1)).1) (by decide)), Or.inr ⟨fun h9 => by first | exact g1_c h9.1 | exact g2_c h9.2.1 | exact g3_c h9.2.2.1 | exact g4_c h9.2.2.2.1 | exact g5_c h9.2.2.2.2.2.1 | exact g6_c h9.2.2.2.2.2.2.1 | exact g7_c h9.2.2.2.2.2.2.2.1 | (have k1 := h9.2.2.2.2.1; have k2 := h9.2.2.2.2.2.2.2.2.1; have k3 := h9.2.2.2.2.2.2.2.2.2.1; have k4 := h9.2.2.2.2.2.2.2.2.2.2; omega), rfl⟩⟩
                                    · refine v_iconst C dM_isRecord_125 ?_
                                      refine v_goto (tgt := 130) C dM_isRecord_126 (by decide) ?_
                                      exact v_zret C hRt hLk dM_isRecord_130 (fN_bool (by omega)) ⟨(m_scr_p (m_scr_p hs6_ 26 ((p_eol (σ.2 7) (σ.1 0 7) (a) + 1)) (by decide)) 27 ((p_num (σ.2 7) (p_eol (σ.2 7) (σ.1 0 7) (a)) ((p_num (σ.2 7) (p_eol (σ.2 7) (σ.1 0 7) (a)) (a + 2)).2 + 1)).1) (by decide)), Or.inl ⟨⟨g1_c, g2_c, g3_c, g4_c, by omega, g5_c, g6_c, g7_c, by omega, by omega, by omega⟩, rfl, rfl, rfl⟩⟩
                                · refine v_iconst C dM_isRecord_73 ?_
                                  exact v_zret C hRt hLk dM_isRecord_74 (fN_bool (by omega)) ⟨hs6_, Or.inr ⟨fun h9 => by first | exact g1_c h9.1 | exact g2_c h9.2.1 | exact g3_c h9.2.2.1 | exact g4_c h9.2.2.2.1 | exact g5_c h9.2.2.2.2.2.1 | exact g6_c h9.2.2.2.2.2.2.1 | exact g7_c h9.2.2.2.2.2.2.2.1 | (have k1 := h9.2.2.2.2.1; have k2 := h9.2.2.2.2.2.2.2.2.1; have k3 := h9.2.2.2.2.2.2.2.2.2.1; have k4 := h9.2.2.2.2.2.2.2.2.2.2; omega), rfl⟩⟩
                            · subst τ7
                              refine v_if_eq (tgt := 73) C dM_isRecord_61 (by decide) (by omega) (fun hc25 => ?_) (fun hc25 => ?_)
                              · refine v_iconst C dM_isRecord_73 ?_
                                exact v_zret C hRt hLk dM_isRecord_74 (fN_bool (by omega)) ⟨hs6_, Or.inr ⟨fun h9 => by first | exact g1_c h9.1 | exact g2_c h9.2.1 | exact g3_c h9.2.2.1 | exact g4_c h9.2.2.2.1 | exact g5_c h9.2.2.2.2.2.1 | exact g6_c h9.2.2.2.2.2.2.1 | exact g7_c h9.2.2.2.2.2.2.2.1 | (have k1 := h9.2.2.2.2.1; have k2 := h9.2.2.2.2.2.2.2.2.1; have k3 := h9.2.2.2.2.2.2.2.2.2.1; have k4 := h9.2.2.2.2.2.2.2.2.2.2; omega), rfl⟩⟩
                              · exfalso; omega
                        · have hs6_ := m_scr_tr hs5_ g6_s
                          have g6_l := p_num_le (σ.2 7) (p_eol (σ.2 7) (σ.1 0 7) (a)) ((p_num (σ.2 7) (p_eol (σ.2 7) (σ.1 0 7) (a)) (a + 2)).2 + 1)
                          have g6_v := p_num_v (σ.2 7) (p_eol (σ.2 7) (σ.1 0 7) (a)) ((p_num (σ.2 7) (p_eol (σ.2 7) (σ.1 0 7) (a)) (a + 2)).2 + 1)
                          refine v_if_eq (tgt := 73) C dM_isRecord_54 (by decide) (by omega) (fun hc26 => ?_) (fun hc26 => ?_)
                          · refine v_iconst C dM_isRecord_73 ?_
                            exact v_zret C hRt hLk dM_isRecord_74 (fN_bool (by omega)) ⟨hs6_, Or.inr ⟨fun h9 => by first | exact g1_c h9.1 | exact g2_c h9.2.1 | exact g3_c h9.2.2.1 | exact g4_c h9.2.2.2.1 | exact g5_c h9.2.2.2.2.2.1 | exact g6_c h9.2.2.2.2.2.2.1 | exact nope h9.2.2.2.2.2.2.2.1 | (have k1 := h9.2.2.2.2.1; have k2 := h9.2.2.2.2.2.2.2.2.1; have k3 := h9.2.2.2.2.2.2.2.2.2.1; have k4 := h9.2.2.2.2.2.2.2.2.2.2; omega), rfl⟩⟩
                          · exfalso; omega
                    · have hs5_ := m_scr_tr hs4_ g5_s
                      refine v_if_eq (tgt := 73) C dM_isRecord_47 (by decide) (by omega) (fun hc27 => ?_) (fun hc27 => ?_)
                      · refine v_iconst C dM_isRecord_73 ?_
                        exact v_zret C hRt hLk dM_isRecord_74 (fN_bool (by omega)) ⟨hs5_, Or.inr ⟨fun h9 => by first | exact g1_c h9.1 | exact g2_c h9.2.1 | exact g3_c h9.2.2.1 | exact g4_c h9.2.2.2.1 | exact g5_c h9.2.2.2.2.2.1 | exact nope h9.2.2.2.2.2.2.1 | exact nope h9.2.2.2.2.2.2.2.1 | (have k1 := h9.2.2.2.2.1; have k2 := h9.2.2.2.2.2.2.2.2.1; have k3 := h9.2.2.2.2.2.2.2.2.2.1; have k4 := h9.2.2.2.2.2.2.2.2.2.2; omega), rfl⟩⟩
                      · exfalso; omega
              · have hs4_ := m_scr_tr hs3_ g4_s
                have g4_l := p_num_le (σ.2 7) (p_eol (σ.2 7) (σ.1 0 7) (a)) (a + 2)
                have g4_v := p_num_v (σ.2 7) (p_eol (σ.2 7) (σ.1 0 7) (a)) (a + 2)
                refine v_if_eq (tgt := 73) C dM_isRecord_30 (by decide) (by omega) (fun hc28 => ?_) (fun hc28 => ?_)
                · refine v_iconst C dM_isRecord_73 ?_
                  exact v_zret C hRt hLk dM_isRecord_74 (fN_bool (by omega)) ⟨hs4_, Or.inr ⟨fun h9 => by first | exact g1_c h9.1 | exact g2_c h9.2.1 | exact g3_c h9.2.2.1 | exact g4_c h9.2.2.2.1 | exact nope h9.2.2.2.2.2.1 | exact nope h9.2.2.2.2.2.2.1 | exact nope h9.2.2.2.2.2.2.2.1 | (have k1 := h9.2.2.2.2.1; have k2 := h9.2.2.2.2.2.2.2.2.1; have k3 := h9.2.2.2.2.2.2.2.2.2.1; have k4 := h9.2.2.2.2.2.2.2.2.2.2; omega), rfl⟩⟩
                · exfalso; omega
          · have hs3_ := m_scr_tr hs2_ g3_s
            refine v_if_eq (tgt := 73) C dM_isRecord_23 (by decide) (by omega) (fun hc29 => ?_) (fun hc29 => ?_)
            · refine v_iconst C dM_isRecord_73 ?_
              exact v_zret C hRt hLk dM_isRecord_74 (fN_bool (by omega)) ⟨hs3_, Or.inr ⟨fun h9 => by first | exact g1_c h9.1 | exact g2_c h9.2.1 | exact g3_c h9.2.2.1 | exact nope h9.2.2.2.1 | exact nope h9.2.2.2.2.2.1 | exact nope h9.2.2.2.2.2.2.1 | exact nope h9.2.2.2.2.2.2.2.1 | (have k1 := h9.2.2.2.2.1; have k2 := h9.2.2.2.2.2.2.2.2.1; have k3 := h9.2.2.2.2.2.2.2.2.2.1; have k4 := h9.2.2.2.2.2.2.2.2.2.2; omega), rfl⟩⟩
            · exfalso; omega
      · have hs2_ := m_scr_tr hs1_ g2_s
        refine v_if_eq (tgt := 73) C dM_isRecord_14 (by decide) (by omega) (fun hc30 => ?_) (fun hc30 => ?_)
        · refine v_iconst C dM_isRecord_73 ?_
          exact v_zret C hRt hLk dM_isRecord_74 (fN_bool (by omega)) ⟨hs2_, Or.inr ⟨fun h9 => by first | exact g1_c h9.1 | exact g2_c h9.2.1 | exact nope h9.2.2.1 | exact nope h9.2.2.2.1 | exact nope h9.2.2.2.2.2.1 | exact nope h9.2.2.2.2.2.2.1 | exact nope h9.2.2.2.2.2.2.2.1 | (have k1 := h9.2.2.2.2.1; have k2 := h9.2.2.2.2.2.2.2.2.1; have k3 := h9.2.2.2.2.2.2.2.2.2.1; have k4 := h9.2.2.2.2.2.2.2.2.2.2; omega), rfl⟩⟩
        · exfalso; omega
  · have hs1_ := g1_s
    have g1_l := @p_eol_le (σ.2 7) (σ.1 0 7) (a)
    refine v_if_eq (tgt := 73) C dM_isRecord_5 (by decide) (by omega) (fun hc31 => ?_) (fun hc31 => ?_)
    · refine v_iconst C dM_isRecord_73 ?_
      exact v_zret C hRt hLk dM_isRecord_74 (fN_bool (by omega)) ⟨hs1_, Or.inr ⟨fun h9 => by first | exact g1_c h9.1 | exact nope h9.2.1 | exact nope h9.2.2.1 | exact nope h9.2.2.2.1 | exact nope h9.2.2.2.2.2.1 | exact nope h9.2.2.2.2.2.2.1 | exact nope h9.2.2.2.2.2.2.2.1 | (have k1 := h9.2.2.2.2.1; have k2 := h9.2.2.2.2.2.2.2.2.1; have k3 := h9.2.2.2.2.2.2.2.2.2.1; have k4 := h9.2.2.2.2.2.2.2.2.2.2; omega), rfl⟩⟩
    · exfalso; omega
