/-- a PART at x: its rows, its end, its records -/
def p_at (f : Nat → Int) (z x : Int) (j : Nat) : Int := p_ln f z j (p_eol f z x + 1)
def p_many (f : Nat → Int) (z x : Int) : Nat := (p_tv f z x).toNat
def p_lastn (f : Nat → Int) (z x : Int) : Nat → Int
  | 0 => 0
  | j + 1 => p_rn f z (p_at f z x j)
def p_good (f : Nat → Int) (z x : Int) (j : Nat) : Prop := p_row f z (p_at f z x j) ∧ (1 ≤ p_rn f z (p_at f z x j) ∧ p_rn f z (p_at f z x j) ≤ 40) ∧ p_lastn f z x j < p_rn f z (p_at f z x j) ∧ p_rpv f z (p_at f z x j) < x
def p_pl (f : Nat → Int) (z x : Int) : Int := p_at f z x (p_many f z x)
def p_pok (f : Nat → Int) (z x pt : Int) : Prop := p_tell f z (p_pl f z x) 112 ∧ p_tv f z (p_pl f z x) < x ∧ ¬ (0 < p_tv f z (p_pl f z x) ∧ pt = 60)
def p_el (f : Nat → Int) (z x : Int) : Int := p_eol f z (p_pl f z x) + 1
def p_eok (f : Nat → Int) (z x : Int) : Prop := p_tell f z (p_el f z x) 101 ∧ p_tv f z (p_el f z x) = x
def p_end (f : Nat → Int) (z x : Int) : Int := p_eol f z (p_el f z x) + 1
def p_look (f : Nat → Int) (z x pt r fl : Int) : Prop :=
  (¬ p_tell f z x 120 ∧ r = -1 ∧ fl = x) ∨ (p_tell f z x 120 ∧
  ((∃ j, j < p_many f z x ∧ (∀ i, i < j → p_good f z x i) ∧ ¬ p_good f z x j ∧ r = -1 ∧ fl = p_at f z x j) ∨ ((∀ i, i < p_many f z x → p_good f z x i) ∧
  ((¬ p_pok f z x pt ∧ r = -1 ∧ fl = p_pl f z x) ∨ (p_pok f z x pt ∧
  ((¬ p_eok f z x ∧ r = -1 ∧ fl = p_el f z x) ∨ (p_eok f z x ∧
  ((pt = 1 ∧ p_end f z x ≠ z ∧ r = -1 ∧ fl = p_end f z x) ∨ (¬ (pt = 1 ∧ p_end f z x ≠ z) ∧
  ((∃ j, j < p_many f z x ∧ (∀ i, i < j → p_rok f z x (p_at f z x i)) ∧ ¬ p_rok f z x (p_at f z x j) ∧ r = -1 ∧ fl = p_rpv f z (p_at f z x j)) ∨
   ((∀ i, i < p_many f z x → p_rok f z x (p_at f z x i)) ∧ r = p_tv f z (p_pl f z x))))))))))))
theorem p_at_s (f : Nat → Int) (z x : Int) (j : Nat) : p_at f z x (j + 1) = p_eol f z (p_at f z x j) + 1 := rfl
set_option maxRecDepth 100000 in
set_option maxHeartbeats 4000000 in
/-- lookAt(x) -/
theorem kM_lookAt (l : Launch) (xCl : List vw_C) (D : va_G) (cA : Nat → ClassId) (ad : Nat → Nat) (hJ : f_J (mG xCl D cA ad)) (σ : fS) (x : Int) (hx : 0 ≤ x ∧ x ≤ 11999) (hz : 0 ≤ σ.1 0 7 ∧ σ.1 0 7 ≤ 12000) (hpt : 0 ≤ σ.1 0 24 ∧ σ.1 0 24 ≤ 60) (h7 : ∀ i, -128 ≤ σ.2 7 i ∧ σ.2 7 i ≤ 127) : f_M l (mG xCl D cA ad) mE yM_lookAt (Cond.code yM_lookAt cM_lookAt 6 (some .int) :: A9) 3 σ [.ref (ad 0), .int (fI x)] (f_QI (fun r σ1 => m_scf σ σ1 ∧ p_look (σ.2 7) (σ.1 0 7) x (σ.1 0 24) r (σ1.1 0 23)) (mG xCl D cA ad)) := by
  refine f_enter (by decide +kernel) hJ rfl (Nat.le_of_ble_eq_true rfl) ?_
  intro z hzl hR C hRt hLk hEz
  subst hzl
  have hmany : 0 ≤ p_tv (σ.2 7) (σ.1 0 7) x ∧ p_tv (σ.2 7) (σ.1 0 7) x ≤ 99999 := p_num_v _ _ _
  have L : p_tell (σ.2 7) (σ.1 0 7) x 120 → ∀ (m k : Nat) (S : fS), m + k = p_many (σ.2 7) (σ.1 0 7) x → m_scr σ S → (∀ i, i < k → p_good (σ.2 7) (σ.1 0 7) x i) → 0 ≤ p_at (σ.2 7) (σ.1 0 7) x k → p_at (σ.2 7) (σ.1 0 7) x k ≤ σ.1 0 7 → 0 ≤ p_lastn (σ.2 7) (σ.1 0 7) x k ∧ p_lastn (σ.2 7) (σ.1 0 7) x k ≤ 40 → fv z (mG xCl D cA ad) 6 (f_R z (mG xCl D cA ad) (f_QI (fun r σ1 => m_scf σ σ1 ∧ p_look (σ.2 7) (σ.1 0 7) x (σ.1 0 24) r (σ1.1 0 23)) (mG xCl D cA ad))) 0 0 S 35 [some (.ref (ad 0)), some (.int (fI x)), some (.int (fI (p_tv (σ.2 7) (σ.1 0 7) x))), some (.int (fI (p_at (σ.2 7) (σ.1 0 7) x k))), some (.int (fI (p_lastn (σ.2 7) (σ.1 0 7) x k))), some (.int (fI (k : Int)))] [] := by
    intro gt_c m
    induction m with
    | zero =>
      intro k S hk hs hall ha0 ha1 hla
      have hmn : (p_many (σ.2 7) (σ.1 0 7) x : Int) = p_tv (σ.2 7) (σ.1 0 7) x := by unfold p_many; omega
      have hkm : k = p_many (σ.2 7) (σ.1 0 7) x := by omega
      have hpl : p_at (σ.2 7) (σ.1 0 7) x k = p_pl (σ.2 7) (σ.1 0 7) x := by rw [hkm]; rfl
      rw [hkm] at hall
      rw [hpl] at ha0 ha1 ⊢
      refine v_iload C dM_lookAt_35 rfl ?_
      refine v_iload_n C dM_lookAt_37 rfl rfl ?_
      refine v_icmp_ge (tgt := 102) C dM_lookAt_38 (by decide) (by omega) (by omega) (fun hc1 => ?_) (fun hc1 => ?_)
      · refine v_aload_n C dM_lookAt_102 rfl rfl ?_
        refine v_iload_n C dM_lookAt_103 rfl rfl ?_
        refine v_bipush C dM_lookAt_104 (by decide +kernel) ?_
        have hz2 : 0 ≤ S.1 0 7 ∧ S.1 0 7 ≤ 12000 := by rw [m_scr_z hs]; exact hz
        have hb3 : ∀ i, -128 ≤ S.2 7 i ∧ S.2 7 i ≤ 127 := fun i => by rw [m_scr_a hs]; exact h7 i
        refine v_cVI (k := 0) (n := 2) C (mE_ok _) trivial hR (kM_tells _ xCl D cA ad hJ S ((p_pl (σ.2 7) (σ.1 0 7) x)) (112) (by omega) (by omega) hz2 hb3) dM_lookAt_106 (by show (0 : Nat) < 18; decide) rfl rfl gM_169 (by decide +kernel) (by decide) (by decide) rfl (Nat.le_of_ble_eq_true rfl) rfl ⟨rfl, rfl⟩ (fun r1 τ1 hp1 => ?_)
        simp only [hs.1, m_scr_z hs] at hp1
        obtain ⟨g1_s, g1_x, g1_y, ⟨g1_c, rfl, g1_20, g1_22⟩ | ⟨g1_c, rfl⟩⟩ := hp1
        · have hs1_ := m_scr_tr hs g1_s
          have g1_e := g1_c.1
          have g1_l := @p_eol_le (σ.2 7) (σ.1 0 7) ((p_pl (σ.2 7) (σ.1 0 7) x))
          have g1_v := p_num_v (σ.2 7) (p_eol (σ.2 7) (σ.1 0 7) ((p_pl (σ.2 7) (σ.1 0 7) x))) ((p_pl (σ.2 7) (σ.1 0 7) x) + 2)
          change 0 ≤ p_tv (σ.2 7) (σ.1 0 7) ((p_pl (σ.2 7) (σ.1 0 7) x)) ∧ p_tv (σ.2 7) (σ.1 0 7) ((p_pl (σ.2 7) (σ.1 0 7) x)) ≤ 99999 at g1_v
          refine v_if_eq (tgt := 136) C dM_lookAt_109 (by decide) (by omega) (fun hc4 => ?_) (fun hc4 => ?_)
          · exfalso; omega
          · refine v_aload_n C dM_lookAt_112 rfl rfl ?_
            refine v_getI (k := 0) (q := 22) (v := p_tv (σ.2 7) (σ.1 0 7) ((p_pl (σ.2 7) (σ.1 0 7) x))) C dM_lookAt_113 (by show (0 : Nat) < 18; decide) rfl rfl (by decide) rfl inM lM_147 rfl g1_22 ?_
            refine v_iload_n C dM_lookAt_116 rfl rfl ?_
            refine v_icmp_ge (tgt := 136) C dM_lookAt_117 (by decide) (by omega) (by omega) (fun hc5 => ?_) (fun hc5 => ?_)
            · refine v_aload_n C dM_lookAt_136 rfl rfl ?_
              refine v_iload_n C dM_lookAt_137 rfl rfl ?_
              refine v_putI (k := 0) (q := 23) C dM_lookAt_138 (by show (0 : Nat) < 18; decide) rfl rfl (by decide) rfl inM tyM_ok nmM lM_166 rfl rfl rfl rfl rfl ?_
              refine v_iconst C dM_lookAt_141 ?_
              exact v_iret C hRt hLk dM_lookAt_142 ⟨m_scf_p (m_scf_of hs1_) _, Or.inr ⟨gt_c, Or.inr ⟨hall, Or.inl ⟨fun h9 => by first | exact g1_c h9.1 | (have h91 := h9.2.1; have h92 := h9.2.2; omega), rfl, rfl⟩⟩⟩⟩
            · refine v_aload_n C dM_lookAt_120 rfl rfl ?_
              refine v_getI (k := 0) (q := 22) (v := p_tv (σ.2 7) (σ.1 0 7) ((p_pl (σ.2 7) (σ.1 0 7) x))) C dM_lookAt_121 (by show (0 : Nat) < 18; decide) rfl rfl (by decide) rfl inM lM_147 rfl g1_22 ?_
              refine v_if_le (tgt := 143) C dM_lookAt_124 (by decide) (by omega) (fun hc6 => ?_) (fun hc6 => ?_)
              · refine v_aload_n C dM_lookAt_143 rfl rfl ?_
                refine v_getI (k := 0) (q := 22) (v := p_tv (σ.2 7) (σ.1 0 7) ((p_pl (σ.2 7) (σ.1 0 7) x))) C dM_lookAt_144 (by show (0 : Nat) < 18; decide) rfl rfl (by decide) rfl inM lM_147 rfl g1_22 ?_
                refine v_istore C dM_lookAt_147 (by decide) ?_
                refine v_aload_n C dM_lookAt_149 rfl rfl ?_
                refine v_getI (k := 0) (q := 20) (v := p_eol (σ.2 7) (σ.1 0 7) ((p_pl (σ.2 7) (σ.1 0 7) x))) C dM_lookAt_150 (by show (0 : Nat) < 18; decide) rfl rfl (by decide) rfl inM lM_144 rfl g1_20 ?_
                refine v_iconst C dM_lookAt_153 ?_
                refine v_iadd C dM_lookAt_154 ?_
                refine v_istore_n C dM_lookAt_155 rfl (by decide) ?_
                refine v_aload_n C dM_lookAt_156 rfl rfl ?_
                refine v_iload_n C dM_lookAt_157 rfl rfl ?_
                refine v_bipush C dM_lookAt_158 (by decide +kernel) ?_
                have hz7 : 0 ≤ τ1.1 0 7 ∧ τ1.1 0 7 ≤ 12000 := by rw [m_scr_z hs1_]; exact hz
                have hb8 : ∀ i, -128 ≤ τ1.2 7 i ∧ τ1.2 7 i ≤ 127 := fun i => by rw [m_scr_a hs1_]; exact h7 i
                refine v_cVI (k := 0) (n := 2) C (mE_ok _) trivial hR (kM_tells _ xCl D cA ad hJ τ1 ((p_eol (σ.2 7) (σ.1 0 7) ((p_pl (σ.2 7) (σ.1 0 7) x)) + 1)) (101) (by omega) (by omega) hz7 hb8) dM_lookAt_160 (by show (0 : Nat) < 18; decide) rfl rfl gM_169 (by decide +kernel) (by decide) (by decide) rfl (Nat.le_of_ble_eq_true rfl) rfl ⟨rfl, rfl⟩ (fun r2 τ2 hp2 => ?_)
                simp only [hs1_.1, m_scr_z hs1_, g1_20, g1_22] at hp2
                obtain ⟨g2_s, g2_x, g2_y, ⟨g2_c, rfl, g2_20, g2_22⟩ | ⟨g2_c, rfl⟩⟩ := hp2
                · have hs2_ := m_scr_tr hs1_ g2_s
                  have g2_e := g2_c.1
                  have g2_l := @p_eol_le (σ.2 7) (σ.1 0 7) ((p_eol (σ.2 7) (σ.1 0 7) ((p_pl (σ.2 7) (σ.1 0 7) x)) + 1))
                  have g2_v := p_num_v (σ.2 7) (p_eol (σ.2 7) (σ.1 0 7) ((p_eol (σ.2 7) (σ.1 0 7) ((p_pl (σ.2 7) (σ.1 0 7) x)) + 1))) ((p_eol (σ.2 7) (σ.1 0 7) ((p_pl (σ.2 7) (σ.1 0 7) x)) + 1) + 2)
                  change 0 ≤ p_tv (σ.2 7) (σ.1 0 7) ((p_eol (σ.2 7) (σ.1 0 7) ((p_pl (σ.2 7) (σ.1 0 7) x)) + 1)) ∧ p_tv (σ.2 7) (σ.1 0 7) ((p_eol (σ.2 7) (σ.1 0 7) ((p_pl (σ.2 7) (σ.1 0 7) x)) + 1)) ≤ 99999 at g2_v
                  refine v_if_eq (tgt := 174) C dM_lookAt_163 (by decide) (by omega) (fun hc9 => ?_) (fun hc9 => ?_)
                  · exfalso; omega
                  · refine v_aload_n C dM_lookAt_166 rfl rfl ?_
                    refine v_getI (k := 0) (q := 22) (v := p_tv (σ.2 7) (σ.1 0 7) ((p_eol (σ.2 7) (σ.1 0 7) ((p_pl (σ.2 7) (σ.1 0 7) x)) + 1))) C dM_lookAt_167 (by show (0 : Nat) < 18; decide) rfl rfl (by decide) rfl inM lM_147 rfl g2_22 ?_
                    refine v_iload_n C dM_lookAt_170 rfl rfl ?_
                    refine v_icmp_eq (tgt := 181) C dM_lookAt_171 (by decide) (by omega) (by omega) (fun hc10 => ?_) (fun hc10 => ?_)
                    · refine v_aload_n C dM_lookAt_181 rfl rfl ?_
                      refine v_getI (k := 0) (q := 24) (v := σ.1 0 24) C dM_lookAt_182 (by show (0 : Nat) < 18; decide) rfl rfl (by decide) rfl inM lM_175 rfl (hs2_.2 0 24 (by decide)) ?_
                      refine v_iconst C dM_lookAt_185 ?_
                      refine v_icmp_ne (tgt := 214) C dM_lookAt_186 (by decide) (by omega) (by omega) (fun hc11 => ?_) (fun hc11 => ?_)
                      · refine v_aload_n C dM_lookAt_214 rfl rfl ?_
                        refine v_iload_n C dM_lookAt_215 rfl rfl ?_
                        refine v_iload_n C dM_lookAt_216 rfl rfl ?_
                        have hz12 : 0 ≤ τ2.1 0 7 ∧ τ2.1 0 7 ≤ 12000 := by rw [m_scr_z hs2_]; exact hz
                        have hb13 : ∀ i, -128 ≤ τ2.2 7 i ∧ τ2.2 7 i ≤ 127 := fun i => by rw [m_scr_a hs2_]; exact h7 i
                        refine v_cVI (k := 0) (n := 2) C (mE_ok _) trivial hR (kM_recordsStand _ xCl D cA ad hJ τ2 x ((p_tv (σ.2 7) (σ.1 0 7) x)) (by omega) (by omega) hz12 hb13 (by rw [hs2_.1, m_scr_z hs2_]; exact gt_c.1) (by rw [hs2_.1, m_scr_z hs2_]; exact fun j hj => ⟨(hall j (by unfold p_many; omega)).1, (hall j (by unfold p_many; omega)).2.2.2⟩)) dM_lookAt_217 (by show (0 : Nat) < 18; decide) rfl rfl gM_178 (by decide +kernel) (by decide) (by decide) rfl (Nat.le_of_ble_eq_true rfl) rfl ⟨rfl, rfl⟩ (fun r3 τ3 hp3 => ?_)
                        simp only [hs2_.1, m_scr_z hs2_] at hp3
                        obtain ⟨g3_s, ⟨g3_j, g3_1, g3_2, g3_3, rfl, g3_4⟩ | ⟨g3_1, rfl⟩⟩ := hp3
                        · refine v_if_eq (tgt := 228) C dM_lookAt_220 (by decide) (by omega) (fun hc14 => ?_) (fun hc14 => ?_)
                          · refine v_iconst C dM_lookAt_228 ?_
                            exact v_iret C hRt hLk dM_lookAt_229 ⟨m_scf_tr (m_scf_of hs2_) g3_s, Or.inr ⟨gt_c, Or.inr ⟨hall, Or.inr ⟨⟨g1_c, by omega, by omega⟩, Or.inr ⟨⟨g2_c, by unfold p_el at *; omega⟩, Or.inr ⟨by unfold p_end p_el at *; omega, Or.inl ⟨g3_j, by unfold p_many; omega, g3_2, g3_3, rfl, g3_4⟩⟩⟩⟩⟩⟩⟩
                          · exfalso; omega
                        · refine v_if_eq (tgt := 228) C dM_lookAt_220 (by decide) (by omega) (fun hc15 => ?_) (fun hc15 => ?_)
                          · exfalso; omega
                          · refine v_iload C dM_lookAt_223 rfl ?_
                            refine v_goto (tgt := 229) C dM_lookAt_225 (by decide) ?_
                            exact v_iret C hRt hLk dM_lookAt_229 ⟨m_scf_tr (m_scf_of hs2_) g3_s, Or.inr ⟨gt_c, Or.inr ⟨hall, Or.inr ⟨⟨g1_c, by omega, by omega⟩, Or.inr ⟨⟨g2_c, by unfold p_el at *; omega⟩, Or.inr ⟨by unfold p_end p_el at *; omega, Or.inr ⟨fun i hi => g3_1 i (by unfold p_many at hi; omega), rfl⟩⟩⟩⟩⟩⟩⟩
                      · refine v_aload_n C dM_lookAt_189 rfl rfl ?_
                        refine v_getI (k := 0) (q := 20) (v := p_eol (σ.2 7) (σ.1 0 7) ((p_eol (σ.2 7) (σ.1 0 7) ((p_pl (σ.2 7) (σ.1 0 7) x)) + 1))) C dM_lookAt_190 (by show (0 : Nat) < 18; decide) rfl rfl (by decide) rfl inM lM_144 rfl g2_20 ?_
                        refine v_iconst C dM_lookAt_193 ?_
                        refine v_iadd C dM_lookAt_194 ?_
                        refine v_aload_n C dM_lookAt_195 rfl rfl ?_
                        refine v_getI (k := 0) (q := 7) (v := σ.1 0 7) C dM_lookAt_196 (by show (0 : Nat) < 18; decide) rfl rfl (by decide) rfl inM lM_116 rfl (hs2_.2 0 7 (by decide)) ?_
                        refine v_icmp_eq (tgt := 214) C dM_lookAt_199 (by decide) (by omega) (by omega) (fun hc16 => ?_) (fun hc16 => ?_)
                        · refine v_aload_n C dM_lookAt_214 rfl rfl ?_
                          refine v_iload_n C dM_lookAt_215 rfl rfl ?_
                          refine v_iload_n C dM_lookAt_216 rfl rfl ?_
                          have hz17 : 0 ≤ τ2.1 0 7 ∧ τ2.1 0 7 ≤ 12000 := by rw [m_scr_z hs2_]; exact hz
                          have hb18 : ∀ i, -128 ≤ τ2.2 7 i ∧ τ2.2 7 i ≤ 127 := fun i => by rw [m_scr_a hs2_]; exact h7 i
                          refine v_cVI (k := 0) (n := 2) C (mE_ok _) trivial hR (kM_recordsStand _ xCl D cA ad hJ τ2 x ((p_tv (σ.2 7) (σ.1 0 7) x)) (by omega) (by omega) hz17 hb18 (by rw [hs2_.1, m_scr_z hs2_]; exact gt_c.1) (by rw [hs2_.1, m_scr_z hs2_]; exact fun j hj => ⟨(hall j (by unfold p_many; omega)).1, (hall j (by unfold p_many; omega)).2.2.2⟩)) dM_lookAt_217 (by show (0 : Nat) < 18; decide) rfl rfl gM_178 (by decide +kernel) (by decide) (by decide) rfl (Nat.le_of_ble_eq_true rfl) rfl ⟨rfl, rfl⟩ (fun r4 τ4 hp4 => ?_)
                          simp only [hs2_.1, m_scr_z hs2_] at hp4
                          obtain ⟨g4_s, ⟨g4_j, g4_1, g4_2, g4_3, rfl, g4_4⟩ | ⟨g4_1, rfl⟩⟩ := hp4
                          · refine v_if_eq (tgt := 228) C dM_lookAt_220 (by decide) (by omega) (fun hc19 => ?_) (fun hc19 => ?_)
                            · refine v_iconst C dM_lookAt_228 ?_
                              exact v_iret C hRt hLk dM_lookAt_229 ⟨m_scf_tr (m_scf_of hs2_) g4_s, Or.inr ⟨gt_c, Or.inr ⟨hall, Or.inr ⟨⟨g1_c, by omega, by omega⟩, Or.inr ⟨⟨g2_c, by unfold p_el at *; omega⟩, Or.inr ⟨by unfold p_end p_el at *; omega, Or.inl ⟨g4_j, by unfold p_many; omega, g4_2, g4_3, rfl, g4_4⟩⟩⟩⟩⟩⟩⟩
                            · exfalso; omega
                          · refine v_if_eq (tgt := 228) C dM_lookAt_220 (by decide) (by omega) (fun hc20 => ?_) (fun hc20 => ?_)
                            · exfalso; omega
                            · refine v_iload C dM_lookAt_223 rfl ?_
                              refine v_goto (tgt := 229) C dM_lookAt_225 (by decide) ?_
                              exact v_iret C hRt hLk dM_lookAt_229 ⟨m_scf_tr (m_scf_of hs2_) g4_s, Or.inr ⟨gt_c, Or.inr ⟨hall, Or.inr ⟨⟨g1_c, by omega, by omega⟩, Or.inr ⟨⟨g2_c, by unfold p_el at *; omega⟩, Or.inr ⟨by unfold p_end p_el at *; omega, Or.inr ⟨fun i hi => g4_1 i (by unfold p_many at hi; omega), rfl⟩⟩⟩⟩⟩⟩⟩
                        · refine v_aload_n C dM_lookAt_202 rfl rfl ?_
                          refine v_aload_n C dM_lookAt_203 rfl rfl ?_
                          refine v_getI (k := 0) (q := 20) (v := p_eol (σ.2 7) (σ.1 0 7) ((p_eol (σ.2 7) (σ.1 0 7) ((p_pl (σ.2 7) (σ.1 0 7) x)) + 1))) C dM_lookAt_204 (by show (0 : Nat) < 18; decide) rfl rfl (by decide) rfl inM lM_144 rfl g2_20 ?_
                          refine v_iconst C dM_lookAt_207 ?_
                          refine v_iadd C dM_lookAt_208 ?_
                          refine v_putI (k := 0) (q := 23) C dM_lookAt_209 (by show (0 : Nat) < 18; decide) rfl rfl (by decide) rfl inM tyM_ok nmM lM_166 rfl rfl rfl rfl rfl ?_
                          refine v_iconst C dM_lookAt_212 ?_
                          exact v_iret C hRt hLk dM_lookAt_213 ⟨m_scf_p (m_scf_of hs2_) _, Or.inr ⟨gt_c, Or.inr ⟨hall, Or.inr ⟨⟨g1_c, by omega, by omega⟩, Or.inr ⟨⟨g2_c, by unfold p_el at *; omega⟩, Or.inl ⟨by omega, by unfold p_end p_el at *; omega, rfl, rfl⟩⟩⟩⟩⟩⟩
                    · refine v_aload_n C dM_lookAt_174 rfl rfl ?_
                      refine v_iload_n C dM_lookAt_175 rfl rfl ?_
                      refine v_putI (k := 0) (q := 23) C dM_lookAt_176 (by show (0 : Nat) < 18; decide) rfl rfl (by decide) rfl inM tyM_ok nmM lM_166 rfl rfl rfl rfl rfl ?_
                      refine v_iconst C dM_lookAt_179 ?_
                      exact v_iret C hRt hLk dM_lookAt_180 ⟨m_scf_p (m_scf_of hs2_) _, Or.inr ⟨gt_c, Or.inr ⟨hall, Or.inr ⟨⟨g1_c, by omega, by omega⟩, Or.inl ⟨fun h9 => by first | exact g2_c h9.1 | (have h91 := h9.2; unfold p_el at *; omega), rfl, rfl⟩⟩⟩⟩⟩
                · have hs2_ := m_scr_tr hs1_ g2_s
                  refine v_if_eq (tgt := 174) C dM_lookAt_163 (by decide) (by omega) (fun hc21 => ?_) (fun hc21 => ?_)
                  · refine v_aload_n C dM_lookAt_174 rfl rfl ?_
                    refine v_iload_n C dM_lookAt_175 rfl rfl ?_
                    refine v_putI (k := 0) (q := 23) C dM_lookAt_176 (by show (0 : Nat) < 18; decide) rfl rfl (by decide) rfl inM tyM_ok nmM lM_166 rfl rfl rfl rfl rfl ?_
                    refine v_iconst C dM_lookAt_179 ?_
                    exact v_iret C hRt hLk dM_lookAt_180 ⟨m_scf_p (m_scf_of hs2_) _, Or.inr ⟨gt_c, Or.inr ⟨hall, Or.inr ⟨⟨g1_c, by omega, by omega⟩, Or.inl ⟨fun h9 => by first | exact g2_c h9.1 | (have h91 := h9.2; unfold p_el at *; omega), rfl, rfl⟩⟩⟩⟩⟩
                  · exfalso; omega
              · refine v_aload_n C dM_lookAt_127 rfl rfl ?_
                refine v_getI (k := 0) (q := 24) (v := σ.1 0 24) C dM_lookAt_128 (by show (0 : Nat) < 18; decide) rfl rfl (by decide) rfl inM lM_175 rfl (hs1_.2 0 24 (by decide)) ?_
                refine v_bipush C dM_lookAt_131 (by decide +kernel) ?_
                refine v_icmp_ne (tgt := 143) C dM_lookAt_133 (by decide) (by omega) (by omega) (fun hc22 => ?_) (fun hc22 => ?_)
                · refine v_aload_n C dM_lookAt_143 rfl rfl ?_
                  refine v_getI (k := 0) (q := 22) (v := p_tv (σ.2 7) (σ.1 0 7) ((p_pl (σ.2 7) (σ.1 0 7) x))) C dM_lookAt_144 (by show (0 : Nat) < 18; decide) rfl rfl (by decide) rfl inM lM_147 rfl g1_22 ?_
                  refine v_istore C dM_lookAt_147 (by decide) ?_
                  refine v_aload_n C dM_lookAt_149 rfl rfl ?_
                  refine v_getI (k := 0) (q := 20) (v := p_eol (σ.2 7) (σ.1 0 7) ((p_pl (σ.2 7) (σ.1 0 7) x))) C dM_lookAt_150 (by show (0 : Nat) < 18; decide) rfl rfl (by decide) rfl inM lM_144 rfl g1_20 ?_
                  refine v_iconst C dM_lookAt_153 ?_
                  refine v_iadd C dM_lookAt_154 ?_
                  refine v_istore_n C dM_lookAt_155 rfl (by decide) ?_
                  refine v_aload_n C dM_lookAt_156 rfl rfl ?_
                  refine v_iload_n C dM_lookAt_157 rfl rfl ?_
                  refine v_bipush C dM_lookAt_158 (by decide +kernel) ?_
                  have hz23 : 0 ≤ τ1.1 0 7 ∧ τ1.1 0 7 ≤ 12000 := by rw [m_scr_z hs1_]; exact hz
                  have hb24 : ∀ i, -128 ≤ τ1.2 7 i ∧ τ1.2 7 i ≤ 127 := fun i => by rw [m_scr_a hs1_]; exact h7 i
                  refine v_cVI (k := 0) (n := 2) C (mE_ok _) trivial hR (kM_tells _ xCl D cA ad hJ τ1 ((p_eol (σ.2 7) (σ.1 0 7) ((p_pl (σ.2 7) (σ.1 0 7) x)) + 1)) (101) (by omega) (by omega) hz23 hb24) dM_lookAt_160 (by show (0 : Nat) < 18; decide) rfl rfl gM_169 (by decide +kernel) (by decide) (by decide) rfl (Nat.le_of_ble_eq_true rfl) rfl ⟨rfl, rfl⟩ (fun r5 τ5 hp5 => ?_)
                  simp only [hs1_.1, m_scr_z hs1_, g1_20, g1_22] at hp5
                  obtain ⟨g5_s, g5_x, g5_y, ⟨g5_c, rfl, g5_20, g5_22⟩ | ⟨g5_c, rfl⟩⟩ := hp5
                  · have hs5_ := m_scr_tr hs1_ g5_s
                    have g5_e := g5_c.1
                    have g5_l := @p_eol_le (σ.2 7) (σ.1 0 7) ((p_eol (σ.2 7) (σ.1 0 7) ((p_pl (σ.2 7) (σ.1 0 7) x)) + 1))
                    have g5_v := p_num_v (σ.2 7) (p_eol (σ.2 7) (σ.1 0 7) ((p_eol (σ.2 7) (σ.1 0 7) ((p_pl (σ.2 7) (σ.1 0 7) x)) + 1))) ((p_eol (σ.2 7) (σ.1 0 7) ((p_pl (σ.2 7) (σ.1 0 7) x)) + 1) + 2)
                    change 0 ≤ p_tv (σ.2 7) (σ.1 0 7) ((p_eol (σ.2 7) (σ.1 0 7) ((p_pl (σ.2 7) (σ.1 0 7) x)) + 1)) ∧ p_tv (σ.2 7) (σ.1 0 7) ((p_eol (σ.2 7) (σ.1 0 7) ((p_pl (σ.2 7) (σ.1 0 7) x)) + 1)) ≤ 99999 at g5_v
                    refine v_if_eq (tgt := 174) C dM_lookAt_163 (by decide) (by omega) (fun hc25 => ?_) (fun hc25 => ?_)
                    · exfalso; omega
                    · refine v_aload_n C dM_lookAt_166 rfl rfl ?_
                      refine v_getI (k := 0) (q := 22) (v := p_tv (σ.2 7) (σ.1 0 7) ((p_eol (σ.2 7) (σ.1 0 7) ((p_pl (σ.2 7) (σ.1 0 7) x)) + 1))) C dM_lookAt_167 (by show (0 : Nat) < 18; decide) rfl rfl (by decide) rfl inM lM_147 rfl g5_22 ?_
                      refine v_iload_n C dM_lookAt_170 rfl rfl ?_
                      refine v_icmp_eq (tgt := 181) C dM_lookAt_171 (by decide) (by omega) (by omega) (fun hc26 => ?_) (fun hc26 => ?_)
                      · refine v_aload_n C dM_lookAt_181 rfl rfl ?_
                        refine v_getI (k := 0) (q := 24) (v := σ.1 0 24) C dM_lookAt_182 (by show (0 : Nat) < 18; decide) rfl rfl (by decide) rfl inM lM_175 rfl (hs5_.2 0 24 (by decide)) ?_
                        refine v_iconst C dM_lookAt_185 ?_
                        refine v_icmp_ne (tgt := 214) C dM_lookAt_186 (by decide) (by omega) (by omega) (fun hc27 => ?_) (fun hc27 => ?_)
                        · refine v_aload_n C dM_lookAt_214 rfl rfl ?_
                          refine v_iload_n C dM_lookAt_215 rfl rfl ?_
                          refine v_iload_n C dM_lookAt_216 rfl rfl ?_
                          have hz28 : 0 ≤ τ5.1 0 7 ∧ τ5.1 0 7 ≤ 12000 := by rw [m_scr_z hs5_]; exact hz
                          have hb29 : ∀ i, -128 ≤ τ5.2 7 i ∧ τ5.2 7 i ≤ 127 := fun i => by rw [m_scr_a hs5_]; exact h7 i
                          refine v_cVI (k := 0) (n := 2) C (mE_ok _) trivial hR (kM_recordsStand _ xCl D cA ad hJ τ5 x ((p_tv (σ.2 7) (σ.1 0 7) x)) (by omega) (by omega) hz28 hb29 (by rw [hs5_.1, m_scr_z hs5_]; exact gt_c.1) (by rw [hs5_.1, m_scr_z hs5_]; exact fun j hj => ⟨(hall j (by unfold p_many; omega)).1, (hall j (by unfold p_many; omega)).2.2.2⟩)) dM_lookAt_217 (by show (0 : Nat) < 18; decide) rfl rfl gM_178 (by decide +kernel) (by decide) (by decide) rfl (Nat.le_of_ble_eq_true rfl) rfl ⟨rfl, rfl⟩ (fun r6 τ6 hp6 => ?_)
                          simp only [hs5_.1, m_scr_z hs5_] at hp6
                          obtain ⟨g6_s, ⟨g6_j, g6_1, g6_2, g6_3, rfl, g6_4⟩ | ⟨g6_1, rfl⟩⟩ := hp6
                          · refine v_if_eq (tgt := 228) C dM_lookAt_220 (by decide) (by omega) (fun hc30 => ?_) (fun hc30 => ?_)
                            · refine v_iconst C dM_lookAt_228 ?_
                              exact v_iret C hRt hLk dM_lookAt_229 ⟨m_scf_tr (m_scf_of hs5_) g6_s, Or.inr ⟨gt_c, Or.inr ⟨hall, Or.inr ⟨⟨g1_c, by omega, by omega⟩, Or.inr ⟨⟨g5_c, by unfold p_el at *; omega⟩, Or.inr ⟨by unfold p_end p_el at *; omega, Or.inl ⟨g6_j, by unfold p_many; omega, g6_2, g6_3, rfl, g6_4⟩⟩⟩⟩⟩⟩⟩
                            · exfalso; omega
                          · refine v_if_eq (tgt := 228) C dM_lookAt_220 (by decide) (by omega) (fun hc31 => ?_) (fun hc31 => ?_)
                            · exfalso; omega
                            · refine v_iload C dM_lookAt_223 rfl ?_
                              refine v_goto (tgt := 229) C dM_lookAt_225 (by decide) ?_
                              exact v_iret C hRt hLk dM_lookAt_229 ⟨m_scf_tr (m_scf_of hs5_) g6_s, Or.inr ⟨gt_c, Or.inr ⟨hall, Or.inr ⟨⟨g1_c, by omega, by omega⟩, Or.inr ⟨⟨g5_c, by unfold p_el at *; omega⟩, Or.inr ⟨by unfold p_end p_el at *; omega, Or.inr ⟨fun i hi => g6_1 i (by unfold p_many at hi; omega), rfl⟩⟩⟩⟩⟩⟩⟩
                        · refine v_aload_n C dM_lookAt_189 rfl rfl ?_
                          refine v_getI (k := 0) (q := 20) (v := p_eol (σ.2 7) (σ.1 0 7) ((p_eol (σ.2 7) (σ.1 0 7) ((p_pl (σ.2 7) (σ.1 0 7) x)) + 1))) C dM_lookAt_190 (by show (0 : Nat) < 18; decide) rfl rfl (by decide) rfl inM lM_144 rfl g5_20 ?_
                          refine v_iconst C dM_lookAt_193 ?_
                          refine v_iadd C dM_lookAt_194 ?_
                          refine v_aload_n C dM_lookAt_195 rfl rfl ?_
                          refine v_getI (k := 0) (q := 7) (v := σ.1 0 7) C dM_lookAt_196 (by show (0 : Nat) < 18; decide) rfl rfl (by decide) rfl inM lM_116 rfl (hs5_.2 0 7 (by decide)) ?_
                          refine v_icmp_eq (tgt := 214) C dM_lookAt_199 (by decide) (by omega) (by omega) (fun hc32 => ?_) (fun hc32 => ?_)
                          · refine v_aload_n C dM_lookAt_214 rfl rfl ?_
                            refine v_iload_n C dM_lookAt_215 rfl rfl ?_
                            refine v_iload_n C dM_lookAt_216 rfl rfl ?_
                            have hz33 : 0 ≤ τ5.1 0 7 ∧ τ5.1 0 7 ≤ 12000 := by rw [m_scr_z hs5_]; exact hz
                            have hb34 : ∀ i, -128 ≤ τ5.2 7 i ∧ τ5.2 7 i ≤ 127 := fun i => by rw [m_scr_a hs5_]; exact h7 i
                            refine v_cVI (k := 0) (n := 2) C (mE_ok _) trivial hR (kM_recordsStand _ xCl D cA ad hJ τ5 x ((p_tv (σ.2 7) (σ.1 0 7) x)) (by omega) (by omega) hz33 hb34 (by rw [hs5_.1, m_scr_z hs5_]; exact gt_c.1) (by rw [hs5_.1, m_scr_z hs5_]; exact fun j hj => ⟨(hall j (by unfold p_many; omega)).1, (hall j (by unfold p_many; omega)).2.2.2⟩)) dM_lookAt_217 (by show (0 : Nat) < 18; decide) rfl rfl gM_178 (by decide +kernel) (by decide) (by decide) rfl (Nat.le_of_ble_eq_true rfl) rfl ⟨rfl, rfl⟩ (fun r7 τ7 hp7 => ?_)
                            simp only [hs5_.1, m_scr_z hs5_] at hp7
                            obtain ⟨g7_s, ⟨g7_j, g7_1, g7_2, g7_3, rfl, g7_4⟩ | ⟨g7_1, rfl⟩⟩ := hp7
                            · refine v_if_eq (tgt := 228) C dM_lookAt_220 (by decide) (by omega) (fun hc35 => ?_) (fun hc35 => ?_)
                              · refine v_iconst C dM_lookAt_228 ?_
                                exact v_iret C hRt hLk dM_lookAt_229 ⟨m_scf_tr (m_scf_of hs5_) g7_s, Or.inr ⟨gt_c, Or.inr ⟨hall, Or.inr ⟨⟨g1_c, by omega, by omega⟩, Or.inr ⟨⟨g5_c, by unfold p_el at *; omega⟩, Or.inr ⟨by unfold p_end p_el at *; omega, Or.inl ⟨g7_j, by unfold p_many; omega, g7_2, g7_3, rfl, g7_4⟩⟩⟩⟩⟩⟩⟩
                              · exfalso; omega
                            · refine v_if_eq (tgt := 228) C dM_lookAt_220 (by decide) (by omega) (fun hc36 => ?_) (fun hc36 => ?_)
                              · exfalso; omega
                              · refine v_iload C dM_lookAt_223 rfl ?_
                                refine v_goto (tgt := 229) C dM_lookAt_225 (by decide) ?_
                                exact v_iret C hRt hLk dM_lookAt_229 ⟨m_scf_tr (m_scf_of hs5_) g7_s, Or.inr ⟨gt_c, Or.inr ⟨hall, Or.inr ⟨⟨g1_c, by omega, by omega⟩, Or.inr ⟨⟨g5_c, by unfold p_el at *; omega⟩, Or.inr ⟨by unfold p_end p_el at *; omega, Or.inr ⟨fun i hi => g7_1 i (by unfold p_many at hi; omega), rfl⟩⟩⟩⟩⟩⟩⟩
                          · refine v_aload_n C dM_lookAt_202 rfl rfl ?_
                            refine v_aload_n C dM_lookAt_203 rfl rfl ?_
                            refine v_getI (k := 0) (q := 20) (v := p_eol (σ.2 7) (σ.1 0 7) ((p_eol (σ.2 7) (σ.1 0 7) ((p_pl (σ.2 7) (σ.1 0 7) x)) + 1))) C dM_lookAt_204 (by show (0 : Nat) < 18; decide) rfl rfl (by decide) rfl inM lM_144 rfl g5_20 ?_
                            refine v_iconst C dM_lookAt_207 ?_
                            refine v_iadd C dM_lookAt_208 ?_
                            refine v_putI (k := 0) (q := 23) C dM_lookAt_209 (by show (0 : Nat) < 18; decide) rfl rfl (by decide) rfl inM tyM_ok nmM lM_166 rfl rfl rfl rfl rfl ?_
                            refine v_iconst C dM_lookAt_212 ?_
                            exact v_iret C hRt hLk dM_lookAt_213 ⟨m_scf_p (m_scf_of hs5_) _, Or.inr ⟨gt_c, Or.inr ⟨hall, Or.inr ⟨⟨g1_c, by omega, by omega⟩, Or.inr ⟨⟨g5_c, by unfold p_el at *; omega⟩, Or.inl ⟨by omega, by unfold p_end p_el at *; omega, rfl, rfl⟩⟩⟩⟩⟩⟩
                      · refine v_aload_n C dM_lookAt_174 rfl rfl ?_
                        refine v_iload_n C dM_lookAt_175 rfl rfl ?_
                        refine v_putI (k := 0) (q := 23) C dM_lookAt_176 (by show (0 : Nat) < 18; decide) rfl rfl (by decide) rfl inM tyM_ok nmM lM_166 rfl rfl rfl rfl rfl ?_
                        refine v_iconst C dM_lookAt_179 ?_
                        exact v_iret C hRt hLk dM_lookAt_180 ⟨m_scf_p (m_scf_of hs5_) _, Or.inr ⟨gt_c, Or.inr ⟨hall, Or.inr ⟨⟨g1_c, by omega, by omega⟩, Or.inl ⟨fun h9 => by first | exact g5_c h9.1 | (have h91 := h9.2; unfold p_el at *; omega), rfl, rfl⟩⟩⟩⟩⟩
                  · have hs5_ := m_scr_tr hs1_ g5_s
                    refine v_if_eq (tgt := 174) C dM_lookAt_163 (by decide) (by omega) (fun hc37 => ?_) (fun hc37 => ?_)
                    · refine v_aload_n C dM_lookAt_174 rfl rfl ?_
                      refine v_iload_n C dM_lookAt_175 rfl rfl ?_
                      refine v_putI (k := 0) (q := 23) C dM_lookAt_176 (by show (0 : Nat) < 18; decide) rfl rfl (by decide) rfl inM tyM_ok nmM lM_166 rfl rfl rfl rfl rfl ?_
                      refine v_iconst C dM_lookAt_179 ?_
                      exact v_iret C hRt hLk dM_lookAt_180 ⟨m_scf_p (m_scf_of hs5_) _, Or.inr ⟨gt_c, Or.inr ⟨hall, Or.inr ⟨⟨g1_c, by omega, by omega⟩, Or.inl ⟨fun h9 => by first | exact g5_c h9.1 | (have h91 := h9.2; unfold p_el at *; omega), rfl, rfl⟩⟩⟩⟩⟩
                    · exfalso; omega
                · refine v_aload_n C dM_lookAt_136 rfl rfl ?_
                  refine v_iload_n C dM_lookAt_137 rfl rfl ?_
                  refine v_putI (k := 0) (q := 23) C dM_lookAt_138 (by show (0 : Nat) < 18; decide) rfl rfl (by decide) rfl inM tyM_ok nmM lM_166 rfl rfl rfl rfl rfl ?_
                  refine v_iconst C dM_lookAt_141 ?_
                  exact v_iret C hRt hLk dM_lookAt_142 ⟨m_scf_p (m_scf_of hs1_) _, Or.inr ⟨gt_c, Or.inr ⟨hall, Or.inl ⟨fun h9 => by first | exact g1_c h9.1 | (have h91 := h9.2.1; have h92 := h9.2.2; omega), rfl, rfl⟩⟩⟩⟩
        · have hs1_ := m_scr_tr hs g1_s
          refine v_if_eq (tgt := 136) C dM_lookAt_109 (by decide) (by omega) (fun hc38 => ?_) (fun hc38 => ?_)
          · refine v_aload_n C dM_lookAt_136 rfl rfl ?_
            refine v_iload_n C dM_lookAt_137 rfl rfl ?_
            refine v_putI (k := 0) (q := 23) C dM_lookAt_138 (by show (0 : Nat) < 18; decide) rfl rfl (by decide) rfl inM tyM_ok nmM lM_166 rfl rfl rfl rfl rfl ?_
            refine v_iconst C dM_lookAt_141 ?_
            exact v_iret C hRt hLk dM_lookAt_142 ⟨m_scf_p (m_scf_of hs1_) _, Or.inr ⟨gt_c, Or.inr ⟨hall, Or.inl ⟨fun h9 => by first | exact g1_c h9.1 | (have h91 := h9.2.1; have h92 := h9.2.2; omega), rfl, rfl⟩⟩⟩⟩
          · exfalso; omega
      · exfalso; omega
    | succ m ih =>
      intro k S hk hs hall ha0 ha1 hla
      have hmn : (p_many (σ.2 7) (σ.1 0 7) x : Int) = p_tv (σ.2 7) (σ.1 0 7) x := by unfold p_many; omega
      have hrr := p_rn_r (σ.2 7) (σ.1 0 7) (p_at (σ.2 7) (σ.1 0 7) x k)
      have hpr := p_rpv_r (σ.2 7) (σ.1 0 7) (p_at (σ.2 7) (σ.1 0 7) x k)
      have hel := @p_eol_le (σ.2 7) (σ.1 0 7) (p_at (σ.2 7) (σ.1 0 7) x k)
      refine v_iload C dM_lookAt_35 rfl ?_
      refine v_iload_n C dM_lookAt_37 rfl rfl ?_
      refine v_icmp_ge (tgt := 102) C dM_lookAt_38 (by decide) (by omega) (by omega) (fun hc39 => ?_) (fun hc39 => ?_)
      · exfalso; omega
      · refine v_aload_n C dM_lookAt_41 rfl rfl ?_
        refine v_iload_n C dM_lookAt_42 rfl rfl ?_
        have hz40 : 0 ≤ S.1 0 7 ∧ S.1 0 7 ≤ 12000 := by rw [m_scr_z hs]; exact hz
        have hb41 : ∀ i, -128 ≤ S.2 7 i ∧ S.2 7 i ≤ 127 := fun i => by rw [m_scr_a hs]; exact h7 i
        refine v_cVI (k := 0) (n := 1) C (mE_ok _) trivial hR (kM_isRow _ xCl D cA ad hJ S ((p_at (σ.2 7) (σ.1 0 7) x k)) (by omega) hz40 hb41) dM_lookAt_43 (by show (0 : Nat) < 18; decide) rfl rfl gM_172 (by decide +kernel) (by decide) (by decide) rfl (Nat.le_of_ble_eq_true rfl) rfl ⟨rfl, rfl⟩ (fun r8 τ8 hp8 => ?_)
        simp only [hs.1, m_scr_z hs] at hp8
        obtain ⟨g8_s, g8_20, ⟨g8_c, rfl, g8_26, g8_w⟩ | ⟨g8_c, rfl⟩⟩ := hp8
        · have hs8_ := m_scr_tr hs g8_s
          have g8_27 := p_rp_v g8_w
          have g8_r1 := p_rn_r (σ.2 7) (σ.1 0 7) ((p_at (σ.2 7) (σ.1 0 7) x k))
          have g8_r2 := p_rpv_r (σ.2 7) (σ.1 0 7) ((p_at (σ.2 7) (σ.1 0 7) x k))
          have g8_l := @p_eol_le (σ.2 7) (σ.1 0 7) ((p_at (σ.2 7) (σ.1 0 7) x k))
          refine v_if_eq (tgt := 76) C dM_lookAt_46 (by decide) (by omega) (fun hc42 => ?_) (fun hc42 => ?_)
          · exfalso; omega
          · refine v_aload_n C dM_lookAt_49 rfl rfl ?_
            refine v_getI (k := 0) (q := 26) (v := p_rn (σ.2 7) (σ.1 0 7) ((p_at (σ.2 7) (σ.1 0 7) x k))) C dM_lookAt_50 (by show (0 : Nat) < 18; decide) rfl rfl (by decide) rfl inM lM_113 rfl g8_26 ?_
            refine v_cSI (n := 1) C (mE_ok _) trivial hR (kM_isObject2 _ xCl D cA ad hJ τ8 (p_rn (σ.2 7) (σ.1 0 7) ((p_at (σ.2 7) (σ.1 0 7) x k))) (by omega)) dM_lookAt_53 gM_67 (by decide +kernel) (by decide) (by decide) rfl (Nat.le_of_ble_eq_true rfl) rfl ⟨rfl, rfl⟩ (fun r9 τ9 hp9 => ?_)
            obtain ⟨go9, rfl, ge9⟩ | ⟨go9, rfl, ge9⟩ := hp9
            · subst τ9
              refine v_if_eq (tgt := 76) C dM_lookAt_56 (by decide) (by omega) (fun hc43 => ?_) (fun hc43 => ?_)
              · exfalso; omega
              · refine v_aload_n C dM_lookAt_59 rfl rfl ?_
                refine v_getI (k := 0) (q := 26) (v := p_rn (σ.2 7) (σ.1 0 7) ((p_at (σ.2 7) (σ.1 0 7) x k))) C dM_lookAt_60 (by show (0 : Nat) < 18; decide) rfl rfl (by decide) rfl inM lM_113 rfl g8_26 ?_
                refine v_iload C dM_lookAt_63 rfl ?_
                refine v_icmp_le (tgt := 76) C dM_lookAt_65 (by decide) (by omega) (by omega) (fun hc44 => ?_) (fun hc44 => ?_)
                · refine v_aload_n C dM_lookAt_76 rfl rfl ?_
                  refine v_iload_n C dM_lookAt_77 rfl rfl ?_
                  refine v_putI (k := 0) (q := 23) C dM_lookAt_78 (by show (0 : Nat) < 18; decide) rfl rfl (by decide) rfl inM tyM_ok nmM lM_166 rfl rfl rfl rfl rfl ?_
                  refine v_iconst C dM_lookAt_81 ?_
                  exact v_iret C hRt hLk dM_lookAt_82 ⟨m_scf_p (m_scf_of hs8_) _, Or.inr ⟨gt_c, Or.inl ⟨k, by omega, hall, fun h9 => by first | exact g8_c h9.1 | (have h91 := h9.2.1; have h92 := h9.2.2.1; have h93 := h9.2.2.2; omega), rfl, rfl⟩⟩⟩
                · refine v_aload_n C dM_lookAt_68 rfl rfl ?_
                  refine v_getI (k := 0) (q := 27) (v := p_rpv (σ.2 7) (σ.1 0 7) ((p_at (σ.2 7) (σ.1 0 7) x k))) C dM_lookAt_69 (by show (0 : Nat) < 18; decide) rfl rfl (by decide) rfl inM lM_163 rfl g8_27 ?_
                  refine v_iload_n C dM_lookAt_72 rfl rfl ?_
                  refine v_icmp_lt (tgt := 83) C dM_lookAt_73 (by decide) (by omega) (by omega) (fun hc45 => ?_) (fun hc45 => ?_)
                  · refine v_aload_n C dM_lookAt_83 rfl rfl ?_
                    refine v_getI (k := 0) (q := 26) (v := p_rn (σ.2 7) (σ.1 0 7) ((p_at (σ.2 7) (σ.1 0 7) x k))) C dM_lookAt_84 (by show (0 : Nat) < 18; decide) rfl rfl (by decide) rfl inM lM_113 rfl g8_26 ?_
                    refine v_istore C dM_lookAt_87 (by decide) ?_
                    refine v_aload_n C dM_lookAt_89 rfl rfl ?_
                    refine v_getI (k := 0) (q := 20) (v := p_eol (σ.2 7) (σ.1 0 7) ((p_at (σ.2 7) (σ.1 0 7) x k))) C dM_lookAt_90 (by show (0 : Nat) < 18; decide) rfl rfl (by decide) rfl inM lM_144 rfl g8_20 ?_
                    refine v_iconst C dM_lookAt_93 ?_
                    refine v_iadd C dM_lookAt_94 ?_
                    refine v_istore_n C dM_lookAt_95 rfl (by decide) ?_
                    refine v_iinc C dM_lookAt_96 rfl (by decide) ?_
                    refine v_goto (tgt := 35) C dM_lookAt_99 (by decide) ?_
                    exact v_less (by exact ⟨rfl, rfl, rfl, rfl, rfl, rfl, trivial⟩) (ih (k + 1) τ8 (by omega) hs8_ (fun i hi => (Nat.lt_succ_iff_lt_or_eq.mp hi).elim (fun h => hall i h) (fun h => by rw [h]; exact ⟨g8_c, by omega, by omega, by omega⟩)) (by rw [p_at_s]; omega) (by rw [p_at_s]; have := g8_c.1; omega) (by show 0 ≤ p_rn (σ.2 7) (σ.1 0 7) (p_at (σ.2 7) (σ.1 0 7) x k) ∧ p_rn (σ.2 7) (σ.1 0 7) (p_at (σ.2 7) (σ.1 0 7) x k) ≤ 40; omega))
                  · refine v_aload_n C dM_lookAt_76 rfl rfl ?_
                    refine v_iload_n C dM_lookAt_77 rfl rfl ?_
                    refine v_putI (k := 0) (q := 23) C dM_lookAt_78 (by show (0 : Nat) < 18; decide) rfl rfl (by decide) rfl inM tyM_ok nmM lM_166 rfl rfl rfl rfl rfl ?_
                    refine v_iconst C dM_lookAt_81 ?_
                    exact v_iret C hRt hLk dM_lookAt_82 ⟨m_scf_p (m_scf_of hs8_) _, Or.inr ⟨gt_c, Or.inl ⟨k, by omega, hall, fun h9 => by first | exact g8_c h9.1 | (have h91 := h9.2.1; have h92 := h9.2.2.1; have h93 := h9.2.2.2; omega), rfl, rfl⟩⟩⟩
            · subst τ9
              refine v_if_eq (tgt := 76) C dM_lookAt_56 (by decide) (by omega) (fun hc46 => ?_) (fun hc46 => ?_)
              · refine v_aload_n C dM_lookAt_76 rfl rfl ?_
                refine v_iload_n C dM_lookAt_77 rfl rfl ?_
                refine v_putI (k := 0) (q := 23) C dM_lookAt_78 (by show (0 : Nat) < 18; decide) rfl rfl (by decide) rfl inM tyM_ok nmM lM_166 rfl rfl rfl rfl rfl ?_
                refine v_iconst C dM_lookAt_81 ?_
                exact v_iret C hRt hLk dM_lookAt_82 ⟨m_scf_p (m_scf_of hs8_) _, Or.inr ⟨gt_c, Or.inl ⟨k, by omega, hall, fun h9 => by first | exact g8_c h9.1 | (have h91 := h9.2.1; have h92 := h9.2.2.1; have h93 := h9.2.2.2; omega), rfl, rfl⟩⟩⟩
              · exfalso; omega
        · have hs8_ := m_scr_tr hs g8_s
          refine v_if_eq (tgt := 76) C dM_lookAt_46 (by decide) (by omega) (fun hc47 => ?_) (fun hc47 => ?_)
          · refine v_aload_n C dM_lookAt_76 rfl rfl ?_
            refine v_iload_n C dM_lookAt_77 rfl rfl ?_
            refine v_putI (k := 0) (q := 23) C dM_lookAt_78 (by show (0 : Nat) < 18; decide) rfl rfl (by decide) rfl inM tyM_ok nmM lM_166 rfl rfl rfl rfl rfl ?_
            refine v_iconst C dM_lookAt_81 ?_
            exact v_iret C hRt hLk dM_lookAt_82 ⟨m_scf_p (m_scf_of hs8_) _, Or.inr ⟨gt_c, Or.inl ⟨k, by omega, hall, fun h9 => by first | exact g8_c h9.1 | (have h91 := h9.2.1; have h92 := h9.2.2.1; have h93 := h9.2.2.2; omega), rfl, rfl⟩⟩⟩
          · exfalso; omega
  refine v_aload_n C dM_lookAt_0 rfl rfl ?_
  refine v_iload_n C dM_lookAt_1 rfl rfl ?_
  refine v_bipush C dM_lookAt_2 (by decide +kernel) ?_
  refine v_cVI (k := 0) (n := 2) C (mE_ok _) trivial hR (kM_tells _ xCl D cA ad hJ σ (x) (120) (by omega) (by omega) hz h7) dM_lookAt_4 (by show (0 : Nat) < 18; decide) rfl rfl gM_169 (by decide +kernel) (by decide) (by decide) rfl (Nat.le_of_ble_eq_true rfl) rfl ⟨rfl, rfl⟩ (fun r10 τ10 hp10 => ?_)
  obtain ⟨g10_s, g10_x, g10_y, ⟨g10_c, rfl, g10_20, g10_22⟩ | ⟨g10_c, rfl⟩⟩ := hp10
  · have hs10_ := g10_s
    have g10_e := g10_c.1
    have g10_l := @p_eol_le (σ.2 7) (σ.1 0 7) (x)
    have g10_v := p_num_v (σ.2 7) (p_eol (σ.2 7) (σ.1 0 7) (x)) (x + 2)
    change 0 ≤ p_tv (σ.2 7) (σ.1 0 7) (x) ∧ p_tv (σ.2 7) (σ.1 0 7) (x) ≤ 99999 at g10_v
    refine v_if_ne (tgt := 17) C dM_lookAt_7 (by decide) (by omega) (fun hc48 => ?_) (fun hc48 => ?_)
    · refine v_aload_n C dM_lookAt_17 rfl rfl ?_
      refine v_getI (k := 0) (q := 22) (v := p_tv (σ.2 7) (σ.1 0 7) (x)) C dM_lookAt_18 (by show (0 : Nat) < 18; decide) rfl rfl (by decide) rfl inM lM_147 rfl g10_22 ?_
      refine v_istore_n C dM_lookAt_21 rfl (by decide) ?_
      refine v_aload_n C dM_lookAt_22 rfl rfl ?_
      refine v_getI (k := 0) (q := 20) (v := p_eol (σ.2 7) (σ.1 0 7) (x)) C dM_lookAt_23 (by show (0 : Nat) < 18; decide) rfl rfl (by decide) rfl inM lM_144 rfl g10_20 ?_
      refine v_iconst C dM_lookAt_26 ?_
      refine v_iadd C dM_lookAt_27 ?_
      refine v_istore_n C dM_lookAt_28 rfl (by decide) ?_
      refine v_iconst C dM_lookAt_29 ?_
      refine v_istore C dM_lookAt_30 (by decide) ?_
      refine v_iconst C dM_lookAt_32 ?_
      refine v_istore C dM_lookAt_33 (by decide) ?_
      exact L g10_c (p_many (σ.2 7) (σ.1 0 7) x) 0 τ10 (by omega) hs10_ (fun i hi => absurd hi (Nat.not_lt_zero i)) (by show 0 ≤ p_eol (σ.2 7) (σ.1 0 7) x + 1; omega) (by show p_eol (σ.2 7) (σ.1 0 7) x + 1 ≤ σ.1 0 7; have := g10_c.1; omega) (by show (0 : Int) ≤ 0 ∧ (0 : Int) ≤ 40; omega)
    · exfalso; omega
  · have hs10_ := g10_s
    refine v_if_ne (tgt := 17) C dM_lookAt_7 (by decide) (by omega) (fun hc49 => ?_) (fun hc49 => ?_)
    · exfalso; omega
    · refine v_aload_n C dM_lookAt_10 rfl rfl ?_
      refine v_iload_n C dM_lookAt_11 rfl rfl ?_
      refine v_putI (k := 0) (q := 23) C dM_lookAt_12 (by show (0 : Nat) < 18; decide) rfl rfl (by decide) rfl inM tyM_ok nmM lM_166 rfl rfl rfl rfl rfl ?_
      refine v_iconst C dM_lookAt_15 ?_
      exact v_iret C hRt hLk dM_lookAt_16 ⟨m_scf_p (m_scf_of hs10_) _, Or.inl ⟨g10_c, rfl, rfl⟩⟩
