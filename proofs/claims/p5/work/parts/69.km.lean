set_option maxRecDepth 100000 in
set_option maxHeartbeats 4000000 in
/-- differ(a, b) -/
theorem kM_differ2 (l : Launch) (xCl : List vw_C) (D : va_G) (cA : Nat → ClassId) (ad : Nat → Nat) (hJ : f_J (mG xCl D cA ad)) (σ : fS) (a b : Int) (ha : -2147483648 ≤ a ∧ a ≤ 2147483647) (hb : -2147483648 ≤ b ∧ b ≤ 2147483647) (hr : 0 ≤ σ.1 0 10 ∧ σ.1 0 10 ≤ 60) (h7 : ∀ i, -128 ≤ σ.2 7 i ∧ σ.2 7 i ≤ 127) (h10 : ∀ i, -1 ≤ σ.2 10 i ∧ σ.2 10 i ≤ 99999) (h12 : ∀ i, 0 ≤ σ.2 12 i ∧ σ.2 12 i ≤ 120) (hst : ∀ i, σ.2 10 i ≠ -1 → 0 ≤ σ.2 11 i ∧ σ.2 11 i + σ.2 12 i ≤ 12000) : f_M l (mG xCl D cA ad) mE yM_differ (Cond.code yM_differ cM_differ 9 (some .int) :: A9) 1 σ [.ref (ad 0), .int (fI a), .int (fI b)] (f_QI (fun r σ1 => (¬ ((0 ≤ a ∧ a < σ.1 0 10) ∧ 0 ≤ b ∧ b < σ.1 0 10) ∧ r = 0 ∧ σ1 = f_p1 σ 0 0 1) ∨ (((0 ≤ a ∧ a < σ.1 0 10) ∧ 0 ≤ b ∧ b < σ.1 0 10) ∧ m_dfr σ σ1 ∧ σ1.1 0 0 = 0 ∧ σ1.1 0 28 = 1 ∧ σ1.1 0 29 = r ∧ 0 ≤ r ∧ r ≤ 40)) (mG xCl D cA ad)) := by
  refine f_enter (by decide +kernel) hJ rfl (Nat.le_of_ble_eq_true rfl) ?_
  intro z hzl hR C hRt hLk hEz
  subst hzl
  have L : ((0 ≤ a ∧ a < σ.1 0 10) ∧ 0 ≤ b ∧ b < σ.1 0 10) → ∀ (m : Nat) (k v : Int) (S : fS), k + m = 41 → 1 ≤ k → m_dfr σ S → S.1 0 0 = 0 → S.1 0 28 = 1 → S.1 0 29 = v → 0 ≤ v → v < k → fv z (mG xCl D cA ad) 9 (f_R z (mG xCl D cA ad) (f_QI (fun r σ1 => (¬ ((0 ≤ a ∧ a < σ.1 0 10) ∧ 0 ≤ b ∧ b < σ.1 0 10) ∧ r = 0 ∧ σ1 = f_p1 σ 0 0 1) ∨ (((0 ≤ a ∧ a < σ.1 0 10) ∧ 0 ≤ b ∧ b < σ.1 0 10) ∧ m_dfr σ σ1 ∧ σ1.1 0 0 = 0 ∧ σ1.1 0 28 = 1 ∧ σ1.1 0 29 = r ∧ 0 ≤ r ∧ r ≤ 40)) (mG xCl D cA ad))) 0 0 S 30 [some (.ref (ad 0)), some (.int (fI a)), some (.int (fI b)), some (.int (fI k)), none, none, none, none, none] [] := by
    intro hab m
    induction m with
    | zero =>
      intro k v S hk hk1 hS hS0 hS28 hS29 hv0 hv1
      refine v_iload_n C dM_differ_30 rfl rfl ?_
      refine v_bipush C dM_differ_31 (by decide +kernel) ?_
      refine v_icmp_gt (tgt := 180) C dM_differ_33 (by decide) (by omega) (by omega) (fun hc1 => ?_) (fun hc1 => ?_)
      · refine v_aload_n C dM_differ_180 rfl rfl ?_
        refine v_getI (k := 0) (q := 29) (v := v) C dM_differ_181 (by show (0 : Nat) < 18; decide) rfl rfl (by decide) rfl inM lM_204 rfl hS29 ?_
        exact v_iret C hRt hLk dM_differ_184 (Or.inr ⟨hab, hS, hS0, hS28, hS29, by omega, by omega⟩)
      · exfalso; omega
    | succ m ih =>
      intro k v S hk hk1 hS hS0 hS28 hS29 hv0 hv1
      have hpa := h10 (41 * a + k).toNat
      have hpb := h10 (41 * b + k).toNat
      refine v_iload_n C dM_differ_30 rfl rfl ?_
      refine v_bipush C dM_differ_31 (by decide +kernel) ?_
      refine v_icmp_gt (tgt := 180) C dM_differ_33 (by decide) (by omega) (by omega) (fun hc2 => ?_) (fun hc2 => ?_)
      · exfalso; omega
      · refine v_bipush C dM_differ_36 (by decide +kernel) ?_
        refine v_iload_n C dM_differ_38 rfl rfl ?_
        refine v_imul C dM_differ_39 ?_
        refine v_iload_n C dM_differ_40 rfl rfl ?_
        refine v_iadd C dM_differ_41 ?_
        refine v_istore C dM_differ_42 (by decide) ?_
        refine v_bipush C dM_differ_44 (by decide +kernel) ?_
        refine v_iload_n C dM_differ_46 rfl rfl ?_
        refine v_imul C dM_differ_47 ?_
        refine v_iload_n C dM_differ_48 rfl rfl ?_
        refine v_iadd C dM_differ_49 ?_
        refine v_istore C dM_differ_50 (by decide) ?_
        refine v_aload_n C dM_differ_52 rfl rfl ?_
        refine v_getR (k := 0) (q := 13) C dM_differ_53 (by show (0 : Nat) < 18; decide) rfl rfl (by decide) rfl inM lM_39 rfl ?_
        refine v_iload C dM_differ_56 rfl ?_
        refine v_iald (k := 10) (v := σ.2 10 (((41 * a) + k)).toNat) C dM_differ_58 (by show (10 : Nat) < 18; decide) rfl rfl (by omega) (by decide) (hS.1 10 _ (by decide) (by decide)) ?_
        refine v_iconst C dM_differ_59 ?_
        refine v_icmp_eq (tgt := 67) C dM_differ_60 (by decide) (by omega) (by omega) (fun hc3 => ?_) (fun hc3 => ?_)
        · refine v_iconst C dM_differ_67 ?_
          refine v_istore C dM_differ_68 (by decide) ?_
          refine v_aload_n C dM_differ_70 rfl rfl ?_
          refine v_getR (k := 0) (q := 13) C dM_differ_71 (by show (0 : Nat) < 18; decide) rfl rfl (by decide) rfl inM lM_39 rfl ?_
          refine v_iload C dM_differ_74 rfl ?_
          refine v_iald (k := 10) (v := σ.2 10 (((41 * b) + k)).toNat) C dM_differ_76 (by show (10 : Nat) < 18; decide) rfl rfl (by omega) (by decide) (hS.1 10 _ (by decide) (by decide)) ?_
          refine v_iconst C dM_differ_77 ?_
          refine v_icmp_eq (tgt := 85) C dM_differ_78 (by decide) (by omega) (by omega) (fun hc4 => ?_) (fun hc4 => ?_)
          · refine v_iconst C dM_differ_85 ?_
            refine v_istore C dM_differ_86 (by decide) ?_
            refine v_iload C dM_differ_88 rfl ?_
            refine v_if_eq (tgt := 117) C dM_differ_90 (by decide) (by omega) (fun hc5 => ?_) (fun hc5 => ?_)
            · refine v_iload C dM_differ_117 rfl ?_
              refine v_if_eq (tgt := 126) C dM_differ_119 (by decide) (by omega) (fun hc6 => ?_) (fun hc6 => ?_)
              · refine v_iload C dM_differ_126 rfl ?_
                refine v_if_eq (tgt := 135) C dM_differ_128 (by decide) (by omega) (fun hc7 => ?_) (fun hc7 => ?_)
                · refine v_iconst C dM_differ_135 ?_
                  refine v_istore C dM_differ_136 (by decide) ?_
                  refine v_iload C dM_differ_138 rfl ?_
                  refine v_if_le (tgt := 174) C dM_differ_140 (by decide) (by omega) (fun hc8 => ?_) (fun hc8 => ?_)
                  · refine v_iinc C dM_differ_174 rfl (by decide) ?_
                    refine v_goto (tgt := 30) C dM_differ_177 (by decide) ?_
                    exact v_less (by exact ⟨rfl, rfl, rfl, rfl, trivial⟩) (ih (k + 1) v _ (by omega) (by omega) hS hS0 hS28 hS29 (by omega) (by omega))
                  · exfalso; omega
                · exfalso; omega
              · exfalso; omega
            · exfalso; omega
          · refine v_iconst C dM_differ_81 ?_
            refine v_goto (tgt := 86) C dM_differ_82 (by decide) ?_
            refine v_istore C dM_differ_86 (by decide) ?_
            refine v_iload C dM_differ_88 rfl ?_
            refine v_if_eq (tgt := 117) C dM_differ_90 (by decide) (by omega) (fun hc9 => ?_) (fun hc9 => ?_)
            · refine v_iload C dM_differ_117 rfl ?_
              refine v_if_eq (tgt := 126) C dM_differ_119 (by decide) (by omega) (fun hc10 => ?_) (fun hc10 => ?_)
              · exfalso; omega
              · refine v_iconst C dM_differ_122 ?_
                refine v_goto (tgt := 136) C dM_differ_123 (by decide) ?_
                refine v_istore C dM_differ_136 (by decide) ?_
                refine v_iload C dM_differ_138 rfl ?_
                refine v_if_le (tgt := 174) C dM_differ_140 (by decide) (by omega) (fun hc11 => ?_) (fun hc11 => ?_)
                · exfalso; omega
                · refine v_aload_n C dM_differ_143 rfl rfl ?_
                  refine v_getR (k := 0) (q := 30) C dM_differ_144 (by show (0 : Nat) < 18; decide) rfl rfl (by decide) rfl inM lM_57 rfl ?_
                  refine v_aload_n C dM_differ_147 rfl rfl ?_
                  refine v_getI (k := 0) (q := 29) (v := v) C dM_differ_148 (by show (0 : Nat) < 18; decide) rfl rfl (by decide) rfl inM lM_204 rfl hS29 ?_
                  refine v_iload_n C dM_differ_151 rfl rfl ?_
                  refine v_iast (k := 16) C dM_differ_152 (by show (16 : Nat) < 18; decide) rfl rfl (by omega) (by decide) ?_
                  refine v_aload_n C dM_differ_153 rfl rfl ?_
                  refine v_getR (k := 0) (q := 31) C dM_differ_154 (by show (0 : Nat) < 18; decide) rfl rfl (by decide) rfl inM lM_60 rfl ?_
                  refine v_aload_n C dM_differ_157 rfl rfl ?_
                  refine v_getI (k := 0) (q := 29) (v := v) C dM_differ_158 (by show (0 : Nat) < 18; decide) rfl rfl (by decide) rfl inM lM_204 rfl hS29 ?_
                  refine v_iload C dM_differ_161 rfl ?_
                  refine v_iast (k := 17) C dM_differ_163 (by show (17 : Nat) < 18; decide) rfl rfl (by omega) (by decide) ?_
                  refine v_aload_n C dM_differ_164 rfl rfl ?_
                  refine v_dup C dM_differ_165 rfl ?_
                  refine v_getI (k := 0) (q := 29) (v := v) C dM_differ_166 (by show (0 : Nat) < 18; decide) rfl rfl (by decide) rfl inM lM_204 rfl hS29 ?_
                  refine v_iconst C dM_differ_169 ?_
                  refine v_iadd C dM_differ_170 ?_
                  refine v_putI (k := 0) (q := 29) C dM_differ_171 (by show (0 : Nat) < 18; decide) rfl rfl (by decide) rfl inM tyM_ok nmM lM_204 rfl rfl rfl rfl rfl ?_
                  refine v_iinc C dM_differ_174 rfl (by decide) ?_
                  refine v_goto (tgt := 30) C dM_differ_177 (by decide) ?_
                  exact v_less (by exact ⟨rfl, rfl, rfl, rfl, trivial⟩) (ih (k + 1) (v + 1) _ (by omega) (by omega) (m_dfr_p (m_dfr_a (m_dfr_a hS 16 _ _ (by decide)) 17 _ _ (by decide)) 29 _ (by decide)) hS0 hS28 rfl (by omega) (by omega))
            · exfalso; omega
        · refine v_iconst C dM_differ_63 ?_
          refine v_goto (tgt := 68) C dM_differ_64 (by decide) ?_
          refine v_istore C dM_differ_68 (by decide) ?_
          refine v_aload_n C dM_differ_70 rfl rfl ?_
          refine v_getR (k := 0) (q := 13) C dM_differ_71 (by show (0 : Nat) < 18; decide) rfl rfl (by decide) rfl inM lM_39 rfl ?_
          refine v_iload C dM_differ_74 rfl ?_
          refine v_iald (k := 10) (v := σ.2 10 (((41 * b) + k)).toNat) C dM_differ_76 (by show (10 : Nat) < 18; decide) rfl rfl (by omega) (by decide) (hS.1 10 _ (by decide) (by decide)) ?_
          refine v_iconst C dM_differ_77 ?_
          refine v_icmp_eq (tgt := 85) C dM_differ_78 (by decide) (by omega) (by omega) (fun hc12 => ?_) (fun hc12 => ?_)
          · refine v_iconst C dM_differ_85 ?_
            refine v_istore C dM_differ_86 (by decide) ?_
            refine v_iload C dM_differ_88 rfl ?_
            refine v_if_eq (tgt := 117) C dM_differ_90 (by decide) (by omega) (fun hc13 => ?_) (fun hc13 => ?_)
            · exfalso; omega
            · refine v_iload C dM_differ_93 rfl ?_
              refine v_if_eq (tgt := 117) C dM_differ_95 (by decide) (by omega) (fun hc14 => ?_) (fun hc14 => ?_)
              · refine v_iload C dM_differ_117 rfl ?_
                refine v_if_eq (tgt := 126) C dM_differ_119 (by decide) (by omega) (fun hc15 => ?_) (fun hc15 => ?_)
                · refine v_iload C dM_differ_126 rfl ?_
                  refine v_if_eq (tgt := 135) C dM_differ_128 (by decide) (by omega) (fun hc16 => ?_) (fun hc16 => ?_)
                  · exfalso; omega
                  · refine v_iconst C dM_differ_131 ?_
                    refine v_goto (tgt := 136) C dM_differ_132 (by decide) ?_
                    refine v_istore C dM_differ_136 (by decide) ?_
                    refine v_iload C dM_differ_138 rfl ?_
                    refine v_if_le (tgt := 174) C dM_differ_140 (by decide) (by omega) (fun hc17 => ?_) (fun hc17 => ?_)
                    · exfalso; omega
                    · refine v_aload_n C dM_differ_143 rfl rfl ?_
                      refine v_getR (k := 0) (q := 30) C dM_differ_144 (by show (0 : Nat) < 18; decide) rfl rfl (by decide) rfl inM lM_57 rfl ?_
                      refine v_aload_n C dM_differ_147 rfl rfl ?_
                      refine v_getI (k := 0) (q := 29) (v := v) C dM_differ_148 (by show (0 : Nat) < 18; decide) rfl rfl (by decide) rfl inM lM_204 rfl hS29 ?_
                      refine v_iload_n C dM_differ_151 rfl rfl ?_
                      refine v_iast (k := 16) C dM_differ_152 (by show (16 : Nat) < 18; decide) rfl rfl (by omega) (by decide) ?_
                      refine v_aload_n C dM_differ_153 rfl rfl ?_
                      refine v_getR (k := 0) (q := 31) C dM_differ_154 (by show (0 : Nat) < 18; decide) rfl rfl (by decide) rfl inM lM_60 rfl ?_
                      refine v_aload_n C dM_differ_157 rfl rfl ?_
                      refine v_getI (k := 0) (q := 29) (v := v) C dM_differ_158 (by show (0 : Nat) < 18; decide) rfl rfl (by decide) rfl inM lM_204 rfl hS29 ?_
                      refine v_iload C dM_differ_161 rfl ?_
                      refine v_iast (k := 17) C dM_differ_163 (by show (17 : Nat) < 18; decide) rfl rfl (by omega) (by decide) ?_
                      refine v_aload_n C dM_differ_164 rfl rfl ?_
                      refine v_dup C dM_differ_165 rfl ?_
                      refine v_getI (k := 0) (q := 29) (v := v) C dM_differ_166 (by show (0 : Nat) < 18; decide) rfl rfl (by decide) rfl inM lM_204 rfl hS29 ?_
                      refine v_iconst C dM_differ_169 ?_
                      refine v_iadd C dM_differ_170 ?_
                      refine v_putI (k := 0) (q := 29) C dM_differ_171 (by show (0 : Nat) < 18; decide) rfl rfl (by decide) rfl inM tyM_ok nmM lM_204 rfl rfl rfl rfl rfl ?_
                      refine v_iinc C dM_differ_174 rfl (by decide) ?_
                      refine v_goto (tgt := 30) C dM_differ_177 (by decide) ?_
                      exact v_less (by exact ⟨rfl, rfl, rfl, rfl, trivial⟩) (ih (k + 1) (v + 1) _ (by omega) (by omega) (m_dfr_p (m_dfr_a (m_dfr_a hS 16 _ _ (by decide)) 17 _ _ (by decide)) 29 _ (by decide)) hS0 hS28 rfl (by omega) (by omega))
                · exfalso; omega
              · exfalso; omega
          · refine v_iconst C dM_differ_81 ?_
            refine v_goto (tgt := 86) C dM_differ_82 (by decide) ?_
            refine v_istore C dM_differ_86 (by decide) ?_
            refine v_iload C dM_differ_88 rfl ?_
            refine v_if_eq (tgt := 117) C dM_differ_90 (by decide) (by omega) (fun hc18 => ?_) (fun hc18 => ?_)
            · exfalso; omega
            · refine v_iload C dM_differ_93 rfl ?_
              refine v_if_eq (tgt := 117) C dM_differ_95 (by decide) (by omega) (fun hc19 => ?_) (fun hc19 => ?_)
              · exfalso; omega
              · refine v_aload_n C dM_differ_98 rfl rfl ?_
                refine v_iload C dM_differ_99 rfl ?_
                refine v_iload C dM_differ_101 rfl ?_
                refine v_cVI (k := 0) (n := 2) C (mE_ok _) trivial hR (kM_isAlike _ xCl D cA ad hJ S (((41 * a) + k)) (((41 * b) + k)) (by omega) (by omega) (fun i => by rw [hS.1 7 i (by decide) (by decide)]; exact h7 i) (fun i => by rw [hS.1 12 i (by decide) (by decide)]; exact h12 i) (by rw [hS.1 11 _ (by decide) (by decide), hS.1 12 _ (by decide) (by decide)]; exact hst _ (by omega)) (by rw [hS.1 11 _ (by decide) (by decide), hS.1 12 _ (by decide) (by decide)]; exact hst _ (by omega))) dM_differ_103 (by show (0 : Nat) < 18; decide) rfl rfl gM_210 (by decide +kernel) (by decide) (by decide) rfl (Nat.le_of_ble_eq_true rfl) rfl ⟨rfl, rfl⟩ (fun r1 τ1 hp1 => ?_)
                obtain ⟨he1, hv1⟩ := hp1
                subst τ1
                have hv1b : r1 = 1 ∨ r1 = 0 := hv1.elim (fun h => Or.inl h.2) (fun h => Or.inr h.2)
                rcases hv1b with hv1c | hv1c
                · subst r1
                  refine v_if_eq (tgt := 113) C dM_differ_106 (by decide) (by omega) (fun hc20 => ?_) (fun hc20 => ?_)
                  · exfalso; omega
                  · refine v_iconst C dM_differ_109 ?_
                    refine v_goto (tgt := 136) C dM_differ_110 (by decide) ?_
                    refine v_istore C dM_differ_136 (by decide) ?_
                    refine v_iload C dM_differ_138 rfl ?_
                    refine v_if_le (tgt := 174) C dM_differ_140 (by decide) (by omega) (fun hc21 => ?_) (fun hc21 => ?_)
                    · refine v_iinc C dM_differ_174 rfl (by decide) ?_
                      refine v_goto (tgt := 30) C dM_differ_177 (by decide) ?_
                      exact v_less (by exact ⟨rfl, rfl, rfl, rfl, trivial⟩) (ih (k + 1) v _ (by omega) (by omega) hS hS0 hS28 hS29 (by omega) (by omega))
                    · exfalso; omega
                · subst r1
                  refine v_if_eq (tgt := 113) C dM_differ_106 (by decide) (by omega) (fun hc22 => ?_) (fun hc22 => ?_)
                  · refine v_iconst C dM_differ_113 ?_
                    refine v_goto (tgt := 136) C dM_differ_114 (by decide) ?_
                    refine v_istore C dM_differ_136 (by decide) ?_
                    refine v_iload C dM_differ_138 rfl ?_
                    refine v_if_le (tgt := 174) C dM_differ_140 (by decide) (by omega) (fun hc23 => ?_) (fun hc23 => ?_)
                    · exfalso; omega
                    · refine v_aload_n C dM_differ_143 rfl rfl ?_
                      refine v_getR (k := 0) (q := 30) C dM_differ_144 (by show (0 : Nat) < 18; decide) rfl rfl (by decide) rfl inM lM_57 rfl ?_
                      refine v_aload_n C dM_differ_147 rfl rfl ?_
                      refine v_getI (k := 0) (q := 29) (v := v) C dM_differ_148 (by show (0 : Nat) < 18; decide) rfl rfl (by decide) rfl inM lM_204 rfl hS29 ?_
                      refine v_iload_n C dM_differ_151 rfl rfl ?_
                      refine v_iast (k := 16) C dM_differ_152 (by show (16 : Nat) < 18; decide) rfl rfl (by omega) (by decide) ?_
                      refine v_aload_n C dM_differ_153 rfl rfl ?_
                      refine v_getR (k := 0) (q := 31) C dM_differ_154 (by show (0 : Nat) < 18; decide) rfl rfl (by decide) rfl inM lM_60 rfl ?_
                      refine v_aload_n C dM_differ_157 rfl rfl ?_
                      refine v_getI (k := 0) (q := 29) (v := v) C dM_differ_158 (by show (0 : Nat) < 18; decide) rfl rfl (by decide) rfl inM lM_204 rfl hS29 ?_
                      refine v_iload C dM_differ_161 rfl ?_
                      refine v_iast (k := 17) C dM_differ_163 (by show (17 : Nat) < 18; decide) rfl rfl (by omega) (by decide) ?_
                      refine v_aload_n C dM_differ_164 rfl rfl ?_
                      refine v_dup C dM_differ_165 rfl ?_
                      refine v_getI (k := 0) (q := 29) (v := v) C dM_differ_166 (by show (0 : Nat) < 18; decide) rfl rfl (by decide) rfl inM lM_204 rfl hS29 ?_
                      refine v_iconst C dM_differ_169 ?_
                      refine v_iadd C dM_differ_170 ?_
                      refine v_putI (k := 0) (q := 29) C dM_differ_171 (by show (0 : Nat) < 18; decide) rfl rfl (by decide) rfl inM tyM_ok nmM lM_204 rfl rfl rfl rfl rfl ?_
                      refine v_iinc C dM_differ_174 rfl (by decide) ?_
                      refine v_goto (tgt := 30) C dM_differ_177 (by decide) ?_
                      exact v_less (by exact ⟨rfl, rfl, rfl, rfl, trivial⟩) (ih (k + 1) (v + 1) _ (by omega) (by omega) (m_dfr_p (m_dfr_a (m_dfr_a hS 16 _ _ (by decide)) 17 _ _ (by decide)) 29 _ (by decide)) hS0 hS28 rfl (by omega) (by omega))
                  · exfalso; omega
  refine v_aload_n C dM_differ_0 rfl rfl ?_
  refine v_iload_n C dM_differ_1 rfl rfl ?_
  refine v_cVI (k := 0) (n := 1) C (mE_ok _) trivial hR (kM_isRevision _ xCl D cA ad hJ σ (a) (by omega) hr) dM_differ_2 (by show (0 : Nat) < 18; decide) rfl rfl gM_201 (by decide +kernel) (by decide) (by decide) rfl (Nat.le_of_ble_eq_true rfl) rfl ⟨rfl, rfl⟩ (fun r2 τ2 hp2 => ?_)
  rcases hp2 with ⟨hq2, e9, e8⟩ | ⟨hq2, e9, e8⟩
  · subst τ2
    subst r2
    refine v_if_eq (tgt := 16) C dM_differ_5 (by decide) (by omega) (fun hc24 => ?_) (fun hc24 => ?_)
    · exfalso; omega
    · refine v_aload_n C dM_differ_8 rfl rfl ?_
      refine v_iload_n C dM_differ_9 rfl rfl ?_
      refine v_cVI (k := 0) (n := 1) C (mE_ok _) trivial hR (kM_isRevision _ xCl D cA ad hJ (f_p1 σ 0 0 0) (b) (by omega) hr) dM_differ_10 (by show (0 : Nat) < 18; decide) rfl rfl gM_201 (by decide +kernel) (by decide) (by decide) rfl (Nat.le_of_ble_eq_true rfl) rfl ⟨rfl, rfl⟩ (fun r3 τ3 hp3 => ?_)
      rcases hp3 with ⟨hq3, e9, e8⟩ | ⟨hq3, e9, e8⟩
      · subst τ3
        subst r3
        rw [p1_p1]
        change 0 ≤ b ∧ b < σ.1 0 10 at hq3
        refine v_if_ne (tgt := 18) C dM_differ_13 (by decide) (by omega) (fun hc25 => ?_) (fun hc25 => ?_)
        · refine v_aload_n C dM_differ_18 rfl rfl ?_
          refine v_iconst C dM_differ_19 ?_
          refine v_putI (k := 0) (q := 29) C dM_differ_20 (by show (0 : Nat) < 18; decide) rfl rfl (by decide) rfl inM tyM_ok nmM lM_204 rfl rfl rfl rfl rfl ?_
          refine v_aload_n C dM_differ_23 rfl rfl ?_
          refine v_iconst C dM_differ_24 ?_
          refine v_putI (k := 0) (q := 28) C dM_differ_25 (by show (0 : Nat) < 18; decide) rfl rfl (by decide) rfl inM tyM_ok nmM lM_207 rfl rfl rfl (fN_bool (by omega)) (fF_bool (by omega)) ?_
          refine v_iconst C dM_differ_28 ?_
          refine v_istore_n C dM_differ_29 rfl (by decide) ?_
          exact v_less (by exact ⟨rfl, rfl, rfl, rfl, trivial⟩) (L (by omega) 40 1 0 _ (by omega) (by omega) (m_dfr_p (m_dfr_p (m_dfr_p (m_dfr_rf σ) 0 0 (by decide)) 29 0 (by decide)) 28 1 (by decide)) rfl rfl rfl (by omega) (by omega))
        · exfalso; omega
      · subst τ3
        subst r3
        rw [p1_p1]
        change ¬ (0 ≤ b ∧ b < σ.1 0 10) at hq3
        refine v_if_ne (tgt := 18) C dM_differ_13 (by decide) (by omega) (fun hc26 => ?_) (fun hc26 => ?_)
        · exfalso; omega
        · refine v_iconst C dM_differ_16 ?_
          exact v_iret C hRt hLk dM_differ_17 (Or.inl ⟨by omega, rfl, rfl⟩)
  · subst τ2
    subst r2
    refine v_if_eq (tgt := 16) C dM_differ_5 (by decide) (by omega) (fun hc27 => ?_) (fun hc27 => ?_)
    · refine v_iconst C dM_differ_16 ?_
      exact v_iret C hRt hLk dM_differ_17 (Or.inl ⟨by omega, rfl, rfl⟩)
    · exfalso; omega
/-! THE RANGES OF THE REFERENCE'S NUMBERS -/
def m_okA (a : Nat) (v : Int) : Prop :=
  if a = 1 ∨ a = 2 ∨ a = 3 ∨ a = 4 then 0 ≤ v ∧ v ≤ 1
  else if a = 5 ∨ a = 12 then 0 ≤ v ∧ v ≤ 120
  else if a = 6 ∨ a = 7 then -128 ≤ v ∧ v ≤ 127
  else if a = 8 then 0 ≤ v ∧ v ≤ 12000
  else if a = 9 ∨ a = 13 then 0 ≤ v ∧ v ≤ 99999
  else if a = 10 then -1 ≤ v ∧ v ≤ 99999
  else True
def m_okF (b : Nat) (v : Int) : Prop :=
  if b = 7 then 0 ≤ v ∧ v ≤ 12000
  else if b = 9 ∨ b = 28 then 0 ≤ v ∧ v ≤ 1
  else if b = 10 then 0 ≤ v ∧ v ≤ 60
  else if b = 29 then 0 ≤ v ∧ v ≤ 40
  else True
def m_okS (σ : fS) : Prop := ∀ i, σ.2 10 i ≠ -1 → 0 ≤ σ.2 11 i ∧ σ.2 11 i + σ.2 12 i ≤ 12000
def m_I (σ : fS) : Prop := (∀ b, m_okF b (σ.1 0 b)) ∧ (∀ a b, m_okA a (σ.2 a b)) ∧ m_okS σ ∧ (σ.1 0 7 ≠ 0 → 1 ≤ σ.1 0 10)
theorem m_okF_n (b : Nat) (v : Int) (h : ¬ (b = 7 ∨ b = 9 ∨ b = 10 ∨ b = 28 ∨ b = 29)) : m_okF b v := by
  unfold m_okF
  rw [if_neg (by omega), if_neg (by omega), if_neg (by omega), if_neg (by omega)]
  trivial
theorem m_okA_n (a : Nat) (v : Int) (h : 14 ≤ a ∨ a = 11 ∨ a = 0) : m_okA a v := by
  unfold m_okA
  rw [if_neg (by omega), if_neg (by omega), if_neg (by omega), if_neg (by omega), if_neg (by omega), if_neg (by omega)]
  trivial
section MI
variable {σ σ1 : fS}
theorem m_I_p (h : m_I σ) (q : Nat) (v : Int) (hq : ¬ (q = 7 ∨ q = 10)) (hv : m_okF q v) : m_I (f_p1 σ 0 q v) := by
  refine ⟨fun b => ?_, h.2.1, h.2.2.1, ?_⟩
  · rw [p1_1]
    by_cases g : 0 = 0 ∧ b = q
    · rw [if_pos g, g.2]; exact hv
    · rw [if_neg g]; exact h.1 b
  · rw [p1_1, if_neg (by omega), p1_1, if_neg (by omega)]; exact h.2.2.2
theorem m_I_a (h : m_I σ) (k q : Nat) (v : Int) (hk : k ≠ 10 ∧ k ≠ 11 ∧ k ≠ 12) (hv : m_okA k v) : m_I (f_p2 σ k q v) := by
  refine ⟨h.1, fun a b => ?_, fun i => ?_, h.2.2.2⟩
  · rw [p2_2]
    by_cases g : a = k ∧ b = q
    · rw [if_pos g, g.1]; exact hv
    · rw [if_neg g]; exact h.2.1 a b
  · rw [p2_2, if_neg (by omega), p2_2, if_neg (by omega), p2_2, if_neg (by omega)]
    exact h.2.2.1 i
theorem m_I_fr (h : m_I σ) (h1 : ∀ b, σ1.1 0 b = σ.1 0 b ∨ (b ≠ 7 ∧ b ≠ 10 ∧ m_okF b (σ1.1 0 b))) (h2 : ∀ a b, σ1.2 a b = σ.2 a b ∨ (a ≠ 10 ∧ a ≠ 11 ∧ a ≠ 12 ∧ m_okA a (σ1.2 a b))) : m_I σ1 := by
  have e7 : σ1.1 0 7 = σ.1 0 7 := (h1 7).elim id (fun g => absurd rfl g.1)
  have e10 : σ1.1 0 10 = σ.1 0 10 := (h1 10).elim id (fun g => absurd rfl g.2.1)
  have a10 : ∀ i, σ1.2 10 i = σ.2 10 i := fun i => (h2 10 i).elim id (fun g => absurd rfl g.1)
  have a11 : ∀ i, σ1.2 11 i = σ.2 11 i := fun i => (h2 11 i).elim id (fun g => absurd rfl g.2.1)
  have a12 : ∀ i, σ1.2 12 i = σ.2 12 i := fun i => (h2 12 i).elim id (fun g => absurd rfl g.2.2.1)
  refine ⟨fun b => (h1 b).elim (fun e => e ▸ h.1 b) (fun g => g.2.2), fun a b => (h2 a b).elim (fun e => e ▸ h.2.1 a b) (fun g => g.2.2.2), fun i hi => ?_, fun g => ?_⟩
  · rw [a10] at hi
    rw [a11, a12]
    exact h.2.2.1 i hi
  · rw [e7] at g
    rw [e10]
    exact h.2.2.2 g
end MI
/-! how long the records are together -/
theorem m_sel_u {σ : fS} {w how t u n : Int} (hh : 0 ≤ how ∧ how ≤ 2) (ht : 0 ≤ t ∧ t ≤ m_last how) (hu : 0 ≤ u ∧ u ≤ m_last how) (h1 : m_sel σ w how t n) (h2 : m_sel σ w how u n) : t = u := by
  obtain ⟨-, -, a⟩ := h1
  obtain ⟨-, -, b⟩ := h2
  unfold m_last at ht hu
  rcases (show how = 0 ∨ how = 1 ∨ how = 2 by omega) with e | e | e
  · subst e
    rw [if_neg (by decide), if_neg (by decide)] at ht hu
    omega
  · subst e
    omega
  · subst e
    rw [if_neg (by decide), if_pos rfl] at ht hu
    omega
noncomputable def m_is (σ : fS) (w how n : Int) : Nat → Nat
  | 0 => 0
  | t + 1 => m_is σ w how n t + cif (m_sel σ w how (t : Int) n) 1 0
theorem m_is_1 (σ : fS) (w how n : Int) (hh : 0 ≤ how ∧ how ≤ 2) : ∀ t : Nat, t ≤ m_last how + 1 → m_is σ w how n t = 0 ∨ (m_is σ w how n t = 1 ∧ ∃ u : Nat, u < t ∧ m_sel σ w how (u : Int) n) := by
  intro t
  induction t with
  | zero => intro _; exact Or.inl rfl
  | succ t ih =>
    intro ht
    show m_is σ w how n t + cif (m_sel σ w how (t : Int) n) 1 0 = 0 ∨ (m_is σ w how n t + cif (m_sel σ w how (t : Int) n) 1 0 = 1 ∧ _)
    by_cases g : m_sel σ w how (t : Int) n
    · rw [cif_pos g]
      rcases ih (by omega) with e | ⟨-, u, hu, hs⟩
      · exact Or.inr ⟨by omega, t, by omega, g⟩
      · have := m_sel_u hh (by omega) (by omega) g hs
        omega
    · rw [cif_neg g]
      rcases ih (by omega) with e | ⟨e, u, hu, hs⟩
      · exact Or.inl (by omega)
      · exact Or.inr ⟨by omega, u, by omega, hs⟩
noncomputable def m_tl (σ : fS) (w how : Int) (k : Nat) : Nat → Nat
  | 0 => 0
  | t + 1 => m_tl σ w how k t + (m_turn σ w how (t : Int) k).length
theorem m_tl_s (σ : fS) (w how : Int) (k : Nat) : ∀ t, m_tl σ w how (k + 1) t = m_tl σ w how k t + m_is σ w how ((k : Int) + 1) t := by
  intro t
  induction t with
  | zero => rfl
  | succ t ih =>
    show m_tl σ w how (k + 1) t + (m_turn σ w how (t : Int) k ++ cif (m_sel σ w how (t : Int) ((k : Int) + 1)) [(k : Int) + 1] []).length = m_tl σ w how k t + (m_turn σ w how (t : Int) k).length + (m_is σ w how ((k : Int) + 1) t + cif (m_sel σ w how (t : Int) ((k : Int) + 1)) 1 0)
    rw [ih, List.length_append]
    by_cases g : m_sel σ w how (t : Int) ((k : Int) + 1)
    · rw [cif_pos g, cif_pos g]; show _ + (_ + 1) = _; omega
    · rw [cif_neg g, cif_neg g]; show _ + (_ + 0) = _; omega
theorem m_tl_le (σ : fS) (w how : Int) (hh : 0 ≤ how ∧ how ≤ 2) (t : Nat) (ht : t ≤ m_last how + 1) : ∀ k, m_tl σ w how k t ≤ k := by
  intro k
  induction k with
  | zero =>
    have : ∀ t, m_tl σ w how 0 t = 0 := by
      intro t
      induction t with
      | zero => rfl
      | succ t ih => show m_tl σ w how 0 t + 0 = 0; rw [ih]
    rw [this]
    exact Nat.le_refl _
  | succ k ih =>
    rw [m_tl_s]
    have := m_is_1 σ w how ((k : Int) + 1) hh t ht
    omega
theorem m_turns_len (σ : fS) (w how : Int) : ∀ t, (m_turns σ w how t).length = m_tl σ w how 40 t := by
  intro t
  induction t with
  | zero => rfl
  | succ t ih =>
    show (m_turns σ w how t ++ m_turn σ w how (t : Int) 40).length = _
    rw [List.length_append, ih]
    rfl
theorem m_turn_r (σ : fS) (w how t : Int) : ∀ k, ∀ x ∈ m_turn σ w how t k, 1 ≤ x ∧ x ≤ (k : Int) := by
  intro k
  induction k with
  | zero => intro x hx; cases hx
  | succ k ih =>
    intro x hx
    have hx : x ∈ m_turn σ w how t k ++ cif (m_sel σ w how t ((k : Int) + 1)) [(k : Int) + 1] [] := hx
    rcases List.mem_append.mp hx with h | h
    · have := ih x h; push_cast; omega
    · by_cases g : m_sel σ w how t ((k : Int) + 1)
      · rw [cif_pos g, List.mem_singleton] at h; push_cast; omega
      · rw [cif_neg g] at h; cases h
theorem m_turns_r (σ : fS) (w how : Int) : ∀ t, ∀ x ∈ m_turns σ w how t, 1 ≤ x ∧ x ≤ 40 := by
  intro t
  induction t with
  | zero => intro x hx; cases hx
  | succ t ih =>
    intro x hx
    have hx : x ∈ m_turns σ w how t ++ m_turn σ w how (t : Int) 40 := hx
    rcases List.mem_append.mp hx with h | h
    · exact ih x h
    · exact m_turn_r σ w how (t : Int) 40 x h
theorem m_rlen_b (σ : fS) (h5 : ∀ i, 0 ≤ σ.2 5 i ∧ σ.2 5 i ≤ 120) : ∀ l : List Int, (∀ x ∈ l, 1 ≤ x ∧ x ≤ 40) → m_rlen σ l ≤ 130 * l.length := by
  intro l
  induction l with
  | nil => intro _; exact Nat.le_refl _
  | cons n r ih =>
    intro h
    have h1 := ih (fun x hx => h x (List.mem_cons_of_mem _ hx))
    have hn := h n List.mem_cons_self
    have h2 := m_rec_len σ n
    have h3 := x_dig2 (v := n) (by omega)
    have h4 := x_dig3 (v := σ.2 5 n.toNat) (by have := h5 n.toNat; omega)
    have h6 := h5 n.toNat
    show (m_rec σ n).length + m_rlen σ r ≤ 130 * (r.length + 1)
    omega
theorem m_rl (σ : fS) (w how : Int) (hh : 0 ≤ how ∧ how ≤ 2) (h5 : ∀ i, 0 ≤ σ.2 5 i ∧ σ.2 5 i ≤ 120) : m_rlen σ (m_turns σ w how (m_last how + 1)) ≤ 5200 := by
  have h1 := m_rlen_b σ h5 _ (m_turns_r σ w how (m_last how + 1))
  have h2 := m_turns_len σ w how (m_last how + 1)
  have h3 := m_tl_le σ w how hh (m_last how + 1) (Nat.le_refl _) 40
  omega
theorem m_tail_b (B : fS) (w q : Int) : (m_tail B w q).length ≤ 504 := by
  rw [m_tail_len]
  have h1 := m_tell_len 120 (m_cnt (m_mv B w) 40)
  have h2 := m_tell_len 112 q
  have h3 := m_tell_len 101 (B.1 0 16)
  have h4 := (m_rows_le B w 40 0).2
  omega
/-! the bytes that are put -/
theorem m_puts_7 : ∀ (L : List Int) (σ : fS), x_byR L → (∀ i, -128 ≤ σ.2 7 i ∧ σ.2 7 i ≤ 127) → ∀ i, -128 ≤ (m_puts σ L).2 7 i ∧ (m_puts σ L).2 7 i ≤ 127 := by
  intro L
  induction L with
  | nil => intro σ _ h; exact h
  | cons x r ih =>
    intro σ hL h
    refine ih (m_put σ x) (fun y hy => hL y (List.mem_cons_of_mem _ hy)) (fun i => ?_)
    rw [m_put_2]
    split
    · exact hL x List.mem_cons_self
    · exact h i
theorem m_byR_rec {σ : fS} (n : Int) (h6 : ∀ i, -128 ≤ σ.2 6 i ∧ σ.2 6 i ≤ 127) : x_byR (m_rec σ n) := by
  unfold m_rec m_hdr
  refine x_byR_app (x_byR_app (x_byR_app (x_byR_app (x_byR_app (x_byR_app (fun x hx => ?_) (x_byR_dig _)) (x_byR_1 (by omega))) (x_byR_dig _)) (x_byR_1 (by omega))) (fun x hx => ?_)) (x_byR_1 (by omega))
  · simp only [List.mem_cons, List.not_mem_nil, or_false] at hx; omega
  · unfold m_byt at hx
    obtain ⟨j, -, rfl⟩ := List.mem_map.mp hx
    exact h6 _
theorem m_byR_row (σ : fS) (n : Int) : x_byR (m_row σ n) := by
  unfold m_row
  refine x_byR_app (x_byR_app (x_byR_app (x_byR_dig _) (x_byR_1 (by omega))) ?_) (x_byR_1 (by omega))
  split
  · exact x_byR_dig _
  · exact x_byR_1 (by omega)
theorem m_byR_rows (B : fS) (w : Int) : ∀ k, x_byR (m_rows B w k) := by
  intro k
  induction k with
  | zero => intro x hx; cases hx
  | succ k ih =>
    show x_byR (m_rows B w k ++ _)
    refine x_byR_app ih ?_
    split
    · exact m_byR_row _ _
    · intro x hx; cases hx
theorem m_byR_tail (B : fS) (w q : Int) : x_byR (m_tail B w q) := x_byR_app (x_byR_app (x_byR_app (x_byR_tell (by omega) _) (m_byR_rows _ _ _)) (x_byR_tell (by omega) _)) (x_byR_tell (by omega) _)
theorem m_recs_7 : ∀ (l : List Int) (σ : fS), (∀ i, -128 ≤ σ.2 6 i ∧ σ.2 6 i ≤ 127) → (∀ i, -128 ≤ σ.2 7 i ∧ σ.2 7 i ≤ 127) → ∀ i, -128 ≤ (m_recs σ l).2 7 i ∧ (m_recs σ l).2 7 i ≤ 127 := by
  intro l
  induction l with
  | nil => intro σ _ h; exact h
  | cons n r ih =>
    intro σ h6 h7
    refine ih (m_puts (m_r0 σ n) (m_rec σ n)) (fun i => by rw [m_one_2 _ _ _ _ (by decide) (by decide) (by decide)]; exact h6 i) (fun i => m_puts_7 _ _ (m_byR_rec n h6) (fun i => ?_) i)
    unfold m_r0
    rw [p2_2, if_neg (by omega), p2_2, if_neg (by omega)]
    exact h7 i
/-- where the bytes of a written record lie -/
theorem m_recs_14 : ∀ (l : List Int) (σ : fS), 0 ≤ σ.1 0 16 → (∀ i, 0 ≤ σ.2 5 i ∧ σ.2 5 i ≤ 120) → ∀ i : Nat, (i ∈ l.map Int.toNat ∨ (0 ≤ σ.2 14 i ∧ σ.2 14 i + σ.2 5 i ≤ σ.1 0 16)) → 0 ≤ (m_recs σ l).2 14 i ∧ (m_recs σ l).2 14 i + σ.2 5 i ≤ (m_recs σ l).1 0 16 := by
  intro l
  induction l with
  | nil =>
    intro σ _ _ i h
    rcases h with h | h
    · cases h
    · exact h
  | cons n r ih =>
    intro σ h0 h5 i h
    have e5 : ∀ i, (m_puts (m_r0 σ n) (m_rec σ n)).2 5 i = σ.2 5 i := fun i => m_one_2 _ _ _ _ (by decide) (by decide) (by decide)
    have e16 : (m_puts (m_r0 σ n) (m_rec σ n)).1 0 16 = σ.1 0 16 + (m_rec σ n).length := by rw [m_one_1, if_pos ⟨rfl, rfl⟩]
    have key := ih (m_puts (m_r0 σ n) (m_rec σ n)) (by rw [e16]; omega) (fun i => by rw [e5]; exact h5 i) i
    rw [e5] at key
    refine key ?_
    by_cases g : i = n.toNat
    · right
      have e14 : (m_puts (m_r0 σ n) (m_rec σ n)).2 14 i = σ.1 0 16 + (m_hdr σ n).length := by
        rw [m_puts_2 _ _ _ _ (by decide)]; unfold m_r0; rw [p2_2, if_pos ⟨rfl, g⟩]
      have hl : (m_rec σ n).length = (m_hdr σ n).length + (σ.2 5 n.toNat).toNat + 1 := by
        unfold m_rec
        rw [List.length_append, List.length_append, m_byt_len]
        rfl
      have h5n := h5 n.toNat
      rw [e14, e16, hl, g]
      omega
    · rcases h with h | h
      · left
        rcases List.mem_cons.mp h with h | h
        · exact absurd h g
        · exact h
      · right
        have e14 : (m_puts (m_r0 σ n) (m_rec σ n)).2 14 i = σ.2 14 i := by
          rw [m_puts_2 _ _ _ _ (by decide)]; unfold m_r0; rw [p2_2, if_neg (by omega), p2_2, if_neg (by omega)]
        rw [e14, e16]
        omega
/-- what a PART leaves -/
theorem m_part_f {σ : fS} {a w how : Int} (hI : m_I σ) (ha : 0 ≤ a ∧ a ≤ 12000) (hw : w = 0 ∨ w = 1) (hh : 0 ≤ how ∧ how ≤ 2) : (∀ k i, k ≠ 7 → k ≠ 13 → k ≠ 14 → (m_part σ a w how).2 k i = σ.2 k i) ∧ (∀ q, q ≠ 16 → q ≠ 26 → (m_part σ a w how).1 0 q = σ.1 0 q) ∧ ((m_part σ a w how).1 0 16 = (m_body σ a w how).1 0 16 + (m_tail (m_body σ a w how) w (m_pq σ w)).length ∧ (m_part σ a w how).1 0 26 = (m_body σ a w how).1 0 16 ∧ a ≤ (m_body σ a w how).1 0 16 ∧ (m_part σ a w how).1 0 16 ≤ a + 5708 ∧ a < (m_part σ a w how).1 0 16) ∧ (∀ i, 0 ≤ (m_part σ a w how).2 13 i ∧ (m_part σ a w how).2 13 i ≤ 99999) ∧ (∀ i, -128 ≤ (m_part σ a w how).2 7 i ∧ (m_part σ a w how).2 7 i ≤ 127) ∧ ∀ n : Nat, 1 ≤ n → n ≤ 40 → m_mv σ w n = 1 → σ.2 1 n = 1 → 0 ≤ (m_part σ a w how).2 14 n ∧ (m_part σ a w how).2 14 n + σ.2 5 n ≤ (m_part σ a w how).1 0 16 := by
  have h5 : ∀ i, 0 ≤ σ.2 5 i ∧ σ.2 5 i ≤ 120 := fun i => hI.2.1 5 i
  have h16 := m_body_16 σ a w how
  have hrl := m_rl σ w how hh h5
  have htb := m_tail_b (m_body σ a w how) w (m_pq σ w)
  have htl := m_tail_len (m_body σ a w how) w (m_pq σ w)
  have ht1 := m_tell_len 120 (m_cnt (m_mv (m_body σ a w how) w) 40)
  have hfl : ((if w = 1 then [37, 70, 49, 10] else ([] : List Int)).length : Int) ≤ 4 := by split <;> decide
  have e16 : (m_part σ a w how).1 0 16 = (m_body σ a w how).1 0 16 + (m_tail (m_body σ a w how) w (m_pq σ w)).length := by
    unfold m_part
    rw [p1_1, if_neg (by decide), m_puts_next]
  have e2 : ∀ k i, k ≠ 7 → (m_part σ a w how).2 k i = (m_body σ a w how).2 k i := fun k i h => by
    unfold m_part
    rw [p1_2, m_puts_2 _ _ _ _ h]
  have hS1 : (m_puts (f_p1 σ 0 16 a) (if w = 1 then [37, 70, 49, 10] else [])).1 0 16 = a + (if w = 1 then [37, 70, 49, 10] else ([] : List Int)).length := by
    rw [m_puts_next, p1_1, if_pos ⟨rfl, rfl⟩]
  have hS2 : ∀ k i, k ≠ 7 → (m_puts (f_p1 σ 0 16 a) (if w = 1 then [37, 70, 49, 10] else [])).2 k i = σ.2 k i := fun k i h => by
    rw [m_puts_2 _ _ _ _ h]; rfl
  refine ⟨fun k i k7 k13 k14 => ?_, fun q q16 q26 => ?_, ⟨e16, ?_, by omega, by omega, by omega⟩, fun i => ?_, fun i => ?_, fun n n1 n40 hmv hth => ?_⟩
  · rw [e2 k i k7, m_body_2 _ _ _ _ _ _ k7 k13 k14]
  · unfold m_part
    rw [p1_1, if_neg (by omega), m_puts_1, if_neg (by omega), m_body_1 _ _ _ _ _ q16]
  · unfold m_part
    rw [p1_1, if_pos ⟨rfl, rfl⟩]
  · rw [e2 13 i (by decide)]
    refine m_recs_13 _ _ (by rw [hS1]; omega) ?_ (fun i => by rw [hS2 13 i (by decide)]; exact hI.2.1 13 i) i
    rw [hS1, m_rlen_congr (σ := σ) (fun i => hS2 5 i (by decide)) (fun i => hS2 6 i (by decide))]
    omega
  · unfold m_part
    rw [p1_2]
    have hfb : x_byR (if w = 1 then [37, 70, 49, 10] else ([] : List Int)) := by
      intro x hx
      split at hx
      · simp only [List.mem_cons, List.not_mem_nil, or_false] at hx; omega
      · cases hx
    have g1 : ∀ i, -128 ≤ (m_puts (f_p1 σ 0 16 a) (if w = 1 then [37, 70, 49, 10] else [])).2 7 i ∧ (m_puts (f_p1 σ 0 16 a) (if w = 1 then [37, 70, 49, 10] else [])).2 7 i ≤ 127 := m_puts_7 _ (f_p1 σ 0 16 a) hfb (fun i => hI.2.1 7 i)
    have g2 : ∀ i, -128 ≤ (m_body σ a w how).2 7 i ∧ (m_body σ a w how).2 7 i ≤ 127 := m_recs_7 (m_turns σ w how (m_last how + 1)) (m_puts (f_p1 σ 0 16 a) (if w = 1 then [37, 70, 49, 10] else [])) (fun i => by rw [hS2 6 i (by decide)]; exact hI.2.1 6 i) g1
    exact m_puts_7 _ (m_body σ a w how) (m_byR_tail _ _ _) g2 i
  · rw [e2 14 n (by decide)]
    have hin : ((n - 1 : Nat) : Int) + 1 ∈ m_turns σ w how (m_last how + 1) := by
      refine m_all_in σ w how (n - 1) (by omega) hh ?_ (by rw [show n - 1 + 1 = n by omega]; exact hth) (by rw [show n - 1 + 1 = n by omega]; exact hI.2.1 2 n) (by rw [show n - 1 + 1 = n by omega]; exact h5 n)
      rw [show n - 1 + 1 = n by omega]
      unfold m_mv at hmv
      rcases hw with e | e
      · right; rw [if_neg (by omega)] at hmv; exact ⟨e, hmv⟩
      · left; exact ⟨e, hth⟩
    have hin2 : n ∈ (m_turns σ w how (m_last how + 1)).map Int.toNat := List.mem_map.mpr ⟨_, hin, by omega⟩
    have := m_recs_14 _ (m_puts (f_p1 σ 0 16 a) (if w = 1 then [37, 70, 49, 10] else [])) (by rw [hS1]; omega) (fun i => by rw [hS2 5 i (by decide)]; exact h5 i) n (Or.inl hin2)
    rw [hS2 5 n (by decide)] at this
    have e : (m_recs (m_puts (f_p1 σ 0 16 a) (if w = 1 then [37, 70, 49, 10] else [])) (m_turns σ w how (m_last how + 1))) = m_body σ a w how := rfl
    rw [e] at this
    omega
theorem m_I_part {σ : fS} {a w how : Int} (hI : m_I σ) (ha : 0 ≤ a ∧ a ≤ 12000) (hw : w = 0 ∨ w = 1) (hh : 0 ≤ how ∧ how ≤ 2) : m_I (m_part σ a w how) := by
  obtain ⟨f1, f2, f3, f4, f5, -⟩ := m_part_f hI ha hw hh
  refine m_I_fr hI (fun b => ?_) (fun k i => ?_)
  · by_cases g : b = 16 ∨ b = 26
    · right; exact ⟨by omega, by omega, m_okF_n _ _ (by omega)⟩
    · left; exact f2 b (by omega) (by omega)
  · by_cases g7 : k = 7
    · subst g7; right; exact ⟨by decide, by decide, by decide, f5 i⟩
    · by_cases g13 : k = 13
      · subst g13; right; exact ⟨by decide, by decide, by decide, f4 i⟩
      · by_cases g14 : k = 14
        · right; exact ⟨by omega, by omega, by omega, m_okA_n _ _ (by omega)⟩
        · left; exact f1 k i g7 g13 g14
