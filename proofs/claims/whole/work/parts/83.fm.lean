/-! the reference's differ, where all are alike to it -/
def m_sm (σ : fS) (a b t : Int) : Prop := (σ.2 10 (41 * a + t).toNat = -1 ∧ σ.2 10 (41 * b + t).toNat = -1) ∨ (σ.2 10 (41 * a + t).toNat ≠ -1 ∧ σ.2 10 (41 * b + t).toNat ≠ -1 ∧ m_alike σ (41 * a + t) (41 * b + t))
theorem m_alike_cg {σ S : fS} {a b : Int} (h : m_dfr σ S) (g : m_alike σ a b) : m_alike S a b := by
  unfold m_alike at g ⊢
  simp only [h.1 12 _ (by decide) (by decide), h.1 11 _ (by decide) (by decide), h.1 7 _ (by decide) (by decide)]
  exact g
set_option maxRecDepth 100000 in
set_option maxHeartbeats 4000000 in
/-- differ(a, b) -/
theorem kM_differ3 (l : Launch) (xCl : List vw_C) (D : va_G) (cA : Nat → ClassId) (ad : Nat → Nat) (hJ : f_J (mG xCl D cA ad)) (σ : fS) (a b : Int) (ha : -2147483648 ≤ a ∧ a ≤ 2147483647) (hb : -2147483648 ≤ b ∧ b ≤ 2147483647) (hr : 0 ≤ σ.1 0 10 ∧ σ.1 0 10 ≤ 60) (h7 : ∀ i, -128 ≤ σ.2 7 i ∧ σ.2 7 i ≤ 127) (h10 : ∀ i, -1 ≤ σ.2 10 i ∧ σ.2 10 i ≤ 99999) (h12 : ∀ i, 0 ≤ σ.2 12 i ∧ σ.2 12 i ≤ 120) (hst : ∀ i, σ.2 10 i ≠ -1 → 0 ≤ σ.2 11 i ∧ σ.2 11 i + σ.2 12 i ≤ 12000) : f_M l (mG xCl D cA ad) mE yM_differ (Cond.code yM_differ cM_differ 9 (some .int) :: A9) 1 σ [.ref (ad 0), .int (fI a), .int (fI b)] (f_QI (fun r σ1 => (¬ ((0 ≤ a ∧ a < σ.1 0 10) ∧ 0 ≤ b ∧ b < σ.1 0 10) ∧ r = 0 ∧ σ1 = f_p1 σ 0 0 1) ∨ (((0 ≤ a ∧ a < σ.1 0 10) ∧ 0 ≤ b ∧ b < σ.1 0 10) ∧ m_dfr σ σ1 ∧ σ1.1 0 0 = 0 ∧ σ1.1 0 28 = 1 ∧ σ1.1 0 29 = r ∧ (0 ≤ r ∧ r ≤ 40) ∧ ((∀ t : Int, 1 ≤ t → t < 41 → m_sm σ a b t) → r = 0))) (mG xCl D cA ad)) := by
  refine f_enter (by decide +kernel) hJ rfl (Nat.le_of_ble_eq_true rfl) ?_
  intro z hzl hR C hRt hLk hEz
  subst hzl
  have L : ((0 ≤ a ∧ a < σ.1 0 10) ∧ 0 ≤ b ∧ b < σ.1 0 10) → ∀ (m : Nat) (k v : Int) (S : fS), k + m = 41 → 1 ≤ k → m_dfr σ S → S.1 0 0 = 0 → S.1 0 28 = 1 → S.1 0 29 = v → 0 ≤ v → v < k → ((∀ t : Int, 1 ≤ t → t < k → m_sm σ a b t) → v = 0) → fv z (mG xCl D cA ad) 9 (f_R z (mG xCl D cA ad) (f_QI (fun r σ1 => (¬ ((0 ≤ a ∧ a < σ.1 0 10) ∧ 0 ≤ b ∧ b < σ.1 0 10) ∧ r = 0 ∧ σ1 = f_p1 σ 0 0 1) ∨ (((0 ≤ a ∧ a < σ.1 0 10) ∧ 0 ≤ b ∧ b < σ.1 0 10) ∧ m_dfr σ σ1 ∧ σ1.1 0 0 = 0 ∧ σ1.1 0 28 = 1 ∧ σ1.1 0 29 = r ∧ (0 ≤ r ∧ r ≤ 40) ∧ ((∀ t : Int, 1 ≤ t → t < 41 → m_sm σ a b t) → r = 0))) (mG xCl D cA ad))) 0 0 S 30 [some (.ref (ad 0)), some (.int (fI a)), some (.int (fI b)), some (.int (fI k)), none, none, none, none, none] [] := by
    intro hab m
    induction m with
    | zero =>
      intro k v S hk hk1 hS hS0 hS28 hS29 hv0 hv1 hvz
      obtain rfl : k = 41 := by omega
      refine v_iload_n C dM_differ_30 rfl rfl ?_
      refine v_bipush C dM_differ_31 (by decide +kernel) ?_
      refine v_icmp_gt (tgt := 180) C dM_differ_33 (by decide) (by omega) (by omega) (fun hc1 => ?_) (fun hc1 => ?_)
      · refine v_aload_n C dM_differ_180 rfl rfl ?_
        refine v_getI (k := 0) (q := 29) (v := v) C dM_differ_181 (by show (0 : Nat) < 18; decide) rfl rfl (by decide) rfl inM lM_204 rfl hS29 ?_
        exact v_iret C hRt hLk dM_differ_184 (Or.inr ⟨hab, hS, hS0, hS28, hS29, ⟨by omega, by omega⟩, hvz⟩)
      · exfalso; omega
    | succ m ih =>
      intro k v S hk hk1 hS hS0 hS28 hS29 hv0 hv1 hvz
      have hpa := h10 (41 * a + k).toNat
      have hpb := h10 (41 * b + k).toNat
      have hkk : (∀ t : Int, 1 ≤ t → t < k + 1 → m_sm σ a b t) → m_sm σ a b k := fun h => h k hk1 (by omega)
      refine v_iload_n C dM_differ_30 rfl rfl ?_
      refine v_bipush C dM_differ_31 (by decide +kernel) ?_
      refine v_icmp_gt (tgt := 180) C dM_differ_33 (by decide) (by omega) (by omega) (fun hc2 => ?_) (fun hc2 => ?_)
      · exfalso; omega
      · refine v_bipush C dM_differ_36 (by decide +kernel) ?_
        refine v_iload_n C dM_differ_38 rfl rfl ?_
        refine v_imul C dM_differ_39 ?_
        refine v_iload_n C dM_differ_40 rfl rfl ?_
        refine v_iadd C dM_differ_41 ?_
        refine v_istore C dM_differ_42 (by decide) ?_
        refine v_bipush C dM_differ_44 (by decide +kernel) ?_
        refine v_iload_n C dM_differ_46 rfl rfl ?_
        refine v_imul C dM_differ_47 ?_
        refine v_iload_n C dM_differ_48 rfl rfl ?_
        refine v_iadd C dM_differ_49 ?_
        refine v_istore C dM_differ_50 (by decide) ?_
        refine v_aload_n C dM_differ_52 rfl rfl ?_
        refine v_getR (k := 0) (q := 13) C dM_differ_53 (by show (0 : Nat) < 18; decide) rfl rfl (by decide) rfl inM lM_39 rfl ?_
        refine v_iload C dM_differ_56 rfl ?_
        refine v_iald (k := 10) (v := σ.2 10 (((41 * a) + k)).toNat) C dM_differ_58 (by show (10 : Nat) < 18; decide) rfl rfl (by omega) (by decide) (hS.1 10 _ (by decide) (by decide)) ?_
        refine v_iconst C dM_differ_59 ?_
        refine v_icmp_eq (tgt := 67) C dM_differ_60 (by decide) (by omega) (by omega) (fun hc3 => ?_) (fun hc3 => ?_)
        · refine v_iconst C dM_differ_67 ?_
          refine v_istore C dM_differ_68 (by decide) ?_
          refine v_aload_n C dM_differ_70 rfl rfl ?_
          refine v_getR (k := 0) (q := 13) C dM_differ_71 (by show (0 : Nat) < 18; decide) rfl rfl (by decide) rfl inM lM_39 rfl ?_
          refine v_iload C dM_differ_74 rfl ?_
          refine v_iald (k := 10) (v := σ.2 10 (((41 * b) + k)).toNat) C dM_differ_76 (by show (10 : Nat) < 18; decide) rfl rfl (by omega) (by decide) (hS.1 10 _ (by decide) (by decide)) ?_
          refine v_iconst C dM_differ_77 ?_
          refine v_icmp_eq (tgt := 85) C dM_differ_78 (by decide) (by omega) (by omega) (fun hc4 => ?_) (fun hc4 => ?_)
          · refine v_iconst C dM_differ_85 ?_
            refine v_istore C dM_differ_86 (by decide) ?_
            refine v_iload C dM_differ_88 rfl ?_
            refine v_if_eq (tgt := 117) C dM_differ_90 (by decide) (by omega) (fun hc5 => ?_) (fun hc5 => ?_)
            · refine v_iload C dM_differ_117 rfl ?_
              refine v_if_eq (tgt := 126) C dM_differ_119 (by decide) (by omega) (fun hc6 => ?_) (fun hc6 => ?_)
              · refine v_iload C dM_differ_126 rfl ?_
                refine v_if_eq (tgt := 135) C dM_differ_128 (by decide) (by omega) (fun hc7 => ?_) (fun hc7 => ?_)
                · refine v_iconst C dM_differ_135 ?_
                  refine v_istore C dM_differ_136 (by decide) ?_
                  refine v_iload C dM_differ_138 rfl ?_
                  refine v_if_le (tgt := 174) C dM_differ_140 (by decide) (by omega) (fun hc8 => ?_) (fun hc8 => ?_)
                  · refine v_iinc C dM_differ_174 rfl (by decide) ?_
                    refine v_goto (tgt := 30) C dM_differ_177 (by decide) ?_
                    exact v_less (by exact ⟨rfl, rfl, rfl, rfl, trivial⟩) (ih (k + 1) v _ (by omega) (by omega) hS hS0 hS28 hS29 (by omega) (by omega) (fun h => hvz (fun t h1 h2 => h t h1 (by omega))))
                  · exfalso; omega
                · exfalso; omega
              · exfalso; omega
            · exfalso; omega
          · refine v_iconst C dM_differ_81 ?_
            refine v_goto (tgt := 86) C dM_differ_82 (by decide) ?_
            refine v_istore C dM_differ_86 (by decide) ?_
            refine v_iload C dM_differ_88 rfl ?_
            refine v_if_eq (tgt := 117) C dM_differ_90 (by decide) (by omega) (fun hc9 => ?_) (fun hc9 => ?_)
            · refine v_iload C dM_differ_117 rfl ?_
              refine v_if_eq (tgt := 126) C dM_differ_119 (by decide) (by omega) (fun hc10 => ?_) (fun hc10 => ?_)
              · exfalso; omega
              · refine v_iconst C dM_differ_122 ?_
                refine v_goto (tgt := 136) C dM_differ_123 (by decide) ?_
                refine v_istore C dM_differ_136 (by decide) ?_
                refine v_iload C dM_differ_138 rfl ?_
                refine v_if_le (tgt := 174) C dM_differ_140 (by decide) (by omega) (fun hc11 => ?_) (fun hc11 => ?_)
                · exfalso; omega
                · refine v_aload_n C dM_differ_143 rfl rfl ?_
                  refine v_getR (k := 0) (q := 30) C dM_differ_144 (by show (0 : Nat) < 18; decide) rfl rfl (by decide) rfl inM lM_57 rfl ?_
                  refine v_aload_n C dM_differ_147 rfl rfl ?_
                  refine v_getI (k := 0) (q := 29) (v := v) C dM_differ_148 (by show (0 : Nat) < 18; decide) rfl rfl (by decide) rfl inM lM_204 rfl hS29 ?_
                  refine v_iload_n C dM_differ_151 rfl rfl ?_
                  refine v_iast (k := 16) C dM_differ_152 (by show (16 : Nat) < 18; decide) rfl rfl (by omega) (by decide) ?_
                  refine v_aload_n C dM_differ_153 rfl rfl ?_
                  refine v_getR (k := 0) (q := 31) C dM_differ_154 (by show (0 : Nat) < 18; decide) rfl rfl (by decide) rfl inM lM_60 rfl ?_
                  refine v_aload_n C dM_differ_157 rfl rfl ?_
                  refine v_getI (k := 0) (q := 29) (v := v) C dM_differ_158 (by show (0 : Nat) < 18; decide) rfl rfl (by decide) rfl inM lM_204 rfl hS29 ?_
                  refine v_iload C dM_differ_161 rfl ?_
                  refine v_iast (k := 17) C dM_differ_163 (by show (17 : Nat) < 18; decide) rfl rfl (by omega) (by decide) ?_
                  refine v_aload_n C dM_differ_164 rfl rfl ?_
                  refine v_dup C dM_differ_165 rfl ?_
                  refine v_getI (k := 0) (q := 29) (v := v) C dM_differ_166 (by show (0 : Nat) < 18; decide) rfl rfl (by decide) rfl inM lM_204 rfl hS29 ?_
                  refine v_iconst C dM_differ_169 ?_
                  refine v_iadd C dM_differ_170 ?_
                  refine v_putI (k := 0) (q := 29) C dM_differ_171 (by show (0 : Nat) < 18; decide) rfl rfl (by decide) rfl inM tyM_ok nmM lM_204 rfl rfl rfl rfl rfl ?_
                  refine v_iinc C dM_differ_174 rfl (by decide) ?_
                  refine v_goto (tgt := 30) C dM_differ_177 (by decide) ?_
                  exact v_less (by exact ⟨rfl, rfl, rfl, rfl, trivial⟩) (ih (k + 1) (v + 1) _ (by omega) (by omega) (m_dfr_p (m_dfr_a (m_dfr_a hS 16 _ _ (by decide)) 17 _ _ (by decide)) 29 _ (by decide)) hS0 hS28 rfl (by omega) (by omega) (fun h => by exfalso; rcases hkk h with ⟨g1, g2⟩ | ⟨g1, g2, g3⟩; (· omega); (· first | omega | exact hva.elim (fun q => absurd q.2 (by decide)) (fun q => q.1 (m_alike_cg hS g3)))))
            · exfalso; omega
        · refine v_iconst C dM_differ_63 ?_
          refine v_goto (tgt := 68) C dM_differ_64 (by decide) ?_
          refine v_istore C dM_differ_68 (by decide) ?_
          refine v_aload_n C dM_differ_70 rfl rfl ?_
          refine v_getR (k := 0) (q := 13) C dM_differ_71 (by show (0 : Nat) < 18; decide) rfl rfl (by decide) rfl inM lM_39 rfl ?_
          refine v_iload C dM_differ_74 rfl ?_
          refine v_iald (k := 10) (v := σ.2 10 (((41 * b) + k)).toNat) C dM_differ_76 (by show (10 : Nat) < 18; decide) rfl rfl (by omega) (by decide) (hS.1 10 _ (by decide) (by decide)) ?_
          refine v_iconst C dM_differ_77 ?_
          refine v_icmp_eq (tgt := 85) C dM_differ_78 (by decide) (by omega) (by omega) (fun hc12 => ?_) (fun hc12 => ?_)
          · refine v_iconst C dM_differ_85 ?_
            refine v_istore C dM_differ_86 (by decide) ?_
            refine v_iload C dM_differ_88 rfl ?_
            refine v_if_eq (tgt := 117) C dM_differ_90 (by decide) (by omega) (fun hc13 => ?_) (fun hc13 => ?_)
            · exfalso; omega
            · refine v_iload C dM_differ_93 rfl ?_
              refine v_if_eq (tgt := 117) C dM_differ_95 (by decide) (by omega) (fun hc14 => ?_) (fun hc14 => ?_)
              · refine v_iload C dM_differ_117 rfl ?_
                refine v_if_eq (tgt := 126) C dM_differ_119 (by decide) (by omega) (fun hc15 => ?_) (fun hc15 => ?_)
                · refine v_iload C dM_differ_126 rfl ?_
                  refine v_if_eq (tgt := 135) C dM_differ_128 (by decide) (by omega) (fun hc16 => ?_) (fun hc16 => ?_)
                  · exfalso; omega
                  · refine v_iconst C dM_differ_131 ?_
                    refine v_goto (tgt := 136) C dM_differ_132 (by decide) ?_
                    refine v_istore C dM_differ_136 (by decide) ?_
                    refine v_iload C dM_differ_138 rfl ?_
                    refine v_if_le (tgt := 174) C dM_differ_140 (by decide) (by omega) (fun hc17 => ?_) (fun hc17 => ?_)
                    · exfalso; omega
                    · refine v_aload_n C dM_differ_143 rfl rfl ?_
                      refine v_getR (k := 0) (q := 30) C dM_differ_144 (by show (0 : Nat) < 18; decide) rfl rfl (by decide) rfl inM lM_57 rfl ?_
                      refine v_aload_n C dM_differ_147 rfl rfl ?_
                      refine v_getI (k := 0) (q := 29) (v := v) C dM_differ_148 (by show (0 : Nat) < 18; decide) rfl rfl (by decide) rfl inM lM_204 rfl hS29 ?_
                      refine v_iload_n C dM_differ_151 rfl rfl ?_
                      refine v_iast (k := 16) C dM_differ_152 (by show (16 : Nat) < 18; decide) rfl rfl (by omega) (by decide) ?_
                      refine v_aload_n C dM_differ_153 rfl rfl ?_
                      refine v_getR (k := 0) (q := 31) C dM_differ_154 (by show (0 : Nat) < 18; decide) rfl rfl (by decide) rfl inM lM_60 rfl ?_
                      refine v_aload_n C dM_differ_157 rfl rfl ?_
                      refine v_getI (k := 0) (q := 29) (v := v) C dM_differ_158 (by show (0 : Nat) < 18; decide) rfl rfl (by decide) rfl inM lM_204 rfl hS29 ?_
                      refine v_iload C dM_differ_161 rfl ?_
                      refine v_iast (k := 17) C dM_differ_163 (by show (17 : Nat) < 18; decide) rfl rfl (by omega) (by decide) ?_
                      refine v_aload_n C dM_differ_164 rfl rfl ?_
                      refine v_dup C dM_differ_165 rfl ?_
                      refine v_getI (k := 0) (q := 29) (v := v) C dM_differ_166 (by show (0 : Nat) < 18; decide) rfl rfl (by decide) rfl inM lM_204 rfl hS29 ?_
                      refine v_iconst C dM_differ_169 ?_
                      refine v_iadd C dM_differ_170 ?_
                      refine v_putI (k := 0) (q := 29) C dM_differ_171 (by show (0 : Nat) < 18; decide) rfl rfl (by decide) rfl inM tyM_ok nmM lM_204 rfl rfl rfl rfl rfl ?_
                      refine v_iinc C dM_differ_174 rfl (by decide) ?_
                      refine v_goto (tgt := 30) C dM_differ_177 (by decide) ?_
                      exact v_less (by exact ⟨rfl, rfl, rfl, rfl, trivial⟩) (ih (k + 1) (v + 1) _ (by omega) (by omega) (m_dfr_p (m_dfr_a (m_dfr_a hS 16 _ _ (by decide)) 17 _ _ (by decide)) 29 _ (by decide)) hS0 hS28 rfl (by omega) (by omega) (fun h => by exfalso; rcases hkk h with ⟨g1, g2⟩ | ⟨g1, g2, g3⟩; (· omega); (· first | omega | exact hva.elim (fun q => absurd q.2 (by decide)) (fun q => q.1 (m_alike_cg hS g3)))))
                · exfalso; omega
              · exfalso; omega
          · refine v_iconst C dM_differ_81 ?_
            refine v_goto (tgt := 86) C dM_differ_82 (by decide) ?_
            refine v_istore C dM_differ_86 (by decide) ?_
            refine v_iload C dM_differ_88 rfl ?_
            refine v_if_eq (tgt := 117) C dM_differ_90 (by decide) (by omega) (fun hc18 => ?_) (fun hc18 => ?_)
            · exfalso; omega
            · refine v_iload C dM_differ_93 rfl ?_
              refine v_if_eq (tgt := 117) C dM_differ_95 (by decide) (by omega) (fun hc19 => ?_) (fun hc19 => ?_)
              · exfalso; omega
              · refine v_aload_n C dM_differ_98 rfl rfl ?_
                refine v_iload C dM_differ_99 rfl ?_
                refine v_iload C dM_differ_101 rfl ?_
                refine v_cVI (k := 0) (n := 2) C (mE_ok _) trivial hR (kM_isAlike _ xCl D cA ad hJ S (((41 * a) + k)) (((41 * b) + k)) (by omega) (by omega) (fun i => by rw [hS.1 7 i (by decide) (by decide)]; exact h7 i) (fun i => by rw [hS.1 12 i (by decide) (by decide)]; exact h12 i) (by rw [hS.1 11 _ (by decide) (by decide), hS.1 12 _ (by decide) (by decide)]; exact hst _ (by omega)) (by rw [hS.1 11 _ (by decide) (by decide), hS.1 12 _ (by decide) (by decide)]; exact hst _ (by omega))) dM_differ_103 (by show (0 : Nat) < 18; decide) rfl rfl gM_210 (by decide +kernel) (by decide) (by decide) rfl (Nat.le_of_ble_eq_true rfl) rfl ⟨rfl, rfl⟩ (fun r1 τ1 hp1 => ?_)
                obtain ⟨he1, hva⟩ := hp1
                subst τ1
                have hv1b : r1 = 1 ∨ r1 = 0 := hva.elim (fun h => Or.inl h.2) (fun h => Or.inr h.2)
                rcases hv1b with hv1c | hv1c
                · subst r1
                  refine v_if_eq (tgt := 113) C dM_differ_106 (by decide) (by omega) (fun hc20 => ?_) (fun hc20 => ?_)
                  · exfalso; omega
                  · refine v_iconst C dM_differ_109 ?_
                    refine v_goto (tgt := 136) C dM_differ_110 (by decide) ?_
                    refine v_istore C dM_differ_136 (by decide) ?_
                    refine v_iload C dM_differ_138 rfl ?_
                    refine v_if_le (tgt := 174) C dM_differ_140 (by decide) (by omega) (fun hc21 => ?_) (fun hc21 => ?_)
                    · refine v_iinc C dM_differ_174 rfl (by decide) ?_
                      refine v_goto (tgt := 30) C dM_differ_177 (by decide) ?_
                      exact v_less (by exact ⟨rfl, rfl, rfl, rfl, trivial⟩) (ih (k + 1) v _ (by omega) (by omega) hS hS0 hS28 hS29 (by omega) (by omega) (fun h => hvz (fun t h1 h2 => h t h1 (by omega))))
                    · exfalso; omega
                · subst r1
                  refine v_if_eq (tgt := 113) C dM_differ_106 (by decide) (by omega) (fun hc22 => ?_) (fun hc22 => ?_)
                  · refine v_iconst C dM_differ_113 ?_
                    refine v_goto (tgt := 136) C dM_differ_114 (by decide) ?_
                    refine v_istore C dM_differ_136 (by decide) ?_
                    refine v_iload C dM_differ_138 rfl ?_
                    refine v_if_le (tgt := 174) C dM_differ_140 (by decide) (by omega) (fun hc23 => ?_) (fun hc23 => ?_)
                    · exfalso; omega
                    · refine v_aload_n C dM_differ_143 rfl rfl ?_
                      refine v_getR (k := 0) (q := 30) C dM_differ_144 (by show (0 : Nat) < 18; decide) rfl rfl (by decide) rfl inM lM_57 rfl ?_
                      refine v_aload_n C dM_differ_147 rfl rfl ?_
                      refine v_getI (k := 0) (q := 29) (v := v) C dM_differ_148 (by show (0 : Nat) < 18; decide) rfl rfl (by decide) rfl inM lM_204 rfl hS29 ?_
                      refine v_iload_n C dM_differ_151 rfl rfl ?_
                      refine v_iast (k := 16) C dM_differ_152 (by show (16 : Nat) < 18; decide) rfl rfl (by omega) (by decide) ?_
                      refine v_aload_n C dM_differ_153 rfl rfl ?_
                      refine v_getR (k := 0) (q := 31) C dM_differ_154 (by show (0 : Nat) < 18; decide) rfl rfl (by decide) rfl inM lM_60 rfl ?_
                      refine v_aload_n C dM_differ_157 rfl rfl ?_
                      refine v_getI (k := 0) (q := 29) (v := v) C dM_differ_158 (by show (0 : Nat) < 18; decide) rfl rfl (by decide) rfl inM lM_204 rfl hS29 ?_
                      refine v_iload C dM_differ_161 rfl ?_
                      refine v_iast (k := 17) C dM_differ_163 (by show (17 : Nat) < 18; decide) rfl rfl (by omega) (by decide) ?_
                      refine v_aload_n C dM_differ_164 rfl rfl ?_
                      refine v_dup C dM_differ_165 rfl ?_
                      refine v_getI (k := 0) (q := 29) (v := v) C dM_differ_166 (by show (0 : Nat) < 18; decide) rfl rfl (by decide) rfl inM lM_204 rfl hS29 ?_
                      refine v_iconst C dM_differ_169 ?_
                      refine v_iadd C dM_differ_170 ?_
                      refine v_putI (k := 0) (q := 29) C dM_differ_171 (by show (0 : Nat) < 18; decide) rfl rfl (by decide) rfl inM tyM_ok nmM lM_204 rfl rfl rfl rfl rfl ?_
                      refine v_iinc C dM_differ_174 rfl (by decide) ?_
                      refine v_goto (tgt := 30) C dM_differ_177 (by decide) ?_
                      exact v_less (by exact ⟨rfl, rfl, rfl, rfl, trivial⟩) (ih (k + 1) (v + 1) _ (by omega) (by omega) (m_dfr_p (m_dfr_a (m_dfr_a hS 16 _ _ (by decide)) 17 _ _ (by decide)) 29 _ (by decide)) hS0 hS28 rfl (by omega) (by omega) (fun h => by exfalso; rcases hkk h with ⟨g1, g2⟩ | ⟨g1, g2, g3⟩; (· omega); (· first | omega | exact hva.elim (fun q => absurd q.2 (by decide)) (fun q => q.1 (m_alike_cg hS g3)))))
                  · exfalso; omega
  refine v_aload_n C dM_differ_0 rfl rfl ?_
  refine v_iload_n C dM_differ_1 rfl rfl ?_
  refine v_cVI (k := 0) (n := 1) C (mE_ok _) trivial hR (kM_isRevision _ xCl D cA ad hJ σ (a) (by omega) hr) dM_differ_2 (by show (0 : Nat) < 18; decide) rfl rfl gM_201 (by decide +kernel) (by decide) (by decide) rfl (Nat.le_of_ble_eq_true rfl) rfl ⟨rfl, rfl⟩ (fun r2 τ2 hp2 => ?_)
  rcases hp2 with ⟨hq2, e9, e8⟩ | ⟨hq2, e9, e8⟩
  · subst τ2
    subst r2
    refine v_if_eq (tgt := 16) C dM_differ_5 (by decide) (by omega) (fun hc24 => ?_) (fun hc24 => ?_)
    · exfalso; omega
    · refine v_aload_n C dM_differ_8 rfl rfl ?_
      refine v_iload_n C dM_differ_9 rfl rfl ?_
      refine v_cVI (k := 0) (n := 1) C (mE_ok _) trivial hR (kM_isRevision _ xCl D cA ad hJ (f_p1 σ 0 0 0) (b) (by omega) hr) dM_differ_10 (by show (0 : Nat) < 18; decide) rfl rfl gM_201 (by decide +kernel) (by decide) (by decide) rfl (Nat.le_of_ble_eq_true rfl) rfl ⟨rfl, rfl⟩ (fun r3 τ3 hp3 => ?_)
      rcases hp3 with ⟨hq3, e9, e8⟩ | ⟨hq3, e9, e8⟩
      · subst τ3
        subst r3
        rw [p1_p1]
        change 0 ≤ b ∧ b < σ.1 0 10 at hq3
        refine v_if_ne (tgt := 18) C dM_differ_13 (by decide) (by omega) (fun hc25 => ?_) (fun hc25 => ?_)
        · refine v_aload_n C dM_differ_18 rfl rfl ?_
          refine v_iconst C dM_differ_19 ?_
          refine v_putI (k := 0) (q := 29) C dM_differ_20 (by show (0 : Nat) < 18; decide) rfl rfl (by decide) rfl inM tyM_ok nmM lM_204 rfl rfl rfl rfl rfl ?_
          refine v_aload_n C dM_differ_23 rfl rfl ?_
          refine v_iconst C dM_differ_24 ?_
          refine v_putI (k := 0) (q := 28) C dM_differ_25 (by show (0 : Nat) < 18; decide) rfl rfl (by decide) rfl inM tyM_ok nmM lM_207 rfl rfl rfl (fN_bool (by omega)) (fF_bool (by omega)) ?_
          refine v_iconst C dM_differ_28 ?_
          refine v_istore_n C dM_differ_29 rfl (by decide) ?_
          exact v_less (by exact ⟨rfl, rfl, rfl, rfl, trivial⟩) (L (by omega) 40 1 0 _ (by omega) (by omega) (m_dfr_p (m_dfr_p (m_dfr_p (m_dfr_rf σ) 0 0 (by decide)) 29 0 (by decide)) 28 1 (by decide)) rfl rfl rfl (by omega) (by omega) (fun _ => rfl))
        · exfalso; omega
      · subst τ3
        subst r3
        rw [p1_p1]
        change ¬ (0 ≤ b ∧ b < σ.1 0 10) at hq3
        refine v_if_ne (tgt := 18) C dM_differ_13 (by decide) (by omega) (fun hc26 => ?_) (fun hc26 => ?_)
        · exfalso; omega
        · refine v_iconst C dM_differ_16 ?_
          exact v_iret C hRt hLk dM_differ_17 (Or.inl ⟨by omega, rfl, rfl⟩)
  · subst τ2
    subst r2
    refine v_if_eq (tgt := 16) C dM_differ_5 (by decide) (by omega) (fun hc27 => ?_) (fun hc27 => ?_)
    · refine v_iconst C dM_differ_16 ?_
      exact v_iret C hRt hLk dM_differ_17 (Or.inl ⟨by omega, rfl, rfl⟩)
    · exfalso; omega
def u_differ3 (τ : fS) (b c : Int) (r : Int) (τ1 : fS) : Prop := (¬ ((0 ≤ b ∧ b < τ.1 0 10) ∧ 0 ≤ c ∧ c < τ.1 0 10) ∧ r = 0 ∧ τ1 = f_p1 τ 0 0 1) ∨ (((0 ≤ b ∧ b < τ.1 0 10) ∧ 0 ≤ c ∧ c < τ.1 0 10) ∧ m_dfr τ τ1 ∧ τ1.1 0 0 = 0 ∧ τ1.1 0 28 = 1 ∧ τ1.1 0 29 = r ∧ (0 ≤ r ∧ r ≤ 40) ∧ ((∀ t : Int, 1 ≤ t → t < 41 → m_sm τ b c t) → r = 0))
theorem u_differ_of {τ τ1 : fS} {b c r : Int} (h : u_differ3 τ b c r τ1) : u_differ τ b c r τ1 := by
  rcases h with h | ⟨h1, h2, h3, h4, h5, h6, -⟩
  · exact Or.inl h
  · exact Or.inr ⟨h1, h2, h3, h4, h5, h6⟩
theorem kU_differ3 (l : Launch) (D : va_G) (cA : Nat → ClassId) (am : Nat → Nat) (hJ : f_J (mG xCl D cA am)) (τ : fS) (hI : m_I τ) (b c : Int) (hb : -2147483648 ≤ b ∧ b ≤ 2147483647) (hc : -2147483648 ≤ c ∧ c ≤ 2147483647) : f_M l (mG xCl D cA am) mE yM_differ (Cond.code yM_differ cM_differ 9 (some .int) :: A9) 1 τ [.ref (am 0), .int (fI b), .int (fI c)] (f_QI (fun r τ1 => u_differ3 τ b c r τ1) (mG xCl D cA am)) := by
  exact kM_differ3 l xCl D cA am hJ τ b c hb hc (hI.1 10) (fun i => hI.2.1 7 i) (fun i => hI.2.1 10 i) (fun i => hI.2.1 12 i) hI.2.2.1
