/-- the state but for what is used while lines are read: cursor, lineEnd, number, first, second -/
def m_scr (σ σ1 : fS) : Prop := σ1.2 = σ.2 ∧ ∀ a b, ¬ (a = 0 ∧ (b = 20 ∨ b = 21 ∨ b = 22 ∨ b = 26 ∨ b = 27)) → σ1.1 a b = σ.1 a b
theorem m_scr_rf (σ : fS) : m_scr σ σ := ⟨rfl, fun _ _ _ => rfl⟩
theorem m_scr_tr {σ τ υ : fS} (h1 : m_scr σ τ) (h2 : m_scr τ υ) : m_scr σ υ := ⟨h2.1.trans h1.1, fun a b h => (h2.2 a b h).trans (h1.2 a b h)⟩
theorem m_scr_p {σ τ : fS} (h : m_scr σ τ) (q : Nat) (v : Int) (hq : q = 20 ∨ q = 21 ∨ q = 22 ∨ q = 26 ∨ q = 27) : m_scr σ (f_p1 τ 0 q v) := by
  refine ⟨h.1, fun a b hab => ?_⟩
  rw [p1_1, if_neg (by
    intro h9
    exact hab ⟨h9.1, by rw [h9.2]; exact hq⟩)]
  exact h.2 a b hab
theorem m_scr_a {σ σ1 : fS} (h : m_scr σ σ1) (k i : Nat) : σ1.2 k i = σ.2 k i := by rw [h.1]
theorem m_scr_z {σ σ1 : fS} (h : m_scr σ σ1) : σ1.1 0 7 = σ.1 0 7 := h.2 0 7 (by decide)
/-- the lines of a file: f its bytes, z its size -/
def p_eol (f : Nat → Int) (z p : Int) : Int := eolF f (z - p).toNat p
def p_num (f : Nat → Int) (le p : Int) : Int × Int := numF f le 5 p 0
def p_nok (f : Nat → Int) (le p : Int) : Prop := p < (p_num f le p).2 ∧ ((p_num f le p).2 = p + 1 ∨ f p.toNat ≠ 48)
def p_tell (f : Nat → Int) (z p c : Int) : Prop := p_eol f z p < z ∧ (p < p_eol f z p ∧ f p.toNat = c) ∧ (p + 1 < p_eol f z p ∧ f (p + 1).toNat = 32) ∧ p_nok f (p_eol f z p) (p + 2) ∧ (p_num f (p_eol f z p) (p + 2)).2 = p_eol f z p
def p_tv (f : Nat → Int) (z p : Int) : Int := (p_num f (p_eol f z p) (p + 2)).1
theorem p_eol_le {f : Nat → Int} {z p : Int} : p ≤ p_eol f z p ∧ (p_eol f z p ≤ z ∨ p_eol f z p = p) := by
  have h := eolF_le f (z - p).toNat p
  unfold p_eol
  by_cases hz : p ≤ z
  · omega
  · rw [show (z - p).toNat = 0 by omega] at h ⊢
    omega
theorem numF_le (f : Nat → Int) (le : Int) : ∀ (k : Nat) (p v : Int), p ≤ (numF f le k p v).2 ∧ (numF f le k p v).2 ≤ p + k ∧ ((numF f le k p v).2 ≤ le ∨ (numF f le k p v).2 = p) := by
  intro k
  induction k with
  | zero => intro p v; show p ≤ p ∧ p ≤ p + 0 ∧ (p ≤ le ∨ p = p); omega
  | succ k ih =>
    intro p v
    have h := ih (p + 1) (10 * v + f p.toNat - 48)
    unfold numF
    split
    · omega
    · show p ≤ p ∧ p ≤ p + ((k + 1 : Nat) : Int) ∧ (p ≤ le ∨ p = p); omega
theorem numF_v (f : Nat → Int) (le : Int) : ∀ (k : Nat) (p v M : Int), 0 ≤ v → v ≤ M → 0 ≤ (numF f le k p v).1 ∧ (numF f le k p v).1 + 1 ≤ (M + 1) * 10 ^ k := by
  intro k
  induction k with
  | zero => intro p v M h1 h2; show 0 ≤ v ∧ v + 1 ≤ (M + 1) * 1; omega
  | succ k ih =>
    intro p v M h1 h2
    unfold numF
    split
    · rename_i hc
      have h := ih (p + 1) (10 * v + f p.toNat - 48) (10 * M + 9) (by omega) (by omega)
      refine ⟨h.1, ?_⟩
      have e : (10 * M + 9 + 1) * 10 ^ k = (M + 1) * 10 ^ (k + 1) := by rw [Int.pow_succ]; grind
      rw [← e]; exact h.2
    · refine ⟨h1, ?_⟩
      show v + 1 ≤ (M + 1) * 10 ^ (k + 1)
      have hp : (1 : Int) ≤ 10 ^ (k + 1) := Int.pow_pos (by decide)
      have := Int.mul_le_mul_of_nonneg_left hp (show 0 ≤ M + 1 by omega)
      omega
theorem p_num_v (f : Nat → Int) (le p : Int) : 0 ≤ (p_num f le p).1 ∧ (p_num f le p).1 ≤ 99999 := by
  have h := numF_v f le 5 p 0 0 (by omega) (by omega)
  have e : ((0 : Int) + 1) * 10 ^ 5 = 100000 := by decide
  rw [e] at h
  unfold p_num
  omega
theorem p_num_le (f : Nat → Int) (le p : Int) : p ≤ (p_num f le p).2 ∧ (p_num f le p).2 ≤ p + 5 ∧ ((p_num f le p).2 ≤ le ∨ (p_num f le p).2 = p) := numF_le f le 5 p 0

set_option maxRecDepth 100000 in
set_option maxHeartbeats 4000000 in
/-- takesNumber() -/
theorem kM_takesNumber (l : Launch) (xCl : List vw_C) (D : va_G) (cA : Nat → ClassId) (ad : Nat → Nat) (hJ : f_J (mG xCl D cA ad)) (σ : fS) (hu : 0 ≤ σ.1 0 21 ∧ σ.1 0 21 ≤ 100000) (hl : σ.1 0 20 ≤ 12000 ∨ σ.1 0 20 ≤ σ.1 0 21) (hl2 : -2147483648 ≤ σ.1 0 20 ∧ σ.1 0 20 ≤ 2147483647) (hul : σ.1 0 21 ≤ 12000) (h7 : ∀ i, -128 ≤ σ.2 7 i ∧ σ.2 7 i ≤ 127) : f_M l (mG xCl D cA ad) mE yM_takesNumber (Cond.code yM_takesNumber cM_takesNumber 2 (some .boolean) :: A9) 0 σ [.ref (ad 0)] (f_QI (fun r σ1 => m_scr σ σ1 ∧ σ1.1 0 20 = σ.1 0 20 ∧ σ1.1 0 22 = (p_num (σ.2 7) (σ.1 0 20) (σ.1 0 21)).1 ∧ σ1.1 0 21 = (p_num (σ.2 7) (σ.1 0 20) (σ.1 0 21)).2 ∧ σ1.1 0 26 = σ.1 0 26 ∧ σ1.1 0 27 = σ.1 0 27 ∧ ((p_nok (σ.2 7) (σ.1 0 20) (σ.1 0 21) ∧ r = 1) ∨ (¬ p_nok (σ.2 7) (σ.1 0 20) (σ.1 0 21) ∧ r = 0))) (mG xCl D cA ad)) := by
  refine f_enter (by decide +kernel) hJ rfl (Nat.le_of_ble_eq_true rfl) ?_
  intro z hzl hR C hRt hLk hEz
  subst hzl
  have hpl := p_num_le (σ.2 7) (σ.1 0 20) (σ.1 0 21)
  have L : ∀ (k : Nat) (p v : Int), σ.1 0 21 ≤ p → p + k = σ.1 0 21 + 5 → (p ≤ σ.1 0 20 ∨ p = σ.1 0 21) → 0 ≤ v → v + 1 ≤ 10 ^ (5 - k) → numF (σ.2 7) (σ.1 0 20) k p v = p_num (σ.2 7) (σ.1 0 20) (σ.1 0 21) → fv z (mG xCl D cA ad) 2 (f_R z (mG xCl D cA ad) (f_QI (fun r σ1 => m_scr σ σ1 ∧ σ1.1 0 20 = σ.1 0 20 ∧ σ1.1 0 22 = (p_num (σ.2 7) (σ.1 0 20) (σ.1 0 21)).1 ∧ σ1.1 0 21 = (p_num (σ.2 7) (σ.1 0 20) (σ.1 0 21)).2 ∧ σ1.1 0 26 = σ.1 0 26 ∧ σ1.1 0 27 = σ.1 0 27 ∧ ((p_nok (σ.2 7) (σ.1 0 20) (σ.1 0 21) ∧ r = 1) ∨ (¬ p_nok (σ.2 7) (σ.1 0 20) (σ.1 0 21) ∧ r = 0))) (mG xCl D cA ad))) 0 0 (m_nc σ v p) 10 [some (.ref (ad 0)), some (.int (fI (σ.1 0 21)))] [] := by
    intro k
    induction k with
    | zero =>
      intro p v hp hk hle hv0 hv1 hE
      have hb := h7 p.toNat
      have hb0 := h7 (σ.1 0 21).toNat
      have hE1 : (v, p) = p_num (σ.2 7) (σ.1 0 20) (σ.1 0 21) := hE
      have hE3 := congrArg Prod.fst hE1
      have hE4 := congrArg Prod.snd hE1
      dsimp only at hE3 hE4
      refine v_aload_n C dM_takesNumber_10 rfl rfl ?_
      refine v_getI (k := 0) (q := 21) (v := p) C dM_takesNumber_11 (by show (0 : Nat) < 18; decide) rfl rfl (by decide) rfl inM lM_141 rfl rfl ?_
      refine v_aload_n C dM_takesNumber_14 rfl rfl ?_
      refine v_getI (k := 0) (q := 20) (v := σ.1 0 20) C dM_takesNumber_15 (by show (0 : Nat) < 18; decide) rfl rfl (by decide) rfl inM lM_144 rfl rfl ?_
      refine v_icmp_ge (tgt := 96) C dM_takesNumber_18 (by decide) (by omega) (by omega) (fun hc1 => ?_) (fun hc1 => ?_)
      · have hve : v = (p_num (σ.2 7) (σ.1 0 20) (σ.1 0 21)).1 := by first | exact hE3 | exact hE2.elim (fun h => absurd h.1 (by omega)) (fun h => h.2.1)
        have hpe : p = (p_num (σ.2 7) (σ.1 0 20) (σ.1 0 21)).2 := by first | exact hE4 | exact hE2.elim (fun h => absurd h.1 (by omega)) (fun h => h.2.2)
        refine v_aload_n C dM_takesNumber_96 rfl rfl ?_
        refine v_getI (k := 0) (q := 21) (v := p) C dM_takesNumber_97 (by show (0 : Nat) < 18; decide) rfl rfl (by decide) rfl inM lM_141 rfl rfl ?_
        refine v_iload_n C dM_takesNumber_100 rfl rfl ?_
        refine v_icmp_le (tgt := 129) C dM_takesNumber_101 (by decide) (by omega) (by omega) (fun hc2 => ?_) (fun hc2 => ?_)
        · refine v_iconst C dM_takesNumber_129 ?_
          exact v_zret C hRt hLk dM_takesNumber_130 (fN_bool (by omega)) ⟨m_scr_p (m_scr_p (m_scr_rf σ) 22 v (by decide)) 21 p (by decide), rfl, hve, hpe, rfl, rfl, by unfold p_nok; rw [← hpe]; first | exact Or.inl ⟨by omega, rfl⟩ | exact Or.inr ⟨by omega, rfl⟩⟩
        · refine v_aload_n C dM_takesNumber_104 rfl rfl ?_
          refine v_getI (k := 0) (q := 21) (v := p) C dM_takesNumber_105 (by show (0 : Nat) < 18; decide) rfl rfl (by decide) rfl inM lM_141 rfl rfl ?_
          refine v_iload_n C dM_takesNumber_108 rfl rfl ?_
          refine v_isub C dM_takesNumber_109 ?_
          refine v_iconst C dM_takesNumber_110 ?_
          refine v_icmp_eq (tgt := 125) C dM_takesNumber_111 (by decide) (by omega) (by omega) (fun hc3 => ?_) (fun hc3 => ?_)
          · refine v_iconst C dM_takesNumber_125 ?_
            refine v_goto (tgt := 130) C dM_takesNumber_126 (by decide) ?_
            exact v_zret C hRt hLk dM_takesNumber_130 (fN_bool (by omega)) ⟨m_scr_p (m_scr_p (m_scr_rf σ) 22 v (by decide)) 21 p (by decide), rfl, hve, hpe, rfl, rfl, by unfold p_nok; rw [← hpe]; first | exact Or.inl ⟨by omega, rfl⟩ | exact Or.inr ⟨by omega, rfl⟩⟩
          · refine v_aload_n C dM_takesNumber_114 rfl rfl ?_
            refine v_getR (k := 0) (q := 8) C dM_takesNumber_115 (by show (0 : Nat) < 18; decide) rfl rfl (by decide) rfl inM lM_30 rfl ?_
            refine v_iload_n C dM_takesNumber_118 rfl rfl ?_
            have hb4 := h7 (σ.1 0 21).toNat
            refine v_bald (k := 7) (v := σ.2 7 (σ.1 0 21).toNat) C dM_takesNumber_119 (by show (7 : Nat) < 18; decide) rfl rfl (by omega) (by decide) rfl ?_
            refine v_bipush C dM_takesNumber_120 (by decide +kernel) ?_
            refine v_icmp_eq (tgt := 129) C dM_takesNumber_122 (by decide) (by omega) (by omega) (fun hc5 => ?_) (fun hc5 => ?_)
            · refine v_iconst C dM_takesNumber_129 ?_
              exact v_zret C hRt hLk dM_takesNumber_130 (fN_bool (by omega)) ⟨m_scr_p (m_scr_p (m_scr_rf σ) 22 v (by decide)) 21 p (by decide), rfl, hve, hpe, rfl, rfl, by unfold p_nok; rw [← hpe]; first | exact Or.inl ⟨by omega, rfl⟩ | exact Or.inr ⟨by omega, rfl⟩⟩
            · refine v_iconst C dM_takesNumber_125 ?_
              refine v_goto (tgt := 130) C dM_takesNumber_126 (by decide) ?_
              exact v_zret C hRt hLk dM_takesNumber_130 (fN_bool (by omega)) ⟨m_scr_p (m_scr_p (m_scr_rf σ) 22 v (by decide)) 21 p (by decide), rfl, hve, hpe, rfl, rfl, by unfold p_nok; rw [← hpe]; first | exact Or.inl ⟨by omega, rfl⟩ | exact Or.inr ⟨by omega, rfl⟩⟩
      · refine v_aload_n C dM_takesNumber_21 rfl rfl ?_
        refine v_getR (k := 0) (q := 8) C dM_takesNumber_22 (by show (0 : Nat) < 18; decide) rfl rfl (by decide) rfl inM lM_30 rfl ?_
        refine v_aload_n C dM_takesNumber_25 rfl rfl ?_
        refine v_getI (k := 0) (q := 21) (v := p) C dM_takesNumber_26 (by show (0 : Nat) < 18; decide) rfl rfl (by decide) rfl inM lM_141 rfl rfl ?_
        have hb6 := h7 (p).toNat
        refine v_bald (k := 7) (v := σ.2 7 (p).toNat) C dM_takesNumber_29 (by show (7 : Nat) < 18; decide) rfl rfl (by omega) (by decide) rfl ?_
        refine v_bipush C dM_takesNumber_30 (by decide +kernel) ?_
        refine v_icmp_lt (tgt := 96) C dM_takesNumber_32 (by decide) (by omega) (by omega) (fun hc7 => ?_) (fun hc7 => ?_)
        · have hve : v = (p_num (σ.2 7) (σ.1 0 20) (σ.1 0 21)).1 := by first | exact hE3 | exact hE2.elim (fun h => absurd h.1 (by omega)) (fun h => h.2.1)
          have hpe : p = (p_num (σ.2 7) (σ.1 0 20) (σ.1 0 21)).2 := by first | exact hE4 | exact hE2.elim (fun h => absurd h.1 (by omega)) (fun h => h.2.2)
          refine v_aload_n C dM_takesNumber_96 rfl rfl ?_
          refine v_getI (k := 0) (q := 21) (v := p) C dM_takesNumber_97 (by show (0 : Nat) < 18; decide) rfl rfl (by decide) rfl inM lM_141 rfl rfl ?_
          refine v_iload_n C dM_takesNumber_100 rfl rfl ?_
          refine v_icmp_le (tgt := 129) C dM_takesNumber_101 (by decide) (by omega) (by omega) (fun hc8 => ?_) (fun hc8 => ?_)
          · refine v_iconst C dM_takesNumber_129 ?_
            exact v_zret C hRt hLk dM_takesNumber_130 (fN_bool (by omega)) ⟨m_scr_p (m_scr_p (m_scr_rf σ) 22 v (by decide)) 21 p (by decide), rfl, hve, hpe, rfl, rfl, by unfold p_nok; rw [← hpe]; first | exact Or.inl ⟨by omega, rfl⟩ | exact Or.inr ⟨by omega, rfl⟩⟩
          · refine v_aload_n C dM_takesNumber_104 rfl rfl ?_
            refine v_getI (k := 0) (q := 21) (v := p) C dM_takesNumber_105 (by show (0 : Nat) < 18; decide) rfl rfl (by decide) rfl inM lM_141 rfl rfl ?_
            refine v_iload_n C dM_takesNumber_108 rfl rfl ?_
            refine v_isub C dM_takesNumber_109 ?_
            refine v_iconst C dM_takesNumber_110 ?_
            refine v_icmp_eq (tgt := 125) C dM_takesNumber_111 (by decide) (by omega) (by omega) (fun hc9 => ?_) (fun hc9 => ?_)
            · refine v_iconst C dM_takesNumber_125 ?_
              refine v_goto (tgt := 130) C dM_takesNumber_126 (by decide) ?_
              exact v_zret C hRt hLk dM_takesNumber_130 (fN_bool (by omega)) ⟨m_scr_p (m_scr_p (m_scr_rf σ) 22 v (by decide)) 21 p (by decide), rfl, hve, hpe, rfl, rfl, by unfold p_nok; rw [← hpe]; first | exact Or.inl ⟨by omega, rfl⟩ | exact Or.inr ⟨by omega, rfl⟩⟩
            · refine v_aload_n C dM_takesNumber_114 rfl rfl ?_
              refine v_getR (k := 0) (q := 8) C dM_takesNumber_115 (by show (0 : Nat) < 18; decide) rfl rfl (by decide) rfl inM lM_30 rfl ?_
              refine v_iload_n C dM_takesNumber_118 rfl rfl ?_
              have hb10 := h7 (σ.1 0 21).toNat
              refine v_bald (k := 7) (v := σ.2 7 (σ.1 0 21).toNat) C dM_takesNumber_119 (by show (7 : Nat) < 18; decide) rfl rfl (by omega) (by decide) rfl ?_
              refine v_bipush C dM_takesNumber_120 (by decide +kernel) ?_
              refine v_icmp_eq (tgt := 129) C dM_takesNumber_122 (by decide) (by omega) (by omega) (fun hc11 => ?_) (fun hc11 => ?_)
              · refine v_iconst C dM_takesNumber_129 ?_
                exact v_zret C hRt hLk dM_takesNumber_130 (fN_bool (by omega)) ⟨m_scr_p (m_scr_p (m_scr_rf σ) 22 v (by decide)) 21 p (by decide), rfl, hve, hpe, rfl, rfl, by unfold p_nok; rw [← hpe]; first | exact Or.inl ⟨by omega, rfl⟩ | exact Or.inr ⟨by omega, rfl⟩⟩
              · refine v_iconst C dM_takesNumber_125 ?_
                refine v_goto (tgt := 130) C dM_takesNumber_126 (by decide) ?_
                exact v_zret C hRt hLk dM_takesNumber_130 (fN_bool (by omega)) ⟨m_scr_p (m_scr_p (m_scr_rf σ) 22 v (by decide)) 21 p (by decide), rfl, hve, hpe, rfl, rfl, by unfold p_nok; rw [← hpe]; first | exact Or.inl ⟨by omega, rfl⟩ | exact Or.inr ⟨by omega, rfl⟩⟩
        · refine v_aload_n C dM_takesNumber_35 rfl rfl ?_
          refine v_getR (k := 0) (q := 8) C dM_takesNumber_36 (by show (0 : Nat) < 18; decide) rfl rfl (by decide) rfl inM lM_30 rfl ?_
          refine v_aload_n C dM_takesNumber_39 rfl rfl ?_
          refine v_getI (k := 0) (q := 21) (v := p) C dM_takesNumber_40 (by show (0 : Nat) < 18; decide) rfl rfl (by decide) rfl inM lM_141 rfl rfl ?_
          have hb12 := h7 (p).toNat
          refine v_bald (k := 7) (v := σ.2 7 (p).toNat) C dM_takesNumber_43 (by show (7 : Nat) < 18; decide) rfl rfl (by omega) (by decide) rfl ?_
          refine v_bipush C dM_takesNumber_44 (by decide +kernel) ?_
          refine v_icmp_gt (tgt := 96) C dM_takesNumber_46 (by decide) (by omega) (by omega) (fun hc13 => ?_) (fun hc13 => ?_)
          · have hve : v = (p_num (σ.2 7) (σ.1 0 20) (σ.1 0 21)).1 := by first | exact hE3 | exact hE2.elim (fun h => absurd h.1 (by omega)) (fun h => h.2.1)
            have hpe : p = (p_num (σ.2 7) (σ.1 0 20) (σ.1 0 21)).2 := by first | exact hE4 | exact hE2.elim (fun h => absurd h.1 (by omega)) (fun h => h.2.2)
            refine v_aload_n C dM_takesNumber_96 rfl rfl ?_
            refine v_getI (k := 0) (q := 21) (v := p) C dM_takesNumber_97 (by show (0 : Nat) < 18; decide) rfl rfl (by decide) rfl inM lM_141 rfl rfl ?_
            refine v_iload_n C dM_takesNumber_100 rfl rfl ?_
            refine v_icmp_le (tgt := 129) C dM_takesNumber_101 (by decide) (by omega) (by omega) (fun hc14 => ?_) (fun hc14 => ?_)
            · refine v_iconst C dM_takesNumber_129 ?_
              exact v_zret C hRt hLk dM_takesNumber_130 (fN_bool (by omega)) ⟨m_scr_p (m_scr_p (m_scr_rf σ) 22 v (by decide)) 21 p (by decide), rfl, hve, hpe, rfl, rfl, by unfold p_nok; rw [← hpe]; first | exact Or.inl ⟨by omega, rfl⟩ | exact Or.inr ⟨by omega, rfl⟩⟩
            · refine v_aload_n C dM_takesNumber_104 rfl rfl ?_
              refine v_getI (k := 0) (q := 21) (v := p) C dM_takesNumber_105 (by show (0 : Nat) < 18; decide) rfl rfl (by decide) rfl inM lM_141 rfl rfl ?_
              refine v_iload_n C dM_takesNumber_108 rfl rfl ?_
              refine v_isub C dM_takesNumber_109 ?_
              refine v_iconst C dM_takesNumber_110 ?_
              refine v_icmp_eq (tgt := 125) C dM_takesNumber_111 (by decide) (by omega) (by omega) (fun hc15 => ?_) (fun hc15 => ?_)
              · refine v_iconst C dM_takesNumber_125 ?_
                refine v_goto (tgt := 130) C dM_takesNumber_126 (by decide) ?_
                exact v_zret C hRt hLk dM_takesNumber_130 (fN_bool (by omega)) ⟨m_scr_p (m_scr_p (m_scr_rf σ) 22 v (by decide)) 21 p (by decide), rfl, hve, hpe, rfl, rfl, by unfold p_nok; rw [← hpe]; first | exact Or.inl ⟨by omega, rfl⟩ | exact Or.inr ⟨by omega, rfl⟩⟩
              · refine v_aload_n C dM_takesNumber_114 rfl rfl ?_
                refine v_getR (k := 0) (q := 8) C dM_takesNumber_115 (by show (0 : Nat) < 18; decide) rfl rfl (by decide) rfl inM lM_30 rfl ?_
                refine v_iload_n C dM_takesNumber_118 rfl rfl ?_
                have hb16 := h7 (σ.1 0 21).toNat
                refine v_bald (k := 7) (v := σ.2 7 (σ.1 0 21).toNat) C dM_takesNumber_119 (by show (7 : Nat) < 18; decide) rfl rfl (by omega) (by decide) rfl ?_
                refine v_bipush C dM_takesNumber_120 (by decide +kernel) ?_
                refine v_icmp_eq (tgt := 129) C dM_takesNumber_122 (by decide) (by omega) (by omega) (fun hc17 => ?_) (fun hc17 => ?_)
                · refine v_iconst C dM_takesNumber_129 ?_
                  exact v_zret C hRt hLk dM_takesNumber_130 (fN_bool (by omega)) ⟨m_scr_p (m_scr_p (m_scr_rf σ) 22 v (by decide)) 21 p (by decide), rfl, hve, hpe, rfl, rfl, by unfold p_nok; rw [← hpe]; first | exact Or.inl ⟨by omega, rfl⟩ | exact Or.inr ⟨by omega, rfl⟩⟩
                · refine v_iconst C dM_takesNumber_125 ?_
                  refine v_goto (tgt := 130) C dM_takesNumber_126 (by decide) ?_
                  exact v_zret C hRt hLk dM_takesNumber_130 (fN_bool (by omega)) ⟨m_scr_p (m_scr_p (m_scr_rf σ) 22 v (by decide)) 21 p (by decide), rfl, hve, hpe, rfl, rfl, by unfold p_nok; rw [← hpe]; first | exact Or.inl ⟨by omega, rfl⟩ | exact Or.inr ⟨by omega, rfl⟩⟩
          · refine v_aload_n C dM_takesNumber_49 rfl rfl ?_
            refine v_getI (k := 0) (q := 21) (v := p) C dM_takesNumber_50 (by show (0 : Nat) < 18; decide) rfl rfl (by decide) rfl inM lM_141 rfl rfl ?_
            refine v_iload_n C dM_takesNumber_53 rfl rfl ?_
            refine v_isub C dM_takesNumber_54 ?_
            refine v_iconst C dM_takesNumber_55 ?_
            refine v_icmp_ge (tgt := 96) C dM_takesNumber_56 (by decide) (by omega) (by omega) (fun hc18 => ?_) (fun hc18 => ?_)
            · have hve : v = (p_num (σ.2 7) (σ.1 0 20) (σ.1 0 21)).1 := by first | exact hE3 | exact hE2.elim (fun h => absurd h.1 (by omega)) (fun h => h.2.1)
              have hpe : p = (p_num (σ.2 7) (σ.1 0 20) (σ.1 0 21)).2 := by first | exact hE4 | exact hE2.elim (fun h => absurd h.1 (by omega)) (fun h => h.2.2)
              refine v_aload_n C dM_takesNumber_96 rfl rfl ?_
              refine v_getI (k := 0) (q := 21) (v := p) C dM_takesNumber_97 (by show (0 : Nat) < 18; decide) rfl rfl (by decide) rfl inM lM_141 rfl rfl ?_
              refine v_iload_n C dM_takesNumber_100 rfl rfl ?_
              refine v_icmp_le (tgt := 129) C dM_takesNumber_101 (by decide) (by omega) (by omega) (fun hc19 => ?_) (fun hc19 => ?_)
              · refine v_iconst C dM_takesNumber_129 ?_
                exact v_zret C hRt hLk dM_takesNumber_130 (fN_bool (by omega)) ⟨m_scr_p (m_scr_p (m_scr_rf σ) 22 v (by decide)) 21 p (by decide), rfl, hve, hpe, rfl, rfl, by unfold p_nok; rw [← hpe]; first | exact Or.inl ⟨by omega, rfl⟩ | exact Or.inr ⟨by omega, rfl⟩⟩
              · refine v_aload_n C dM_takesNumber_104 rfl rfl ?_
                refine v_getI (k := 0) (q := 21) (v := p) C dM_takesNumber_105 (by show (0 : Nat) < 18; decide) rfl rfl (by decide) rfl inM lM_141 rfl rfl ?_
                refine v_iload_n C dM_takesNumber_108 rfl rfl ?_
                refine v_isub C dM_takesNumber_109 ?_
                refine v_iconst C dM_takesNumber_110 ?_
                refine v_icmp_eq (tgt := 125) C dM_takesNumber_111 (by decide) (by omega) (by omega) (fun hc20 => ?_) (fun hc20 => ?_)
                · refine v_iconst C dM_takesNumber_125 ?_
                  refine v_goto (tgt := 130) C dM_takesNumber_126 (by decide) ?_
                  exact v_zret C hRt hLk dM_takesNumber_130 (fN_bool (by omega)) ⟨m_scr_p (m_scr_p (m_scr_rf σ) 22 v (by decide)) 21 p (by decide), rfl, hve, hpe, rfl, rfl, by unfold p_nok; rw [← hpe]; first | exact Or.inl ⟨by omega, rfl⟩ | exact Or.inr ⟨by omega, rfl⟩⟩
                · refine v_aload_n C dM_takesNumber_114 rfl rfl ?_
                  refine v_getR (k := 0) (q := 8) C dM_takesNumber_115 (by show (0 : Nat) < 18; decide) rfl rfl (by decide) rfl inM lM_30 rfl ?_
                  refine v_iload_n C dM_takesNumber_118 rfl rfl ?_
                  have hb21 := h7 (σ.1 0 21).toNat
                  refine v_bald (k := 7) (v := σ.2 7 (σ.1 0 21).toNat) C dM_takesNumber_119 (by show (7 : Nat) < 18; decide) rfl rfl (by omega) (by decide) rfl ?_
                  refine v_bipush C dM_takesNumber_120 (by decide +kernel) ?_
                  refine v_icmp_eq (tgt := 129) C dM_takesNumber_122 (by decide) (by omega) (by omega) (fun hc22 => ?_) (fun hc22 => ?_)
                  · refine v_iconst C dM_takesNumber_129 ?_
                    exact v_zret C hRt hLk dM_takesNumber_130 (fN_bool (by omega)) ⟨m_scr_p (m_scr_p (m_scr_rf σ) 22 v (by decide)) 21 p (by decide), rfl, hve, hpe, rfl, rfl, by unfold p_nok; rw [← hpe]; first | exact Or.inl ⟨by omega, rfl⟩ | exact Or.inr ⟨by omega, rfl⟩⟩
                  · refine v_iconst C dM_takesNumber_125 ?_
                    refine v_goto (tgt := 130) C dM_takesNumber_126 (by decide) ?_
                    exact v_zret C hRt hLk dM_takesNumber_130 (fN_bool (by omega)) ⟨m_scr_p (m_scr_p (m_scr_rf σ) 22 v (by decide)) 21 p (by decide), rfl, hve, hpe, rfl, rfl, by unfold p_nok; rw [← hpe]; first | exact Or.inl ⟨by omega, rfl⟩ | exact Or.inr ⟨by omega, rfl⟩⟩
            · exfalso; omega
    | succ k ih =>
      intro p v hp hk hle hv0 hv1 hE
      have hb := h7 p.toNat
      have hb0 := h7 (σ.1 0 21).toNat
      unfold numF at hE
      have h10 : (10 : Int) ^ (5 - k) = 10 ^ (5 - (k + 1)) * 10 := by rw [← Int.pow_succ]; congr 1; omega
      have hE2 : ((p < σ.1 0 20 ∧ 48 ≤ σ.2 7 p.toNat ∧ σ.2 7 p.toNat ≤ 57) ∧ numF (σ.2 7) (σ.1 0 20) k (p + 1) (10 * v + σ.2 7 p.toNat - 48) = p_num (σ.2 7) (σ.1 0 20) (σ.1 0 21)) ∨ (¬ (p < σ.1 0 20 ∧ 48 ≤ σ.2 7 p.toNat ∧ σ.2 7 p.toNat ≤ 57) ∧ v = (p_num (σ.2 7) (σ.1 0 20) (σ.1 0 21)).1 ∧ p = (p_num (σ.2 7) (σ.1 0 20) (σ.1 0 21)).2) := by
        by_cases h9 : p < σ.1 0 20 ∧ 48 ≤ σ.2 7 p.toNat ∧ σ.2 7 p.toNat ≤ 57
        · rw [if_pos h9] at hE; exact Or.inl ⟨h9, hE⟩
        · rw [if_neg h9] at hE; exact Or.inr ⟨h9, congrArg Prod.fst hE, congrArg Prod.snd hE⟩
      refine v_aload_n C dM_takesNumber_10 rfl rfl ?_
      refine v_getI (k := 0) (q := 21) (v := p) C dM_takesNumber_11 (by show (0 : Nat) < 18; decide) rfl rfl (by decide) rfl inM lM_141 rfl rfl ?_
      refine v_aload_n C dM_takesNumber_14 rfl rfl ?_
      refine v_getI (k := 0) (q := 20) (v := σ.1 0 20) C dM_takesNumber_15 (by show (0 : Nat) < 18; decide) rfl rfl (by decide) rfl inM lM_144 rfl rfl ?_
      refine v_icmp_ge (tgt := 96) C dM_takesNumber_18 (by decide) (by omega) (by omega) (fun hc23 => ?_) (fun hc23 => ?_)
      · have hve : v = (p_num (σ.2 7) (σ.1 0 20) (σ.1 0 21)).1 := by first | exact hE3 | exact hE2.elim (fun h => absurd h.1 (by omega)) (fun h => h.2.1)
        have hpe : p = (p_num (σ.2 7) (σ.1 0 20) (σ.1 0 21)).2 := by first | exact hE4 | exact hE2.elim (fun h => absurd h.1 (by omega)) (fun h => h.2.2)
        refine v_aload_n C dM_takesNumber_96 rfl rfl ?_
        refine v_getI (k := 0) (q := 21) (v := p) C dM_takesNumber_97 (by show (0 : Nat) < 18; decide) rfl rfl (by decide) rfl inM lM_141 rfl rfl ?_
        refine v_iload_n C dM_takesNumber_100 rfl rfl ?_
        refine v_icmp_le (tgt := 129) C dM_takesNumber_101 (by decide) (by omega) (by omega) (fun hc24 => ?_) (fun hc24 => ?_)
        · refine v_iconst C dM_takesNumber_129 ?_
          exact v_zret C hRt hLk dM_takesNumber_130 (fN_bool (by omega)) ⟨m_scr_p (m_scr_p (m_scr_rf σ) 22 v (by decide)) 21 p (by decide), rfl, hve, hpe, rfl, rfl, by unfold p_nok; rw [← hpe]; first | exact Or.inl ⟨by omega, rfl⟩ | exact Or.inr ⟨by omega, rfl⟩⟩
        · refine v_aload_n C dM_takesNumber_104 rfl rfl ?_
          refine v_getI (k := 0) (q := 21) (v := p) C dM_takesNumber_105 (by show (0 : Nat) < 18; decide) rfl rfl (by decide) rfl inM lM_141 rfl rfl ?_
          refine v_iload_n C dM_takesNumber_108 rfl rfl ?_
          refine v_isub C dM_takesNumber_109 ?_
          refine v_iconst C dM_takesNumber_110 ?_
          refine v_icmp_eq (tgt := 125) C dM_takesNumber_111 (by decide) (by omega) (by omega) (fun hc25 => ?_) (fun hc25 => ?_)
          · refine v_iconst C dM_takesNumber_125 ?_
            refine v_goto (tgt := 130) C dM_takesNumber_126 (by decide) ?_
            exact v_zret C hRt hLk dM_takesNumber_130 (fN_bool (by omega)) ⟨m_scr_p (m_scr_p (m_scr_rf σ) 22 v (by decide)) 21 p (by decide), rfl, hve, hpe, rfl, rfl, by unfold p_nok; rw [← hpe]; first | exact Or.inl ⟨by omega, rfl⟩ | exact Or.inr ⟨by omega, rfl⟩⟩
          · refine v_aload_n C dM_takesNumber_114 rfl rfl ?_
            refine v_getR (k := 0) (q := 8) C dM_takesNumber_115 (by show (0 : Nat) < 18; decide) rfl rfl (by decide) rfl inM lM_30 rfl ?_
            refine v_iload_n C dM_takesNumber_118 rfl rfl ?_
            have hb26 := h7 (σ.1 0 21).toNat
            refine v_bald (k := 7) (v := σ.2 7 (σ.1 0 21).toNat) C dM_takesNumber_119 (by show (7 : Nat) < 18; decide) rfl rfl (by omega) (by decide) rfl ?_
            refine v_bipush C dM_takesNumber_120 (by decide +kernel) ?_
            refine v_icmp_eq (tgt := 129) C dM_takesNumber_122 (by decide) (by omega) (by omega) (fun hc27 => ?_) (fun hc27 => ?_)
            · refine v_iconst C dM_takesNumber_129 ?_
              exact v_zret C hRt hLk dM_takesNumber_130 (fN_bool (by omega)) ⟨m_scr_p (m_scr_p (m_scr_rf σ) 22 v (by decide)) 21 p (by decide), rfl, hve, hpe, rfl, rfl, by unfold p_nok; rw [← hpe]; first | exact Or.inl ⟨by omega, rfl⟩ | exact Or.inr ⟨by omega, rfl⟩⟩
            · refine v_iconst C dM_takesNumber_125 ?_
              refine v_goto (tgt := 130) C dM_takesNumber_126 (by decide) ?_
              exact v_zret C hRt hLk dM_takesNumber_130 (fN_bool (by omega)) ⟨m_scr_p (m_scr_p (m_scr_rf σ) 22 v (by decide)) 21 p (by decide), rfl, hve, hpe, rfl, rfl, by unfold p_nok; rw [← hpe]; first | exact Or.inl ⟨by omega, rfl⟩ | exact Or.inr ⟨by omega, rfl⟩⟩
      · refine v_aload_n C dM_takesNumber_21 rfl rfl ?_
        refine v_getR (k := 0) (q := 8) C dM_takesNumber_22 (by show (0 : Nat) < 18; decide) rfl rfl (by decide) rfl inM lM_30 rfl ?_
        refine v_aload_n C dM_takesNumber_25 rfl rfl ?_
        refine v_getI (k := 0) (q := 21) (v := p) C dM_takesNumber_26 (by show (0 : Nat) < 18; decide) rfl rfl (by decide) rfl inM lM_141 rfl rfl ?_
        have hb28 := h7 (p).toNat
        refine v_bald (k := 7) (v := σ.2 7 (p).toNat) C dM_takesNumber_29 (by show (7 : Nat) < 18; decide) rfl rfl (by omega) (by decide) rfl ?_
        refine v_bipush C dM_takesNumber_30 (by decide +kernel) ?_
        refine v_icmp_lt (tgt := 96) C dM_takesNumber_32 (by decide) (by omega) (by omega) (fun hc29 => ?_) (fun hc29 => ?_)
        · have hve : v = (p_num (σ.2 7) (σ.1 0 20) (σ.1 0 21)).1 := by first | exact hE3 | exact hE2.elim (fun h => absurd h.1 (by omega)) (fun h => h.2.1)
          have hpe : p = (p_num (σ.2 7) (σ.1 0 20) (σ.1 0 21)).2 := by first | exact hE4 | exact hE2.elim (fun h => absurd h.1 (by omega)) (fun h => h.2.2)
          refine v_aload_n C dM_takesNumber_96 rfl rfl ?_
          refine v_getI (k := 0) (q := 21) (v := p) C dM_takesNumber_97 (by show (0 : Nat) < 18; decide) rfl rfl (by decide) rfl inM lM_141 rfl rfl ?_
          refine v_iload_n C dM_takesNumber_100 rfl rfl ?_
          refine v_icmp_le (tgt := 129) C dM_takesNumber_101 (by decide) (by omega) (by omega) (fun hc30 => ?_) (fun hc30 => ?_)
          · refine v_iconst C dM_takesNumber_129 ?_
            exact v_zret C hRt hLk dM_takesNumber_130 (fN_bool (by omega)) ⟨m_scr_p (m_scr_p (m_scr_rf σ) 22 v (by decide)) 21 p (by decide), rfl, hve, hpe, rfl, rfl, by unfold p_nok; rw [← hpe]; first | exact Or.inl ⟨by omega, rfl⟩ | exact Or.inr ⟨by omega, rfl⟩⟩
          · refine v_aload_n C dM_takesNumber_104 rfl rfl ?_
            refine v_getI (k := 0) (q := 21) (v := p) C dM_takesNumber_105 (by show (0 : Nat) < 18; decide) rfl rfl (by decide) rfl inM lM_141 rfl rfl ?_
            refine v_iload_n C dM_takesNumber_108 rfl rfl ?_
            refine v_isub C dM_takesNumber_109 ?_
            refine v_iconst C dM_takesNumber_110 ?_
            refine v_icmp_eq (tgt := 125) C dM_takesNumber_111 (by decide) (by omega) (by omega) (fun hc31 => ?_) (fun hc31 => ?_)
            · refine v_iconst C dM_takesNumber_125 ?_
              refine v_goto (tgt := 130) C dM_takesNumber_126 (by decide) ?_
              exact v_zret C hRt hLk dM_takesNumber_130 (fN_bool (by omega)) ⟨m_scr_p (m_scr_p (m_scr_rf σ) 22 v (by decide)) 21 p (by decide), rfl, hve, hpe, rfl, rfl, by unfold p_nok; rw [← hpe]; first | exact Or.inl ⟨by omega, rfl⟩ | exact Or.inr ⟨by omega, rfl⟩⟩
            · refine v_aload_n C dM_takesNumber_114 rfl rfl ?_
              refine v_getR (k := 0) (q := 8) C dM_takesNumber_115 (by show (0 : Nat) < 18; decide) rfl rfl (by decide) rfl inM lM_30 rfl ?_
              refine v_iload_n C dM_takesNumber_118 rfl rfl ?_
              have hb32 := h7 (σ.1 0 21).toNat
              refine v_bald (k := 7) (v := σ.2 7 (σ.1 0 21).toNat) C dM_takesNumber_119 (by show (7 : Nat) < 18; decide) rfl rfl (by omega) (by decide) rfl ?_
              refine v_bipush C dM_takesNumber_120 (by decide +kernel) ?_
              refine v_icmp_eq (tgt := 129) C dM_takesNumber_122 (by decide) (by omega) (by omega) (fun hc33 => ?_) (fun hc33 => ?_)
              · refine v_iconst C dM_takesNumber_129 ?_
                exact v_zret C hRt hLk dM_takesNumber_130 (fN_bool (by omega)) ⟨m_scr_p (m_scr_p (m_scr_rf σ) 22 v (by decide)) 21 p (by decide), rfl, hve, hpe, rfl, rfl, by unfold p_nok; rw [← hpe]; first | exact Or.inl ⟨by omega, rfl⟩ | exact Or.inr ⟨by omega, rfl⟩⟩
              · refine v_iconst C dM_takesNumber_125 ?_
                refine v_goto (tgt := 130) C dM_takesNumber_126 (by decide) ?_
                exact v_zret C hRt hLk dM_takesNumber_130 (fN_bool (by omega)) ⟨m_scr_p (m_scr_p (m_scr_rf σ) 22 v (by decide)) 21 p (by decide), rfl, hve, hpe, rfl, rfl, by unfold p_nok; rw [← hpe]; first | exact Or.inl ⟨by omega, rfl⟩ | exact Or.inr ⟨by omega, rfl⟩⟩
        · refine v_aload_n C dM_takesNumber_35 rfl rfl ?_
          refine v_getR (k := 0) (q := 8) C dM_takesNumber_36 (by show (0 : Nat) < 18; decide) rfl rfl (by decide) rfl inM lM_30 rfl ?_
          refine v_aload_n C dM_takesNumber_39 rfl rfl ?_
          refine v_getI (k := 0) (q := 21) (v := p) C dM_takesNumber_40 (by show (0 : Nat) < 18; decide) rfl rfl (by decide) rfl inM lM_141 rfl rfl ?_
          have hb34 := h7 (p).toNat
          refine v_bald (k := 7) (v := σ.2 7 (p).toNat) C dM_takesNumber_43 (by show (7 : Nat) < 18; decide) rfl rfl (by omega) (by decide) rfl ?_
          refine v_bipush C dM_takesNumber_44 (by decide +kernel) ?_
          refine v_icmp_gt (tgt := 96) C dM_takesNumber_46 (by decide) (by omega) (by omega) (fun hc35 => ?_) (fun hc35 => ?_)
          · have hve : v = (p_num (σ.2 7) (σ.1 0 20) (σ.1 0 21)).1 := by first | exact hE3 | exact hE2.elim (fun h => absurd h.1 (by omega)) (fun h => h.2.1)
            have hpe : p = (p_num (σ.2 7) (σ.1 0 20) (σ.1 0 21)).2 := by first | exact hE4 | exact hE2.elim (fun h => absurd h.1 (by omega)) (fun h => h.2.2)
            refine v_aload_n C dM_takesNumber_96 rfl rfl ?_
            refine v_getI (k := 0) (q := 21) (v := p) C dM_takesNumber_97 (by show (0 : Nat) < 18; decide) rfl rfl (by decide) rfl inM lM_141 rfl rfl ?_
            refine v_iload_n C dM_takesNumber_100 rfl rfl ?_
            refine v_icmp_le (tgt := 129) C dM_takesNumber_101 (by decide) (by omega) (by omega) (fun hc36 => ?_) (fun hc36 => ?_)
            · refine v_iconst C dM_takesNumber_129 ?_
              exact v_zret C hRt hLk dM_takesNumber_130 (fN_bool (by omega)) ⟨m_scr_p (m_scr_p (m_scr_rf σ) 22 v (by decide)) 21 p (by decide), rfl, hve, hpe, rfl, rfl, by unfold p_nok; rw [← hpe]; first | exact Or.inl ⟨by omega, rfl⟩ | exact Or.inr ⟨by omega, rfl⟩⟩
            · refine v_aload_n C dM_takesNumber_104 rfl rfl ?_
              refine v_getI (k := 0) (q := 21) (v := p) C dM_takesNumber_105 (by show (0 : Nat) < 18; decide) rfl rfl (by decide) rfl inM lM_141 rfl rfl ?_
              refine v_iload_n C dM_takesNumber_108 rfl rfl ?_
              refine v_isub C dM_takesNumber_109 ?_
              refine v_iconst C dM_takesNumber_110 ?_
              refine v_icmp_eq (tgt := 125) C dM_takesNumber_111 (by decide) (by omega) (by omega) (fun hc37 => ?_) (fun hc37 => ?_)
              · refine v_iconst C dM_takesNumber_125 ?_
                refine v_goto (tgt := 130) C dM_takesNumber_126 (by decide) ?_
                exact v_zret C hRt hLk dM_takesNumber_130 (fN_bool (by omega)) ⟨m_scr_p (m_scr_p (m_scr_rf σ) 22 v (by decide)) 21 p (by decide), rfl, hve, hpe, rfl, rfl, by unfold p_nok; rw [← hpe]; first | exact Or.inl ⟨by omega, rfl⟩ | exact Or.inr ⟨by omega, rfl⟩⟩
              · refine v_aload_n C dM_takesNumber_114 rfl rfl ?_
                refine v_getR (k := 0) (q := 8) C dM_takesNumber_115 (by show (0 : Nat) < 18; decide) rfl rfl (by decide) rfl inM lM_30 rfl ?_
                refine v_iload_n C dM_takesNumber_118 rfl rfl ?_
                have hb38 := h7 (σ.1 0 21).toNat
                refine v_bald (k := 7) (v := σ.2 7 (σ.1 0 21).toNat) C dM_takesNumber_119 (by show (7 : Nat) < 18; decide) rfl rfl (by omega) (by decide) rfl ?_
                refine v_bipush C dM_takesNumber_120 (by decide +kernel) ?_
                refine v_icmp_eq (tgt := 129) C dM_takesNumber_122 (by decide) (by omega) (by omega) (fun hc39 => ?_) (fun hc39 => ?_)
                · refine v_iconst C dM_takesNumber_129 ?_
                  exact v_zret C hRt hLk dM_takesNumber_130 (fN_bool (by omega)) ⟨m_scr_p (m_scr_p (m_scr_rf σ) 22 v (by decide)) 21 p (by decide), rfl, hve, hpe, rfl, rfl, by unfold p_nok; rw [← hpe]; first | exact Or.inl ⟨by omega, rfl⟩ | exact Or.inr ⟨by omega, rfl⟩⟩
                · refine v_iconst C dM_takesNumber_125 ?_
                  refine v_goto (tgt := 130) C dM_takesNumber_126 (by decide) ?_
                  exact v_zret C hRt hLk dM_takesNumber_130 (fN_bool (by omega)) ⟨m_scr_p (m_scr_p (m_scr_rf σ) 22 v (by decide)) 21 p (by decide), rfl, hve, hpe, rfl, rfl, by unfold p_nok; rw [← hpe]; first | exact Or.inl ⟨by omega, rfl⟩ | exact Or.inr ⟨by omega, rfl⟩⟩
          · refine v_aload_n C dM_takesNumber_49 rfl rfl ?_
            refine v_getI (k := 0) (q := 21) (v := p) C dM_takesNumber_50 (by show (0 : Nat) < 18; decide) rfl rfl (by decide) rfl inM lM_141 rfl rfl ?_
            refine v_iload_n C dM_takesNumber_53 rfl rfl ?_
            refine v_isub C dM_takesNumber_54 ?_
            refine v_iconst C dM_takesNumber_55 ?_
            refine v_icmp_ge (tgt := 96) C dM_takesNumber_56 (by decide) (by omega) (by omega) (fun hc40 => ?_) (fun hc40 => ?_)
            · exfalso; omega
            · refine v_aload_n C dM_takesNumber_59 rfl rfl ?_
              refine v_bipush C dM_takesNumber_60 (by decide +kernel) ?_
              refine v_aload_n C dM_takesNumber_62 rfl rfl ?_
              refine v_getI (k := 0) (q := 22) (v := v) C dM_takesNumber_63 (by show (0 : Nat) < 18; decide) rfl rfl (by decide) rfl inM lM_147 rfl rfl ?_
              refine v_imul C dM_takesNumber_66 ?_
              refine v_aload_n C dM_takesNumber_67 rfl rfl ?_
              refine v_getR (k := 0) (q := 8) C dM_takesNumber_68 (by show (0 : Nat) < 18; decide) rfl rfl (by decide) rfl inM lM_30 rfl ?_
              refine v_aload_n C dM_takesNumber_71 rfl rfl ?_
              refine v_getI (k := 0) (q := 21) (v := p) C dM_takesNumber_72 (by show (0 : Nat) < 18; decide) rfl rfl (by decide) rfl inM lM_141 rfl rfl ?_
              have hb41 := h7 (p).toNat
              refine v_bald (k := 7) (v := σ.2 7 (p).toNat) C dM_takesNumber_75 (by show (7 : Nat) < 18; decide) rfl rfl (by omega) (by decide) rfl ?_
              refine v_iadd C dM_takesNumber_76 ?_
              refine v_bipush C dM_takesNumber_77 (by decide +kernel) ?_
              refine v_isub C dM_takesNumber_79 ?_
              refine v_putI (k := 0) (q := 22) C dM_takesNumber_80 (by show (0 : Nat) < 18; decide) rfl rfl (by decide) rfl inM tyM_ok nmM lM_147 rfl rfl rfl rfl rfl ?_
              refine v_aload_n C dM_takesNumber_83 rfl rfl ?_
              refine v_dup C dM_takesNumber_84 rfl ?_
              refine v_getI (k := 0) (q := 21) (v := p) C dM_takesNumber_85 (by show (0 : Nat) < 18; decide) rfl rfl (by decide) rfl inM lM_141 rfl rfl ?_
              refine v_iconst C dM_takesNumber_88 ?_
              refine v_iadd C dM_takesNumber_89 ?_
              refine v_putI (k := 0) (q := 21) C dM_takesNumber_90 (by show (0 : Nat) < 18; decide) rfl rfl (by decide) rfl inM tyM_ok nmM lM_141 rfl rfl rfl rfl rfl ?_
              refine v_goto (tgt := 10) C dM_takesNumber_93 (by decide) ?_
              exact v_st (m_nc_s σ v p _ _) (ih (p + 1) _ (by omega) (by omega) (by omega) (by omega) (by omega) (hE2.elim (fun h => h.2) (fun h => absurd (by omega) h.1)))
  refine v_aload_n C dM_takesNumber_0 rfl rfl ?_
  refine v_getI (k := 0) (q := 21) (v := σ.1 0 21) C dM_takesNumber_1 (by show (0 : Nat) < 18; decide) rfl rfl (by decide) rfl inM lM_141 rfl rfl ?_
  refine v_istore_n C dM_takesNumber_4 rfl (by decide) ?_
  refine v_aload_n C dM_takesNumber_5 rfl rfl ?_
  refine v_iconst C dM_takesNumber_6 ?_
  refine v_putI (k := 0) (q := 22) C dM_takesNumber_7 (by show (0 : Nat) < 18; decide) rfl rfl (by decide) rfl inM tyM_ok nmM lM_147 rfl rfl rfl rfl rfl ?_
  exact v_st (m_nc_0 σ) (L 5 (σ.1 0 21) 0 (by omega) (by omega) (by omega) (by omega) (by decide) rfl)
