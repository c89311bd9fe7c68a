/-- what is remembered of object n in a revision's row -/
def m_rv (σ : fS) (w : Int) (a b n : Nat) : Int :=
  if m_mv σ w n = 1 then (if a = 10 then (if σ.2 1 n = 1 then σ.2 13 n else -1) else if a = 11 then σ.2 14 n else σ.2 5 n)
  else if w = 1 then (if a = 10 then -1 else σ.2 a b) else σ.2 a (b - 41)
def m_rem (σ : fS) (w : Int) (r k : Nat) : fS := (σ.1, fun a b => if (a = 10 ∨ a = 11 ∨ a = 12) ∧ 41 * r + 1 ≤ b ∧ b < 41 * r + k then m_rv σ w a b (b - 41 * r) else σ.2 a b)
theorem m_rem_o (σ : fS) (w : Int) (r k a b : Nat) (h : ¬ ((a = 10 ∨ a = 11 ∨ a = 12) ∧ 41 * r + 1 ≤ b ∧ b < 41 * r + k)) : (m_rem σ w r k).2 a b = σ.2 a b := if_neg h
theorem m_rem_0 (σ : fS) (w : Int) (r : Nat) : σ = m_rem σ w r 1 := fS_ext (fun _ _ => rfl) (fun a b => (m_rem_o σ w r 1 a b (by omega)).symm)
theorem m_rem_s (σ S : fS) (w : Int) (r k : Nat) (hk : 1 ≤ k) (h1 : ∀ a b, S.1 a b = σ.1 a b) (h2 : ∀ a b, S.2 a b = if (a = 10 ∨ a = 11 ∨ a = 12) ∧ b = 41 * r + k then m_rv σ w a b k else (m_rem σ w r k).2 a b) : S = m_rem σ w r (k + 1) := by
  refine fS_ext h1 (fun a b => ?_)
  rw [h2]
  show _ = if (a = 10 ∨ a = 11 ∨ a = 12) ∧ 41 * r + 1 ≤ b ∧ b < 41 * r + (k + 1) then m_rv σ w a b (b - 41 * r) else σ.2 a b
  by_cases h : (a = 10 ∨ a = 11 ∨ a = 12) ∧ b = 41 * r + k
  · rw [if_pos h, if_pos (by omega), show b - 41 * r = k by omega]
  · rw [if_neg h]
    show (if (a = 10 ∨ a = 11 ∨ a = 12) ∧ 41 * r + 1 ≤ b ∧ b < 41 * r + k then m_rv σ w a b (b - 41 * r) else σ.2 a b) = _
    by_cases h9 : (a = 10 ∨ a = 11 ∨ a = 12) ∧ 41 * r + 1 ≤ b ∧ b < 41 * r + k
    · rw [if_pos h9, if_pos (by omega)]
    · rw [if_neg h9, if_neg (by omega)]
theorem m_rem_A (σ : fS) (w : Int) (r k : Nat) (hk : 1 ≤ k) (hm : m_mv σ w k = 1) (v : Int) (hv : v = if σ.2 1 k = 1 then σ.2 13 k else -1) : f_p2 (f_p2 (f_p2 (m_rem σ w r k) 10 (41 * r + k) v) 11 (41 * r + k) (σ.2 14 k)) 12 (41 * r + k) (σ.2 5 k) = m_rem σ w r (k + 1) := by
  refine m_rem_s σ _ w r k hk (fun _ _ => rfl) (fun a b => ?_)
  rw [p2_2, p2_2, p2_2]
  unfold m_rv
  rw [if_pos hm]
  by_cases hb : b = 41 * r + k
  · subst hb
    by_cases g1 : a = 10
    · subst g1; simp [hv]
    · by_cases g2 : a = 11
      · subst g2; simp
      · by_cases g3 : a = 12
        · subst g3; simp
        · simp [g1, g2, g3]
  · simp [hb]
theorem m_rem_B (σ : fS) (w : Int) (r k : Nat) (hk : 1 ≤ k) (hm : ¬ m_mv σ w k = 1) (hw : w = 1) : f_p2 (m_rem σ w r k) 10 (41 * r + k) (-1) = m_rem σ w r (k + 1) := by
  refine m_rem_s σ _ w r k hk (fun _ _ => rfl) (fun a b => ?_)
  rw [p2_2]
  unfold m_rv
  rw [if_neg hm, if_pos hw]
  by_cases hb : b = 41 * r + k
  · subst hb
    have ho := m_rem_o σ w r k a (41 * r + k) (by omega)
    by_cases g1 : a = 10
    · subst g1; simp
    · simp only [g1, false_and, if_false, false_or, and_true, ho]
      split <;> rfl
  · simp [hb]
theorem m_rem_C (σ : fS) (w : Int) (r k : Nat) (hk : 1 ≤ k) (hm : ¬ m_mv σ w k = 1) (hw : ¬ w = 1) : f_p2 (f_p2 (f_p2 (m_rem σ w r k) 10 (41 * r + k) (σ.2 10 (41 * r + k - 41))) 11 (41 * r + k) (σ.2 11 (41 * r + k - 41))) 12 (41 * r + k) (σ.2 12 (41 * r + k - 41)) = m_rem σ w r (k + 1) := by
  refine m_rem_s σ _ w r k hk (fun _ _ => rfl) (fun a b => ?_)
  rw [p2_2, p2_2, p2_2]
  unfold m_rv
  rw [if_neg hm, if_neg hw]
  by_cases hb : b = 41 * r + k
  · subst hb
    by_cases g1 : a = 10
    · subst g1; simp
    · by_cases g2 : a = 11
      · subst g2; simp
      · by_cases g3 : a = 12
        · subst g3; simp
        · simp [g1, g2, g3]
  · simp [hb]
/-- a revision is remembered -/
def m_remd (σ : fS) (w : Int) (r : Nat) : fS := f_p1 (f_p2 (f_p2 (m_rem σ w r 41) 8 r (σ.1 0 7)) 9 r (σ.1 0 26)) 0 10 ((r : Int) + 1)
def m_rr (σ : fS) (w : Int) : Nat := if w = 1 then 0 else (σ.1 0 10).toNat
set_option maxRecDepth 100000 in
set_option maxHeartbeats 4000000 in
/-- remember(whole) -/
theorem kM_remember (l : Launch) (xCl : List vw_C) (D : va_G) (cA : Nat → ClassId) (ad : Nat → Nat) (hJ : f_J (mG xCl D cA ad)) (σ : fS) (w : Int) (hw : w = 0 ∨ w = 1) (hrv : w = 0 → 1 ≤ σ.1 0 10 ∧ σ.1 0 10 ≤ 59) (h1 : ∀ i, 0 ≤ σ.2 1 i ∧ σ.2 1 i ≤ 1) (h3 : ∀ i, 0 ≤ σ.2 3 i ∧ σ.2 3 i ≤ 1) : f_M l (mG xCl D cA ad) mE yM_remember (Cond.code yM_remember cM_remember 5 none :: A9) 1 σ [.ref (ad 0), .int (fI w)] (f_QV (fun σ1 => σ1 = m_remd σ w (m_rr σ w)) (mG xCl D cA ad)) := by
  refine f_enter (by decide +kernel) hJ rfl (Nat.le_of_ble_eq_true rfl) ?_
  intro z hzl hR C hRt hLk hEz
  subst hzl
  have L : ∀ (r : Nat), r = m_rr σ w → r ≤ 59 → (w = 0 → 1 ≤ r) → ∀ (m k : Nat), m + k = 41 → 1 ≤ k → fv z (mG xCl D cA ad) 5 (f_R z (mG xCl D cA ad) (f_QV (fun σ1 => σ1 = m_remd σ w (m_rr σ w)) (mG xCl D cA ad))) 0 0 (m_rem σ w r k) 15 [some (.ref (ad 0)), some (.int (fI w)), some (.int (fI (r : Int))), some (.int (fI (k : Int))), none] [] := by
    intro r hr hr59 hr1 m
    induction m with
    | zero =>
      intro k hk hk1
      have hk41 : k = 41 := by omega
      subst hk41
      refine v_iload_n C dM_remember_15 rfl rfl ?_
      refine v_bipush C dM_remember_16 (by decide +kernel) ?_
      refine v_icmp_gt (tgt := 165) C dM_remember_18 (by decide) (by omega) (by omega) (fun hc1 => ?_) (fun hc1 => ?_)
      · refine v_aload_n C dM_remember_165 rfl rfl ?_
        refine v_getR (k := 0) (q := 11) C dM_remember_166 (by show (0 : Nat) < 18; decide) rfl rfl (by decide) rfl inM lM_33 rfl ?_
        refine v_iload_n C dM_remember_169 rfl rfl ?_
        refine v_aload_n C dM_remember_170 rfl rfl ?_
        refine v_getI (k := 0) (q := 7) (v := σ.1 0 7) C dM_remember_171 (by show (0 : Nat) < 18; decide) rfl rfl (by decide) rfl inM lM_116 rfl rfl ?_
        refine v_iast (k := 8) C dM_remember_174 (by show (8 : Nat) < 18; decide) rfl rfl (by omega) (by decide) ?_
        refine v_aload_n C dM_remember_175 rfl rfl ?_
        refine v_getR (k := 0) (q := 12) C dM_remember_176 (by show (0 : Nat) < 18; decide) rfl rfl (by decide) rfl inM lM_36 rfl ?_
        refine v_iload_n C dM_remember_179 rfl rfl ?_
        refine v_aload_n C dM_remember_180 rfl rfl ?_
        refine v_getI (k := 0) (q := 26) (v := σ.1 0 26) C dM_remember_181 (by show (0 : Nat) < 18; decide) rfl rfl (by decide) rfl inM lM_113 rfl rfl ?_
        refine v_iast (k := 9) C dM_remember_184 (by show (9 : Nat) < 18; decide) rfl rfl (by omega) (by decide) ?_
        refine v_aload_n C dM_remember_185 rfl rfl ?_
        refine v_iload_n C dM_remember_186 rfl rfl ?_
        refine v_iconst C dM_remember_187 ?_
        refine v_iadd C dM_remember_188 ?_
        refine v_putI (k := 0) (q := 10) C dM_remember_189 (by show (0 : Nat) < 18; decide) rfl rfl (by decide) rfl inM tyM_ok nmM lM_110 rfl rfl rfl rfl rfl ?_
        exact v_vret C hRt hLk dM_remember_192 (by unfold m_remd; rw [← hr]; simp only [Int.toNat_natCast])
      · exfalso; omega
    | succ m ih =>
      intro k hk hk1
      have hat : (41 * (r : Int) + (k : Int)).toNat = 41 * r + k := by omega
      have hat41 : (41 * (r : Int) + (k : Int) - 41).toNat = 41 * r + k - 41 := by omega
      have hkn : ((k : Int)).toNat = k := by omega
      have hb1 := h1 k
      have hb1e : σ.2 1 ((k : Int)).toNat = σ.2 1 k := by rw [hkn]
      have hmb : 0 ≤ m_mv σ w k ∧ m_mv σ w k ≤ 1 := by unfold m_mv; split; (· exact h1 k); (· exact h3 k)
      refine v_iload_n C dM_remember_15 rfl rfl ?_
      refine v_bipush C dM_remember_16 (by decide +kernel) ?_
      refine v_icmp_gt (tgt := 165) C dM_remember_18 (by decide) (by omega) (by omega) (fun hc2 => ?_) (fun hc2 => ?_)
      · exfalso; omega
      · refine v_bipush C dM_remember_21 (by decide +kernel) ?_
        refine v_iload_n C dM_remember_23 rfl rfl ?_
        refine v_imul C dM_remember_24 ?_
        refine v_iload_n C dM_remember_25 rfl rfl ?_
        refine v_iadd C dM_remember_26 ?_
        refine v_istore C dM_remember_27 (by decide) ?_
        refine v_aload_n C dM_remember_29 rfl rfl ?_
        refine v_iload_n C dM_remember_30 rfl rfl ?_
        refine v_iload_n C dM_remember_31 rfl rfl ?_
        have hm1 : ∀ i, 0 ≤ (m_rem σ w r k).2 1 i ∧ (m_rem σ w r k).2 1 i ≤ 1 := fun i => by rw [m_rem_o _ _ _ _ _ _ (by omega)]; exact h1 i
        have hm3 : ∀ i, 0 ≤ (m_rem σ w r k).2 3 i ∧ (m_rem σ w r k).2 3 i ≤ 1 := fun i => by rw [m_rem_o _ _ _ _ _ _ (by omega)]; exact h3 i
        refine v_cVI (k := 0) (n := 2) C (mE_ok _) trivial hR (kM_isMeant _ xCl D cA ad hJ (m_rem σ w r k) (k : Int) w (by omega) (by omega) hm1 hm3) dM_remember_32 (by show (0 : Nat) < 18; decide) rfl rfl gM_92 (by decide +kernel) (by decide) (by decide) rfl (Nat.le_of_ble_eq_true rfl) rfl ⟨rfl, rfl⟩ (fun r1 τ1 hp1 => ?_)
        rw [hkn, m_rem_o _ _ _ _ 1 _ (by omega), m_rem_o _ _ _ _ 3 _ (by omega)] at hp1
        have hv1 : r1 = m_mv σ w k ∧ τ1 = (m_rem σ w r k) := by unfold m_mv; rcases hp1 with ⟨h9, h8, h7⟩ | ⟨h9, h8, h7⟩; (· rw [if_pos h9]; exact ⟨h8, h7⟩); (· rw [if_neg (by omega)]; exact ⟨h8, h7⟩)
        obtain ⟨hv1, he1⟩ := hv1
        subst τ1
        · refine v_if_eq (tgt := 93) C dM_remember_35 (by decide) (by omega) (fun hc3 => ?_) (fun hc3 => ?_)
          · refine v_iload_n C dM_remember_93 rfl rfl ?_
            refine v_if_eq (tgt := 108) C dM_remember_94 (by decide) (by omega) (fun hc4 => ?_) (fun hc4 => ?_)
            · refine v_aload_n C dM_remember_108 rfl rfl ?_
              refine v_getR (k := 0) (q := 13) C dM_remember_109 (by show (0 : Nat) < 18; decide) rfl rfl (by decide) rfl inM lM_39 rfl ?_
              refine v_iload C dM_remember_112 rfl ?_
              refine v_aload_n C dM_remember_114 rfl rfl ?_
              refine v_getR (k := 0) (q := 13) C dM_remember_115 (by show (0 : Nat) < 18; decide) rfl rfl (by decide) rfl inM lM_39 rfl ?_
              refine v_iload C dM_remember_118 rfl ?_
              refine v_bipush C dM_remember_120 (by decide +kernel) ?_
              refine v_isub C dM_remember_122 ?_
              refine v_iald (k := 10) (v := σ.2 10 ((((41 * (r : Int)) + (k : Int)) - 41)).toNat) C dM_remember_123 (by show (10 : Nat) < 18; decide) rfl rfl (by omega) (by decide) (by (try simp only [p2_2]); (try rw [if_neg (by omega)]); (try rw [if_neg (by omega)]); exact m_rem_o _ _ _ _ _ _ (by omega)) ?_
              refine v_iast (k := 10) C dM_remember_124 (by show (10 : Nat) < 18; decide) rfl rfl (by omega) (by decide) ?_
              refine v_aload_n C dM_remember_125 rfl rfl ?_
              refine v_getR (k := 0) (q := 14) C dM_remember_126 (by show (0 : Nat) < 18; decide) rfl rfl (by decide) rfl inM lM_42 rfl ?_
              refine v_iload C dM_remember_129 rfl ?_
              refine v_aload_n C dM_remember_131 rfl rfl ?_
              refine v_getR (k := 0) (q := 14) C dM_remember_132 (by show (0 : Nat) < 18; decide) rfl rfl (by decide) rfl inM lM_42 rfl ?_
              refine v_iload C dM_remember_135 rfl ?_
              refine v_bipush C dM_remember_137 (by decide +kernel) ?_
              refine v_isub C dM_remember_139 ?_
              refine v_iald (k := 11) (v := σ.2 11 ((((41 * (r : Int)) + (k : Int)) - 41)).toNat) C dM_remember_140 (by show (11 : Nat) < 18; decide) rfl rfl (by omega) (by decide) (by (try simp only [p2_2]); (try rw [if_neg (by omega)]); (try rw [if_neg (by omega)]); exact m_rem_o _ _ _ _ _ _ (by omega)) ?_
              refine v_iast (k := 11) C dM_remember_141 (by show (11 : Nat) < 18; decide) rfl rfl (by omega) (by decide) ?_
              refine v_aload_n C dM_remember_142 rfl rfl ?_
              refine v_getR (k := 0) (q := 15) C dM_remember_143 (by show (0 : Nat) < 18; decide) rfl rfl (by decide) rfl inM lM_45 rfl ?_
              refine v_iload C dM_remember_146 rfl ?_
              refine v_aload_n C dM_remember_148 rfl rfl ?_
              refine v_getR (k := 0) (q := 15) C dM_remember_149 (by show (0 : Nat) < 18; decide) rfl rfl (by decide) rfl inM lM_45 rfl ?_
              refine v_iload C dM_remember_152 rfl ?_
              refine v_bipush C dM_remember_154 (by decide +kernel) ?_
              refine v_isub C dM_remember_156 ?_
              refine v_iald (k := 12) (v := σ.2 12 ((((41 * (r : Int)) + (k : Int)) - 41)).toNat) C dM_remember_157 (by show (12 : Nat) < 18; decide) rfl rfl (by omega) (by decide) (by (try simp only [p2_2]); (try rw [if_neg (by omega)]); (try rw [if_neg (by omega)]); exact m_rem_o _ _ _ _ _ _ (by omega)) ?_
              refine v_iast (k := 12) C dM_remember_158 (by show (12 : Nat) < 18; decide) rfl rfl (by omega) (by decide) ?_
              refine v_iinc C dM_remember_159 rfl (by decide) ?_
              refine v_goto (tgt := 15) C dM_remember_162 (by decide) ?_
              exact v_less (by exact ⟨rfl, rfl, rfl, rfl, trivial⟩) (v_st (by simp only [hat, hat41, hkn]; exact m_rem_C σ w r k hk1 (by omega) (by omega)) (ih (k + 1) (by omega) (by omega)))
            · refine v_aload_n C dM_remember_97 rfl rfl ?_
              refine v_getR (k := 0) (q := 13) C dM_remember_98 (by show (0 : Nat) < 18; decide) rfl rfl (by decide) rfl inM lM_39 rfl ?_
              refine v_iload C dM_remember_101 rfl ?_
              refine v_iconst C dM_remember_103 ?_
              refine v_iast (k := 10) C dM_remember_104 (by show (10 : Nat) < 18; decide) rfl rfl (by omega) (by decide) ?_
              refine v_goto (tgt := 159) C dM_remember_105 (by decide) ?_
              refine v_iinc C dM_remember_159 rfl (by decide) ?_
              refine v_goto (tgt := 15) C dM_remember_162 (by decide) ?_
              exact v_less (by exact ⟨rfl, rfl, rfl, rfl, trivial⟩) (v_st (by simp only [hat, hat41, hkn]; exact m_rem_B σ w r k hk1 (by omega) (by omega)) (ih (k + 1) (by omega) (by omega)))
          · refine v_aload_n C dM_remember_38 rfl rfl ?_
            refine v_getR (k := 0) (q := 13) C dM_remember_39 (by show (0 : Nat) < 18; decide) rfl rfl (by decide) rfl inM lM_39 rfl ?_
            refine v_iload C dM_remember_42 rfl ?_
            refine v_aload_n C dM_remember_44 rfl rfl ?_
            refine v_getR (k := 0) (q := 1) C dM_remember_45 (by show (0 : Nat) < 18; decide) rfl rfl (by decide) rfl inM lM_7 rfl ?_
            refine v_iload_n C dM_remember_48 rfl rfl ?_
            refine v_zald (k := 1) (v := σ.2 1 ((k : Int)).toNat) C dM_remember_49 (by show (1 : Nat) < 18; decide) rfl rfl (by omega) (by decide) (by (try simp only [p2_2]); (try rw [if_neg (by omega)]); (try rw [if_neg (by omega)]); exact m_rem_o _ _ _ _ _ _ (by omega)) ?_
            refine v_if_eq (tgt := 62) C dM_remember_50 (by decide) (by omega) (fun hc5 => ?_) (fun hc5 => ?_)
            · refine v_iconst C dM_remember_62 ?_
              refine v_iast (k := 10) C dM_remember_63 (by show (10 : Nat) < 18; decide) rfl rfl (by omega) (by decide) ?_
              refine v_aload_n C dM_remember_64 rfl rfl ?_
              refine v_getR (k := 0) (q := 14) C dM_remember_65 (by show (0 : Nat) < 18; decide) rfl rfl (by decide) rfl inM lM_42 rfl ?_
              refine v_iload C dM_remember_68 rfl ?_
              refine v_aload_n C dM_remember_70 rfl rfl ?_
              refine v_getR (k := 0) (q := 19) C dM_remember_71 (by show (0 : Nat) < 18; decide) rfl rfl (by decide) rfl inM lM_51 rfl ?_
              refine v_iload_n C dM_remember_74 rfl rfl ?_
              refine v_iald (k := 14) (v := σ.2 14 ((k : Int)).toNat) C dM_remember_75 (by show (14 : Nat) < 18; decide) rfl rfl (by omega) (by decide) (by (try simp only [p2_2]); (try rw [if_neg (by omega)]); (try rw [if_neg (by omega)]); exact m_rem_o _ _ _ _ _ _ (by omega)) ?_
              refine v_iast (k := 11) C dM_remember_76 (by show (11 : Nat) < 18; decide) rfl rfl (by omega) (by decide) ?_
              refine v_aload_n C dM_remember_77 rfl rfl ?_
              refine v_getR (k := 0) (q := 15) C dM_remember_78 (by show (0 : Nat) < 18; decide) rfl rfl (by decide) rfl inM lM_45 rfl ?_
              refine v_iload C dM_remember_81 rfl ?_
              refine v_aload_n C dM_remember_83 rfl rfl ?_
              refine v_getR (k := 0) (q := 5) C dM_remember_84 (by show (0 : Nat) < 18; decide) rfl rfl (by decide) rfl inM lM_22 rfl ?_
              refine v_iload_n C dM_remember_87 rfl rfl ?_
              refine v_iald (k := 5) (v := σ.2 5 ((k : Int)).toNat) C dM_remember_88 (by show (5 : Nat) < 18; decide) rfl rfl (by omega) (by decide) (by (try simp only [p2_2]); (try rw [if_neg (by omega)]); (try rw [if_neg (by omega)]); exact m_rem_o _ _ _ _ _ _ (by omega)) ?_
              refine v_iast (k := 12) C dM_remember_89 (by show (12 : Nat) < 18; decide) rfl rfl (by omega) (by decide) ?_
              refine v_goto (tgt := 159) C dM_remember_90 (by decide) ?_
              refine v_iinc C dM_remember_159 rfl (by decide) ?_
              refine v_goto (tgt := 15) C dM_remember_162 (by decide) ?_
              exact v_less (by exact ⟨rfl, rfl, rfl, rfl, trivial⟩) (v_st (by simp only [hat, hat41, hkn]; exact m_rem_A σ w r k hk1 (by omega) _ (by first | (rw [if_pos (by omega)]; done) | (rw [if_neg (by omega)]; done))) (ih (k + 1) (by omega) (by omega)))
            · refine v_aload_n C dM_remember_53 rfl rfl ?_
              refine v_getR (k := 0) (q := 18) C dM_remember_54 (by show (0 : Nat) < 18; decide) rfl rfl (by decide) rfl inM lM_48 rfl ?_
              refine v_iload_n C dM_remember_57 rfl rfl ?_
              refine v_iald (k := 13) (v := σ.2 13 ((k : Int)).toNat) C dM_remember_58 (by show (13 : Nat) < 18; decide) rfl rfl (by omega) (by decide) (by (try simp only [p2_2]); (try rw [if_neg (by omega)]); (try rw [if_neg (by omega)]); exact m_rem_o _ _ _ _ _ _ (by omega)) ?_
              refine v_goto (tgt := 63) C dM_remember_59 (by decide) ?_
              refine v_iast (k := 10) C dM_remember_63 (by show (10 : Nat) < 18; decide) rfl rfl (by omega) (by decide) ?_
              refine v_aload_n C dM_remember_64 rfl rfl ?_
              refine v_getR (k := 0) (q := 14) C dM_remember_65 (by show (0 : Nat) < 18; decide) rfl rfl (by decide) rfl inM lM_42 rfl ?_
              refine v_iload C dM_remember_68 rfl ?_
              refine v_aload_n C dM_remember_70 rfl rfl ?_
              refine v_getR (k := 0) (q := 19) C dM_remember_71 (by show (0 : Nat) < 18; decide) rfl rfl (by decide) rfl inM lM_51 rfl ?_
              refine v_iload_n C dM_remember_74 rfl rfl ?_
              refine v_iald (k := 14) (v := σ.2 14 ((k : Int)).toNat) C dM_remember_75 (by show (14 : Nat) < 18; decide) rfl rfl (by omega) (by decide) (by (try simp only [p2_2]); (try rw [if_neg (by omega)]); (try rw [if_neg (by omega)]); exact m_rem_o _ _ _ _ _ _ (by omega)) ?_
              refine v_iast (k := 11) C dM_remember_76 (by show (11 : Nat) < 18; decide) rfl rfl (by omega) (by decide) ?_
              refine v_aload_n C dM_remember_77 rfl rfl ?_
              refine v_getR (k := 0) (q := 15) C dM_remember_78 (by show (0 : Nat) < 18; decide) rfl rfl (by decide) rfl inM lM_45 rfl ?_
              refine v_iload C dM_remember_81 rfl ?_
              refine v_aload_n C dM_remember_83 rfl rfl ?_
              refine v_getR (k := 0) (q := 5) C dM_remember_84 (by show (0 : Nat) < 18; decide) rfl rfl (by decide) rfl inM lM_22 rfl ?_
              refine v_iload_n C dM_remember_87 rfl rfl ?_
              refine v_iald (k := 5) (v := σ.2 5 ((k : Int)).toNat) C dM_remember_88 (by show (5 : Nat) < 18; decide) rfl rfl (by omega) (by decide) (by (try simp only [p2_2]); (try rw [if_neg (by omega)]); (try rw [if_neg (by omega)]); exact m_rem_o _ _ _ _ _ _ (by omega)) ?_
              refine v_iast (k := 12) C dM_remember_89 (by show (12 : Nat) < 18; decide) rfl rfl (by omega) (by decide) ?_
              refine v_goto (tgt := 159) C dM_remember_90 (by decide) ?_
              refine v_iinc C dM_remember_159 rfl (by decide) ?_
              refine v_goto (tgt := 15) C dM_remember_162 (by decide) ?_
              exact v_less (by exact ⟨rfl, rfl, rfl, rfl, trivial⟩) (v_st (by simp only [hat, hat41, hkn]; exact m_rem_A σ w r k hk1 (by omega) _ (by first | (rw [if_pos (by omega)]; done) | (rw [if_neg (by omega)]; done))) (ih (k + 1) (by omega) (by omega)))
  refine v_iload_n C dM_remember_0 rfl rfl ?_
  refine v_if_eq (tgt := 8) C dM_remember_1 (by decide) (by omega) (fun hc6 => ?_) (fun hc6 => ?_)
  · refine v_aload_n C dM_remember_8 rfl rfl ?_
    refine v_getI (k := 0) (q := 10) (v := σ.1 0 10) C dM_remember_9 (by show (0 : Nat) < 18; decide) rfl rfl (by decide) rfl inM lM_110 rfl rfl ?_
    refine v_top (b := (((σ.1 0 10).toNat : Nat) : Int)) (by omega) ?_
    refine v_istore_n C dM_remember_12 rfl (by decide) ?_
    refine v_iconst C dM_remember_13 ?_
    refine v_istore_n C dM_remember_14 rfl (by decide) ?_
    exact v_less (by exact ⟨rfl, rfl, rfl, rfl, trivial⟩) (v_st (m_rem_0 σ w (σ.1 0 10).toNat) (L (σ.1 0 10).toNat (by unfold m_rr; rw [if_neg (by omega)]) (by omega) (by omega) 40 1 (by omega) (by omega)))
  · refine v_iconst C dM_remember_4 ?_
    refine v_goto (tgt := 12) C dM_remember_5 (by decide) ?_
    refine v_istore_n C dM_remember_12 rfl (by decide) ?_
    refine v_iconst C dM_remember_13 ?_
    refine v_istore_n C dM_remember_14 rfl (by decide) ?_
    exact v_less (by exact ⟨rfl, rfl, rfl, rfl, trivial⟩) (v_st (m_rem_0 σ w 0) (L 0 (by unfold m_rr; rw [if_pos (by omega)]) (by omega) (by omega) 40 1 (by omega) (by omega)))
