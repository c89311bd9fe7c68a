/-- what told answers -/
def m_told (σ : fS) (w r : Int) : Prop := (w = 0 ∧ r = σ.1 0 7) ∨ (w = 1 ∧ r = σ.1 0 10) ∨ (w = 2 ∧ r = m_cnt (σ.2 1) 40) ∨ (w = 3 ∧ r = m_cnt (σ.2 3) 40) ∨ (w = 4 ∧ r = σ.1 0 9) ∨ (¬ (0 ≤ w ∧ w ≤ 4) ∧ r = -1)
/-- two records are alike, by the bytes -/
def m_alike (σ : fS) (a b : Int) : Prop := σ.2 12 a.toNat = σ.2 12 b.toNat ∧ ∀ t : Int, 0 ≤ t → t < σ.2 12 a.toNat → σ.2 7 (σ.2 11 a.toNat + t).toNat = σ.2 7 (σ.2 11 b.toNat + t).toNat
/-- the state but for differ's own rows -/
def m_dfr (σ σ1 : fS) : Prop := (∀ k i, k ≠ 16 → k ≠ 17 → σ1.2 k i = σ.2 k i) ∧ ∀ a b, ¬ (a = 0 ∧ (b = 0 ∨ b = 28 ∨ b = 29)) → σ1.1 a b = σ.1 a b
theorem m_dfr_rf (σ : fS) : m_dfr σ σ := ⟨fun _ _ _ _ => rfl, fun _ _ _ => rfl⟩
theorem m_dfr_p {σ τ : fS} (h : m_dfr σ τ) (q : Nat) (v : Int) (hq : q = 0 ∨ q = 28 ∨ q = 29) : m_dfr σ (f_p1 τ 0 q v) := by
  refine ⟨h.1, fun a b hab => ?_⟩
  rw [p1_1, if_neg (by
    intro h9
    exact hab ⟨h9.1, by rw [h9.2]; exact hq⟩)]
  exact h.2 a b hab
theorem m_dfr_a {σ τ : fS} (h : m_dfr σ τ) (k q : Nat) (v : Int) (hk : k = 16 ∨ k = 17) : m_dfr σ (f_p2 τ k q v) := by
  refine ⟨fun j i h1 h2 => ?_, h.2⟩
  rw [p2_2, if_neg (by intro h9; omega)]
  exact h.1 j i h1 h2
theorem m_cnt_le (f : Nat → Int) : ∀ k : Nat, 0 ≤ m_cnt f k ∧ m_cnt f k ≤ k := by
  intro k
  induction k with
  | zero => show (0 : Int) ≤ 0 ∧ (0 : Int) ≤ ((0 : Nat) : Int); omega
  | succ k ih =>
    unfold m_cnt
    split <;> omega
theorem cnt40 (f : Nat → Int) (n c : Int) (h1 : 1 ≤ n) (h2 : n ≤ 40) (hc : m_cnt f n.toNat = c) : c ≤ 40 := by
  have h := m_cnt_le f n.toNat
  omega
set_option maxRecDepth 100000 in
set_option maxHeartbeats 4000000 in
/-- told(what) -/
theorem kM_told (l : Launch) (xCl : List vw_C) (D : va_G) (cA : Nat → ClassId) (ad : Nat → Nat) (hJ : f_J (mG xCl D cA ad)) (σ : fS) (w : Int) (hw : -2147483648 ≤ w ∧ w ≤ 2147483647) (ha : σ.1 0 9 = 0 ∨ σ.1 0 9 = 1) (h1 : ∀ i, 0 ≤ σ.2 1 i ∧ σ.2 1 i ≤ 1) (h3 : ∀ i, 0 ≤ σ.2 3 i ∧ σ.2 3 i ≤ 1) : f_M l (mG xCl D cA ad) mE yM_told (Cond.code yM_told cM_told 4 (some .int) :: A9) 1 σ [.ref (ad 0), .int (fI w)] (f_QI (fun r σ1 => σ1 = f_p1 σ 0 0 0 ∧ m_told σ w r) (mG xCl D cA ad)) := by
  refine f_enter (by decide +kernel) hJ rfl (Nat.le_of_ble_eq_true rfl) ?_
  intro z hzl hR C hRt hLk hEz
  subst hzl
  have L : ∀ (k : Nat) (n c : Int), n + k = 41 → 1 ≤ n → c = m_cnt (σ.2 1) (n - 1).toNat → 0 ≤ c → c ≤ 40 → fv z (mG xCl D cA ad) 4 (f_R z (mG xCl D cA ad) (f_QI (fun r σ1 => σ1 = f_p1 σ 0 0 0 ∧ m_told σ w r) (mG xCl D cA ad))) 0 0 (f_p1 σ 0 0 0) 9 [some (.ref (ad 0)), some (.int (fI w)), some (.int (fI c)), some (.int (fI n))] [] := by
    intro k
    induction k with
    | zero =>
      intro n c hk hn hc hc0 hc1
      have hb := h1 n.toNat
      have hs := m_cnt_s (σ.2 1) n hn
      have hc9 : c = m_cnt (σ.2 1) 40 := by rw [hc, show (n - 1).toNat = 40 by omega]
      refine v_iload_n C dM_told_9 rfl rfl ?_
      refine v_bipush C dM_told_10 (by decide +kernel) ?_
      refine v_icmp_gt (tgt := 38) C dM_told_12 (by decide) (by omega) (by omega) (fun hc1 => ?_) (fun hc1 => ?_)
      · refine v_iload_n C dM_told_38 rfl rfl ?_
        refine v_if_ne (tgt := 49) C dM_told_39 (by decide) (by omega) (fun hc2 => ?_) (fun hc2 => ?_)
        · refine v_iload_n C dM_told_49 rfl rfl ?_
          refine v_iconst C dM_told_50 ?_
          refine v_icmp_ne (tgt := 61) C dM_told_51 (by decide) (by omega) (by omega) (fun hc3 => ?_) (fun hc3 => ?_)
          · refine v_iload_n C dM_told_61 rfl rfl ?_
            refine v_iconst C dM_told_62 ?_
            refine v_icmp_ne (tgt := 70) C dM_told_63 (by decide) (by omega) (by omega) (fun hc4 => ?_) (fun hc4 => ?_)
            · refine v_iload_n C dM_told_70 rfl rfl ?_
              refine v_iconst C dM_told_71 ?_
              refine v_icmp_ne (tgt := 82) C dM_told_72 (by decide) (by omega) (by omega) (fun hc5 => ?_) (fun hc5 => ?_)
              · refine v_iload_n C dM_told_82 rfl rfl ?_
                refine v_iconst C dM_told_83 ?_
                refine v_icmp_ne (tgt := 102) C dM_told_84 (by decide) (by omega) (by omega) (fun hc6 => ?_) (fun hc6 => ?_)
                · refine v_iconst C dM_told_102 ?_
                  exact v_iret C hRt hLk dM_told_103 ⟨rfl, by unfold m_told; first | exact Or.inl ⟨by omega, rfl⟩ | exact Or.inr (Or.inl ⟨by omega, rfl⟩) | exact Or.inr (Or.inr (Or.inl ⟨by omega, hc9⟩)) | exact Or.inr (Or.inr (Or.inr (Or.inl ⟨by omega, e1⟩))) | exact Or.inr (Or.inr (Or.inr (Or.inr (Or.inl ⟨by omega, by omega⟩)))) | exact Or.inr (Or.inr (Or.inr (Or.inr (Or.inr ⟨by omega, rfl⟩))))⟩
                · refine v_aload_n C dM_told_87 rfl rfl ?_
                  refine v_getI (k := 0) (q := 9) (v := σ.1 0 9) C dM_told_88 (by show (0 : Nat) < 18; decide) rfl rfl (by decide) rfl inM lM_123 rfl rfl ?_
                  refine v_if_eq (tgt := 98) C dM_told_91 (by decide) (by omega) (fun hc7 => ?_) (fun hc7 => ?_)
                  · refine v_iconst C dM_told_98 ?_
                    refine v_goto (tgt := 103) C dM_told_99 (by decide) ?_
                    exact v_iret C hRt hLk dM_told_103 ⟨rfl, by unfold m_told; first | exact Or.inl ⟨by omega, rfl⟩ | exact Or.inr (Or.inl ⟨by omega, rfl⟩) | exact Or.inr (Or.inr (Or.inl ⟨by omega, hc9⟩)) | exact Or.inr (Or.inr (Or.inr (Or.inl ⟨by omega, e1⟩))) | exact Or.inr (Or.inr (Or.inr (Or.inr (Or.inl ⟨by omega, by omega⟩)))) | exact Or.inr (Or.inr (Or.inr (Or.inr (Or.inr ⟨by omega, rfl⟩))))⟩
                  · refine v_iconst C dM_told_94 ?_
                    refine v_goto (tgt := 103) C dM_told_95 (by decide) ?_
                    exact v_iret C hRt hLk dM_told_103 ⟨rfl, by unfold m_told; first | exact Or.inl ⟨by omega, rfl⟩ | exact Or.inr (Or.inl ⟨by omega, rfl⟩) | exact Or.inr (Or.inr (Or.inl ⟨by omega, hc9⟩)) | exact Or.inr (Or.inr (Or.inr (Or.inl ⟨by omega, e1⟩))) | exact Or.inr (Or.inr (Or.inr (Or.inr (Or.inl ⟨by omega, by omega⟩)))) | exact Or.inr (Or.inr (Or.inr (Or.inr (Or.inr ⟨by omega, rfl⟩))))⟩
              · refine v_aload_n C dM_told_75 rfl rfl ?_
                refine v_cVI (k := 0) (n := 0) C (mE_ok _) trivial hR (kM_changed _ xCl D cA ad hJ (f_p1 σ 0 0 0) h3) dM_told_76 (by show (0 : Nat) < 18; decide) rfl rfl gM_137 (by decide +kernel) (by decide) (by decide) rfl (Nat.le_of_ble_eq_true rfl) rfl ⟨rfl, rfl⟩ (fun r1 σ1 hp1 => ?_)
                obtain ⟨e1, e2⟩ := hp1
                subst σ1
                refine v_goto (tgt := 103) C dM_told_79 (by decide) ?_
                exact v_iret C hRt hLk dM_told_103 ⟨rfl, by unfold m_told; first | exact Or.inl ⟨by omega, rfl⟩ | exact Or.inr (Or.inl ⟨by omega, rfl⟩) | exact Or.inr (Or.inr (Or.inl ⟨by omega, hc9⟩)) | exact Or.inr (Or.inr (Or.inr (Or.inl ⟨by omega, e1⟩))) | exact Or.inr (Or.inr (Or.inr (Or.inr (Or.inl ⟨by omega, by omega⟩)))) | exact Or.inr (Or.inr (Or.inr (Or.inr (Or.inr ⟨by omega, rfl⟩))))⟩
            · refine v_iload_n C dM_told_66 rfl rfl ?_
              refine v_goto (tgt := 103) C dM_told_67 (by decide) ?_
              exact v_iret C hRt hLk dM_told_103 ⟨rfl, by unfold m_told; first | exact Or.inl ⟨by omega, rfl⟩ | exact Or.inr (Or.inl ⟨by omega, rfl⟩) | exact Or.inr (Or.inr (Or.inl ⟨by omega, hc9⟩)) | exact Or.inr (Or.inr (Or.inr (Or.inl ⟨by omega, e1⟩))) | exact Or.inr (Or.inr (Or.inr (Or.inr (Or.inl ⟨by omega, by omega⟩)))) | exact Or.inr (Or.inr (Or.inr (Or.inr (Or.inr ⟨by omega, rfl⟩))))⟩
          · refine v_aload_n C dM_told_54 rfl rfl ?_
            refine v_getI (k := 0) (q := 10) (v := σ.1 0 10) C dM_told_55 (by show (0 : Nat) < 18; decide) rfl rfl (by decide) rfl inM lM_110 rfl rfl ?_
            refine v_goto (tgt := 103) C dM_told_58 (by decide) ?_
            exact v_iret C hRt hLk dM_told_103 ⟨rfl, by unfold m_told; first | exact Or.inl ⟨by omega, rfl⟩ | exact Or.inr (Or.inl ⟨by omega, rfl⟩) | exact Or.inr (Or.inr (Or.inl ⟨by omega, hc9⟩)) | exact Or.inr (Or.inr (Or.inr (Or.inl ⟨by omega, e1⟩))) | exact Or.inr (Or.inr (Or.inr (Or.inr (Or.inl ⟨by omega, by omega⟩)))) | exact Or.inr (Or.inr (Or.inr (Or.inr (Or.inr ⟨by omega, rfl⟩))))⟩
        · refine v_aload_n C dM_told_42 rfl rfl ?_
          refine v_getI (k := 0) (q := 7) (v := σ.1 0 7) C dM_told_43 (by show (0 : Nat) < 18; decide) rfl rfl (by decide) rfl inM lM_116 rfl rfl ?_
          refine v_goto (tgt := 103) C dM_told_46 (by decide) ?_
          exact v_iret C hRt hLk dM_told_103 ⟨rfl, by unfold m_told; first | exact Or.inl ⟨by omega, rfl⟩ | exact Or.inr (Or.inl ⟨by omega, rfl⟩) | exact Or.inr (Or.inr (Or.inl ⟨by omega, hc9⟩)) | exact Or.inr (Or.inr (Or.inr (Or.inl ⟨by omega, e1⟩))) | exact Or.inr (Or.inr (Or.inr (Or.inr (Or.inl ⟨by omega, by omega⟩)))) | exact Or.inr (Or.inr (Or.inr (Or.inr (Or.inr ⟨by omega, rfl⟩))))⟩
      · exfalso; omega
    | succ k ih =>
      intro n c hk hn hc hc0 hc1
      have hb := h1 n.toNat
      have hs := m_cnt_s (σ.2 1) n hn
      refine v_iload_n C dM_told_9 rfl rfl ?_
      refine v_bipush C dM_told_10 (by decide +kernel) ?_
      refine v_icmp_gt (tgt := 38) C dM_told_12 (by decide) (by omega) (by omega) (fun hc8 => ?_) (fun hc8 => ?_)
      · exfalso; omega
      · refine v_aload_n C dM_told_15 rfl rfl ?_
        refine v_getR (k := 0) (q := 1) C dM_told_16 (by show (0 : Nat) < 18; decide) rfl rfl (by decide) rfl inM lM_7 rfl ?_
        refine v_iload_n C dM_told_19 rfl rfl ?_
        refine v_zald (k := 1) (v := σ.2 1 (n).toNat) C dM_told_20 (by show (1 : Nat) < 18; decide) rfl rfl (by omega) (by decide) rfl ?_
        refine v_if_eq (tgt := 30) C dM_told_21 (by decide) (by omega) (fun hc9 => ?_) (fun hc9 => ?_)
        · refine v_iload_n C dM_told_30 rfl rfl ?_
          refine v_istore_n C dM_told_31 rfl (by decide) ?_
          refine v_iinc C dM_told_32 rfl (by decide) ?_
          refine v_goto (tgt := 9) C dM_told_35 (by decide) ?_
          exact ih (n + 1) (c) (by omega) (by omega) (by rw [show (n + 1 - 1).toNat = n.toNat by omega, hs, hc]; first | (rw [if_pos (by omega)]; done) | (rw [if_neg (by omega)]; omega)) (by omega) (cnt40 (σ.2 1) n _ (by omega) (by omega) (by rw [hs, hc]; first | (rw [if_pos (by omega)]; done) | (rw [if_neg (by omega)]; omega)))
        · refine v_iload_n C dM_told_24 rfl rfl ?_
          refine v_iconst C dM_told_25 ?_
          refine v_iadd C dM_told_26 ?_
          refine v_goto (tgt := 31) C dM_told_27 (by decide) ?_
          refine v_istore_n C dM_told_31 rfl (by decide) ?_
          refine v_iinc C dM_told_32 rfl (by decide) ?_
          refine v_goto (tgt := 9) C dM_told_35 (by decide) ?_
          exact ih (n + 1) ((c + 1)) (by omega) (by omega) (by rw [show (n + 1 - 1).toNat = n.toNat by omega, hs, hc]; first | (rw [if_pos (by omega)]; done) | (rw [if_neg (by omega)]; omega)) (by omega) (cnt40 (σ.2 1) n _ (by omega) (by omega) (by rw [hs, hc]; first | (rw [if_pos (by omega)]; done) | (rw [if_neg (by omega)]; omega)))
  refine v_aload_n C dM_told_0 rfl rfl ?_
  refine v_iconst C dM_told_1 ?_
  refine v_putI (k := 0) (q := 0) C dM_told_2 (by show (0 : Nat) < 18; decide) rfl rfl (by decide) rfl inM tyM_ok nmM lM_63 rfl rfl rfl rfl rfl ?_
  refine v_iconst C dM_told_5 ?_
  refine v_istore_n C dM_told_6 rfl (by decide) ?_
  refine v_iconst C dM_told_7 ?_
  refine v_istore_n C dM_told_8 rfl (by decide) ?_
  exact L 40 1 0 (by omega) (by omega) rfl (by omega) (by omega)
set_option maxRecDepth 100000 in
set_option maxHeartbeats 4000000 in
/-- isAlike(a, b) -/
theorem kM_isAlike (l : Launch) (xCl : List vw_C) (D : va_G) (cA : Nat → ClassId) (ad : Nat → Nat) (hJ : f_J (mG xCl D cA ad)) (σ : fS) (a b : Int) (ha : 0 ≤ a ∧ a < 2460) (hb : 0 ≤ b ∧ b < 2460) (h7 : ∀ i, -128 ≤ σ.2 7 i ∧ σ.2 7 i ≤ 127) (h12 : ∀ i, 0 ≤ σ.2 12 i ∧ σ.2 12 i ≤ 120) (hsa : 0 ≤ σ.2 11 a.toNat ∧ σ.2 11 a.toNat + σ.2 12 a.toNat ≤ 12000) (hsb : 0 ≤ σ.2 11 b.toNat ∧ σ.2 11 b.toNat + σ.2 12 b.toNat ≤ 12000) : f_M l (mG xCl D cA ad) mE yM_isAlike (Cond.code yM_isAlike cM_isAlike 5 (some .boolean) :: A9) 0 σ [.ref (ad 0), .int (fI a), .int (fI b)] (f_QI (fun r σ1 => σ1 = σ ∧ ((m_alike σ a b ∧ r = 1) ∨ (¬ m_alike σ a b ∧ r = 0))) (mG xCl D cA ad)) := by
  refine f_enter (by decide +kernel) hJ rfl (Nat.le_of_ble_eq_true rfl) ?_
  intro z hzl hR C hRt hLk hEz
  subst hzl
  have hca := h12 a.toNat
  have hcb := h12 b.toNat
  have L : σ.2 12 a.toNat = σ.2 12 b.toNat → ∀ (m : Nat) (k : Int), k + m = σ.2 12 a.toNat → 0 ≤ k → (∀ t : Int, 0 ≤ t → t < k → σ.2 7 (σ.2 11 a.toNat + t).toNat = σ.2 7 (σ.2 11 b.toNat + t).toNat) → fv z (mG xCl D cA ad) 5 (f_R z (mG xCl D cA ad) (f_QI (fun r σ1 => σ1 = σ ∧ ((m_alike σ a b ∧ r = 1) ∨ (¬ m_alike σ a b ∧ r = 0))) (mG xCl D cA ad))) 0 0 σ 24 [some (.ref (ad 0)), some (.int (fI a)), some (.int (fI b)), some (.int (fI 1)), some (.int (fI k))] [] := by
    intro hcc m
    induction m with
    | zero =>
      intro k hk hk0 hall
      have hb1 := h7 (σ.2 11 a.toNat + k).toNat
      have hb2 := h7 (σ.2 11 b.toNat + k).toNat
      refine v_iload C dM_isAlike_24 rfl ?_
      refine v_aload_n C dM_isAlike_26 rfl rfl ?_
      refine v_getR (k := 0) (q := 15) C dM_isAlike_27 (by show (0 : Nat) < 18; decide) rfl rfl (by decide) rfl inM lM_45 rfl ?_
      refine v_iload_n C dM_isAlike_30 rfl rfl ?_
      refine v_iald (k := 12) (v := σ.2 12 (a).toNat) C dM_isAlike_31 (by show (12 : Nat) < 18; decide) rfl rfl (by omega) (by decide) rfl ?_
      refine v_icmp_ge (tgt := 82) C dM_isAlike_32 (by decide) (by omega) (by omega) (fun hc1 => ?_) (fun hc1 => ?_)
      · refine v_iload_n C dM_isAlike_82 rfl rfl ?_
        exact v_zret C hRt hLk dM_isAlike_83 (fN_bool (by omega)) ⟨rfl, by first | exact Or.inl ⟨⟨by omega, fun t h0 h1 => hall t h0 (by omega)⟩, rfl⟩ | exact Or.inr ⟨fun h9 => by first | (have h91 := h9.1; omega) | (have h92 := h9.2 k (by omega) (by omega); omega), rfl⟩⟩
      · exfalso; omega
    | succ m ih =>
      intro k hk hk0 hall
      have hb1 := h7 (σ.2 11 a.toNat + k).toNat
      have hb2 := h7 (σ.2 11 b.toNat + k).toNat
      refine v_iload C dM_isAlike_24 rfl ?_
      refine v_aload_n C dM_isAlike_26 rfl rfl ?_
      refine v_getR (k := 0) (q := 15) C dM_isAlike_27 (by show (0 : Nat) < 18; decide) rfl rfl (by decide) rfl inM lM_45 rfl ?_
      refine v_iload_n C dM_isAlike_30 rfl rfl ?_
      refine v_iald (k := 12) (v := σ.2 12 (a).toNat) C dM_isAlike_31 (by show (12 : Nat) < 18; decide) rfl rfl (by omega) (by decide) rfl ?_
      refine v_icmp_ge (tgt := 82) C dM_isAlike_32 (by decide) (by omega) (by omega) (fun hc2 => ?_) (fun hc2 => ?_)
      · refine v_iload_n C dM_isAlike_82 rfl rfl ?_
        exact v_zret C hRt hLk dM_isAlike_83 (fN_bool (by omega)) ⟨rfl, by first | exact Or.inl ⟨⟨by omega, fun t h0 h1 => hall t h0 (by omega)⟩, rfl⟩ | exact Or.inr ⟨fun h9 => by first | (have h91 := h9.1; omega) | (have h92 := h9.2 k (by omega) (by omega); omega), rfl⟩⟩
      · refine v_iload_n C dM_isAlike_35 rfl rfl ?_
        refine v_if_eq (tgt := 82) C dM_isAlike_36 (by decide) (by omega) (fun hc3 => ?_) (fun hc3 => ?_)
        · exfalso; omega
        · refine v_aload_n C dM_isAlike_39 rfl rfl ?_
          refine v_getR (k := 0) (q := 8) C dM_isAlike_40 (by show (0 : Nat) < 18; decide) rfl rfl (by decide) rfl inM lM_30 rfl ?_
          refine v_aload_n C dM_isAlike_43 rfl rfl ?_
          refine v_getR (k := 0) (q := 14) C dM_isAlike_44 (by show (0 : Nat) < 18; decide) rfl rfl (by decide) rfl inM lM_42 rfl ?_
          refine v_iload_n C dM_isAlike_47 rfl rfl ?_
          refine v_iald (k := 11) (v := σ.2 11 (a).toNat) C dM_isAlike_48 (by show (11 : Nat) < 18; decide) rfl rfl (by omega) (by decide) rfl ?_
          refine v_iload C dM_isAlike_49 rfl ?_
          refine v_iadd C dM_isAlike_51 ?_
          refine v_bald (k := 7) (v := σ.2 7 ((σ.2 11 (a).toNat + k)).toNat) C dM_isAlike_52 (by show (7 : Nat) < 18; decide) rfl rfl (by omega) (by decide) rfl ?_
          refine v_aload_n C dM_isAlike_53 rfl rfl ?_
          refine v_getR (k := 0) (q := 8) C dM_isAlike_54 (by show (0 : Nat) < 18; decide) rfl rfl (by decide) rfl inM lM_30 rfl ?_
          refine v_aload_n C dM_isAlike_57 rfl rfl ?_
          refine v_getR (k := 0) (q := 14) C dM_isAlike_58 (by show (0 : Nat) < 18; decide) rfl rfl (by decide) rfl inM lM_42 rfl ?_
          refine v_iload_n C dM_isAlike_61 rfl rfl ?_
          refine v_iald (k := 11) (v := σ.2 11 (b).toNat) C dM_isAlike_62 (by show (11 : Nat) < 18; decide) rfl rfl (by omega) (by decide) rfl ?_
          refine v_iload C dM_isAlike_63 rfl ?_
          refine v_iadd C dM_isAlike_65 ?_
          refine v_bald (k := 7) (v := σ.2 7 ((σ.2 11 (b).toNat + k)).toNat) C dM_isAlike_66 (by show (7 : Nat) < 18; decide) rfl rfl (by omega) (by decide) rfl ?_
          refine v_icmp_ne (tgt := 74) C dM_isAlike_67 (by decide) (by omega) (by omega) (fun hc4 => ?_) (fun hc4 => ?_)
          · refine v_iconst C dM_isAlike_74 ?_
            refine v_istore_n C dM_isAlike_75 rfl (by decide) ?_
            refine v_iinc C dM_isAlike_76 rfl (by decide) ?_
            refine v_goto (tgt := 24) C dM_isAlike_79 (by decide) ?_
            refine v_iload C dM_isAlike_24 rfl ?_
            refine v_aload_n C dM_isAlike_26 rfl rfl ?_
            refine v_getR (k := 0) (q := 15) C dM_isAlike_27 (by show (0 : Nat) < 18; decide) rfl rfl (by decide) rfl inM lM_45 rfl ?_
            refine v_iload_n C dM_isAlike_30 rfl rfl ?_
            refine v_iald (k := 12) (v := σ.2 12 (a).toNat) C dM_isAlike_31 (by show (12 : Nat) < 18; decide) rfl rfl (by omega) (by decide) rfl ?_
            refine v_icmp_ge (tgt := 82) C dM_isAlike_32 (by decide) (by omega) (by omega) (fun hc5 => ?_) (fun hc5 => ?_)
            · refine v_iload_n C dM_isAlike_82 rfl rfl ?_
              exact v_zret C hRt hLk dM_isAlike_83 (fN_bool (by omega)) ⟨rfl, by first | exact Or.inl ⟨⟨by omega, fun t h0 h1 => hall t h0 (by omega)⟩, rfl⟩ | exact Or.inr ⟨fun h9 => by first | (have h91 := h9.1; omega) | (have h92 := h9.2 k (by omega) (by omega); omega), rfl⟩⟩
            · refine v_iload_n C dM_isAlike_35 rfl rfl ?_
              refine v_if_eq (tgt := 82) C dM_isAlike_36 (by decide) (by omega) (fun hc6 => ?_) (fun hc6 => ?_)
              · refine v_iload_n C dM_isAlike_82 rfl rfl ?_
                exact v_zret C hRt hLk dM_isAlike_83 (fN_bool (by omega)) ⟨rfl, by first | exact Or.inl ⟨⟨by omega, fun t h0 h1 => hall t h0 (by omega)⟩, rfl⟩ | exact Or.inr ⟨fun h9 => by first | (have h91 := h9.1; omega) | (have h92 := h9.2 k (by omega) (by omega); omega), rfl⟩⟩
              · exfalso; omega
          · refine v_iconst C dM_isAlike_70 ?_
            refine v_goto (tgt := 75) C dM_isAlike_71 (by decide) ?_
            refine v_istore_n C dM_isAlike_75 rfl (by decide) ?_
            refine v_iinc C dM_isAlike_76 rfl (by decide) ?_
            refine v_goto (tgt := 24) C dM_isAlike_79 (by decide) ?_
            exact ih (k + 1) (by omega) (by omega) (fun t h0 h1 => by by_cases h9 : t = k; (· rw [h9]; assumption); (· exact hall t h0 (by omega)))
  refine v_aload_n C dM_isAlike_0 rfl rfl ?_
  refine v_getR (k := 0) (q := 15) C dM_isAlike_1 (by show (0 : Nat) < 18; decide) rfl rfl (by decide) rfl inM lM_45 rfl ?_
  refine v_iload_n C dM_isAlike_4 rfl rfl ?_
  refine v_iald (k := 12) (v := σ.2 12 (a).toNat) C dM_isAlike_5 (by show (12 : Nat) < 18; decide) rfl rfl (by omega) (by decide) rfl ?_
  refine v_aload_n C dM_isAlike_6 rfl rfl ?_
  refine v_getR (k := 0) (q := 15) C dM_isAlike_7 (by show (0 : Nat) < 18; decide) rfl rfl (by decide) rfl inM lM_45 rfl ?_
  refine v_iload_n C dM_isAlike_10 rfl rfl ?_
  refine v_iald (k := 12) (v := σ.2 12 (b).toNat) C dM_isAlike_11 (by show (12 : Nat) < 18; decide) rfl rfl (by omega) (by decide) rfl ?_
  refine v_icmp_ne (tgt := 19) C dM_isAlike_12 (by decide) (by omega) (by omega) (fun hc7 => ?_) (fun hc7 => ?_)
  · refine v_iconst C dM_isAlike_19 ?_
    refine v_istore_n C dM_isAlike_20 rfl (by decide) ?_
    refine v_iconst C dM_isAlike_21 ?_
    refine v_istore C dM_isAlike_22 (by decide) ?_
    refine v_iload C dM_isAlike_24 rfl ?_
    refine v_aload_n C dM_isAlike_26 rfl rfl ?_
    refine v_getR (k := 0) (q := 15) C dM_isAlike_27 (by show (0 : Nat) < 18; decide) rfl rfl (by decide) rfl inM lM_45 rfl ?_
    refine v_iload_n C dM_isAlike_30 rfl rfl ?_
    refine v_iald (k := 12) (v := σ.2 12 (a).toNat) C dM_isAlike_31 (by show (12 : Nat) < 18; decide) rfl rfl (by omega) (by decide) rfl ?_
    refine v_icmp_ge (tgt := 82) C dM_isAlike_32 (by decide) (by omega) (by omega) (fun hc8 => ?_) (fun hc8 => ?_)
    · refine v_iload_n C dM_isAlike_82 rfl rfl ?_
      exact v_zret C hRt hLk dM_isAlike_83 (fN_bool (by omega)) ⟨rfl, by first | exact Or.inl ⟨⟨by omega, fun t h0 h1 => hall t h0 (by omega)⟩, rfl⟩ | exact Or.inr ⟨fun h9 => by first | (have h91 := h9.1; omega) | (have h92 := h9.2 k (by omega) (by omega); omega), rfl⟩⟩
    · refine v_iload_n C dM_isAlike_35 rfl rfl ?_
      refine v_if_eq (tgt := 82) C dM_isAlike_36 (by decide) (by omega) (fun hc9 => ?_) (fun hc9 => ?_)
      · refine v_iload_n C dM_isAlike_82 rfl rfl ?_
        exact v_zret C hRt hLk dM_isAlike_83 (fN_bool (by omega)) ⟨rfl, by first | exact Or.inl ⟨⟨by omega, fun t h0 h1 => hall t h0 (by omega)⟩, rfl⟩ | exact Or.inr ⟨fun h9 => by first | (have h91 := h9.1; omega) | (have h92 := h9.2 k (by omega) (by omega); omega), rfl⟩⟩
      · exfalso; omega
  · refine v_iconst C dM_isAlike_15 ?_
    refine v_goto (tgt := 20) C dM_isAlike_16 (by decide) ?_
    refine v_istore_n C dM_isAlike_20 rfl (by decide) ?_
    refine v_iconst C dM_isAlike_21 ?_
    refine v_istore C dM_isAlike_22 (by decide) ?_
    exact L (by omega) (σ.2 12 a.toNat).toNat 0 (by omega) (by omega) (fun t h0 h1 => absurd h1 (by omega))
