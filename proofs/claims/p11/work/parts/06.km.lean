/-- contracts may be weakened -/
theorem f_weakI {l : Launch} {G : fG} {E : Nat → State → Prop} {y : MethodName} {ws : List Cond} {d : Nat} {σ : fS} {av : List Value} {p q : Int → fS → Prop} (h : f_M l G E y ws d σ av (f_QI p G)) (hpq : ∀ r σ1, p r σ1 → q r σ1) : f_M l G E y ws d σ av (f_QI q G) := by
  intro sz p e ha hc hk s m args below hf happ hP hK
  obtain ⟨n, o, h1, h2, h3, h4⟩ := h sz p e ha hc hk s m args below hf happ hP hK
  obtain ⟨⟨⟨r, u, g1, ⟨g2, g3⟩, g4⟩, g5⟩, g6⟩ := h4
  exact ⟨n, o, h1, h2, h3, ⟨⟨⟨r, u, g1, ⟨g2, hpq _ _ g3⟩, g4⟩, g5⟩, g6⟩⟩
def m_isB (σ : fS) (n i : Int) : Prop := ((1 ≤ n ∧ n ≤ 40) ∧ σ.2 1 n.toNat = 1) ∧ 0 ≤ i ∧ i < σ.2 5 n.toNat
theorem kM_isObject2 (l : Launch) (xCl : List vw_C) (D : va_G) (cA : Nat → ClassId) (ad : Nat → Nat) (hJ : f_J (mG xCl D cA ad)) (σ : fS) (n : Int) (hn : -2147483648 ≤ n ∧ n ≤ 2147483647) : f_M l (mG xCl D cA ad) mE yM_isObject (Cond.code yM_isObject cM_isObject 1 (some .boolean) :: A9) 0 σ [.int (fI n)] (f_QI (fun r σ1 => ((1 ≤ n ∧ n ≤ 40) ∧ r = 1 ∧ σ1 = σ) ∨ (¬ (1 ≤ n ∧ n ≤ 40) ∧ r = 0 ∧ σ1 = σ)) (mG xCl D cA ad)) :=
  f_weakI (kM_isObject l xCl D cA ad hJ σ n hn) (fun r σ1 h => by
    obtain ⟨h1, h2⟩ := h
    by_cases hc : 1 ≤ n ∧ n ≤ 40
    · rw [if_pos hc] at h1; exact Or.inl ⟨hc, h1, h2⟩
    · rw [if_neg hc] at h1; exact Or.inr ⟨hc, h1, h2⟩)
theorem kM_has2 (l : Launch) (xCl : List vw_C) (D : va_G) (cA : Nat → ClassId) (ad : Nat → Nat) (hJ : f_J (mG xCl D cA ad)) (σ : fS) (n : Int) (hn : -2147483648 ≤ n ∧ n ≤ 2147483647) (h1 : ∀ i, 0 ≤ σ.2 1 i ∧ σ.2 1 i ≤ 1) : f_M l (mG xCl D cA ad) mE yM_has (Cond.code yM_has cM_has 2 (some .boolean) :: A9) 1 σ [.ref (ad 0), .int (fI n)] (f_QI (fun r σ1 => (((1 ≤ n ∧ n ≤ 40) ∧ σ.2 1 n.toNat = 1) ∧ r = 1 ∧ σ1 = σ) ∨ (¬ ((1 ≤ n ∧ n ≤ 40) ∧ σ.2 1 n.toNat = 1) ∧ r = 0 ∧ σ1 = σ)) (mG xCl D cA ad)) :=
  f_weakI (kM_has l xCl D cA ad hJ σ n hn h1) (fun r σ1 h => by
    obtain ⟨h1, h2⟩ := h
    by_cases hc : (1 ≤ n ∧ n ≤ 40) ∧ σ.2 1 n.toNat = 1
    · rw [if_pos hc] at h1; exact Or.inl ⟨hc, h1, h2⟩
    · rw [if_neg hc] at h1; exact Or.inr ⟨hc, h1, h2⟩)
set_option maxRecDepth 100000 in
set_option maxHeartbeats 4000000 in
/-- isMeant(n, whole) -/
theorem kM_isMeant (l : Launch) (xCl : List vw_C) (D : va_G) (cA : Nat → ClassId) (ad : Nat → Nat) (hJ : f_J (mG xCl D cA ad)) (σ : fS) (n w : Int) (hn : 1 ≤ n ∧ n ≤ 40) (hw : w = 0 ∨ w = 1) (h1 : ∀ i, 0 ≤ σ.2 1 i ∧ σ.2 1 i ≤ 1) (h3 : ∀ i, 0 ≤ σ.2 3 i ∧ σ.2 3 i ≤ 1) : f_M l (mG xCl D cA ad) mE yM_isMeant (Cond.code yM_isMeant cM_isMeant 3 (some .boolean) :: A9) 0 σ [.ref (ad 0), .int (fI n), .int (fI w)] (f_QI (fun r σ1 => (w = 1 ∧ r = σ.2 1 n.toNat ∧ σ1 = σ) ∨ (w = 0 ∧ r = σ.2 3 n.toNat ∧ σ1 = σ)) (mG xCl D cA ad)) := by
  refine f_enter (by decide +kernel) hJ rfl (Nat.le_of_ble_eq_true rfl) ?_
  intro z hzl hR C hRt hLk hEz
  subst hzl
  refine v_iload_n C dM_isMeant_0 rfl rfl ?_
  refine v_if_eq (tgt := 13) C dM_isMeant_1 (by decide) (by omega) (fun hc1 => ?_) (fun hc1 => ?_)
  · refine v_aload_n C dM_isMeant_13 rfl rfl ?_
    refine v_getR (k := 0) (q := 3) C dM_isMeant_14 (by show (0 : Nat) < 18; decide) rfl rfl (by decide) rfl inM lM_16 rfl ?_
    refine v_iload_n C dM_isMeant_17 rfl rfl ?_
    have hb2 := h3 (n).toNat
    refine v_zald (k := 3) (v := σ.2 3 (n).toNat) C dM_isMeant_18 (by show (3 : Nat) < 18; decide) rfl rfl (by omega) (by decide) rfl ?_
    exact v_zret C hRt hLk dM_isMeant_19 (fN_bool (by omega)) (by first | exact Or.inl ⟨by omega, rfl, rfl⟩ | exact Or.inr ⟨by omega, rfl, rfl⟩)
  · refine v_aload_n C dM_isMeant_4 rfl rfl ?_
    refine v_getR (k := 0) (q := 1) C dM_isMeant_5 (by show (0 : Nat) < 18; decide) rfl rfl (by decide) rfl inM lM_7 rfl ?_
    refine v_iload_n C dM_isMeant_8 rfl rfl ?_
    have hb3 := h1 (n).toNat
    refine v_zald (k := 1) (v := σ.2 1 (n).toNat) C dM_isMeant_9 (by show (1 : Nat) < 18; decide) rfl rfl (by omega) (by decide) rfl ?_
    refine v_goto (tgt := 19) C dM_isMeant_10 (by decide) ?_
    exact v_zret C hRt hLk dM_isMeant_19 (fN_bool (by omega)) (by first | exact Or.inl ⟨by omega, rfl, rfl⟩ | exact Or.inr ⟨by omega, rfl, rfl⟩)
set_option maxRecDepth 100000 in
set_option maxHeartbeats 4000000 in
/-- wrong(at) -/
theorem kM_wrong (l : Launch) (xCl : List vw_C) (D : va_G) (cA : Nat → ClassId) (ad : Nat → Nat) (hJ : f_J (mG xCl D cA ad)) (σ : fS) (a : Int) : f_M l (mG xCl D cA ad) mE yM_wrong (Cond.code yM_wrong cM_wrong 2 (some .boolean) :: A9) 0 σ [.ref (ad 0), .int (fI a)] (f_QI (fun r σ1 => r = 0 ∧ σ1 = f_p1 σ 0 23 a) (mG xCl D cA ad)) := by
  refine f_enter (by decide +kernel) hJ rfl (Nat.le_of_ble_eq_true rfl) ?_
  intro z hzl hR C hRt hLk hEz
  subst hzl
  refine v_aload_n C dM_wrong_0 rfl rfl ?_
  refine v_iload_n C dM_wrong_1 rfl rfl ?_
  refine v_putI (k := 0) (q := 23) C dM_wrong_2 (by show (0 : Nat) < 18; decide) rfl rfl (by decide) rfl inM tyM_ok nmM lM_166 rfl rfl rfl rfl rfl ?_
  refine v_iconst C dM_wrong_5 ?_
  exact v_zret C hRt hLk dM_wrong_6 (fN_bool (by omega)) ⟨rfl, rfl⟩
set_option maxRecDepth 100000 in
set_option maxHeartbeats 4000000 in
/-- isRevision(r) -/
theorem kM_isRevision (l : Launch) (xCl : List vw_C) (D : va_G) (cA : Nat → ClassId) (ad : Nat → Nat) (hJ : f_J (mG xCl D cA ad)) (σ : fS) (a : Int) (ha : -2147483648 ≤ a ∧ a ≤ 2147483647) (hr : 0 ≤ σ.1 0 10 ∧ σ.1 0 10 ≤ 60) : f_M l (mG xCl D cA ad) mE yM_isRevision (Cond.code yM_isRevision cM_isRevision 2 (some .boolean) :: A9) 0 σ [.ref (ad 0), .int (fI a)] (f_QI (fun r σ1 => ((0 ≤ a ∧ a < σ.1 0 10) ∧ r = 1 ∧ σ1 = f_p1 σ 0 0 0) ∨ (¬ (0 ≤ a ∧ a < σ.1 0 10) ∧ r = 0 ∧ σ1 = f_p1 σ 0 0 1)) (mG xCl D cA ad)) := by
  refine f_enter (by decide +kernel) hJ rfl (Nat.le_of_ble_eq_true rfl) ?_
  intro z hzl hR C hRt hLk hEz
  subst hzl
  refine v_aload_n C dM_isRevision_0 rfl rfl ?_
  refine v_iload_n C dM_isRevision_1 rfl rfl ?_
  refine v_if_lt (tgt := 13) C dM_isRevision_2 (by decide) (by omega) (fun hc1 => ?_) (fun hc1 => ?_)
  · refine v_iconst C dM_isRevision_13 ?_
    refine v_goto (tgt := 18) C dM_isRevision_14 (by decide) ?_
    refine v_putI (k := 0) (q := 0) C dM_isRevision_18 (by show (0 : Nat) < 18; decide) rfl rfl (by decide) rfl inM tyM_ok nmM lM_63 rfl rfl rfl rfl rfl ?_
    refine v_aload_n C dM_isRevision_21 rfl rfl ?_
    refine v_getI (k := 0) (q := 0) (v := 1) C dM_isRevision_22 (by show (0 : Nat) < 18; decide) rfl rfl (by decide) rfl inM lM_63 rfl rfl ?_
    refine v_if_ne (tgt := 32) C dM_isRevision_25 (by decide) (by omega) (fun hc2 => ?_) (fun hc2 => ?_)
    · refine v_iconst C dM_isRevision_32 ?_
      exact v_zret C hRt hLk dM_isRevision_33 (fN_bool (by omega)) (by first | exact Or.inl ⟨by omega, rfl, rfl⟩ | exact Or.inr ⟨by omega, rfl, rfl⟩)
    · exfalso; omega
  · refine v_iload_n C dM_isRevision_5 rfl rfl ?_
    refine v_aload_n C dM_isRevision_6 rfl rfl ?_
    refine v_getI (k := 0) (q := 10) (v := σ.1 0 10) C dM_isRevision_7 (by show (0 : Nat) < 18; decide) rfl rfl (by decide) rfl inM lM_110 rfl rfl ?_
    refine v_icmp_lt (tgt := 17) C dM_isRevision_10 (by decide) (by omega) (by omega) (fun hc3 => ?_) (fun hc3 => ?_)
    · refine v_iconst C dM_isRevision_17 ?_
      refine v_putI (k := 0) (q := 0) C dM_isRevision_18 (by show (0 : Nat) < 18; decide) rfl rfl (by decide) rfl inM tyM_ok nmM lM_63 rfl rfl rfl rfl rfl ?_
      refine v_aload_n C dM_isRevision_21 rfl rfl ?_
      refine v_getI (k := 0) (q := 0) (v := 0) C dM_isRevision_22 (by show (0 : Nat) < 18; decide) rfl rfl (by decide) rfl inM lM_63 rfl rfl ?_
      refine v_if_ne (tgt := 32) C dM_isRevision_25 (by decide) (by omega) (fun hc4 => ?_) (fun hc4 => ?_)
      · exfalso; omega
      · refine v_iconst C dM_isRevision_28 ?_
        refine v_goto (tgt := 33) C dM_isRevision_29 (by decide) ?_
        exact v_zret C hRt hLk dM_isRevision_33 (fN_bool (by omega)) (by first | exact Or.inl ⟨by omega, rfl, rfl⟩ | exact Or.inr ⟨by omega, rfl, rfl⟩)
    · refine v_iconst C dM_isRevision_13 ?_
      refine v_goto (tgt := 18) C dM_isRevision_14 (by decide) ?_
      refine v_putI (k := 0) (q := 0) C dM_isRevision_18 (by show (0 : Nat) < 18; decide) rfl rfl (by decide) rfl inM tyM_ok nmM lM_63 rfl rfl rfl rfl rfl ?_
      refine v_aload_n C dM_isRevision_21 rfl rfl ?_
      refine v_getI (k := 0) (q := 0) (v := 1) C dM_isRevision_22 (by show (0 : Nat) < 18; decide) rfl rfl (by decide) rfl inM lM_63 rfl rfl ?_
      refine v_if_ne (tgt := 32) C dM_isRevision_25 (by decide) (by omega) (fun hc5 => ?_) (fun hc5 => ?_)
      · refine v_iconst C dM_isRevision_32 ?_
        exact v_zret C hRt hLk dM_isRevision_33 (fN_bool (by omega)) (by first | exact Or.inl ⟨by omega, rfl, rfl⟩ | exact Or.inr ⟨by omega, rfl, rfl⟩)
      · exfalso; omega
set_option maxRecDepth 100000 in
set_option maxHeartbeats 4000000 in
/-- isByte(n, i) -/
theorem kM_isByte (l : Launch) (xCl : List vw_C) (D : va_G) (cA : Nat → ClassId) (ad : Nat → Nat) (hJ : f_J (mG xCl D cA ad)) (σ : fS) (n i : Int) (hn : -2147483648 ≤ n ∧ n ≤ 2147483647) (hi : -2147483648 ≤ i ∧ i ≤ 2147483647) (h1 : ∀ i, 0 ≤ σ.2 1 i ∧ σ.2 1 i ≤ 1) (h5 : ∀ i, 0 ≤ σ.2 5 i ∧ σ.2 5 i ≤ 120) : f_M l (mG xCl D cA ad) mE yM_isByte (Cond.code yM_isByte cM_isByte 3 (some .boolean) :: A9) 2 σ [.ref (ad 0), .int (fI n), .int (fI i)] (f_QI (fun r σ1 => (m_isB σ n i ∧ r = 1 ∧ σ1 = f_p1 σ 0 0 0) ∨ (¬ m_isB σ n i ∧ r = 0 ∧ σ1 = f_p1 σ 0 0 1)) (mG xCl D cA ad)) := by
  refine f_enter (by decide +kernel) hJ rfl (Nat.le_of_ble_eq_true rfl) ?_
  intro z hzl hR C hRt hLk hEz
  subst hzl
  refine v_aload_n C dM_isByte_0 rfl rfl ?_
  refine v_aload_n C dM_isByte_1 rfl rfl ?_
  refine v_iload_n C dM_isByte_2 rfl rfl ?_
  refine v_cVI (k := 0) (n := 1) C (mE_ok _) trivial hR (kM_has2 _ xCl D cA ad hJ _ (n) (by omega) h1) dM_isByte_3 (by show (0 : Nat) < 18; decide) rfl rfl gM_71 (by decide +kernel) (by decide) (by decide) rfl (Nat.le_of_ble_eq_true rfl) rfl ⟨rfl, rfl⟩ (fun r1 σ1 hp1 => ?_)
  rcases hp1 with ⟨hq, rfl, e2⟩ | ⟨hq, rfl, e2⟩
  · subst σ1
    refine v_if_eq (tgt := 23) C dM_isByte_6 (by decide) (by omega) (fun hc1 => ?_) (fun hc1 => ?_)
    · exfalso; omega
    · refine v_iload_n C dM_isByte_9 rfl rfl ?_
      refine v_if_lt (tgt := 23) C dM_isByte_10 (by decide) (by omega) (fun hc2 => ?_) (fun hc2 => ?_)
      · refine v_iconst C dM_isByte_23 ?_
        refine v_goto (tgt := 28) C dM_isByte_24 (by decide) ?_
        refine v_putI (k := 0) (q := 0) C dM_isByte_28 (by show (0 : Nat) < 18; decide) rfl rfl (by decide) rfl inM tyM_ok nmM lM_63 rfl rfl rfl rfl rfl ?_
        refine v_aload_n C dM_isByte_31 rfl rfl ?_
        refine v_getI (k := 0) (q := 0) (v := 1) C dM_isByte_32 (by show (0 : Nat) < 18; decide) rfl rfl (by decide) rfl inM lM_63 rfl rfl ?_
        refine v_if_ne (tgt := 42) C dM_isByte_35 (by decide) (by omega) (fun hc3 => ?_) (fun hc3 => ?_)
        · refine v_iconst C dM_isByte_42 ?_
          exact v_zret C hRt hLk dM_isByte_43 (fN_bool (by omega)) (by unfold m_isB; first | exact Or.inl ⟨by omega, rfl, rfl⟩ | exact Or.inr ⟨by omega, rfl, rfl⟩)
        · exfalso; omega
      · refine v_iload_n C dM_isByte_13 rfl rfl ?_
        refine v_aload_n C dM_isByte_14 rfl rfl ?_
        refine v_getR (k := 0) (q := 5) C dM_isByte_15 (by show (0 : Nat) < 18; decide) rfl rfl (by decide) rfl inM lM_22 rfl ?_
        refine v_iload_n C dM_isByte_18 rfl rfl ?_
        have hb4 := h5 (n).toNat
        refine v_iald (k := 5) (v := σ.2 5 (n).toNat) C dM_isByte_19 (by show (5 : Nat) < 18; decide) rfl rfl (by omega) (by decide) rfl ?_
        refine v_icmp_lt (tgt := 27) C dM_isByte_20 (by decide) (by omega) (by omega) (fun hc5 => ?_) (fun hc5 => ?_)
        · refine v_iconst C dM_isByte_27 ?_
          refine v_putI (k := 0) (q := 0) C dM_isByte_28 (by show (0 : Nat) < 18; decide) rfl rfl (by decide) rfl inM tyM_ok nmM lM_63 rfl rfl rfl rfl rfl ?_
          refine v_aload_n C dM_isByte_31 rfl rfl ?_
          refine v_getI (k := 0) (q := 0) (v := 0) C dM_isByte_32 (by show (0 : Nat) < 18; decide) rfl rfl (by decide) rfl inM lM_63 rfl rfl ?_
          refine v_if_ne (tgt := 42) C dM_isByte_35 (by decide) (by omega) (fun hc6 => ?_) (fun hc6 => ?_)
          · exfalso; omega
          · refine v_iconst C dM_isByte_38 ?_
            refine v_goto (tgt := 43) C dM_isByte_39 (by decide) ?_
            exact v_zret C hRt hLk dM_isByte_43 (fN_bool (by omega)) (by unfold m_isB; first | exact Or.inl ⟨by omega, rfl, rfl⟩ | exact Or.inr ⟨by omega, rfl, rfl⟩)
        · refine v_iconst C dM_isByte_23 ?_
          refine v_goto (tgt := 28) C dM_isByte_24 (by decide) ?_
          refine v_putI (k := 0) (q := 0) C dM_isByte_28 (by show (0 : Nat) < 18; decide) rfl rfl (by decide) rfl inM tyM_ok nmM lM_63 rfl rfl rfl rfl rfl ?_
          refine v_aload_n C dM_isByte_31 rfl rfl ?_
          refine v_getI (k := 0) (q := 0) (v := 1) C dM_isByte_32 (by show (0 : Nat) < 18; decide) rfl rfl (by decide) rfl inM lM_63 rfl rfl ?_
          refine v_if_ne (tgt := 42) C dM_isByte_35 (by decide) (by omega) (fun hc7 => ?_) (fun hc7 => ?_)
          · refine v_iconst C dM_isByte_42 ?_
            exact v_zret C hRt hLk dM_isByte_43 (fN_bool (by omega)) (by unfold m_isB; first | exact Or.inl ⟨by omega, rfl, rfl⟩ | exact Or.inr ⟨by omega, rfl, rfl⟩)
          · exfalso; omega
  · subst σ1
    refine v_if_eq (tgt := 23) C dM_isByte_6 (by decide) (by omega) (fun hc8 => ?_) (fun hc8 => ?_)
    · refine v_iconst C dM_isByte_23 ?_
      refine v_goto (tgt := 28) C dM_isByte_24 (by decide) ?_
      refine v_putI (k := 0) (q := 0) C dM_isByte_28 (by show (0 : Nat) < 18; decide) rfl rfl (by decide) rfl inM tyM_ok nmM lM_63 rfl rfl rfl rfl rfl ?_
      refine v_aload_n C dM_isByte_31 rfl rfl ?_
      refine v_getI (k := 0) (q := 0) (v := 1) C dM_isByte_32 (by show (0 : Nat) < 18; decide) rfl rfl (by decide) rfl inM lM_63 rfl rfl ?_
      refine v_if_ne (tgt := 42) C dM_isByte_35 (by decide) (by omega) (fun hc9 => ?_) (fun hc9 => ?_)
      · refine v_iconst C dM_isByte_42 ?_
        exact v_zret C hRt hLk dM_isByte_43 (fN_bool (by omega)) (by unfold m_isB; first | exact Or.inl ⟨by omega, rfl, rfl⟩ | exact Or.inr ⟨by omega, rfl, rfl⟩)
      · exfalso; omega
    · exfalso; omega
set_option maxRecDepth 100000 in
set_option maxHeartbeats 4000000 in
/-- at(i) -/
theorem kM_at (l : Launch) (xCl : List vw_C) (D : va_G) (cA : Nat → ClassId) (ad : Nat → Nat) (hJ : f_J (mG xCl D cA ad)) (σ : fS) (i : Int) (hi : -2147483648 ≤ i ∧ i ≤ 2147483647) (hz : 0 ≤ σ.1 0 7 ∧ σ.1 0 7 ≤ 12000) (h7 : ∀ i, -128 ≤ σ.2 7 i ∧ σ.2 7 i ≤ 127) : f_M l (mG xCl D cA ad) mE yM_at (Cond.code yM_at cM_at 2 (some .byte) :: A9) 0 σ [.ref (ad 0), .int (fI i)] (f_QI (fun r σ1 => ((0 ≤ i ∧ i < σ.1 0 7) ∧ r = σ.2 7 i.toNat ∧ σ1 = f_p1 σ 0 0 0) ∨ (¬ (0 ≤ i ∧ i < σ.1 0 7) ∧ r = 0 ∧ σ1 = f_p1 σ 0 0 1)) (mG xCl D cA ad)) := by
  refine f_enter (by decide +kernel) hJ rfl (Nat.le_of_ble_eq_true rfl) ?_
  intro z hzl hR C hRt hLk hEz
  subst hzl
  refine v_aload_n C dM_at_0 rfl rfl ?_
  refine v_iload_n C dM_at_1 rfl rfl ?_
  refine v_if_lt (tgt := 13) C dM_at_2 (by decide) (by omega) (fun hc1 => ?_) (fun hc1 => ?_)
  · refine v_iconst C dM_at_13 ?_
    refine v_goto (tgt := 18) C dM_at_14 (by decide) ?_
    refine v_putI (k := 0) (q := 0) C dM_at_18 (by show (0 : Nat) < 18; decide) rfl rfl (by decide) rfl inM tyM_ok nmM lM_63 rfl rfl rfl rfl rfl ?_
    refine v_aload_n C dM_at_21 rfl rfl ?_
    refine v_getI (k := 0) (q := 0) (v := 1) C dM_at_22 (by show (0 : Nat) < 18; decide) rfl rfl (by decide) rfl inM lM_63 rfl rfl ?_
    refine v_if_le (tgt := 32) C dM_at_25 (by decide) (by omega) (fun hc2 => ?_) (fun hc2 => ?_)
    · exfalso; omega
    · refine v_iconst C dM_at_28 ?_
      refine v_goto (tgt := 38) C dM_at_29 (by decide) ?_
      exact v_zret C hRt hLk dM_at_38 (fN_byte (by omega) (by omega)) (by first | exact Or.inl ⟨by omega, rfl, rfl⟩ | exact Or.inr ⟨by omega, rfl, rfl⟩)
  · refine v_iload_n C dM_at_5 rfl rfl ?_
    refine v_aload_n C dM_at_6 rfl rfl ?_
    refine v_getI (k := 0) (q := 7) (v := σ.1 0 7) C dM_at_7 (by show (0 : Nat) < 18; decide) rfl rfl (by decide) rfl inM lM_116 rfl rfl ?_
    refine v_icmp_lt (tgt := 17) C dM_at_10 (by decide) (by omega) (by omega) (fun hc3 => ?_) (fun hc3 => ?_)
    · refine v_iconst C dM_at_17 ?_
      refine v_putI (k := 0) (q := 0) C dM_at_18 (by show (0 : Nat) < 18; decide) rfl rfl (by decide) rfl inM tyM_ok nmM lM_63 rfl rfl rfl rfl rfl ?_
      refine v_aload_n C dM_at_21 rfl rfl ?_
      refine v_getI (k := 0) (q := 0) (v := 0) C dM_at_22 (by show (0 : Nat) < 18; decide) rfl rfl (by decide) rfl inM lM_63 rfl rfl ?_
      refine v_if_le (tgt := 32) C dM_at_25 (by decide) (by omega) (fun hc4 => ?_) (fun hc4 => ?_)
      · refine v_aload_n C dM_at_32 rfl rfl ?_
        refine v_getR (k := 0) (q := 8) C dM_at_33 (by show (0 : Nat) < 18; decide) rfl rfl (by decide) rfl inM lM_30 rfl ?_
        refine v_iload_n C dM_at_36 rfl rfl ?_
        have hb5 := h7 (i).toNat
        refine v_bald (k := 7) (v := σ.2 7 (i).toNat) C dM_at_37 (by show (7 : Nat) < 18; decide) rfl rfl (by omega) (by decide) rfl ?_
        exact v_zret C hRt hLk dM_at_38 (fN_byte (by omega) (by omega)) (by first | exact Or.inl ⟨by omega, rfl, rfl⟩ | exact Or.inr ⟨by omega, rfl, rfl⟩)
      · exfalso; omega
    · refine v_iconst C dM_at_13 ?_
      refine v_goto (tgt := 18) C dM_at_14 (by decide) ?_
      refine v_putI (k := 0) (q := 0) C dM_at_18 (by show (0 : Nat) < 18; decide) rfl rfl (by decide) rfl inM tyM_ok nmM lM_63 rfl rfl rfl rfl rfl ?_
      refine v_aload_n C dM_at_21 rfl rfl ?_
      refine v_getI (k := 0) (q := 0) (v := 1) C dM_at_22 (by show (0 : Nat) < 18; decide) rfl rfl (by decide) rfl inM lM_63 rfl rfl ?_
      refine v_if_le (tgt := 32) C dM_at_25 (by decide) (by omega) (fun hc6 => ?_) (fun hc6 => ?_)
      · exfalso; omega
      · refine v_iconst C dM_at_28 ?_
        refine v_goto (tgt := 38) C dM_at_29 (by decide) ?_
        exact v_zret C hRt hLk dM_at_38 (fN_byte (by omega) (by omega)) (by first | exact Or.inl ⟨by omega, rfl, rfl⟩ | exact Or.inr ⟨by omega, rfl, rfl⟩)
set_option maxRecDepth 100000 in
set_option maxHeartbeats 4000000 in
/-- length(n) -/
theorem kM_length (l : Launch) (xCl : List vw_C) (D : va_G) (cA : Nat → ClassId) (ad : Nat → Nat) (hJ : f_J (mG xCl D cA ad)) (σ : fS) (n : Int) (hn : -2147483648 ≤ n ∧ n ≤ 2147483647) (h1 : ∀ i, 0 ≤ σ.2 1 i ∧ σ.2 1 i ≤ 1) (h5 : ∀ i, 0 ≤ σ.2 5 i ∧ σ.2 5 i ≤ 120) : f_M l (mG xCl D cA ad) mE yM_length (Cond.code yM_length cM_length 2 (some .int) :: A9) 1 σ [.ref (ad 0), .int (fI n)] (f_QI (fun r σ1 => ((1 ≤ n ∧ n ≤ 40) ∧ ((σ.2 1 n.toNat = 1 ∧ r = σ.2 5 n.toNat) ∨ (σ.2 1 n.toNat = 0 ∧ r = -1)) ∧ σ1 = f_p1 σ 0 0 0) ∨ (¬ (1 ≤ n ∧ n ≤ 40) ∧ r = 0 ∧ σ1 = f_p1 σ 0 0 1)) (mG xCl D cA ad)) := by
  refine f_enter (by decide +kernel) hJ rfl (Nat.le_of_ble_eq_true rfl) ?_
  intro z hzl hR C hRt hLk hEz
  subst hzl
  refine v_aload_n C dM_length_0 rfl rfl ?_
  refine v_iload_n C dM_length_1 rfl rfl ?_
  refine v_cSI (n := 1) C (mE_ok _) trivial hR (kM_isObject2 _ xCl D cA ad hJ _ (n) (by omega)) dM_length_2 gM_67 (by decide +kernel) (by decide) (by decide) rfl (Nat.le_of_ble_eq_true rfl) rfl ⟨rfl, rfl⟩ (fun r1 σ1 hp1 => ?_)
  rcases hp1 with ⟨hq, rfl, e2⟩ | ⟨hq, rfl, e2⟩
  · subst σ1
    refine v_if_eq (tgt := 12) C dM_length_5 (by decide) (by omega) (fun hc1 => ?_) (fun hc1 => ?_)
    · exfalso; omega
    · refine v_iconst C dM_length_8 ?_
      refine v_goto (tgt := 13) C dM_length_9 (by decide) ?_
      refine v_putI (k := 0) (q := 0) C dM_length_13 (by show (0 : Nat) < 18; decide) rfl rfl (by decide) rfl inM tyM_ok nmM lM_63 rfl rfl rfl rfl rfl ?_
      refine v_aload_n C dM_length_16 rfl rfl ?_
      refine v_getI (k := 0) (q := 0) (v := 0) C dM_length_17 (by show (0 : Nat) < 18; decide) rfl rfl (by decide) rfl inM lM_63 rfl rfl ?_
      refine v_if_le (tgt := 27) C dM_length_20 (by decide) (by omega) (fun hc2 => ?_) (fun hc2 => ?_)
      · refine v_aload_n C dM_length_27 rfl rfl ?_
        refine v_getR (k := 0) (q := 1) C dM_length_28 (by show (0 : Nat) < 18; decide) rfl rfl (by decide) rfl inM lM_7 rfl ?_
        refine v_iload_n C dM_length_31 rfl rfl ?_
        have hb3 := h1 (n).toNat
        refine v_zald (k := 1) (v := σ.2 1 (n).toNat) C dM_length_32 (by show (1 : Nat) < 18; decide) rfl rfl (by omega) (by decide) rfl ?_
        refine v_if_eq (tgt := 45) C dM_length_33 (by decide) (by omega) (fun hc4 => ?_) (fun hc4 => ?_)
        · refine v_iconst C dM_length_45 ?_
          exact v_iret C hRt hLk dM_length_46 (by first | exact Or.inl ⟨by omega, by omega, rfl⟩ | exact Or.inr ⟨by omega, rfl, rfl⟩)
        · refine v_aload_n C dM_length_36 rfl rfl ?_
          refine v_getR (k := 0) (q := 5) C dM_length_37 (by show (0 : Nat) < 18; decide) rfl rfl (by decide) rfl inM lM_22 rfl ?_
          refine v_iload_n C dM_length_40 rfl rfl ?_
          have hb5 := h5 (n).toNat
          refine v_iald (k := 5) (v := σ.2 5 (n).toNat) C dM_length_41 (by show (5 : Nat) < 18; decide) rfl rfl (by omega) (by decide) rfl ?_
          refine v_goto (tgt := 46) C dM_length_42 (by decide) ?_
          exact v_iret C hRt hLk dM_length_46 (by first | exact Or.inl ⟨by omega, by omega, rfl⟩ | exact Or.inr ⟨by omega, rfl, rfl⟩)
      · exfalso; omega
  · subst σ1
    refine v_if_eq (tgt := 12) C dM_length_5 (by decide) (by omega) (fun hc6 => ?_) (fun hc6 => ?_)
    · refine v_iconst C dM_length_12 ?_
      refine v_putI (k := 0) (q := 0) C dM_length_13 (by show (0 : Nat) < 18; decide) rfl rfl (by decide) rfl inM tyM_ok nmM lM_63 rfl rfl rfl rfl rfl ?_
      refine v_aload_n C dM_length_16 rfl rfl ?_
      refine v_getI (k := 0) (q := 0) (v := 1) C dM_length_17 (by show (0 : Nat) < 18; decide) rfl rfl (by decide) rfl inM lM_63 rfl rfl ?_
      refine v_if_le (tgt := 27) C dM_length_20 (by decide) (by omega) (fun hc7 => ?_) (fun hc7 => ?_)
      · exfalso; omega
      · refine v_iconst C dM_length_23 ?_
        refine v_goto (tgt := 46) C dM_length_24 (by decide) ?_
        exact v_iret C hRt hLk dM_length_46 (by first | exact Or.inl ⟨by omega, by omega, rfl⟩ | exact Or.inr ⟨by omega, rfl, rfl⟩)
    · exfalso; omega
set_option maxRecDepth 100000 in
set_option maxHeartbeats 4000000 in
/-- byteOf(n, i) -/
theorem kM_byteOf (l : Launch) (xCl : List vw_C) (D : va_G) (cA : Nat → ClassId) (ad : Nat → Nat) (hJ : f_J (mG xCl D cA ad)) (σ : fS) (n i : Int) (hn : -2147483648 ≤ n ∧ n ≤ 2147483647) (hi : -2147483648 ≤ i ∧ i ≤ 2147483647) (h1 : ∀ i, 0 ≤ σ.2 1 i ∧ σ.2 1 i ≤ 1) (h5 : ∀ i, 0 ≤ σ.2 5 i ∧ σ.2 5 i ≤ 120) (h6 : ∀ i, -128 ≤ σ.2 6 i ∧ σ.2 6 i ≤ 127) : f_M l (mG xCl D cA ad) mE yM_byteOf (Cond.code yM_byteOf cM_byteOf 3 (some .byte) :: A9) 3 σ [.ref (ad 0), .int (fI n), .int (fI i)] (f_QI (fun r σ1 => (m_isB σ n i ∧ r = σ.2 6 (120 * n + i).toNat ∧ σ1 = f_p1 σ 0 0 0) ∨ (¬ m_isB σ n i ∧ r = 0 ∧ σ1 = f_p1 σ 0 0 1)) (mG xCl D cA ad)) := by
  refine f_enter (by decide +kernel) hJ rfl (Nat.le_of_ble_eq_true rfl) ?_
  intro z hzl hR C hRt hLk hEz
  subst hzl
  refine v_aload_n C dM_byteOf_0 rfl rfl ?_
  refine v_iload_n C dM_byteOf_1 rfl rfl ?_
  refine v_iload_n C dM_byteOf_2 rfl rfl ?_
  refine v_cVI (k := 0) (n := 2) C (mE_ok _) trivial hR (kM_isByte _ xCl D cA ad hJ σ n i (by omega) (by omega) h1 h5) dM_byteOf_3 (by show (0 : Nat) < 18; decide) rfl rfl gM_74 (by decide +kernel) (by decide) (by decide) rfl (Nat.le_of_ble_eq_true rfl) rfl ⟨rfl, rfl⟩ (fun r1 σ1 hp1 => ?_)
  rcases hp1 with ⟨hq, rfl, e2⟩ | ⟨hq, rfl, e2⟩
  · subst σ1
    have hq0 := hq
    unfold m_isB at hq0
    have h55 := h5 n.toNat
    refine v_if_eq (tgt := 23) C dM_byteOf_6 (by decide) (by omega) (fun hc1 => ?_) (fun hc1 => ?_)
    · exfalso; omega
    · refine v_aload_n C dM_byteOf_9 rfl rfl ?_
      refine v_getR (k := 0) (q := 6) C dM_byteOf_10 (by show (0 : Nat) < 18; decide) rfl rfl (by decide) rfl inM lM_26 rfl ?_
      refine v_bipush C dM_byteOf_13 (by decide +kernel) ?_
      refine v_iload_n C dM_byteOf_15 rfl rfl ?_
      refine v_imul C dM_byteOf_16 ?_
      refine v_iload_n C dM_byteOf_17 rfl rfl ?_
      refine v_iadd C dM_byteOf_18 ?_
      have hb2 := h6 (((120 * n) + i)).toNat
      refine v_bald (k := 6) (v := σ.2 6 (((120 * n) + i)).toNat) C dM_byteOf_19 (by show (6 : Nat) < 18; decide) rfl rfl (by omega) (by decide) rfl ?_
      refine v_goto (tgt := 24) C dM_byteOf_20 (by decide) ?_
      exact v_zret C hRt hLk dM_byteOf_24 (fN_byte (by omega) (by omega)) (by first | exact Or.inl ⟨hq, rfl, rfl⟩ | exact Or.inr ⟨hq, rfl, rfl⟩)
  · subst σ1
    refine v_if_eq (tgt := 23) C dM_byteOf_6 (by decide) (by omega) (fun hc3 => ?_) (fun hc3 => ?_)
    · refine v_iconst C dM_byteOf_23 ?_
      exact v_zret C hRt hLk dM_byteOf_24 (fN_byte (by omega) (by omega)) (by first | exact Or.inl ⟨hq, rfl, rfl⟩ | exact Or.inr ⟨hq, rfl, rfl⟩)
    · exfalso; omega
set_option maxRecDepth 100000 in
set_option maxHeartbeats 4000000 in
/-- size(revision) -/
theorem kM_size (l : Launch) (xCl : List vw_C) (D : va_G) (cA : Nat → ClassId) (ad : Nat → Nat) (hJ : f_J (mG xCl D cA ad)) (σ : fS) (a : Int) (ha : -2147483648 ≤ a ∧ a ≤ 2147483647) (hr : 0 ≤ σ.1 0 10 ∧ σ.1 0 10 ≤ 60) : f_M l (mG xCl D cA ad) mE yM_size (Cond.code yM_size cM_size 2 (some .int) :: A9) 1 σ [.ref (ad 0), .int (fI a)] (f_QI (fun r σ1 => ((0 ≤ a ∧ a < σ.1 0 10) ∧ r = σ.2 8 a.toNat ∧ σ1 = f_p1 σ 0 0 0) ∨ (¬ (0 ≤ a ∧ a < σ.1 0 10) ∧ r = 0 ∧ σ1 = f_p1 σ 0 0 1)) (mG xCl D cA ad)) := by
  refine f_enter (by decide +kernel) hJ rfl (Nat.le_of_ble_eq_true rfl) ?_
  intro z hzl hR C hRt hLk hEz
  subst hzl
  refine v_aload_n C dM_size_0 rfl rfl ?_
  refine v_iload_n C dM_size_1 rfl rfl ?_
  refine v_cVI (k := 0) (n := 1) C (mE_ok _) trivial hR (kM_isRevision _ xCl D cA ad hJ σ a (by omega) (by omega)) dM_size_2 (by show (0 : Nat) < 18; decide) rfl rfl gM_201 (by decide +kernel) (by decide) (by decide) rfl (Nat.le_of_ble_eq_true rfl) rfl ⟨rfl, rfl⟩ (fun r1 σ1 hp1 => ?_)
  rcases hp1 with ⟨hq, rfl, e2⟩ | ⟨hq, rfl, e2⟩
  · subst σ1
    refine v_if_eq (tgt := 17) C dM_size_5 (by decide) (by omega) (fun hc1 => ?_) (fun hc1 => ?_)
    · exfalso; omega
    · refine v_aload_n C dM_size_8 rfl rfl ?_
      refine v_getR (k := 0) (q := 11) C dM_size_9 (by show (0 : Nat) < 18; decide) rfl rfl (by decide) rfl inM lM_33 rfl ?_
      refine v_iload_n C dM_size_12 rfl rfl ?_
      refine v_iald (k := 8) (v := σ.2 8 (a).toNat) C dM_size_13 (by show (8 : Nat) < 18; decide) rfl rfl (by omega) (by decide) rfl ?_
      refine v_goto (tgt := 18) C dM_size_14 (by decide) ?_
      exact v_iret C hRt hLk dM_size_18 (by first | exact Or.inl ⟨by omega, rfl, rfl⟩ | exact Or.inr ⟨by omega, rfl, rfl⟩)
  · subst σ1
    refine v_if_eq (tgt := 17) C dM_size_5 (by decide) (by omega) (fun hc2 => ?_) (fun hc2 => ?_)
    · refine v_iconst C dM_size_17 ?_
      exact v_iret C hRt hLk dM_size_18 (by first | exact Or.inl ⟨by omega, rfl, rfl⟩ | exact Or.inr ⟨by omega, rfl, rfl⟩)
    · exfalso; omega
set_option maxRecDepth 100000 in
set_option maxHeartbeats 4000000 in
/-- place(revision, n) -/
theorem kM_place (l : Launch) (xCl : List vw_C) (D : va_G) (cA : Nat → ClassId) (ad : Nat → Nat) (hJ : f_J (mG xCl D cA ad)) (σ : fS) (a n : Int) (ha : -2147483648 ≤ a ∧ a ≤ 2147483647) (hn : -2147483648 ≤ n ∧ n ≤ 2147483647) (hr : 0 ≤ σ.1 0 10 ∧ σ.1 0 10 ≤ 60) : f_M l (mG xCl D cA ad) mE yM_place (Cond.code yM_place cM_place 3 (some .int) :: A9) 1 σ [.ref (ad 0), .int (fI a), .int (fI n)] (f_QI (fun r σ1 => (((0 ≤ a ∧ a < σ.1 0 10) ∧ 1 ≤ n ∧ n ≤ 40) ∧ r = σ.2 10 (41 * a + n).toNat ∧ σ1 = f_p1 σ 0 0 0) ∨ (¬ ((0 ≤ a ∧ a < σ.1 0 10) ∧ 1 ≤ n ∧ n ≤ 40) ∧ r = 0 ∧ σ1 = f_p1 σ 0 0 1)) (mG xCl D cA ad)) := by
  refine f_enter (by decide +kernel) hJ rfl (Nat.le_of_ble_eq_true rfl) ?_
  intro z hzl hR C hRt hLk hEz
  subst hzl
  refine v_aload_n C dM_place_0 rfl rfl ?_
  refine v_iload_n C dM_place_1 rfl rfl ?_
  refine v_if_lt (tgt := 20) C dM_place_2 (by decide) (by omega) (fun hc1 => ?_) (fun hc1 => ?_)
  · refine v_iconst C dM_place_20 ?_
    refine v_goto (tgt := 25) C dM_place_21 (by decide) ?_
    refine v_putI (k := 0) (q := 0) C dM_place_25 (by show (0 : Nat) < 18; decide) rfl rfl (by decide) rfl inM tyM_ok nmM lM_63 rfl rfl rfl rfl rfl ?_
    refine v_aload_n C dM_place_28 rfl rfl ?_
    refine v_getI (k := 0) (q := 0) (v := 1) C dM_place_29 (by show (0 : Nat) < 18; decide) rfl rfl (by decide) rfl inM lM_63 rfl rfl ?_
    refine v_if_le (tgt := 39) C dM_place_32 (by decide) (by omega) (fun hc2 => ?_) (fun hc2 => ?_)
    · exfalso; omega
    · refine v_iconst C dM_place_35 ?_
      refine v_goto (tgt := 50) C dM_place_36 (by decide) ?_
      exact v_iret C hRt hLk dM_place_50 (by first | exact Or.inl ⟨by omega, rfl, rfl⟩ | exact Or.inr ⟨by omega, rfl, rfl⟩)
  · refine v_iload_n C dM_place_5 rfl rfl ?_
    refine v_aload_n C dM_place_6 rfl rfl ?_
    refine v_getI (k := 0) (q := 10) (v := σ.1 0 10) C dM_place_7 (by show (0 : Nat) < 18; decide) rfl rfl (by decide) rfl inM lM_110 rfl rfl ?_
    refine v_icmp_ge (tgt := 20) C dM_place_10 (by decide) (by omega) (by omega) (fun hc3 => ?_) (fun hc3 => ?_)
    · refine v_iconst C dM_place_20 ?_
      refine v_goto (tgt := 25) C dM_place_21 (by decide) ?_
      refine v_putI (k := 0) (q := 0) C dM_place_25 (by show (0 : Nat) < 18; decide) rfl rfl (by decide) rfl inM tyM_ok nmM lM_63 rfl rfl rfl rfl rfl ?_
      refine v_aload_n C dM_place_28 rfl rfl ?_
      refine v_getI (k := 0) (q := 0) (v := 1) C dM_place_29 (by show (0 : Nat) < 18; decide) rfl rfl (by decide) rfl inM lM_63 rfl rfl ?_
      refine v_if_le (tgt := 39) C dM_place_32 (by decide) (by omega) (fun hc4 => ?_) (fun hc4 => ?_)
      · exfalso; omega
      · refine v_iconst C dM_place_35 ?_
        refine v_goto (tgt := 50) C dM_place_36 (by decide) ?_
        exact v_iret C hRt hLk dM_place_50 (by first | exact Or.inl ⟨by omega, rfl, rfl⟩ | exact Or.inr ⟨by omega, rfl, rfl⟩)
    · refine v_iload_n C dM_place_13 rfl rfl ?_
      refine v_cSI (n := 1) C (mE_ok _) trivial hR (kM_isObject2 _ xCl D cA ad hJ _ (n) (by omega)) dM_place_14 gM_67 (by decide +kernel) (by decide) (by decide) rfl (Nat.le_of_ble_eq_true rfl) rfl ⟨rfl, rfl⟩ (fun r1 σ1 hp1 => ?_)
      rcases hp1 with ⟨hq, rfl, e2⟩ | ⟨hq, rfl, e2⟩
      · subst σ1
        refine v_if_ne (tgt := 24) C dM_place_17 (by decide) (by omega) (fun hc5 => ?_) (fun hc5 => ?_)
        · refine v_iconst C dM_place_24 ?_
          refine v_putI (k := 0) (q := 0) C dM_place_25 (by show (0 : Nat) < 18; decide) rfl rfl (by decide) rfl inM tyM_ok nmM lM_63 rfl rfl rfl rfl rfl ?_
          refine v_aload_n C dM_place_28 rfl rfl ?_
          refine v_getI (k := 0) (q := 0) (v := 0) C dM_place_29 (by show (0 : Nat) < 18; decide) rfl rfl (by decide) rfl inM lM_63 rfl rfl ?_
          refine v_if_le (tgt := 39) C dM_place_32 (by decide) (by omega) (fun hc6 => ?_) (fun hc6 => ?_)
          · refine v_aload_n C dM_place_39 rfl rfl ?_
            refine v_getR (k := 0) (q := 13) C dM_place_40 (by show (0 : Nat) < 18; decide) rfl rfl (by decide) rfl inM lM_39 rfl ?_
            refine v_bipush C dM_place_43 (by decide +kernel) ?_
            refine v_iload_n C dM_place_45 rfl rfl ?_
            refine v_imul C dM_place_46 ?_
            refine v_iload_n C dM_place_47 rfl rfl ?_
            refine v_iadd C dM_place_48 ?_
            refine v_iald (k := 10) (v := σ.2 10 (((41 * a) + n)).toNat) C dM_place_49 (by show (10 : Nat) < 18; decide) rfl rfl (by omega) (by decide) rfl ?_
            exact v_iret C hRt hLk dM_place_50 (by first | exact Or.inl ⟨by omega, rfl, rfl⟩ | exact Or.inr ⟨by omega, rfl, rfl⟩)
          · exfalso; omega
        · exfalso; omega
      · subst σ1
        refine v_if_ne (tgt := 24) C dM_place_17 (by decide) (by omega) (fun hc7 => ?_) (fun hc7 => ?_)
        · exfalso; omega
        · refine v_iconst C dM_place_20 ?_
          refine v_goto (tgt := 25) C dM_place_21 (by decide) ?_
          refine v_putI (k := 0) (q := 0) C dM_place_25 (by show (0 : Nat) < 18; decide) rfl rfl (by decide) rfl inM tyM_ok nmM lM_63 rfl rfl rfl rfl rfl ?_
          refine v_aload_n C dM_place_28 rfl rfl ?_
          refine v_getI (k := 0) (q := 0) (v := 1) C dM_place_29 (by show (0 : Nat) < 18; decide) rfl rfl (by decide) rfl inM lM_63 rfl rfl ?_
          refine v_if_le (tgt := 39) C dM_place_32 (by decide) (by omega) (fun hc8 => ?_) (fun hc8 => ?_)
          · exfalso; omega
          · refine v_iconst C dM_place_35 ?_
            refine v_goto (tgt := 50) C dM_place_36 (by decide) ?_
            exact v_iret C hRt hLk dM_place_50 (by first | exact Or.inl ⟨by omega, rfl, rfl⟩ | exact Or.inr ⟨by omega, rfl, rfl⟩)
set_option maxRecDepth 100000 in
set_option maxHeartbeats 4000000 in
/-- poke(i, b) -/
theorem kM_poke (l : Launch) (xCl : List vw_C) (D : va_G) (cA : Nat → ClassId) (ad : Nat → Nat) (hJ : f_J (mG xCl D cA ad)) (σ : fS) (i b : Int) (hi : -2147483648 ≤ i ∧ i ≤ 2147483647) (hb : -128 ≤ b ∧ b ≤ 127) (hz : 0 ≤ σ.1 0 7 ∧ σ.1 0 7 ≤ 12000) (h7 : ∀ i, -128 ≤ σ.2 7 i ∧ σ.2 7 i ≤ 127) : f_M l (mG xCl D cA ad) mE yM_poke (Cond.code yM_poke cM_poke 4 (some .byte) :: A9) 0 σ [.ref (ad 0), .int (fI i), .int (fI b)] (f_QI (fun r σ1 => ((0 ≤ i ∧ i < σ.1 0 7) ∧ r = σ.2 7 i.toNat ∧ σ1 = f_p1 (f_p2 (f_p1 σ 0 0 0) 7 i.toNat b) 0 9 1) ∨ (¬ (0 ≤ i ∧ i < σ.1 0 7) ∧ r = 0 ∧ σ1 = f_p1 σ 0 0 1)) (mG xCl D cA ad)) := by
  refine f_enter (by decide +kernel) hJ rfl (Nat.le_of_ble_eq_true rfl) ?_
  intro z hzl hR C hRt hLk hEz
  subst hzl
  refine v_aload_n C dM_poke_0 rfl rfl ?_
  refine v_iload_n C dM_poke_1 rfl rfl ?_
  refine v_if_lt (tgt := 13) C dM_poke_2 (by decide) (by omega) (fun hc1 => ?_) (fun hc1 => ?_)
  · refine v_iconst C dM_poke_13 ?_
    refine v_goto (tgt := 18) C dM_poke_14 (by decide) ?_
    refine v_putI (k := 0) (q := 0) C dM_poke_18 (by show (0 : Nat) < 18; decide) rfl rfl (by decide) rfl inM tyM_ok nmM lM_63 rfl rfl rfl rfl rfl ?_
    refine v_aload_n C dM_poke_21 rfl rfl ?_
    refine v_getI (k := 0) (q := 0) (v := 1) C dM_poke_22 (by show (0 : Nat) < 18; decide) rfl rfl (by decide) rfl inM lM_63 rfl rfl ?_
    refine v_if_le (tgt := 30) C dM_poke_25 (by decide) (by omega) (fun hc2 => ?_) (fun hc2 => ?_)
    · exfalso; omega
    · refine v_iconst C dM_poke_28 ?_
      exact v_zret C hRt hLk dM_poke_29 (fN_byte (by omega) (by omega)) (by first | exact Or.inl ⟨by omega, rfl, rfl⟩ | exact Or.inr ⟨by omega, rfl, rfl⟩)
  · refine v_iload_n C dM_poke_5 rfl rfl ?_
    refine v_aload_n C dM_poke_6 rfl rfl ?_
    refine v_getI (k := 0) (q := 7) (v := σ.1 0 7) C dM_poke_7 (by show (0 : Nat) < 18; decide) rfl rfl (by decide) rfl inM lM_116 rfl rfl ?_
    refine v_icmp_lt (tgt := 17) C dM_poke_10 (by decide) (by omega) (by omega) (fun hc3 => ?_) (fun hc3 => ?_)
    · refine v_iconst C dM_poke_17 ?_
      refine v_putI (k := 0) (q := 0) C dM_poke_18 (by show (0 : Nat) < 18; decide) rfl rfl (by decide) rfl inM tyM_ok nmM lM_63 rfl rfl rfl rfl rfl ?_
      refine v_aload_n C dM_poke_21 rfl rfl ?_
      refine v_getI (k := 0) (q := 0) (v := 0) C dM_poke_22 (by show (0 : Nat) < 18; decide) rfl rfl (by decide) rfl inM lM_63 rfl rfl ?_
      refine v_if_le (tgt := 30) C dM_poke_25 (by decide) (by omega) (fun hc4 => ?_) (fun hc4 => ?_)
      · refine v_aload_n C dM_poke_30 rfl rfl ?_
        refine v_getR (k := 0) (q := 8) C dM_poke_31 (by show (0 : Nat) < 18; decide) rfl rfl (by decide) rfl inM lM_30 rfl ?_
        refine v_iload_n C dM_poke_34 rfl rfl ?_
        have hb5 := h7 (i).toNat
        refine v_bald (k := 7) (v := σ.2 7 (i).toNat) C dM_poke_35 (by show (7 : Nat) < 18; decide) rfl rfl (by omega) (by decide) rfl ?_
        refine v_istore_n C dM_poke_36 rfl (by decide) ?_
        refine v_aload_n C dM_poke_37 rfl rfl ?_
        refine v_getR (k := 0) (q := 8) C dM_poke_38 (by show (0 : Nat) < 18; decide) rfl rfl (by decide) rfl inM lM_30 rfl ?_
        refine v_iload_n C dM_poke_41 rfl rfl ?_
        refine v_iload_n C dM_poke_42 rfl rfl ?_
        refine v_bast (k := 7) C dM_poke_43 (by show (7 : Nat) < 18; decide) rfl rfl (by omega) (by decide) (by omega) ?_
        refine v_aload_n C dM_poke_44 rfl rfl ?_
        refine v_iconst C dM_poke_45 ?_
        refine v_putI (k := 0) (q := 9) C dM_poke_46 (by show (0 : Nat) < 18; decide) rfl rfl (by decide) rfl inM tyM_ok nmM lM_123 rfl rfl rfl (fN_bool (by omega)) (fF_bool (by omega)) ?_
        refine v_iload_n C dM_poke_49 rfl rfl ?_
        exact v_zret C hRt hLk dM_poke_50 (fN_byte (by omega) (by omega)) (by first | exact Or.inl ⟨by omega, rfl, rfl⟩ | exact Or.inr ⟨by omega, rfl, rfl⟩)
      · exfalso; omega
    · refine v_iconst C dM_poke_13 ?_
      refine v_goto (tgt := 18) C dM_poke_14 (by decide) ?_
      refine v_putI (k := 0) (q := 0) C dM_poke_18 (by show (0 : Nat) < 18; decide) rfl rfl (by decide) rfl inM tyM_ok nmM lM_63 rfl rfl rfl rfl rfl ?_
      refine v_aload_n C dM_poke_21 rfl rfl ?_
      refine v_getI (k := 0) (q := 0) (v := 1) C dM_poke_22 (by show (0 : Nat) < 18; decide) rfl rfl (by decide) rfl inM lM_63 rfl rfl ?_
      refine v_if_le (tgt := 30) C dM_poke_25 (by decide) (by omega) (fun hc6 => ?_) (fun hc6 => ?_)
      · exfalso; omega
      · refine v_iconst C dM_poke_28 ?_
        exact v_zret C hRt hLk dM_poke_29 (fN_byte (by omega) (by omega)) (by first | exact Or.inl ⟨by omega, rfl, rfl⟩ | exact Or.inr ⟨by omega, rfl, rfl⟩)
set_option maxRecDepth 100000 in
set_option maxHeartbeats 4000000 in
/-- drop(n) -/
theorem kM_drop (l : Launch) (xCl : List vw_C) (D : va_G) (cA : Nat → ClassId) (ad : Nat → Nat) (hJ : f_J (mG xCl D cA ad)) (σ : fS) (n : Int) (hn : -2147483648 ≤ n ∧ n ≤ 2147483647) (h1 : ∀ i, 0 ≤ σ.2 1 i ∧ σ.2 1 i ≤ 1) (h4 : ∀ i, 0 ≤ σ.2 4 i ∧ σ.2 4 i ≤ 1) : f_M l (mG xCl D cA ad) mE yM_drop (Cond.code yM_drop cM_drop 2 (some .boolean) :: A9) 1 σ [.ref (ad 0), .int (fI n)] (f_QI (fun r σ1 => ((1 ≤ n ∧ n ≤ 40) ∧ σ.2 1 n.toNat = 1 ∧ r = 1 ∧ σ1 = f_p2 (f_p2 (f_p2 (f_p1 σ 0 0 0) 1 n.toNat 0) 2 n.toNat 0) 3 n.toNat (σ.2 4 n.toNat)) ∨ ((1 ≤ n ∧ n ≤ 40) ∧ σ.2 1 n.toNat = 0 ∧ r = 0 ∧ σ1 = f_p1 σ 0 0 0) ∨ (¬ (1 ≤ n ∧ n ≤ 40) ∧ r = 0 ∧ σ1 = f_p1 σ 0 0 1)) (mG xCl D cA ad)) := by
  refine f_enter (by decide +kernel) hJ rfl (Nat.le_of_ble_eq_true rfl) ?_
  intro z hzl hR C hRt hLk hEz
  subst hzl
  refine v_aload_n C dM_drop_0 rfl rfl ?_
  refine v_iload_n C dM_drop_1 rfl rfl ?_
  refine v_cSI (n := 1) C (mE_ok _) trivial hR (kM_isObject2 _ xCl D cA ad hJ _ (n) (by omega)) dM_drop_2 gM_67 (by decide +kernel) (by decide) (by decide) rfl (Nat.le_of_ble_eq_true rfl) rfl ⟨rfl, rfl⟩ (fun r1 σ1 hp1 => ?_)
  rcases hp1 with ⟨hq, rfl, e2⟩ | ⟨hq, rfl, e2⟩
  · subst σ1
    refine v_if_eq (tgt := 12) C dM_drop_5 (by decide) (by omega) (fun hc1 => ?_) (fun hc1 => ?_)
    · exfalso; omega
    · refine v_iconst C dM_drop_8 ?_
      refine v_goto (tgt := 13) C dM_drop_9 (by decide) ?_
      refine v_putI (k := 0) (q := 0) C dM_drop_13 (by show (0 : Nat) < 18; decide) rfl rfl (by decide) rfl inM tyM_ok nmM lM_63 rfl rfl rfl rfl rfl ?_
      refine v_aload_n C dM_drop_16 rfl rfl ?_
      refine v_getI (k := 0) (q := 0) (v := 0) C dM_drop_17 (by show (0 : Nat) < 18; decide) rfl rfl (by decide) rfl inM lM_63 rfl rfl ?_
      refine v_if_gt (tgt := 32) C dM_drop_20 (by decide) (by omega) (fun hc2 => ?_) (fun hc2 => ?_)
      · exfalso; omega
      · refine v_aload_n C dM_drop_23 rfl rfl ?_
        refine v_getR (k := 0) (q := 1) C dM_drop_24 (by show (0 : Nat) < 18; decide) rfl rfl (by decide) rfl inM lM_7 rfl ?_
        refine v_iload_n C dM_drop_27 rfl rfl ?_
        have hb3 := h1 (n).toNat
        refine v_zald (k := 1) (v := σ.2 1 (n).toNat) C dM_drop_28 (by show (1 : Nat) < 18; decide) rfl rfl (by omega) (by decide) rfl ?_
        refine v_if_ne (tgt := 34) C dM_drop_29 (by decide) (by omega) (fun hc4 => ?_) (fun hc4 => ?_)
        · refine v_aload_n C dM_drop_34 rfl rfl ?_
          refine v_getR (k := 0) (q := 1) C dM_drop_35 (by show (0 : Nat) < 18; decide) rfl rfl (by decide) rfl inM lM_7 rfl ?_
          refine v_iload_n C dM_drop_38 rfl rfl ?_
          refine v_iconst C dM_drop_39 ?_
          refine v_zast (k := 1) C dM_drop_40 (by show (1 : Nat) < 18; decide) rfl rfl (by omega) (by decide) (by omega) ?_
          refine v_aload_n C dM_drop_41 rfl rfl ?_
          refine v_getR (k := 0) (q := 2) C dM_drop_42 (by show (0 : Nat) < 18; decide) rfl rfl (by decide) rfl inM lM_13 rfl ?_
          refine v_iload_n C dM_drop_45 rfl rfl ?_
          refine v_iconst C dM_drop_46 ?_
          refine v_zast (k := 2) C dM_drop_47 (by show (2 : Nat) < 18; decide) rfl rfl (by omega) (by decide) (by omega) ?_
          refine v_aload_n C dM_drop_48 rfl rfl ?_
          refine v_getR (k := 0) (q := 3) C dM_drop_49 (by show (0 : Nat) < 18; decide) rfl rfl (by decide) rfl inM lM_16 rfl ?_
          refine v_iload_n C dM_drop_52 rfl rfl ?_
          refine v_aload_n C dM_drop_53 rfl rfl ?_
          refine v_getR (k := 0) (q := 4) C dM_drop_54 (by show (0 : Nat) < 18; decide) rfl rfl (by decide) rfl inM lM_19 rfl ?_
          refine v_iload_n C dM_drop_57 rfl rfl ?_
          have hb5 := h4 (n).toNat
          refine v_zald (k := 4) (v := σ.2 4 (n).toNat) C dM_drop_58 (by show (4 : Nat) < 18; decide) rfl rfl (by omega) (by decide) rfl ?_
          refine v_zast (k := 3) C dM_drop_59 (by show (3 : Nat) < 18; decide) rfl rfl (by omega) (by decide) (by omega) ?_
          refine v_iconst C dM_drop_60 ?_
          exact v_zret C hRt hLk dM_drop_61 (fN_bool (by omega)) (by first | exact Or.inl ⟨by omega, by omega, rfl, rfl⟩ | exact Or.inr (Or.inl ⟨by omega, by omega, rfl, rfl⟩) | exact Or.inr (Or.inr ⟨by omega, rfl, rfl⟩))
        · refine v_iconst C dM_drop_32 ?_
          exact v_zret C hRt hLk dM_drop_33 (fN_bool (by omega)) (by first | exact Or.inl ⟨by omega, by omega, rfl, rfl⟩ | exact Or.inr (Or.inl ⟨by omega, by omega, rfl, rfl⟩) | exact Or.inr (Or.inr ⟨by omega, rfl, rfl⟩))
  · subst σ1
    refine v_if_eq (tgt := 12) C dM_drop_5 (by decide) (by omega) (fun hc6 => ?_) (fun hc6 => ?_)
    · refine v_iconst C dM_drop_12 ?_
      refine v_putI (k := 0) (q := 0) C dM_drop_13 (by show (0 : Nat) < 18; decide) rfl rfl (by decide) rfl inM tyM_ok nmM lM_63 rfl rfl rfl rfl rfl ?_
      refine v_aload_n C dM_drop_16 rfl rfl ?_
      refine v_getI (k := 0) (q := 0) (v := 1) C dM_drop_17 (by show (0 : Nat) < 18; decide) rfl rfl (by decide) rfl inM lM_63 rfl rfl ?_
      refine v_if_gt (tgt := 32) C dM_drop_20 (by decide) (by omega) (fun hc7 => ?_) (fun hc7 => ?_)
      · refine v_iconst C dM_drop_32 ?_
        exact v_zret C hRt hLk dM_drop_33 (fN_bool (by omega)) (by first | exact Or.inl ⟨by omega, by omega, rfl, rfl⟩ | exact Or.inr (Or.inl ⟨by omega, by omega, rfl, rfl⟩) | exact Or.inr (Or.inr ⟨by omega, rfl, rfl⟩))
      · exfalso; omega
    · exfalso; omega
set_option maxRecDepth 100000 in
set_option maxHeartbeats 4000000 in
/-- first(n, on) -/
theorem kM_first (l : Launch) (xCl : List vw_C) (D : va_G) (cA : Nat → ClassId) (ad : Nat → Nat) (hJ : f_J (mG xCl D cA ad)) (σ : fS) (n w : Int) (hn : -2147483648 ≤ n ∧ n ≤ 2147483647) (hw : w = 0 ∨ w = 1) (h1 : ∀ i, 0 ≤ σ.2 1 i ∧ σ.2 1 i ≤ 1) (h2 : ∀ i, 0 ≤ σ.2 2 i ∧ σ.2 2 i ≤ 1) : f_M l (mG xCl D cA ad) mE yM_first (Cond.code yM_first cM_first 3 (some .boolean) :: A9) 2 σ [.ref (ad 0), .int (fI n), .int (fI w)] (f_QI (fun r σ1 => (((1 ≤ n ∧ n ≤ 40) ∧ σ.2 1 n.toNat = 1) ∧ σ.2 2 n.toNat ≠ w ∧ r = 1 ∧ σ1 = f_p2 (f_p1 σ 0 0 0) 2 n.toNat w) ∨ (((1 ≤ n ∧ n ≤ 40) ∧ σ.2 1 n.toNat = 1) ∧ σ.2 2 n.toNat = w ∧ r = 0 ∧ σ1 = f_p1 σ 0 0 0) ∨ (¬ ((1 ≤ n ∧ n ≤ 40) ∧ σ.2 1 n.toNat = 1) ∧ r = 0 ∧ σ1 = f_p1 σ 0 0 1)) (mG xCl D cA ad)) := by
  refine f_enter (by decide +kernel) hJ rfl (Nat.le_of_ble_eq_true rfl) ?_
  intro z hzl hR C hRt hLk hEz
  subst hzl
  refine v_aload_n C dM_first_0 rfl rfl ?_
  refine v_aload_n C dM_first_1 rfl rfl ?_
  refine v_iload_n C dM_first_2 rfl rfl ?_
  refine v_cVI (k := 0) (n := 1) C (mE_ok _) trivial hR (kM_has2 _ xCl D cA ad hJ _ (n) (by omega) h1) dM_first_3 (by show (0 : Nat) < 18; decide) rfl rfl gM_71 (by decide +kernel) (by decide) (by decide) rfl (Nat.le_of_ble_eq_true rfl) rfl ⟨rfl, rfl⟩ (fun r1 σ1 hp1 => ?_)
  rcases hp1 with ⟨hq, rfl, e2⟩ | ⟨hq, rfl, e2⟩
  · subst σ1
    refine v_if_eq (tgt := 13) C dM_first_6 (by decide) (by omega) (fun hc1 => ?_) (fun hc1 => ?_)
    · exfalso; omega
    · refine v_iconst C dM_first_9 ?_
      refine v_goto (tgt := 14) C dM_first_10 (by decide) ?_
      refine v_putI (k := 0) (q := 0) C dM_first_14 (by show (0 : Nat) < 18; decide) rfl rfl (by decide) rfl inM tyM_ok nmM lM_63 rfl rfl rfl rfl rfl ?_
      refine v_aload_n C dM_first_17 rfl rfl ?_
      refine v_getI (k := 0) (q := 0) (v := 0) C dM_first_18 (by show (0 : Nat) < 18; decide) rfl rfl (by decide) rfl inM lM_63 rfl rfl ?_
      refine v_if_gt (tgt := 34) C dM_first_21 (by decide) (by omega) (fun hc2 => ?_) (fun hc2 => ?_)
      · exfalso; omega
      · refine v_aload_n C dM_first_24 rfl rfl ?_
        refine v_getR (k := 0) (q := 2) C dM_first_25 (by show (0 : Nat) < 18; decide) rfl rfl (by decide) rfl inM lM_13 rfl ?_
        refine v_iload_n C dM_first_28 rfl rfl ?_
        have hb3 := h2 (n).toNat
        refine v_zald (k := 2) (v := σ.2 2 (n).toNat) C dM_first_29 (by show (2 : Nat) < 18; decide) rfl rfl (by omega) (by decide) rfl ?_
        refine v_iload_n C dM_first_30 rfl rfl ?_
        refine v_icmp_ne (tgt := 36) C dM_first_31 (by decide) (by omega) (by omega) (fun hc4 => ?_) (fun hc4 => ?_)
        · refine v_aload_n C dM_first_36 rfl rfl ?_
          refine v_getR (k := 0) (q := 2) C dM_first_37 (by show (0 : Nat) < 18; decide) rfl rfl (by decide) rfl inM lM_13 rfl ?_
          refine v_iload_n C dM_first_40 rfl rfl ?_
          refine v_iload_n C dM_first_41 rfl rfl ?_
          refine v_zast (k := 2) C dM_first_42 (by show (2 : Nat) < 18; decide) rfl rfl (by omega) (by decide) (by omega) ?_
          refine v_iconst C dM_first_43 ?_
          exact v_zret C hRt hLk dM_first_44 (fN_bool (by omega)) (by first | exact Or.inl ⟨by omega, by omega, rfl, rfl⟩ | exact Or.inr (Or.inl ⟨by omega, by omega, rfl, rfl⟩) | exact Or.inr (Or.inr ⟨by omega, rfl, rfl⟩))
        · refine v_iconst C dM_first_34 ?_
          exact v_zret C hRt hLk dM_first_35 (fN_bool (by omega)) (by first | exact Or.inl ⟨by omega, by omega, rfl, rfl⟩ | exact Or.inr (Or.inl ⟨by omega, by omega, rfl, rfl⟩) | exact Or.inr (Or.inr ⟨by omega, rfl, rfl⟩))
  · subst σ1
    refine v_if_eq (tgt := 13) C dM_first_6 (by decide) (by omega) (fun hc5 => ?_) (fun hc5 => ?_)
    · refine v_iconst C dM_first_13 ?_
      refine v_putI (k := 0) (q := 0) C dM_first_14 (by show (0 : Nat) < 18; decide) rfl rfl (by decide) rfl inM tyM_ok nmM lM_63 rfl rfl rfl rfl rfl ?_
      refine v_aload_n C dM_first_17 rfl rfl ?_
      refine v_getI (k := 0) (q := 0) (v := 1) C dM_first_18 (by show (0 : Nat) < 18; decide) rfl rfl (by decide) rfl inM lM_63 rfl rfl ?_
      refine v_if_gt (tgt := 34) C dM_first_21 (by decide) (by omega) (fun hc6 => ?_) (fun hc6 => ?_)
      · refine v_iconst C dM_first_34 ?_
        exact v_zret C hRt hLk dM_first_35 (fN_bool (by omega)) (by first | exact Or.inl ⟨by omega, by omega, rfl, rfl⟩ | exact Or.inr (Or.inl ⟨by omega, by omega, rfl, rfl⟩) | exact Or.inr (Or.inr ⟨by omega, rfl, rfl⟩))
      · exfalso; omega
    · exfalso; omega
set_option maxRecDepth 100000 in
set_option maxHeartbeats 4000000 in
/-- row(i, what) -/
theorem kM_row (l : Launch) (xCl : List vw_C) (D : va_G) (cA : Nat → ClassId) (ad : Nat → Nat) (hJ : f_J (mG xCl D cA ad)) (σ : fS) (i w : Int) (hi : -2147483648 ≤ i ∧ i ≤ 2147483647) (hw : -2147483648 ≤ w ∧ w ≤ 2147483647) (hd : σ.1 0 28 = 0 ∨ σ.1 0 28 = 1) (hr : 0 ≤ σ.1 0 29 ∧ σ.1 0 29 ≤ 40) : f_M l (mG xCl D cA ad) mE yM_row (Cond.code yM_row cM_row 3 (some .int) :: A9) 0 σ [.ref (ad 0), .int (fI i), .int (fI w)] (f_QI (fun r σ1 => ((σ.1 0 28 = 1 ∧ (0 ≤ i ∧ i < σ.1 0 29) ∧ 0 ≤ w ∧ w ≤ 1) ∧ ((w = 0 ∧ r = σ.2 16 i.toNat) ∨ (w = 1 ∧ r = σ.2 17 i.toNat)) ∧ σ1 = f_p1 σ 0 0 0) ∨ (¬ (σ.1 0 28 = 1 ∧ (0 ≤ i ∧ i < σ.1 0 29) ∧ 0 ≤ w ∧ w ≤ 1) ∧ r = 0 ∧ σ1 = f_p1 σ 0 0 1)) (mG xCl D cA ad)) := by
  refine f_enter (by decide +kernel) hJ rfl (Nat.le_of_ble_eq_true rfl) ?_
  intro z hzl hR C hRt hLk hEz
  subst hzl
  refine v_aload_n C dM_row_0 rfl rfl ?_
  refine v_aload_n C dM_row_1 rfl rfl ?_
  refine v_getI (k := 0) (q := 28) (v := σ.1 0 28) C dM_row_2 (by show (0 : Nat) < 18; decide) rfl rfl (by decide) rfl inM lM_207 rfl rfl ?_
  refine v_if_eq (tgt := 29) C dM_row_5 (by decide) (by omega) (fun hc1 => ?_) (fun hc1 => ?_)
  · refine v_iconst C dM_row_29 ?_
    refine v_goto (tgt := 34) C dM_row_30 (by decide) ?_
    refine v_putI (k := 0) (q := 0) C dM_row_34 (by show (0 : Nat) < 18; decide) rfl rfl (by decide) rfl inM tyM_ok nmM lM_63 rfl rfl rfl rfl rfl ?_
    refine v_aload_n C dM_row_37 rfl rfl ?_
    refine v_getI (k := 0) (q := 0) (v := 1) C dM_row_38 (by show (0 : Nat) < 18; decide) rfl rfl (by decide) rfl inM lM_63 rfl rfl ?_
    refine v_if_le (tgt := 48) C dM_row_41 (by decide) (by omega) (fun hc2 => ?_) (fun hc2 => ?_)
    · exfalso; omega
    · refine v_iconst C dM_row_44 ?_
      refine v_goto (tgt := 67) C dM_row_45 (by decide) ?_
      exact v_iret C hRt hLk dM_row_67 (by first | exact Or.inl ⟨by omega, by omega, rfl⟩ | exact Or.inr ⟨by omega, rfl, rfl⟩)
  · refine v_iload_n C dM_row_8 rfl rfl ?_
    refine v_if_lt (tgt := 29) C dM_row_9 (by decide) (by omega) (fun hc3 => ?_) (fun hc3 => ?_)
    · refine v_iconst C dM_row_29 ?_
      refine v_goto (tgt := 34) C dM_row_30 (by decide) ?_
      refine v_putI (k := 0) (q := 0) C dM_row_34 (by show (0 : Nat) < 18; decide) rfl rfl (by decide) rfl inM tyM_ok nmM lM_63 rfl rfl rfl rfl rfl ?_
      refine v_aload_n C dM_row_37 rfl rfl ?_
      refine v_getI (k := 0) (q := 0) (v := 1) C dM_row_38 (by show (0 : Nat) < 18; decide) rfl rfl (by decide) rfl inM lM_63 rfl rfl ?_
      refine v_if_le (tgt := 48) C dM_row_41 (by decide) (by omega) (fun hc4 => ?_) (fun hc4 => ?_)
      · exfalso; omega
      · refine v_iconst C dM_row_44 ?_
        refine v_goto (tgt := 67) C dM_row_45 (by decide) ?_
        exact v_iret C hRt hLk dM_row_67 (by first | exact Or.inl ⟨by omega, by omega, rfl⟩ | exact Or.inr ⟨by omega, rfl, rfl⟩)
    · refine v_iload_n C dM_row_12 rfl rfl ?_
      refine v_aload_n C dM_row_13 rfl rfl ?_
      refine v_getI (k := 0) (q := 29) (v := σ.1 0 29) C dM_row_14 (by show (0 : Nat) < 18; decide) rfl rfl (by decide) rfl inM lM_204 rfl rfl ?_
      refine v_icmp_ge (tgt := 29) C dM_row_17 (by decide) (by omega) (by omega) (fun hc5 => ?_) (fun hc5 => ?_)
      · refine v_iconst C dM_row_29 ?_
        refine v_goto (tgt := 34) C dM_row_30 (by decide) ?_
        refine v_putI (k := 0) (q := 0) C dM_row_34 (by show (0 : Nat) < 18; decide) rfl rfl (by decide) rfl inM tyM_ok nmM lM_63 rfl rfl rfl rfl rfl ?_
        refine v_aload_n C dM_row_37 rfl rfl ?_
        refine v_getI (k := 0) (q := 0) (v := 1) C dM_row_38 (by show (0 : Nat) < 18; decide) rfl rfl (by decide) rfl inM lM_63 rfl rfl ?_
        refine v_if_le (tgt := 48) C dM_row_41 (by decide) (by omega) (fun hc6 => ?_) (fun hc6 => ?_)
        · exfalso; omega
        · refine v_iconst C dM_row_44 ?_
          refine v_goto (tgt := 67) C dM_row_45 (by decide) ?_
          exact v_iret C hRt hLk dM_row_67 (by first | exact Or.inl ⟨by omega, by omega, rfl⟩ | exact Or.inr ⟨by omega, rfl, rfl⟩)
      · refine v_iload_n C dM_row_20 rfl rfl ?_
        refine v_if_lt (tgt := 29) C dM_row_21 (by decide) (by omega) (fun hc7 => ?_) (fun hc7 => ?_)
        · refine v_iconst C dM_row_29 ?_
          refine v_goto (tgt := 34) C dM_row_30 (by decide) ?_
          refine v_putI (k := 0) (q := 0) C dM_row_34 (by show (0 : Nat) < 18; decide) rfl rfl (by decide) rfl inM tyM_ok nmM lM_63 rfl rfl rfl rfl rfl ?_
          refine v_aload_n C dM_row_37 rfl rfl ?_
          refine v_getI (k := 0) (q := 0) (v := 1) C dM_row_38 (by show (0 : Nat) < 18; decide) rfl rfl (by decide) rfl inM lM_63 rfl rfl ?_
          refine v_if_le (tgt := 48) C dM_row_41 (by decide) (by omega) (fun hc8 => ?_) (fun hc8 => ?_)
          · exfalso; omega
          · refine v_iconst C dM_row_44 ?_
            refine v_goto (tgt := 67) C dM_row_45 (by decide) ?_
            exact v_iret C hRt hLk dM_row_67 (by first | exact Or.inl ⟨by omega, by omega, rfl⟩ | exact Or.inr ⟨by omega, rfl, rfl⟩)
        · refine v_iload_n C dM_row_24 rfl rfl ?_
          refine v_iconst C dM_row_25 ?_
          refine v_icmp_le (tgt := 33) C dM_row_26 (by decide) (by omega) (by omega) (fun hc9 => ?_) (fun hc9 => ?_)
          · refine v_iconst C dM_row_33 ?_
            refine v_putI (k := 0) (q := 0) C dM_row_34 (by show (0 : Nat) < 18; decide) rfl rfl (by decide) rfl inM tyM_ok nmM lM_63 rfl rfl rfl rfl rfl ?_
            refine v_aload_n C dM_row_37 rfl rfl ?_
            refine v_getI (k := 0) (q := 0) (v := 0) C dM_row_38 (by show (0 : Nat) < 18; decide) rfl rfl (by decide) rfl inM lM_63 rfl rfl ?_
            refine v_if_le (tgt := 48) C dM_row_41 (by decide) (by omega) (fun hc10 => ?_) (fun hc10 => ?_)
            · refine v_iload_n C dM_row_48 rfl rfl ?_
              refine v_if_ne (tgt := 61) C dM_row_49 (by decide) (by omega) (fun hc11 => ?_) (fun hc11 => ?_)
              · refine v_aload_n C dM_row_61 rfl rfl ?_
                refine v_getR (k := 0) (q := 31) C dM_row_62 (by show (0 : Nat) < 18; decide) rfl rfl (by decide) rfl inM lM_60 rfl ?_
                refine v_iload_n C dM_row_65 rfl rfl ?_
                refine v_iald (k := 17) (v := σ.2 17 (i).toNat) C dM_row_66 (by show (17 : Nat) < 18; decide) rfl rfl (by omega) (by decide) rfl ?_
                exact v_iret C hRt hLk dM_row_67 (by first | exact Or.inl ⟨by omega, by omega, rfl⟩ | exact Or.inr ⟨by omega, rfl, rfl⟩)
              · refine v_aload_n C dM_row_52 rfl rfl ?_
                refine v_getR (k := 0) (q := 30) C dM_row_53 (by show (0 : Nat) < 18; decide) rfl rfl (by decide) rfl inM lM_57 rfl ?_
                refine v_iload_n C dM_row_56 rfl rfl ?_
                refine v_iald (k := 16) (v := σ.2 16 (i).toNat) C dM_row_57 (by show (16 : Nat) < 18; decide) rfl rfl (by omega) (by decide) rfl ?_
                refine v_goto (tgt := 67) C dM_row_58 (by decide) ?_
                exact v_iret C hRt hLk dM_row_67 (by first | exact Or.inl ⟨by omega, by omega, rfl⟩ | exact Or.inr ⟨by omega, rfl, rfl⟩)
            · exfalso; omega
          · refine v_iconst C dM_row_29 ?_
            refine v_goto (tgt := 34) C dM_row_30 (by decide) ?_
            refine v_putI (k := 0) (q := 0) C dM_row_34 (by show (0 : Nat) < 18; decide) rfl rfl (by decide) rfl inM tyM_ok nmM lM_63 rfl rfl rfl rfl rfl ?_
            refine v_aload_n C dM_row_37 rfl rfl ?_
            refine v_getI (k := 0) (q := 0) (v := 1) C dM_row_38 (by show (0 : Nat) < 18; decide) rfl rfl (by decide) rfl inM lM_63 rfl rfl ?_
            refine v_if_le (tgt := 48) C dM_row_41 (by decide) (by omega) (fun hc12 => ?_) (fun hc12 => ?_)
            · exfalso; omega
            · refine v_iconst C dM_row_44 ?_
              refine v_goto (tgt := 67) C dM_row_45 (by decide) ?_
              exact v_iret C hRt hLk dM_row_67 (by first | exact Or.inl ⟨by omega, by omega, rfl⟩ | exact Or.inr ⟨by omega, rfl, rfl⟩)
