theorem x_add0_2 (σ : fS) (x q : Nat) (h : x ≠ 13 ∧ x ≠ 14) : (x_add0 σ 377).2 x q = σ.2 x q := by
  show (x_layk (x_reset σ 12 (-1)) 12 377 41).2 x q = _
  rw [x_layk_o _ _ _ _ _ _ (by omega), x_reset_o _ _ _ _ _ (by omega)]
theorem x_behind_2 (σ : fS) (b n : Int) (x q : Nat) (h : x ≠ 9) : (x_behind σ b n).2 x q = σ.2 x q := by
  show (f_pa σ 9 _).2 x q = _
  rw [pa_2, if_neg h]
theorem x_keep0_81 (σ : fS) : (x_keep0 σ).1 8 1 = σ.1 374 5 + σ.1 374 6 := by
  show (x_add0 (f_p1 (x_behind σ (σ.1 374 5) (σ.1 374 6)) 8 2 0) 377).1 8 1 = _
  unfold x_add0 x_lay
  rw [p1_1, if_neg (by decide), p1_1, if_neg (by decide), p1_1, if_neg (by decide)]
  show (f_p1 (x_behind σ (σ.1 374 5) (σ.1 374 6)) 8 2 0).1 8 1 = _
  rw [p1_1, if_neg (by decide)]
  unfold x_behind
  rw [p1_1, if_pos ⟨rfl, rfl⟩]
theorem x_beg_2 (σ : fS) (p : Int) (x i : Nat) (h : x ≠ 378 ∧ x ≠ 379) : (x_beg σ p).2 x i = σ.2 x i := by
  unfold x_beg
  rw [x_reset_o _ _ _ _ _ (by omega)]
  rfl
theorem x_beg_378 (σ : fS) (p : Int) (i : Nat) : (x_beg σ p).2 378 i = if i < 41 then -2 else σ.2 378 i := by
  by_cases hi : i < 41
  · rw [if_pos hi]; unfold x_beg; exact x_reset_p _ 377 _ i hi
  · rw [if_neg hi]
    unfold x_beg x_reset
    rw [x_fill_o _ _ _ _ _ _ _ (by decide)]
    show (f_pa _ (377 + 1) _).2 378 i = _
    rw [pa_2, if_pos rfl, if_neg (by omega)]
    rfl
theorem x_beg_1 (σ : fS) (p : Int) : (x_beg σ p).1 374 5 = p ∧ (x_beg σ p).1 374 6 = 0 ∧ (x_beg σ p).1 374 4 = 0 := by
  refine ⟨?_, ?_, ?_⟩
  · show (f_p1 (f_p1 (f_p1 σ 374 5 p) 374 6 0) 374 4 0).1 374 5 = p
    rw [p1_1, if_neg (by decide), p1_1, if_neg (by decide), p1_1, if_pos ⟨rfl, rfl⟩]
  · show (f_p1 (f_p1 (f_p1 σ 374 5 p) 374 6 0) 374 4 0).1 374 6 = 0
    rw [p1_1, if_neg (by decide), p1_1, if_pos ⟨rfl, rfl⟩]
  · show (f_p1 (f_p1 (f_p1 σ 374 5 p) 374 6 0) 374 4 0).1 374 4 = 0
    rw [p1_1, if_pos ⟨rfl, rfl⟩]
theorem x_fin0_1 (σ : fS) (q : Int) : (x_fin0 σ q).1 377 3 = σ.1 374 5 + (σ.1 374 6 + (m_tell 120 0 ++ m_tell 112 q ++ m_tell 101 (σ.1 374 5 + σ.1 374 6)).length) ∧ (x_fin0 σ q).1 374 5 = σ.1 374 5 ∧ (x_fin0 σ q).1 374 6 = σ.1 374 6 + (m_tell 120 0 ++ m_tell 112 q ++ m_tell 101 (σ.1 374 5 + σ.1 374 6)).length := by
  unfold x_fin0
  refine ⟨?_, ?_, ?_⟩
  · rw [p1_1, if_pos ⟨rfl, rfl⟩]
  · rw [p1_1, if_neg (by decide), x_puts_1, if_neg (by decide), p1_1, if_neg (by decide)]
  · rw [p1_1, if_neg (by decide), x_puts_u, p1_1, if_neg (by decide)]
theorem x_fin0_2 (σ : fS) (q : Int) (x i : Nat) (h : x ≠ 375) : (x_fin0 σ q).2 x i = σ.2 x i := by
  unfold x_fin0
  rw [p1_2, x_puts_2 _ _ _ _ h]
  rfl
set_option maxRecDepth 100000 in
set_option maxHeartbeats 4000000 in
/-- putBehind -/
theorem kX_XF_putBehind (l : Launch) (D : va_G) (cA : Nat → ClassId) (ad : Nat → Nat) (hJ : f_J (xG D cA ad)) (σ : fS) (b n : Int) (hb : 0 ≤ b) (hn : 0 ≤ n ∧ n ≤ 6000) (hbn : b + n ≤ 12000) (h375 : ∀ i, -128 ≤ σ.2 375 i ∧ σ.2 375 i ≤ 127) : f_M l (xG D cA ad) (xE (xG D cA ad)) yXF_putBehind (Cond.code yXF_putBehind cXF_putBehind 4 none :: A9) 2 σ [.ref (ad 8), .int (fI b), .ref (ad 375), .int (fI n)] (f_QV (fun σ1 => σ1 = x_behind σ b n) (xG D cA ad)) := by
  refine f_enter (by decide +kernel) hJ rfl (Nat.le_of_ble_eq_true rfl) ?_
  intro z hzl hR C hRt hLk hEz
  subst hzl
  have hRR : 2 ≤ z.2.2.2.1.frames ∧ 40 * 2 ≤ z.2.2.2.1.locals ∧ 0 ≤ z.2.2.2.1.cells ∧ 0 ≤ z.2.2.2.1.slots := by rw [hR]; exact ⟨Nat.le_refl _, Nat.le_refl _, Nat.zero_le _, Nat.zero_le _⟩
  refine v_iload_n C dXF_putBehind_0 rfl rfl ?_
  refine v_if_lt (tgt := 41) C dXF_putBehind_1 (by decide) (by omega) (fun hc1 => ?_) (fun hc1 => ?_)
  · exfalso; omega
  · refine v_iload_n C dXF_putBehind_4 rfl rfl ?_
    refine v_if_lt (tgt := 41) C dXF_putBehind_5 (by decide) (by omega) (fun hc2 => ?_) (fun hc2 => ?_)
    · exfalso; omega
    · refine v_iload_n C dXF_putBehind_8 rfl rfl ?_
      refine v_aload_n C dXF_putBehind_9 rfl rfl ?_
      refine v_alen (k := 375) C dXF_putBehind_10 (by show (375 : Nat) < 383; decide) rfl rfl ?_
      refine v_icmp_gt (tgt := 41) C dXF_putBehind_11 (by decide) (by omega) (by omega) (fun hc3 => ?_) (fun hc3 => ?_)
      · exfalso; omega
      · refine v_iload_n C dXF_putBehind_14 rfl rfl ?_
        refine v_iload_n C dXF_putBehind_15 rfl rfl ?_
        refine v_iadd C dXF_putBehind_16 ?_
        refine v_sipush C dXF_putBehind_17 (by decide +kernel) ?_
        refine v_icmp_gt (tgt := 41) C dXF_putBehind_20 (by decide) (by omega) (by omega) (fun hc4 => ?_) (fun hc4 => ?_)
        · exfalso; omega
        · refine v_aload_n C dXF_putBehind_23 rfl rfl ?_
          refine v_iconst C dXF_putBehind_24 ?_
          refine v_aload_n C dXF_putBehind_25 rfl rfl ?_
          refine v_getR (k := 8) (q := 0) C dXF_putBehind_26 (by show (8 : Nat) < 383; decide) rfl rfl (by decide) rfl inXF lXF_9 rfl ?_
          refine v_iload_n C dXF_putBehind_29 rfl rfl ?_
          refine v_iload_n C dXF_putBehind_30 rfl rfl ?_
          refine v_copy (k0 := 375) (k1 := 9) (sp := 0) (dp := b) (n := n) C (in9 (by decide +kernel) rfl) (in9 (by decide +kernel) rfl) (in9 (by decide +kernel) rfl) (in9 (by decide +kernel) rfl) (by show (375 : Nat) < 383; decide) rfl (by show (9 : Nat) < 383; decide) rfl rfl rfl (by omega) (by omega) (by omega) (by omega) (by omega) (fun i => fF_byte (h375 i).1 (h375 i).2) (by rw [hR]; exact ⟨by decide, by decide +kernel⟩) dXF_putBehind_31 ?_
          refine v_aload_n C dXF_putBehind_34 rfl rfl ?_
          refine v_iload_n C dXF_putBehind_35 rfl rfl ?_
          refine v_iload_n C dXF_putBehind_36 rfl rfl ?_
          refine v_iadd C dXF_putBehind_37 ?_
          refine v_putI (k := 8) (q := 1) C dXF_putBehind_38 (by show (8 : Nat) < 383; decide) rfl rfl (by decide) rfl inXF tyXF_ok nmXF lXF_15 rfl rfl rfl rfl rfl ?_
          exact v_vret C hRt hLk dXF_putBehind_41 rfl
set_option maxRecDepth 100000 in
set_option maxHeartbeats 4000000 in
/-- add -/
theorem kX_XH_add0 (l : Launch) (D : va_G) (cA : Nat → ClassId) (ad : Nat → Nat) (hJ : f_J (xG D cA ad)) (σ : fS) (hc : σ.1 10 1 = 0) (hb : ∀ i, -2 ≤ σ.2 378 i ∧ σ.2 378 i ≤ 99999) : f_M l (xG D cA ad) (xE (xG D cA ad)) yXH_add (Cond.code yXH_add cXH_add 3 none :: A9) 2 σ [.ref (ad 10), .ref (ad 377)] (f_QV (fun σ1 => σ1 = x_add0 σ 377) (xG D cA ad)) := by
  refine f_enter (by decide +kernel) hJ rfl (Nat.le_of_ble_eq_true rfl) ?_
  intro z hzl hR C hRt hLk hEz
  subst hzl
  have hRR : 2 ≤ z.2.2.2.1.frames ∧ 40 * 2 ≤ z.2.2.2.1.locals ∧ 0 ≤ z.2.2.2.1.cells ∧ 0 ≤ z.2.2.2.1.slots := by rw [hR]; exact ⟨Nat.le_refl _, Nat.le_refl _, Nat.zero_le _, Nat.zero_le _⟩
  refine v_aload_n C dXH_add_0 rfl rfl ?_
  refine v_getI (k := 10) (q := 1) (v := 0) C dXH_add_1 (by show (10 : Nat) < 383; decide) rfl rfl (by decide) rfl inXH lXH_18 rfl hc ?_
  refine v_bipush C dXH_add_4 (by decide +kernel) ?_
  refine v_icmp_lt (tgt := 10) C dXH_add_6 (by decide) (by omega) (by omega) (fun hc1 => ?_) (fun hc1 => ?_)
  · refine v_aload_n C dXH_add_10 rfl rfl ?_
    refine v_getR (k := 10) (q := 0) C dXH_add_11 (by show (10 : Nat) < 383; decide) rfl rfl (by decide) rfl inXH lXH_11 rfl ?_
    refine v_aload_n C dXH_add_14 rfl rfl ?_
    refine v_getI (k := 10) (q := 1) (v := 0) C dXH_add_15 (by show (10 : Nat) < 383; decide) rfl rfl (by decide) rfl inXH lXH_18 rfl hc ?_
    refine v_aald (k := 11) C dXH_add_18 (by show (11 : Nat) < 383; decide) rfl rfl (by omega) (by decide) ?_
    refine v_astore_n C dXH_add_19 rfl (by decide) ?_
    refine v_aload_n C dXH_add_20 rfl rfl ?_
    refine v_getI (k := 10) (q := 1) (v := 0) C dXH_add_21 (by show (10 : Nat) < 383; decide) rfl rfl (by decide) rfl inXH lXH_18 rfl hc ?_
    refine v_if_ne (tgt := 35) C dXH_add_24 (by decide) (by omega) (fun hc2 => ?_) (fun hc2 => ?_)
    · exfalso; omega
    · refine v_aload_n C dXH_add_27 rfl rfl ?_
      refine v_iconst C dXH_add_28 ?_
      refine v_cVV (k := 12) (n := 1) C (xE_ok _) hEz hR (kX_XT_reset _ D cA ad hJ σ 12 (by decide) rfl rfl rfl (-1)) dXH_add_29 (by show (12 : Nat) < 383; decide) rfl rfl gXH_22 (by decide +kernel) (by decide) (by decide) rfl (Nat.le_of_ble_eq_true rfl) rfl ⟨rfl, rfl⟩ (fun σ1 hp1 => ?_)
      subst σ1
      refine v_goto (tgt := 50) C dXH_add_32 (by decide) ?_
      refine v_aload_n C dXH_add_50 rfl rfl ?_
      refine v_aload_n C dXH_add_51 rfl rfl ?_
      refine v_cVV (k := 12) (n := 1) C (xE_ok _) hEz hR (kX_XT_lay _ D cA ad hJ (x_reset σ 12 (-1)) 12 (by decide) rfl rfl rfl 377 (by decide) rfl rfl rfl (by omega) (fun i => by rw [x_reset_o _ _ _ _ _ (by omega)]; exact hb i)) dXH_add_52 (by show (12 : Nat) < 383; decide) rfl rfl gXH_30 (by decide +kernel) (by decide) (by decide) rfl (Nat.le_of_ble_eq_true rfl) rfl ⟨rfl, rfl⟩ (fun σ1 hp1 => ?_)
      subst σ1
      refine v_aload_n C dXH_add_55 rfl rfl ?_
      refine v_dup C dXH_add_56 rfl ?_
      refine v_getI (k := 10) (q := 1) (v := 0) C dXH_add_57 (by show (10 : Nat) < 383; decide) rfl rfl (by decide) rfl inXH lXH_18 rfl hc ?_
      refine v_iconst C dXH_add_60 ?_
      refine v_iadd C dXH_add_61 ?_
      refine v_putI (k := 10) (q := 1) C dXH_add_62 (by show (10 : Nat) < 383; decide) rfl rfl (by decide) rfl inXH tyXH_ok nmXH lXH_18 rfl rfl rfl rfl rfl ?_
      exact v_vret C hRt hLk dXH_add_65 (by unfold x_add0; rw [hc])
  · exfalso; omega
set_option maxRecDepth 100000 in
set_option maxHeartbeats 4000000 in
/-- keepDraft -/
theorem kX_XA_keepDraft0 (l : Launch) (D : va_G) (cA : Nat → ClassId) (ad : Nat → Nat) (hJ : f_J (xG D cA ad)) (σ : fS) (hb5 : 0 ≤ σ.1 374 5) (hb6 : 0 ≤ σ.1 374 6 ∧ σ.1 374 6 ≤ 6000) (hbn : σ.1 374 5 + σ.1 374 6 ≤ 12000) (hc : σ.1 10 1 = 0) (h2 : ∀ i, 0 ≤ σ.2 2 i ∧ σ.2 2 i ≤ 1) (h375 : ∀ i, -128 ≤ σ.2 375 i ∧ σ.2 375 i ≤ 127) (hb : ∀ i, -2 ≤ σ.2 378 i ∧ σ.2 378 i ≤ 99999) : f_M l (xG D cA ad) (xE (xG D cA ad)) yXA_keepDraft (Cond.code yXA_keepDraft cXA_keepDraft 1 none :: A9) 3 σ [.ref (ad 0)] (f_QV (fun σ1 => σ1 = x_keep0 σ) (xG D cA ad)) := by
  refine f_enter (by decide +kernel) hJ rfl (Nat.le_of_ble_eq_true rfl) ?_
  intro z hzl hR C hRt hLk hEz
  subst hzl
  have hRR : 3 ≤ z.2.2.2.1.frames ∧ 40 * 3 ≤ z.2.2.2.1.locals ∧ 0 ≤ z.2.2.2.1.cells ∧ 0 ≤ z.2.2.2.1.slots := by rw [hR]; exact ⟨Nat.le_refl _, Nat.le_refl _, Nat.zero_le _, Nat.zero_le _⟩
  refine v_aload_n C dXA_keepDraft_0 rfl rfl ?_
  refine v_getR (k := 0) (q := 1) C dXA_keepDraft_1 (by show (0 : Nat) < 383; decide) rfl rfl (by decide) rfl inXA lXA_19 rfl ?_
  refine v_aload_n C dXA_keepDraft_4 rfl rfl ?_
  refine v_getR (k := 0) (q := 4) C dXA_keepDraft_5 (by show (0 : Nat) < 383; decide) rfl rfl (by decide) rfl inXA lXA_44 rfl ?_
  refine v_getI (k := 374) (q := 5) (v := σ.1 374 5) C dXA_keepDraft_8 (by show (374 : Nat) < 383; decide) rfl rfl (by decide) rfl inXD lXA_210 rfl rfl ?_
  refine v_aload_n C dXA_keepDraft_11 rfl rfl ?_
  refine v_getR (k := 0) (q := 4) C dXA_keepDraft_12 (by show (0 : Nat) < 383; decide) rfl rfl (by decide) rfl inXA lXA_44 rfl ?_
  refine v_getR (k := 374) (q := 1) C dXA_keepDraft_15 (by show (374 : Nat) < 383; decide) rfl rfl (by decide) rfl inXD lXA_213 rfl ?_
  refine v_aload_n C dXA_keepDraft_18 rfl rfl ?_
  refine v_getR (k := 0) (q := 4) C dXA_keepDraft_19 (by show (0 : Nat) < 383; decide) rfl rfl (by decide) rfl inXA lXA_44 rfl ?_
  refine v_getI (k := 374) (q := 6) (v := σ.1 374 6) C dXA_keepDraft_22 (by show (374 : Nat) < 383; decide) rfl rfl (by decide) rfl inXD lXA_153 rfl rfl ?_
  refine v_cVV (k := 8) (n := 3) C (xE_ok _) hEz hR (kX_XF_putBehind _ D cA ad hJ σ (σ.1 374 5) (σ.1 374 6) hb5 hb6 hbn h375) dXA_keepDraft_25 (by show (8 : Nat) < 383; decide) rfl rfl gXA_214 (by decide +kernel) (by decide) (by decide) rfl (Nat.le_of_ble_eq_true rfl) rfl ⟨rfl, rfl⟩ (fun σ1 hp1 => ?_)
  subst σ1
  refine v_aload_n C dXA_keepDraft_28 rfl rfl ?_
  refine v_getR (k := 0) (q := 1) C dXA_keepDraft_29 (by show (0 : Nat) < 383; decide) rfl rfl (by decide) rfl inXA lXA_19 rfl ?_
  refine v_iconst C dXA_keepDraft_32 ?_
  refine v_putI (k := 8) (q := 2) C dXA_keepDraft_33 (by show (8 : Nat) < 383; decide) rfl rfl (by decide) rfl inXF tyXF_ok nmXF lXA_132 rfl rfl rfl (fN_bool (by omega)) (fF_bool (by omega)) ?_
  refine v_aload_n C dXA_keepDraft_36 rfl rfl ?_
  refine v_getR (k := 0) (q := 2) C dXA_keepDraft_37 (by show (0 : Nat) < 383; decide) rfl rfl (by decide) rfl inXA lXA_26 rfl ?_
  refine v_aload_n C dXA_keepDraft_40 rfl rfl ?_
  refine v_getR (k := 0) (q := 4) C dXA_keepDraft_41 (by show (0 : Nat) < 383; decide) rfl rfl (by decide) rfl inXA lXA_44 rfl ?_
  refine v_getR (k := 374) (q := 3) C dXA_keepDraft_44 (by show (374 : Nat) < 383; decide) rfl rfl (by decide) rfl inXD lXA_110 rfl ?_
  refine v_cVV (k := 10) (n := 1) C (xE_ok _) hEz hR (kX_XH_add0 _ D cA ad hJ (f_p1 (x_behind σ (σ.1 374 5) (σ.1 374 6)) 8 2 0) hc (fun i => by show _ ≤ (x_behind σ (σ.1 374 5) (σ.1 374 6)).2 378 i ∧ (x_behind σ (σ.1 374 5) (σ.1 374 6)).2 378 i ≤ _; rw [x_behind_2 _ _ _ _ _ (by decide)]; exact hb i)) dXA_keepDraft_47 (by show (10 : Nat) < 383; decide) rfl rfl gXA_218 (by decide +kernel) (by decide) (by decide) rfl (Nat.le_of_ble_eq_true rfl) rfl ⟨rfl, rfl⟩ (fun σ1 hp1 => ?_)
  subst σ1
  refine v_aload_n C dXA_keepDraft_50 rfl rfl ?_
  refine v_getR (k := 0) (q := 0) C dXA_keepDraft_51 (by show (0 : Nat) < 383; decide) rfl rfl (by decide) rfl inXA lXA_10 rfl ?_
  refine v_cVV (k := 1) (n := 0) C (xE_ok _) hEz hR (kX_XS_save _ D cA ad hJ (x_add0 (f_p1 (x_behind σ (σ.1 374 5) (σ.1 374 6)) 8 2 0) 377) (fun i => by rw [x_add0_2 _ _ _ (by decide)]; show _ ≤ (x_behind σ (σ.1 374 5) (σ.1 374 6)).2 2 i ∧ (x_behind σ (σ.1 374 5) (σ.1 374 6)).2 2 i ≤ _; rw [x_behind_2 _ _ _ _ _ (by decide)]; exact h2 i)) dXA_keepDraft_54 (by show (1 : Nat) < 383; decide) rfl rfl gXA_222 (by decide +kernel) (by decide) (by decide) rfl (Nat.le_of_ble_eq_true rfl) rfl ⟨rfl, rfl⟩ (fun σ1 hp1 => ?_)
  subst σ1
  exact v_vret C hRt hLk dXA_keepDraft_57 rfl
set_option maxRecDepth 100000 in
set_option maxHeartbeats 4000000 in
/-- write -/
theorem kX_XA_write0 (l : Launch) (D : va_G) (cA : Nat → ClassId) (ad : Nat → Nat) (hJ : f_J (xG D cA ad)) (σ : fS) (how : Int) (hw : 0 ≤ how ∧ how ≤ 2) (h0 : ∀ i, σ.2 2 i = 0) (h378 : ∀ i, -2 ≤ σ.2 378 i ∧ σ.2 378 i ≤ 99999) (h375 : ∀ i, -128 ≤ (x_fin0 (x_puts (x_beg σ 0) [37, 70, 49, 10]) 0).2 375 i ∧ (x_fin0 (x_puts (x_beg σ 0) [37, 70, 49, 10]) 0).2 375 i ≤ 127) : f_M l (xG D cA ad) (xE (xG D cA ad)) yXA_write (Cond.code yXA_write cXA_write 2 (some .int) :: A9) 4 σ [.ref (ad 0), .int (fI how)] (f_QI (fun r σ1 => r = 16) (xG D cA ad)) := by
  refine f_enter (by decide +kernel) hJ rfl (Nat.le_of_ble_eq_true rfl) ?_
  intro z hzl hR C hRt hLk hEz
  subst hzl
  have hRR : 4 ≤ z.2.2.2.1.frames ∧ 40 * 4 ≤ z.2.2.2.1.locals ∧ 0 ≤ z.2.2.2.1.cells ∧ 0 ≤ z.2.2.2.1.slots := by rw [hR]; exact ⟨Nat.le_refl _, Nat.le_refl _, Nat.zero_le _, Nat.zero_le _⟩
  obtain ⟨B, hB⟩ : ∃ s, s = x_beg σ 0 := ⟨_, rfl⟩
  obtain ⟨F, hF⟩ : ∃ s, s = x_puts B [37, 70, 49, 10] := ⟨_, rfl⟩
  obtain ⟨E, hE⟩ : ∃ s, s = x_fin0 F 0 := ⟨_, rfl⟩
  obtain ⟨K, hK⟩ : ∃ s, s = f_p1 E 10 1 0 := ⟨_, rfl⟩
  have hB1 := x_beg_1 σ 0
  rw [← hB] at hB1
  obtain ⟨hB5, hB6, hB4⟩ := hB1
  have hF2 : ∀ x i, x ≠ 375 → F.2 x i = B.2 x i := fun x i h => by rw [hF, x_puts_2 _ _ _ _ h]
  have hF0 : ∀ i, F.2 2 i = 0 := fun i => by rw [hF2 2 i (by decide), hB, x_beg_2 _ _ _ _ (by decide)]; exact h0 i
  have hF5 : F.1 374 5 = 0 := by rw [hF, x_puts_1, if_neg (by decide)]; exact hB5
  have hF6 : F.1 374 6 = 4 := by rw [hF, x_puts_u, hB6]; rfl
  have hF4 : F.1 374 4 = 0 := by rw [hF, x_puts_1, if_neg (by decide)]; exact hB4
  have hF8 : ∀ i, F.2 378 i = if i < 41 then -2 else σ.2 378 i := fun i => by rw [hF2 378 i (by decide), hB]; exact x_beg_378 σ 0 i
  have hFr : ∀ i, 1 ≤ i → i ≤ 40 → F.2 378 i = -2 := fun i h1 h2 => by rw [hF8, if_pos (by omega)]
  have hFb : ∀ i, -2 ≤ F.2 378 i ∧ F.2 378 i ≤ 99999 := fun i => by rw [hF8]; split; (· omega); (· exact h378 i)
  have hL : (m_tell 120 0 ++ m_tell 112 0 ++ m_tell 101 (F.1 374 5 + F.1 374 6)).length = 12 := by rw [hF5, hF6]; decide +kernel
  have hE1 := x_fin0_1 F 0
  rw [← hE, hL, hF5, hF6] at hE1
  obtain ⟨hE3, hE5, hE6⟩ := hE1
  have hE3 : E.1 377 3 = 16 := by rw [hE3]; rfl
  have hE6 : E.1 374 6 = 16 := by rw [hE6]; rfl
  have hE2 : ∀ x i, x ≠ 375 → E.2 x i = F.2 x i := fun x i h => by rw [hE]; exact x_fin0_2 F 0 x i h
  have hK1 : ∀ q, K.1 374 q = E.1 374 q := fun q => by rw [hK, p1_1, if_neg (by omega)]
  have hK10 : K.1 10 1 = 0 := by rw [hK, p1_1, if_pos ⟨rfl, rfl⟩]
  have hK2 : ∀ x i, K.2 x i = E.2 x i := fun x i => by rw [hK]; rfl
  have hK8 : (x_keep0 K).1 8 1 = 16 := by rw [x_keep0_81, hK1, hK1, hE5, hE6]; rfl
  have h375 : ∀ i, -128 ≤ K.2 375 i ∧ K.2 375 i ≤ 127 := fun i => by rw [hK2, hE, hF, hB]; exact h375 i
  refine v_iload_n C dXA_write_0 rfl rfl ?_
  refine v_if_lt (tgt := 9) C dXA_write_1 (by decide) (by omega) (fun hc1 => ?_) (fun hc1 => ?_)
  · exfalso; omega
  · refine v_iload_n C dXA_write_4 rfl rfl ?_
    refine v_iconst C dXA_write_5 ?_
    refine v_icmp_le (tgt := 19) C dXA_write_6 (by decide) (by omega) (by omega) (fun hc2 => ?_) (fun hc2 => ?_)
    · refine v_aload_n C dXA_write_19 rfl rfl ?_
      refine v_getR (k := 0) (q := 4) C dXA_write_20 (by show (0 : Nat) < 383; decide) rfl rfl (by decide) rfl inXA lXA_44 rfl ?_
      refine v_iconst C dXA_write_23 ?_
      refine v_cVV (k := 374) (n := 1) C (xE_ok _) hEz hR (kX_XD_begin _ D cA ad hJ σ 0 (by omega)) dXA_write_24 (by show (374 : Nat) < 383; decide) rfl rfl gXA_97 (by decide +kernel) (by decide) (by decide) rfl (Nat.le_of_ble_eq_true rfl) rfl ⟨rfl, rfl⟩ (fun σ1 hp1 => ?_)
      subst σ1
      refine v_st hB.symm ?_
      refine v_aload_n C dXA_write_27 rfl rfl ?_
      refine v_getR (k := 0) (q := 4) C dXA_write_28 (by show (0 : Nat) < 383; decide) rfl rfl (by decide) rfl inXA lXA_44 rfl ?_
      refine v_cVV (k := 374) (n := 0) C (xE_ok _) hEz hR (kX_XD_putFirstLine _ D cA ad hJ B (by omega)) dXA_write_31 (by show (374 : Nat) < 383; decide) rfl rfl gXA_101 (by decide +kernel) (by decide) (by decide) rfl (Nat.le_of_ble_eq_true rfl) rfl ⟨rfl, rfl⟩ (fun σ1 hp1 => ?_)
      subst σ1
      refine v_st hF.symm ?_
      refine v_aload_n C dXA_write_34 rfl rfl ?_
      refine v_getR (k := 0) (q := 4) C dXA_write_35 (by show (0 : Nat) < 383; decide) rfl rfl (by decide) rfl inXA lXA_44 rfl ?_
      refine v_iload_n C dXA_write_38 rfl rfl ?_
      refine v_cVV (k := 374) (n := 1) C (xE_ok _) hEz hR (kX_XD_chooseThere0 _ D cA ad hJ F how hF0) dXA_write_39 (by show (374 : Nat) < 383; decide) rfl rfl gXA_104 (by decide +kernel) (by decide) (by decide) rfl (Nat.le_of_ble_eq_true rfl) rfl ⟨rfl, rfl⟩ (fun σ1 hp1 => ?_)
      subst σ1
      refine v_aload_n C dXA_write_42 rfl rfl ?_
      refine v_getR (k := 0) (q := 4) C dXA_write_43 (by show (0 : Nat) < 383; decide) rfl rfl (by decide) rfl inXA lXA_44 rfl ?_
      refine v_iconst C dXA_write_46 ?_
      refine v_cVV (k := 374) (n := 1) C (xE_ok _) hEz hR (kX_XD_finish0 _ D cA ad hJ F 0 (by omega) hF4 (by omega) (by omega) hFb hFr) dXA_write_47 (by show (374 : Nat) < 383; decide) rfl rfl gXA_107 (by decide +kernel) (by decide) (by decide) rfl (Nat.le_of_ble_eq_true rfl) rfl ⟨rfl, rfl⟩ (fun σ1 hp1 => ?_)
      subst σ1
      refine v_st hE.symm ?_
      refine v_aload_n C dXA_write_50 rfl rfl ?_
      refine v_getR (k := 0) (q := 4) C dXA_write_51 (by show (0 : Nat) < 383; decide) rfl rfl (by decide) rfl inXA lXA_44 rfl ?_
      refine v_getR (k := 374) (q := 3) C dXA_write_54 (by show (374 : Nat) < 383; decide) rfl rfl (by decide) rfl inXD lXA_110 rfl ?_
      refine v_getI (k := 377) (q := 3) (v := 16) C dXA_write_57 (by show (377 : Nat) < 383; decide) rfl rfl (by decide) rfl inXT lXA_114 rfl hE3 ?_
      refine v_sipush C dXA_write_60 (by decide +kernel) ?_
      refine v_icmp_le (tgt := 76) C dXA_write_63 (by decide) (by omega) (by omega) (fun hc3 => ?_) (fun hc3 => ?_)
      · refine v_aload_n C dXA_write_76 rfl rfl ?_
        refine v_getR (k := 0) (q := 2) C dXA_write_77 (by show (0 : Nat) < 383; decide) rfl rfl (by decide) rfl inXA lXA_26 rfl ?_
        refine v_iconst C dXA_write_80 ?_
        refine v_putI (k := 10) (q := 1) C dXA_write_81 (by show (10 : Nat) < 383; decide) rfl rfl (by decide) rfl inXH tyXH_ok nmXH lXA_125 rfl rfl rfl rfl rfl ?_
        refine v_st hK.symm ?_
        refine v_aload_n C dXA_write_84 rfl rfl ?_
        refine v_cVV (k := 0) (n := 0) C (xE_ok _) hEz hR (kX_XA_keepDraft0 _ D cA ad hJ K (by rw [hK1]; omega) (by rw [hK1]; omega) (by rw [hK1, hK1]; omega) hK10 (fun i => by rw [hK2, hE2 2 i (by decide), hF0]; omega) h375 (fun i => by rw [hK2, hE2 378 i (by decide)]; exact hFb i)) dXA_write_85 (by show (0 : Nat) < 383; decide) rfl rfl gXA_128 (by decide +kernel) (by decide) (by decide) rfl (Nat.le_of_ble_eq_true rfl) rfl ⟨rfl, rfl⟩ (fun σ1 hp1 => ?_)
        subst σ1
        refine v_aload_n C dXA_write_88 rfl rfl ?_
        refine v_getR (k := 0) (q := 1) C dXA_write_89 (by show (0 : Nat) < 383; decide) rfl rfl (by decide) rfl inXA lXA_19 rfl ?_
        refine v_getI (k := 8) (q := 1) (v := 16) C dXA_write_92 (by show (8 : Nat) < 383; decide) rfl rfl (by decide) rfl inXF lXA_131 rfl hK8 ?_
        exact v_iret C hRt hLk dXA_write_95 rfl
      · exfalso; omega
    · exfalso; omega
set_option maxRecDepth 100000 in
set_option maxHeartbeats 4000000 in
/-- hasFirstLine -/
theorem kX_XC_hasFirstLine0 (l : Launch) (D : va_G) (cA : Nat → ClassId) (ad : Nat → Nat) (hJ : f_J (xG D cA ad)) (σ : fS) (hc : σ.1 8 1 = 0) (h9 : ∀ i, -128 ≤ σ.2 9 i ∧ σ.2 9 i ≤ 127) : f_M l (xG D cA ad) (xE (xG D cA ad)) yXC_hasFirstLine (Cond.code yXC_hasFirstLine cXC_hasFirstLine 2 (some .boolean) :: A9) 1 σ [.ref (ad 192)] (f_QI (fun r σ1 => r = 0 ∧ σ1 = σ) (xG D cA ad)) := by
  refine f_enter (by decide +kernel) hJ rfl (Nat.le_of_ble_eq_true rfl) ?_
  intro z hzl hR C hRt hLk hEz
  subst hzl
  have hRR : 1 ≤ z.2.2.2.1.frames ∧ 40 * 1 ≤ z.2.2.2.1.locals ∧ 0 ≤ z.2.2.2.1.cells ∧ 0 ≤ z.2.2.2.1.slots := by rw [hR]; exact ⟨Nat.le_refl _, Nat.le_refl _, Nat.zero_le _, Nat.zero_le _⟩
  refine v_iconst C dXC_hasFirstLine_0 ?_
  refine v_istore_n C dXC_hasFirstLine_1 rfl (by decide) ?_
  refine v_iload_n C dXC_hasFirstLine_2 rfl rfl ?_
  refine v_fl C hEz (by decide +kernel) dXC_hasFirstLine_3 (fun t1 hTt1 => ?_)
  refine v_fln C hTt1 dXC_hasFirstLine_6 ?_
  refine v_icmp_ge (tgt := 34) C dXC_hasFirstLine_7 (by decide) (by omega) (by omega) (fun hc2 => ?_) (fun hc2 => ?_)
  · exfalso; omega
  · refine v_aload_n C dXC_hasFirstLine_10 rfl rfl ?_
    refine v_getR (k := 192) (q := 0) C dXC_hasFirstLine_11 (by show (192 : Nat) < 383; decide) rfl rfl (by decide) rfl inXC lXC_17 rfl ?_
    refine v_iload_n C dXC_hasFirstLine_14 rfl rfl ?_
    refine v_cVI (k := 8) (n := 1) C (xE_ok _) hEz hR (kX_XF_valueAt _ D cA ad hJ σ 0 (by omega) (by omega) h9) dXC_hasFirstLine_15 (by show (8 : Nat) < 383; decide) rfl rfl gXC_33 (by decide +kernel) (by decide) (by decide) rfl (Nat.le_of_ble_eq_true rfl) rfl ⟨rfl, rfl⟩ (fun r1 σ1 hp1 => ?_)
    obtain ⟨e1, e2⟩ := hp1
    subst σ1
    rw [if_neg (by omega)] at e1
    subst r1
    refine v_fl C hEz (by decide +kernel) dXC_hasFirstLine_18 (fun t3 hTt3 => ?_)
    refine v_iload_n C dXC_hasFirstLine_21 rfl rfl ?_
    refine v_flb (i := 0) C hTt3 (by decide) dXC_hasFirstLine_22 ?_
    refine v_top (b := 37) (by decide +kernel) ?_
    refine v_icmp_eq (tgt := 28) C dXC_hasFirstLine_23 (by decide) (by omega) (by omega) (fun hc4 => ?_) (fun hc4 => ?_)
    · exfalso; omega
    · refine v_iconst C dXC_hasFirstLine_26 ?_
      exact v_zret C hRt hLk dXC_hasFirstLine_27 (fN_bool (by omega)) ⟨rfl, rfl⟩
set_option maxRecDepth 100000 in
set_option maxHeartbeats 4000000 in
/-- findFault -/
theorem kX_XC_findFault0 (l : Launch) (D : va_G) (cA : Nat → ClassId) (ad : Nat → Nat) (hJ : f_J (xG D cA ad)) (σ : fS) (hc : σ.1 8 1 = 0) (h9 : ∀ i, -128 ≤ σ.2 9 i ∧ σ.2 9 i ≤ 127) : f_M l (xG D cA ad) (xE (xG D cA ad)) yXC_findFault (Cond.code yXC_findFault cXC_findFault 5 (some .int) :: A9) 2 σ [.ref (ad 192)] (f_QI (fun r σ1 => r = 0 ∧ σ1 = f_p1 σ 192 2 0) (xG D cA ad)) := by
  refine f_enter (by decide +kernel) hJ rfl (Nat.le_of_ble_eq_true rfl) ?_
  intro z hzl hR C hRt hLk hEz
  subst hzl
  have hRR : 2 ≤ z.2.2.2.1.frames ∧ 40 * 2 ≤ z.2.2.2.1.locals ∧ 0 ≤ z.2.2.2.1.cells ∧ 0 ≤ z.2.2.2.1.slots := by rw [hR]; exact ⟨Nat.le_refl _, Nat.le_refl _, Nat.zero_le _, Nat.zero_le _⟩
  refine v_aload_n C dXC_findFault_0 rfl rfl ?_
  refine v_iconst C dXC_findFault_1 ?_
  refine v_putI (k := 192) (q := 2) C dXC_findFault_2 (by show (192 : Nat) < 383; decide) rfl rfl (by decide) rfl inXC tyXC_ok nmXC lXC_22 rfl rfl rfl rfl rfl ?_
  refine v_aload_n C dXC_findFault_5 rfl rfl ?_
  refine v_cVI (k := 192) (n := 0) C (xE_ok _) hEz hR (kX_XC_hasFirstLine0 _ D cA ad hJ (f_p1 σ 192 2 0) hc h9) dXC_findFault_6 (by show (192 : Nat) < 383; decide) rfl rfl gXC_26 (by decide +kernel) (by decide) (by decide) rfl (Nat.le_of_ble_eq_true rfl) rfl ⟨rfl, rfl⟩ (fun r1 σ1 hp1 => ?_)
  obtain ⟨e1, e2⟩ := hp1
  subst σ1
  subst r1
  refine v_if_ne (tgt := 14) C dXC_findFault_9 (by decide) (by omega) (fun hc1 => ?_) (fun hc1 => ?_)
  · exfalso; omega
  · refine v_iconst C dXC_findFault_12 ?_
    exact v_iret C hRt hLk dXC_findFault_13 ⟨rfl, rfl⟩
set_option maxRecDepth 100000 in
set_option maxHeartbeats 4000000 in
/-- readFile -/
theorem kX_XA_readFile0 (l : Launch) (D : va_G) (cA : Nat → ClassId) (ad : Nat → Nat) (hJ : f_J (xG D cA ad)) (σ : fS) (hc : σ.1 8 1 = 0) (h9 : ∀ i, -128 ≤ σ.2 9 i ∧ σ.2 9 i ≤ 127) : f_M l (xG D cA ad) (xE (xG D cA ad)) yXA_readFile (Cond.code yXA_readFile cXA_readFile 3 (some .int) :: A9) 3 σ [.ref (ad 0)] (f_QI (fun r σ1 => r = -1 ∧ σ1 = f_p1 σ 192 2 0) (xG D cA ad)) := by
  refine f_enter (by decide +kernel) hJ rfl (Nat.le_of_ble_eq_true rfl) ?_
  intro z hzl hR C hRt hLk hEz
  subst hzl
  have hRR : 3 ≤ z.2.2.2.1.frames ∧ 40 * 3 ≤ z.2.2.2.1.locals ∧ 0 ≤ z.2.2.2.1.cells ∧ 0 ≤ z.2.2.2.1.slots := by rw [hR]; exact ⟨Nat.le_refl _, Nat.le_refl _, Nat.zero_le _, Nat.zero_le _⟩
  refine v_aload_n C dXA_readFile_0 rfl rfl ?_
  refine v_getR (k := 0) (q := 3) C dXA_readFile_1 (by show (0 : Nat) < 383; decide) rfl rfl (by decide) rfl inXA lXA_35 rfl ?_
  refine v_cVI (k := 192) (n := 0) C (xE_ok _) hEz hR (kX_XC_findFault0 _ D cA ad hJ σ hc h9) dXA_readFile_4 (by show (192 : Nat) < 383; decide) rfl rfl gXA_225 (by decide +kernel) (by decide) (by decide) rfl (Nat.le_of_ble_eq_true rfl) rfl ⟨rfl, rfl⟩ (fun r1 σ1 hp1 => ?_)
  obtain ⟨e1, e2⟩ := hp1
  subst σ1
  subst r1
  refine v_istore_n C dXA_readFile_7 rfl (by decide) ?_
  refine v_iload_n C dXA_readFile_8 rfl rfl ?_
  refine v_iconst C dXA_readFile_9 ?_
  refine v_icmp_eq (tgt := 17) C dXA_readFile_10 (by decide) (by omega) (by omega) (fun hc1 => ?_) (fun hc1 => ?_)
  · exfalso; omega
  · refine v_iconst C dXA_readFile_13 ?_
    refine v_iload_n C dXA_readFile_14 rfl rfl ?_
    refine v_isub C dXA_readFile_15 ?_
    exact v_iret C hRt hLk dXA_readFile_16 ⟨rfl, rfl⟩
set_option maxRecDepth 100000 in
set_option maxHeartbeats 4000000 in
/-- read -/
theorem kX_XA_read0 (l : Launch) (D : va_G) (cA : Nat → ClassId) (ad : Nat → Nat) (hJ : f_J (xG D cA ad)) (σ : fS) (hc : σ.1 8 1 = 0) (h9 : ∀ i, -128 ≤ σ.2 9 i ∧ σ.2 9 i ≤ 127) : f_M l (xG D cA ad) (xE (xG D cA ad)) yXA_read (Cond.code yXA_read cXA_read 1 (some .int) :: A9) 4 σ [.ref (ad 0)] (f_QI (fun r σ1 => r = -1 ∧ σ1 = f_p1 σ 192 2 0) (xG D cA ad)) := by
  refine f_enter (by decide +kernel) hJ rfl (Nat.le_of_ble_eq_true rfl) ?_
  intro z hzl hR C hRt hLk hEz
  subst hzl
  have hRR : 4 ≤ z.2.2.2.1.frames ∧ 40 * 4 ≤ z.2.2.2.1.locals ∧ 0 ≤ z.2.2.2.1.cells ∧ 0 ≤ z.2.2.2.1.slots := by rw [hR]; exact ⟨Nat.le_refl _, Nat.le_refl _, Nat.zero_le _, Nat.zero_le _⟩
  refine v_aload_n C dXA_read_0 rfl rfl ?_
  refine v_cVI (k := 0) (n := 0) C (xE_ok _) hEz hR (kX_XA_readFile0 _ D cA ad hJ σ hc h9) dXA_read_1 (by show (0 : Nat) < 383; decide) rfl rfl gXA_156 (by decide +kernel) (by decide) (by decide) rfl (Nat.le_of_ble_eq_true rfl) rfl ⟨rfl, rfl⟩ (fun r1 σ1 hp1 => ?_)
  obtain ⟨e1, e2⟩ := hp1
  subst σ1
  subst r1
  exact v_iret C hRt hLk dXA_read_4 ⟨rfl, rfl⟩
