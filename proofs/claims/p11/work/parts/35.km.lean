theorem m_no_turn (σ : fS) (h : ∀ i, σ.2 1 i = 0) (w how t : Int) (k : Nat) : m_turn σ w how t k = [] := by
  induction k with
  | zero => rfl
  | succ k ih =>
    unfold m_turn
    rw [ih, cif_neg]
    · rfl
    · intro hs
      have := hs.2.1
      rw [h] at this
      omega
theorem m_no_turns (σ : fS) (h : ∀ i, σ.2 1 i = 0) (w how : Int) (t : Nat) : m_turns σ w how t = [] := by
  induction t with
  | zero => rfl
  | succ t ih => unfold m_turns; rw [ih, m_no_turn σ h]; rfl
theorem m_cnt0 (f : Nat → Int) (h : ∀ i, f i = 0) (k : Nat) : m_cnt f k = 0 := by
  induction k with
  | zero => rfl
  | succ k ih => show m_cnt f k + (if f (k + 1) = 1 then 1 else 0) = 0; rw [ih, h]; rfl
theorem m_rows0 (B : fS) (w : Int) (h : ∀ i, m_mv B w i = 0) (k : Nat) : m_rows B w k = [] := by
  induction k with
  | zero => rfl
  | succ k ih => show m_rows B w k ++ (if m_mv B w (k + 1) = 1 then _ else []) = []; rw [ih, h]; rfl
theorem m_body0 (σ : fS) (how : Int) (h : ∀ i, σ.2 1 i = 0) : m_body σ 0 1 how = m_puts (f_p1 σ 0 16 0) [37, 70, 49, 10] := by
  unfold m_body
  rw [m_no_turns σ h, if_pos rfl]
  rfl
theorem m_part0 (σ : fS) (how : Int) (h : ∀ i, σ.2 1 i = 0) : (m_body σ 0 1 how).1 0 16 = 4 ∧ (m_tail (m_body σ 0 1 how) 1 (m_pq σ 1)).length = 12 ∧ (m_part σ 0 1 how).1 0 16 = 16 ∧ (∀ q, q ≠ 16 → q ≠ 26 → (m_part σ 0 1 how).1 0 q = σ.1 0 q) ∧ ∀ k i, k ≠ 7 → (m_part σ 0 1 how).2 k i = σ.2 k i := by
  have hb := m_body0 σ how h
  have h16 : (m_body σ 0 1 how).1 0 16 = 4 := by rw [hb, m_puts_next]; rfl
  have hmv : ∀ i, m_mv (m_body σ 0 1 how) 1 i = 0 := fun i => by
    unfold m_mv
    rw [if_pos rfl, hb, m_puts_2 _ _ _ _ (by decide)]
    exact h i
  have hpq : m_pq σ 1 = 0 := by unfold m_pq; rw [if_pos rfl]
  have ht : m_tail (m_body σ 0 1 how) 1 (m_pq σ 1) = m_tell 120 0 ++ [] ++ m_tell 112 0 ++ m_tell 101 4 := by
    unfold m_tail
    rw [m_cnt0 _ hmv, m_rows0 _ _ hmv, hpq, h16]
  have hl : (m_tail (m_body σ 0 1 how) 1 (m_pq σ 1)).length = 12 := by rw [ht]; decide +kernel
  refine ⟨h16, hl, ?_, fun q h1 h2 => ?_, fun k i hk => ?_⟩
  · unfold m_part
    rw [p1_1, if_neg (by decide), m_puts_next, h16, hl]
    rfl
  · unfold m_part
    rw [p1_1, if_neg (by omega), m_puts_1, if_neg (by omega), hb, m_puts_1, if_neg (by omega), p1_1, if_neg (by omega)]
  · unfold m_part
    rw [p1_2, m_puts_2 _ _ _ _ hk, hb, m_puts_2 _ _ _ _ hk]
    rfl
set_option maxRecDepth 100000 in
set_option maxHeartbeats 4000000 in
theorem kM_writeR (l : Launch) (xCl : List vw_C) (D : va_G) (cA : Nat → ClassId) (ad : Nat → Nat) (hJ : f_J (mG xCl D cA ad)) (σ : fS) (how : Int) (hn : -2147483648 ≤ how ∧ how ≤ 2147483647) (hg : ¬ (0 ≤ how ∧ how ≤ 2)) : f_M l (mG xCl D cA ad) mE yM_write (Cond.code yM_write cM_write 2 (some .int) :: A9) 0 σ [.ref (ad 0), .int (fI how)] (f_QI (fun r σ1 => r = 0 ∧ σ1 = f_p1 σ 0 0 1) (mG xCl D cA ad)) := by
  refine f_enter (by decide +kernel) hJ rfl (Nat.le_of_ble_eq_true rfl) ?_
  intro z hzl hR C hRt hLk hEz
  subst hzl
  refine v_aload_n C dM_write_0 rfl rfl ?_
  refine v_iload_n C dM_write_1 rfl rfl ?_
  refine v_if_lt (tgt := 10) C dM_write_2 (by decide) (by omega) (fun hc1 => ?_) (fun hc1 => ?_)
  · refine v_iconst C dM_write_10 ?_
    refine v_goto (tgt := 15) C dM_write_11 (by decide) ?_
    refine v_putI (k := 0) (q := 0) C dM_write_15 (by show (0 : Nat) < 18; decide) rfl rfl (by decide) rfl inM tyM_ok nmM lM_63 rfl rfl rfl rfl rfl ?_
    refine v_aload_n C dM_write_18 rfl rfl ?_
    refine v_getI (k := 0) (q := 0) (v := 1) C dM_write_19 (by show (0 : Nat) < 18; decide) rfl rfl (by decide) rfl inM lM_63 rfl rfl ?_
    refine v_if_le (tgt := 27) C dM_write_22 (by decide) (by omega) (fun hc2 => ?_) (fun hc2 => ?_)
    · exfalso; omega
    · refine v_iconst C dM_write_25 ?_
      exact v_iret C hRt hLk dM_write_26 ⟨rfl, rfl⟩
  · refine v_iload_n C dM_write_5 rfl rfl ?_
    refine v_iconst C dM_write_6 ?_
    refine v_icmp_le (tgt := 14) C dM_write_7 (by decide) (by omega) (by omega) (fun hc3 => ?_) (fun hc3 => ?_)
    · exfalso; omega
    · refine v_iconst C dM_write_10 ?_
      refine v_goto (tgt := 15) C dM_write_11 (by decide) ?_
      refine v_putI (k := 0) (q := 0) C dM_write_15 (by show (0 : Nat) < 18; decide) rfl rfl (by decide) rfl inM tyM_ok nmM lM_63 rfl rfl rfl rfl rfl ?_
      refine v_aload_n C dM_write_18 rfl rfl ?_
      refine v_getI (k := 0) (q := 0) (v := 1) C dM_write_19 (by show (0 : Nat) < 18; decide) rfl rfl (by decide) rfl inM lM_63 rfl rfl ?_
      refine v_if_le (tgt := 27) C dM_write_22 (by decide) (by omega) (fun hc4 => ?_) (fun hc4 => ?_)
      · exfalso; omega
      · refine v_iconst C dM_write_25 ?_
        exact v_iret C hRt hLk dM_write_26 ⟨rfl, rfl⟩
set_option maxRecDepth 100000 in
set_option maxHeartbeats 4000000 in
theorem kM_appendR (l : Launch) (xCl : List vw_C) (D : va_G) (cA : Nat → ClassId) (ad : Nat → Nat) (hJ : f_J (mG xCl D cA ad)) (σ : fS) (hc : 0 ≤ σ.1 0 7 ∧ σ.1 0 7 ≤ 12000) (ha : 0 ≤ σ.1 0 9 ∧ σ.1 0 9 ≤ 1) (hg : σ.1 0 7 = 0 ∨ σ.1 0 9 = 1) : f_M l (mG xCl D cA ad) mE yM_append (Cond.code yM_append cM_append 2 (some .int) :: A9) 0 σ [.ref (ad 0)] (f_QI (fun r σ1 => r = 0 ∧ σ1 = f_p1 σ 0 0 1) (mG xCl D cA ad)) := by
  refine f_enter (by decide +kernel) hJ rfl (Nat.le_of_ble_eq_true rfl) ?_
  intro z hzl hR C hRt hLk hEz
  subst hzl
  refine v_aload_n C dM_append_0 rfl rfl ?_
  refine v_aload_n C dM_append_1 rfl rfl ?_
  refine v_getI (k := 0) (q := 7) (v := σ.1 0 7) C dM_append_2 (by show (0 : Nat) < 18; decide) rfl rfl (by decide) rfl inM lM_116 rfl rfl ?_
  refine v_if_eq (tgt := 15) C dM_append_5 (by decide) (by omega) (fun hc1 => ?_) (fun hc1 => ?_)
  · refine v_iconst C dM_append_15 ?_
    refine v_goto (tgt := 20) C dM_append_16 (by decide) ?_
    refine v_putI (k := 0) (q := 0) C dM_append_20 (by show (0 : Nat) < 18; decide) rfl rfl (by decide) rfl inM tyM_ok nmM lM_63 rfl rfl rfl rfl rfl ?_
    refine v_aload_n C dM_append_23 rfl rfl ?_
    refine v_getI (k := 0) (q := 0) (v := 1) C dM_append_24 (by show (0 : Nat) < 18; decide) rfl rfl (by decide) rfl inM lM_63 rfl rfl ?_
    refine v_if_gt (tgt := 37) C dM_append_27 (by decide) (by omega) (fun hc2 => ?_) (fun hc2 => ?_)
    · refine v_iconst C dM_append_37 ?_
      exact v_iret C hRt hLk dM_append_38 ⟨rfl, rfl⟩
    · exfalso; omega
  · refine v_aload_n C dM_append_8 rfl rfl ?_
    refine v_getI (k := 0) (q := 9) (v := σ.1 0 9) C dM_append_9 (by show (0 : Nat) < 18; decide) rfl rfl (by decide) rfl inM lM_123 rfl rfl ?_
    refine v_if_eq (tgt := 19) C dM_append_12 (by decide) (by omega) (fun hc3 => ?_) (fun hc3 => ?_)
    · exfalso; omega
    · refine v_iconst C dM_append_15 ?_
      refine v_goto (tgt := 20) C dM_append_16 (by decide) ?_
      refine v_putI (k := 0) (q := 0) C dM_append_20 (by show (0 : Nat) < 18; decide) rfl rfl (by decide) rfl inM tyM_ok nmM lM_63 rfl rfl rfl rfl rfl ?_
      refine v_aload_n C dM_append_23 rfl rfl ?_
      refine v_getI (k := 0) (q := 0) (v := 1) C dM_append_24 (by show (0 : Nat) < 18; decide) rfl rfl (by decide) rfl inM lM_63 rfl rfl ?_
      refine v_if_gt (tgt := 37) C dM_append_27 (by decide) (by omega) (fun hc4 => ?_) (fun hc4 => ?_)
      · refine v_iconst C dM_append_37 ?_
        exact v_iret C hRt hLk dM_append_38 ⟨rfl, rfl⟩
      · exfalso; omega
set_option maxRecDepth 100000 in
set_option maxHeartbeats 4000000 in
theorem kM_takeR (l : Launch) (xCl : List vw_C) (D : va_G) (cA : Nat → ClassId) (ad : Nat → Nat) (hJ : f_J (mG xCl D cA ad)) (σ : fS) (a : Int) (ha : -2147483648 ≤ a ∧ a ≤ 2147483647) (hr : 0 ≤ σ.1 0 10 ∧ σ.1 0 10 ≤ 60) (hg : ¬ (0 ≤ a ∧ a < σ.1 0 10)) : f_M l (mG xCl D cA ad) mE yM_take (Cond.code yM_take cM_take 2 (some .int) :: A9) 1 σ [.ref (ad 0), .int (fI a)] (f_QI (fun r σ1 => r = 0 ∧ σ1 = f_p1 σ 0 0 1) (mG xCl D cA ad)) := by
  refine f_enter (by decide +kernel) hJ rfl (Nat.le_of_ble_eq_true rfl) ?_
  intro z hzl hR C hRt hLk hEz
  subst hzl
  refine v_aload_n C dM_take_0 rfl rfl ?_
  refine v_iload_n C dM_take_1 rfl rfl ?_
  refine v_cVI (k := 0) (n := 1) C (mE_ok _) trivial hR (kM_isRevision _ xCl D cA ad hJ σ (a) (by omega) hr) dM_take_2 (by show (0 : Nat) < 18; decide) rfl rfl gM_201 (by decide +kernel) (by decide) (by decide) rfl (Nat.le_of_ble_eq_true rfl) rfl ⟨rfl, rfl⟩ (fun r1 σ1 hp1 => ?_)
  rcases hp1 with ⟨e1, e2, e3⟩ | ⟨e1, e2, e3⟩
  · exact absurd e1 hg
  subst σ1
  subst r1
  refine v_if_ne (tgt := 10) C dM_take_5 (by decide) (by omega) (fun hc1 => ?_) (fun hc1 => ?_)
  · exfalso; omega
  · refine v_iconst C dM_take_8 ?_
    exact v_iret C hRt hLk dM_take_9 ⟨rfl, rfl⟩
set_option maxRecDepth 100000 in
set_option maxHeartbeats 4000000 in
theorem kM_isFile0 (l : Launch) (xCl : List vw_C) (D : va_G) (cA : Nat → ClassId) (ad : Nat → Nat) (hJ : f_J (mG xCl D cA ad)) (σ : fS) (hc : σ.1 0 7 = 0) (h7 : ∀ i, -128 ≤ σ.2 7 i ∧ σ.2 7 i ≤ 127) : f_M l (mG xCl D cA ad) mE yM_isFile (Cond.code yM_isFile cM_isFile 4 (some .boolean) :: A9) 1 σ [.ref (ad 0)] (f_QI (fun r σ1 => r = 0 ∧ σ1.1 0 23 = 0 ∧ σ1.1 0 0 = σ.1 0 0) (mG xCl D cA ad)) := by
  refine f_enter (by decide +kernel) hJ rfl (Nat.le_of_ble_eq_true rfl) ?_
  intro z hzl hR C hRt hLk hEz
  subst hzl
  refine v_aload_n C dM_isFile_0 rfl rfl ?_
  refine v_iconst C dM_isFile_1 ?_
  refine v_cVI (k := 0) (n := 1) C (mE_ok _) trivial hR (kM_line _ xCl D cA ad hJ σ 0 (by omega) (by omega) h7) dM_isFile_2 (by show (0 : Nat) < 18; decide) rfl rfl gM_150 (by decide +kernel) (by decide) (by decide) rfl (Nat.le_of_ble_eq_true rfl) rfl ⟨rfl, rfl⟩ (fun r1 σ1 hp1 => ?_)
  have he := (eolF_le (σ.2 7) (σ.1 0 7 - 0).toNat 0).1
  change 0 ≤ m_eol σ 0 at he
  rcases hp1 with ⟨e1, e2, e3⟩ | ⟨e1, e2, e3⟩
  · exfalso; omega
  subst σ1
  subst r1
  refine v_if_eq (tgt := 42) C dM_isFile_5 (by decide) (by omega) (fun hc1 => ?_) (fun hc1 => ?_)
  · refine v_aload_n C dM_isFile_42 rfl rfl ?_
    refine v_iconst C dM_isFile_43 ?_
    refine v_cVI (k := 0) (n := 1) C (mE_ok _) trivial hR (kM_wrong _ xCl D cA ad hJ (m_cl σ 0 (m_eol σ 0)) 0) dM_isFile_44 (by show (0 : Nat) < 18; decide) rfl rfl gM_185 (by decide +kernel) (by decide) (by decide) rfl (Nat.le_of_ble_eq_true rfl) rfl ⟨rfl, rfl⟩ (fun r2 τ1 hp2 => ?_)
    obtain ⟨e4, e5⟩ := hp2
    subst r2
    exact v_zret C hRt hLk dM_isFile_47 (fN_bool (by omega)) ⟨rfl, by subst τ1; exact ⟨rfl, rfl⟩⟩
  · exfalso; omega
set_option maxRecDepth 100000 in
set_option maxHeartbeats 4000000 in
theorem kM_readFile0 (l : Launch) (xCl : List vw_C) (D : va_G) (cA : Nat → ClassId) (ad : Nat → Nat) (hJ : f_J (mG xCl D cA ad)) (σ : fS) (hc : σ.1 0 7 = 0) (h7 : ∀ i, -128 ≤ σ.2 7 i ∧ σ.2 7 i ≤ 127) : f_M l (mG xCl D cA ad) mE yM_readFile (Cond.code yM_readFile cM_readFile 4 (some .int) :: A9) 2 σ [.ref (ad 0)] (f_QI (fun r σ1 => r = -1 ∧ σ1.1 0 0 = σ.1 0 0) (mG xCl D cA ad)) := by
  refine f_enter (by decide +kernel) hJ rfl (Nat.le_of_ble_eq_true rfl) ?_
  intro z hzl hR C hRt hLk hEz
  subst hzl
  refine v_aload_n C dM_readFile_0 rfl rfl ?_
  refine v_cVI (k := 0) (n := 0) C (mE_ok _) trivial hR (kM_isFile0 _ xCl D cA ad hJ σ hc h7) dM_readFile_1 (by show (0 : Nat) < 18; decide) rfl rfl gM_192 (by decide +kernel) (by decide) (by decide) rfl (Nat.le_of_ble_eq_true rfl) rfl ⟨rfl, rfl⟩ (fun r1 σ1 hp1 => ?_)
  obtain ⟨e1, hf1, hf0⟩ := hp1
  subst r1
  refine v_if_ne (tgt := 14) C dM_readFile_4 (by decide) (by omega) (fun hc1 => ?_) (fun hc1 => ?_)
  · exfalso; omega
  · refine v_iconst C dM_readFile_7 ?_
    refine v_aload_n C dM_readFile_8 rfl rfl ?_
    refine v_getI (k := 0) (q := 23) (v := 0) C dM_readFile_9 (by show (0 : Nat) < 18; decide) rfl rfl (by decide) rfl inM lM_166 rfl hf1 ?_
    refine v_isub C dM_readFile_12 ?_
    exact v_iret C hRt hLk dM_readFile_13 ⟨rfl, hf0⟩
set_option maxRecDepth 100000 in
set_option maxHeartbeats 4000000 in
theorem kM_read0 (l : Launch) (xCl : List vw_C) (D : va_G) (cA : Nat → ClassId) (ad : Nat → Nat) (hJ : f_J (mG xCl D cA ad)) (σ : fS) (hc : σ.1 0 7 = 0) (h7 : ∀ i, -128 ≤ σ.2 7 i ∧ σ.2 7 i ≤ 127) : f_M l (mG xCl D cA ad) mE yM_read (Cond.code yM_read cM_read 1 (some .int) :: A9) 3 σ [.ref (ad 0)] (f_QI (fun r σ1 => r = -1 ∧ σ1.1 0 0 = 0) (mG xCl D cA ad)) := by
  refine f_enter (by decide +kernel) hJ rfl (Nat.le_of_ble_eq_true rfl) ?_
  intro z hzl hR C hRt hLk hEz
  subst hzl
  refine v_aload_n C dM_read_0 rfl rfl ?_
  refine v_iconst C dM_read_1 ?_
  refine v_putI (k := 0) (q := 0) C dM_read_2 (by show (0 : Nat) < 18; decide) rfl rfl (by decide) rfl inM tyM_ok nmM lM_63 rfl rfl rfl rfl rfl ?_
  refine v_aload_n C dM_read_5 rfl rfl ?_
  refine v_cVI (k := 0) (n := 0) C (mE_ok _) trivial hR (kM_readFile0 _ xCl D cA ad hJ (f_p1 σ 0 0 0) hc h7) dM_read_6 (by show (0 : Nat) < 18; decide) rfl rfl gM_198 (by decide +kernel) (by decide) (by decide) rfl (Nat.le_of_ble_eq_true rfl) rfl ⟨rfl, rfl⟩ (fun r1 σ1 hp1 => ?_)
  obtain ⟨e1, e2⟩ := hp1
  exact v_iret C hRt hLk dM_read_9 ⟨e1, e2⟩
set_option maxRecDepth 100000 in
set_option maxHeartbeats 4000000 in
theorem kM_putAll0 (l : Launch) (xCl : List vw_C) (D : va_G) (cA : Nat → ClassId) (ad : Nat → Nat) (hJ : f_J (mG xCl D cA ad)) (σ : fS) (how : Int) (hh : 0 ≤ how ∧ how ≤ 2) (h1 : ∀ i, σ.2 1 i = 0) (h2 : ∀ i, 0 ≤ σ.2 2 i ∧ σ.2 2 i ≤ 1) (h3 : ∀ i, 0 ≤ σ.2 3 i ∧ σ.2 3 i ≤ 1) (h5 : ∀ i, 0 ≤ σ.2 5 i ∧ σ.2 5 i ≤ 120) (h6 : ∀ i, -128 ≤ σ.2 6 i ∧ σ.2 6 i ≤ 127) (h9 : ∀ i, 0 ≤ σ.2 9 i ∧ σ.2 9 i ≤ 99999) (h13 : ∀ i, 0 ≤ σ.2 13 i ∧ σ.2 13 i ≤ 99999) : f_M l (mG xCl D cA ad) mE yM_putAll (Cond.code yM_putAll cM_putAll 4 none :: A9) 5 σ [.ref (ad 0), .int (fI 0), .int (fI 1), .int (fI how)] (f_QV (fun σ1 => σ1 = m_save (m_remd (f_p1 (f_p1 (m_part (f_p1 σ 0 17 0) 0 1 how) 0 7 16) 0 9 0) 1 (m_rr (f_p1 (f_p1 (m_part (f_p1 σ 0 17 0) 0 1 how) 0 7 16) 0 9 0) 1)) 41) (mG xCl D cA ad)) := by
  refine f_enter (by decide +kernel) hJ rfl (Nat.le_of_ble_eq_true rfl) ?_
  intro z hzl hR C hRt hLk hEz
  subst hzl
  refine v_aload_n C dM_putAll_0 rfl rfl ?_
  refine v_iconst C dM_putAll_1 ?_
  refine v_putI (k := 0) (q := 17) C dM_putAll_2 (by show (0 : Nat) < 18; decide) rfl rfl (by decide) rfl inM tyM_ok nmM lM_78 rfl rfl rfl (fN_bool (by omega)) (fF_bool (by omega)) ?_
  refine v_aload_n C dM_putAll_5 rfl rfl ?_
  refine v_aload_n C dM_putAll_6 rfl rfl ?_
  refine v_iload_n C dM_putAll_7 rfl rfl ?_
  refine v_iload_n C dM_putAll_8 rfl rfl ?_
  refine v_iload_n C dM_putAll_9 rfl rfl ?_
  have hp0 := m_part0 (f_p1 σ 0 17 0) how h1
  have hrl : m_rlen (f_p1 σ 0 17 0) (m_turns (f_p1 σ 0 17 0) 1 how (m_last how + 1)) = 0 := by rw [m_no_turns (f_p1 σ 0 17 0) h1]; rfl
  have hp2 := hp0.2.1
  have hp16 := hp0.1
  refine v_cVI (k := 0) (n := 3) C (mE_ok _) trivial hR (kM_putPart _ xCl D cA ad hJ (f_p1 σ 0 17 0) 0 1 how (by omega) (Or.inr rfl) hh (fun h => absurd h (by decide)) (fun i => by show 0 ≤ σ.2 1 i ∧ σ.2 1 i ≤ 1; rw [h1]; omega) h2 h3 h5 h6 h9 h13 (by first | exact Or.inl rfl | exact Or.inr rfl) (by rw [hrl]; omega) (fun _ => by omega) (fun _ => by rw [hrl]; omega)) dM_putAll_10 (by show (0 : Nat) < 18; decide) rfl rfl gM_119 (by decide +kernel) (by decide) (by decide) rfl (Nat.le_of_ble_eq_true rfl) rfl ⟨rfl, rfl⟩ (fun r1 σ1 hp1 => ?_)
  obtain ⟨e1, e2⟩ := hp1
  rw [hp0.2.2.1] at e1
  subst r1
  subst σ1
  refine v_putI (k := 0) (q := 7) C dM_putAll_13 (by show (0 : Nat) < 18; decide) rfl rfl (by decide) rfl inM tyM_ok nmM lM_116 rfl rfl rfl rfl rfl ?_
  refine v_aload_n C dM_putAll_16 rfl rfl ?_
  refine v_iconst C dM_putAll_17 ?_
  refine v_putI (k := 0) (q := 9) C dM_putAll_18 (by show (0 : Nat) < 18; decide) rfl rfl (by decide) rfl inM tyM_ok nmM lM_123 rfl rfl rfl (fN_bool (by omega)) (fF_bool (by omega)) ?_
  refine v_aload_n C dM_putAll_21 rfl rfl ?_
  refine v_iload_n C dM_putAll_22 rfl rfl ?_
  refine v_cVV (k := 0) (n := 1) C (mE_ok _) trivial hR (kM_remember _ xCl D cA ad hJ (f_p1 (f_p1 (m_part (f_p1 σ 0 17 0) 0 1 how) 0 7 16) 0 9 0) 1 (Or.inr rfl) (fun h => absurd h (by decide)) (fun i => by show 0 ≤ (m_part (f_p1 σ 0 17 0) 0 1 how).2 1 i ∧ (m_part (f_p1 σ 0 17 0) 0 1 how).2 1 i ≤ 1; rw [hp0.2.2.2.2 1 i (by decide)]; show 0 ≤ σ.2 1 i ∧ σ.2 1 i ≤ 1; rw [h1]; omega) (fun i => by show 0 ≤ (m_part (f_p1 σ 0 17 0) 0 1 how).2 3 i ∧ (m_part (f_p1 σ 0 17 0) 0 1 how).2 3 i ≤ 1; rw [hp0.2.2.2.2 3 i (by decide)]; exact h3 i)) dM_putAll_23 (by show (0 : Nat) < 18; decide) rfl rfl gM_126 (by decide +kernel) (by decide) (by decide) rfl (Nat.le_of_ble_eq_true rfl) rfl ⟨rfl, rfl⟩ (fun σ1 hp1 => ?_)
  subst σ1
  refine v_aload_n C dM_putAll_26 rfl rfl ?_
  refine v_cVV (k := 0) (n := 0) C (mE_ok _) trivial hR (kM_save _ xCl D cA ad hJ (m_remd (f_p1 (f_p1 (m_part (f_p1 σ 0 17 0) 0 1 how) 0 7 16) 0 9 0) 1 (m_rr (f_p1 (f_p1 (m_part (f_p1 σ 0 17 0) 0 1 how) 0 7 16) 0 9 0) 1)) (fun i => by have hx : (m_remd (f_p1 (f_p1 (m_part (f_p1 σ 0 17 0) 0 1 how) 0 7 16) 0 9 0) 1 (m_rr (f_p1 (f_p1 (m_part (f_p1 σ 0 17 0) 0 1 how) 0 7 16) 0 9 0) 1)).2 1 i = (m_part (f_p1 σ 0 17 0) 0 1 how).2 1 i := (by unfold m_remd; rw [p1_2, p2_2, if_neg (by omega), p2_2, if_neg (by omega), m_rem_o _ _ _ _ _ _ (by omega)]; rfl); rw [hx, hp0.2.2.2.2 1 i (by decide)]; show 0 ≤ σ.2 1 i ∧ σ.2 1 i ≤ 1; rw [h1]; omega)) dM_putAll_27 (by show (0 : Nat) < 18; decide) rfl rfl gM_130 (by decide +kernel) (by decide) (by decide) rfl (Nat.le_of_ble_eq_true rfl) rfl ⟨rfl, rfl⟩ (fun σ1 hp1 => ?_)
  subst σ1
  exact v_vret C hRt hLk dM_putAll_30 rfl
set_option maxRecDepth 100000 in
set_option maxHeartbeats 4000000 in
theorem kM_write0 (l : Launch) (xCl : List vw_C) (D : va_G) (cA : Nat → ClassId) (ad : Nat → Nat) (hJ : f_J (mG xCl D cA ad)) (σ : fS) (how : Int) (hh : 0 ≤ how ∧ how ≤ 2) (h1 : ∀ i, σ.2 1 i = 0) (h2 : ∀ i, 0 ≤ σ.2 2 i ∧ σ.2 2 i ≤ 1) (h3 : ∀ i, 0 ≤ σ.2 3 i ∧ σ.2 3 i ≤ 1) (h5 : ∀ i, 0 ≤ σ.2 5 i ∧ σ.2 5 i ≤ 120) (h6 : ∀ i, -128 ≤ σ.2 6 i ∧ σ.2 6 i ≤ 127) (h9 : ∀ i, 0 ≤ σ.2 9 i ∧ σ.2 9 i ≤ 99999) (h13 : ∀ i, 0 ≤ σ.2 13 i ∧ σ.2 13 i ≤ 99999) : f_M l (mG xCl D cA ad) mE yM_write (Cond.code yM_write cM_write 2 (some .int) :: A9) 6 σ [.ref (ad 0), .int (fI how)] (f_QI (fun r σ1 => r = 16 ∧ σ1.1 0 0 = 0) (mG xCl D cA ad)) := by
  refine f_enter (by decide +kernel) hJ rfl (Nat.le_of_ble_eq_true rfl) ?_
  intro z hzl hR C hRt hLk hEz
  subst hzl
  refine v_aload_n C dM_write_0 rfl rfl ?_
  refine v_iload_n C dM_write_1 rfl rfl ?_
  refine v_if_lt (tgt := 10) C dM_write_2 (by decide) (by omega) (fun hc1 => ?_) (fun hc1 => ?_)
  · exfalso; omega
  · refine v_iload_n C dM_write_5 rfl rfl ?_
    refine v_iconst C dM_write_6 ?_
    refine v_icmp_le (tgt := 14) C dM_write_7 (by decide) (by omega) (by omega) (fun hc2 => ?_) (fun hc2 => ?_)
    · refine v_iconst C dM_write_14 ?_
      refine v_putI (k := 0) (q := 0) C dM_write_15 (by show (0 : Nat) < 18; decide) rfl rfl (by decide) rfl inM tyM_ok nmM lM_63 rfl rfl rfl rfl rfl ?_
      refine v_aload_n C dM_write_18 rfl rfl ?_
      refine v_getI (k := 0) (q := 0) (v := 0) C dM_write_19 (by show (0 : Nat) < 18; decide) rfl rfl (by decide) rfl inM lM_63 rfl rfl ?_
      refine v_if_le (tgt := 27) C dM_write_22 (by decide) (by omega) (fun hc3 => ?_) (fun hc3 => ?_)
      · refine v_aload_n C dM_write_27 rfl rfl ?_
        refine v_iconst C dM_write_28 ?_
        refine v_putI (k := 0) (q := 17) C dM_write_29 (by show (0 : Nat) < 18; decide) rfl rfl (by decide) rfl inM tyM_ok nmM lM_78 rfl rfl rfl (fN_bool (by omega)) (fF_bool (by omega)) ?_
        refine v_aload_n C dM_write_32 rfl rfl ?_
        refine v_iconst C dM_write_33 ?_
        refine v_iconst C dM_write_34 ?_
        refine v_iload_n C dM_write_35 rfl rfl ?_
        have hp0 := m_part0 (f_p1 (f_p1 σ 0 0 0) 0 17 1) how h1
        have hrl : m_rlen (f_p1 (f_p1 σ 0 0 0) 0 17 1) (m_turns (f_p1 (f_p1 σ 0 0 0) 0 17 1) 1 how (m_last how + 1)) = 0 := by rw [m_no_turns (f_p1 (f_p1 σ 0 0 0) 0 17 1) h1]; rfl
        have hp2 := hp0.2.1
        have hp16 := hp0.1
        refine v_cVI (k := 0) (n := 3) C (mE_ok _) trivial hR (kM_putPart _ xCl D cA ad hJ (f_p1 (f_p1 σ 0 0 0) 0 17 1) 0 1 how (by omega) (Or.inr rfl) hh (fun h => absurd h (by decide)) (fun i => by show 0 ≤ σ.2 1 i ∧ σ.2 1 i ≤ 1; rw [h1]; omega) h2 h3 h5 h6 h9 h13 (by first | exact Or.inl rfl | exact Or.inr rfl) (by rw [hrl]; omega) (fun _ => by omega) (fun _ => by rw [hrl]; omega)) dM_write_36 (by show (0 : Nat) < 18; decide) rfl rfl gM_119 (by decide +kernel) (by decide) (by decide) rfl (Nat.le_of_ble_eq_true rfl) rfl ⟨rfl, rfl⟩ (fun r1 σ1 hp1 => ?_)
        obtain ⟨e1, e2⟩ := hp1
        rw [hp0.2.2.1] at e1
        subst r1
        subst σ1
        refine v_sipush C dM_write_39 (by decide +kernel) ?_
        refine v_icmp_le (tgt := 52) C dM_write_42 (by decide) (by omega) (by omega) (fun hc4 => ?_) (fun hc4 => ?_)
        · refine v_aload_n C dM_write_52 rfl rfl ?_
          refine v_iconst C dM_write_53 ?_
          refine v_iconst C dM_write_54 ?_
          refine v_iload_n C dM_write_55 rfl rfl ?_
          refine v_cVV (k := 0) (n := 3) C (mE_ok _) trivial hR (kM_putAll0 _ xCl D cA ad hJ (m_part (f_p1 (f_p1 σ 0 0 0) 0 17 1) 0 1 how) how hh (fun i => by rw [hp0.2.2.2.2 1 i (by decide)]; exact h1 i) (fun i => by rw [hp0.2.2.2.2 2 i (by decide)]; exact h2 i) (fun i => by rw [hp0.2.2.2.2 3 i (by decide)]; exact h3 i) (fun i => by rw [hp0.2.2.2.2 5 i (by decide)]; exact h5 i) (fun i => by rw [hp0.2.2.2.2 6 i (by decide)]; exact h6 i) (fun i => by rw [hp0.2.2.2.2 9 i (by decide)]; exact h9 i) (fun i => by rw [hp0.2.2.2.2 13 i (by decide)]; exact h13 i)) dM_write_56 (by show (0 : Nat) < 18; decide) rfl rfl gM_133 (by decide +kernel) (by decide) (by decide) rfl (Nat.le_of_ble_eq_true rfl) rfl ⟨rfl, rfl⟩ (fun σ1 hp1 => ?_)
          have hz7 : σ1.1 0 7 = 16 := by rw [hp1]; unfold m_save m_remd; rw [p1_1, if_neg (by decide)]; rfl
          have hz0 : σ1.1 0 0 = 0 := by rw [hp1]; unfold m_save m_remd; rw [p1_1, if_neg (by decide)]; show (f_p1 (f_p1 (m_part (f_p1 (m_part (f_p1 (f_p1 σ 0 0 0) 0 17 1) 0 1 how) 0 17 0) 0 1 how) 0 7 16) 0 9 0).1 0 0 = 0; rw [p1_1, if_neg (by decide), p1_1, if_neg (by decide), (m_part0 (f_p1 (m_part (f_p1 (f_p1 σ 0 0 0) 0 17 1) 0 1 how) 0 17 0) how (fun i => by show (m_part (f_p1 (f_p1 σ 0 0 0) 0 17 1) 0 1 how).2 1 i = 0; rw [hp0.2.2.2.2 1 i (by decide)]; exact h1 i)).2.2.2.1 0 (by decide) (by decide), p1_1, if_neg (by decide), hp0.2.2.2.1 0 (by decide) (by decide)]; rfl
          refine v_aload_n C dM_write_59 rfl rfl ?_
          refine v_getI (k := 0) (q := 7) (v := 16) C dM_write_60 (by show (0 : Nat) < 18; decide) rfl rfl (by decide) rfl inM lM_116 rfl hz7 ?_
          exact v_iret C hRt hLk dM_write_63 ⟨rfl, hz0⟩
        · exfalso; omega
      · exfalso; omega
    · exfalso; omega
