set_option maxRecDepth 100000 in
set_option maxHeartbeats 4000000 in
theorem kM_writeS (l : Launch) (xCl : List vw_C) (D : va_G) (cA : Nat → ClassId) (ad : Nat → Nat) (hJ : f_J (mG xCl D cA ad)) (σ : fS) (how : Int) (hn : -2147483648 ≤ how ∧ how ≤ 2147483647) (hg : ¬ (0 ≤ how ∧ how ≤ 2)) : f_M l (mG xCl D cA ad) mE yM_write (Cond.code yM_write cM_write 2 (some .int) :: A9) 6 σ [.ref (ad 0), .int (fI how)] (f_QI (fun r σ1 => r = 0 ∧ σ1 = f_p1 σ 0 0 1) (mG xCl D cA ad)) := by
  refine f_enter (by decide +kernel) hJ rfl (Nat.le_of_ble_eq_true rfl) ?_
  intro z hzl hR C hRt hLk hEz
  subst hzl
  refine v_aload_n C dM_write_0 rfl rfl ?_
  refine v_iload_n C dM_write_1 rfl rfl ?_
  refine v_if_lt (tgt := 10) C dM_write_2 (by decide) (by omega) (fun hc1 => ?_) (fun hc1 => ?_)
  · refine v_iconst C dM_write_10 ?_
    refine v_goto (tgt := 15) C dM_write_11 (by decide) ?_
    refine v_putI (k := 0) (q := 0) C dM_write_15 (by show (0 : Nat) < 18; decide) rfl rfl (by decide) rfl inM tyM_ok nmM lM_63 rfl rfl rfl rfl rfl ?_
    refine v_aload_n C dM_write_18 rfl rfl ?_
    refine v_getI (k := 0) (q := 0) (v := 1) C dM_write_19 (by show (0 : Nat) < 18; decide) rfl rfl (by decide) rfl inM lM_63 rfl rfl ?_
    refine v_if_le (tgt := 27) C dM_write_22 (by decide) (by omega) (fun hc2 => ?_) (fun hc2 => ?_)
    · exfalso; omega
    · refine v_iconst C dM_write_25 ?_
      exact v_iret C hRt hLk dM_write_26 ⟨rfl, rfl⟩
  · refine v_iload_n C dM_write_5 rfl rfl ?_
    refine v_iconst C dM_write_6 ?_
    refine v_icmp_le (tgt := 14) C dM_write_7 (by decide) (by omega) (by omega) (fun hc3 => ?_) (fun hc3 => ?_)
    · exfalso; omega
    · refine v_iconst C dM_write_10 ?_
      refine v_goto (tgt := 15) C dM_write_11 (by decide) ?_
      refine v_putI (k := 0) (q := 0) C dM_write_15 (by show (0 : Nat) < 18; decide) rfl rfl (by decide) rfl inM tyM_ok nmM lM_63 rfl rfl rfl rfl rfl ?_
      refine v_aload_n C dM_write_18 rfl rfl ?_
      refine v_getI (k := 0) (q := 0) (v := 1) C dM_write_19 (by show (0 : Nat) < 18; decide) rfl rfl (by decide) rfl inM lM_63 rfl rfl ?_
      refine v_if_le (tgt := 27) C dM_write_22 (by decide) (by omega) (fun hc4 => ?_) (fun hc4 => ?_)
      · exfalso; omega
      · refine v_iconst C dM_write_25 ?_
        exact v_iret C hRt hLk dM_write_26 ⟨rfl, rfl⟩
set_option maxRecDepth 100000 in
set_option maxHeartbeats 4000000 in
theorem kM_appendS (l : Launch) (xCl : List vw_C) (D : va_G) (cA : Nat → ClassId) (ad : Nat → Nat) (hJ : f_J (mG xCl D cA ad)) (σ : fS) (hc : 0 ≤ σ.1 0 7 ∧ σ.1 0 7 ≤ 12000) (ha : 0 ≤ σ.1 0 9 ∧ σ.1 0 9 ≤ 1) (hg : σ.1 0 7 = 0 ∨ σ.1 0 9 = 1) : f_M l (mG xCl D cA ad) mE yM_append (Cond.code yM_append cM_append 2 (some .int) :: A9) 6 σ [.ref (ad 0)] (f_QI (fun r σ1 => r = 0 ∧ σ1 = f_p1 σ 0 0 1) (mG xCl D cA ad)) := by
  refine f_enter (by decide +kernel) hJ rfl (Nat.le_of_ble_eq_true rfl) ?_
  intro z hzl hR C hRt hLk hEz
  subst hzl
  refine v_aload_n C dM_append_0 rfl rfl ?_
  refine v_aload_n C dM_append_1 rfl rfl ?_
  refine v_getI (k := 0) (q := 7) (v := σ.1 0 7) C dM_append_2 (by show (0 : Nat) < 18; decide) rfl rfl (by decide) rfl inM lM_116 rfl rfl ?_
  refine v_if_eq (tgt := 15) C dM_append_5 (by decide) (by omega) (fun hc1 => ?_) (fun hc1 => ?_)
  · refine v_iconst C dM_append_15 ?_
    refine v_goto (tgt := 20) C dM_append_16 (by decide) ?_
    refine v_putI (k := 0) (q := 0) C dM_append_20 (by show (0 : Nat) < 18; decide) rfl rfl (by decide) rfl inM tyM_ok nmM lM_63 rfl rfl rfl rfl rfl ?_
    refine v_aload_n C dM_append_23 rfl rfl ?_
    refine v_getI (k := 0) (q := 0) (v := 1) C dM_append_24 (by show (0 : Nat) < 18; decide) rfl rfl (by decide) rfl inM lM_63 rfl rfl ?_
    refine v_if_gt (tgt := 37) C dM_append_27 (by decide) (by omega) (fun hc2 => ?_) (fun hc2 => ?_)
    · refine v_iconst C dM_append_37 ?_
      exact v_iret C hRt hLk dM_append_38 ⟨rfl, rfl⟩
    · exfalso; omega
  · refine v_aload_n C dM_append_8 rfl rfl ?_
    refine v_getI (k := 0) (q := 9) (v := σ.1 0 9) C dM_append_9 (by show (0 : Nat) < 18; decide) rfl rfl (by decide) rfl inM lM_123 rfl rfl ?_
    refine v_if_eq (tgt := 19) C dM_append_12 (by decide) (by omega) (fun hc3 => ?_) (fun hc3 => ?_)
    · exfalso; omega
    · refine v_iconst C dM_append_15 ?_
      refine v_goto (tgt := 20) C dM_append_16 (by decide) ?_
      refine v_putI (k := 0) (q := 0) C dM_append_20 (by show (0 : Nat) < 18; decide) rfl rfl (by decide) rfl inM tyM_ok nmM lM_63 rfl rfl rfl rfl rfl ?_
      refine v_aload_n C dM_append_23 rfl rfl ?_
      refine v_getI (k := 0) (q := 0) (v := 1) C dM_append_24 (by show (0 : Nat) < 18; decide) rfl rfl (by decide) rfl inM lM_63 rfl rfl ?_
      refine v_if_gt (tgt := 37) C dM_append_27 (by decide) (by omega) (fun hc4 => ?_) (fun hc4 => ?_)
      · refine v_iconst C dM_append_37 ?_
        exact v_iret C hRt hLk dM_append_38 ⟨rfl, rfl⟩
      · exfalso; omega
set_option maxRecDepth 100000 in
set_option maxHeartbeats 4000000 in
theorem kM_takeS (l : Launch) (xCl : List vw_C) (D : va_G) (cA : Nat → ClassId) (ad : Nat → Nat) (hJ : f_J (mG xCl D cA ad)) (σ : fS) (a : Int) (ha : -2147483648 ≤ a ∧ a ≤ 2147483647) (hr : 0 ≤ σ.1 0 10 ∧ σ.1 0 10 ≤ 60) (hg : ¬ (0 ≤ a ∧ a < σ.1 0 10)) : f_M l (mG xCl D cA ad) mE yM_take (Cond.code yM_take cM_take 2 (some .int) :: A9) 6 σ [.ref (ad 0), .int (fI a)] (f_QI (fun r σ1 => r = 0 ∧ σ1 = f_p1 σ 0 0 1) (mG xCl D cA ad)) := by
  refine f_enter (by decide +kernel) hJ rfl (Nat.le_of_ble_eq_true rfl) ?_
  intro z hzl hR C hRt hLk hEz
  subst hzl
  refine v_aload_n C dM_take_0 rfl rfl ?_
  refine v_iload_n C dM_take_1 rfl rfl ?_
  refine v_cVI (k := 0) (n := 1) C (mE_ok _) trivial hR (kM_isRevision _ xCl D cA ad hJ σ (a) (by omega) hr) dM_take_2 (by show (0 : Nat) < 18; decide) rfl rfl gM_201 (by decide +kernel) (by decide) (by decide) rfl (Nat.le_of_ble_eq_true rfl) rfl ⟨rfl, rfl⟩ (fun r1 σ1 hp1 => ?_)
  rcases hp1 with ⟨e1, e2, e3⟩ | ⟨e1, e2, e3⟩
  · exact absurd e1 hg
  subst σ1
  subst r1
  refine v_if_ne (tgt := 10) C dM_take_5 (by decide) (by omega) (fun hc1 => ?_) (fun hc1 => ?_)
  · exfalso; omega
  · refine v_iconst C dM_take_8 ?_
    exact v_iret C hRt hLk dM_take_9 ⟨rfl, rfl⟩
/-! THE REFERENCE'S METHODS, by name -/
def u_object (τ : fS) (n m : Int) (τ1 : fS) : Prop := (¬ (1 ≤ n ∧ n ≤ 40) ∧ τ1 = f_p1 τ 0 0 1) ∨ ((1 ≤ n ∧ n ≤ 40) ∧ ¬ (0 ≤ m ∧ m ≤ 120) ∧ τ1 = f_p1 τ 0 0 2) ∨ ((1 ≤ n ∧ n ≤ 40) ∧ (0 ≤ m ∧ m ≤ 120) ∧ τ1 = m_zero (m_bring τ n m) n 120)
theorem kU_object (l : Launch) (D : va_G) (cA : Nat → ClassId) (am : Nat → Nat) (hJ : f_J (mG xCl D cA am)) (τ : fS) (hI : m_I τ) (n m : Int) (hn : -2147483648 ≤ n ∧ n ≤ 2147483647) (hm : -2147483648 ≤ m ∧ m ≤ 2147483647) : f_M l (mG xCl D cA am) mE yM_object (Cond.code yM_object cM_object 4 none :: A9) 1 τ [.ref (am 0), .int (fI n), .int (fI m)] (f_QV (fun τ1 => u_object τ n m τ1) (mG xCl D cA am)) := by
  exact kM_object l xCl D cA am hJ τ n m hn hm
def u_octet (τ : fS) (n i b : Int) (r : Int) (τ1 : fS) : Prop := (m_isB τ n i ∧ r = τ.2 6 (120 * n + i).toNat ∧ ((τ.2 3 n.toNat = 1 ∨ τ.2 6 (120 * n + i).toNat ≠ b) ∧ τ1 = f_p2 (f_p2 (f_p1 τ 0 0 0) 6 (120 * n + i).toNat b) 3 n.toNat 1 ∨ (τ.2 3 n.toNat = 0 ∧ τ.2 6 (120 * n + i).toNat = b) ∧ τ1 = f_p2 (f_p2 (f_p1 τ 0 0 0) 6 (120 * n + i).toNat b) 3 n.toNat 0)) ∨ (¬ m_isB τ n i ∧ r = 0 ∧ τ1 = f_p1 τ 0 0 1)
theorem kU_octet (l : Launch) (D : va_G) (cA : Nat → ClassId) (am : Nat → Nat) (hJ : f_J (mG xCl D cA am)) (τ : fS) (hI : m_I τ) (n i b : Int) (hn : -2147483648 ≤ n ∧ n ≤ 2147483647) (hi : -2147483648 ≤ i ∧ i ≤ 2147483647) (hb : -2147483648 ≤ b ∧ b ≤ 2147483647) (hb8 : -128 ≤ b ∧ b ≤ 127) : f_M l (mG xCl D cA am) mE yM_octet (Cond.code yM_octet cM_octet 5 (some .byte) :: A9) 3 τ [.ref (am 0), .int (fI n), .int (fI i), .int (fI b)] (f_QI (fun r τ1 => u_octet τ n i b r τ1) (mG xCl D cA am)) := by
  exact kM_octet l xCl D cA am hJ τ n i b hn hi hb8 (fun i => hI.2.1 1 i) (fun i => hI.2.1 3 i) (fun i => hI.2.1 5 i) (fun i => hI.2.1 6 i)
def u_drop (τ : fS) (n : Int) (r : Int) (τ1 : fS) : Prop := ((1 ≤ n ∧ n ≤ 40) ∧ τ.2 1 n.toNat = 1 ∧ r = 1 ∧ τ1 = f_p2 (f_p2 (f_p2 (f_p1 τ 0 0 0) 1 n.toNat 0) 2 n.toNat 0) 3 n.toNat (τ.2 4 n.toNat)) ∨ ((1 ≤ n ∧ n ≤ 40) ∧ τ.2 1 n.toNat = 0 ∧ r = 0 ∧ τ1 = f_p1 τ 0 0 0) ∨ (¬ (1 ≤ n ∧ n ≤ 40) ∧ r = 0 ∧ τ1 = f_p1 τ 0 0 1)
theorem kU_drop (l : Launch) (D : va_G) (cA : Nat → ClassId) (am : Nat → Nat) (hJ : f_J (mG xCl D cA am)) (τ : fS) (hI : m_I τ) (n : Int) (hn : -2147483648 ≤ n ∧ n ≤ 2147483647) : f_M l (mG xCl D cA am) mE yM_drop (Cond.code yM_drop cM_drop 2 (some .boolean) :: A9) 1 τ [.ref (am 0), .int (fI n)] (f_QI (fun r τ1 => u_drop τ n r τ1) (mG xCl D cA am)) := by
  exact kM_drop l xCl D cA am hJ τ n hn (fun i => hI.2.1 1 i) (fun i => hI.2.1 4 i)
def u_first (τ : fS) (n w : Int) (r : Int) (τ1 : fS) : Prop := (((1 ≤ n ∧ n ≤ 40) ∧ τ.2 1 n.toNat = 1) ∧ τ.2 2 n.toNat ≠ w ∧ r = 1 ∧ τ1 = f_p2 (f_p1 τ 0 0 0) 2 n.toNat w) ∨ (((1 ≤ n ∧ n ≤ 40) ∧ τ.2 1 n.toNat = 1) ∧ τ.2 2 n.toNat = w ∧ r = 0 ∧ τ1 = f_p1 τ 0 0 0) ∨ (¬ ((1 ≤ n ∧ n ≤ 40) ∧ τ.2 1 n.toNat = 1) ∧ r = 0 ∧ τ1 = f_p1 τ 0 0 1)
theorem kU_first (l : Launch) (D : va_G) (cA : Nat → ClassId) (am : Nat → Nat) (hJ : f_J (mG xCl D cA am)) (τ : fS) (hI : m_I τ) (n w : Int) (hn : -2147483648 ≤ n ∧ n ≤ 2147483647) (hw : -2147483648 ≤ w ∧ w ≤ 2147483647) (hw2 : w = 0 ∨ w = 1) : f_M l (mG xCl D cA am) mE yM_first (Cond.code yM_first cM_first 3 (some .boolean) :: A9) 2 τ [.ref (am 0), .int (fI n), .int (fI w)] (f_QI (fun r τ1 => u_first τ n w r τ1) (mG xCl D cA am)) := by
  exact kM_first l xCl D cA am hJ τ n w hn hw2 (fun i => hI.2.1 1 i) (fun i => hI.2.1 2 i)
def u_write (τ : fS) (how : Int) (r : Int) (τ1 : fS) : Prop := (¬ (0 ≤ how ∧ how ≤ 2) ∧ r = 0 ∧ τ1 = f_p1 τ 0 0 1) ∨ ((0 ≤ how ∧ how ≤ 2) ∧ τ1 = m_all (m_part (f_p1 (f_p1 τ 0 0 0) 0 17 1) 0 1 how) 0 1 how ∧ r = τ1.1 0 7 ∧ m_I τ1 ∧ τ1.1 0 0 = 0)
theorem kU_write (l : Launch) (D : va_G) (cA : Nat → ClassId) (am : Nat → Nat) (hJ : f_J (mG xCl D cA am)) (τ : fS) (hI : m_I τ) (how : Int) (hhow : -2147483648 ≤ how ∧ how ≤ 2147483647) : f_M l (mG xCl D cA am) mE yM_write (Cond.code yM_write cM_write 2 (some .int) :: A9) 6 τ [.ref (am 0), .int (fI how)] (f_QI (fun r τ1 => u_write τ how r τ1) (mG xCl D cA am)) := by
  by_cases hg : 0 ≤ how ∧ how ≤ 2
  · exact f_weakI (kM_write l xCl D cA am hJ τ how hg hI) (fun r σ1 h => Or.inr ⟨hg, h⟩)
  · exact f_weakI (kM_writeS l xCl D cA am hJ τ how hhow hg) (fun r σ1 h => Or.inl ⟨hg, h⟩)
def u_append (τ : fS) (r : Int) (τ1 : fS) : Prop := ((τ.1 0 7 = 0 ∨ τ.1 0 9 = 1) ∧ r = 0 ∧ τ1 = f_p1 τ 0 0 1) ∨ (¬ (τ.1 0 7 = 0 ∨ τ.1 0 9 = 1) ∧ ((m_cnt (τ.2 3) 40 = 0 ∧ r = 0 ∧ τ1 = f_p1 τ 0 0 0) ∨ (m_cnt (τ.2 3) 40 ≠ 0 ∧ τ.1 0 10 = 60 ∧ r = 0 ∧ τ1 = f_p1 (f_p1 (f_p1 τ 0 0 0) 0 17 1) 0 0 2) ∨ (m_cnt (τ.2 3) 40 ≠ 0 ∧ τ.1 0 10 < 60 ∧ 12000 < (m_part (f_p1 (f_p1 τ 0 0 0) 0 17 1) (τ.1 0 7) 0 0).1 0 16 ∧ r = 0 ∧ τ1 = f_p1 (m_part (f_p1 (f_p1 τ 0 0 0) 0 17 1) (τ.1 0 7) 0 0) 0 0 2) ∨ (m_cnt (τ.2 3) 40 ≠ 0 ∧ τ.1 0 10 < 60 ∧ (m_part (f_p1 (f_p1 τ 0 0 0) 0 17 1) (τ.1 0 7) 0 0).1 0 16 ≤ 12000 ∧ τ1 = m_all (m_part (f_p1 (f_p1 τ 0 0 0) 0 17 1) (τ.1 0 7) 0 0) (τ.1 0 7) 0 0 ∧ r = τ1.1 0 7 - τ.1 0 7 ∧ m_I τ1 ∧ τ1.1 0 0 = 0)))
theorem kU_append (l : Launch) (D : va_G) (cA : Nat → ClassId) (am : Nat → Nat) (hJ : f_J (mG xCl D cA am)) (τ : fS) (hI : m_I τ)  : f_M l (mG xCl D cA am) mE yM_append (Cond.code yM_append cM_append 2 (some .int) :: A9) 6 τ [.ref (am 0)] (f_QI (fun r τ1 => u_append τ  r τ1) (mG xCl D cA am)) := by
  have h9 : 0 ≤ τ.1 0 9 ∧ τ.1 0 9 ≤ 1 := hI.1 9
  by_cases hg : τ.1 0 7 = 0 ∨ τ.1 0 9 = 1
  · exact f_weakI (kM_appendS l xCl D cA am hJ τ (hI.1 7) h9 hg) (fun r σ1 h => Or.inl ⟨hg, h⟩)
  · exact f_weakI (kM_append l xCl D cA am hJ τ hI (by omega) (by omega)) (fun r σ1 h => Or.inr ⟨hg, h⟩)
def u_read (τ : fS) (r : Int) (τ1 : fS) : Prop := m_rd (τ.2 7) (τ.1 0 7) (f_p1 τ 0 0 0) r τ1
theorem kU_read (l : Launch) (D : va_G) (cA : Nat → ClassId) (am : Nat → Nat) (hJ : f_J (mG xCl D cA am)) (τ : fS) (hI : m_I τ)  : f_M l (mG xCl D cA am) mE yM_read (Cond.code yM_read cM_read 1 (some .int) :: A9) 6 τ [.ref (am 0)] (f_QI (fun r τ1 => u_read τ  r τ1) (mG xCl D cA am)) := by
  exact kM_read l xCl D cA am hJ τ (τ.2 7) (τ.1 0 7) rfl rfl hI
def u_poke (τ : fS) (i b : Int) (r : Int) (τ1 : fS) : Prop := ((0 ≤ i ∧ i < τ.1 0 7) ∧ r = τ.2 7 i.toNat ∧ τ1 = f_p1 (f_p2 (f_p1 τ 0 0 0) 7 i.toNat b) 0 9 1) ∨ (¬ (0 ≤ i ∧ i < τ.1 0 7) ∧ r = 0 ∧ τ1 = f_p1 τ 0 0 1)
theorem kU_poke (l : Launch) (D : va_G) (cA : Nat → ClassId) (am : Nat → Nat) (hJ : f_J (mG xCl D cA am)) (τ : fS) (hI : m_I τ) (i b : Int) (hi : -2147483648 ≤ i ∧ i ≤ 2147483647) (hb : -2147483648 ≤ b ∧ b ≤ 2147483647) (hb8 : -128 ≤ b ∧ b ≤ 127) : f_M l (mG xCl D cA am) mE yM_poke (Cond.code yM_poke cM_poke 4 (some .byte) :: A9) 0 τ [.ref (am 0), .int (fI i), .int (fI b)] (f_QI (fun r τ1 => u_poke τ i b r τ1) (mG xCl D cA am)) := by
  exact kM_poke l xCl D cA am hJ τ i b hi hb8 (hI.1 7) (fun i => hI.2.1 7 i)
def u_take (τ : fS) (i : Int) (r : Int) (τ1 : fS) : Prop := (¬ (0 ≤ i ∧ i < τ.1 0 10) ∧ r = 0 ∧ τ1 = f_p1 τ 0 0 1) ∨ ((0 ≤ i ∧ i < τ.1 0 10) ∧ m_rd (τ.2 7) (m_tkn τ i.toNat) (m_tk τ i.toNat) r τ1)
theorem kU_take (l : Launch) (D : va_G) (cA : Nat → ClassId) (am : Nat → Nat) (hJ : f_J (mG xCl D cA am)) (τ : fS) (hI : m_I τ) (i : Int) (hi : -2147483648 ≤ i ∧ i ≤ 2147483647) : f_M l (mG xCl D cA am) mE yM_take (Cond.code yM_take cM_take 2 (some .int) :: A9) 6 τ [.ref (am 0), .int (fI i)] (f_QI (fun r τ1 => u_take τ i r τ1) (mG xCl D cA am)) := by
  by_cases hg : (0 ≤ i ∧ i < τ.1 0 10)
  · exact f_weakI (kM_take l xCl D cA am hJ τ i hI hg) (fun r σ1 h => Or.inr ⟨hg, h⟩)
  · exact f_weakI (kM_takeS l xCl D cA am hJ τ i hi (hI.1 10) hg) (fun r σ1 h => Or.inl ⟨hg, h⟩)
def u_at (τ : fS) (i : Int) (r : Int) (τ1 : fS) : Prop := ((0 ≤ i ∧ i < τ.1 0 7) ∧ r = τ.2 7 i.toNat ∧ τ1 = f_p1 τ 0 0 0) ∨ (¬ (0 ≤ i ∧ i < τ.1 0 7) ∧ r = 0 ∧ τ1 = f_p1 τ 0 0 1)
theorem kU_at (l : Launch) (D : va_G) (cA : Nat → ClassId) (am : Nat → Nat) (hJ : f_J (mG xCl D cA am)) (τ : fS) (hI : m_I τ) (i : Int) (hi : -2147483648 ≤ i ∧ i ≤ 2147483647) : f_M l (mG xCl D cA am) mE yM_at (Cond.code yM_at cM_at 2 (some .byte) :: A9) 0 τ [.ref (am 0), .int (fI i)] (f_QI (fun r τ1 => u_at τ i r τ1) (mG xCl D cA am)) := by
  exact kM_at l xCl D cA am hJ τ i hi (hI.1 7) (fun i => hI.2.1 7 i)
def u_length (τ : fS) (n : Int) (r : Int) (τ1 : fS) : Prop := ((1 ≤ n ∧ n ≤ 40) ∧ ((τ.2 1 n.toNat = 1 ∧ r = τ.2 5 n.toNat) ∨ (τ.2 1 n.toNat = 0 ∧ r = -1)) ∧ τ1 = f_p1 τ 0 0 0) ∨ (¬ (1 ≤ n ∧ n ≤ 40) ∧ r = 0 ∧ τ1 = f_p1 τ 0 0 1)
theorem kU_length (l : Launch) (D : va_G) (cA : Nat → ClassId) (am : Nat → Nat) (hJ : f_J (mG xCl D cA am)) (τ : fS) (hI : m_I τ) (n : Int) (hn : -2147483648 ≤ n ∧ n ≤ 2147483647) : f_M l (mG xCl D cA am) mE yM_length (Cond.code yM_length cM_length 2 (some .int) :: A9) 1 τ [.ref (am 0), .int (fI n)] (f_QI (fun r τ1 => u_length τ n r τ1) (mG xCl D cA am)) := by
  exact kM_length l xCl D cA am hJ τ n hn (fun i => hI.2.1 1 i) (fun i => hI.2.1 5 i)
def u_byteOf (τ : fS) (n i : Int) (r : Int) (τ1 : fS) : Prop := (m_isB τ n i ∧ r = τ.2 6 (120 * n + i).toNat ∧ τ1 = f_p1 τ 0 0 0) ∨ (¬ m_isB τ n i ∧ r = 0 ∧ τ1 = f_p1 τ 0 0 1)
theorem kU_byteOf (l : Launch) (D : va_G) (cA : Nat → ClassId) (am : Nat → Nat) (hJ : f_J (mG xCl D cA am)) (τ : fS) (hI : m_I τ) (n i : Int) (hn : -2147483648 ≤ n ∧ n ≤ 2147483647) (hi : -2147483648 ≤ i ∧ i ≤ 2147483647) : f_M l (mG xCl D cA am) mE yM_byteOf (Cond.code yM_byteOf cM_byteOf 3 (some .byte) :: A9) 3 τ [.ref (am 0), .int (fI n), .int (fI i)] (f_QI (fun r τ1 => u_byteOf τ n i r τ1) (mG xCl D cA am)) := by
  exact kM_byteOf l xCl D cA am hJ τ n i hn hi (fun i => hI.2.1 1 i) (fun i => hI.2.1 5 i) (fun i => hI.2.1 6 i)
def u_size (τ : fS) (i : Int) (r : Int) (τ1 : fS) : Prop := ((0 ≤ i ∧ i < τ.1 0 10) ∧ r = τ.2 8 i.toNat ∧ τ1 = f_p1 τ 0 0 0) ∨ (¬ (0 ≤ i ∧ i < τ.1 0 10) ∧ r = 0 ∧ τ1 = f_p1 τ 0 0 1)
theorem kU_size (l : Launch) (D : va_G) (cA : Nat → ClassId) (am : Nat → Nat) (hJ : f_J (mG xCl D cA am)) (τ : fS) (hI : m_I τ) (i : Int) (hi : -2147483648 ≤ i ∧ i ≤ 2147483647) : f_M l (mG xCl D cA am) mE yM_size (Cond.code yM_size cM_size 2 (some .int) :: A9) 1 τ [.ref (am 0), .int (fI i)] (f_QI (fun r τ1 => u_size τ i r τ1) (mG xCl D cA am)) := by
  exact kM_size l xCl D cA am hJ τ i hi (hI.1 10)
def u_place (τ : fS) (i n : Int) (r : Int) (τ1 : fS) : Prop := (((0 ≤ i ∧ i < τ.1 0 10) ∧ 1 ≤ n ∧ n ≤ 40) ∧ r = τ.2 10 (41 * i + n).toNat ∧ τ1 = f_p1 τ 0 0 0) ∨ (¬ ((0 ≤ i ∧ i < τ.1 0 10) ∧ 1 ≤ n ∧ n ≤ 40) ∧ r = 0 ∧ τ1 = f_p1 τ 0 0 1)
theorem kU_place (l : Launch) (D : va_G) (cA : Nat → ClassId) (am : Nat → Nat) (hJ : f_J (mG xCl D cA am)) (τ : fS) (hI : m_I τ) (i n : Int) (hi : -2147483648 ≤ i ∧ i ≤ 2147483647) (hn : -2147483648 ≤ n ∧ n ≤ 2147483647) : f_M l (mG xCl D cA am) mE yM_place (Cond.code yM_place cM_place 3 (some .int) :: A9) 1 τ [.ref (am 0), .int (fI i), .int (fI n)] (f_QI (fun r τ1 => u_place τ i n r τ1) (mG xCl D cA am)) := by
  exact kM_place l xCl D cA am hJ τ i n hi hn (hI.1 10)
def u_differ (τ : fS) (b c : Int) (r : Int) (τ1 : fS) : Prop := (¬ ((0 ≤ b ∧ b < τ.1 0 10) ∧ 0 ≤ c ∧ c < τ.1 0 10) ∧ r = 0 ∧ τ1 = f_p1 τ 0 0 1) ∨ (((0 ≤ b ∧ b < τ.1 0 10) ∧ 0 ≤ c ∧ c < τ.1 0 10) ∧ m_dfr τ τ1 ∧ τ1.1 0 0 = 0 ∧ τ1.1 0 28 = 1 ∧ τ1.1 0 29 = r ∧ 0 ≤ r ∧ r ≤ 40)
theorem kU_differ (l : Launch) (D : va_G) (cA : Nat → ClassId) (am : Nat → Nat) (hJ : f_J (mG xCl D cA am)) (τ : fS) (hI : m_I τ) (b c : Int) (hb : -2147483648 ≤ b ∧ b ≤ 2147483647) (hc : -2147483648 ≤ c ∧ c ≤ 2147483647) : f_M l (mG xCl D cA am) mE yM_differ (Cond.code yM_differ cM_differ 9 (some .int) :: A9) 1 τ [.ref (am 0), .int (fI b), .int (fI c)] (f_QI (fun r τ1 => u_differ τ b c r τ1) (mG xCl D cA am)) := by
  exact kM_differ2 l xCl D cA am hJ τ b c hb hc (hI.1 10) (fun i => hI.2.1 7 i) (fun i => hI.2.1 10 i) (fun i => hI.2.1 12 i) hI.2.2.1
def u_row (τ : fS) (i w : Int) (r : Int) (τ1 : fS) : Prop := ((τ.1 0 28 = 1 ∧ (0 ≤ i ∧ i < τ.1 0 29) ∧ 0 ≤ w ∧ w ≤ 1) ∧ ((w = 0 ∧ r = τ.2 16 i.toNat) ∨ (w = 1 ∧ r = τ.2 17 i.toNat)) ∧ τ1 = f_p1 τ 0 0 0) ∨ (¬ (τ.1 0 28 = 1 ∧ (0 ≤ i ∧ i < τ.1 0 29) ∧ 0 ≤ w ∧ w ≤ 1) ∧ r = 0 ∧ τ1 = f_p1 τ 0 0 1)
theorem kU_row (l : Launch) (D : va_G) (cA : Nat → ClassId) (am : Nat → Nat) (hJ : f_J (mG xCl D cA am)) (τ : fS) (hI : m_I τ) (i w : Int) (hi : -2147483648 ≤ i ∧ i ≤ 2147483647) (hw : -2147483648 ≤ w ∧ w ≤ 2147483647) : f_M l (mG xCl D cA am) mE yM_row (Cond.code yM_row cM_row 3 (some .int) :: A9) 0 τ [.ref (am 0), .int (fI i), .int (fI w)] (f_QI (fun r τ1 => u_row τ i w r τ1) (mG xCl D cA am)) := by
  have h28 : 0 ≤ τ.1 0 28 ∧ τ.1 0 28 ≤ 1 := hI.1 28
  exact kM_row l xCl D cA am hJ τ i w hi hw (by omega) (hI.1 29)
def u_told (τ : fS) (w : Int) (r : Int) (τ1 : fS) : Prop := τ1 = f_p1 τ 0 0 0 ∧ m_told τ w r
theorem kU_told (l : Launch) (D : va_G) (cA : Nat → ClassId) (am : Nat → Nat) (hJ : f_J (mG xCl D cA am)) (τ : fS) (hI : m_I τ) (w : Int) (hw : -2147483648 ≤ w ∧ w ≤ 2147483647) : f_M l (mG xCl D cA am) mE yM_told (Cond.code yM_told cM_told 4 (some .int) :: A9) 1 τ [.ref (am 0), .int (fI w)] (f_QI (fun r τ1 => u_told τ w r τ1) (mG xCl D cA am)) := by
  have h9 : 0 ≤ τ.1 0 9 ∧ τ.1 0 9 ≤ 1 := hI.1 9
  exact kM_told l xCl D cA am hJ τ w hw (by omega) (fun i => hI.2.1 1 i) (fun i => hI.2.1 3 i)
/-! every call keeps the ranges -/
section KR
variable {σ σ1 τ τ1 : fS} {k v r n i m b c w how : Int}
theorem xI_object (h : x_I σ) (hy : y_object σ n m k v σ1) : x_I σ1 := by
  rcases hy with ⟨-, -, rfl⟩ | ⟨-, -, -, rfl⟩ | ⟨hn, hm, -, rfl⟩
  · exact h
  · exact h
  · exact x_I_fill (x_I_p2 (x_I_p2 (x_I_p2 (x_I_p2 h (show (0 : Int) ≤ 1 ∧ (1 : Int) ≤ 1 by omega)) (show (0 : Int) ≤ 0 ∧ (0 : Int) ≤ 1 by omega)) (show (0 : Int) ≤ 1 ∧ (1 : Int) ≤ 1 by omega)) hm) (show (-128 : Int) ≤ 0 ∧ (0 : Int) ≤ 127 by omega)
theorem xI_octet (h : x_I σ) (hb : -128 ≤ b ∧ b ≤ 127) (hy : y_octet σ n i b k v σ1) : x_I σ1 := by
  rcases hy with ⟨-, -, rfl⟩ | ⟨-, -, -, rfl⟩
  · exact h
  · unfold x_exch
    split
    · exact x_I_p2 h hb
    · exact x_I_p2 (x_I_p2 h hb) (show (0 : Int) ≤ 1 ∧ (1 : Int) ≤ 1 by omega)
theorem xI_drop (h : x_I σ) (hy : y_drop σ n k v σ1) : x_I σ1 := by
  rcases hy with ⟨-, -, rfl⟩ | ⟨-, -, -, rfl⟩
  · exact h
  · exact x_I_p2 h (show (0 : Int) ≤ 0 ∧ (0 : Int) ≤ 1 by omega)
theorem xI_first (h : x_I σ) (hw : w = 0 ∨ w = 1) (hy : y_first σ n w k v σ1) : x_I σ1 := by
  rcases hy with ⟨-, -, rfl⟩ | ⟨-, -, -, rfl⟩
  · exact h
  · exact x_I_p2 h (show 0 ≤ w ∧ w ≤ 1 by omega)
theorem xI_write (h : x_I σ) (hy : y_write σ how k v σ1) : x_I σ1 := by
  rcases hy with ⟨-, -, rfl⟩ | ⟨-, -, hw, -⟩
  · exact h
  · exact x_I_wrt h hw
theorem xI_append (h : x_I σ) (hy : y_append σ k v σ1) : x_I σ1 := by
  have h10 : 0 ≤ σ.1 10 1 ∧ σ.1 10 1 ≤ 60 := h.1 10 1
  rcases hy with ⟨-, -, rfl⟩ | ⟨-, -, -, -, rfl⟩ | ⟨-, -, -, -, rfl⟩ | ⟨-, -, h60, -, -, hr, rfl⟩ | ⟨-, -, h60, he, -, hr, rfl, -⟩
  · exact h
  · exact h
  · exact h
  · exact (x_I_apd h hr (by omega)).1
  · exact (x_I_apd h hr (by omega)).2 he
theorem xI_poke (h : x_I σ) (hb : -128 ≤ b ∧ b ≤ 127) (hy : y_poke σ i b k v σ1) : x_I σ1 := by
  rcases hy with ⟨-, -, rfl⟩ | ⟨-, -, -, rfl⟩
  · exact h
  · exact x_I_p1 (x_I_p2 h hb) (show (0 : Int) ≤ 1 ∧ (1 : Int) ≤ 1 by omega)
theorem xI_take (h : x_I σ) (hy : y_take σ i k v σ1) : x_I σ1 := by
  have h10 : 0 ≤ σ.1 10 1 ∧ σ.1 10 1 ≤ 60 := h.1 10 1
  rcases hy with ⟨-, -, rfl⟩ | ⟨hg, -, hr⟩
  · exact h
  · exact x_rd_I (x_tk_n h (by omega)) (x_tk_I h (by omega)) hr
theorem xI_at (h : x_I σ) (hy : y_at σ i k v σ1) : x_I σ1 := by
  rcases hy with ⟨-, -, rfl⟩ | ⟨-, -, -, rfl⟩ <;> exact h
theorem xI_length (h : x_I σ) (hy : y_length σ n k v σ1) : x_I σ1 := by
  rcases hy with ⟨-, -, rfl⟩ | ⟨-, -, -, rfl⟩ <;> exact h
theorem xI_byteOf (h : x_I σ) (hy : y_byteOf σ n i k v σ1) : x_I σ1 := by
  rcases hy with ⟨-, -, rfl⟩ | ⟨-, -, -, rfl⟩ <;> exact h
theorem xI_size (h : x_I σ) (hy : y_size σ i k v σ1) : x_I σ1 := by
  rcases hy with ⟨-, -, rfl⟩ | ⟨-, -, -, rfl⟩ <;> exact h
theorem xI_place (h : x_I σ) (hy : y_place σ i n k v σ1) : x_I σ1 := by
  rcases hy with ⟨-, -, rfl⟩ | ⟨-, -, -, rfl⟩ <;> exact h
theorem xI_differ (h : x_I σ) (hy : y_differ σ b c k v σ1) : x_I σ1 := by
  rcases hy with ⟨-, -, rfl⟩ | ⟨-, -, hf, -⟩
  · exact h
  · exact x_frD_I h hf
theorem xI_row (h : x_I σ) (hy : y_row σ i w k v σ1) : x_I σ1 := by
  rcases hy with ⟨-, -, rfl⟩ | ⟨-, -, -, rfl⟩ <;> exact h
theorem m_I_00 (h : m_I τ) (q : Int) : m_I (f_p1 τ 0 0 q) := m_I_p h 0 q (by decide) (m_okF_n _ _ (by decide))
theorem mI_object (h : m_I τ) (hu : u_object τ n m τ1) : m_I τ1 := by
  rcases hu with ⟨-, rfl⟩ | ⟨-, -, rfl⟩ | ⟨hn, hm, rfl⟩
  · exact m_I_00 h 1
  · exact m_I_00 h 2
  · have h1 : m_I (m_bring τ n m) := m_I_a (m_I_a (m_I_a (m_I_a (m_I_00 h 0) 1 _ 1 (by decide) (show (0 : Int) ≤ 1 ∧ (1 : Int) ≤ 1 by omega)) 2 _ 0 (by decide) (show (0 : Int) ≤ 0 ∧ (0 : Int) ≤ 1 by omega)) 3 _ 1 (by decide) (show (0 : Int) ≤ 1 ∧ (1 : Int) ≤ 1 by omega)) 5 _ m (by decide) hm
    refine m_I_fr h1 (fun _ => Or.inl rfl) (fun a b => ?_)
    show (if a = 6 ∧ (120 * n).toNat ≤ b ∧ b < (120 * n).toNat + 120 then 0 else (m_bring τ n m).2 a b) = _ ∨ (a ≠ 10 ∧ a ≠ 11 ∧ a ≠ 12 ∧ m_okA a (if a = 6 ∧ (120 * n).toNat ≤ b ∧ b < (120 * n).toNat + 120 then 0 else (m_bring τ n m).2 a b))
    by_cases g : a = 6 ∧ (120 * n).toNat ≤ b ∧ b < (120 * n).toNat + 120
    · right; rw [if_pos g, g.1]; exact ⟨by decide, by decide, by decide, (show (-128 : Int) ≤ 0 ∧ (0 : Int) ≤ 127 by omega)⟩
    · left; rw [if_neg g]
theorem mI_octet (h : m_I τ) (hb : -128 ≤ b ∧ b ≤ 127) (hu : u_octet τ n i b r τ1) : m_I τ1 := by
  rcases hu with ⟨-, -, ⟨-, rfl⟩ | ⟨-, rfl⟩⟩ | ⟨-, -, rfl⟩
  · exact m_I_a (m_I_a (m_I_00 h 0) 6 _ b (by decide) hb) 3 _ 1 (by decide) (show (0 : Int) ≤ 1 ∧ (1 : Int) ≤ 1 by omega)
  · exact m_I_a (m_I_a (m_I_00 h 0) 6 _ b (by decide) hb) 3 _ 0 (by decide) (show (0 : Int) ≤ 0 ∧ (0 : Int) ≤ 1 by omega)
  · exact m_I_00 h 1
theorem mI_drop (h : m_I τ) (hu : u_drop τ n r τ1) : m_I τ1 := by
  rcases hu with ⟨-, -, -, rfl⟩ | ⟨-, -, -, rfl⟩ | ⟨-, -, rfl⟩
  · exact m_I_a (m_I_a (m_I_a (m_I_00 h 0) 1 _ 0 (by decide) (show (0 : Int) ≤ 0 ∧ (0 : Int) ≤ 1 by omega)) 2 _ 0 (by decide) (show (0 : Int) ≤ 0 ∧ (0 : Int) ≤ 1 by omega)) 3 _ _ (by decide) (h.2.1 4 _)
  · exact m_I_00 h 0
  · exact m_I_00 h 1
theorem mI_first (h : m_I τ) (hw : w = 0 ∨ w = 1) (hu : u_first τ n w r τ1) : m_I τ1 := by
  rcases hu with ⟨-, -, -, rfl⟩ | ⟨-, -, -, rfl⟩ | ⟨-, -, rfl⟩
  · exact m_I_a (m_I_00 h 0) 2 _ w (by decide) (show 0 ≤ w ∧ w ≤ 1 by omega)
  · exact m_I_00 h 0
  · exact m_I_00 h 1
theorem mI_write (h : m_I τ) (hu : u_write τ how r τ1) : m_I τ1 := by
  rcases hu with ⟨-, -, rfl⟩ | ⟨-, -, -, h, -⟩
  · exact m_I_00 h 1
  · exact h
theorem mI_append (h : m_I τ) (hu : u_append τ r τ1) : m_I τ1 := by
  rcases hu with ⟨-, -, rfl⟩ | ⟨-, hu⟩
  · exact m_I_00 h 1
  · exact m_I_app h hu
theorem mI_read (h : m_I τ) (hu : u_read τ r τ1) : m_I τ1 := (m_rd_I (m_I_00 h 0) rfl rfl hu).1
theorem mI_poke (h : m_I τ) (hb : -128 ≤ b ∧ b ≤ 127) (hu : u_poke τ i b r τ1) : m_I τ1 := by
  rcases hu with ⟨-, -, rfl⟩ | ⟨-, -, rfl⟩
  · exact m_I_p (m_I_a (m_I_00 h 0) 7 _ b (by decide) hb) 9 1 (by decide) (show (0 : Int) ≤ 1 ∧ (1 : Int) ≤ 1 by omega)
  · exact m_I_00 h 1
theorem mI_take (h : m_I τ) (hu : u_take τ i r τ1) : m_I τ1 := by
  rcases hu with ⟨-, -, rfl⟩ | ⟨-, hu⟩
  · exact m_I_00 h 1
  · exact (m_rd_I (m_tk_I h) rfl rfl hu).1
theorem mI_at (h : m_I τ) (hu : u_at τ i r τ1) : m_I τ1 := by
  rcases hu with ⟨-, -, rfl⟩ | ⟨-, -, rfl⟩ <;> exact m_I_00 h _
theorem mI_length (h : m_I τ) (hu : u_length τ n r τ1) : m_I τ1 := by
  rcases hu with ⟨-, -, rfl⟩ | ⟨-, -, rfl⟩ <;> exact m_I_00 h _
theorem mI_byteOf (h : m_I τ) (hu : u_byteOf τ n i r τ1) : m_I τ1 := by
  rcases hu with ⟨-, -, rfl⟩ | ⟨-, -, rfl⟩ <;> exact m_I_00 h _
theorem mI_size (h : m_I τ) (hu : u_size τ i r τ1) : m_I τ1 := by
  rcases hu with ⟨-, -, rfl⟩ | ⟨-, -, rfl⟩ <;> exact m_I_00 h _
theorem mI_place (h : m_I τ) (hu : u_place τ i n r τ1) : m_I τ1 := by
  rcases hu with ⟨-, -, rfl⟩ | ⟨-, -, rfl⟩ <;> exact m_I_00 h _
theorem mI_differ (h : m_I τ) (hu : u_differ τ b c r τ1) : m_I τ1 := by
  rcases hu with ⟨-, -, rfl⟩ | ⟨-, hs, h0, h28, h29, hr⟩
  · exact m_I_00 h 1
  · refine m_I_fr h (fun q => ?_) (fun a j => ?_)
    · by_cases g : q = 0 ∨ q = 28 ∨ q = 29
      · right
        rcases g with g | g | g
        · subst g; exact ⟨by decide, by decide, m_okF_n _ _ (by decide)⟩
        · subst g; rw [h28]; exact ⟨by decide, by decide, (show (0 : Int) ≤ 1 ∧ (1 : Int) ≤ 1 by omega)⟩
        · subst g; rw [h29]; exact ⟨by decide, by decide, hr⟩
      · left; exact hs.2 0 q (by omega)
    · by_cases g : a = 16 ∨ a = 17
      · right; exact ⟨by omega, by omega, by omega, m_okA_n _ _ (by omega)⟩
      · left; exact hs.1 a j (by omega) (by omega)
theorem mI_row (h : m_I τ) (hu : u_row τ i w r τ1) : m_I τ1 := by
  rcases hu with ⟨-, -, rfl⟩ | ⟨-, -, rfl⟩ <;> exact m_I_00 h _
theorem mI_told (h : m_I τ) (hu : u_told τ w r τ1) : m_I τ1 := by
  obtain ⟨rfl, -⟩ := hu
  exact m_I_00 h 0
end KR
