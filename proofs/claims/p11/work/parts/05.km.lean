/-- a byte goes to the file's place next, unless bytes are but counted -/
def m_put (σ : fS) (v : Int) : fS := if σ.1 0 17 = 1 then f_p1 σ 0 16 (σ.1 0 16 + 1) else f_p1 (f_p2 σ 7 (σ.1 0 16).toNat v) 0 16 (σ.1 0 16 + 1)
def m_puts (σ : fS) (l : List Int) : fS := l.foldl m_put σ
theorem m_puts_app (σ : fS) (a b : List Int) : m_puts σ (a ++ b) = m_puts (m_puts σ a) b := List.foldl_append
theorem m_puts_cons (σ : fS) (a : Int) (b : List Int) : m_puts σ (a :: b) = m_puts (m_put σ a) b := rfl
theorem m_puts_nil (σ : fS) : m_puts σ [] = σ := rfl
theorem m_put_1 (σ : fS) (v : Int) (a b : Nat) : (m_put σ v).1 a b = if a = 0 ∧ b = 16 then σ.1 0 16 + 1 else σ.1 a b := by
  unfold m_put
  split
  · rw [p1_1]
  · rw [p1_1]; rfl
theorem m_put_2 (σ : fS) (v : Int) (a b : Nat) : (m_put σ v).2 a b = if a = 7 ∧ b = (σ.1 0 16).toNat ∧ ¬ σ.1 0 17 = 1 then v else σ.2 a b := by
  unfold m_put
  split
  · rename_i h
    rw [p1_2, if_neg (by simp [h])]
  · rename_i h
    rw [p1_2, p2_2]
    simp [h]
theorem m_puts_1 (l : List Int) : ∀ (σ : fS) (a b : Nat), (m_puts σ l).1 a b = if a = 0 ∧ b = 16 then σ.1 0 16 + l.length else σ.1 a b := by
  induction l with
  | nil =>
    intro σ a b
    rw [m_puts_nil]
    split
    · rename_i h; rw [h.1, h.2]; simp
    · rfl
  | cons x r ih =>
    intro σ a b
    rw [m_puts_cons, ih, m_put_1, m_put_1]
    by_cases h : a = 0 ∧ b = 16
    · simp only [h, and_self, if_true, List.length_cons]; omega
    · simp [h]
theorem m_puts_2 (l : List Int) : ∀ (σ : fS) (a b : Nat), a ≠ 7 → (m_puts σ l).2 a b = σ.2 a b := by
  induction l with
  | nil => intro σ a b _; rfl
  | cons x r ih =>
    intro σ a b h
    rw [m_puts_cons, ih _ _ _ h, m_put_2, if_neg (by simp [h])]
theorem m_puts_next (σ : fS) (l : List Int) : (m_puts σ l).1 0 16 = σ.1 0 16 + l.length := by rw [m_puts_1]; simp
theorem m_puts_cnt (σ : fS) (l : List Int) : (m_puts σ l).1 0 17 = σ.1 0 17 := by rw [m_puts_1]; simp
theorem m_puts_snoc (σ : fS) (a : List Int) (x : Int) : m_put (m_puts σ a) x = m_puts σ (a ++ [x]) := by
  rw [m_puts_app]
  rfl
set_option maxRecDepth 100000 in
set_option maxHeartbeats 4000000 in
/-- isObject(n) -/
theorem kM_isObject (l : Launch) (xCl : List vw_C) (D : va_G) (cA : Nat → ClassId) (ad : Nat → Nat) (hJ : f_J (mG xCl D cA ad)) (σ : fS) (n : Int) (hn : -2147483648 ≤ n ∧ n ≤ 2147483647) : f_M l (mG xCl D cA ad) mE yM_isObject (Cond.code yM_isObject cM_isObject 1 (some .boolean) :: A9) 0 σ [.int (fI n)] (f_QI (fun r σ1 => r = (if 1 ≤ n ∧ n ≤ 40 then 1 else 0) ∧ σ1 = σ) (mG xCl D cA ad)) := by
  refine f_enter (by decide +kernel) hJ rfl (Nat.le_of_ble_eq_true rfl) ?_
  intro z hzl hR C hRt hLk hEz
  subst hzl
  refine v_iload_n C dM_isObject_0 rfl rfl ?_
  refine v_iconst C dM_isObject_1 ?_
  refine v_icmp_lt (tgt := 15) C dM_isObject_2 (by decide) (by omega) (by omega) (fun hc1 => ?_) (fun hc1 => ?_)
  · refine v_iconst C dM_isObject_15 ?_
    exact v_zret C hRt hLk dM_isObject_16 (fN_bool (by omega)) ⟨by split <;> omega, rfl⟩
  · refine v_iload_n C dM_isObject_5 rfl rfl ?_
    refine v_bipush C dM_isObject_6 (by decide +kernel) ?_
    refine v_icmp_gt (tgt := 15) C dM_isObject_8 (by decide) (by omega) (by omega) (fun hc2 => ?_) (fun hc2 => ?_)
    · refine v_iconst C dM_isObject_15 ?_
      exact v_zret C hRt hLk dM_isObject_16 (fN_bool (by omega)) ⟨by split <;> omega, rfl⟩
    · refine v_iconst C dM_isObject_11 ?_
      refine v_goto (tgt := 16) C dM_isObject_12 (by decide) ?_
      exact v_zret C hRt hLk dM_isObject_16 (fN_bool (by omega)) ⟨by split <;> omega, rfl⟩
set_option maxRecDepth 100000 in
set_option maxHeartbeats 4000000 in
/-- has(n) -/
theorem kM_has (l : Launch) (xCl : List vw_C) (D : va_G) (cA : Nat → ClassId) (ad : Nat → Nat) (hJ : f_J (mG xCl D cA ad)) (σ : fS) (n : Int) (hn : -2147483648 ≤ n ∧ n ≤ 2147483647) (hT : ∀ i, 0 ≤ σ.2 1 i ∧ σ.2 1 i ≤ 1) : f_M l (mG xCl D cA ad) mE yM_has (Cond.code yM_has cM_has 2 (some .boolean) :: A9) 1 σ [.ref (ad 0), .int (fI n)] (f_QI (fun r σ1 => r = (if (1 ≤ n ∧ n ≤ 40) ∧ σ.2 1 n.toNat = 1 then 1 else 0) ∧ σ1 = σ) (mG xCl D cA ad)) := by
  refine f_enter (by decide +kernel) hJ rfl (Nat.le_of_ble_eq_true rfl) ?_
  intro z hzl hR C hRt hLk hEz
  subst hzl
  refine v_iload_n C dM_has_0 rfl rfl ?_
  refine v_cSI (n := 1) C (mE_ok _) trivial hR (kM_isObject _ xCl D cA ad hJ σ (n) (by omega)) dM_has_1 gM_67 (by decide +kernel) (by decide) (by decide) rfl (Nat.le_of_ble_eq_true rfl) rfl ⟨rfl, rfl⟩ (fun r1 σ1 hp1 => ?_)
  obtain ⟨e1, e2⟩ := hp1
  subst σ1
  refine v_if_eq (tgt := 20) C dM_has_4 (by decide) (by omega) (fun hc1 => ?_) (fun hc1 => ?_)
  · refine v_iconst C dM_has_20 ?_
    exact v_zret C hRt hLk dM_has_21 (fN_bool (by omega)) ⟨by split <;> omega, rfl⟩
  · refine v_aload_n C dM_has_7 rfl rfl ?_
    refine v_getR (k := 0) (q := 1) C dM_has_8 (by show (0 : Nat) < 18; decide) rfl rfl (by decide) rfl inM lM_7 rfl ?_
    refine v_iload_n C dM_has_11 rfl rfl ?_
    have hb2 := hT (n).toNat
    refine v_zald (k := 1) (v := σ.2 1 (n).toNat) C dM_has_12 (by show (1 : Nat) < 18; decide) rfl rfl (by omega) (by decide) rfl ?_
    refine v_if_eq (tgt := 20) C dM_has_13 (by decide) (by omega) (fun hc3 => ?_) (fun hc3 => ?_)
    · refine v_iconst C dM_has_20 ?_
      exact v_zret C hRt hLk dM_has_21 (fN_bool (by omega)) ⟨by split <;> omega, rfl⟩
    · refine v_iconst C dM_has_16 ?_
      refine v_goto (tgt := 21) C dM_has_17 (by decide) ?_
      exact v_zret C hRt hLk dM_has_21 (fN_bool (by omega)) ⟨by split <;> omega, rfl⟩
set_option maxRecDepth 100000 in
set_option maxHeartbeats 4000000 in
/-- isOver() -/
theorem kM_isOver (l : Launch) (xCl : List vw_C) (D : va_G) (cA : Nat → ClassId) (ad : Nat → Nat) (hJ : f_J (mG xCl D cA ad)) (σ : fS) (hc : -2147483648 ≤ σ.1 0 21 ∧ σ.1 0 21 ≤ 2147483647) (hl : -2147483648 ≤ σ.1 0 20 ∧ σ.1 0 20 ≤ 2147483647) : f_M l (mG xCl D cA ad) mE yM_isOver (Cond.code yM_isOver cM_isOver 1 (some .boolean) :: A9) 0 σ [.ref (ad 0)] (f_QI (fun r σ1 => r = (if σ.1 0 21 = σ.1 0 20 then 1 else 0) ∧ σ1 = σ) (mG xCl D cA ad)) := by
  refine f_enter (by decide +kernel) hJ rfl (Nat.le_of_ble_eq_true rfl) ?_
  intro z hzl hR C hRt hLk hEz
  subst hzl
  refine v_aload_n C dM_isOver_0 rfl rfl ?_
  refine v_getI (k := 0) (q := 21) (v := σ.1 0 21) C dM_isOver_1 (by show (0 : Nat) < 18; decide) rfl rfl (by decide) rfl inM lM_141 rfl rfl ?_
  refine v_aload_n C dM_isOver_4 rfl rfl ?_
  refine v_getI (k := 0) (q := 20) (v := σ.1 0 20) C dM_isOver_5 (by show (0 : Nat) < 18; decide) rfl rfl (by decide) rfl inM lM_144 rfl rfl ?_
  refine v_icmp_ne (tgt := 15) C dM_isOver_8 (by decide) (by omega) (by omega) (fun hc1 => ?_) (fun hc1 => ?_)
  · refine v_iconst C dM_isOver_15 ?_
    exact v_zret C hRt hLk dM_isOver_16 (fN_bool (by omega)) ⟨by split <;> omega, rfl⟩
  · refine v_iconst C dM_isOver_11 ?_
    refine v_goto (tgt := 16) C dM_isOver_12 (by decide) ?_
    exact v_zret C hRt hLk dM_isOver_16 (fN_bool (by omega)) ⟨by split <;> omega, rfl⟩
set_option maxRecDepth 100000 in
set_option maxHeartbeats 4000000 in
/-- put(b) -/
theorem kM_put (l : Launch) (xCl : List vw_C) (D : va_G) (cA : Nat → ClassId) (ad : Nat → Nat) (hJ : f_J (mG xCl D cA ad)) (σ : fS) (v : Int) (hv : -128 ≤ v ∧ v ≤ 127) (hn : 0 ≤ σ.1 0 16 ∧ σ.1 0 16 ≤ 1000000) (hc : σ.1 0 17 = 0 ∨ σ.1 0 17 = 1) (hf : σ.1 0 17 = 0 → σ.1 0 16 < 12000) : f_M l (mG xCl D cA ad) mE yM_put (Cond.code yM_put cM_put 2 none :: A9) 0 σ [.ref (ad 0), .int (fI v)] (f_QV (fun σ1 => σ1 = m_put σ v) (mG xCl D cA ad)) := by
  refine f_enter (by decide +kernel) hJ rfl (Nat.le_of_ble_eq_true rfl) ?_
  intro z hzl hR C hRt hLk hEz
  subst hzl
  refine v_aload_n C dM_put_0 rfl rfl ?_
  refine v_getI (k := 0) (q := 17) (v := σ.1 0 17) C dM_put_1 (by show (0 : Nat) < 18; decide) rfl rfl (by decide) rfl inM lM_78 rfl rfl ?_
  refine v_if_ne (tgt := 18) C dM_put_4 (by decide) (by omega) (fun hc1 => ?_) (fun hc1 => ?_)
  · refine v_aload_n C dM_put_18 rfl rfl ?_
    refine v_dup C dM_put_19 rfl ?_
    refine v_getI (k := 0) (q := 16) (v := σ.1 0 16) C dM_put_20 (by show (0 : Nat) < 18; decide) rfl rfl (by decide) rfl inM lM_82 rfl rfl ?_
    refine v_iconst C dM_put_23 ?_
    refine v_iadd C dM_put_24 ?_
    refine v_putI (k := 0) (q := 16) C dM_put_25 (by show (0 : Nat) < 18; decide) rfl rfl (by decide) rfl inM tyM_ok nmM lM_82 rfl rfl rfl rfl rfl ?_
    exact v_vret C hRt hLk dM_put_28 (by unfold m_put; first | rw [if_pos (by omega)] | rw [if_neg (by omega)])
  · refine v_aload_n C dM_put_7 rfl rfl ?_
    refine v_getR (k := 0) (q := 8) C dM_put_8 (by show (0 : Nat) < 18; decide) rfl rfl (by decide) rfl inM lM_30 rfl ?_
    refine v_aload_n C dM_put_11 rfl rfl ?_
    refine v_getI (k := 0) (q := 16) (v := σ.1 0 16) C dM_put_12 (by show (0 : Nat) < 18; decide) rfl rfl (by decide) rfl inM lM_82 rfl rfl ?_
    refine v_iload_n C dM_put_15 rfl rfl ?_
    refine v_i2bi C dM_put_16 (by omega) ?_
    refine v_bast (k := 7) C dM_put_17 (by show (7 : Nat) < 18; decide) rfl rfl (by omega) (by decide) (by omega) ?_
    refine v_aload_n C dM_put_18 rfl rfl ?_
    refine v_dup C dM_put_19 rfl ?_
    refine v_getI (k := 0) (q := 16) (v := σ.1 0 16) C dM_put_20 (by show (0 : Nat) < 18; decide) rfl rfl (by decide) rfl inM lM_82 rfl rfl ?_
    refine v_iconst C dM_put_23 ?_
    refine v_iadd C dM_put_24 ?_
    refine v_putI (k := 0) (q := 16) C dM_put_25 (by show (0 : Nat) < 18; decide) rfl rfl (by decide) rfl inM tyM_ok nmM lM_82 rfl rfl rfl rfl rfl ?_
    exact v_vret C hRt hLk dM_put_28 (by unfold m_put; first | rw [if_pos (by omega)] | rw [if_neg (by omega)])
set_option maxRecDepth 100000 in
set_option maxHeartbeats 4000000 in
/-- putNumber(v) -/
theorem kM_putNumber (l : Launch) (xCl : List vw_C) (D : va_G) (cA : Nat → ClassId) (ad : Nat → Nat) (hJ : f_J (mG xCl D cA ad)) (σ : fS) (v : Int) (hv : 0 ≤ v ∧ v ≤ 99999) (hn : 0 ≤ σ.1 0 16 ∧ σ.1 0 16 ≤ 900000) (hc : σ.1 0 17 = 0 ∨ σ.1 0 17 = 1) (hf : σ.1 0 17 = 0 → σ.1 0 16 + (dig v).length ≤ 12000) : f_M l (mG xCl D cA ad) mE yM_putNumber (Cond.code yM_putNumber cM_putNumber 3 none :: A9) 1 σ [.ref (ad 0), .int (fI v)] (f_QV (fun σ1 => σ1 = m_puts σ (dig v)) (mG xCl D cA ad)) := by
  refine f_enter (by decide +kernel) hJ rfl (Nat.le_of_ble_eq_true rfl) ?_
  intro z hzl hR C hRt hLk hEz
  subst hzl
  have L0 : ∀ σ1 : fS, σ1 = m_puts σ (dig v) → fv z (mG xCl D cA ad) 3 (f_R z (mG xCl D cA ad) (f_QV (fun σ1 => σ1 = m_puts σ (dig v)) (mG xCl D cA ad))) 0 0 σ1 18 [some (.ref (ad 0)), some (.int (fI v)), some (.int (fI 0))] [] := by
    intro σ1 h1
    refine v_iload_n C dM_putNumber_18 rfl rfl ?_
    refine v_if_le (tgt := 43) C dM_putNumber_19 (by decide) (by omega) (fun hc1 => ?_) (fun hc1 => ?_)
    · exact v_vret C hRt hLk dM_putNumber_43 h1
    · exfalso; omega
  have L1 : ∀ (j : Nat) (p : Int) (pre : List Int), p = 10 ^ j → 1 ≤ p → p ≤ 10000 → dig v = pre ++ dg j v → fv z (mG xCl D cA ad) 3 (f_R z (mG xCl D cA ad) (f_QV (fun σ1 => σ1 = m_puts σ (dig v)) (mG xCl D cA ad))) 0 0 (m_puts σ pre) 18 [some (.ref (ad 0)), some (.int (fI v)), some (.int (fI p))] [] := by
    intro j
    induction j with
    | zero =>
      intro p pre hp h1 h2 hpre
      have hlen := congrArg List.length hpre
      rw [List.length_append, dg_len] at hlen
      have hd1 : 0 ≤ v / p := Int.ediv_nonneg hv.1 (by omega)
      have hd2 : v / p ≤ v := Int.ediv_le_self p hv.1
      have hdl := dig_len v
      have hnx := m_puts_next σ pre
      have hct := m_puts_cnt σ pre
      have hp1 : p = 1 := hp
      refine v_iload_n C dM_putNumber_18 rfl rfl ?_
      refine v_if_le (tgt := 43) C dM_putNumber_19 (by decide) (by omega) (fun hc2 => ?_) (fun hc2 => ?_)
      · exfalso; omega
      · refine v_aload_n C dM_putNumber_22 rfl rfl ?_
        refine v_bipush C dM_putNumber_23 (by decide +kernel) ?_
        refine v_iload_n C dM_putNumber_25 rfl rfl ?_
        refine v_iload_n C dM_putNumber_26 rfl rfl ?_
        refine v_idiv C dM_putNumber_27 (by omega) (by omega) ?_
        refine v_bipush C dM_putNumber_28 (by decide +kernel) ?_
        refine v_irem C dM_putNumber_30 (by omega) (by omega) ?_
        refine v_iadd C dM_putNumber_31 ?_
        refine v_cVV (k := 0) (n := 1) C (mE_ok _) trivial hR (kM_put _ xCl D cA ad hJ (m_puts σ pre) ((48 + ((v / p) % 10))) (by omega) (by omega) (by omega) (by omega)) dM_putNumber_32 (by show (0 : Nat) < 18; decide) rfl rfl gM_85 (by decide +kernel) (by decide) (by decide) rfl (Nat.le_of_ble_eq_true rfl) rfl ⟨rfl, rfl⟩ (fun σ1 hp1 => ?_)
        subst σ1
        refine v_iload_n C dM_putNumber_35 rfl rfl ?_
        refine v_bipush C dM_putNumber_36 (by decide +kernel) ?_
        refine v_idiv C dM_putNumber_38 (by omega) (by omega) ?_
        refine v_top (b := 0) (by omega) ?_
        refine v_istore_n C dM_putNumber_39 rfl (by decide) ?_
        refine v_goto (tgt := 18) C dM_putNumber_40 (by decide) ?_
        exact L0 _ (by rw [hpre, m_puts_app, hp1]; simp [dg, m_puts])
    | succ j ih =>
      intro p pre hp h1 h2 hpre
      have hlen := congrArg List.length hpre
      rw [List.length_append, dg_len] at hlen
      have hd1 : 0 ≤ v / p := Int.ediv_nonneg hv.1 (by omega)
      have hd2 : v / p ≤ v := Int.ediv_le_self p hv.1
      have hdl := dig_len v
      have hnx := m_puts_next σ pre
      have hct := m_puts_cnt σ pre
      have hp1 : p = 10 ^ j * 10 := by rw [hp, Int.pow_succ]
      refine v_iload_n C dM_putNumber_18 rfl rfl ?_
      refine v_if_le (tgt := 43) C dM_putNumber_19 (by decide) (by omega) (fun hc3 => ?_) (fun hc3 => ?_)
      · exfalso; omega
      · refine v_aload_n C dM_putNumber_22 rfl rfl ?_
        refine v_bipush C dM_putNumber_23 (by decide +kernel) ?_
        refine v_iload_n C dM_putNumber_25 rfl rfl ?_
        refine v_iload_n C dM_putNumber_26 rfl rfl ?_
        refine v_idiv C dM_putNumber_27 (by omega) (by omega) ?_
        refine v_bipush C dM_putNumber_28 (by decide +kernel) ?_
        refine v_irem C dM_putNumber_30 (by omega) (by omega) ?_
        refine v_iadd C dM_putNumber_31 ?_
        refine v_cVV (k := 0) (n := 1) C (mE_ok _) trivial hR (kM_put _ xCl D cA ad hJ (m_puts σ pre) ((48 + ((v / p) % 10))) (by omega) (by omega) (by omega) (by omega)) dM_putNumber_32 (by show (0 : Nat) < 18; decide) rfl rfl gM_85 (by decide +kernel) (by decide) (by decide) rfl (Nat.le_of_ble_eq_true rfl) rfl ⟨rfl, rfl⟩ (fun σ1 hp1 => ?_)
        subst σ1
        refine v_iload_n C dM_putNumber_35 rfl rfl ?_
        refine v_bipush C dM_putNumber_36 (by decide +kernel) ?_
        refine v_idiv C dM_putNumber_38 (by omega) (by omega) ?_
        refine v_top (b := 10 ^ j) (by omega) ?_
        refine v_istore_n C dM_putNumber_39 rfl (by decide) ?_
        refine v_goto (tgt := 18) C dM_putNumber_40 (by decide) ?_
        exact v_st (by rw [m_puts_app]; rfl) (ih (10 ^ j) (pre ++ [48 + v / p % 10]) rfl (by omega) (by omega) (by rw [hpre, hp]; simp [dg]))
  have L2 : ∀ (k j : Nat) (p : Int), p = 10 ^ j → 1 ≤ p → j + k = dl v → fv z (mG xCl D cA ad) 3 (f_R z (mG xCl D cA ad) (f_QV (fun σ1 => σ1 = m_puts σ (dig v)) (mG xCl D cA ad))) 0 0 σ 2 [some (.ref (ad 0)), some (.int (fI v)), some (.int (fI p))] [] := by
    intro k
    induction k with
    | zero =>
      intro j p hp h1 hj
      have h4 := dl_4 v
      have hd1 : 0 ≤ v / p := Int.ediv_nonneg hv.1 (by omega)
      have hd2 : v / p ≤ v := Int.ediv_le_self p hv.1
      have hp4 : p ≤ 10000 := by rw [hp]; exact pow10_4 (by omega)
      have hle : v / p ≤ 9 := by rw [hp, show j = dl v by omega]; exact dl_le hv
      refine v_iload_n C dM_putNumber_2 rfl rfl ?_
      refine v_iload_n C dM_putNumber_3 rfl rfl ?_
      refine v_idiv C dM_putNumber_4 (by omega) (by omega) ?_
      refine v_bipush C dM_putNumber_5 (by decide +kernel) ?_
      refine v_icmp_le (tgt := 18) C dM_putNumber_7 (by decide) (by omega) (by omega) (fun hc4 => ?_) (fun hc4 => ?_)
      · exact L1 j p [] hp h1 hp4 (by rw [show j = dl v by omega]; rfl)
      · exfalso; omega
    | succ k ih =>
      intro j p hp h1 hj
      have h4 := dl_4 v
      have hd1 : 0 ≤ v / p := Int.ediv_nonneg hv.1 (by omega)
      have hd2 : v / p ≤ v := Int.ediv_le_self p hv.1
      have hp4 : p ≤ 10000 := by rw [hp]; exact pow10_4 (by omega)
      have hgt : 9 < v / p := by rw [hp]; exact dl_gt (by omega)
      refine v_iload_n C dM_putNumber_2 rfl rfl ?_
      refine v_iload_n C dM_putNumber_3 rfl rfl ?_
      refine v_idiv C dM_putNumber_4 (by omega) (by omega) ?_
      refine v_bipush C dM_putNumber_5 (by decide +kernel) ?_
      refine v_icmp_le (tgt := 18) C dM_putNumber_7 (by decide) (by omega) (by omega) (fun hc5 => ?_) (fun hc5 => ?_)
      · exfalso; omega
      · refine v_iload_n C dM_putNumber_10 rfl rfl ?_
        refine v_bipush C dM_putNumber_11 (by decide +kernel) ?_
        refine v_imul C dM_putNumber_13 ?_
        refine v_istore_n C dM_putNumber_14 rfl (by decide) ?_
        refine v_goto (tgt := 2) C dM_putNumber_15 (by decide) ?_
        exact ih (j + 1) (p * 10) (by rw [hp, Int.pow_succ]) (by omega) (by omega)
  refine v_iconst C dM_putNumber_0 ?_
  refine v_istore_n C dM_putNumber_1 rfl (by decide) ?_
  exact L2 (dl v) 0 1 rfl (by omega) (by omega)
/-- the line of a letter and a number -/
def m_tell (c v : Int) : List Int := [c, 32] ++ dig v ++ [10]
theorem m_tell_len (c v : Int) : 4 ≤ (m_tell c v).length ∧ (m_tell c v).length ≤ 8 := by
  have := dig_len v
  unfold m_tell
  simp
  omega
/-- a row of object n -/
def m_row (σ : fS) (n : Int) : List Int := dig n ++ [32] ++ (if σ.2 1 n.toNat = 1 then dig (σ.2 13 n.toNat) else [45]) ++ [10]
theorem m_row_len (σ : fS) (n : Int) : 4 ≤ (m_row σ n).length ∧ (m_row σ n).length ≤ 12 := by
  have h1 := dig_len n
  have h2 := dig_len (σ.2 13 n.toNat)
  unfold m_row
  split <;> simp <;> omega
theorem m_row_eq (σ : fS) (n : Int) (h : 0 ≤ σ.2 1 n.toNat ∧ σ.2 1 n.toNat ≤ 1) : (σ.2 1 n.toNat = 1 ∧ (m_row σ n).length = (dig n).length + 2 + (dig (σ.2 13 n.toNat)).length) ∨ (σ.2 1 n.toNat = 0 ∧ (m_row σ n).length = (dig n).length + 3) := by
  unfold m_row
  by_cases h1 : σ.2 1 n.toNat = 1
  · refine Or.inl ⟨h1, ?_⟩
    rw [if_pos h1]
    simp
    omega
  · refine Or.inr ⟨by omega, ?_⟩
    rw [if_neg h1]
    simp
set_option maxRecDepth 100000 in
set_option maxHeartbeats 4000000 in
/-- putTold(letter, v) -/
theorem kM_putTold (l : Launch) (xCl : List vw_C) (D : va_G) (cA : Nat → ClassId) (ad : Nat → Nat) (hJ : f_J (mG xCl D cA ad)) (σ : fS) (c v : Int) (hb : -128 ≤ c ∧ c ≤ 127) (hv : 0 ≤ v ∧ v ≤ 99999) (hn : 0 ≤ σ.1 0 16 ∧ σ.1 0 16 ≤ 800000) (hc : σ.1 0 17 = 0 ∨ σ.1 0 17 = 1) (hf : σ.1 0 17 = 0 → σ.1 0 16 + ((dig v).length + 3) ≤ 12000) : f_M l (mG xCl D cA ad) mE yM_putTold (Cond.code yM_putTold cM_putTold 3 none :: A9) 2 σ [.ref (ad 0), .int (fI c), .int (fI v)] (f_QV (fun σ1 => σ1 = m_puts σ (m_tell c v)) (mG xCl D cA ad)) := by
  refine f_enter (by decide +kernel) hJ rfl (Nat.le_of_ble_eq_true rfl) ?_
  intro z hzl hR C hRt hLk hEz
  subst hzl
  refine v_st (σ1 := m_puts σ []) rfl ?_
  have hdv := dig_len v
  refine v_aload_n C dM_putTold_0 rfl rfl ?_
  refine v_iload_n C dM_putTold_1 rfl rfl ?_
  have hx1 := m_puts_next σ ([])
  try simp only [List.length_append, List.length_cons, List.length_nil, List.length_map, List.length_range] at hx1
  have hy2 := m_puts_cnt σ ([])
  refine v_cVV (k := 0) (n := 1) C (mE_ok _) trivial hR (kM_put _ xCl D cA ad hJ (m_puts σ ([])) (c) (by omega) (by omega) (by omega) (by omega)) dM_putTold_2 (by show (0 : Nat) < 18; decide) rfl rfl gM_85 (by decide +kernel) (by decide) (by decide) rfl (Nat.le_of_ble_eq_true rfl) rfl ⟨rfl, rfl⟩ (fun σ1 hp1 => ?_)
  subst σ1
  refine v_st (σ1 := m_puts σ ([c])) (rfl) ?_
  refine v_aload_n C dM_putTold_5 rfl rfl ?_
  refine v_bipush C dM_putTold_6 (by decide +kernel) ?_
  have hx3 := m_puts_next σ ([c])
  try simp only [List.length_append, List.length_cons, List.length_nil, List.length_map, List.length_range] at hx3
  have hy4 := m_puts_cnt σ ([c])
  refine v_cVV (k := 0) (n := 1) C (mE_ok _) trivial hR (kM_put _ xCl D cA ad hJ (m_puts σ ([c])) (32) (by omega) (by omega) (by omega) (by omega)) dM_putTold_8 (by show (0 : Nat) < 18; decide) rfl rfl gM_85 (by decide +kernel) (by decide) (by decide) rfl (Nat.le_of_ble_eq_true rfl) rfl ⟨rfl, rfl⟩ (fun σ1 hp1 => ?_)
  subst σ1
  refine v_st (σ1 := m_puts σ ([c] ++ [32])) (m_puts_snoc _ _ _) ?_
  refine v_aload_n C dM_putTold_11 rfl rfl ?_
  refine v_iload_n C dM_putTold_12 rfl rfl ?_
  have hx5 := m_puts_next σ ([c] ++ [32])
  try simp only [List.length_append, List.length_cons, List.length_nil, List.length_map, List.length_range] at hx5
  have hy6 := m_puts_cnt σ ([c] ++ [32])
  have hw7 := dig_len (v)
  refine v_cVV (k := 0) (n := 1) C (mE_ok _) trivial hR (kM_putNumber _ xCl D cA ad hJ (m_puts σ ([c] ++ [32])) (v) (by omega) (by omega) (by omega) (by omega)) dM_putTold_13 (by show (0 : Nat) < 18; decide) rfl rfl gM_89 (by decide +kernel) (by decide) (by decide) rfl (Nat.le_of_ble_eq_true rfl) rfl ⟨rfl, rfl⟩ (fun σ1 hp1 => ?_)
  subst σ1
  refine v_st (σ1 := m_puts σ ([c] ++ [32] ++ dig (v))) ((m_puts_app _ _ _).symm) ?_
  refine v_aload_n C dM_putTold_16 rfl rfl ?_
  refine v_bipush C dM_putTold_17 (by decide +kernel) ?_
  have hx8 := m_puts_next σ ([c] ++ [32] ++ dig (v))
  try simp only [List.length_append, List.length_cons, List.length_nil, List.length_map, List.length_range] at hx8
  have hy9 := m_puts_cnt σ ([c] ++ [32] ++ dig (v))
  refine v_cVV (k := 0) (n := 1) C (mE_ok _) trivial hR (kM_put _ xCl D cA ad hJ (m_puts σ ([c] ++ [32] ++ dig (v))) (10) (by omega) (by omega) (by omega) (by omega)) dM_putTold_19 (by show (0 : Nat) < 18; decide) rfl rfl gM_85 (by decide +kernel) (by decide) (by decide) rfl (Nat.le_of_ble_eq_true rfl) rfl ⟨rfl, rfl⟩ (fun σ1 hp1 => ?_)
  subst σ1
  refine v_st (σ1 := m_puts σ ([c] ++ [32] ++ dig (v) ++ [10])) (m_puts_snoc _ _ _) ?_
  exact v_vret C hRt hLk dM_putTold_22 (by unfold m_tell; simp)
set_option maxRecDepth 100000 in
set_option maxHeartbeats 4000000 in
/-- putRow(n) -/
theorem kM_putRow (l : Launch) (xCl : List vw_C) (D : va_G) (cA : Nat → ClassId) (ad : Nat → Nat) (hJ : f_J (mG xCl D cA ad)) (σ : fS) (n : Int) (hn1 : 1 ≤ n ∧ n ≤ 40) (hT : ∀ i, 0 ≤ σ.2 1 i ∧ σ.2 1 i ≤ 1) (hA : ∀ i, 0 ≤ σ.2 13 i ∧ σ.2 13 i ≤ 99999) (hn : 0 ≤ σ.1 0 16 ∧ σ.1 0 16 ≤ 800000) (hc : σ.1 0 17 = 0 ∨ σ.1 0 17 = 1) (hf : σ.1 0 17 = 0 → σ.1 0 16 + (m_row σ n).length ≤ 12000) : f_M l (mG xCl D cA ad) mE yM_putRow (Cond.code yM_putRow cM_putRow 2 none :: A9) 2 σ [.ref (ad 0), .int (fI n)] (f_QV (fun σ1 => σ1 = m_puts σ (m_row σ n)) (mG xCl D cA ad)) := by
  refine f_enter (by decide +kernel) hJ rfl (Nat.le_of_ble_eq_true rfl) ?_
  intro z hzl hR C hRt hLk hEz
  subst hzl
  refine v_st (σ1 := m_puts σ []) rfl ?_
  have hdn := dig_len n
  have hdr := dig_len (σ.2 13 n.toNat)
  have hT1 := hT n.toNat
  have hA1 := hA n.toNat
  have hrl := m_row_eq σ n hT1
  refine v_aload_n C dM_putRow_0 rfl rfl ?_
  refine v_iload_n C dM_putRow_1 rfl rfl ?_
  have hx1 := m_puts_next σ ([])
  try simp only [List.length_append, List.length_cons, List.length_nil, List.length_map, List.length_range] at hx1
  have hy2 := m_puts_cnt σ ([])
  have hw3 := dig_len (n)
  refine v_cVV (k := 0) (n := 1) C (mE_ok _) trivial hR (kM_putNumber _ xCl D cA ad hJ (m_puts σ ([])) (n) (by omega) (by omega) (by omega) (by omega)) dM_putRow_2 (by show (0 : Nat) < 18; decide) rfl rfl gM_89 (by decide +kernel) (by decide) (by decide) rfl (Nat.le_of_ble_eq_true rfl) rfl ⟨rfl, rfl⟩ (fun σ1 hp1 => ?_)
  subst σ1
  refine v_st (σ1 := m_puts σ (dig (n))) (rfl) ?_
  refine v_aload_n C dM_putRow_5 rfl rfl ?_
  refine v_bipush C dM_putRow_6 (by decide +kernel) ?_
  have hx4 := m_puts_next σ (dig (n))
  try simp only [List.length_append, List.length_cons, List.length_nil, List.length_map, List.length_range] at hx4
  have hy5 := m_puts_cnt σ (dig (n))
  refine v_cVV (k := 0) (n := 1) C (mE_ok _) trivial hR (kM_put _ xCl D cA ad hJ (m_puts σ (dig (n))) (32) (by omega) (by omega) (by omega) (by omega)) dM_putRow_8 (by show (0 : Nat) < 18; decide) rfl rfl gM_85 (by decide +kernel) (by decide) (by decide) rfl (Nat.le_of_ble_eq_true rfl) rfl ⟨rfl, rfl⟩ (fun σ1 hp1 => ?_)
  subst σ1
  refine v_st (σ1 := m_puts σ (dig (n) ++ [32])) (m_puts_snoc _ _ _) ?_
  refine v_aload_n C dM_putRow_11 rfl rfl ?_
  refine v_getR (k := 0) (q := 1) C dM_putRow_12 (by show (0 : Nat) < 18; decide) rfl rfl (by decide) rfl inM lM_7 rfl ?_
  refine v_iload_n C dM_putRow_15 rfl rfl ?_
  refine v_zald (k := 1) (v := σ.2 1 (n).toNat) C dM_putRow_16 (by show (1 : Nat) < 18; decide) rfl rfl (by omega) (by decide) (m_puts_2 _ _ _ _ (by decide)) ?_
  refine v_if_eq (tgt := 33) C dM_putRow_17 (by decide) (by omega) (fun hc6 => ?_) (fun hc6 => ?_)
  · refine v_aload_n C dM_putRow_33 rfl rfl ?_
    refine v_bipush C dM_putRow_34 (by decide +kernel) ?_
    have hx7 := m_puts_next σ (dig (n) ++ [32])
    try simp only [List.length_append, List.length_cons, List.length_nil, List.length_map, List.length_range] at hx7
    have hy8 := m_puts_cnt σ (dig (n) ++ [32])
    refine v_cVV (k := 0) (n := 1) C (mE_ok _) trivial hR (kM_put _ xCl D cA ad hJ (m_puts σ (dig (n) ++ [32])) (45) (by omega) (by omega) (by omega) (by omega)) dM_putRow_36 (by show (0 : Nat) < 18; decide) rfl rfl gM_85 (by decide +kernel) (by decide) (by decide) rfl (Nat.le_of_ble_eq_true rfl) rfl ⟨rfl, rfl⟩ (fun σ1 hp1 => ?_)
    subst σ1
    refine v_st (σ1 := m_puts σ (dig (n) ++ [32] ++ [45])) (m_puts_snoc _ _ _) ?_
    refine v_aload_n C dM_putRow_39 rfl rfl ?_
    refine v_bipush C dM_putRow_40 (by decide +kernel) ?_
    have hx9 := m_puts_next σ (dig (n) ++ [32] ++ [45])
    try simp only [List.length_append, List.length_cons, List.length_nil, List.length_map, List.length_range] at hx9
    have hy10 := m_puts_cnt σ (dig (n) ++ [32] ++ [45])
    refine v_cVV (k := 0) (n := 1) C (mE_ok _) trivial hR (kM_put _ xCl D cA ad hJ (m_puts σ (dig (n) ++ [32] ++ [45])) (10) (by omega) (by omega) (by omega) (by omega)) dM_putRow_42 (by show (0 : Nat) < 18; decide) rfl rfl gM_85 (by decide +kernel) (by decide) (by decide) rfl (Nat.le_of_ble_eq_true rfl) rfl ⟨rfl, rfl⟩ (fun σ1 hp1 => ?_)
    subst σ1
    refine v_st (σ1 := m_puts σ (dig (n) ++ [32] ++ [45] ++ [10])) (m_puts_snoc _ _ _) ?_
    exact v_vret C hRt hLk dM_putRow_45 (by unfold m_row; first | (rw [if_pos (by omega)]; done) | (rw [if_pos (by omega)]; simp; done) | (rw [if_neg (by omega)]; done) | (rw [if_neg (by omega)]; simp; done))
  · refine v_aload_n C dM_putRow_20 rfl rfl ?_
    refine v_aload_n C dM_putRow_21 rfl rfl ?_
    refine v_getR (k := 0) (q := 18) C dM_putRow_22 (by show (0 : Nat) < 18; decide) rfl rfl (by decide) rfl inM lM_48 rfl ?_
    refine v_iload_n C dM_putRow_25 rfl rfl ?_
    refine v_iald (k := 13) (v := σ.2 13 (n).toNat) C dM_putRow_26 (by show (13 : Nat) < 18; decide) rfl rfl (by omega) (by decide) (m_puts_2 _ _ _ _ (by decide)) ?_
    have hx11 := m_puts_next σ (dig (n) ++ [32])
    try simp only [List.length_append, List.length_cons, List.length_nil, List.length_map, List.length_range] at hx11
    have hy12 := m_puts_cnt σ (dig (n) ++ [32])
    have hw13 := dig_len (σ.2 13 (n).toNat)
    refine v_cVV (k := 0) (n := 1) C (mE_ok _) trivial hR (kM_putNumber _ xCl D cA ad hJ (m_puts σ (dig (n) ++ [32])) (σ.2 13 (n).toNat) (by omega) (by omega) (by omega) (by omega)) dM_putRow_27 (by show (0 : Nat) < 18; decide) rfl rfl gM_89 (by decide +kernel) (by decide) (by decide) rfl (Nat.le_of_ble_eq_true rfl) rfl ⟨rfl, rfl⟩ (fun σ1 hp1 => ?_)
    subst σ1
    refine v_st (σ1 := m_puts σ (dig (n) ++ [32] ++ dig (σ.2 13 (n).toNat))) ((m_puts_app _ _ _).symm) ?_
    refine v_goto (tgt := 39) C dM_putRow_30 (by decide) ?_
    refine v_aload_n C dM_putRow_39 rfl rfl ?_
    refine v_bipush C dM_putRow_40 (by decide +kernel) ?_
    have hx14 := m_puts_next σ (dig (n) ++ [32] ++ dig (σ.2 13 (n).toNat))
    try simp only [List.length_append, List.length_cons, List.length_nil, List.length_map, List.length_range] at hx14
    have hy15 := m_puts_cnt σ (dig (n) ++ [32] ++ dig (σ.2 13 (n).toNat))
    refine v_cVV (k := 0) (n := 1) C (mE_ok _) trivial hR (kM_put _ xCl D cA ad hJ (m_puts σ (dig (n) ++ [32] ++ dig (σ.2 13 (n).toNat))) (10) (by omega) (by omega) (by omega) (by omega)) dM_putRow_42 (by show (0 : Nat) < 18; decide) rfl rfl gM_85 (by decide +kernel) (by decide) (by decide) rfl (Nat.le_of_ble_eq_true rfl) rfl ⟨rfl, rfl⟩ (fun σ1 hp1 => ?_)
    subst σ1
    refine v_st (σ1 := m_puts σ (dig (n) ++ [32] ++ dig (σ.2 13 (n).toNat) ++ [10])) (m_puts_snoc _ _ _) ?_
    exact v_vret C hRt hLk dM_putRow_45 (by unfold m_row; first | (rw [if_pos (by omega)]; done) | (rw [if_pos (by omega)]; simp; done) | (rw [if_neg (by omega)]; done) | (rw [if_neg (by omega)]; simp; done))
