section
section FT
variable {z : fZ} {G : fG} {nL : Nat} {Q : State → Prop} {kc ks : Nat} {σ : fS} {pc : Nat} {lv : List (Option Value)} {st : List Value}
theorem v_top {a b : Int} (h : a = b) (k : fv z G nL Q kc ks σ pc lv (.int (fI b) :: st)) : fv z G nL Q kc ks σ pc lv (.int (fI a) :: st) := h ▸ k
theorem v_st {σ1 : fS} (h : σ = σ1) (k : fv z G nL Q kc ks σ1 pc lv st) : fv z G nL Q kc ks σ pc lv st := h ▸ k
theorem v_lv {lv1 : List (Option Value)} (h : lv = lv1) (k : fv z G nL Q kc ks σ pc lv1 st) : fv z G nL Q kc ks σ pc lv st := h ▸ k
end FT
/-- two states are one when their numbers are -/
theorem fS_ext {σ τ : fS} (h1 : ∀ a b, σ.1 a b = τ.1 a b) (h2 : ∀ a b, σ.2 a b = τ.2 a b) : σ = τ := Prod.ext (funext fun a => funext fun b => h1 a b) (funext fun a => funext fun b => h2 a b)
/-- digits, from the j-th on -/
def dg : Nat → Int → List Int
  | 0, v => [48 + v % 10]
  | j + 1, v => (48 + v / 10 ^ (j + 1) % 10) :: dg j v
def dl (v : Int) : Nat := if v < 10 then 0 else if v < 100 then 1 else if v < 1000 then 2 else if v < 10000 then 3 else 4
def dig (v : Int) : List Int := dg (dl v) v
theorem dg_len (j : Nat) (v : Int) : (dg j v).length = j + 1 := by
  induction j with
  | zero => rfl
  | succ j ih => simp [dg, ih]
theorem dig_len (v : Int) : 1 ≤ (dig v).length ∧ (dig v).length ≤ 5 := by
  unfold dig
  rw [dg_len]
  unfold dl
  split
  · omega
  · split
    · omega
    · split
      · omega
      · split <;> omega
theorem dg_byte (j : Nat) (v : Int) : ∀ x ∈ dg j v, 48 ≤ x ∧ x ≤ 57 := by
  induction j with
  | zero =>
    intro x hx
    simp [dg] at hx
    omega
  | succ j ih =>
    intro x hx
    simp only [dg, List.mem_cons] at hx
    rcases hx with rfl | hx
    · omega
    · exact ih x hx
theorem dl_4 (v : Int) : dl v ≤ 4 := by
  unfold dl
  split
  · omega
  · split
    · omega
    · split
      · omega
      · split <;> omega
theorem dl_le {v : Int} (hv : 0 ≤ v ∧ v ≤ 99999) : v / 10 ^ dl v ≤ 9 := by
  unfold dl
  split
  · show v / 1 ≤ 9; omega
  · split
    · show v / 10 ≤ 9; omega
    · split
      · show v / 100 ≤ 9; omega
      · split
        · show v / 1000 ≤ 9; omega
        · show v / 10000 ≤ 9; omega
theorem dl_gt {v : Int} {j : Nat} (h : j < dl v) : 9 < v / 10 ^ j := by
  have h4 := dl_4 v
  have hj : j = 0 ∨ j = 1 ∨ j = 2 ∨ j = 3 := by omega
  unfold dl at h
  rcases hj with rfl | rfl | rfl | rfl
  · show 9 < v / 1
    split at h <;> omega
  · show 9 < v / 10
    split at h
    · omega
    · split at h <;> omega
  · show 9 < v / 100
    split at h
    · omega
    · split at h
      · omega
      · split at h <;> omega
  · show 9 < v / 1000
    split at h
    · omega
    · split at h
      · omega
      · split at h
        · omega
        · split at h <;> omega
theorem pow10_4 {j : Nat} (h : j ≤ 4) : (10 : Int) ^ j ≤ 10000 := by
  have hj : j = 0 ∨ j = 1 ∨ j = 2 ∨ j = 3 ∨ j = 4 := by omega
  rcases hj with rfl | rfl | rfl | rfl | rfl <;> decide
end
section
/-- a byte goes to the file's place next, unless bytes are but counted -/
def m_put (σ : fS) (v : Int) : fS := if σ.1 0 17 = 1 then f_p1 σ 0 16 (σ.1 0 16 + 1) else f_p1 (f_p2 σ 7 (σ.1 0 16).toNat v) 0 16 (σ.1 0 16 + 1)
def m_puts (σ : fS) (l : List Int) : fS := l.foldl m_put σ
theorem m_puts_app (σ : fS) (a b : List Int) : m_puts σ (a ++ b) = m_puts (m_puts σ a) b := List.foldl_append
theorem m_puts_cons (σ : fS) (a : Int) (b : List Int) : m_puts σ (a :: b) = m_puts (m_put σ a) b := rfl
theorem m_puts_nil (σ : fS) : m_puts σ [] = σ := rfl
theorem m_put_1 (σ : fS) (v : Int) (a b : Nat) : (m_put σ v).1 a b = if a = 0 ∧ b = 16 then σ.1 0 16 + 1 else σ.1 a b := by
  unfold m_put
  split
  · rw [p1_1]
  · rw [p1_1]; rfl
theorem m_put_2 (σ : fS) (v : Int) (a b : Nat) : (m_put σ v).2 a b = if a = 7 ∧ b = (σ.1 0 16).toNat ∧ ¬ σ.1 0 17 = 1 then v else σ.2 a b := by
  unfold m_put
  split
  · rename_i h
    rw [p1_2, if_neg (by simp [h])]
  · rename_i h
    rw [p1_2, p2_2]
    simp [h]
theorem m_puts_1 (l : List Int) : ∀ (σ : fS) (a b : Nat), (m_puts σ l).1 a b = if a = 0 ∧ b = 16 then σ.1 0 16 + l.length else σ.1 a b := by
  induction l with
  | nil =>
    intro σ a b
    rw [m_puts_nil]
    split
    · rename_i h; rw [h.1, h.2]; simp
    · rfl
  | cons x r ih =>
    intro σ a b
    rw [m_puts_cons, ih, m_put_1, m_put_1]
    by_cases h : a = 0 ∧ b = 16
    · simp only [h, and_self, if_true, List.length_cons]; omega
    · simp [h]
theorem m_puts_2 (l : List Int) : ∀ (σ : fS) (a b : Nat), a ≠ 7 → (m_puts σ l).2 a b = σ.2 a b := by
  induction l with
  | nil => intro σ a b _; rfl
  | cons x r ih =>
    intro σ a b h
    rw [m_puts_cons, ih _ _ _ h, m_put_2, if_neg (by simp [h])]
theorem m_puts_next (σ : fS) (l : List Int) : (m_puts σ l).1 0 16 = σ.1 0 16 + l.length := by rw [m_puts_1]; simp
theorem m_puts_cnt (σ : fS) (l : List Int) : (m_puts σ l).1 0 17 = σ.1 0 17 := by rw [m_puts_1]; simp
theorem m_puts_snoc (σ : fS) (a : List Int) (x : Int) : m_put (m_puts σ a) x = m_puts σ (a ++ [x]) := by
  rw [m_puts_app]
  rfl
set_option maxRecDepth 100000 in
set_option maxHeartbeats 4000000 in
/-- isObject(n) -/
theorem kM_isObject (l : Launch) (xCl : List vw_C) (D : va_G) (cA : Nat → ClassId) (ad : Nat → Nat) (hJ : f_J (mG xCl D cA ad)) (σ : fS) (n : Int) (hn : -2147483648 ≤ n ∧ n ≤ 2147483647) : f_M l (mG xCl D cA ad) mE yM_isObject (Cond.code yM_isObject cM_isObject 1 (some .boolean) :: A9) 0 σ [.int (fI n)] (f_QI (fun r σ1 => r = (if 1 ≤ n ∧ n ≤ 40 then 1 else 0) ∧ σ1 = σ) (mG xCl D cA ad)) := by
  refine f_enter (by decide +kernel) hJ rfl (Nat.le_of_ble_eq_true rfl) ?_
  intro z hzl hR C hRt hLk hEz
  subst hzl
  refine v_iload_n C dM_isObject_0 rfl rfl ?_
  refine v_iconst C dM_isObject_1 ?_
  refine v_icmp_lt (tgt := 15) C dM_isObject_2 (by decide) (by omega) (by omega) (fun hc1 => ?_) (fun hc1 => ?_)
  · refine v_iconst C dM_isObject_15 ?_
    exact v_zret C hRt hLk dM_isObject_16 (fN_bool (by omega)) ⟨by split <;> omega, rfl⟩
  · refine v_iload_n C dM_isObject_5 rfl rfl ?_
    refine v_bipush C dM_isObject_6 (by decide +kernel) ?_
    refine v_icmp_gt (tgt := 15) C dM_isObject_8 (by decide) (by omega) (by omega) (fun hc2 => ?_) (fun hc2 => ?_)
    · refine v_iconst C dM_isObject_15 ?_
      exact v_zret C hRt hLk dM_isObject_16 (fN_bool (by omega)) ⟨by split <;> omega, rfl⟩
    · refine v_iconst C dM_isObject_11 ?_
      refine v_goto (tgt := 16) C dM_isObject_12 (by decide) ?_
      exact v_zret C hRt hLk dM_isObject_16 (fN_bool (by omega)) ⟨by split <;> omega, rfl⟩
set_option maxRecDepth 100000 in
set_option maxHeartbeats 4000000 in
/-- isOver() -/
theorem kM_isOver (l : Launch) (xCl : List vw_C) (D : va_G) (cA : Nat → ClassId) (ad : Nat → Nat) (hJ : f_J (mG xCl D cA ad)) (σ : fS) (hc : -2147483648 ≤ σ.1 0 21 ∧ σ.1 0 21 ≤ 2147483647) (hl : -2147483648 ≤ σ.1 0 20 ∧ σ.1 0 20 ≤ 2147483647) : f_M l (mG xCl D cA ad) mE yM_isOver (Cond.code yM_isOver cM_isOver 1 (some .boolean) :: A9) 0 σ [.ref (ad 0)] (f_QI (fun r σ1 => r = (if σ.1 0 21 = σ.1 0 20 then 1 else 0) ∧ σ1 = σ) (mG xCl D cA ad)) := by
  refine f_enter (by decide +kernel) hJ rfl (Nat.le_of_ble_eq_true rfl) ?_
  intro z hzl hR C hRt hLk hEz
  subst hzl
  refine v_aload_n C dM_isOver_0 rfl rfl ?_
  refine v_getI (k := 0) (q := 21) (v := σ.1 0 21) C dM_isOver_1 (by show (0 : Nat) < 18; decide) rfl rfl (by decide) rfl inM lM_141 rfl rfl ?_
  refine v_aload_n C dM_isOver_4 rfl rfl ?_
  refine v_getI (k := 0) (q := 20) (v := σ.1 0 20) C dM_isOver_5 (by show (0 : Nat) < 18; decide) rfl rfl (by decide) rfl inM lM_144 rfl rfl ?_
  refine v_icmp_ne (tgt := 15) C dM_isOver_8 (by decide) (by omega) (by omega) (fun hc1 => ?_) (fun hc1 => ?_)
  · refine v_iconst C dM_isOver_15 ?_
    exact v_zret C hRt hLk dM_isOver_16 (fN_bool (by omega)) ⟨by split <;> omega, rfl⟩
  · refine v_iconst C dM_isOver_11 ?_
    refine v_goto (tgt := 16) C dM_isOver_12 (by decide) ?_
    exact v_zret C hRt hLk dM_isOver_16 (fN_bool (by omega)) ⟨by split <;> omega, rfl⟩
set_option maxRecDepth 100000 in
set_option maxHeartbeats 4000000 in
/-- put(b) -/
theorem kM_put (l : Launch) (xCl : List vw_C) (D : va_G) (cA : Nat → ClassId) (ad : Nat → Nat) (hJ : f_J (mG xCl D cA ad)) (σ : fS) (v : Int) (hv : -128 ≤ v ∧ v ≤ 127) (hn : 0 ≤ σ.1 0 16 ∧ σ.1 0 16 ≤ 1000000) (hc : σ.1 0 17 = 0 ∨ σ.1 0 17 = 1) (hf : σ.1 0 17 = 0 → σ.1 0 16 < 12000) : f_M l (mG xCl D cA ad) mE yM_put (Cond.code yM_put cM_put 2 none :: A9) 0 σ [.ref (ad 0), .int (fI v)] (f_QV (fun σ1 => σ1 = m_put σ v) (mG xCl D cA ad)) := by
  refine f_enter (by decide +kernel) hJ rfl (Nat.le_of_ble_eq_true rfl) ?_
  intro z hzl hR C hRt hLk hEz
  subst hzl
  refine v_aload_n C dM_put_0 rfl rfl ?_
  refine v_getI (k := 0) (q := 17) (v := σ.1 0 17) C dM_put_1 (by show (0 : Nat) < 18; decide) rfl rfl (by decide) rfl inM lM_78 rfl rfl ?_
  refine v_if_ne (tgt := 18) C dM_put_4 (by decide) (by omega) (fun hc1 => ?_) (fun hc1 => ?_)
  · refine v_aload_n C dM_put_18 rfl rfl ?_
    refine v_dup C dM_put_19 rfl ?_
    refine v_getI (k := 0) (q := 16) (v := σ.1 0 16) C dM_put_20 (by show (0 : Nat) < 18; decide) rfl rfl (by decide) rfl inM lM_82 rfl rfl ?_
    refine v_iconst C dM_put_23 ?_
    refine v_iadd C dM_put_24 ?_
    refine v_putI (k := 0) (q := 16) C dM_put_25 (by show (0 : Nat) < 18; decide) rfl rfl (by decide) rfl inM tyM_ok nmM lM_82 rfl rfl rfl rfl rfl ?_
    exact v_vret C hRt hLk dM_put_28 (by unfold m_put; first | rw [if_pos (by omega)] | rw [if_neg (by omega)])
  · refine v_aload_n C dM_put_7 rfl rfl ?_
    refine v_getR (k := 0) (q := 8) C dM_put_8 (by show (0 : Nat) < 18; decide) rfl rfl (by decide) rfl inM lM_30 rfl ?_
    refine v_aload_n C dM_put_11 rfl rfl ?_
    refine v_getI (k := 0) (q := 16) (v := σ.1 0 16) C dM_put_12 (by show (0 : Nat) < 18; decide) rfl rfl (by decide) rfl inM lM_82 rfl rfl ?_
    refine v_iload_n C dM_put_15 rfl rfl ?_
    refine v_i2bi C dM_put_16 (by omega) ?_
    refine v_bast (k := 7) C dM_put_17 (by show (7 : Nat) < 18; decide) rfl rfl (by omega) (by decide) (by omega) ?_
    refine v_aload_n C dM_put_18 rfl rfl ?_
    refine v_dup C dM_put_19 rfl ?_
    refine v_getI (k := 0) (q := 16) (v := σ.1 0 16) C dM_put_20 (by show (0 : Nat) < 18; decide) rfl rfl (by decide) rfl inM lM_82 rfl rfl ?_
    refine v_iconst C dM_put_23 ?_
    refine v_iadd C dM_put_24 ?_
    refine v_putI (k := 0) (q := 16) C dM_put_25 (by show (0 : Nat) < 18; decide) rfl rfl (by decide) rfl inM tyM_ok nmM lM_82 rfl rfl rfl rfl rfl ?_
    exact v_vret C hRt hLk dM_put_28 (by unfold m_put; first | rw [if_pos (by omega)] | rw [if_neg (by omega)])
set_option maxRecDepth 100000 in
set_option maxHeartbeats 4000000 in
/-- putNumber(v) -/
theorem kM_putNumber (l : Launch) (xCl : List vw_C) (D : va_G) (cA : Nat → ClassId) (ad : Nat → Nat) (hJ : f_J (mG xCl D cA ad)) (σ : fS) (v : Int) (hv : 0 ≤ v ∧ v ≤ 99999) (hn : 0 ≤ σ.1 0 16 ∧ σ.1 0 16 ≤ 900000) (hc : σ.1 0 17 = 0 ∨ σ.1 0 17 = 1) (hf : σ.1 0 17 = 0 → σ.1 0 16 + (dig v).length ≤ 12000) : f_M l (mG xCl D cA ad) mE yM_putNumber (Cond.code yM_putNumber cM_putNumber 3 none :: A9) 1 σ [.ref (ad 0), .int (fI v)] (f_QV (fun σ1 => σ1 = m_puts σ (dig v)) (mG xCl D cA ad)) := by
  refine f_enter (by decide +kernel) hJ rfl (Nat.le_of_ble_eq_true rfl) ?_
  intro z hzl hR C hRt hLk hEz
  subst hzl
  have L0 : ∀ σ1 : fS, σ1 = m_puts σ (dig v) → fv z (mG xCl D cA ad) 3 (f_R z (mG xCl D cA ad) (f_QV (fun σ1 => σ1 = m_puts σ (dig v)) (mG xCl D cA ad))) 0 0 σ1 18 [some (.ref (ad 0)), some (.int (fI v)), some (.int (fI 0))] [] := by
    intro σ1 h1
    refine v_iload_n C dM_putNumber_18 rfl rfl ?_
    refine v_if_le (tgt := 43) C dM_putNumber_19 (by decide) (by omega) (fun hc1 => ?_) (fun hc1 => ?_)
    · exact v_vret C hRt hLk dM_putNumber_43 h1
    · exfalso; omega
  have L1 : ∀ (j : Nat) (p : Int) (pre : List Int), p = 10 ^ j → 1 ≤ p → p ≤ 10000 → dig v = pre ++ dg j v → fv z (mG xCl D cA ad) 3 (f_R z (mG xCl D cA ad) (f_QV (fun σ1 => σ1 = m_puts σ (dig v)) (mG xCl D cA ad))) 0 0 (m_puts σ pre) 18 [some (.ref (ad 0)), some (.int (fI v)), some (.int (fI p))] [] := by
    intro j
    induction j with
    | zero =>
      intro p pre hp h1 h2 hpre
      have hlen := congrArg List.length hpre
      rw [List.length_append, dg_len] at hlen
      have hd1 : 0 ≤ v / p := Int.ediv_nonneg hv.1 (by omega)
      have hd2 : v / p ≤ v := Int.ediv_le_self p hv.1
      have hdl := dig_len v
      have hnx := m_puts_next σ pre
      have hct := m_puts_cnt σ pre
      have hp1 : p = 1 := hp
      refine v_iload_n C dM_putNumber_18 rfl rfl ?_
      refine v_if_le (tgt := 43) C dM_putNumber_19 (by decide) (by omega) (fun hc2 => ?_) (fun hc2 => ?_)
      · exfalso; omega
      · refine v_aload_n C dM_putNumber_22 rfl rfl ?_
        refine v_bipush C dM_putNumber_23 (by decide +kernel) ?_
        refine v_iload_n C dM_putNumber_25 rfl rfl ?_
        refine v_iload_n C dM_putNumber_26 rfl rfl ?_
        refine v_idiv C dM_putNumber_27 (by omega) (by omega) ?_
        refine v_bipush C dM_putNumber_28 (by decide +kernel) ?_
        refine v_irem C dM_putNumber_30 (by omega) (by omega) ?_
        refine v_iadd C dM_putNumber_31 ?_
        refine v_cVV (k := 0) (n := 1) C (mE_ok _) trivial hR (kM_put _ xCl D cA ad hJ (m_puts σ pre) ((48 + ((v / p) % 10))) (by omega) (by omega) (by omega) (by omega)) dM_putNumber_32 (by show (0 : Nat) < 18; decide) rfl rfl gM_85 (by decide +kernel) (by decide) (by decide) rfl (Nat.le_of_ble_eq_true rfl) rfl ⟨rfl, rfl⟩ (fun σ1 hp1 => ?_)
        subst σ1
        refine v_iload_n C dM_putNumber_35 rfl rfl ?_
        refine v_bipush C dM_putNumber_36 (by decide +kernel) ?_
        refine v_idiv C dM_putNumber_38 (by omega) (by omega) ?_
        refine v_top (b := 0) (by omega) ?_
        refine v_istore_n C dM_putNumber_39 rfl (by decide) ?_
        refine v_goto (tgt := 18) C dM_putNumber_40 (by decide) ?_
        exact L0 _ (by rw [hpre, m_puts_app, hp1]; simp [dg, m_puts])
    | succ j ih =>
      intro p pre hp h1 h2 hpre
      have hlen := congrArg List.length hpre
      rw [List.length_append, dg_len] at hlen
      have hd1 : 0 ≤ v / p := Int.ediv_nonneg hv.1 (by omega)
      have hd2 : v / p ≤ v := Int.ediv_le_self p hv.1
      have hdl := dig_len v
      have hnx := m_puts_next σ pre
      have hct := m_puts_cnt σ pre
      have hp1 : p = 10 ^ j * 10 := by rw [hp, Int.pow_succ]
      refine v_iload_n C dM_putNumber_18 rfl rfl ?_
      refine v_if_le (tgt := 43) C dM_putNumber_19 (by decide) (by omega) (fun hc3 => ?_) (fun hc3 => ?_)
      · exfalso; omega
      · refine v_aload_n C dM_putNumber_22 rfl rfl ?_
        refine v_bipush C dM_putNumber_23 (by decide +kernel) ?_
        refine v_iload_n C dM_putNumber_25 rfl rfl ?_
        refine v_iload_n C dM_putNumber_26 rfl rfl ?_
        refine v_idiv C dM_putNumber_27 (by omega) (by omega) ?_
        refine v_bipush C dM_putNumber_28 (by decide +kernel) ?_
        refine v_irem C dM_putNumber_30 (by omega) (by omega) ?_
        refine v_iadd C dM_putNumber_31 ?_
        refine v_cVV (k := 0) (n := 1) C (mE_ok _) trivial hR (kM_put _ xCl D cA ad hJ (m_puts σ pre) ((48 + ((v / p) % 10))) (by omega) (by omega) (by omega) (by omega)) dM_putNumber_32 (by show (0 : Nat) < 18; decide) rfl rfl gM_85 (by decide +kernel) (by decide) (by decide) rfl (Nat.le_of_ble_eq_true rfl) rfl ⟨rfl, rfl⟩ (fun σ1 hp1 => ?_)
        subst σ1
        refine v_iload_n C dM_putNumber_35 rfl rfl ?_
        refine v_bipush C dM_putNumber_36 (by decide +kernel) ?_
        refine v_idiv C dM_putNumber_38 (by omega) (by omega) ?_
        refine v_top (b := 10 ^ j) (by omega) ?_
        refine v_istore_n C dM_putNumber_39 rfl (by decide) ?_
        refine v_goto (tgt := 18) C dM_putNumber_40 (by decide) ?_
        exact v_st (by rw [m_puts_app]; rfl) (ih (10 ^ j) (pre ++ [48 + v / p % 10]) rfl (by omega) (by omega) (by rw [hpre, hp]; simp [dg]))
  have L2 : ∀ (k j : Nat) (p : Int), p = 10 ^ j → 1 ≤ p → j + k = dl v → fv z (mG xCl D cA ad) 3 (f_R z (mG xCl D cA ad) (f_QV (fun σ1 => σ1 = m_puts σ (dig v)) (mG xCl D cA ad))) 0 0 σ 2 [some (.ref (ad 0)), some (.int (fI v)), some (.int (fI p))] [] := by
    intro k
    induction k with
    | zero =>
      intro j p hp h1 hj
      have h4 := dl_4 v
      have hd1 : 0 ≤ v / p := Int.ediv_nonneg hv.1 (by omega)
      have hd2 : v / p ≤ v := Int.ediv_le_self p hv.1
      have hp4 : p ≤ 10000 := by rw [hp]; exact pow10_4 (by omega)
      have hle : v / p ≤ 9 := by rw [hp, show j = dl v by omega]; exact dl_le hv
      refine v_iload_n C dM_putNumber_2 rfl rfl ?_
      refine v_iload_n C dM_putNumber_3 rfl rfl ?_
      refine v_idiv C dM_putNumber_4 (by omega) (by omega) ?_
      refine v_bipush C dM_putNumber_5 (by decide +kernel) ?_
      refine v_icmp_le (tgt := 18) C dM_putNumber_7 (by decide) (by omega) (by omega) (fun hc4 => ?_) (fun hc4 => ?_)
      · exact L1 j p [] hp h1 hp4 (by rw [show j = dl v by omega]; rfl)
      · exfalso; omega
    | succ k ih =>
      intro j p hp h1 hj
      have h4 := dl_4 v
      have hd1 : 0 ≤ v / p := Int.ediv_nonneg hv.1 (by omega)
      have hd2 : v / p ≤ v := Int.ediv_le_self p hv.1
      have hp4 : p ≤ 10000 := by rw [hp]; exact pow10_4 (by omega)
      have hgt : 9 < v / p := by rw [hp]; exact dl_gt (by omega)
      refine v_iload_n C dM_putNumber_2 rfl rfl ?_
      refine v_iload_n C dM_putNumber_3 rfl rfl ?_
      refine v_idiv C dM_putNumber_4 (by omega) (by omega) ?_
      refine v_bipush C dM_putNumber_5 (by decide +kernel) ?_
      refine v_icmp_le (tgt := 18) C dM_putNumber_7 (by decide) (by omega) (by omega) (fun hc5 => ?_) (fun hc5 => ?_)
      · exfalso; omega
      · refine v_iload_n C dM_putNumber_10 rfl rfl ?_
        refine v_bipush C dM_putNumber_11 (by decide +kernel) ?_
        refine v_imul C dM_putNumber_13 ?_
        refine v_istore_n C dM_putNumber_14 rfl (by decide) ?_
        refine v_goto (tgt := 2) C dM_putNumber_15 (by decide) ?_
        exact ih (j + 1) (p * 10) (by rw [hp, Int.pow_succ]) (by omega) (by omega)
  refine v_iconst C dM_putNumber_0 ?_
  refine v_istore_n C dM_putNumber_1 rfl (by decide) ?_
  exact L2 (dl v) 0 1 rfl (by omega) (by omega)
/-- the line of a letter and a number -/
def m_tell (c v : Int) : List Int := [c, 32] ++ dig v ++ [10]
theorem m_tell_len (c v : Int) : 4 ≤ (m_tell c v).length ∧ (m_tell c v).length ≤ 8 := by
  have := dig_len v
  unfold m_tell
  simp
  omega
/-- a row of object n -/
def m_row (σ : fS) (n : Int) : List Int := dig n ++ [32] ++ (if σ.2 1 n.toNat = 1 then dig (σ.2 13 n.toNat) else [45]) ++ [10]
theorem m_row_len (σ : fS) (n : Int) : 4 ≤ (m_row σ n).length ∧ (m_row σ n).length ≤ 12 := by
  have h1 := dig_len n
  have h2 := dig_len (σ.2 13 n.toNat)
  unfold m_row
  split <;> simp <;> omega
theorem m_row_eq (σ : fS) (n : Int) (h : 0 ≤ σ.2 1 n.toNat ∧ σ.2 1 n.toNat ≤ 1) : (σ.2 1 n.toNat = 1 ∧ (m_row σ n).length = (dig n).length + 2 + (dig (σ.2 13 n.toNat)).length) ∨ (σ.2 1 n.toNat = 0 ∧ (m_row σ n).length = (dig n).length + 3) := by
  unfold m_row
  by_cases h1 : σ.2 1 n.toNat = 1
  · refine Or.inl ⟨h1, ?_⟩
    rw [if_pos h1]
    simp
    omega
  · refine Or.inr ⟨by omega, ?_⟩
    rw [if_neg h1]
    simp
set_option maxRecDepth 100000 in
set_option maxHeartbeats 4000000 in
/-- putTold(letter, v) -/
theorem kM_putTold (l : Launch) (xCl : List vw_C) (D : va_G) (cA : Nat → ClassId) (ad : Nat → Nat) (hJ : f_J (mG xCl D cA ad)) (σ : fS) (c v : Int) (hb : -128 ≤ c ∧ c ≤ 127) (hv : 0 ≤ v ∧ v ≤ 99999) (hn : 0 ≤ σ.1 0 16 ∧ σ.1 0 16 ≤ 800000) (hc : σ.1 0 17 = 0 ∨ σ.1 0 17 = 1) (hf : σ.1 0 17 = 0 → σ.1 0 16 + ((dig v).length + 3) ≤ 12000) : f_M l (mG xCl D cA ad) mE yM_putTold (Cond.code yM_putTold cM_putTold 3 none :: A9) 2 σ [.ref (ad 0), .int (fI c), .int (fI v)] (f_QV (fun σ1 => σ1 = m_puts σ (m_tell c v)) (mG xCl D cA ad)) := by
  refine f_enter (by decide +kernel) hJ rfl (Nat.le_of_ble_eq_true rfl) ?_
  intro z hzl hR C hRt hLk hEz
  subst hzl
  refine v_st (σ1 := m_puts σ []) rfl ?_
  have hdv := dig_len v
  refine v_aload_n C dM_putTold_0 rfl rfl ?_
  refine v_iload_n C dM_putTold_1 rfl rfl ?_
  have hx1 := m_puts_next σ ([])
  try simp only [List.length_append, List.length_cons, List.length_nil, List.length_map, List.length_range] at hx1
  have hy2 := m_puts_cnt σ ([])
  refine v_cVV (k := 0) (n := 1) C (mE_ok _) trivial hR (kM_put _ xCl D cA ad hJ (m_puts σ ([])) (c) (by omega) (by omega) (by omega) (by omega)) dM_putTold_2 (by show (0 : Nat) < 18; decide) rfl rfl gM_85 (by decide +kernel) (by decide) (by decide) rfl (Nat.le_of_ble_eq_true rfl) rfl ⟨rfl, rfl⟩ (fun σ1 hp1 => ?_)
  subst σ1
  refine v_st (σ1 := m_puts σ ([c])) (rfl) ?_
  refine v_aload_n C dM_putTold_5 rfl rfl ?_
  refine v_bipush C dM_putTold_6 (by decide +kernel) ?_
  have hx3 := m_puts_next σ ([c])
  try simp only [List.length_append, List.length_cons, List.length_nil, List.length_map, List.length_range] at hx3
  have hy4 := m_puts_cnt σ ([c])
  refine v_cVV (k := 0) (n := 1) C (mE_ok _) trivial hR (kM_put _ xCl D cA ad hJ (m_puts σ ([c])) (32) (by omega) (by omega) (by omega) (by omega)) dM_putTold_8 (by show (0 : Nat) < 18; decide) rfl rfl gM_85 (by decide +kernel) (by decide) (by decide) rfl (Nat.le_of_ble_eq_true rfl) rfl ⟨rfl, rfl⟩ (fun σ1 hp1 => ?_)
  subst σ1
  refine v_st (σ1 := m_puts σ ([c] ++ [32])) (m_puts_snoc _ _ _) ?_
  refine v_aload_n C dM_putTold_11 rfl rfl ?_
  refine v_iload_n C dM_putTold_12 rfl rfl ?_
  have hx5 := m_puts_next σ ([c] ++ [32])
  try simp only [List.length_append, List.length_cons, List.length_nil, List.length_map, List.length_range] at hx5
  have hy6 := m_puts_cnt σ ([c] ++ [32])
  have hw7 := dig_len (v)
  refine v_cVV (k := 0) (n := 1) C (mE_ok _) trivial hR (kM_putNumber _ xCl D cA ad hJ (m_puts σ ([c] ++ [32])) (v) (by omega) (by omega) (by omega) (by omega)) dM_putTold_13 (by show (0 : Nat) < 18; decide) rfl rfl gM_89 (by decide +kernel) (by decide) (by decide) rfl (Nat.le_of_ble_eq_true rfl) rfl ⟨rfl, rfl⟩ (fun σ1 hp1 => ?_)
  subst σ1
  refine v_st (σ1 := m_puts σ ([c] ++ [32] ++ dig (v))) ((m_puts_app _ _ _).symm) ?_
  refine v_aload_n C dM_putTold_16 rfl rfl ?_
  refine v_bipush C dM_putTold_17 (by decide +kernel) ?_
  have hx8 := m_puts_next σ ([c] ++ [32] ++ dig (v))
  try simp only [List.length_append, List.length_cons, List.length_nil, List.length_map, List.length_range] at hx8
  have hy9 := m_puts_cnt σ ([c] ++ [32] ++ dig (v))
  refine v_cVV (k := 0) (n := 1) C (mE_ok _) trivial hR (kM_put _ xCl D cA ad hJ (m_puts σ ([c] ++ [32] ++ dig (v))) (10) (by omega) (by omega) (by omega) (by omega)) dM_putTold_19 (by show (0 : Nat) < 18; decide) rfl rfl gM_85 (by decide +kernel) (by decide) (by decide) rfl (Nat.le_of_ble_eq_true rfl) rfl ⟨rfl, rfl⟩ (fun σ1 hp1 => ?_)
  subst σ1
  refine v_st (σ1 := m_puts σ ([c] ++ [32] ++ dig (v) ++ [10])) (m_puts_snoc _ _ _) ?_
  exact v_vret C hRt hLk dM_putTold_22 (by unfold m_tell; simp)
set_option maxRecDepth 100000 in
set_option maxHeartbeats 4000000 in
/-- putRow(n) -/
theorem kM_putRow (l : Launch) (xCl : List vw_C) (D : va_G) (cA : Nat → ClassId) (ad : Nat → Nat) (hJ : f_J (mG xCl D cA ad)) (σ : fS) (n : Int) (hn1 : 1 ≤ n ∧ n ≤ 40) (hT : ∀ i, 0 ≤ σ.2 1 i ∧ σ.2 1 i ≤ 1) (hA : ∀ i, 0 ≤ σ.2 13 i ∧ σ.2 13 i ≤ 99999) (hn : 0 ≤ σ.1 0 16 ∧ σ.1 0 16 ≤ 800000) (hc : σ.1 0 17 = 0 ∨ σ.1 0 17 = 1) (hf : σ.1 0 17 = 0 → σ.1 0 16 + (m_row σ n).length ≤ 12000) : f_M l (mG xCl D cA ad) mE yM_putRow (Cond.code yM_putRow cM_putRow 2 none :: A9) 2 σ [.ref (ad 0), .int (fI n)] (f_QV (fun σ1 => σ1 = m_puts σ (m_row σ n)) (mG xCl D cA ad)) := by
  refine f_enter (by decide +kernel) hJ rfl (Nat.le_of_ble_eq_true rfl) ?_
  intro z hzl hR C hRt hLk hEz
  subst hzl
  refine v_st (σ1 := m_puts σ []) rfl ?_
  have hdn := dig_len n
  have hdr := dig_len (σ.2 13 n.toNat)
  have hT1 := hT n.toNat
  have hA1 := hA n.toNat
  have hrl := m_row_eq σ n hT1
  refine v_aload_n C dM_putRow_0 rfl rfl ?_
  refine v_iload_n C dM_putRow_1 rfl rfl ?_
  have hx1 := m_puts_next σ ([])
  try simp only [List.length_append, List.length_cons, List.length_nil, List.length_map, List.length_range] at hx1
  have hy2 := m_puts_cnt σ ([])
  have hw3 := dig_len (n)
  refine v_cVV (k := 0) (n := 1) C (mE_ok _) trivial hR (kM_putNumber _ xCl D cA ad hJ (m_puts σ ([])) (n) (by omega) (by omega) (by omega) (by omega)) dM_putRow_2 (by show (0 : Nat) < 18; decide) rfl rfl gM_89 (by decide +kernel) (by decide) (by decide) rfl (Nat.le_of_ble_eq_true rfl) rfl ⟨rfl, rfl⟩ (fun σ1 hp1 => ?_)
  subst σ1
  refine v_st (σ1 := m_puts σ (dig (n))) (rfl) ?_
  refine v_aload_n C dM_putRow_5 rfl rfl ?_
  refine v_bipush C dM_putRow_6 (by decide +kernel) ?_
  have hx4 := m_puts_next σ (dig (n))
  try simp only [List.length_append, List.length_cons, List.length_nil, List.length_map, List.length_range] at hx4
  have hy5 := m_puts_cnt σ (dig (n))
  refine v_cVV (k := 0) (n := 1) C (mE_ok _) trivial hR (kM_put _ xCl D cA ad hJ (m_puts σ (dig (n))) (32) (by omega) (by omega) (by omega) (by omega)) dM_putRow_8 (by show (0 : Nat) < 18; decide) rfl rfl gM_85 (by decide +kernel) (by decide) (by decide) rfl (Nat.le_of_ble_eq_true rfl) rfl ⟨rfl, rfl⟩ (fun σ1 hp1 => ?_)
  subst σ1
  refine v_st (σ1 := m_puts σ (dig (n) ++ [32])) (m_puts_snoc _ _ _) ?_
  refine v_aload_n C dM_putRow_11 rfl rfl ?_
  refine v_getR (k := 0) (q := 1) C dM_putRow_12 (by show (0 : Nat) < 18; decide) rfl rfl (by decide) rfl inM lM_7 rfl ?_
  refine v_iload_n C dM_putRow_15 rfl rfl ?_
  refine v_zald (k := 1) (v := σ.2 1 (n).toNat) C dM_putRow_16 (by show (1 : Nat) < 18; decide) rfl rfl (by omega) (by decide) (m_puts_2 _ _ _ _ (by decide)) ?_
  refine v_if_eq (tgt := 33) C dM_putRow_17 (by decide) (by omega) (fun hc6 => ?_) (fun hc6 => ?_)
  · refine v_aload_n C dM_putRow_33 rfl rfl ?_
    refine v_bipush C dM_putRow_34 (by decide +kernel) ?_
    have hx7 := m_puts_next σ (dig (n) ++ [32])
    try simp only [List.length_append, List.length_cons, List.length_nil, List.length_map, List.length_range] at hx7
    have hy8 := m_puts_cnt σ (dig (n) ++ [32])
    refine v_cVV (k := 0) (n := 1) C (mE_ok _) trivial hR (kM_put _ xCl D cA ad hJ (m_puts σ (dig (n) ++ [32])) (45) (by omega) (by omega) (by omega) (by omega)) dM_putRow_36 (by show (0 : Nat) < 18; decide) rfl rfl gM_85 (by decide +kernel) (by decide) (by decide) rfl (Nat.le_of_ble_eq_true rfl) rfl ⟨rfl, rfl⟩ (fun σ1 hp1 => ?_)
    subst σ1
    refine v_st (σ1 := m_puts σ (dig (n) ++ [32] ++ [45])) (m_puts_snoc _ _ _) ?_
    refine v_aload_n C dM_putRow_39 rfl rfl ?_
    refine v_bipush C dM_putRow_40 (by decide +kernel) ?_
    have hx9 := m_puts_next σ (dig (n) ++ [32] ++ [45])
    try simp only [List.length_append, List.length_cons, List.length_nil, List.length_map, List.length_range] at hx9
    have hy10 := m_puts_cnt σ (dig (n) ++ [32] ++ [45])
    refine v_cVV (k := 0) (n := 1) C (mE_ok _) trivial hR (kM_put _ xCl D cA ad hJ (m_puts σ (dig (n) ++ [32] ++ [45])) (10) (by omega) (by omega) (by omega) (by omega)) dM_putRow_42 (by show (0 : Nat) < 18; decide) rfl rfl gM_85 (by decide +kernel) (by decide) (by decide) rfl (Nat.le_of_ble_eq_true rfl) rfl ⟨rfl, rfl⟩ (fun σ1 hp1 => ?_)
    subst σ1
    refine v_st (σ1 := m_puts σ (dig (n) ++ [32] ++ [45] ++ [10])) (m_puts_snoc _ _ _) ?_
    exact v_vret C hRt hLk dM_putRow_45 (by unfold m_row; first | (rw [if_pos (by omega)]; done) | (rw [if_pos (by omega)]; simp; done) | (rw [if_neg (by omega)]; done) | (rw [if_neg (by omega)]; simp; done))
  · refine v_aload_n C dM_putRow_20 rfl rfl ?_
    refine v_aload_n C dM_putRow_21 rfl rfl ?_
    refine v_getR (k := 0) (q := 18) C dM_putRow_22 (by show (0 : Nat) < 18; decide) rfl rfl (by decide) rfl inM lM_48 rfl ?_
    refine v_iload_n C dM_putRow_25 rfl rfl ?_
    refine v_iald (k := 13) (v := σ.2 13 (n).toNat) C dM_putRow_26 (by show (13 : Nat) < 18; decide) rfl rfl (by omega) (by decide) (m_puts_2 _ _ _ _ (by decide)) ?_
    have hx11 := m_puts_next σ (dig (n) ++ [32])
    try simp only [List.length_append, List.length_cons, List.length_nil, List.length_map, List.length_range] at hx11
    have hy12 := m_puts_cnt σ (dig (n) ++ [32])
    have hw13 := dig_len (σ.2 13 (n).toNat)
    refine v_cVV (k := 0) (n := 1) C (mE_ok _) trivial hR (kM_putNumber _ xCl D cA ad hJ (m_puts σ (dig (n) ++ [32])) (σ.2 13 (n).toNat) (by omega) (by omega) (by omega) (by omega)) dM_putRow_27 (by show (0 : Nat) < 18; decide) rfl rfl gM_89 (by decide +kernel) (by decide) (by decide) rfl (Nat.le_of_ble_eq_true rfl) rfl ⟨rfl, rfl⟩ (fun σ1 hp1 => ?_)
    subst σ1
    refine v_st (σ1 := m_puts σ (dig (n) ++ [32] ++ dig (σ.2 13 (n).toNat))) ((m_puts_app _ _ _).symm) ?_
    refine v_goto (tgt := 39) C dM_putRow_30 (by decide) ?_
    refine v_aload_n C dM_putRow_39 rfl rfl ?_
    refine v_bipush C dM_putRow_40 (by decide +kernel) ?_
    have hx14 := m_puts_next σ (dig (n) ++ [32] ++ dig (σ.2 13 (n).toNat))
    try simp only [List.length_append, List.length_cons, List.length_nil, List.length_map, List.length_range] at hx14
    have hy15 := m_puts_cnt σ (dig (n) ++ [32] ++ dig (σ.2 13 (n).toNat))
    refine v_cVV (k := 0) (n := 1) C (mE_ok _) trivial hR (kM_put _ xCl D cA ad hJ (m_puts σ (dig (n) ++ [32] ++ dig (σ.2 13 (n).toNat))) (10) (by omega) (by omega) (by omega) (by omega)) dM_putRow_42 (by show (0 : Nat) < 18; decide) rfl rfl gM_85 (by decide +kernel) (by decide) (by decide) rfl (Nat.le_of_ble_eq_true rfl) rfl ⟨rfl, rfl⟩ (fun σ1 hp1 => ?_)
    subst σ1
    refine v_st (σ1 := m_puts σ (dig (n) ++ [32] ++ dig (σ.2 13 (n).toNat) ++ [10])) (m_puts_snoc _ _ _) ?_
    exact v_vret C hRt hLk dM_putRow_45 (by unfold m_row; first | (rw [if_pos (by omega)]; done) | (rw [if_pos (by omega)]; simp; done) | (rw [if_neg (by omega)]; done) | (rw [if_neg (by omega)]; simp; done))
end
section
/-- contracts may be weakened -/
theorem f_weakI {l : Launch} {G : fG} {E : Nat → State → Prop} {y : MethodName} {ws : List Cond} {d : Nat} {σ : fS} {av : List Value} {p q : Int → fS → Prop} (h : f_M l G E y ws d σ av (f_QI p G)) (hpq : ∀ r σ1, p r σ1 → q r σ1) : f_M l G E y ws d σ av (f_QI q G) := by
  intro sz p e ha hc hk s m args below hf happ hP hK
  obtain ⟨n, o, h1, h2, h3, h4⟩ := h sz p e ha hc hk s m args below hf happ hP hK
  obtain ⟨⟨⟨r, u, g1, ⟨g2, g3⟩, g4⟩, g5⟩, g6⟩ := h4
  exact ⟨n, o, h1, h2, h3, ⟨⟨⟨r, u, g1, ⟨g2, hpq _ _ g3⟩, g4⟩, g5⟩, g6⟩⟩
theorem kM_isObject2 (l : Launch) (xCl : List vw_C) (D : va_G) (cA : Nat → ClassId) (ad : Nat → Nat) (hJ : f_J (mG xCl D cA ad)) (σ : fS) (n : Int) (hn : -2147483648 ≤ n ∧ n ≤ 2147483647) : f_M l (mG xCl D cA ad) mE yM_isObject (Cond.code yM_isObject cM_isObject 1 (some .boolean) :: A9) 0 σ [.int (fI n)] (f_QI (fun r σ1 => ((1 ≤ n ∧ n ≤ 40) ∧ r = 1 ∧ σ1 = σ) ∨ (¬ (1 ≤ n ∧ n ≤ 40) ∧ r = 0 ∧ σ1 = σ)) (mG xCl D cA ad)) :=
  f_weakI (kM_isObject l xCl D cA ad hJ σ n hn) (fun r σ1 h => by
    obtain ⟨h1, h2⟩ := h
    by_cases hc : 1 ≤ n ∧ n ≤ 40
    · rw [if_pos hc] at h1; exact Or.inl ⟨hc, h1, h2⟩
    · rw [if_neg hc] at h1; exact Or.inr ⟨hc, h1, h2⟩)
set_option maxRecDepth 100000 in
set_option maxHeartbeats 4000000 in
/-- isMeant(n, whole) -/
theorem kM_isMeant (l : Launch) (xCl : List vw_C) (D : va_G) (cA : Nat → ClassId) (ad : Nat → Nat) (hJ : f_J (mG xCl D cA ad)) (σ : fS) (n w : Int) (hn : 1 ≤ n ∧ n ≤ 40) (hw : w = 0 ∨ w = 1) (h1 : ∀ i, 0 ≤ σ.2 1 i ∧ σ.2 1 i ≤ 1) (h3 : ∀ i, 0 ≤ σ.2 3 i ∧ σ.2 3 i ≤ 1) : f_M l (mG xCl D cA ad) mE yM_isMeant (Cond.code yM_isMeant cM_isMeant 3 (some .boolean) :: A9) 0 σ [.ref (ad 0), .int (fI n), .int (fI w)] (f_QI (fun r σ1 => (w = 1 ∧ r = σ.2 1 n.toNat ∧ σ1 = σ) ∨ (w = 0 ∧ r = σ.2 3 n.toNat ∧ σ1 = σ)) (mG xCl D cA ad)) := by
  refine f_enter (by decide +kernel) hJ rfl (Nat.le_of_ble_eq_true rfl) ?_
  intro z hzl hR C hRt hLk hEz
  subst hzl
  refine v_iload_n C dM_isMeant_0 rfl rfl ?_
  refine v_if_eq (tgt := 13) C dM_isMeant_1 (by decide) (by omega) (fun hc1 => ?_) (fun hc1 => ?_)
  · refine v_aload_n C dM_isMeant_13 rfl rfl ?_
    refine v_getR (k := 0) (q := 3) C dM_isMeant_14 (by show (0 : Nat) < 18; decide) rfl rfl (by decide) rfl inM lM_16 rfl ?_
    refine v_iload_n C dM_isMeant_17 rfl rfl ?_
    have hb2 := h3 (n).toNat
    refine v_zald (k := 3) (v := σ.2 3 (n).toNat) C dM_isMeant_18 (by show (3 : Nat) < 18; decide) rfl rfl (by omega) (by decide) rfl ?_
    exact v_zret C hRt hLk dM_isMeant_19 (fN_bool (by omega)) (by first | exact Or.inl ⟨by omega, rfl, rfl⟩ | exact Or.inr ⟨by omega, rfl, rfl⟩)
  · refine v_aload_n C dM_isMeant_4 rfl rfl ?_
    refine v_getR (k := 0) (q := 1) C dM_isMeant_5 (by show (0 : Nat) < 18; decide) rfl rfl (by decide) rfl inM lM_7 rfl ?_
    refine v_iload_n C dM_isMeant_8 rfl rfl ?_
    have hb3 := h1 (n).toNat
    refine v_zald (k := 1) (v := σ.2 1 (n).toNat) C dM_isMeant_9 (by show (1 : Nat) < 18; decide) rfl rfl (by omega) (by decide) rfl ?_
    refine v_goto (tgt := 19) C dM_isMeant_10 (by decide) ?_
    exact v_zret C hRt hLk dM_isMeant_19 (fN_bool (by omega)) (by first | exact Or.inl ⟨by omega, rfl, rfl⟩ | exact Or.inr ⟨by omega, rfl, rfl⟩)
set_option maxRecDepth 100000 in
set_option maxHeartbeats 4000000 in
/-- wrong(at) -/
theorem kM_wrong (l : Launch) (xCl : List vw_C) (D : va_G) (cA : Nat → ClassId) (ad : Nat → Nat) (hJ : f_J (mG xCl D cA ad)) (σ : fS) (a : Int) : f_M l (mG xCl D cA ad) mE yM_wrong (Cond.code yM_wrong cM_wrong 2 (some .boolean) :: A9) 0 σ [.ref (ad 0), .int (fI a)] (f_QI (fun r σ1 => r = 0 ∧ σ1 = f_p1 σ 0 23 a) (mG xCl D cA ad)) := by
  refine f_enter (by decide +kernel) hJ rfl (Nat.le_of_ble_eq_true rfl) ?_
  intro z hzl hR C hRt hLk hEz
  subst hzl
  refine v_aload_n C dM_wrong_0 rfl rfl ?_
  refine v_iload_n C dM_wrong_1 rfl rfl ?_
  refine v_putI (k := 0) (q := 23) C dM_wrong_2 (by show (0 : Nat) < 18; decide) rfl rfl (by decide) rfl inM tyM_ok nmM lM_166 rfl rfl rfl rfl rfl ?_
  refine v_iconst C dM_wrong_5 ?_
  exact v_zret C hRt hLk dM_wrong_6 (fN_bool (by omega)) ⟨rfl, rfl⟩
set_option maxRecDepth 100000 in
set_option maxHeartbeats 4000000 in
/-- isRevision(r) -/
theorem kM_isRevision (l : Launch) (xCl : List vw_C) (D : va_G) (cA : Nat → ClassId) (ad : Nat → Nat) (hJ : f_J (mG xCl D cA ad)) (σ : fS) (a : Int) (ha : -2147483648 ≤ a ∧ a ≤ 2147483647) (hr : 0 ≤ σ.1 0 10 ∧ σ.1 0 10 ≤ 60) : f_M l (mG xCl D cA ad) mE yM_isRevision (Cond.code yM_isRevision cM_isRevision 2 (some .boolean) :: A9) 0 σ [.ref (ad 0), .int (fI a)] (f_QI (fun r σ1 => ((0 ≤ a ∧ a < σ.1 0 10) ∧ r = 1 ∧ σ1 = f_p1 σ 0 0 0) ∨ (¬ (0 ≤ a ∧ a < σ.1 0 10) ∧ r = 0 ∧ σ1 = f_p1 σ 0 0 1)) (mG xCl D cA ad)) := by
  refine f_enter (by decide +kernel) hJ rfl (Nat.le_of_ble_eq_true rfl) ?_
  intro z hzl hR C hRt hLk hEz
  subst hzl
  refine v_aload_n C dM_isRevision_0 rfl rfl ?_
  refine v_iload_n C dM_isRevision_1 rfl rfl ?_
  refine v_if_lt (tgt := 13) C dM_isRevision_2 (by decide) (by omega) (fun hc1 => ?_) (fun hc1 => ?_)
  · refine v_iconst C dM_isRevision_13 ?_
    refine v_goto (tgt := 18) C dM_isRevision_14 (by decide) ?_
    refine v_putI (k := 0) (q := 0) C dM_isRevision_18 (by show (0 : Nat) < 18; decide) rfl rfl (by decide) rfl inM tyM_ok nmM lM_63 rfl rfl rfl rfl rfl ?_
    refine v_aload_n C dM_isRevision_21 rfl rfl ?_
    refine v_getI (k := 0) (q := 0) (v := 1) C dM_isRevision_22 (by show (0 : Nat) < 18; decide) rfl rfl (by decide) rfl inM lM_63 rfl rfl ?_
    refine v_if_ne (tgt := 32) C dM_isRevision_25 (by decide) (by omega) (fun hc2 => ?_) (fun hc2 => ?_)
    · refine v_iconst C dM_isRevision_32 ?_
      exact v_zret C hRt hLk dM_isRevision_33 (fN_bool (by omega)) (by first | exact Or.inl ⟨by omega, rfl, rfl⟩ | exact Or.inr ⟨by omega, rfl, rfl⟩)
    · exfalso; omega
  · refine v_iload_n C dM_isRevision_5 rfl rfl ?_
    refine v_aload_n C dM_isRevision_6 rfl rfl ?_
    refine v_getI (k := 0) (q := 10) (v := σ.1 0 10) C dM_isRevision_7 (by show (0 : Nat) < 18; decide) rfl rfl (by decide) rfl inM lM_110 rfl rfl ?_
    refine v_icmp_lt (tgt := 17) C dM_isRevision_10 (by decide) (by omega) (by omega) (fun hc3 => ?_) (fun hc3 => ?_)
    · refine v_iconst C dM_isRevision_17 ?_
      refine v_putI (k := 0) (q := 0) C dM_isRevision_18 (by show (0 : Nat) < 18; decide) rfl rfl (by decide) rfl inM tyM_ok nmM lM_63 rfl rfl rfl rfl rfl ?_
      refine v_aload_n C dM_isRevision_21 rfl rfl ?_
      refine v_getI (k := 0) (q := 0) (v := 0) C dM_isRevision_22 (by show (0 : Nat) < 18; decide) rfl rfl (by decide) rfl inM lM_63 rfl rfl ?_
      refine v_if_ne (tgt := 32) C dM_isRevision_25 (by decide) (by omega) (fun hc4 => ?_) (fun hc4 => ?_)
      · exfalso; omega
      · refine v_iconst C dM_isRevision_28 ?_
        refine v_goto (tgt := 33) C dM_isRevision_29 (by decide) ?_
        exact v_zret C hRt hLk dM_isRevision_33 (fN_bool (by omega)) (by first | exact Or.inl ⟨by omega, rfl, rfl⟩ | exact Or.inr ⟨by omega, rfl, rfl⟩)
    · refine v_iconst C dM_isRevision_13 ?_
      refine v_goto (tgt := 18) C dM_isRevision_14 (by decide) ?_
      refine v_putI (k := 0) (q := 0) C dM_isRevision_18 (by show (0 : Nat) < 18; decide) rfl rfl (by decide) rfl inM tyM_ok nmM lM_63 rfl rfl rfl rfl rfl ?_
      refine v_aload_n C dM_isRevision_21 rfl rfl ?_
      refine v_getI (k := 0) (q := 0) (v := 1) C dM_isRevision_22 (by show (0 : Nat) < 18; decide) rfl rfl (by decide) rfl inM lM_63 rfl rfl ?_
      refine v_if_ne (tgt := 32) C dM_isRevision_25 (by decide) (by omega) (fun hc5 => ?_) (fun hc5 => ?_)
      · refine v_iconst C dM_isRevision_32 ?_
        exact v_zret C hRt hLk dM_isRevision_33 (fN_bool (by omega)) (by first | exact Or.inl ⟨by omega, rfl, rfl⟩ | exact Or.inr ⟨by omega, rfl, rfl⟩)
      · exfalso; omega
set_option maxRecDepth 100000 in
set_option maxHeartbeats 4000000 in
/-- poke(i, b) -/
theorem kM_poke (l : Launch) (xCl : List vw_C) (D : va_G) (cA : Nat → ClassId) (ad : Nat → Nat) (hJ : f_J (mG xCl D cA ad)) (σ : fS) (i b : Int) (hi : -2147483648 ≤ i ∧ i ≤ 2147483647) (hb : -128 ≤ b ∧ b ≤ 127) (hz : 0 ≤ σ.1 0 7 ∧ σ.1 0 7 ≤ 12000) (h7 : ∀ i, -128 ≤ σ.2 7 i ∧ σ.2 7 i ≤ 127) : f_M l (mG xCl D cA ad) mE yM_poke (Cond.code yM_poke cM_poke 4 (some .byte) :: A9) 0 σ [.ref (ad 0), .int (fI i), .int (fI b)] (f_QI (fun r σ1 => ((0 ≤ i ∧ i < σ.1 0 7) ∧ r = σ.2 7 i.toNat ∧ σ1 = f_p1 (f_p2 (f_p1 σ 0 0 0) 7 i.toNat b) 0 9 1) ∨ (¬ (0 ≤ i ∧ i < σ.1 0 7) ∧ r = 0 ∧ σ1 = f_p1 σ 0 0 1)) (mG xCl D cA ad)) := by
  refine f_enter (by decide +kernel) hJ rfl (Nat.le_of_ble_eq_true rfl) ?_
  intro z hzl hR C hRt hLk hEz
  subst hzl
  refine v_aload_n C dM_poke_0 rfl rfl ?_
  refine v_iload_n C dM_poke_1 rfl rfl ?_
  refine v_if_lt (tgt := 13) C dM_poke_2 (by decide) (by omega) (fun hc1 => ?_) (fun hc1 => ?_)
  · refine v_iconst C dM_poke_13 ?_
    refine v_goto (tgt := 18) C dM_poke_14 (by decide) ?_
    refine v_putI (k := 0) (q := 0) C dM_poke_18 (by show (0 : Nat) < 18; decide) rfl rfl (by decide) rfl inM tyM_ok nmM lM_63 rfl rfl rfl rfl rfl ?_
    refine v_aload_n C dM_poke_21 rfl rfl ?_
    refine v_getI (k := 0) (q := 0) (v := 1) C dM_poke_22 (by show (0 : Nat) < 18; decide) rfl rfl (by decide) rfl inM lM_63 rfl rfl ?_
    refine v_if_le (tgt := 30) C dM_poke_25 (by decide) (by omega) (fun hc2 => ?_) (fun hc2 => ?_)
    · exfalso; omega
    · refine v_iconst C dM_poke_28 ?_
      exact v_zret C hRt hLk dM_poke_29 (fN_byte (by omega) (by omega)) (by first | exact Or.inl ⟨by omega, rfl, rfl⟩ | exact Or.inr ⟨by omega, rfl, rfl⟩)
  · refine v_iload_n C dM_poke_5 rfl rfl ?_
    refine v_aload_n C dM_poke_6 rfl rfl ?_
    refine v_getI (k := 0) (q := 7) (v := σ.1 0 7) C dM_poke_7 (by show (0 : Nat) < 18; decide) rfl rfl (by decide) rfl inM lM_116 rfl rfl ?_
    refine v_icmp_lt (tgt := 17) C dM_poke_10 (by decide) (by omega) (by omega) (fun hc3 => ?_) (fun hc3 => ?_)
    · refine v_iconst C dM_poke_17 ?_
      refine v_putI (k := 0) (q := 0) C dM_poke_18 (by show (0 : Nat) < 18; decide) rfl rfl (by decide) rfl inM tyM_ok nmM lM_63 rfl rfl rfl rfl rfl ?_
      refine v_aload_n C dM_poke_21 rfl rfl ?_
      refine v_getI (k := 0) (q := 0) (v := 0) C dM_poke_22 (by show (0 : Nat) < 18; decide) rfl rfl (by decide) rfl inM lM_63 rfl rfl ?_
      refine v_if_le (tgt := 30) C dM_poke_25 (by decide) (by omega) (fun hc4 => ?_) (fun hc4 => ?_)
      · refine v_aload_n C dM_poke_30 rfl rfl ?_
        refine v_getR (k := 0) (q := 8) C dM_poke_31 (by show (0 : Nat) < 18; decide) rfl rfl (by decide) rfl inM lM_30 rfl ?_
        refine v_iload_n C dM_poke_34 rfl rfl ?_
        have hb5 := h7 (i).toNat
        refine v_bald (k := 7) (v := σ.2 7 (i).toNat) C dM_poke_35 (by show (7 : Nat) < 18; decide) rfl rfl (by omega) (by decide) rfl ?_
        refine v_istore_n C dM_poke_36 rfl (by decide) ?_
        refine v_aload_n C dM_poke_37 rfl rfl ?_
        refine v_getR (k := 0) (q := 8) C dM_poke_38 (by show (0 : Nat) < 18; decide) rfl rfl (by decide) rfl inM lM_30 rfl ?_
        refine v_iload_n C dM_poke_41 rfl rfl ?_
        refine v_iload_n C dM_poke_42 rfl rfl ?_
        refine v_bast (k := 7) C dM_poke_43 (by show (7 : Nat) < 18; decide) rfl rfl (by omega) (by decide) (by omega) ?_
        refine v_aload_n C dM_poke_44 rfl rfl ?_
        refine v_iconst C dM_poke_45 ?_
        refine v_putI (k := 0) (q := 9) C dM_poke_46 (by show (0 : Nat) < 18; decide) rfl rfl (by decide) rfl inM tyM_ok nmM lM_123 rfl rfl rfl (fN_bool (by omega)) (fF_bool (by omega)) ?_
        refine v_iload_n C dM_poke_49 rfl rfl ?_
        exact v_zret C hRt hLk dM_poke_50 (fN_byte (by omega) (by omega)) (by first | exact Or.inl ⟨by omega, rfl, rfl⟩ | exact Or.inr ⟨by omega, rfl, rfl⟩)
      · exfalso; omega
    · refine v_iconst C dM_poke_13 ?_
      refine v_goto (tgt := 18) C dM_poke_14 (by decide) ?_
      refine v_putI (k := 0) (q := 0) C dM_poke_18 (by show (0 : Nat) < 18; decide) rfl rfl (by decide) rfl inM tyM_ok nmM lM_63 rfl rfl rfl rfl rfl ?_
      refine v_aload_n C dM_poke_21 rfl rfl ?_
      refine v_getI (k := 0) (q := 0) (v := 1) C dM_poke_22 (by show (0 : Nat) < 18; decide) rfl rfl (by decide) rfl inM lM_63 rfl rfl ?_
      refine v_if_le (tgt := 30) C dM_poke_25 (by decide) (by omega) (fun hc6 => ?_) (fun hc6 => ?_)
      · exfalso; omega
      · refine v_iconst C dM_poke_28 ?_
        exact v_zret C hRt hLk dM_poke_29 (fN_byte (by omega) (by omega)) (by first | exact Or.inl ⟨by omega, rfl, rfl⟩ | exact Or.inr ⟨by omega, rfl, rfl⟩)
end
section
/-- all are saved, up to object k - 1 -/
def m_save (σ : fS) (k : Nat) : fS := (σ.1, fun a b => if a = 3 ∧ 1 ≤ b ∧ b < k then 0 else if a = 4 ∧ 1 ≤ b ∧ b < k then σ.2 1 b else σ.2 a b)
theorem m_save_0 (σ : fS) : σ = m_save σ 1 := fS_ext (fun _ _ => rfl) (fun a b => by
  show σ.2 a b = if a = 3 ∧ 1 ≤ b ∧ b < 1 then 0 else if a = 4 ∧ 1 ≤ b ∧ b < 1 then σ.2 1 b else σ.2 a b
  rw [if_neg (by omega), if_neg (by omega)])
theorem m_save_s (σ : fS) (n : Int) (hn : 1 ≤ n) : f_p2 (f_p2 (m_save σ n.toNat) 3 n.toNat 0) 4 n.toNat (σ.2 1 n.toNat) = m_save σ (n + 1).toNat := by
  refine fS_ext (fun a b => rfl) (fun a b => ?_)
  rw [p2_2, p2_2, show (n + 1).toNat = n.toNat + 1 by omega]
  have h1 : 1 ≤ n.toNat := by omega
  generalize n.toNat = k at *
  show (if a = 4 ∧ b = k then σ.2 1 k else if a = 3 ∧ b = k then 0 else if a = 3 ∧ 1 ≤ b ∧ b < k then 0 else if a = 4 ∧ 1 ≤ b ∧ b < k then σ.2 1 b else σ.2 a b) = if a = 3 ∧ 1 ≤ b ∧ b < k + 1 then 0 else if a = 4 ∧ 1 ≤ b ∧ b < k + 1 then σ.2 1 b else σ.2 a b
  grind
/-- how many of 1 .. k are 1 -/
def m_cnt (f : Nat → Int) : Nat → Int
  | 0 => 0
  | k + 1 => m_cnt f k + (if f (k + 1) = 1 then 1 else 0)
theorem m_cnt_s (f : Nat → Int) (n : Int) (hn : 1 ≤ n) : m_cnt f n.toNat = m_cnt f (n - 1).toNat + (if f n.toNat = 1 then 1 else 0) := by
  have h : n.toNat = (n - 1).toNat + 1 := by omega
  rw [h]
  rfl
/-- zeros in the row of object n, up to place k -/
def m_zero (σ : fS) (n : Int) (k : Nat) : fS := (σ.1, fun a b => if a = 6 ∧ (120 * n).toNat ≤ b ∧ b < (120 * n).toNat + k then 0 else σ.2 a b)
theorem m_zero_0 (σ : fS) (n : Int) : σ = m_zero σ n 0 := fS_ext (fun _ _ => rfl) (fun a b => by
  show σ.2 a b = if a = 6 ∧ (120 * n).toNat ≤ b ∧ b < (120 * n).toNat + 0 then 0 else σ.2 a b
  rw [if_neg (by omega)])
theorem m_zero_s (σ : fS) (n k : Int) (hn : 0 ≤ n) (hk : 0 ≤ k) : f_p2 (m_zero σ n k.toNat) 6 (120 * n + k).toNat 0 = m_zero σ n (k + 1).toNat := by
  refine fS_ext (fun a b => rfl) (fun a b => ?_)
  rw [p2_2, show (120 * n + k).toNat = (120 * n).toNat + k.toNat by omega, show (k + 1).toNat = k.toNat + 1 by omega]
  simp only [m_zero]
  generalize k.toNat = j
  generalize (120 * n).toNat = q
  show (if a = 6 ∧ b = q + j then 0 else if a = 6 ∧ q ≤ b ∧ b < q + j then 0 else σ.2 a b) = if a = 6 ∧ q ≤ b ∧ b < q + (j + 1) then 0 else σ.2 a b
  grind
/-- where the line that begins at p ends -/
def eolF (f : Nat → Int) : Nat → Int → Int
  | 0, p => p
  | k + 1, p => if f p.toNat = 10 then p else eolF f k (p + 1)
def m_eol (σ : fS) (p : Int) : Int := eolF (σ.2 7) (σ.1 0 7 - p).toNat p
theorem eolF_le (f : Nat → Int) : ∀ (k : Nat) (p : Int), p ≤ eolF f k p ∧ eolF f k p ≤ p + k := by
  intro k
  induction k with
  | zero => intro p; show p ≤ p ∧ p ≤ p + 0; omega
  | succ k ih =>
    intro p
    have h := ih (p + 1)
    unfold eolF
    split <;> omega
/-- digits read from p, of a value v so far -/
def numF (f : Nat → Int) (le : Int) : Nat → Int → Int → Int × Int
  | 0, p, v => (v, p)
  | k + 1, p, v => if p < le ∧ 48 ≤ f p.toNat ∧ f p.toNat ≤ 57 then numF f le k (p + 1) (10 * v + f p.toNat - 48) else (v, p)
/-- the fields number and cursor -/
def m_nc (σ : fS) (v p : Int) : fS := f_p1 (f_p1 σ 0 22 v) 0 21 p
theorem m_nc_s (σ : fS) (v p v1 p1 : Int) : f_p1 (f_p1 (m_nc σ v p) 0 22 v1) 0 21 p1 = m_nc σ v1 p1 := by
  refine fS_ext (fun a b => ?_) (fun _ _ => rfl)
  unfold m_nc
  rw [p1_1, p1_1, p1_1, p1_1, p1_1, p1_1]
  grind
theorem m_nc_0 (σ : fS) : f_p1 σ 0 22 0 = m_nc σ 0 (σ.1 0 21) := by
  refine fS_ext (fun a b => ?_) (fun _ _ => rfl)
  unfold m_nc
  rw [p1_1, p1_1, p1_1]
  grind
theorem p1_same (σ : fS) (k q : Nat) : f_p1 σ k q (σ.1 k q) = σ := fS_ext (fun a b => by
  rw [p1_1]
  split
  · rename_i h; rw [h.1, h.2]
  · rfl) (fun _ _ => rfl)
/-- the fields cursor and lineEnd -/
def m_cl (σ : fS) (p e : Int) : fS := f_p1 (f_p1 σ 0 21 p) 0 20 e
theorem m_cl_s (σ : fS) (p e e1 : Int) : f_p1 (m_cl σ p e) 0 20 e1 = m_cl σ p e1 := by
  refine fS_ext (fun a b => ?_) (fun _ _ => rfl)
  unfold m_cl
  rw [p1_1, p1_1, p1_1, p1_1, p1_1]
  grind
/-- object n comes, with m bytes -/
def m_bring (σ : fS) (n m : Int) : fS := f_p2 (f_p2 (f_p2 (f_p2 (f_p1 σ 0 0 0) 1 n.toNat 1) 2 n.toNat 0) 3 n.toNat 1) 5 n.toNat m
set_option maxRecDepth 100000 in
set_option maxHeartbeats 4000000 in
/-- save() -/
theorem kM_save (l : Launch) (xCl : List vw_C) (D : va_G) (cA : Nat → ClassId) (ad : Nat → Nat) (hJ : f_J (mG xCl D cA ad)) (σ : fS) (h1 : ∀ i, 0 ≤ σ.2 1 i ∧ σ.2 1 i ≤ 1) : f_M l (mG xCl D cA ad) mE yM_save (Cond.code yM_save cM_save 2 none :: A9) 0 σ [.ref (ad 0)] (f_QV (fun σ1 => σ1 = m_save σ 41) (mG xCl D cA ad)) := by
  refine f_enter (by decide +kernel) hJ rfl (Nat.le_of_ble_eq_true rfl) ?_
  intro z hzl hR C hRt hLk hEz
  subst hzl
  have L : ∀ (k : Nat) (n : Int), n + k = 41 → 1 ≤ n → fv z (mG xCl D cA ad) 2 (f_R z (mG xCl D cA ad) (f_QV (fun σ1 => σ1 = m_save σ 41) (mG xCl D cA ad))) 0 0 (m_save σ n.toNat) 2 [some (.ref (ad 0)), some (.int (fI n))] [] := by
    intro k
    induction k with
    | zero =>
      intro n hk hn
      have hb := h1 n.toNat
      refine v_iload_n C dM_save_2 rfl rfl ?_
      refine v_bipush C dM_save_3 (by decide +kernel) ?_
      refine v_icmp_gt (tgt := 33) C dM_save_5 (by decide) (by omega) (by omega) (fun hc1 => ?_) (fun hc1 => ?_)
      · exact v_vret C hRt hLk dM_save_33 (by rw [show n.toNat = 41 by omega])
      · exfalso; omega
    | succ k ih =>
      intro n hk hn
      have hb := h1 n.toNat
      refine v_iload_n C dM_save_2 rfl rfl ?_
      refine v_bipush C dM_save_3 (by decide +kernel) ?_
      refine v_icmp_gt (tgt := 33) C dM_save_5 (by decide) (by omega) (by omega) (fun hc2 => ?_) (fun hc2 => ?_)
      · exfalso; omega
      · refine v_aload_n C dM_save_8 rfl rfl ?_
        refine v_getR (k := 0) (q := 3) C dM_save_9 (by show (0 : Nat) < 18; decide) rfl rfl (by decide) rfl inM lM_16 rfl ?_
        refine v_iload_n C dM_save_12 rfl rfl ?_
        refine v_iconst C dM_save_13 ?_
        refine v_zast (k := 3) C dM_save_14 (by show (3 : Nat) < 18; decide) rfl rfl (by omega) (by decide) (by omega) ?_
        refine v_aload_n C dM_save_15 rfl rfl ?_
        refine v_getR (k := 0) (q := 4) C dM_save_16 (by show (0 : Nat) < 18; decide) rfl rfl (by decide) rfl inM lM_19 rfl ?_
        refine v_iload_n C dM_save_19 rfl rfl ?_
        refine v_aload_n C dM_save_20 rfl rfl ?_
        refine v_getR (k := 0) (q := 1) C dM_save_21 (by show (0 : Nat) < 18; decide) rfl rfl (by decide) rfl inM lM_7 rfl ?_
        refine v_iload_n C dM_save_24 rfl rfl ?_
        refine v_zald (k := 1) (v := σ.2 1 (n).toNat) C dM_save_25 (by show (1 : Nat) < 18; decide) rfl rfl (by omega) (by decide) (by simp [m_save, p2_2]) ?_
        refine v_zast (k := 4) C dM_save_26 (by show (4 : Nat) < 18; decide) rfl rfl (by omega) (by decide) (by omega) ?_
        refine v_iinc C dM_save_27 rfl (by decide) ?_
        refine v_goto (tgt := 2) C dM_save_30 (by decide) ?_
        exact v_st (m_save_s σ n hn) (ih (n + 1) (by omega) (by omega))
  refine v_iconst C dM_save_0 ?_
  refine v_istore_n C dM_save_1 rfl (by decide) ?_
  exact v_st (m_save_0 σ) (L 40 1 (by omega) (by omega))
set_option maxRecDepth 100000 in
set_option maxHeartbeats 4000000 in
/-- changed() -/
theorem kM_changed (l : Launch) (xCl : List vw_C) (D : va_G) (cA : Nat → ClassId) (ad : Nat → Nat) (hJ : f_J (mG xCl D cA ad)) (σ : fS) (h3 : ∀ i, 0 ≤ σ.2 3 i ∧ σ.2 3 i ≤ 1) : f_M l (mG xCl D cA ad) mE yM_changed (Cond.code yM_changed cM_changed 3 (some .int) :: A9) 0 σ [.ref (ad 0)] (f_QI (fun r σ1 => r = m_cnt (σ.2 3) 40 ∧ σ1 = σ) (mG xCl D cA ad)) := by
  refine f_enter (by decide +kernel) hJ rfl (Nat.le_of_ble_eq_true rfl) ?_
  intro z hzl hR C hRt hLk hEz
  subst hzl
  have L : ∀ (k : Nat) (n c : Int), n + k = 41 → 1 ≤ n → c = m_cnt (σ.2 3) (n - 1).toNat → fv z (mG xCl D cA ad) 3 (f_R z (mG xCl D cA ad) (f_QI (fun r σ1 => r = m_cnt (σ.2 3) 40 ∧ σ1 = σ) (mG xCl D cA ad))) 0 0 σ 4 [some (.ref (ad 0)), some (.int (fI c)), some (.int (fI n))] [] := by
    intro k
    induction k with
    | zero =>
      intro n c hk hn hc
      have hb := h3 n.toNat
      have hs := m_cnt_s (σ.2 3) n hn
      refine v_iload_n C dM_changed_4 rfl rfl ?_
      refine v_bipush C dM_changed_5 (by decide +kernel) ?_
      refine v_icmp_gt (tgt := 33) C dM_changed_7 (by decide) (by omega) (by omega) (fun hc1 => ?_) (fun hc1 => ?_)
      · refine v_iload_n C dM_changed_33 rfl rfl ?_
        exact v_iret C hRt hLk dM_changed_34 ⟨by rw [hc, show (n - 1).toNat = 40 by omega], rfl⟩
      · exfalso; omega
    | succ k ih =>
      intro n c hk hn hc
      have hb := h3 n.toNat
      have hs := m_cnt_s (σ.2 3) n hn
      refine v_iload_n C dM_changed_4 rfl rfl ?_
      refine v_bipush C dM_changed_5 (by decide +kernel) ?_
      refine v_icmp_gt (tgt := 33) C dM_changed_7 (by decide) (by omega) (by omega) (fun hc2 => ?_) (fun hc2 => ?_)
      · exfalso; omega
      · refine v_aload_n C dM_changed_10 rfl rfl ?_
        refine v_getR (k := 0) (q := 3) C dM_changed_11 (by show (0 : Nat) < 18; decide) rfl rfl (by decide) rfl inM lM_16 rfl ?_
        refine v_iload_n C dM_changed_14 rfl rfl ?_
        refine v_zald (k := 3) (v := σ.2 3 (n).toNat) C dM_changed_15 (by show (3 : Nat) < 18; decide) rfl rfl (by omega) (by decide) rfl ?_
        refine v_if_eq (tgt := 25) C dM_changed_16 (by decide) (by omega) (fun hc3 => ?_) (fun hc3 => ?_)
        · refine v_iload_n C dM_changed_25 rfl rfl ?_
          refine v_istore_n C dM_changed_26 rfl (by decide) ?_
          refine v_iinc C dM_changed_27 rfl (by decide) ?_
          refine v_goto (tgt := 4) C dM_changed_30 (by decide) ?_
          exact ih (n + 1) (c) (by omega) (by omega) (by rw [show (n + 1 - 1).toNat = n.toNat by omega, hs, hc]; first | (rw [if_pos (by omega)]; done) | (rw [if_neg (by omega)]; omega))
        · refine v_iload_n C dM_changed_19 rfl rfl ?_
          refine v_iconst C dM_changed_20 ?_
          refine v_iadd C dM_changed_21 ?_
          refine v_goto (tgt := 26) C dM_changed_22 (by decide) ?_
          refine v_istore_n C dM_changed_26 rfl (by decide) ?_
          refine v_iinc C dM_changed_27 rfl (by decide) ?_
          refine v_goto (tgt := 4) C dM_changed_30 (by decide) ?_
          exact ih (n + 1) ((c + 1)) (by omega) (by omega) (by rw [show (n + 1 - 1).toNat = n.toNat by omega, hs, hc]; first | (rw [if_pos (by omega)]; done) | (rw [if_neg (by omega)]; omega))
  refine v_iconst C dM_changed_0 ?_
  refine v_istore_n C dM_changed_1 rfl (by decide) ?_
  refine v_iconst C dM_changed_2 ?_
  refine v_istore_n C dM_changed_3 rfl (by decide) ?_
  exact L 40 1 0 (by omega) (by omega) rfl
set_option maxRecDepth 100000 in
set_option maxHeartbeats 4000000 in
/-- object(n, length) -/
theorem kM_object (l : Launch) (xCl : List vw_C) (D : va_G) (cA : Nat → ClassId) (ad : Nat → Nat) (hJ : f_J (mG xCl D cA ad)) (σ : fS) (n m : Int) (hn : -2147483648 ≤ n ∧ n ≤ 2147483647) (hm : -2147483648 ≤ m ∧ m ≤ 2147483647) : f_M l (mG xCl D cA ad) mE yM_object (Cond.code yM_object cM_object 4 none :: A9) 1 σ [.ref (ad 0), .int (fI n), .int (fI m)] (f_QV (fun σ1 => (¬ (1 ≤ n ∧ n ≤ 40) ∧ σ1 = f_p1 σ 0 0 1) ∨ ((1 ≤ n ∧ n ≤ 40) ∧ ¬ (0 ≤ m ∧ m ≤ 120) ∧ σ1 = f_p1 σ 0 0 2) ∨ ((1 ≤ n ∧ n ≤ 40) ∧ (0 ≤ m ∧ m ≤ 120) ∧ σ1 = m_zero (m_bring σ n m) n 120)) (mG xCl D cA ad)) := by
  refine f_enter (by decide +kernel) hJ rfl (Nat.le_of_ble_eq_true rfl) ?_
  intro z hzl hR C hRt hLk hEz
  subst hzl
  have L : (1 ≤ n ∧ n ≤ 40) → (0 ≤ m ∧ m ≤ 120) → ∀ (k : Nat) (j : Int), j + k = 120 → 0 ≤ j → fv z (mG xCl D cA ad) 4 (f_R z (mG xCl D cA ad) (f_QV (fun σ1 => (¬ (1 ≤ n ∧ n ≤ 40) ∧ σ1 = f_p1 σ 0 0 1) ∨ ((1 ≤ n ∧ n ≤ 40) ∧ ¬ (0 ≤ m ∧ m ≤ 120) ∧ σ1 = f_p1 σ 0 0 2) ∨ ((1 ≤ n ∧ n ≤ 40) ∧ (0 ≤ m ∧ m ≤ 120) ∧ σ1 = m_zero (m_bring σ n m) n 120)) (mG xCl D cA ad))) 0 0 (m_zero (m_bring σ n m) n j.toNat) 68 [some (.ref (ad 0)), some (.int (fI n)), some (.int (fI m)), some (.int (fI j))] [] := by
    intro hn1 hm1 k
    induction k with
    | zero =>
      intro j hk hj
      refine v_iload_n C dM_object_68 rfl rfl ?_
      refine v_bipush C dM_object_69 (by decide +kernel) ?_
      refine v_icmp_ge (tgt := 92) C dM_object_71 (by decide) (by omega) (by omega) (fun hc1 => ?_) (fun hc1 => ?_)
      · exact v_vret C hRt hLk dM_object_92 (by first | exact Or.inl ⟨by omega, rfl⟩ | exact Or.inr (Or.inl ⟨by omega, by omega, rfl⟩) | exact Or.inr (Or.inr ⟨by omega, by omega, by rw [show j.toNat = 120 by omega]⟩))
      · exfalso; omega
    | succ k ih =>
      intro j hk hj
      refine v_iload_n C dM_object_68 rfl rfl ?_
      refine v_bipush C dM_object_69 (by decide +kernel) ?_
      refine v_icmp_ge (tgt := 92) C dM_object_71 (by decide) (by omega) (by omega) (fun hc2 => ?_) (fun hc2 => ?_)
      · exfalso; omega
      · refine v_aload_n C dM_object_74 rfl rfl ?_
        refine v_getR (k := 0) (q := 6) C dM_object_75 (by show (0 : Nat) < 18; decide) rfl rfl (by decide) rfl inM lM_26 rfl ?_
        refine v_bipush C dM_object_78 (by decide +kernel) ?_
        refine v_iload_n C dM_object_80 rfl rfl ?_
        refine v_imul C dM_object_81 ?_
        refine v_iload_n C dM_object_82 rfl rfl ?_
        refine v_iadd C dM_object_83 ?_
        refine v_iconst C dM_object_84 ?_
        refine v_bast (k := 6) C dM_object_85 (by show (6 : Nat) < 18; decide) rfl rfl (by omega) (by decide) (by omega) ?_
        refine v_iinc C dM_object_86 rfl (by decide) ?_
        refine v_goto (tgt := 68) C dM_object_89 (by decide) ?_
        exact v_st (m_zero_s _ n j (by omega) hj) (ih (j + 1) (by omega) (by omega))
  refine v_aload_n C dM_object_0 rfl rfl ?_
  refine v_iload_n C dM_object_1 rfl rfl ?_
  refine v_cSI (n := 1) C (mE_ok _) trivial hR (kM_isObject2 _ xCl D cA ad hJ _ (n) (by omega)) dM_object_2 gM_67 (by decide +kernel) (by decide) (by decide) rfl (Nat.le_of_ble_eq_true rfl) rfl ⟨rfl, rfl⟩ (fun r1 σ1 hp1 => ?_)
  rcases hp1 with ⟨hq, rfl, e2⟩ | ⟨hq, rfl, e2⟩
  · subst σ1
    refine v_if_ne (tgt := 12) C dM_object_5 (by decide) (by omega) (fun hc3 => ?_) (fun hc3 => ?_)
    · refine v_iload_n C dM_object_12 rfl rfl ?_
      refine v_if_lt (tgt := 22) C dM_object_13 (by decide) (by omega) (fun hc4 => ?_) (fun hc4 => ?_)
      · refine v_iconst C dM_object_22 ?_
        refine v_goto (tgt := 27) C dM_object_23 (by decide) ?_
        refine v_putI (k := 0) (q := 0) C dM_object_27 (by show (0 : Nat) < 18; decide) rfl rfl (by decide) rfl inM tyM_ok nmM lM_63 rfl rfl rfl rfl rfl ?_
        refine v_aload_n C dM_object_30 rfl rfl ?_
        refine v_getI (k := 0) (q := 0) (v := 2) C dM_object_31 (by show (0 : Nat) < 18; decide) rfl rfl (by decide) rfl inM lM_63 rfl rfl ?_
        refine v_if_le (tgt := 38) C dM_object_34 (by decide) (by omega) (fun hc5 => ?_) (fun hc5 => ?_)
        · exfalso; omega
        · exact v_vret C hRt hLk dM_object_37 (by first | exact Or.inl ⟨by omega, rfl⟩ | exact Or.inr (Or.inl ⟨by omega, by omega, rfl⟩) | exact Or.inr (Or.inr ⟨by omega, by omega, by rw [show j.toNat = 120 by omega]⟩))
      · refine v_iload_n C dM_object_16 rfl rfl ?_
        refine v_bipush C dM_object_17 (by decide +kernel) ?_
        refine v_icmp_le (tgt := 26) C dM_object_19 (by decide) (by omega) (by omega) (fun hc6 => ?_) (fun hc6 => ?_)
        · refine v_iconst C dM_object_26 ?_
          refine v_putI (k := 0) (q := 0) C dM_object_27 (by show (0 : Nat) < 18; decide) rfl rfl (by decide) rfl inM tyM_ok nmM lM_63 rfl rfl rfl rfl rfl ?_
          refine v_aload_n C dM_object_30 rfl rfl ?_
          refine v_getI (k := 0) (q := 0) (v := 0) C dM_object_31 (by show (0 : Nat) < 18; decide) rfl rfl (by decide) rfl inM lM_63 rfl rfl ?_
          refine v_if_le (tgt := 38) C dM_object_34 (by decide) (by omega) (fun hc7 => ?_) (fun hc7 => ?_)
          · refine v_aload_n C dM_object_38 rfl rfl ?_
            refine v_getR (k := 0) (q := 1) C dM_object_39 (by show (0 : Nat) < 18; decide) rfl rfl (by decide) rfl inM lM_7 rfl ?_
            refine v_iload_n C dM_object_42 rfl rfl ?_
            refine v_iconst C dM_object_43 ?_
            refine v_zast (k := 1) C dM_object_44 (by show (1 : Nat) < 18; decide) rfl rfl (by omega) (by decide) (by omega) ?_
            refine v_aload_n C dM_object_45 rfl rfl ?_
            refine v_getR (k := 0) (q := 2) C dM_object_46 (by show (0 : Nat) < 18; decide) rfl rfl (by decide) rfl inM lM_13 rfl ?_
            refine v_iload_n C dM_object_49 rfl rfl ?_
            refine v_iconst C dM_object_50 ?_
            refine v_zast (k := 2) C dM_object_51 (by show (2 : Nat) < 18; decide) rfl rfl (by omega) (by decide) (by omega) ?_
            refine v_aload_n C dM_object_52 rfl rfl ?_
            refine v_getR (k := 0) (q := 3) C dM_object_53 (by show (0 : Nat) < 18; decide) rfl rfl (by decide) rfl inM lM_16 rfl ?_
            refine v_iload_n C dM_object_56 rfl rfl ?_
            refine v_iconst C dM_object_57 ?_
            refine v_zast (k := 3) C dM_object_58 (by show (3 : Nat) < 18; decide) rfl rfl (by omega) (by decide) (by omega) ?_
            refine v_aload_n C dM_object_59 rfl rfl ?_
            refine v_getR (k := 0) (q := 5) C dM_object_60 (by show (0 : Nat) < 18; decide) rfl rfl (by decide) rfl inM lM_22 rfl ?_
            refine v_iload_n C dM_object_63 rfl rfl ?_
            refine v_iload_n C dM_object_64 rfl rfl ?_
            refine v_iast (k := 5) C dM_object_65 (by show (5 : Nat) < 18; decide) rfl rfl (by omega) (by decide) ?_
            refine v_iconst C dM_object_66 ?_
            refine v_istore_n C dM_object_67 rfl (by decide) ?_
            exact v_st (m_zero_0 _ n) (L (by omega) (by omega) 120 0 (by omega) (by omega))
          · exfalso; omega
        · refine v_iconst C dM_object_22 ?_
          refine v_goto (tgt := 27) C dM_object_23 (by decide) ?_
          refine v_putI (k := 0) (q := 0) C dM_object_27 (by show (0 : Nat) < 18; decide) rfl rfl (by decide) rfl inM tyM_ok nmM lM_63 rfl rfl rfl rfl rfl ?_
          refine v_aload_n C dM_object_30 rfl rfl ?_
          refine v_getI (k := 0) (q := 0) (v := 2) C dM_object_31 (by show (0 : Nat) < 18; decide) rfl rfl (by decide) rfl inM lM_63 rfl rfl ?_
          refine v_if_le (tgt := 38) C dM_object_34 (by decide) (by omega) (fun hc8 => ?_) (fun hc8 => ?_)
          · exfalso; omega
          · exact v_vret C hRt hLk dM_object_37 (by first | exact Or.inl ⟨by omega, rfl⟩ | exact Or.inr (Or.inl ⟨by omega, by omega, rfl⟩) | exact Or.inr (Or.inr ⟨by omega, by omega, by rw [show j.toNat = 120 by omega]⟩))
    · exfalso; omega
  · subst σ1
    refine v_if_ne (tgt := 12) C dM_object_5 (by decide) (by omega) (fun hc9 => ?_) (fun hc9 => ?_)
    · exfalso; omega
    · refine v_iconst C dM_object_8 ?_
      refine v_goto (tgt := 27) C dM_object_9 (by decide) ?_
      refine v_putI (k := 0) (q := 0) C dM_object_27 (by show (0 : Nat) < 18; decide) rfl rfl (by decide) rfl inM tyM_ok nmM lM_63 rfl rfl rfl rfl rfl ?_
      refine v_aload_n C dM_object_30 rfl rfl ?_
      refine v_getI (k := 0) (q := 0) (v := 1) C dM_object_31 (by show (0 : Nat) < 18; decide) rfl rfl (by decide) rfl inM lM_63 rfl rfl ?_
      refine v_if_le (tgt := 38) C dM_object_34 (by decide) (by omega) (fun hc10 => ?_) (fun hc10 => ?_)
      · exfalso; omega
      · exact v_vret C hRt hLk dM_object_37 (by first | exact Or.inl ⟨by omega, rfl⟩ | exact Or.inr (Or.inl ⟨by omega, by omega, rfl⟩) | exact Or.inr (Or.inr ⟨by omega, by omega, by rw [show j.toNat = 120 by omega]⟩))
set_option maxRecDepth 100000 in
set_option maxHeartbeats 4000000 in
/-- takes(c) -/
theorem kM_takes (l : Launch) (xCl : List vw_C) (D : va_G) (cA : Nat → ClassId) (ad : Nat → Nat) (hJ : f_J (mG xCl D cA ad)) (σ : fS) (c : Int) (hc : -128 ≤ c ∧ c ≤ 127) (hu : 0 ≤ σ.1 0 21 ∧ σ.1 0 21 ≤ 100000) (he : σ.1 0 20 ≤ 12000 ∨ σ.1 0 20 ≤ σ.1 0 21) (hl : -2147483648 ≤ σ.1 0 20 ∧ σ.1 0 20 ≤ 2147483647) (h7 : ∀ i, -128 ≤ σ.2 7 i ∧ σ.2 7 i ≤ 127) : f_M l (mG xCl D cA ad) mE yM_takes (Cond.code yM_takes cM_takes 3 (some .boolean) :: A9) 0 σ [.ref (ad 0), .int (fI c)] (f_QI (fun r σ1 => ((σ.1 0 21 < σ.1 0 20 ∧ σ.2 7 (σ.1 0 21).toNat = c) ∧ r = 1 ∧ σ1 = f_p1 σ 0 21 (σ.1 0 21 + 1)) ∨ (¬ (σ.1 0 21 < σ.1 0 20 ∧ σ.2 7 (σ.1 0 21).toNat = c) ∧ r = 0 ∧ σ1 = σ)) (mG xCl D cA ad)) := by
  refine f_enter (by decide +kernel) hJ rfl (Nat.le_of_ble_eq_true rfl) ?_
  intro z hzl hR C hRt hLk hEz
  subst hzl
  refine v_aload_n C dM_takes_0 rfl rfl ?_
  refine v_getI (k := 0) (q := 21) (v := σ.1 0 21) C dM_takes_1 (by show (0 : Nat) < 18; decide) rfl rfl (by decide) rfl inM lM_141 rfl rfl ?_
  refine v_aload_n C dM_takes_4 rfl rfl ?_
  refine v_getI (k := 0) (q := 20) (v := σ.1 0 20) C dM_takes_5 (by show (0 : Nat) < 18; decide) rfl rfl (by decide) rfl inM lM_144 rfl rfl ?_
  refine v_icmp_ge (tgt := 28) C dM_takes_8 (by decide) (by omega) (by omega) (fun hc1 => ?_) (fun hc1 => ?_)
  · refine v_iconst C dM_takes_28 ?_
    refine v_istore_n C dM_takes_29 rfl (by decide) ?_
    refine v_aload_n C dM_takes_30 rfl rfl ?_
    refine v_iload_n C dM_takes_31 rfl rfl ?_
    refine v_if_eq (tgt := 44) C dM_takes_32 (by decide) (by omega) (fun hc2 => ?_) (fun hc2 => ?_)
    · refine v_aload_n C dM_takes_44 rfl rfl ?_
      refine v_getI (k := 0) (q := 21) (v := σ.1 0 21) C dM_takes_45 (by show (0 : Nat) < 18; decide) rfl rfl (by decide) rfl inM lM_141 rfl rfl ?_
      refine v_putI (k := 0) (q := 21) C dM_takes_48 (by show (0 : Nat) < 18; decide) rfl rfl (by decide) rfl inM tyM_ok nmM lM_141 rfl rfl rfl rfl rfl ?_
      refine v_iload_n C dM_takes_51 rfl rfl ?_
      exact v_zret C hRt hLk dM_takes_52 (fN_bool (by omega)) (by first | exact Or.inl ⟨by omega, rfl, rfl⟩ | exact Or.inr ⟨by omega, rfl, p1_same _ _ _⟩)
    · exfalso; omega
  · refine v_aload_n C dM_takes_11 rfl rfl ?_
    refine v_getR (k := 0) (q := 8) C dM_takes_12 (by show (0 : Nat) < 18; decide) rfl rfl (by decide) rfl inM lM_30 rfl ?_
    refine v_aload_n C dM_takes_15 rfl rfl ?_
    refine v_getI (k := 0) (q := 21) (v := σ.1 0 21) C dM_takes_16 (by show (0 : Nat) < 18; decide) rfl rfl (by decide) rfl inM lM_141 rfl rfl ?_
    have hb3 := h7 (σ.1 0 21).toNat
    refine v_bald (k := 7) (v := σ.2 7 (σ.1 0 21).toNat) C dM_takes_19 (by show (7 : Nat) < 18; decide) rfl rfl (by omega) (by decide) rfl ?_
    refine v_iload_n C dM_takes_20 rfl rfl ?_
    refine v_icmp_ne (tgt := 28) C dM_takes_21 (by decide) (by omega) (by omega) (fun hc4 => ?_) (fun hc4 => ?_)
    · refine v_iconst C dM_takes_28 ?_
      refine v_istore_n C dM_takes_29 rfl (by decide) ?_
      refine v_aload_n C dM_takes_30 rfl rfl ?_
      refine v_iload_n C dM_takes_31 rfl rfl ?_
      refine v_if_eq (tgt := 44) C dM_takes_32 (by decide) (by omega) (fun hc5 => ?_) (fun hc5 => ?_)
      · refine v_aload_n C dM_takes_44 rfl rfl ?_
        refine v_getI (k := 0) (q := 21) (v := σ.1 0 21) C dM_takes_45 (by show (0 : Nat) < 18; decide) rfl rfl (by decide) rfl inM lM_141 rfl rfl ?_
        refine v_putI (k := 0) (q := 21) C dM_takes_48 (by show (0 : Nat) < 18; decide) rfl rfl (by decide) rfl inM tyM_ok nmM lM_141 rfl rfl rfl rfl rfl ?_
        refine v_iload_n C dM_takes_51 rfl rfl ?_
        exact v_zret C hRt hLk dM_takes_52 (fN_bool (by omega)) (by first | exact Or.inl ⟨by omega, rfl, rfl⟩ | exact Or.inr ⟨by omega, rfl, p1_same _ _ _⟩)
      · exfalso; omega
    · refine v_iconst C dM_takes_24 ?_
      refine v_goto (tgt := 29) C dM_takes_25 (by decide) ?_
      refine v_istore_n C dM_takes_29 rfl (by decide) ?_
      refine v_aload_n C dM_takes_30 rfl rfl ?_
      refine v_iload_n C dM_takes_31 rfl rfl ?_
      refine v_if_eq (tgt := 44) C dM_takes_32 (by decide) (by omega) (fun hc6 => ?_) (fun hc6 => ?_)
      · exfalso; omega
      · refine v_aload_n C dM_takes_35 rfl rfl ?_
        refine v_getI (k := 0) (q := 21) (v := σ.1 0 21) C dM_takes_36 (by show (0 : Nat) < 18; decide) rfl rfl (by decide) rfl inM lM_141 rfl rfl ?_
        refine v_iconst C dM_takes_39 ?_
        refine v_iadd C dM_takes_40 ?_
        refine v_goto (tgt := 48) C dM_takes_41 (by decide) ?_
        refine v_putI (k := 0) (q := 21) C dM_takes_48 (by show (0 : Nat) < 18; decide) rfl rfl (by decide) rfl inM tyM_ok nmM lM_141 rfl rfl rfl rfl rfl ?_
        refine v_iload_n C dM_takes_51 rfl rfl ?_
        exact v_zret C hRt hLk dM_takes_52 (fN_bool (by omega)) (by first | exact Or.inl ⟨by omega, rfl, rfl⟩ | exact Or.inr ⟨by omega, rfl, p1_same _ _ _⟩)
set_option maxRecDepth 100000 in
set_option maxHeartbeats 4000000 in
/-- line(from) -/
theorem kM_line (l : Launch) (xCl : List vw_C) (D : va_G) (cA : Nat → ClassId) (ad : Nat → Nat) (hJ : f_J (mG xCl D cA ad)) (σ : fS) (a : Int) (ha : 0 ≤ a ∧ a ≤ 100000) (hz : 0 ≤ σ.1 0 7 ∧ σ.1 0 7 ≤ 12000) (h7 : ∀ i, -128 ≤ σ.2 7 i ∧ σ.2 7 i ≤ 127) : f_M l (mG xCl D cA ad) mE yM_line (Cond.code yM_line cM_line 2 (some .boolean) :: A9) 0 σ [.ref (ad 0), .int (fI a)] (f_QI (fun r σ1 => (m_eol σ a < σ.1 0 7 ∧ r = 1 ∧ σ1 = m_cl σ a (m_eol σ a)) ∨ (¬ m_eol σ a < σ.1 0 7 ∧ r = 0 ∧ σ1 = m_cl σ a (m_eol σ a))) (mG xCl D cA ad)) := by
  refine f_enter (by decide +kernel) hJ rfl (Nat.le_of_ble_eq_true rfl) ?_
  intro z hzl hR C hRt hLk hEz
  subst hzl
  have hbe := eolF_le (σ.2 7) (σ.1 0 7 - a).toNat a
  change a ≤ m_eol σ a ∧ m_eol σ a ≤ a + ((σ.1 0 7 - a).toNat : Int) at hbe
  have L : ∀ (k : Nat) (p : Int), a ≤ p → (σ.1 0 7 - p).toNat = k → eolF (σ.2 7) k p = m_eol σ a → fv z (mG xCl D cA ad) 2 (f_R z (mG xCl D cA ad) (f_QI (fun r σ1 => (m_eol σ a < σ.1 0 7 ∧ r = 1 ∧ σ1 = m_cl σ a (m_eol σ a)) ∨ (¬ m_eol σ a < σ.1 0 7 ∧ r = 0 ∧ σ1 = m_cl σ a (m_eol σ a))) (mG xCl D cA ad))) 0 0 (m_cl σ a p) 10 [some (.ref (ad 0)), some (.int (fI a))] [] := by
    intro k
    induction k with
    | zero =>
      intro p hp hk hE
      have hb := h7 p.toNat
      have hE1 : p = m_eol σ a := hE
      refine v_aload_n C dM_line_10 rfl rfl ?_
      refine v_getI (k := 0) (q := 20) (v := p) C dM_line_11 (by show (0 : Nat) < 18; decide) rfl rfl (by decide) rfl inM lM_144 rfl rfl ?_
      refine v_aload_n C dM_line_14 rfl rfl ?_
      refine v_getI (k := 0) (q := 7) (v := σ.1 0 7) C dM_line_15 (by show (0 : Nat) < 18; decide) rfl rfl (by decide) rfl inM lM_116 rfl rfl ?_
      refine v_icmp_ge (tgt := 48) C dM_line_18 (by decide) (by omega) (by omega) (fun hc1 => ?_) (fun hc1 => ?_)
      · have hpe : p = m_eol σ a := by first | exact hE1 | exact hE2.elim (fun h => h.2) (fun h => absurd (by omega) h.1)
        refine v_aload_n C dM_line_48 rfl rfl ?_
        refine v_getI (k := 0) (q := 20) (v := p) C dM_line_49 (by show (0 : Nat) < 18; decide) rfl rfl (by decide) rfl inM lM_144 rfl rfl ?_
        refine v_aload_n C dM_line_52 rfl rfl ?_
        refine v_getI (k := 0) (q := 7) (v := σ.1 0 7) C dM_line_53 (by show (0 : Nat) < 18; decide) rfl rfl (by decide) rfl inM lM_116 rfl rfl ?_
        refine v_icmp_ge (tgt := 63) C dM_line_56 (by decide) (by omega) (by omega) (fun hc2 => ?_) (fun hc2 => ?_)
        · refine v_iconst C dM_line_63 ?_
          exact v_zret C hRt hLk dM_line_64 (fN_bool (by omega)) (by first | exact Or.inl ⟨by omega, rfl, by rw [← hpe]⟩ | exact Or.inr ⟨by omega, rfl, by rw [← hpe]⟩)
        · refine v_iconst C dM_line_59 ?_
          refine v_goto (tgt := 64) C dM_line_60 (by decide) ?_
          exact v_zret C hRt hLk dM_line_64 (fN_bool (by omega)) (by first | exact Or.inl ⟨by omega, rfl, by rw [← hpe]⟩ | exact Or.inr ⟨by omega, rfl, by rw [← hpe]⟩)
      · exfalso; omega
    | succ k ih =>
      intro p hp hk hE
      have hb := h7 p.toNat
      unfold eolF at hE
      have hE2 : (σ.2 7 p.toNat = 10 ∧ p = m_eol σ a) ∨ (¬ σ.2 7 p.toNat = 10 ∧ eolF (σ.2 7) k (p + 1) = m_eol σ a) := by
        by_cases h9 : σ.2 7 p.toNat = 10
        · rw [if_pos h9] at hE; exact Or.inl ⟨h9, hE⟩
        · rw [if_neg h9] at hE; exact Or.inr ⟨h9, hE⟩
      have hle := eolF_le (σ.2 7) k (p + 1)
      refine v_aload_n C dM_line_10 rfl rfl ?_
      refine v_getI (k := 0) (q := 20) (v := p) C dM_line_11 (by show (0 : Nat) < 18; decide) rfl rfl (by decide) rfl inM lM_144 rfl rfl ?_
      refine v_aload_n C dM_line_14 rfl rfl ?_
      refine v_getI (k := 0) (q := 7) (v := σ.1 0 7) C dM_line_15 (by show (0 : Nat) < 18; decide) rfl rfl (by decide) rfl inM lM_116 rfl rfl ?_
      refine v_icmp_ge (tgt := 48) C dM_line_18 (by decide) (by omega) (by omega) (fun hc3 => ?_) (fun hc3 => ?_)
      · exfalso; omega
      · refine v_aload_n C dM_line_21 rfl rfl ?_
        refine v_getR (k := 0) (q := 8) C dM_line_22 (by show (0 : Nat) < 18; decide) rfl rfl (by decide) rfl inM lM_30 rfl ?_
        refine v_aload_n C dM_line_25 rfl rfl ?_
        refine v_getI (k := 0) (q := 20) (v := p) C dM_line_26 (by show (0 : Nat) < 18; decide) rfl rfl (by decide) rfl inM lM_144 rfl rfl ?_
        have hb4 := h7 (p).toNat
        refine v_bald (k := 7) (v := σ.2 7 (p).toNat) C dM_line_29 (by show (7 : Nat) < 18; decide) rfl rfl (by omega) (by decide) rfl ?_
        refine v_bipush C dM_line_30 (by decide +kernel) ?_
        refine v_icmp_eq (tgt := 48) C dM_line_32 (by decide) (by omega) (by omega) (fun hc5 => ?_) (fun hc5 => ?_)
        · have hpe : p = m_eol σ a := by first | exact hE1 | exact hE2.elim (fun h => h.2) (fun h => absurd (by omega) h.1)
          refine v_aload_n C dM_line_48 rfl rfl ?_
          refine v_getI (k := 0) (q := 20) (v := p) C dM_line_49 (by show (0 : Nat) < 18; decide) rfl rfl (by decide) rfl inM lM_144 rfl rfl ?_
          refine v_aload_n C dM_line_52 rfl rfl ?_
          refine v_getI (k := 0) (q := 7) (v := σ.1 0 7) C dM_line_53 (by show (0 : Nat) < 18; decide) rfl rfl (by decide) rfl inM lM_116 rfl rfl ?_
          refine v_icmp_ge (tgt := 63) C dM_line_56 (by decide) (by omega) (by omega) (fun hc6 => ?_) (fun hc6 => ?_)
          · refine v_iconst C dM_line_63 ?_
            exact v_zret C hRt hLk dM_line_64 (fN_bool (by omega)) (by first | exact Or.inl ⟨by omega, rfl, by rw [← hpe]⟩ | exact Or.inr ⟨by omega, rfl, by rw [← hpe]⟩)
          · refine v_iconst C dM_line_59 ?_
            refine v_goto (tgt := 64) C dM_line_60 (by decide) ?_
            exact v_zret C hRt hLk dM_line_64 (fN_bool (by omega)) (by first | exact Or.inl ⟨by omega, rfl, by rw [← hpe]⟩ | exact Or.inr ⟨by omega, rfl, by rw [← hpe]⟩)
        · refine v_aload_n C dM_line_35 rfl rfl ?_
          refine v_dup C dM_line_36 rfl ?_
          refine v_getI (k := 0) (q := 20) (v := p) C dM_line_37 (by show (0 : Nat) < 18; decide) rfl rfl (by decide) rfl inM lM_144 rfl rfl ?_
          refine v_iconst C dM_line_40 ?_
          refine v_iadd C dM_line_41 ?_
          refine v_putI (k := 0) (q := 20) C dM_line_42 (by show (0 : Nat) < 18; decide) rfl rfl (by decide) rfl inM tyM_ok nmM lM_144 rfl rfl rfl rfl rfl ?_
          refine v_goto (tgt := 10) C dM_line_45 (by decide) ?_
          exact v_st (m_cl_s σ a p (p + 1)) (ih (p + 1) (by omega) (by omega) (hE2.elim (fun h => absurd h.1 (by omega)) (fun h => h.2)))
  refine v_aload_n C dM_line_0 rfl rfl ?_
  refine v_iload_n C dM_line_1 rfl rfl ?_
  refine v_putI (k := 0) (q := 21) C dM_line_2 (by show (0 : Nat) < 18; decide) rfl rfl (by decide) rfl inM tyM_ok nmM lM_141 rfl rfl rfl rfl rfl ?_
  refine v_aload_n C dM_line_5 rfl rfl ?_
  refine v_iload_n C dM_line_6 rfl rfl ?_
  refine v_putI (k := 0) (q := 20) C dM_line_7 (by show (0 : Nat) < 18; decide) rfl rfl (by decide) rfl inM tyM_ok nmM lM_144 rfl rfl rfl rfl rfl ?_
  exact L (σ.1 0 7 - a).toNat a (by omega) rfl rfl
end
section
/-- the state but for what is used while lines are read: cursor, lineEnd, number, first, second -/
def m_scr (σ σ1 : fS) : Prop := σ1.2 = σ.2 ∧ ∀ a b, ¬ (a = 0 ∧ (b = 20 ∨ b = 21 ∨ b = 22 ∨ b = 26 ∨ b = 27)) → σ1.1 a b = σ.1 a b
theorem m_scr_rf (σ : fS) : m_scr σ σ := ⟨rfl, fun _ _ _ => rfl⟩
theorem m_scr_tr {σ τ υ : fS} (h1 : m_scr σ τ) (h2 : m_scr τ υ) : m_scr σ υ := ⟨h2.1.trans h1.1, fun a b h => (h2.2 a b h).trans (h1.2 a b h)⟩
theorem m_scr_p {σ τ : fS} (h : m_scr σ τ) (q : Nat) (v : Int) (hq : q = 20 ∨ q = 21 ∨ q = 22 ∨ q = 26 ∨ q = 27) : m_scr σ (f_p1 τ 0 q v) := by
  refine ⟨h.1, fun a b hab => ?_⟩
  rw [p1_1, if_neg (by
    intro h9
    exact hab ⟨h9.1, by rw [h9.2]; exact hq⟩)]
  exact h.2 a b hab
theorem m_scr_a {σ σ1 : fS} (h : m_scr σ σ1) (k i : Nat) : σ1.2 k i = σ.2 k i := by rw [h.1]
theorem m_scr_z {σ σ1 : fS} (h : m_scr σ σ1) : σ1.1 0 7 = σ.1 0 7 := h.2 0 7 (by decide)
/-- the lines of a file: f its bytes, z its size -/
def p_eol (f : Nat → Int) (z p : Int) : Int := eolF f (z - p).toNat p
def p_num (f : Nat → Int) (le p : Int) : Int × Int := numF f le 5 p 0
def p_nok (f : Nat → Int) (le p : Int) : Prop := p < (p_num f le p).2 ∧ ((p_num f le p).2 = p + 1 ∨ f p.toNat ≠ 48)
def p_tell (f : Nat → Int) (z p c : Int) : Prop := p_eol f z p < z ∧ (p < p_eol f z p ∧ f p.toNat = c) ∧ (p + 1 < p_eol f z p ∧ f (p + 1).toNat = 32) ∧ p_nok f (p_eol f z p) (p + 2) ∧ (p_num f (p_eol f z p) (p + 2)).2 = p_eol f z p
def p_tv (f : Nat → Int) (z p : Int) : Int := (p_num f (p_eol f z p) (p + 2)).1
theorem p_eol_le {f : Nat → Int} {z p : Int} : p ≤ p_eol f z p ∧ (p_eol f z p ≤ z ∨ p_eol f z p = p) := by
  have h := eolF_le f (z - p).toNat p
  unfold p_eol
  by_cases hz : p ≤ z
  · omega
  · rw [show (z - p).toNat = 0 by omega] at h ⊢
    omega
theorem numF_le (f : Nat → Int) (le : Int) : ∀ (k : Nat) (p v : Int), p ≤ (numF f le k p v).2 ∧ (numF f le k p v).2 ≤ p + k ∧ ((numF f le k p v).2 ≤ le ∨ (numF f le k p v).2 = p) := by
  intro k
  induction k with
  | zero => intro p v; show p ≤ p ∧ p ≤ p + 0 ∧ (p ≤ le ∨ p = p); omega
  | succ k ih =>
    intro p v
    have h := ih (p + 1) (10 * v + f p.toNat - 48)
    unfold numF
    split
    · omega
    · show p ≤ p ∧ p ≤ p + ((k + 1 : Nat) : Int) ∧ (p ≤ le ∨ p = p); omega
theorem numF_v (f : Nat → Int) (le : Int) : ∀ (k : Nat) (p v M : Int), 0 ≤ v → v ≤ M → 0 ≤ (numF f le k p v).1 ∧ (numF f le k p v).1 + 1 ≤ (M + 1) * 10 ^ k := by
  intro k
  induction k with
  | zero => intro p v M h1 h2; show 0 ≤ v ∧ v + 1 ≤ (M + 1) * 1; omega
  | succ k ih =>
    intro p v M h1 h2
    unfold numF
    split
    · rename_i hc
      have h := ih (p + 1) (10 * v + f p.toNat - 48) (10 * M + 9) (by omega) (by omega)
      refine ⟨h.1, ?_⟩
      have e : (10 * M + 9 + 1) * 10 ^ k = (M + 1) * 10 ^ (k + 1) := by rw [Int.pow_succ]; grind
      rw [← e]; exact h.2
    · refine ⟨h1, ?_⟩
      show v + 1 ≤ (M + 1) * 10 ^ (k + 1)
      have hp : (1 : Int) ≤ 10 ^ (k + 1) := Int.pow_pos (by decide)
      have := Int.mul_le_mul_of_nonneg_left hp (show 0 ≤ M + 1 by omega)
      omega
theorem p_num_v (f : Nat → Int) (le p : Int) : 0 ≤ (p_num f le p).1 ∧ (p_num f le p).1 ≤ 99999 := by
  have h := numF_v f le 5 p 0 0 (by omega) (by omega)
  have e : ((0 : Int) + 1) * 10 ^ 5 = 100000 := by decide
  rw [e] at h
  unfold p_num
  omega
theorem p_num_le (f : Nat → Int) (le p : Int) : p ≤ (p_num f le p).2 ∧ (p_num f le p).2 ≤ p + 5 ∧ ((p_num f le p).2 ≤ le ∨ (p_num f le p).2 = p) := numF_le f le 5 p 0

set_option maxRecDepth 100000 in
set_option maxHeartbeats 4000000 in
/-- takesNumber() -/
theorem kM_takesNumber (l : Launch) (xCl : List vw_C) (D : va_G) (cA : Nat → ClassId) (ad : Nat → Nat) (hJ : f_J (mG xCl D cA ad)) (σ : fS) (hu : 0 ≤ σ.1 0 21 ∧ σ.1 0 21 ≤ 100000) (hl : σ.1 0 20 ≤ 12000 ∨ σ.1 0 20 ≤ σ.1 0 21) (hl2 : -2147483648 ≤ σ.1 0 20 ∧ σ.1 0 20 ≤ 2147483647) (hul : σ.1 0 21 ≤ 12000) (h7 : ∀ i, -128 ≤ σ.2 7 i ∧ σ.2 7 i ≤ 127) : f_M l (mG xCl D cA ad) mE yM_takesNumber (Cond.code yM_takesNumber cM_takesNumber 2 (some .boolean) :: A9) 0 σ [.ref (ad 0)] (f_QI (fun r σ1 => m_scr σ σ1 ∧ σ1.1 0 20 = σ.1 0 20 ∧ σ1.1 0 22 = (p_num (σ.2 7) (σ.1 0 20) (σ.1 0 21)).1 ∧ σ1.1 0 21 = (p_num (σ.2 7) (σ.1 0 20) (σ.1 0 21)).2 ∧ σ1.1 0 26 = σ.1 0 26 ∧ σ1.1 0 27 = σ.1 0 27 ∧ ((p_nok (σ.2 7) (σ.1 0 20) (σ.1 0 21) ∧ r = 1) ∨ (¬ p_nok (σ.2 7) (σ.1 0 20) (σ.1 0 21) ∧ r = 0))) (mG xCl D cA ad)) := by
  refine f_enter (by decide +kernel) hJ rfl (Nat.le_of_ble_eq_true rfl) ?_
  intro z hzl hR C hRt hLk hEz
  subst hzl
  have hpl := p_num_le (σ.2 7) (σ.1 0 20) (σ.1 0 21)
  have L : ∀ (k : Nat) (p v : Int), σ.1 0 21 ≤ p → p + k = σ.1 0 21 + 5 → (p ≤ σ.1 0 20 ∨ p = σ.1 0 21) → 0 ≤ v → v + 1 ≤ 10 ^ (5 - k) → numF (σ.2 7) (σ.1 0 20) k p v = p_num (σ.2 7) (σ.1 0 20) (σ.1 0 21) → fv z (mG xCl D cA ad) 2 (f_R z (mG xCl D cA ad) (f_QI (fun r σ1 => m_scr σ σ1 ∧ σ1.1 0 20 = σ.1 0 20 ∧ σ1.1 0 22 = (p_num (σ.2 7) (σ.1 0 20) (σ.1 0 21)).1 ∧ σ1.1 0 21 = (p_num (σ.2 7) (σ.1 0 20) (σ.1 0 21)).2 ∧ σ1.1 0 26 = σ.1 0 26 ∧ σ1.1 0 27 = σ.1 0 27 ∧ ((p_nok (σ.2 7) (σ.1 0 20) (σ.1 0 21) ∧ r = 1) ∨ (¬ p_nok (σ.2 7) (σ.1 0 20) (σ.1 0 21) ∧ r = 0))) (mG xCl D cA ad))) 0 0 (m_nc σ v p) 10 [some (.ref (ad 0)), some (.int (fI (σ.1 0 21)))] [] := by
    intro k
    induction k with
    | zero =>
      intro p v hp hk hle hv0 hv1 hE
      have hb := h7 p.toNat
      have hb0 := h7 (σ.1 0 21).toNat
      have hE1 : (v, p) = p_num (σ.2 7) (σ.1 0 20) (σ.1 0 21) := hE
      have hE3 := congrArg Prod.fst hE1
      have hE4 := congrArg Prod.snd hE1
      dsimp only at hE3 hE4
      refine v_aload_n C dM_takesNumber_10 rfl rfl ?_
      refine v_getI (k := 0) (q := 21) (v := p) C dM_takesNumber_11 (by show (0 : Nat) < 18; decide) rfl rfl (by decide) rfl inM lM_141 rfl rfl ?_
      refine v_aload_n C dM_takesNumber_14 rfl rfl ?_
      refine v_getI (k := 0) (q := 20) (v := σ.1 0 20) C dM_takesNumber_15 (by show (0 : Nat) < 18; decide) rfl rfl (by decide) rfl inM lM_144 rfl rfl ?_
      refine v_icmp_ge (tgt := 96) C dM_takesNumber_18 (by decide) (by omega) (by omega) (fun hc1 => ?_) (fun hc1 => ?_)
      · have hve : v = (p_num (σ.2 7) (σ.1 0 20) (σ.1 0 21)).1 := by first | exact hE3 | exact hE2.elim (fun h => absurd h.1 (by omega)) (fun h => h.2.1)
        have hpe : p = (p_num (σ.2 7) (σ.1 0 20) (σ.1 0 21)).2 := by first | exact hE4 | exact hE2.elim (fun h => absurd h.1 (by omega)) (fun h => h.2.2)
        refine v_aload_n C dM_takesNumber_96 rfl rfl ?_
        refine v_getI (k := 0) (q := 21) (v := p) C dM_takesNumber_97 (by show (0 : Nat) < 18; decide) rfl rfl (by decide) rfl inM lM_141 rfl rfl ?_
        refine v_iload_n C dM_takesNumber_100 rfl rfl ?_
        refine v_icmp_le (tgt := 129) C dM_takesNumber_101 (by decide) (by omega) (by omega) (fun hc2 => ?_) (fun hc2 => ?_)
        · refine v_iconst C dM_takesNumber_129 ?_
          exact v_zret C hRt hLk dM_takesNumber_130 (fN_bool (by omega)) ⟨m_scr_p (m_scr_p (m_scr_rf σ) 22 v (by decide)) 21 p (by decide), rfl, hve, hpe, rfl, rfl, by unfold p_nok; rw [← hpe]; first | exact Or.inl ⟨by omega, rfl⟩ | exact Or.inr ⟨by omega, rfl⟩⟩
        · refine v_aload_n C dM_takesNumber_104 rfl rfl ?_
          refine v_getI (k := 0) (q := 21) (v := p) C dM_takesNumber_105 (by show (0 : Nat) < 18; decide) rfl rfl (by decide) rfl inM lM_141 rfl rfl ?_
          refine v_iload_n C dM_takesNumber_108 rfl rfl ?_
          refine v_isub C dM_takesNumber_109 ?_
          refine v_iconst C dM_takesNumber_110 ?_
          refine v_icmp_eq (tgt := 125) C dM_takesNumber_111 (by decide) (by omega) (by omega) (fun hc3 => ?_) (fun hc3 => ?_)
          · refine v_iconst C dM_takesNumber_125 ?_
            refine v_goto (tgt := 130) C dM_takesNumber_126 (by decide) ?_
            exact v_zret C hRt hLk dM_takesNumber_130 (fN_bool (by omega)) ⟨m_scr_p (m_scr_p (m_scr_rf σ) 22 v (by decide)) 21 p (by decide), rfl, hve, hpe, rfl, rfl, by unfold p_nok; rw [← hpe]; first | exact Or.inl ⟨by omega, rfl⟩ | exact Or.inr ⟨by omega, rfl⟩⟩
          · refine v_aload_n C dM_takesNumber_114 rfl rfl ?_
            refine v_getR (k := 0) (q := 8) C dM_takesNumber_115 (by show (0 : Nat) < 18; decide) rfl rfl (by decide) rfl inM lM_30 rfl ?_
            refine v_iload_n C dM_takesNumber_118 rfl rfl ?_
            have hb4 := h7 (σ.1 0 21).toNat
            refine v_bald (k := 7) (v := σ.2 7 (σ.1 0 21).toNat) C dM_takesNumber_119 (by show (7 : Nat) < 18; decide) rfl rfl (by omega) (by decide) rfl ?_
            refine v_bipush C dM_takesNumber_120 (by decide +kernel) ?_
            refine v_icmp_eq (tgt := 129) C dM_takesNumber_122 (by decide) (by omega) (by omega) (fun hc5 => ?_) (fun hc5 => ?_)
            · refine v_iconst C dM_takesNumber_129 ?_
              exact v_zret C hRt hLk dM_takesNumber_130 (fN_bool (by omega)) ⟨m_scr_p (m_scr_p (m_scr_rf σ) 22 v (by decide)) 21 p (by decide), rfl, hve, hpe, rfl, rfl, by unfold p_nok; rw [← hpe]; first | exact Or.inl ⟨by omega, rfl⟩ | exact Or.inr ⟨by omega, rfl⟩⟩
            · refine v_iconst C dM_takesNumber_125 ?_
              refine v_goto (tgt := 130) C dM_takesNumber_126 (by decide) ?_
              exact v_zret C hRt hLk dM_takesNumber_130 (fN_bool (by omega)) ⟨m_scr_p (m_scr_p (m_scr_rf σ) 22 v (by decide)) 21 p (by decide), rfl, hve, hpe, rfl, rfl, by unfold p_nok; rw [← hpe]; first | exact Or.inl ⟨by omega, rfl⟩ | exact Or.inr ⟨by omega, rfl⟩⟩
      · refine v_aload_n C dM_takesNumber_21 rfl rfl ?_
        refine v_getR (k := 0) (q := 8) C dM_takesNumber_22 (by show (0 : Nat) < 18; decide) rfl rfl (by decide) rfl inM lM_30 rfl ?_
        refine v_aload_n C dM_takesNumber_25 rfl rfl ?_
        refine v_getI (k := 0) (q := 21) (v := p) C dM_takesNumber_26 (by show (0 : Nat) < 18; decide) rfl rfl (by decide) rfl inM lM_141 rfl rfl ?_
        have hb6 := h7 (p).toNat
        refine v_bald (k := 7) (v := σ.2 7 (p).toNat) C dM_takesNumber_29 (by show (7 : Nat) < 18; decide) rfl rfl (by omega) (by decide) rfl ?_
        refine v_bipush C dM_takesNumber_30 (by decide +kernel) ?_
        refine v_icmp_lt (tgt := 96) C dM_takesNumber_32 (by decide) (by omega) (by omega) (fun hc7 => ?_) (fun hc7 => ?_)
        · have hve : v = (p_num (σ.2 7) (σ.1 0 20) (σ.1 0 21)).1 := by first | exact hE3 | exact hE2.elim (fun h => absurd h.1 (by omega)) (fun h => h.2.1)
          have hpe : p = (p_num (σ.2 7) (σ.1 0 20) (σ.1 0 21)).2 := by first | exact hE4 | exact hE2.elim (fun h => absurd h.1 (by omega)) (fun h => h.2.2)
          refine v_aload_n C dM_takesNumber_96 rfl rfl ?_
          refine v_getI (k := 0) (q := 21) (v := p) C dM_takesNumber_97 (by show (0 : Nat) < 18; decide) rfl rfl (by decide) rfl inM lM_141 rfl rfl ?_
          refine v_iload_n C dM_takesNumber_100 rfl rfl ?_
          refine v_icmp_le (tgt := 129) C dM_takesNumber_101 (by decide) (by omega) (by omega) (fun hc8 => ?_) (fun hc8 => ?_)
          · refine v_iconst C dM_takesNumber_129 ?_
            exact v_zret C hRt hLk dM_takesNumber_130 (fN_bool (by omega)) ⟨m_scr_p (m_scr_p (m_scr_rf σ) 22 v (by decide)) 21 p (by decide), rfl, hve, hpe, rfl, rfl, by unfold p_nok; rw [← hpe]; first | exact Or.inl ⟨by omega, rfl⟩ | exact Or.inr ⟨by omega, rfl⟩⟩
          · refine v_aload_n C dM_takesNumber_104 rfl rfl ?_
            refine v_getI (k := 0) (q := 21) (v := p) C dM_takesNumber_105 (by show (0 : Nat) < 18; decide) rfl rfl (by decide) rfl inM lM_141 rfl rfl ?_
            refine v_iload_n C dM_takesNumber_108 rfl rfl ?_
            refine v_isub C dM_takesNumber_109 ?_
            refine v_iconst C dM_takesNumber_110 ?_
            refine v_icmp_eq (tgt := 125) C dM_takesNumber_111 (by decide) (by omega) (by omega) (fun hc9 => ?_) (fun hc9 => ?_)
            · refine v_iconst C dM_takesNumber_125 ?_
              refine v_goto (tgt := 130) C dM_takesNumber_126 (by decide) ?_
              exact v_zret C hRt hLk dM_takesNumber_130 (fN_bool (by omega)) ⟨m_scr_p (m_scr_p (m_scr_rf σ) 22 v (by decide)) 21 p (by decide), rfl, hve, hpe, rfl, rfl, by unfold p_nok; rw [← hpe]; first | exact Or.inl ⟨by omega, rfl⟩ | exact Or.inr ⟨by omega, rfl⟩⟩
            · refine v_aload_n C dM_takesNumber_114 rfl rfl ?_
              refine v_getR (k := 0) (q := 8) C dM_takesNumber_115 (by show (0 : Nat) < 18; decide) rfl rfl (by decide) rfl inM lM_30 rfl ?_
              refine v_iload_n C dM_takesNumber_118 rfl rfl ?_
              have hb10 := h7 (σ.1 0 21).toNat
              refine v_bald (k := 7) (v := σ.2 7 (σ.1 0 21).toNat) C dM_takesNumber_119 (by show (7 : Nat) < 18; decide) rfl rfl (by omega) (by decide) rfl ?_
              refine v_bipush C dM_takesNumber_120 (by decide +kernel) ?_
              refine v_icmp_eq (tgt := 129) C dM_takesNumber_122 (by decide) (by omega) (by omega) (fun hc11 => ?_) (fun hc11 => ?_)
              · refine v_iconst C dM_takesNumber_129 ?_
                exact v_zret C hRt hLk dM_takesNumber_130 (fN_bool (by omega)) ⟨m_scr_p (m_scr_p (m_scr_rf σ) 22 v (by decide)) 21 p (by decide), rfl, hve, hpe, rfl, rfl, by unfold p_nok; rw [← hpe]; first | exact Or.inl ⟨by omega, rfl⟩ | exact Or.inr ⟨by omega, rfl⟩⟩
              · refine v_iconst C dM_takesNumber_125 ?_
                refine v_goto (tgt := 130) C dM_takesNumber_126 (by decide) ?_
                exact v_zret C hRt hLk dM_takesNumber_130 (fN_bool (by omega)) ⟨m_scr_p (m_scr_p (m_scr_rf σ) 22 v (by decide)) 21 p (by decide), rfl, hve, hpe, rfl, rfl, by unfold p_nok; rw [← hpe]; first | exact Or.inl ⟨by omega, rfl⟩ | exact Or.inr ⟨by omega, rfl⟩⟩
        · refine v_aload_n C dM_takesNumber_35 rfl rfl ?_
          refine v_getR (k := 0) (q := 8) C dM_takesNumber_36 (by show (0 : Nat) < 18; decide) rfl rfl (by decide) rfl inM lM_30 rfl ?_
          refine v_aload_n C dM_takesNumber_39 rfl rfl ?_
          refine v_getI (k := 0) (q := 21) (v := p) C dM_takesNumber_40 (by show (0 : Nat) < 18; decide) rfl rfl (by decide) rfl inM lM_141 rfl rfl ?_
          have hb12 := h7 (p).toNat
          refine v_bald (k := 7) (v := σ.2 7 (p).toNat) C dM_takesNumber_43 (by show (7 : Nat) < 18; decide) rfl rfl (by omega) (by decide) rfl ?_
          refine v_bipush C dM_takesNumber_44 (by decide +kernel) ?_
          refine v_icmp_gt (tgt := 96) C dM_takesNumber_46 (by decide) (by omega) (by omega) (fun hc13 => ?_) (fun hc13 => ?_)
          · have hve : v = (p_num (σ.2 7) (σ.1 0 20) (σ.1 0 21)).1 := by first | exact hE3 | exact hE2.elim (fun h => absurd h.1 (by omega)) (fun h => h.2.1)
            have hpe : p = (p_num (σ.2 7) (σ.1 0 20) (σ.1 0 21)).2 := by first | exact hE4 | exact hE2.elim (fun h => absurd h.1 (by omega)) (fun h => h.2.2)
            refine v_aload_n C dM_takesNumber_96 rfl rfl ?_
            refine v_getI (k := 0) (q := 21) (v := p) C dM_takesNumber_97 (by show (0 : Nat) < 18; decide) rfl rfl (by decide) rfl inM lM_141 rfl rfl ?_
            refine v_iload_n C dM_takesNumber_100 rfl rfl ?_
            refine v_icmp_le (tgt := 129) C dM_takesNumber_101 (by decide) (by omega) (by omega) (fun hc14 => ?_) (fun hc14 => ?_)
            · refine v_iconst C dM_takesNumber_129 ?_
              exact v_zret C hRt hLk dM_takesNumber_130 (fN_bool (by omega)) ⟨m_scr_p (m_scr_p (m_scr_rf σ) 22 v (by decide)) 21 p (by decide), rfl, hve, hpe, rfl, rfl, by unfold p_nok; rw [← hpe]; first | exact Or.inl ⟨by omega, rfl⟩ | exact Or.inr ⟨by omega, rfl⟩⟩
            · refine v_aload_n C dM_takesNumber_104 rfl rfl ?_
              refine v_getI (k := 0) (q := 21) (v := p) C dM_takesNumber_105 (by show (0 : Nat) < 18; decide) rfl rfl (by decide) rfl inM lM_141 rfl rfl ?_
              refine v_iload_n C dM_takesNumber_108 rfl rfl ?_
              refine v_isub C dM_takesNumber_109 ?_
              refine v_iconst C dM_takesNumber_110 ?_
              refine v_icmp_eq (tgt := 125) C dM_takesNumber_111 (by decide) (by omega) (by omega) (fun hc15 => ?_) (fun hc15 => ?_)
              · refine v_iconst C dM_takesNumber_125 ?_
                refine v_goto (tgt := 130) C dM_takesNumber_126 (by decide) ?_
                exact v_zret C hRt hLk dM_takesNumber_130 (fN_bool (by omega)) ⟨m_scr_p (m_scr_p (m_scr_rf σ) 22 v (by decide)) 21 p (by decide), rfl, hve, hpe, rfl, rfl, by unfold p_nok; rw [← hpe]; first | exact Or.inl ⟨by omega, rfl⟩ | exact Or.inr ⟨by omega, rfl⟩⟩
              · refine v_aload_n C dM_takesNumber_114 rfl rfl ?_
                refine v_getR (k := 0) (q := 8) C dM_takesNumber_115 (by show (0 : Nat) < 18; decide) rfl rfl (by decide) rfl inM lM_30 rfl ?_
                refine v_iload_n C dM_takesNumber_118 rfl rfl ?_
                have hb16 := h7 (σ.1 0 21).toNat
                refine v_bald (k := 7) (v := σ.2 7 (σ.1 0 21).toNat) C dM_takesNumber_119 (by show (7 : Nat) < 18; decide) rfl rfl (by omega) (by decide) rfl ?_
                refine v_bipush C dM_takesNumber_120 (by decide +kernel) ?_
                refine v_icmp_eq (tgt := 129) C dM_takesNumber_122 (by decide) (by omega) (by omega) (fun hc17 => ?_) (fun hc17 => ?_)
                · refine v_iconst C dM_takesNumber_129 ?_
                  exact v_zret C hRt hLk dM_takesNumber_130 (fN_bool (by omega)) ⟨m_scr_p (m_scr_p (m_scr_rf σ) 22 v (by decide)) 21 p (by decide), rfl, hve, hpe, rfl, rfl, by unfold p_nok; rw [← hpe]; first | exact Or.inl ⟨by omega, rfl⟩ | exact Or.inr ⟨by omega, rfl⟩⟩
                · refine v_iconst C dM_takesNumber_125 ?_
                  refine v_goto (tgt := 130) C dM_takesNumber_126 (by decide) ?_
                  exact v_zret C hRt hLk dM_takesNumber_130 (fN_bool (by omega)) ⟨m_scr_p (m_scr_p (m_scr_rf σ) 22 v (by decide)) 21 p (by decide), rfl, hve, hpe, rfl, rfl, by unfold p_nok; rw [← hpe]; first | exact Or.inl ⟨by omega, rfl⟩ | exact Or.inr ⟨by omega, rfl⟩⟩
          · refine v_aload_n C dM_takesNumber_49 rfl rfl ?_
            refine v_getI (k := 0) (q := 21) (v := p) C dM_takesNumber_50 (by show (0 : Nat) < 18; decide) rfl rfl (by decide) rfl inM lM_141 rfl rfl ?_
            refine v_iload_n C dM_takesNumber_53 rfl rfl ?_
            refine v_isub C dM_takesNumber_54 ?_
            refine v_iconst C dM_takesNumber_55 ?_
            refine v_icmp_ge (tgt := 96) C dM_takesNumber_56 (by decide) (by omega) (by omega) (fun hc18 => ?_) (fun hc18 => ?_)
            · have hve : v = (p_num (σ.2 7) (σ.1 0 20) (σ.1 0 21)).1 := by first | exact hE3 | exact hE2.elim (fun h => absurd h.1 (by omega)) (fun h => h.2.1)
              have hpe : p = (p_num (σ.2 7) (σ.1 0 20) (σ.1 0 21)).2 := by first | exact hE4 | exact hE2.elim (fun h => absurd h.1 (by omega)) (fun h => h.2.2)
              refine v_aload_n C dM_takesNumber_96 rfl rfl ?_
              refine v_getI (k := 0) (q := 21) (v := p) C dM_takesNumber_97 (by show (0 : Nat) < 18; decide) rfl rfl (by decide) rfl inM lM_141 rfl rfl ?_
              refine v_iload_n C dM_takesNumber_100 rfl rfl ?_
              refine v_icmp_le (tgt := 129) C dM_takesNumber_101 (by decide) (by omega) (by omega) (fun hc19 => ?_) (fun hc19 => ?_)
              · refine v_iconst C dM_takesNumber_129 ?_
                exact v_zret C hRt hLk dM_takesNumber_130 (fN_bool (by omega)) ⟨m_scr_p (m_scr_p (m_scr_rf σ) 22 v (by decide)) 21 p (by decide), rfl, hve, hpe, rfl, rfl, by unfold p_nok; rw [← hpe]; first | exact Or.inl ⟨by omega, rfl⟩ | exact Or.inr ⟨by omega, rfl⟩⟩
              · refine v_aload_n C dM_takesNumber_104 rfl rfl ?_
                refine v_getI (k := 0) (q := 21) (v := p) C dM_takesNumber_105 (by show (0 : Nat) < 18; decide) rfl rfl (by decide) rfl inM lM_141 rfl rfl ?_
                refine v_iload_n C dM_takesNumber_108 rfl rfl ?_
                refine v_isub C dM_takesNumber_109 ?_
                refine v_iconst C dM_takesNumber_110 ?_
                refine v_icmp_eq (tgt := 125) C dM_takesNumber_111 (by decide) (by omega) (by omega) (fun hc20 => ?_) (fun hc20 => ?_)
                · refine v_iconst C dM_takesNumber_125 ?_
                  refine v_goto (tgt := 130) C dM_takesNumber_126 (by decide) ?_
                  exact v_zret C hRt hLk dM_takesNumber_130 (fN_bool (by omega)) ⟨m_scr_p (m_scr_p (m_scr_rf σ) 22 v (by decide)) 21 p (by decide), rfl, hve, hpe, rfl, rfl, by unfold p_nok; rw [← hpe]; first | exact Or.inl ⟨by omega, rfl⟩ | exact Or.inr ⟨by omega, rfl⟩⟩
                · refine v_aload_n C dM_takesNumber_114 rfl rfl ?_
                  refine v_getR (k := 0) (q := 8) C dM_takesNumber_115 (by show (0 : Nat) < 18; decide) rfl rfl (by decide) rfl inM lM_30 rfl ?_
                  refine v_iload_n C dM_takesNumber_118 rfl rfl ?_
                  have hb21 := h7 (σ.1 0 21).toNat
                  refine v_bald (k := 7) (v := σ.2 7 (σ.1 0 21).toNat) C dM_takesNumber_119 (by show (7 : Nat) < 18; decide) rfl rfl (by omega) (by decide) rfl ?_
                  refine v_bipush C dM_takesNumber_120 (by decide +kernel) ?_
                  refine v_icmp_eq (tgt := 129) C dM_takesNumber_122 (by decide) (by omega) (by omega) (fun hc22 => ?_) (fun hc22 => ?_)
                  · refine v_iconst C dM_takesNumber_129 ?_
                    exact v_zret C hRt hLk dM_takesNumber_130 (fN_bool (by omega)) ⟨m_scr_p (m_scr_p (m_scr_rf σ) 22 v (by decide)) 21 p (by decide), rfl, hve, hpe, rfl, rfl, by unfold p_nok; rw [← hpe]; first | exact Or.inl ⟨by omega, rfl⟩ | exact Or.inr ⟨by omega, rfl⟩⟩
                  · refine v_iconst C dM_takesNumber_125 ?_
                    refine v_goto (tgt := 130) C dM_takesNumber_126 (by decide) ?_
                    exact v_zret C hRt hLk dM_takesNumber_130 (fN_bool (by omega)) ⟨m_scr_p (m_scr_p (m_scr_rf σ) 22 v (by decide)) 21 p (by decide), rfl, hve, hpe, rfl, rfl, by unfold p_nok; rw [← hpe]; first | exact Or.inl ⟨by omega, rfl⟩ | exact Or.inr ⟨by omega, rfl⟩⟩
            · exfalso; omega
    | succ k ih =>
      intro p v hp hk hle hv0 hv1 hE
      have hb := h7 p.toNat
      have hb0 := h7 (σ.1 0 21).toNat
      unfold numF at hE
      have h10 : (10 : Int) ^ (5 - k) = 10 ^ (5 - (k + 1)) * 10 := by rw [← Int.pow_succ]; congr 1; omega
      have hE2 : ((p < σ.1 0 20 ∧ 48 ≤ σ.2 7 p.toNat ∧ σ.2 7 p.toNat ≤ 57) ∧ numF (σ.2 7) (σ.1 0 20) k (p + 1) (10 * v + σ.2 7 p.toNat - 48) = p_num (σ.2 7) (σ.1 0 20) (σ.1 0 21)) ∨ (¬ (p < σ.1 0 20 ∧ 48 ≤ σ.2 7 p.toNat ∧ σ.2 7 p.toNat ≤ 57) ∧ v = (p_num (σ.2 7) (σ.1 0 20) (σ.1 0 21)).1 ∧ p = (p_num (σ.2 7) (σ.1 0 20) (σ.1 0 21)).2) := by
        by_cases h9 : p < σ.1 0 20 ∧ 48 ≤ σ.2 7 p.toNat ∧ σ.2 7 p.toNat ≤ 57
        · rw [if_pos h9] at hE; exact Or.inl ⟨h9, hE⟩
        · rw [if_neg h9] at hE; exact Or.inr ⟨h9, congrArg Prod.fst hE, congrArg Prod.snd hE⟩
      refine v_aload_n C dM_takesNumber_10 rfl rfl ?_
      refine v_getI (k := 0) (q := 21) (v := p) C dM_takesNumber_11 (by show (0 : Nat) < 18; decide) rfl rfl (by decide) rfl inM lM_141 rfl rfl ?_
      refine v_aload_n C dM_takesNumber_14 rfl rfl ?_
      refine v_getI (k := 0) (q := 20) (v := σ.1 0 20) C dM_takesNumber_15 (by show (0 : Nat) < 18; decide) rfl rfl (by decide) rfl inM lM_144 rfl rfl ?_
      refine v_icmp_ge (tgt := 96) C dM_takesNumber_18 (by decide) (by omega) (by omega) (fun hc23 => ?_) (fun hc23 => ?_)
      · have hve : v = (p_num (σ.2 7) (σ.1 0 20) (σ.1 0 21)).1 := by first | exact hE3 | exact hE2.elim (fun h => absurd h.1 (by omega)) (fun h => h.2.1)
        have hpe : p = (p_num (σ.2 7) (σ.1 0 20) (σ.1 0 21)).2 := by first | exact hE4 | exact hE2.elim (fun h => absurd h.1 (by omega)) (fun h => h.2.2)
        refine v_aload_n C dM_takesNumber_96 rfl rfl ?_
        refine v_getI (k := 0) (q := 21) (v := p) C dM_takesNumber_97 (by show (0 : Nat) < 18; decide) rfl rfl (by decide) rfl inM lM_141 rfl rfl ?_
        refine v_iload_n C dM_takesNumber_100 rfl rfl ?_
        refine v_icmp_le (tgt := 129) C dM_takesNumber_101 (by decide) (by omega) (by omega) (fun hc24 => ?_) (fun hc24 => ?_)
        · refine v_iconst C dM_takesNumber_129 ?_
          exact v_zret C hRt hLk dM_takesNumber_130 (fN_bool (by omega)) ⟨m_scr_p (m_scr_p (m_scr_rf σ) 22 v (by decide)) 21 p (by decide), rfl, hve, hpe, rfl, rfl, by unfold p_nok; rw [← hpe]; first | exact Or.inl ⟨by omega, rfl⟩ | exact Or.inr ⟨by omega, rfl⟩⟩
        · refine v_aload_n C dM_takesNumber_104 rfl rfl ?_
          refine v_getI (k := 0) (q := 21) (v := p) C dM_takesNumber_105 (by show (0 : Nat) < 18; decide) rfl rfl (by decide) rfl inM lM_141 rfl rfl ?_
          refine v_iload_n C dM_takesNumber_108 rfl rfl ?_
          refine v_isub C dM_takesNumber_109 ?_
          refine v_iconst C dM_takesNumber_110 ?_
          refine v_icmp_eq (tgt := 125) C dM_takesNumber_111 (by decide) (by omega) (by omega) (fun hc25 => ?_) (fun hc25 => ?_)
          · refine v_iconst C dM_takesNumber_125 ?_
            refine v_goto (tgt := 130) C dM_takesNumber_126 (by decide) ?_
            exact v_zret C hRt hLk dM_takesNumber_130 (fN_bool (by omega)) ⟨m_scr_p (m_scr_p (m_scr_rf σ) 22 v (by decide)) 21 p (by decide), rfl, hve, hpe, rfl, rfl, by unfold p_nok; rw [← hpe]; first | exact Or.inl ⟨by omega, rfl⟩ | exact Or.inr ⟨by omega, rfl⟩⟩
          · refine v_aload_n C dM_takesNumber_114 rfl rfl ?_
            refine v_getR (k := 0) (q := 8) C dM_takesNumber_115 (by show (0 : Nat) < 18; decide) rfl rfl (by decide) rfl inM lM_30 rfl ?_
            refine v_iload_n C dM_takesNumber_118 rfl rfl ?_
            have hb26 := h7 (σ.1 0 21).toNat
            refine v_bald (k := 7) (v := σ.2 7 (σ.1 0 21).toNat) C dM_takesNumber_119 (by show (7 : Nat) < 18; decide) rfl rfl (by omega) (by decide) rfl ?_
            refine v_bipush C dM_takesNumber_120 (by decide +kernel) ?_
            refine v_icmp_eq (tgt := 129) C dM_takesNumber_122 (by decide) (by omega) (by omega) (fun hc27 => ?_) (fun hc27 => ?_)
            · refine v_iconst C dM_takesNumber_129 ?_
              exact v_zret C hRt hLk dM_takesNumber_130 (fN_bool (by omega)) ⟨m_scr_p (m_scr_p (m_scr_rf σ) 22 v (by decide)) 21 p (by decide), rfl, hve, hpe, rfl, rfl, by unfold p_nok; rw [← hpe]; first | exact Or.inl ⟨by omega, rfl⟩ | exact Or.inr ⟨by omega, rfl⟩⟩
            · refine v_iconst C dM_takesNumber_125 ?_
              refine v_goto (tgt := 130) C dM_takesNumber_126 (by decide) ?_
              exact v_zret C hRt hLk dM_takesNumber_130 (fN_bool (by omega)) ⟨m_scr_p (m_scr_p (m_scr_rf σ) 22 v (by decide)) 21 p (by decide), rfl, hve, hpe, rfl, rfl, by unfold p_nok; rw [← hpe]; first | exact Or.inl ⟨by omega, rfl⟩ | exact Or.inr ⟨by omega, rfl⟩⟩
      · refine v_aload_n C dM_takesNumber_21 rfl rfl ?_
        refine v_getR (k := 0) (q := 8) C dM_takesNumber_22 (by show (0 : Nat) < 18; decide) rfl rfl (by decide) rfl inM lM_30 rfl ?_
        refine v_aload_n C dM_takesNumber_25 rfl rfl ?_
        refine v_getI (k := 0) (q := 21) (v := p) C dM_takesNumber_26 (by show (0 : Nat) < 18; decide) rfl rfl (by decide) rfl inM lM_141 rfl rfl ?_
        have hb28 := h7 (p).toNat
        refine v_bald (k := 7) (v := σ.2 7 (p).toNat) C dM_takesNumber_29 (by show (7 : Nat) < 18; decide) rfl rfl (by omega) (by decide) rfl ?_
        refine v_bipush C dM_takesNumber_30 (by decide +kernel) ?_
        refine v_icmp_lt (tgt := 96) C dM_takesNumber_32 (by decide) (by omega) (by omega) (fun hc29 => ?_) (fun hc29 => ?_)
        · have hve : v = (p_num (σ.2 7) (σ.1 0 20) (σ.1 0 21)).1 := by first | exact hE3 | exact hE2.elim (fun h => absurd h.1 (by omega)) (fun h => h.2.1)
          have hpe : p = (p_num (σ.2 7) (σ.1 0 20) (σ.1 0 21)).2 := by first | exact hE4 | exact hE2.elim (fun h => absurd h.1 (by omega)) (fun h => h.2.2)
          refine v_aload_n C dM_takesNumber_96 rfl rfl ?_
          refine v_getI (k := 0) (q := 21) (v := p) C dM_takesNumber_97 (by show (0 : Nat) < 18; decide) rfl rfl (by decide) rfl inM lM_141 rfl rfl ?_
          refine v_iload_n C dM_takesNumber_100 rfl rfl ?_
          refine v_icmp_le (tgt := 129) C dM_takesNumber_101 (by decide) (by omega) (by omega) (fun hc30 => ?_) (fun hc30 => ?_)
          · refine v_iconst C dM_takesNumber_129 ?_
            exact v_zret C hRt hLk dM_takesNumber_130 (fN_bool (by omega)) ⟨m_scr_p (m_scr_p (m_scr_rf σ) 22 v (by decide)) 21 p (by decide), rfl, hve, hpe, rfl, rfl, by unfold p_nok; rw [← hpe]; first | exact Or.inl ⟨by omega, rfl⟩ | exact Or.inr ⟨by omega, rfl⟩⟩
          · refine v_aload_n C dM_takesNumber_104 rfl rfl ?_
            refine v_getI (k := 0) (q := 21) (v := p) C dM_takesNumber_105 (by show (0 : Nat) < 18; decide) rfl rfl (by decide) rfl inM lM_141 rfl rfl ?_
            refine v_iload_n C dM_takesNumber_108 rfl rfl ?_
            refine v_isub C dM_takesNumber_109 ?_
            refine v_iconst C dM_takesNumber_110 ?_
            refine v_icmp_eq (tgt := 125) C dM_takesNumber_111 (by decide) (by omega) (by omega) (fun hc31 => ?_) (fun hc31 => ?_)
            · refine v_iconst C dM_takesNumber_125 ?_
              refine v_goto (tgt := 130) C dM_takesNumber_126 (by decide) ?_
              exact v_zret C hRt hLk dM_takesNumber_130 (fN_bool (by omega)) ⟨m_scr_p (m_scr_p (m_scr_rf σ) 22 v (by decide)) 21 p (by decide), rfl, hve, hpe, rfl, rfl, by unfold p_nok; rw [← hpe]; first | exact Or.inl ⟨by omega, rfl⟩ | exact Or.inr ⟨by omega, rfl⟩⟩
            · refine v_aload_n C dM_takesNumber_114 rfl rfl ?_
              refine v_getR (k := 0) (q := 8) C dM_takesNumber_115 (by show (0 : Nat) < 18; decide) rfl rfl (by decide) rfl inM lM_30 rfl ?_
              refine v_iload_n C dM_takesNumber_118 rfl rfl ?_
              have hb32 := h7 (σ.1 0 21).toNat
              refine v_bald (k := 7) (v := σ.2 7 (σ.1 0 21).toNat) C dM_takesNumber_119 (by show (7 : Nat) < 18; decide) rfl rfl (by omega) (by decide) rfl ?_
              refine v_bipush C dM_takesNumber_120 (by decide +kernel) ?_
              refine v_icmp_eq (tgt := 129) C dM_takesNumber_122 (by decide) (by omega) (by omega) (fun hc33 => ?_) (fun hc33 => ?_)
              · refine v_iconst C dM_takesNumber_129 ?_
                exact v_zret C hRt hLk dM_takesNumber_130 (fN_bool (by omega)) ⟨m_scr_p (m_scr_p (m_scr_rf σ) 22 v (by decide)) 21 p (by decide), rfl, hve, hpe, rfl, rfl, by unfold p_nok; rw [← hpe]; first | exact Or.inl ⟨by omega, rfl⟩ | exact Or.inr ⟨by omega, rfl⟩⟩
              · refine v_iconst C dM_takesNumber_125 ?_
                refine v_goto (tgt := 130) C dM_takesNumber_126 (by decide) ?_
                exact v_zret C hRt hLk dM_takesNumber_130 (fN_bool (by omega)) ⟨m_scr_p (m_scr_p (m_scr_rf σ) 22 v (by decide)) 21 p (by decide), rfl, hve, hpe, rfl, rfl, by unfold p_nok; rw [← hpe]; first | exact Or.inl ⟨by omega, rfl⟩ | exact Or.inr ⟨by omega, rfl⟩⟩
        · refine v_aload_n C dM_takesNumber_35 rfl rfl ?_
          refine v_getR (k := 0) (q := 8) C dM_takesNumber_36 (by show (0 : Nat) < 18; decide) rfl rfl (by decide) rfl inM lM_30 rfl ?_
          refine v_aload_n C dM_takesNumber_39 rfl rfl ?_
          refine v_getI (k := 0) (q := 21) (v := p) C dM_takesNumber_40 (by show (0 : Nat) < 18; decide) rfl rfl (by decide) rfl inM lM_141 rfl rfl ?_
          have hb34 := h7 (p).toNat
          refine v_bald (k := 7) (v := σ.2 7 (p).toNat) C dM_takesNumber_43 (by show (7 : Nat) < 18; decide) rfl rfl (by omega) (by decide) rfl ?_
          refine v_bipush C dM_takesNumber_44 (by decide +kernel) ?_
          refine v_icmp_gt (tgt := 96) C dM_takesNumber_46 (by decide) (by omega) (by omega) (fun hc35 => ?_) (fun hc35 => ?_)
          · have hve : v = (p_num (σ.2 7) (σ.1 0 20) (σ.1 0 21)).1 := by first | exact hE3 | exact hE2.elim (fun h => absurd h.1 (by omega)) (fun h => h.2.1)
            have hpe : p = (p_num (σ.2 7) (σ.1 0 20) (σ.1 0 21)).2 := by first | exact hE4 | exact hE2.elim (fun h => absurd h.1 (by omega)) (fun h => h.2.2)
            refine v_aload_n C dM_takesNumber_96 rfl rfl ?_
            refine v_getI (k := 0) (q := 21) (v := p) C dM_takesNumber_97 (by show (0 : Nat) < 18; decide) rfl rfl (by decide) rfl inM lM_141 rfl rfl ?_
            refine v_iload_n C dM_takesNumber_100 rfl rfl ?_
            refine v_icmp_le (tgt := 129) C dM_takesNumber_101 (by decide) (by omega) (by omega) (fun hc36 => ?_) (fun hc36 => ?_)
            · refine v_iconst C dM_takesNumber_129 ?_
              exact v_zret C hRt hLk dM_takesNumber_130 (fN_bool (by omega)) ⟨m_scr_p (m_scr_p (m_scr_rf σ) 22 v (by decide)) 21 p (by decide), rfl, hve, hpe, rfl, rfl, by unfold p_nok; rw [← hpe]; first | exact Or.inl ⟨by omega, rfl⟩ | exact Or.inr ⟨by omega, rfl⟩⟩
            · refine v_aload_n C dM_takesNumber_104 rfl rfl ?_
              refine v_getI (k := 0) (q := 21) (v := p) C dM_takesNumber_105 (by show (0 : Nat) < 18; decide) rfl rfl (by decide) rfl inM lM_141 rfl rfl ?_
              refine v_iload_n C dM_takesNumber_108 rfl rfl ?_
              refine v_isub C dM_takesNumber_109 ?_
              refine v_iconst C dM_takesNumber_110 ?_
              refine v_icmp_eq (tgt := 125) C dM_takesNumber_111 (by decide) (by omega) (by omega) (fun hc37 => ?_) (fun hc37 => ?_)
              · refine v_iconst C dM_takesNumber_125 ?_
                refine v_goto (tgt := 130) C dM_takesNumber_126 (by decide) ?_
                exact v_zret C hRt hLk dM_takesNumber_130 (fN_bool (by omega)) ⟨m_scr_p (m_scr_p (m_scr_rf σ) 22 v (by decide)) 21 p (by decide), rfl, hve, hpe, rfl, rfl, by unfold p_nok; rw [← hpe]; first | exact Or.inl ⟨by omega, rfl⟩ | exact Or.inr ⟨by omega, rfl⟩⟩
              · refine v_aload_n C dM_takesNumber_114 rfl rfl ?_
                refine v_getR (k := 0) (q := 8) C dM_takesNumber_115 (by show (0 : Nat) < 18; decide) rfl rfl (by decide) rfl inM lM_30 rfl ?_
                refine v_iload_n C dM_takesNumber_118 rfl rfl ?_
                have hb38 := h7 (σ.1 0 21).toNat
                refine v_bald (k := 7) (v := σ.2 7 (σ.1 0 21).toNat) C dM_takesNumber_119 (by show (7 : Nat) < 18; decide) rfl rfl (by omega) (by decide) rfl ?_
                refine v_bipush C dM_takesNumber_120 (by decide +kernel) ?_
                refine v_icmp_eq (tgt := 129) C dM_takesNumber_122 (by decide) (by omega) (by omega) (fun hc39 => ?_) (fun hc39 => ?_)
                · refine v_iconst C dM_takesNumber_129 ?_
                  exact v_zret C hRt hLk dM_takesNumber_130 (fN_bool (by omega)) ⟨m_scr_p (m_scr_p (m_scr_rf σ) 22 v (by decide)) 21 p (by decide), rfl, hve, hpe, rfl, rfl, by unfold p_nok; rw [← hpe]; first | exact Or.inl ⟨by omega, rfl⟩ | exact Or.inr ⟨by omega, rfl⟩⟩
                · refine v_iconst C dM_takesNumber_125 ?_
                  refine v_goto (tgt := 130) C dM_takesNumber_126 (by decide) ?_
                  exact v_zret C hRt hLk dM_takesNumber_130 (fN_bool (by omega)) ⟨m_scr_p (m_scr_p (m_scr_rf σ) 22 v (by decide)) 21 p (by decide), rfl, hve, hpe, rfl, rfl, by unfold p_nok; rw [← hpe]; first | exact Or.inl ⟨by omega, rfl⟩ | exact Or.inr ⟨by omega, rfl⟩⟩
          · refine v_aload_n C dM_takesNumber_49 rfl rfl ?_
            refine v_getI (k := 0) (q := 21) (v := p) C dM_takesNumber_50 (by show (0 : Nat) < 18; decide) rfl rfl (by decide) rfl inM lM_141 rfl rfl ?_
            refine v_iload_n C dM_takesNumber_53 rfl rfl ?_
            refine v_isub C dM_takesNumber_54 ?_
            refine v_iconst C dM_takesNumber_55 ?_
            refine v_icmp_ge (tgt := 96) C dM_takesNumber_56 (by decide) (by omega) (by omega) (fun hc40 => ?_) (fun hc40 => ?_)
            · exfalso; omega
            · refine v_aload_n C dM_takesNumber_59 rfl rfl ?_
              refine v_bipush C dM_takesNumber_60 (by decide +kernel) ?_
              refine v_aload_n C dM_takesNumber_62 rfl rfl ?_
              refine v_getI (k := 0) (q := 22) (v := v) C dM_takesNumber_63 (by show (0 : Nat) < 18; decide) rfl rfl (by decide) rfl inM lM_147 rfl rfl ?_
              refine v_imul C dM_takesNumber_66 ?_
              refine v_aload_n C dM_takesNumber_67 rfl rfl ?_
              refine v_getR (k := 0) (q := 8) C dM_takesNumber_68 (by show (0 : Nat) < 18; decide) rfl rfl (by decide) rfl inM lM_30 rfl ?_
              refine v_aload_n C dM_takesNumber_71 rfl rfl ?_
              refine v_getI (k := 0) (q := 21) (v := p) C dM_takesNumber_72 (by show (0 : Nat) < 18; decide) rfl rfl (by decide) rfl inM lM_141 rfl rfl ?_
              have hb41 := h7 (p).toNat
              refine v_bald (k := 7) (v := σ.2 7 (p).toNat) C dM_takesNumber_75 (by show (7 : Nat) < 18; decide) rfl rfl (by omega) (by decide) rfl ?_
              refine v_iadd C dM_takesNumber_76 ?_
              refine v_bipush C dM_takesNumber_77 (by decide +kernel) ?_
              refine v_isub C dM_takesNumber_79 ?_
              refine v_putI (k := 0) (q := 22) C dM_takesNumber_80 (by show (0 : Nat) < 18; decide) rfl rfl (by decide) rfl inM tyM_ok nmM lM_147 rfl rfl rfl rfl rfl ?_
              refine v_aload_n C dM_takesNumber_83 rfl rfl ?_
              refine v_dup C dM_takesNumber_84 rfl ?_
              refine v_getI (k := 0) (q := 21) (v := p) C dM_takesNumber_85 (by show (0 : Nat) < 18; decide) rfl rfl (by decide) rfl inM lM_141 rfl rfl ?_
              refine v_iconst C dM_takesNumber_88 ?_
              refine v_iadd C dM_takesNumber_89 ?_
              refine v_putI (k := 0) (q := 21) C dM_takesNumber_90 (by show (0 : Nat) < 18; decide) rfl rfl (by decide) rfl inM tyM_ok nmM lM_141 rfl rfl rfl rfl rfl ?_
              refine v_goto (tgt := 10) C dM_takesNumber_93 (by decide) ?_
              exact v_st (m_nc_s σ v p _ _) (ih (p + 1) _ (by omega) (by omega) (by omega) (by omega) (by omega) (hE2.elim (fun h => h.2) (fun h => absurd (by omega) h.1)))
  refine v_aload_n C dM_takesNumber_0 rfl rfl ?_
  refine v_getI (k := 0) (q := 21) (v := σ.1 0 21) C dM_takesNumber_1 (by show (0 : Nat) < 18; decide) rfl rfl (by decide) rfl inM lM_141 rfl rfl ?_
  refine v_istore_n C dM_takesNumber_4 rfl (by decide) ?_
  refine v_aload_n C dM_takesNumber_5 rfl rfl ?_
  refine v_iconst C dM_takesNumber_6 ?_
  refine v_putI (k := 0) (q := 22) C dM_takesNumber_7 (by show (0 : Nat) < 18; decide) rfl rfl (by decide) rfl inM tyM_ok nmM lM_147 rfl rfl rfl rfl rfl ?_
  exact v_st (m_nc_0 σ) (L 5 (σ.1 0 21) 0 (by omega) (by omega) (by omega) (by omega) (by decide) rfl)
end
section
theorem kM_line2 (l : Launch) (xCl : List vw_C) (D : va_G) (cA : Nat → ClassId) (ad : Nat → Nat) (hJ : f_J (mG xCl D cA ad)) (σ : fS) (a : Int) (ha : 0 ≤ a ∧ a ≤ 100000) (hz : 0 ≤ σ.1 0 7 ∧ σ.1 0 7 ≤ 12000) (h7 : ∀ i, -128 ≤ σ.2 7 i ∧ σ.2 7 i ≤ 127) : f_M l (mG xCl D cA ad) mE yM_line (Cond.code yM_line cM_line 2 (some .boolean) :: A9) 0 σ [.ref (ad 0), .int (fI a)] (f_QI (fun r σ1 => m_scr σ σ1 ∧ σ1.1 0 21 = a ∧ σ1.1 0 20 = p_eol (σ.2 7) (σ.1 0 7) a ∧ σ1.1 0 22 = σ.1 0 22 ∧ σ1.1 0 26 = σ.1 0 26 ∧ σ1.1 0 27 = σ.1 0 27 ∧ ((p_eol (σ.2 7) (σ.1 0 7) a < σ.1 0 7 ∧ r = 1) ∨ (¬ p_eol (σ.2 7) (σ.1 0 7) a < σ.1 0 7 ∧ r = 0))) (mG xCl D cA ad)) :=
  f_weakI (kM_line l xCl D cA ad hJ σ a ha hz h7) (fun r σ1 h => by
    rcases h with ⟨h1, h2, rfl⟩ | ⟨h1, h2, rfl⟩
    · exact ⟨m_scr_p (m_scr_p (m_scr_rf σ) 21 a (by decide)) 20 _ (by decide), rfl, rfl, rfl, rfl, rfl, Or.inl ⟨h1, h2⟩⟩
    · exact ⟨m_scr_p (m_scr_p (m_scr_rf σ) 21 a (by decide)) 20 _ (by decide), rfl, rfl, rfl, rfl, rfl, Or.inr ⟨h1, h2⟩⟩)
theorem kM_takes2 (l : Launch) (xCl : List vw_C) (D : va_G) (cA : Nat → ClassId) (ad : Nat → Nat) (hJ : f_J (mG xCl D cA ad)) (σ : fS) (c : Int) (hc : -128 ≤ c ∧ c ≤ 127) (hu : 0 ≤ σ.1 0 21 ∧ σ.1 0 21 ≤ 100000) (he : σ.1 0 20 ≤ 12000 ∨ σ.1 0 20 ≤ σ.1 0 21) (hl : -2147483648 ≤ σ.1 0 20 ∧ σ.1 0 20 ≤ 2147483647) (h7 : ∀ i, -128 ≤ σ.2 7 i ∧ σ.2 7 i ≤ 127) : f_M l (mG xCl D cA ad) mE yM_takes (Cond.code yM_takes cM_takes 3 (some .boolean) :: A9) 0 σ [.ref (ad 0), .int (fI c)] (f_QI (fun r σ1 => m_scr σ σ1 ∧ σ1.1 0 20 = σ.1 0 20 ∧ σ1.1 0 22 = σ.1 0 22 ∧ σ1.1 0 26 = σ.1 0 26 ∧ σ1.1 0 27 = σ.1 0 27 ∧ (((σ.1 0 21 < σ.1 0 20 ∧ σ.2 7 (σ.1 0 21).toNat = c) ∧ r = 1 ∧ σ1.1 0 21 = σ.1 0 21 + 1) ∨ (¬ (σ.1 0 21 < σ.1 0 20 ∧ σ.2 7 (σ.1 0 21).toNat = c) ∧ r = 0 ∧ σ1.1 0 21 = σ.1 0 21))) (mG xCl D cA ad)) :=
  f_weakI (kM_takes l xCl D cA ad hJ σ c hc hu he hl h7) (fun r σ1 h => by
    rcases h with ⟨h1, h2, rfl⟩ | ⟨h1, h2, h3⟩
    · exact ⟨m_scr_p (m_scr_rf σ) 21 _ (by decide), rfl, rfl, rfl, rfl, Or.inl ⟨h1, h2, rfl⟩⟩
    · subst σ1; exact ⟨m_scr_rf σ, rfl, rfl, rfl, rfl, Or.inr ⟨h1, h2, rfl⟩⟩)
theorem kM_isOver2 (l : Launch) (xCl : List vw_C) (D : va_G) (cA : Nat → ClassId) (ad : Nat → Nat) (hJ : f_J (mG xCl D cA ad)) (σ : fS) (hc : -2147483648 ≤ σ.1 0 21 ∧ σ.1 0 21 ≤ 2147483647) (hl : -2147483648 ≤ σ.1 0 20 ∧ σ.1 0 20 ≤ 2147483647) : f_M l (mG xCl D cA ad) mE yM_isOver (Cond.code yM_isOver cM_isOver 1 (some .boolean) :: A9) 0 σ [.ref (ad 0)] (f_QI (fun r σ1 => (σ.1 0 21 = σ.1 0 20 ∧ r = 1 ∧ σ1 = σ) ∨ (¬ σ.1 0 21 = σ.1 0 20 ∧ r = 0 ∧ σ1 = σ)) (mG xCl D cA ad)) :=
  f_weakI (kM_isOver l xCl D cA ad hJ σ hc hl) (fun r σ1 h => by
    obtain ⟨h1, h2⟩ := h
    by_cases hc : σ.1 0 21 = σ.1 0 20
    · rw [if_pos hc] at h1; exact Or.inl ⟨hc, h1, h2⟩
    · rw [if_neg hc] at h1; exact Or.inr ⟨hc, h1, h2⟩)
set_option maxRecDepth 100000 in
set_option maxHeartbeats 4000000 in
/-- tells(from, letter) -/
theorem kM_tells (l : Launch) (xCl : List vw_C) (D : va_G) (cA : Nat → ClassId) (ad : Nat → Nat) (hJ : f_J (mG xCl D cA ad)) (σ : fS) (a c : Int) (ha : 0 ≤ a ∧ a ≤ 12000) (hc : -128 ≤ c ∧ c ≤ 127) (hz : 0 ≤ σ.1 0 7 ∧ σ.1 0 7 ≤ 12000) (h7 : ∀ i, -128 ≤ σ.2 7 i ∧ σ.2 7 i ≤ 127) : f_M l (mG xCl D cA ad) mE yM_tells (Cond.code yM_tells cM_tells 3 (some .boolean) :: A9) 1 σ [.ref (ad 0), .int (fI a), .int (fI c)] (f_QI (fun r σ1 => m_scr σ σ1 ∧ σ1.1 0 26 = σ.1 0 26 ∧ σ1.1 0 27 = σ.1 0 27 ∧ ((p_tell (σ.2 7) (σ.1 0 7) a c ∧ r = 1 ∧ σ1.1 0 20 = p_eol (σ.2 7) (σ.1 0 7) a ∧ σ1.1 0 22 = p_tv (σ.2 7) (σ.1 0 7) a) ∨ (¬ p_tell (σ.2 7) (σ.1 0 7) a c ∧ r = 0))) (mG xCl D cA ad)) := by
  refine f_enter (by decide +kernel) hJ rfl (Nat.le_of_ble_eq_true rfl) ?_
  intro z hzl hR C hRt hLk hEz
  subst hzl
  refine v_aload_n C dM_tells_0 rfl rfl ?_
  refine v_iload_n C dM_tells_1 rfl rfl ?_
  refine v_cVI (k := 0) (n := 1) C (mE_ok _) trivial hR (kM_line2 _ xCl D cA ad hJ σ (a) (by omega) hz h7) dM_tells_2 (by show (0 : Nat) < 18; decide) rfl rfl gM_150 (by decide +kernel) (by decide) (by decide) rfl (Nat.le_of_ble_eq_true rfl) rfl ⟨rfl, rfl⟩ (fun r1 τ1 hp1 => ?_)
  obtain ⟨g1_s, g1_21, g1_20, g1_22, g1_26, g1_27, ⟨g1_c, rfl⟩ | ⟨g1_c, rfl⟩⟩ := hp1
  · have hs1_ := g1_s
    have g1_l := @p_eol_le (σ.2 7) (σ.1 0 7) (a)
    refine v_if_eq (tgt := 43) C dM_tells_5 (by decide) (by omega) (fun hc1 => ?_) (fun hc1 => ?_)
    · exfalso; omega
    · refine v_aload_n C dM_tells_8 rfl rfl ?_
      refine v_iload_n C dM_tells_9 rfl rfl ?_
      have hz2 : 0 ≤ τ1.1 0 7 ∧ τ1.1 0 7 ≤ 12000 := by rw [m_scr_z hs1_]; exact hz
      have hb3 : ∀ i, -128 ≤ τ1.2 7 i ∧ τ1.2 7 i ≤ 127 := fun i => by rw [m_scr_a hs1_]; exact h7 i
      refine v_cVI (k := 0) (n := 1) C (mE_ok _) trivial hR (kM_takes2 _ xCl D cA ad hJ τ1 (c) (by omega) (by omega) (by omega) (by omega) hb3) dM_tells_10 (by show (0 : Nat) < 18; decide) rfl rfl gM_153 (by decide +kernel) (by decide) (by decide) rfl (Nat.le_of_ble_eq_true rfl) rfl ⟨rfl, rfl⟩ (fun r2 τ2 hp2 => ?_)
      simp only [hs1_.1, m_scr_z hs1_, g1_20, g1_21, g1_22, g1_26, g1_27] at hp2
      obtain ⟨g2_s, g2_20, g2_22, g2_26, g2_27, ⟨g2_c, rfl, g2_21⟩ | ⟨g2_c, rfl, g2_21⟩⟩ := hp2
      · have hs2_ := m_scr_tr hs1_ g2_s
        have g2_21n : τ2.1 0 21 = a + 1 := by omega
        refine v_if_eq (tgt := 43) C dM_tells_13 (by decide) (by omega) (fun hc4 => ?_) (fun hc4 => ?_)
        · exfalso; omega
        · refine v_aload_n C dM_tells_16 rfl rfl ?_
          refine v_bipush C dM_tells_17 (by decide +kernel) ?_
          have hz5 : 0 ≤ τ2.1 0 7 ∧ τ2.1 0 7 ≤ 12000 := by rw [m_scr_z hs2_]; exact hz
          have hb6 : ∀ i, -128 ≤ τ2.2 7 i ∧ τ2.2 7 i ≤ 127 := fun i => by rw [m_scr_a hs2_]; exact h7 i
          refine v_cVI (k := 0) (n := 1) C (mE_ok _) trivial hR (kM_takes2 _ xCl D cA ad hJ τ2 (32) (by omega) (by omega) (by omega) (by omega) hb6) dM_tells_19 (by show (0 : Nat) < 18; decide) rfl rfl gM_153 (by decide +kernel) (by decide) (by decide) rfl (Nat.le_of_ble_eq_true rfl) rfl ⟨rfl, rfl⟩ (fun r3 τ3 hp3 => ?_)
          simp only [hs2_.1, m_scr_z hs2_, g2_20, g2_21n, g2_22, g2_26, g2_27] at hp3
          obtain ⟨g3_s, g3_20, g3_22, g3_26, g3_27, ⟨g3_c, rfl, g3_21⟩ | ⟨g3_c, rfl, g3_21⟩⟩ := hp3
          · have hs3_ := m_scr_tr hs2_ g3_s
            have g3_21n : τ3.1 0 21 = a + 2 := by omega
            refine v_if_eq (tgt := 43) C dM_tells_22 (by decide) (by omega) (fun hc7 => ?_) (fun hc7 => ?_)
            · exfalso; omega
            · refine v_aload_n C dM_tells_25 rfl rfl ?_
              have hz8 : 0 ≤ τ3.1 0 7 ∧ τ3.1 0 7 ≤ 12000 := by rw [m_scr_z hs3_]; exact hz
              have hb9 : ∀ i, -128 ≤ τ3.2 7 i ∧ τ3.2 7 i ≤ 127 := fun i => by rw [m_scr_a hs3_]; exact h7 i
              refine v_cVI (k := 0) (n := 0) C (mE_ok _) trivial hR (kM_takesNumber _ xCl D cA ad hJ τ3 (by omega) (by omega) (by omega) (by omega) hb9) dM_tells_26 (by show (0 : Nat) < 18; decide) rfl rfl gM_156 (by decide +kernel) (by decide) (by decide) rfl (Nat.le_of_ble_eq_true rfl) rfl ⟨rfl, rfl⟩ (fun r4 τ4 hp4 => ?_)
              simp only [hs3_.1, m_scr_z hs3_, g3_20, g3_21n, g3_22, g3_26, g3_27] at hp4
              obtain ⟨g4_s, g4_20, g4_22, g4_21, g4_26, g4_27, ⟨g4_c, rfl⟩ | ⟨g4_c, rfl⟩⟩ := hp4
              · have hs4_ := m_scr_tr hs3_ g4_s
                have g4_l := p_num_le (σ.2 7) (p_eol (σ.2 7) (σ.1 0 7) (a)) (a + 2)
                have g4_v := p_num_v (σ.2 7) (p_eol (σ.2 7) (σ.1 0 7) (a)) (a + 2)
                refine v_if_eq (tgt := 43) C dM_tells_29 (by decide) (by omega) (fun hc10 => ?_) (fun hc10 => ?_)
                · exfalso; omega
                · refine v_aload_n C dM_tells_32 rfl rfl ?_
                  have hz11 : 0 ≤ τ4.1 0 7 ∧ τ4.1 0 7 ≤ 12000 := by rw [m_scr_z hs4_]; exact hz
                  have hb12 : ∀ i, -128 ≤ τ4.2 7 i ∧ τ4.2 7 i ≤ 127 := fun i => by rw [m_scr_a hs4_]; exact h7 i
                  refine v_cVI (k := 0) (n := 0) C (mE_ok _) trivial hR (kM_isOver2 _ xCl D cA ad hJ τ4 (by omega) (by omega)) dM_tells_33 (by show (0 : Nat) < 18; decide) rfl rfl gM_160 (by decide +kernel) (by decide) (by decide) rfl (Nat.le_of_ble_eq_true rfl) rfl ⟨rfl, rfl⟩ (fun r5 τ5 hp5 => ?_)
                  simp only [hs4_.1, m_scr_z hs4_, g4_20, g4_21, g4_22, g4_26, g4_27] at hp5
                  obtain ⟨g5_c, rfl, g5_e⟩ | ⟨g5_c, rfl, g5_e⟩ := hp5
                  · subst τ5
                    refine v_if_eq (tgt := 43) C dM_tells_36 (by decide) (by omega) (fun hc13 => ?_) (fun hc13 => ?_)
                    · exfalso; omega
                    · refine v_iconst C dM_tells_39 ?_
                      refine v_goto (tgt := 44) C dM_tells_40 (by decide) ?_
                      exact v_zret C hRt hLk dM_tells_44 (fN_bool (by omega)) ⟨hs4_, g4_26, g4_27, Or.inl ⟨⟨g1_c, g2_c, g3_c, g4_c, g5_c⟩, rfl, g4_20, g4_22⟩⟩
                  · subst τ5
                    refine v_if_eq (tgt := 43) C dM_tells_36 (by decide) (by omega) (fun hc14 => ?_) (fun hc14 => ?_)
                    · refine v_iconst C dM_tells_43 ?_
                      exact v_zret C hRt hLk dM_tells_44 (fN_bool (by omega)) ⟨hs4_, g4_26, g4_27, Or.inr ⟨fun h9 => by first | exact g1_c h9.1 | exact g2_c h9.2.1 | exact g3_c h9.2.2.1 | exact g4_c h9.2.2.2.1 | exact g5_c h9.2.2.2.2, rfl⟩⟩
                    · exfalso; omega
              · have hs4_ := m_scr_tr hs3_ g4_s
                have g4_l := p_num_le (σ.2 7) (p_eol (σ.2 7) (σ.1 0 7) (a)) (a + 2)
                have g4_v := p_num_v (σ.2 7) (p_eol (σ.2 7) (σ.1 0 7) (a)) (a + 2)
                refine v_if_eq (tgt := 43) C dM_tells_29 (by decide) (by omega) (fun hc15 => ?_) (fun hc15 => ?_)
                · refine v_iconst C dM_tells_43 ?_
                  exact v_zret C hRt hLk dM_tells_44 (fN_bool (by omega)) ⟨hs4_, g4_26, g4_27, Or.inr ⟨fun h9 => by first | exact g1_c h9.1 | exact g2_c h9.2.1 | exact g3_c h9.2.2.1 | exact g4_c h9.2.2.2.1 | exact g5_c h9.2.2.2.2, rfl⟩⟩
                · exfalso; omega
          · have hs3_ := m_scr_tr hs2_ g3_s
            refine v_if_eq (tgt := 43) C dM_tells_22 (by decide) (by omega) (fun hc16 => ?_) (fun hc16 => ?_)
            · refine v_iconst C dM_tells_43 ?_
              exact v_zret C hRt hLk dM_tells_44 (fN_bool (by omega)) ⟨hs3_, g3_26, g3_27, Or.inr ⟨fun h9 => by first | exact g1_c h9.1 | exact g2_c h9.2.1 | exact g3_c h9.2.2.1 | exact g4_c h9.2.2.2.1 | exact g5_c h9.2.2.2.2, rfl⟩⟩
            · exfalso; omega
      · have hs2_ := m_scr_tr hs1_ g2_s
        refine v_if_eq (tgt := 43) C dM_tells_13 (by decide) (by omega) (fun hc17 => ?_) (fun hc17 => ?_)
        · refine v_iconst C dM_tells_43 ?_
          exact v_zret C hRt hLk dM_tells_44 (fN_bool (by omega)) ⟨hs2_, g2_26, g2_27, Or.inr ⟨fun h9 => by first | exact g1_c h9.1 | exact g2_c h9.2.1 | exact g3_c h9.2.2.1 | exact g4_c h9.2.2.2.1 | exact g5_c h9.2.2.2.2, rfl⟩⟩
        · exfalso; omega
  · have hs1_ := g1_s
    have g1_l := @p_eol_le (σ.2 7) (σ.1 0 7) (a)
    refine v_if_eq (tgt := 43) C dM_tells_5 (by decide) (by omega) (fun hc18 => ?_) (fun hc18 => ?_)
    · refine v_iconst C dM_tells_43 ?_
      exact v_zret C hRt hLk dM_tells_44 (fN_bool (by omega)) ⟨hs1_, g1_26, g1_27, Or.inr ⟨fun h9 => by first | exact g1_c h9.1 | exact g2_c h9.2.1 | exact g3_c h9.2.2.1 | exact g4_c h9.2.2.2.1 | exact g5_c h9.2.2.2.2, rfl⟩⟩
    · exfalso; omega
end
