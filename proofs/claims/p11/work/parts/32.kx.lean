/-- a byte goes behind the draft's -/
def x_put (σ : fS) (v : Int) : fS := f_p1 (f_p2 σ 375 (σ.1 374 6).toNat v) 374 6 (σ.1 374 6 + 1)
def x_puts (σ : fS) (l : List Int) : fS := l.foldl x_put σ
theorem x_puts_app (σ : fS) (a b : List Int) : x_puts σ (a ++ b) = x_puts (x_puts σ a) b := List.foldl_append
theorem x_puts_snoc (σ : fS) (a : List Int) (x : Int) : x_put (x_puts σ a) x = x_puts σ (a ++ [x]) := by rw [x_puts_app]; rfl
theorem x_put_1 (σ : fS) (v : Int) (a b : Nat) : (x_put σ v).1 a b = if a = 374 ∧ b = 6 then σ.1 374 6 + 1 else σ.1 a b := by
  unfold x_put
  rw [p1_1]
  rfl
theorem x_put_2 (σ : fS) (v : Int) (a b : Nat) (h : a ≠ 375) : (x_put σ v).2 a b = σ.2 a b := by
  unfold x_put
  rw [p1_2, p2_2, if_neg (by omega)]
theorem x_puts_1 (l : List Int) : ∀ (σ : fS) (a b : Nat), (x_puts σ l).1 a b = if a = 374 ∧ b = 6 then σ.1 374 6 + l.length else σ.1 a b := by
  induction l with
  | nil =>
    intro σ a b
    show σ.1 a b = _
    split
    · rename_i h; rw [h.1, h.2]; simp
    · rfl
  | cons x r ih =>
    intro σ a b
    show (x_puts (x_put σ x) r).1 a b = _
    rw [ih]
    simp only [x_put_1, and_self, if_true, List.length_cons]
    by_cases h : a = 374 ∧ b = 6
    · rw [if_pos h, if_pos h]; omega
    · rw [if_neg h, if_neg h, if_neg h]
theorem x_puts_u (σ : fS) (l : List Int) : (x_puts σ l).1 374 6 = σ.1 374 6 + l.length := by rw [x_puts_1, if_pos ⟨rfl, rfl⟩]
theorem x_puts_2 (l : List Int) : ∀ (σ : fS) (a b : Nat), a ≠ 375 → (x_puts σ l).2 a b = σ.2 a b := by
  induction l with
  | nil => intro σ a b _; rfl
  | cons x r ih =>
    intro σ a b h
    show (x_puts (x_put σ x) r).2 a b = _
    rw [ih _ _ _ h, x_put_2 _ _ _ _ h]
theorem x_dl1 (v : Int) (j : Nat) (h0 : 0 ≤ v ∧ v ≤ 99999) (hj : j ≤ 3) (h : (10 : Int) ^ (j + 1) ≤ v) : j + 1 ≤ dl v := by
  unfold dl
  rcases (show j = 0 ∨ j = 1 ∨ j = 2 ∨ j = 3 by omega) with rfl | rfl | rfl | rfl <;> (simp only [Nat.reduceAdd, Int.reducePow] at h; (repeat' split) <;> omega)
theorem x_dl2 (v : Int) (j : Nat) (hj : j ≤ 3) (h : v < (10 : Int) ^ (j + 1)) : dl v ≤ j := by
  unfold dl
  rcases (show j = 0 ∨ j = 1 ∨ j = 2 ∨ j = 3 by omega) with rfl | rfl | rfl | rfl <;> (simp only [Nat.reduceAdd, Int.reducePow] at h; (repeat' split) <;> omega)
theorem x_dg_put (v : Int) (j : Nat) (pre : List Int) (h0 : 0 ≤ v ∧ v ≤ 99999) (hj : j ≤ 3) (hp : (10 : Int) ^ (j + 1) ≤ v) (h : (pre = [] ∧ dl v ≤ j + 1) ∨ dig v = pre ++ dg (j + 1) v) : dig v = (pre ++ [48 + v / 10 ^ (j + 1) % 10]) ++ dg j v := by
  have h1 := x_dl1 v j h0 hj hp
  rcases h with ⟨rfl, h⟩ | h
  · show dg (dl v) v = _
    rw [show dl v = j + 1 by omega]
    rfl
  · rw [h, List.append_assoc]
    rfl
theorem x_dg_no (v : Int) (j : Nat) (pre : List Int) (hj : j ≤ 3) (hp : v < (10 : Int) ^ (j + 1)) (h : (pre = [] ∧ dl v ≤ j + 1) ∨ dig v = pre ++ dg (j + 1) v) : pre = [] ∧ dl v ≤ j := by
  have h1 := x_dl2 v j hj hp
  rcases h with ⟨rfl, h⟩ | h
  · exact ⟨rfl, h1⟩
  · exfalso
    have h2 := congrArg List.length h
    rw [List.length_append, dg_len] at h2
    unfold dig at h2
    rw [dg_len] at h2
    omega
theorem x_dg_end (v : Int) (pre : List Int) (h : (pre = [] ∧ dl v ≤ 0) ∨ dig v = pre ++ dg 0 v) : pre ++ [48 + v % 10] = dig v := by
  rcases h with ⟨rfl, h⟩ | h
  · show [48 + v % 10] = dg (dl v) v
    rw [show dl v = 0 by omega]
    rfl
  · rw [h]; rfl
theorem x_pre_len (v : Int) (j : Nat) (pre : List Int) (h : (pre = [] ∧ dl v ≤ j) ∨ dig v = pre ++ dg j v) : pre.length ≤ 4 := by
  rcases h with ⟨rfl, _⟩ | h
  · simp
  · have h2 := congrArg List.length h
    rw [List.length_append, dg_len] at h2
    have := dig_len v
    omega
set_option maxRecDepth 100000 in
set_option maxHeartbeats 4000000 in
/-- put -/
theorem kX_XD_put (l : Launch) (D : va_G) (cA : Nat → ClassId) (ad : Nat → Nat) (hJ : f_J (xG D cA ad)) (σ : fS) (v : Int) (hv : -128 ≤ v ∧ v ≤ 127) (hu : 0 ≤ σ.1 374 6 ∧ σ.1 374 6 < 6000) : f_M l (xG D cA ad) (xE (xG D cA ad)) yXD_put (Cond.code yXD_put cXD_put 2 none :: A9) 0 σ [.ref (ad 374), .int (fI v)] (f_QV (fun σ1 => σ1 = x_put σ v) (xG D cA ad)) := by
  refine f_enter (by decide +kernel) hJ rfl (Nat.le_of_ble_eq_true rfl) ?_
  intro z hzl hR C hRt hLk hEz
  subst hzl
  have hRR : 0 ≤ z.2.2.2.1.frames ∧ 40 * 0 ≤ z.2.2.2.1.locals ∧ 0 ≤ z.2.2.2.1.cells ∧ 0 ≤ z.2.2.2.1.slots := by rw [hR]; exact ⟨Nat.le_refl _, Nat.le_refl _, Nat.zero_le _, Nat.zero_le _⟩
  refine v_aload_n C dXD_put_0 rfl rfl ?_
  refine v_getI (k := 374) (q := 6) (v := σ.1 374 6) C dXD_put_1 (by show (374 : Nat) < 383; decide) rfl rfl (by decide) rfl inXD lXD_34 rfl rfl ?_
  refine v_sipush C dXD_put_4 (by decide +kernel) ?_
  refine v_icmp_ge (tgt := 31) C dXD_put_7 (by decide) (by omega) (by omega) (fun hc1 => ?_) (fun hc1 => ?_)
  · exfalso; omega
  · refine v_aload_n C dXD_put_10 rfl rfl ?_
    refine v_getR (k := 374) (q := 1) C dXD_put_11 (by show (374 : Nat) < 383; decide) rfl rfl (by decide) rfl inXD lXD_9 rfl ?_
    refine v_aload_n C dXD_put_14 rfl rfl ?_
    refine v_getI (k := 374) (q := 6) (v := σ.1 374 6) C dXD_put_15 (by show (374 : Nat) < 383; decide) rfl rfl (by decide) rfl inXD lXD_34 rfl rfl ?_
    refine v_iload_n C dXD_put_18 rfl rfl ?_
    refine v_i2bi C dXD_put_19 (by omega) ?_
    refine v_bast (k := 375) C dXD_put_20 (by show (375 : Nat) < 383; decide) rfl rfl (by omega) (by decide) (by omega) ?_
    refine v_aload_n C dXD_put_21 rfl rfl ?_
    refine v_dup C dXD_put_22 rfl ?_
    refine v_getI (k := 374) (q := 6) (v := σ.1 374 6) C dXD_put_23 (by show (374 : Nat) < 383; decide) rfl rfl (by decide) rfl inXD lXD_34 rfl rfl ?_
    refine v_iconst C dXD_put_26 ?_
    refine v_iadd C dXD_put_27 ?_
    refine v_putI (k := 374) (q := 6) C dXD_put_28 (by show (374 : Nat) < 383; decide) rfl rfl (by decide) rfl inXD tyXD_ok nmXD lXD_34 rfl rfl rfl rfl rfl ?_
    exact v_vret C hRt hLk dXD_put_31 rfl
set_option maxRecDepth 100000 in
set_option maxHeartbeats 4000000 in
/-- putNumber -/
theorem kX_XD_putNumber (l : Launch) (D : va_G) (cA : Nat → ClassId) (ad : Nat → Nat) (hJ : f_J (xG D cA ad)) (σ : fS) (v : Int) (hv : 0 ≤ v ∧ v ≤ 99999) (hu : 0 ≤ σ.1 374 6 ∧ σ.1 374 6 < 5900) : f_M l (xG D cA ad) (xE (xG D cA ad)) yXD_putNumber (Cond.code yXD_putNumber cXD_putNumber 3 none :: A9) 1 σ [.ref (ad 374), .int (fI v)] (f_QV (fun σ1 => σ1 = x_puts σ (dig v)) (xG D cA ad)) := by
  refine f_enter (by decide +kernel) hJ rfl (Nat.le_of_ble_eq_true rfl) ?_
  intro z hzl hR C hRt hLk hEz
  subst hzl
  have hRR : 1 ≤ z.2.2.2.1.frames ∧ 40 * 1 ≤ z.2.2.2.1.locals ∧ 0 ≤ z.2.2.2.1.cells ∧ 0 ≤ z.2.2.2.1.slots := by rw [hR]; exact ⟨Nat.le_refl _, Nat.le_refl _, Nat.zero_le _, Nat.zero_le _⟩
  have L0 : ∀ (pre : List Int), ((pre = [] ∧ dl v ≤ 0) ∨ dig v = pre ++ dg 0 v) → fv z (xG D cA ad) 3 (f_R z (xG D cA ad) (f_QV (fun σ1 => σ1 = x_puts σ (dig v)) (xG D cA ad))) 0 0 (x_puts σ pre) 4 [some (.ref (ad 374)), some (.int (fI v)), some (.int (fI 1))] [] := by
    intro pre hpre
    have hpl := x_pre_len v 0 pre hpre
    have hus := x_puts_u σ pre
    have hd1 : 0 ≤ v / 1 := Int.ediv_nonneg hv.1 (by omega)
    have hd2 : v / 1 ≤ v := Int.ediv_le_self 1 hv.1
    refine v_iload_n C dXD_putNumber_4 rfl rfl ?_
    refine v_iconst C dXD_putNumber_5 ?_
    refine v_icmp_lt (tgt := 40) C dXD_putNumber_6 (by decide) (by omega) (by omega) (fun hc1 => ?_) (fun hc1 => ?_)
    · exfalso; omega
    · refine v_iload_n C dXD_putNumber_9 rfl rfl ?_
      refine v_iload_n C dXD_putNumber_10 rfl rfl ?_
      refine v_icmp_ge (tgt := 19) C dXD_putNumber_11 (by decide) (by omega) (by omega) (fun hc2 => ?_) (fun hc2 => ?_)
      · refine v_aload_n C dXD_putNumber_19 rfl rfl ?_
        refine v_bipush C dXD_putNumber_20 (by decide +kernel) ?_
        refine v_iload_n C dXD_putNumber_22 rfl rfl ?_
        refine v_iload_n C dXD_putNumber_23 rfl rfl ?_
        refine v_idiv C dXD_putNumber_24 (by omega) (by omega) ?_
        refine v_top (b := v) (Int.ediv_one v) ?_
        refine v_bipush C dXD_putNumber_25 (by decide +kernel) ?_
        refine v_irem C dXD_putNumber_27 (by omega) (by omega) ?_
        refine v_iadd C dXD_putNumber_28 ?_
        refine v_cVV (k := 374) (n := 1) C (xE_ok _) hEz hR (kX_XD_put _ D cA ad hJ (x_puts σ pre) ((48 + (v % 10))) (by omega) (by omega)) dXD_putNumber_29 (by show (374 : Nat) < 383; decide) rfl rfl gXD_93 (by decide +kernel) (by decide) (by decide) rfl (Nat.le_of_ble_eq_true rfl) rfl ⟨rfl, rfl⟩ (fun σ1 hp1 => ?_)
        subst σ1
        refine v_st (x_puts_snoc _ _ _) ?_
        refine v_iload_n C dXD_putNumber_32 rfl rfl ?_
        refine v_bipush C dXD_putNumber_33 (by decide +kernel) ?_
        refine v_idiv C dXD_putNumber_35 (by omega) (by omega) ?_
        refine v_top (b := 0) (by decide) ?_
        refine v_istore_n C dXD_putNumber_36 rfl (by decide) ?_
        refine v_goto (tgt := 4) C dXD_putNumber_37 (by decide) ?_
        refine v_iload_n C dXD_putNumber_4 rfl rfl ?_
        refine v_iconst C dXD_putNumber_5 ?_
        refine v_icmp_lt (tgt := 40) C dXD_putNumber_6 (by decide) (by omega) (by omega) (fun hc3 => ?_) (fun hc3 => ?_)
        · exact v_vret C hRt hLk dXD_putNumber_40 (by rw [x_dg_end v pre hpre])
        · exfalso; omega
      · refine v_iload_n C dXD_putNumber_14 rfl rfl ?_
        refine v_iconst C dXD_putNumber_15 ?_
        refine v_icmp_ne (tgt := 32) C dXD_putNumber_16 (by decide) (by omega) (by omega) (fun hc4 => ?_) (fun hc4 => ?_)
        · exfalso; omega
        · refine v_aload_n C dXD_putNumber_19 rfl rfl ?_
          refine v_bipush C dXD_putNumber_20 (by decide +kernel) ?_
          refine v_iload_n C dXD_putNumber_22 rfl rfl ?_
          refine v_iload_n C dXD_putNumber_23 rfl rfl ?_
          refine v_idiv C dXD_putNumber_24 (by omega) (by omega) ?_
          refine v_top (b := v) (Int.ediv_one v) ?_
          refine v_bipush C dXD_putNumber_25 (by decide +kernel) ?_
          refine v_irem C dXD_putNumber_27 (by omega) (by omega) ?_
          refine v_iadd C dXD_putNumber_28 ?_
          refine v_cVV (k := 374) (n := 1) C (xE_ok _) hEz hR (kX_XD_put _ D cA ad hJ (x_puts σ pre) ((48 + (v % 10))) (by omega) (by omega)) dXD_putNumber_29 (by show (374 : Nat) < 383; decide) rfl rfl gXD_93 (by decide +kernel) (by decide) (by decide) rfl (Nat.le_of_ble_eq_true rfl) rfl ⟨rfl, rfl⟩ (fun σ1 hp1 => ?_)
          subst σ1
          refine v_st (x_puts_snoc _ _ _) ?_
          refine v_iload_n C dXD_putNumber_32 rfl rfl ?_
          refine v_bipush C dXD_putNumber_33 (by decide +kernel) ?_
          refine v_idiv C dXD_putNumber_35 (by omega) (by omega) ?_
          refine v_top (b := 0) (by decide) ?_
          refine v_istore_n C dXD_putNumber_36 rfl (by decide) ?_
          refine v_goto (tgt := 4) C dXD_putNumber_37 (by decide) ?_
          refine v_iload_n C dXD_putNumber_4 rfl rfl ?_
          refine v_iconst C dXD_putNumber_5 ?_
          refine v_icmp_lt (tgt := 40) C dXD_putNumber_6 (by decide) (by omega) (by omega) (fun hc5 => ?_) (fun hc5 => ?_)
          · exact v_vret C hRt hLk dXD_putNumber_40 (by rw [x_dg_end v pre hpre])
          · exfalso; omega
  have L1 : ∀ (pre : List Int), ((pre = [] ∧ dl v ≤ 1) ∨ dig v = pre ++ dg 1 v) → fv z (xG D cA ad) 3 (f_R z (xG D cA ad) (f_QV (fun σ1 => σ1 = x_puts σ (dig v)) (xG D cA ad))) 0 0 (x_puts σ pre) 4 [some (.ref (ad 374)), some (.int (fI v)), some (.int (fI 10))] [] := by
    intro pre hpre
    have hpl := x_pre_len v 1 pre hpre
    have hus := x_puts_u σ pre
    have hd1 : 0 ≤ v / 10 := Int.ediv_nonneg hv.1 (by omega)
    have hd2 : v / 10 ≤ v := Int.ediv_le_self 10 hv.1
    refine v_iload_n C dXD_putNumber_4 rfl rfl ?_
    refine v_iconst C dXD_putNumber_5 ?_
    refine v_icmp_lt (tgt := 40) C dXD_putNumber_6 (by decide) (by omega) (by omega) (fun hc6 => ?_) (fun hc6 => ?_)
    · exfalso; omega
    · refine v_iload_n C dXD_putNumber_9 rfl rfl ?_
      refine v_iload_n C dXD_putNumber_10 rfl rfl ?_
      refine v_icmp_ge (tgt := 19) C dXD_putNumber_11 (by decide) (by omega) (by omega) (fun hc7 => ?_) (fun hc7 => ?_)
      · refine v_aload_n C dXD_putNumber_19 rfl rfl ?_
        refine v_bipush C dXD_putNumber_20 (by decide +kernel) ?_
        refine v_iload_n C dXD_putNumber_22 rfl rfl ?_
        refine v_iload_n C dXD_putNumber_23 rfl rfl ?_
        refine v_idiv C dXD_putNumber_24 (by omega) (by omega) ?_
        refine v_bipush C dXD_putNumber_25 (by decide +kernel) ?_
        refine v_irem C dXD_putNumber_27 (by omega) (by omega) ?_
        refine v_iadd C dXD_putNumber_28 ?_
        refine v_cVV (k := 374) (n := 1) C (xE_ok _) hEz hR (kX_XD_put _ D cA ad hJ (x_puts σ pre) ((48 + ((v / 10) % 10))) (by omega) (by omega)) dXD_putNumber_29 (by show (374 : Nat) < 383; decide) rfl rfl gXD_93 (by decide +kernel) (by decide) (by decide) rfl (Nat.le_of_ble_eq_true rfl) rfl ⟨rfl, rfl⟩ (fun σ1 hp1 => ?_)
        subst σ1
        refine v_st (x_puts_snoc _ _ _) ?_
        refine v_iload_n C dXD_putNumber_32 rfl rfl ?_
        refine v_bipush C dXD_putNumber_33 (by decide +kernel) ?_
        refine v_idiv C dXD_putNumber_35 (by omega) (by omega) ?_
        refine v_top (b := 1) (by decide) ?_
        refine v_istore_n C dXD_putNumber_36 rfl (by decide) ?_
        refine v_goto (tgt := 4) C dXD_putNumber_37 (by decide) ?_
        exact L0 _ (Or.inr (x_dg_put v 0 pre hv (by decide) (by simp only [Nat.reduceAdd, Int.reducePow]; omega) hpre))
      · refine v_iload_n C dXD_putNumber_14 rfl rfl ?_
        refine v_iconst C dXD_putNumber_15 ?_
        refine v_icmp_ne (tgt := 32) C dXD_putNumber_16 (by decide) (by omega) (by omega) (fun hc8 => ?_) (fun hc8 => ?_)
        · refine v_iload_n C dXD_putNumber_32 rfl rfl ?_
          refine v_bipush C dXD_putNumber_33 (by decide +kernel) ?_
          refine v_idiv C dXD_putNumber_35 (by omega) (by omega) ?_
          refine v_top (b := 1) (by decide) ?_
          refine v_istore_n C dXD_putNumber_36 rfl (by decide) ?_
          refine v_goto (tgt := 4) C dXD_putNumber_37 (by decide) ?_
          exact L0 _ (Or.inl (x_dg_no v 0 pre (by decide) (by simp only [Nat.reduceAdd, Int.reducePow]; omega) hpre))
        · exfalso; omega
  have L2 : ∀ (pre : List Int), ((pre = [] ∧ dl v ≤ 2) ∨ dig v = pre ++ dg 2 v) → fv z (xG D cA ad) 3 (f_R z (xG D cA ad) (f_QV (fun σ1 => σ1 = x_puts σ (dig v)) (xG D cA ad))) 0 0 (x_puts σ pre) 4 [some (.ref (ad 374)), some (.int (fI v)), some (.int (fI 100))] [] := by
    intro pre hpre
    have hpl := x_pre_len v 2 pre hpre
    have hus := x_puts_u σ pre
    have hd1 : 0 ≤ v / 100 := Int.ediv_nonneg hv.1 (by omega)
    have hd2 : v / 100 ≤ v := Int.ediv_le_self 100 hv.1
    refine v_iload_n C dXD_putNumber_4 rfl rfl ?_
    refine v_iconst C dXD_putNumber_5 ?_
    refine v_icmp_lt (tgt := 40) C dXD_putNumber_6 (by decide) (by omega) (by omega) (fun hc9 => ?_) (fun hc9 => ?_)
    · exfalso; omega
    · refine v_iload_n C dXD_putNumber_9 rfl rfl ?_
      refine v_iload_n C dXD_putNumber_10 rfl rfl ?_
      refine v_icmp_ge (tgt := 19) C dXD_putNumber_11 (by decide) (by omega) (by omega) (fun hc10 => ?_) (fun hc10 => ?_)
      · refine v_aload_n C dXD_putNumber_19 rfl rfl ?_
        refine v_bipush C dXD_putNumber_20 (by decide +kernel) ?_
        refine v_iload_n C dXD_putNumber_22 rfl rfl ?_
        refine v_iload_n C dXD_putNumber_23 rfl rfl ?_
        refine v_idiv C dXD_putNumber_24 (by omega) (by omega) ?_
        refine v_bipush C dXD_putNumber_25 (by decide +kernel) ?_
        refine v_irem C dXD_putNumber_27 (by omega) (by omega) ?_
        refine v_iadd C dXD_putNumber_28 ?_
        refine v_cVV (k := 374) (n := 1) C (xE_ok _) hEz hR (kX_XD_put _ D cA ad hJ (x_puts σ pre) ((48 + ((v / 100) % 10))) (by omega) (by omega)) dXD_putNumber_29 (by show (374 : Nat) < 383; decide) rfl rfl gXD_93 (by decide +kernel) (by decide) (by decide) rfl (Nat.le_of_ble_eq_true rfl) rfl ⟨rfl, rfl⟩ (fun σ1 hp1 => ?_)
        subst σ1
        refine v_st (x_puts_snoc _ _ _) ?_
        refine v_iload_n C dXD_putNumber_32 rfl rfl ?_
        refine v_bipush C dXD_putNumber_33 (by decide +kernel) ?_
        refine v_idiv C dXD_putNumber_35 (by omega) (by omega) ?_
        refine v_top (b := 10) (by decide) ?_
        refine v_istore_n C dXD_putNumber_36 rfl (by decide) ?_
        refine v_goto (tgt := 4) C dXD_putNumber_37 (by decide) ?_
        exact L1 _ (Or.inr (x_dg_put v 1 pre hv (by decide) (by simp only [Nat.reduceAdd, Int.reducePow]; omega) hpre))
      · refine v_iload_n C dXD_putNumber_14 rfl rfl ?_
        refine v_iconst C dXD_putNumber_15 ?_
        refine v_icmp_ne (tgt := 32) C dXD_putNumber_16 (by decide) (by omega) (by omega) (fun hc11 => ?_) (fun hc11 => ?_)
        · refine v_iload_n C dXD_putNumber_32 rfl rfl ?_
          refine v_bipush C dXD_putNumber_33 (by decide +kernel) ?_
          refine v_idiv C dXD_putNumber_35 (by omega) (by omega) ?_
          refine v_top (b := 10) (by decide) ?_
          refine v_istore_n C dXD_putNumber_36 rfl (by decide) ?_
          refine v_goto (tgt := 4) C dXD_putNumber_37 (by decide) ?_
          exact L1 _ (Or.inl (x_dg_no v 1 pre (by decide) (by simp only [Nat.reduceAdd, Int.reducePow]; omega) hpre))
        · exfalso; omega
  have L3 : ∀ (pre : List Int), ((pre = [] ∧ dl v ≤ 3) ∨ dig v = pre ++ dg 3 v) → fv z (xG D cA ad) 3 (f_R z (xG D cA ad) (f_QV (fun σ1 => σ1 = x_puts σ (dig v)) (xG D cA ad))) 0 0 (x_puts σ pre) 4 [some (.ref (ad 374)), some (.int (fI v)), some (.int (fI 1000))] [] := by
    intro pre hpre
    have hpl := x_pre_len v 3 pre hpre
    have hus := x_puts_u σ pre
    have hd1 : 0 ≤ v / 1000 := Int.ediv_nonneg hv.1 (by omega)
    have hd2 : v / 1000 ≤ v := Int.ediv_le_self 1000 hv.1
    refine v_iload_n C dXD_putNumber_4 rfl rfl ?_
    refine v_iconst C dXD_putNumber_5 ?_
    refine v_icmp_lt (tgt := 40) C dXD_putNumber_6 (by decide) (by omega) (by omega) (fun hc12 => ?_) (fun hc12 => ?_)
    · exfalso; omega
    · refine v_iload_n C dXD_putNumber_9 rfl rfl ?_
      refine v_iload_n C dXD_putNumber_10 rfl rfl ?_
      refine v_icmp_ge (tgt := 19) C dXD_putNumber_11 (by decide) (by omega) (by omega) (fun hc13 => ?_) (fun hc13 => ?_)
      · refine v_aload_n C dXD_putNumber_19 rfl rfl ?_
        refine v_bipush C dXD_putNumber_20 (by decide +kernel) ?_
        refine v_iload_n C dXD_putNumber_22 rfl rfl ?_
        refine v_iload_n C dXD_putNumber_23 rfl rfl ?_
        refine v_idiv C dXD_putNumber_24 (by omega) (by omega) ?_
        refine v_bipush C dXD_putNumber_25 (by decide +kernel) ?_
        refine v_irem C dXD_putNumber_27 (by omega) (by omega) ?_
        refine v_iadd C dXD_putNumber_28 ?_
        refine v_cVV (k := 374) (n := 1) C (xE_ok _) hEz hR (kX_XD_put _ D cA ad hJ (x_puts σ pre) ((48 + ((v / 1000) % 10))) (by omega) (by omega)) dXD_putNumber_29 (by show (374 : Nat) < 383; decide) rfl rfl gXD_93 (by decide +kernel) (by decide) (by decide) rfl (Nat.le_of_ble_eq_true rfl) rfl ⟨rfl, rfl⟩ (fun σ1 hp1 => ?_)
        subst σ1
        refine v_st (x_puts_snoc _ _ _) ?_
        refine v_iload_n C dXD_putNumber_32 rfl rfl ?_
        refine v_bipush C dXD_putNumber_33 (by decide +kernel) ?_
        refine v_idiv C dXD_putNumber_35 (by omega) (by omega) ?_
        refine v_top (b := 100) (by decide) ?_
        refine v_istore_n C dXD_putNumber_36 rfl (by decide) ?_
        refine v_goto (tgt := 4) C dXD_putNumber_37 (by decide) ?_
        exact L2 _ (Or.inr (x_dg_put v 2 pre hv (by decide) (by simp only [Nat.reduceAdd, Int.reducePow]; omega) hpre))
      · refine v_iload_n C dXD_putNumber_14 rfl rfl ?_
        refine v_iconst C dXD_putNumber_15 ?_
        refine v_icmp_ne (tgt := 32) C dXD_putNumber_16 (by decide) (by omega) (by omega) (fun hc14 => ?_) (fun hc14 => ?_)
        · refine v_iload_n C dXD_putNumber_32 rfl rfl ?_
          refine v_bipush C dXD_putNumber_33 (by decide +kernel) ?_
          refine v_idiv C dXD_putNumber_35 (by omega) (by omega) ?_
          refine v_top (b := 100) (by decide) ?_
          refine v_istore_n C dXD_putNumber_36 rfl (by decide) ?_
          refine v_goto (tgt := 4) C dXD_putNumber_37 (by decide) ?_
          exact L2 _ (Or.inl (x_dg_no v 2 pre (by decide) (by simp only [Nat.reduceAdd, Int.reducePow]; omega) hpre))
        · exfalso; omega
  have L4 : ∀ (pre : List Int), ((pre = [] ∧ dl v ≤ 4) ∨ dig v = pre ++ dg 4 v) → fv z (xG D cA ad) 3 (f_R z (xG D cA ad) (f_QV (fun σ1 => σ1 = x_puts σ (dig v)) (xG D cA ad))) 0 0 (x_puts σ pre) 4 [some (.ref (ad 374)), some (.int (fI v)), some (.int (fI 10000))] [] := by
    intro pre hpre
    have hpl := x_pre_len v 4 pre hpre
    have hus := x_puts_u σ pre
    have hd1 : 0 ≤ v / 10000 := Int.ediv_nonneg hv.1 (by omega)
    have hd2 : v / 10000 ≤ v := Int.ediv_le_self 10000 hv.1
    refine v_iload_n C dXD_putNumber_4 rfl rfl ?_
    refine v_iconst C dXD_putNumber_5 ?_
    refine v_icmp_lt (tgt := 40) C dXD_putNumber_6 (by decide) (by omega) (by omega) (fun hc15 => ?_) (fun hc15 => ?_)
    · exfalso; omega
    · refine v_iload_n C dXD_putNumber_9 rfl rfl ?_
      refine v_iload_n C dXD_putNumber_10 rfl rfl ?_
      refine v_icmp_ge (tgt := 19) C dXD_putNumber_11 (by decide) (by omega) (by omega) (fun hc16 => ?_) (fun hc16 => ?_)
      · refine v_aload_n C dXD_putNumber_19 rfl rfl ?_
        refine v_bipush C dXD_putNumber_20 (by decide +kernel) ?_
        refine v_iload_n C dXD_putNumber_22 rfl rfl ?_
        refine v_iload_n C dXD_putNumber_23 rfl rfl ?_
        refine v_idiv C dXD_putNumber_24 (by omega) (by omega) ?_
        refine v_bipush C dXD_putNumber_25 (by decide +kernel) ?_
        refine v_irem C dXD_putNumber_27 (by omega) (by omega) ?_
        refine v_iadd C dXD_putNumber_28 ?_
        refine v_cVV (k := 374) (n := 1) C (xE_ok _) hEz hR (kX_XD_put _ D cA ad hJ (x_puts σ pre) ((48 + ((v / 10000) % 10))) (by omega) (by omega)) dXD_putNumber_29 (by show (374 : Nat) < 383; decide) rfl rfl gXD_93 (by decide +kernel) (by decide) (by decide) rfl (Nat.le_of_ble_eq_true rfl) rfl ⟨rfl, rfl⟩ (fun σ1 hp1 => ?_)
        subst σ1
        refine v_st (x_puts_snoc _ _ _) ?_
        refine v_iload_n C dXD_putNumber_32 rfl rfl ?_
        refine v_bipush C dXD_putNumber_33 (by decide +kernel) ?_
        refine v_idiv C dXD_putNumber_35 (by omega) (by omega) ?_
        refine v_top (b := 1000) (by decide) ?_
        refine v_istore_n C dXD_putNumber_36 rfl (by decide) ?_
        refine v_goto (tgt := 4) C dXD_putNumber_37 (by decide) ?_
        exact L3 _ (Or.inr (x_dg_put v 3 pre hv (by decide) (by simp only [Nat.reduceAdd, Int.reducePow]; omega) hpre))
      · refine v_iload_n C dXD_putNumber_14 rfl rfl ?_
        refine v_iconst C dXD_putNumber_15 ?_
        refine v_icmp_ne (tgt := 32) C dXD_putNumber_16 (by decide) (by omega) (by omega) (fun hc17 => ?_) (fun hc17 => ?_)
        · refine v_iload_n C dXD_putNumber_32 rfl rfl ?_
          refine v_bipush C dXD_putNumber_33 (by decide +kernel) ?_
          refine v_idiv C dXD_putNumber_35 (by omega) (by omega) ?_
          refine v_top (b := 1000) (by decide) ?_
          refine v_istore_n C dXD_putNumber_36 rfl (by decide) ?_
          refine v_goto (tgt := 4) C dXD_putNumber_37 (by decide) ?_
          exact L3 _ (Or.inl (x_dg_no v 3 pre (by decide) (by simp only [Nat.reduceAdd, Int.reducePow]; omega) hpre))
        · exfalso; omega
  refine v_sipush C dXD_putNumber_0 (by decide +kernel) ?_
  refine v_istore_n C dXD_putNumber_3 rfl (by decide) ?_
  exact L4 [] (Or.inl ⟨rfl, by have := dig_len v; unfold dig at this; rw [dg_len] at this; omega⟩)
set_option maxRecDepth 100000 in
set_option maxHeartbeats 4000000 in
/-- putTagged -/
theorem kX_XD_putTagged (l : Launch) (D : va_G) (cA : Nat → ClassId) (ad : Nat → Nat) (hJ : f_J (xG D cA ad)) (σ : fS) (c v : Int) (hc : -128 ≤ c ∧ c ≤ 127) (hv : 0 ≤ v ∧ v ≤ 99999) (hu : 0 ≤ σ.1 374 6 ∧ σ.1 374 6 < 5800) : f_M l (xG D cA ad) (xE (xG D cA ad)) yXD_putTagged (Cond.code yXD_putTagged cXD_putTagged 3 none :: A9) 2 σ [.ref (ad 374), .int (fI c), .int (fI v)] (f_QV (fun σ1 => σ1 = x_puts σ (m_tell c v)) (xG D cA ad)) := by
  refine f_enter (by decide +kernel) hJ rfl (Nat.le_of_ble_eq_true rfl) ?_
  intro z hzl hR C hRt hLk hEz
  subst hzl
  have hRR : 2 ≤ z.2.2.2.1.frames ∧ 40 * 2 ≤ z.2.2.2.1.locals ∧ 0 ≤ z.2.2.2.1.cells ∧ 0 ≤ z.2.2.2.1.slots := by rw [hR]; exact ⟨Nat.le_refl _, Nat.le_refl _, Nat.zero_le _, Nat.zero_le _⟩
  refine v_st (σ1 := x_puts σ []) rfl ?_
  refine v_aload_n C dXD_putTagged_0 rfl rfl ?_
  refine v_iload_n C dXD_putTagged_1 rfl rfl ?_
  have hx1 := x_puts_u σ ([])
  try simp only [List.length_append, List.length_cons, List.length_nil] at hx1
  refine v_cVV (k := 374) (n := 1) C (xE_ok _) hEz hR (kX_XD_put _ D cA ad hJ (x_puts σ ([])) (c) (by omega) (by omega)) dXD_putTagged_2 (by show (374 : Nat) < 383; decide) rfl rfl gXD_93 (by decide +kernel) (by decide) (by decide) rfl (Nat.le_of_ble_eq_true rfl) rfl ⟨rfl, rfl⟩ (fun σ1 hp1 => ?_)
  subst σ1
  refine v_st (σ1 := x_puts σ ([c])) (rfl) ?_
  refine v_aload_n C dXD_putTagged_5 rfl rfl ?_
  refine v_bipush C dXD_putTagged_6 (by decide +kernel) ?_
  have hx2 := x_puts_u σ ([c])
  try simp only [List.length_append, List.length_cons, List.length_nil] at hx2
  refine v_cVV (k := 374) (n := 1) C (xE_ok _) hEz hR (kX_XD_put _ D cA ad hJ (x_puts σ ([c])) (32) (by omega) (by omega)) dXD_putTagged_8 (by show (374 : Nat) < 383; decide) rfl rfl gXD_93 (by decide +kernel) (by decide) (by decide) rfl (Nat.le_of_ble_eq_true rfl) rfl ⟨rfl, rfl⟩ (fun σ1 hp1 => ?_)
  subst σ1
  refine v_st (σ1 := x_puts σ ([c] ++ [32])) (x_puts_snoc _ _ _) ?_
  refine v_aload_n C dXD_putTagged_11 rfl rfl ?_
  refine v_iload_n C dXD_putTagged_12 rfl rfl ?_
  have hx3 := x_puts_u σ ([c] ++ [32])
  try simp only [List.length_append, List.length_cons, List.length_nil] at hx3
  have hl4 := dig_len (v)
  refine v_cVV (k := 374) (n := 1) C (xE_ok _) hEz hR (kX_XD_putNumber _ D cA ad hJ (x_puts σ ([c] ++ [32])) (v) (by omega) (by omega)) dXD_putTagged_13 (by show (374 : Nat) < 383; decide) rfl rfl gXD_97 (by decide +kernel) (by decide) (by decide) rfl (Nat.le_of_ble_eq_true rfl) rfl ⟨rfl, rfl⟩ (fun σ1 hp1 => ?_)
  subst σ1
  refine v_st (σ1 := x_puts σ ([c] ++ [32] ++ dig (v))) (x_puts_app _ _ _).symm ?_
  refine v_aload_n C dXD_putTagged_16 rfl rfl ?_
  refine v_bipush C dXD_putTagged_17 (by decide +kernel) ?_
  have hx5 := x_puts_u σ ([c] ++ [32] ++ dig (v))
  try simp only [List.length_append, List.length_cons, List.length_nil] at hx5
  refine v_cVV (k := 374) (n := 1) C (xE_ok _) hEz hR (kX_XD_put _ D cA ad hJ (x_puts σ ([c] ++ [32] ++ dig (v))) (10) (by omega) (by omega)) dXD_putTagged_19 (by show (374 : Nat) < 383; decide) rfl rfl gXD_93 (by decide +kernel) (by decide) (by decide) rfl (Nat.le_of_ble_eq_true rfl) rfl ⟨rfl, rfl⟩ (fun σ1 hp1 => ?_)
  subst σ1
  refine v_st (σ1 := x_puts σ ([c] ++ [32] ++ dig (v) ++ [10])) (x_puts_snoc _ _ _) ?_
  exact v_vret C hRt hLk dXD_putTagged_22 (by unfold m_tell; simp)
set_option maxRecDepth 100000 in
set_option maxHeartbeats 4000000 in
/-- putFirstLine -/
theorem kX_XD_putFirstLine (l : Launch) (D : va_G) (cA : Nat → ClassId) (ad : Nat → Nat) (hJ : f_J (xG D cA ad)) (σ : fS) (hu : 0 ≤ σ.1 374 6 ∧ σ.1 374 6 < 5900) : f_M l (xG D cA ad) (xE (xG D cA ad)) yXD_putFirstLine (Cond.code yXD_putFirstLine cXD_putFirstLine 2 none :: A9) 1 σ [.ref (ad 374)] (f_QV (fun σ1 => σ1 = x_puts σ [37, 70, 49, 10]) (xG D cA ad)) := by
  refine f_enter (by decide +kernel) hJ rfl (Nat.le_of_ble_eq_true rfl) ?_
  intro z hzl hR C hRt hLk hEz
  subst hzl
  have hRR : 1 ≤ z.2.2.2.1.frames ∧ 40 * 1 ≤ z.2.2.2.1.locals ∧ 0 ≤ z.2.2.2.1.cells ∧ 0 ≤ z.2.2.2.1.slots := by rw [hR]; exact ⟨Nat.le_refl _, Nat.le_refl _, Nat.zero_le _, Nat.zero_le _⟩
  have L4 : fv z (xG D cA ad) 2 (f_R z (xG D cA ad) (f_QV (fun σ1 => σ1 = x_puts σ [37, 70, 49, 10]) (xG D cA ad))) 0 0 (x_puts σ ([37] ++ [70] ++ [49] ++ [10])) 2 [some (.ref (ad 374)), some (.int (fI 4))] [] := by
    refine v_iload_n C dXD_putFirstLine_2 rfl rfl ?_
    refine v_fl C hEz (by decide +kernel) dXD_putFirstLine_3 (fun t1 hTt1 => ?_)
    refine v_fln C hTt1 dXD_putFirstLine_6 ?_
    refine v_icmp_ge (tgt := 25) C dXD_putFirstLine_7 (by decide) (by omega) (by omega) (fun hc2 => ?_) (fun hc2 => ?_)
    · exact v_vret C hRt hLk dXD_putFirstLine_25 rfl
    · exfalso; omega
  have L3 : fv z (xG D cA ad) 2 (f_R z (xG D cA ad) (f_QV (fun σ1 => σ1 = x_puts σ [37, 70, 49, 10]) (xG D cA ad))) 0 0 (x_puts σ ([37] ++ [70] ++ [49])) 2 [some (.ref (ad 374)), some (.int (fI 3))] [] := by
    refine v_iload_n C dXD_putFirstLine_2 rfl rfl ?_
    refine v_fl C hEz (by decide +kernel) dXD_putFirstLine_3 (fun t3 hTt3 => ?_)
    refine v_fln C hTt3 dXD_putFirstLine_6 ?_
    refine v_icmp_ge (tgt := 25) C dXD_putFirstLine_7 (by decide) (by omega) (by omega) (fun hc4 => ?_) (fun hc4 => ?_)
    · exfalso; omega
    · refine v_aload_n C dXD_putFirstLine_10 rfl rfl ?_
      refine v_fl C hEz (by decide +kernel) dXD_putFirstLine_11 (fun t5 hTt5 => ?_)
      refine v_iload_n C dXD_putFirstLine_14 rfl rfl ?_
      refine v_flb (i := 3) C hTt5 (by decide) dXD_putFirstLine_15 ?_
      refine v_top (b := 10) (by decide +kernel) ?_
      have hx6 := x_puts_u σ ([37] ++ [70] ++ [49])
      try simp only [List.length_append, List.length_cons, List.length_nil] at hx6
      refine v_cVV (k := 374) (n := 1) C (xE_ok _) hEz hR (kX_XD_put _ D cA ad hJ (x_puts σ ([37] ++ [70] ++ [49])) (10) (by omega) (by omega)) dXD_putFirstLine_16 (by show (374 : Nat) < 383; decide) rfl rfl gXD_93 (by decide +kernel) (by decide) (by decide) rfl (Nat.le_of_ble_eq_true rfl) rfl ⟨rfl, rfl⟩ (fun σ1 hp1 => ?_)
      subst σ1
      refine v_st (σ1 := x_puts σ ([37] ++ [70] ++ [49] ++ [10])) (x_puts_snoc _ _ _) ?_
      refine v_iinc C dXD_putFirstLine_19 rfl (by decide) ?_
      refine v_goto (tgt := 2) C dXD_putFirstLine_22 (by decide) ?_
      exact v_lv rfl L4
  have L2 : fv z (xG D cA ad) 2 (f_R z (xG D cA ad) (f_QV (fun σ1 => σ1 = x_puts σ [37, 70, 49, 10]) (xG D cA ad))) 0 0 (x_puts σ ([37] ++ [70])) 2 [some (.ref (ad 374)), some (.int (fI 2))] [] := by
    refine v_iload_n C dXD_putFirstLine_2 rfl rfl ?_
    refine v_fl C hEz (by decide +kernel) dXD_putFirstLine_3 (fun t7 hTt7 => ?_)
    refine v_fln C hTt7 dXD_putFirstLine_6 ?_
    refine v_icmp_ge (tgt := 25) C dXD_putFirstLine_7 (by decide) (by omega) (by omega) (fun hc8 => ?_) (fun hc8 => ?_)
    · exfalso; omega
    · refine v_aload_n C dXD_putFirstLine_10 rfl rfl ?_
      refine v_fl C hEz (by decide +kernel) dXD_putFirstLine_11 (fun t9 hTt9 => ?_)
      refine v_iload_n C dXD_putFirstLine_14 rfl rfl ?_
      refine v_flb (i := 2) C hTt9 (by decide) dXD_putFirstLine_15 ?_
      refine v_top (b := 49) (by decide +kernel) ?_
      have hx10 := x_puts_u σ ([37] ++ [70])
      try simp only [List.length_append, List.length_cons, List.length_nil] at hx10
      refine v_cVV (k := 374) (n := 1) C (xE_ok _) hEz hR (kX_XD_put _ D cA ad hJ (x_puts σ ([37] ++ [70])) (49) (by omega) (by omega)) dXD_putFirstLine_16 (by show (374 : Nat) < 383; decide) rfl rfl gXD_93 (by decide +kernel) (by decide) (by decide) rfl (Nat.le_of_ble_eq_true rfl) rfl ⟨rfl, rfl⟩ (fun σ1 hp1 => ?_)
      subst σ1
      refine v_st (σ1 := x_puts σ ([37] ++ [70] ++ [49])) (x_puts_snoc _ _ _) ?_
      refine v_iinc C dXD_putFirstLine_19 rfl (by decide) ?_
      refine v_goto (tgt := 2) C dXD_putFirstLine_22 (by decide) ?_
      exact v_lv rfl L3
  have L1 : fv z (xG D cA ad) 2 (f_R z (xG D cA ad) (f_QV (fun σ1 => σ1 = x_puts σ [37, 70, 49, 10]) (xG D cA ad))) 0 0 (x_puts σ ([37])) 2 [some (.ref (ad 374)), some (.int (fI 1))] [] := by
    refine v_iload_n C dXD_putFirstLine_2 rfl rfl ?_
    refine v_fl C hEz (by decide +kernel) dXD_putFirstLine_3 (fun t11 hTt11 => ?_)
    refine v_fln C hTt11 dXD_putFirstLine_6 ?_
    refine v_icmp_ge (tgt := 25) C dXD_putFirstLine_7 (by decide) (by omega) (by omega) (fun hc12 => ?_) (fun hc12 => ?_)
    · exfalso; omega
    · refine v_aload_n C dXD_putFirstLine_10 rfl rfl ?_
      refine v_fl C hEz (by decide +kernel) dXD_putFirstLine_11 (fun t13 hTt13 => ?_)
      refine v_iload_n C dXD_putFirstLine_14 rfl rfl ?_
      refine v_flb (i := 1) C hTt13 (by decide) dXD_putFirstLine_15 ?_
      refine v_top (b := 70) (by decide +kernel) ?_
      have hx14 := x_puts_u σ ([37])
      try simp only [List.length_append, List.length_cons, List.length_nil] at hx14
      refine v_cVV (k := 374) (n := 1) C (xE_ok _) hEz hR (kX_XD_put _ D cA ad hJ (x_puts σ ([37])) (70) (by omega) (by omega)) dXD_putFirstLine_16 (by show (374 : Nat) < 383; decide) rfl rfl gXD_93 (by decide +kernel) (by decide) (by decide) rfl (Nat.le_of_ble_eq_true rfl) rfl ⟨rfl, rfl⟩ (fun σ1 hp1 => ?_)
      subst σ1
      refine v_st (σ1 := x_puts σ ([37] ++ [70])) (x_puts_snoc _ _ _) ?_
      refine v_iinc C dXD_putFirstLine_19 rfl (by decide) ?_
      refine v_goto (tgt := 2) C dXD_putFirstLine_22 (by decide) ?_
      exact v_lv rfl L2
  have L0 : fv z (xG D cA ad) 2 (f_R z (xG D cA ad) (f_QV (fun σ1 => σ1 = x_puts σ [37, 70, 49, 10]) (xG D cA ad))) 0 0 (x_puts σ ([])) 2 [some (.ref (ad 374)), some (.int (fI 0))] [] := by
    refine v_iload_n C dXD_putFirstLine_2 rfl rfl ?_
    refine v_fl C hEz (by decide +kernel) dXD_putFirstLine_3 (fun t15 hTt15 => ?_)
    refine v_fln C hTt15 dXD_putFirstLine_6 ?_
    refine v_icmp_ge (tgt := 25) C dXD_putFirstLine_7 (by decide) (by omega) (by omega) (fun hc16 => ?_) (fun hc16 => ?_)
    · exfalso; omega
    · refine v_aload_n C dXD_putFirstLine_10 rfl rfl ?_
      refine v_fl C hEz (by decide +kernel) dXD_putFirstLine_11 (fun t17 hTt17 => ?_)
      refine v_iload_n C dXD_putFirstLine_14 rfl rfl ?_
      refine v_flb (i := 0) C hTt17 (by decide) dXD_putFirstLine_15 ?_
      refine v_top (b := 37) (by decide +kernel) ?_
      have hx18 := x_puts_u σ ([])
      try simp only [List.length_append, List.length_cons, List.length_nil] at hx18
      refine v_cVV (k := 374) (n := 1) C (xE_ok _) hEz hR (kX_XD_put _ D cA ad hJ (x_puts σ ([])) (37) (by omega) (by omega)) dXD_putFirstLine_16 (by show (374 : Nat) < 383; decide) rfl rfl gXD_93 (by decide +kernel) (by decide) (by decide) rfl (Nat.le_of_ble_eq_true rfl) rfl ⟨rfl, rfl⟩ (fun σ1 hp1 => ?_)
      subst σ1
      refine v_st (σ1 := x_puts σ ([37])) (rfl) ?_
      refine v_iinc C dXD_putFirstLine_19 rfl (by decide) ?_
      refine v_goto (tgt := 2) C dXD_putFirstLine_22 (by decide) ?_
      exact v_lv rfl L1
  refine v_st (σ1 := x_puts σ []) rfl ?_
  refine v_iconst C dXD_putFirstLine_0 ?_
  refine v_istore_n C dXD_putFirstLine_1 rfl (by decide) ?_
  exact L0
