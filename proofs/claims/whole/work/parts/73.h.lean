section
theorem x_tk_n {σ : fS} {k : Nat} (h : x_I σ) (hk : k < 60) : 0 ≤ x_tkn σ k ∧ x_tkn σ k ≤ 12000 := (x_tk_I h hk).1 8 1
theorem x_rd_r {fb : Nat → Int} {fn v : Int} {σ σ1 : fS} (h : x_rd fb fn σ v σ1) (hfn : 0 ≤ fn ∧ fn ≤ 12000) (hI : x_I σ) : -100000 ≤ v ∧ v ≤ 60 := by
  obtain ⟨w, S, hf, h⟩ := h
  have f3 := (x_ff_I hfn hI hf).2.2.1
  rcases h with ⟨h1, h2, -⟩ | ⟨-, c, -, h1, h2, h3, -⟩ <;> omega
def y_object (σ : fS) (n m : Int) (k v : Int) (σ1 : fS) : Prop := (¬ (1 ≤ n ∧ n ≤ 40) ∧ k = 1 ∧ σ1 = σ) ∨ ((1 ≤ n ∧ n ≤ 40) ∧ ¬ (0 ≤ m ∧ m ≤ 120) ∧ k = 2 ∧ σ1 = σ) ∨ ((1 ≤ n ∧ n ≤ 40) ∧ (0 ≤ m ∧ m ≤ 120) ∧ k = 0 ∧ σ1 = x_bring σ n m)
def y_write (σ : fS) (how : Int) (k v : Int) (σ1 : fS) : Prop := (¬ (0 ≤ how ∧ how ≤ 2) ∧ k = 1 ∧ σ1 = σ) ∨ ((0 ≤ how ∧ how ≤ 2) ∧ k = 0 ∧ x_wrt σ how σ1 ∧ v = σ1.1 8 1)
def y_append (σ : fS) (k v : Int) (σ1 : fS) : Prop := ((σ.1 8 1 = 0 ∨ σ.1 8 2 = 1) ∧ k = 1 ∧ σ1 = σ) ∨ (¬ (σ.1 8 1 = 0 ∨ σ.1 8 2 = 1) ∧ m_cnt (x_ch σ) 40 = 0 ∧ k = 0 ∧ v = 0 ∧ σ1 = σ) ∨ (¬ (σ.1 8 1 = 0 ∨ σ.1 8 2 = 1) ∧ ¬ m_cnt (x_ch σ) 40 = 0 ∧ σ.1 10 1 = 60 ∧ k = 2 ∧ σ1 = σ) ∨ (¬ (σ.1 8 1 = 0 ∨ σ.1 8 2 = 1) ∧ ¬ m_cnt (x_ch σ) 40 = 0 ∧ ¬ σ.1 10 1 = 60 ∧ ¬ (x_apd σ (σ.1 10 1).toNat).1 377 3 ≤ 12000 ∧ k = 2 ∧ x_ccR (x_beg σ (σ.1 8 1)) 40 (x_ccF (x_beg σ (σ.1 8 1)) 40) ∧ σ1 = x_apd σ (σ.1 10 1).toNat) ∨ (¬ (σ.1 8 1 = 0 ∨ σ.1 8 2 = 1) ∧ ¬ m_cnt (x_ch σ) 40 = 0 ∧ ¬ σ.1 10 1 = 60 ∧ (x_apd σ (σ.1 10 1).toNat).1 377 3 ≤ 12000 ∧ k = 0 ∧ x_ccR (x_beg σ (σ.1 8 1)) 40 (x_ccF (x_beg σ (σ.1 8 1)) 40) ∧ σ1 = x_kept (x_apd σ (σ.1 10 1).toNat) (σ.1 10 1).toNat ∧ v = (x_apd σ (σ.1 10 1).toNat).1 374 6)
def y_poke (σ : fS) (i b : Int) (k v : Int) (σ1 : fS) : Prop := (¬ (0 ≤ i ∧ i < σ.1 8 1) ∧ k = 1 ∧ σ1 = σ) ∨ ((0 ≤ i ∧ i < σ.1 8 1) ∧ k = 0 ∧ v = σ.2 9 i.toNat ∧ σ1 = f_p1 (f_p2 σ 9 i.toNat b) 8 2 1)
def y_take (σ : fS) (i : Int) (k v : Int) (σ1 : fS) : Prop := (¬ (0 ≤ i ∧ i < σ.1 10 1) ∧ k = 1 ∧ σ1 = σ) ∨ ((0 ≤ i ∧ i < σ.1 10 1) ∧ k = 0 ∧ x_rd (σ.2 9) (x_tkn σ i.toNat) (x_tk σ i.toNat) v σ1)
def y_differ (σ : fS) (b c : Int) (k v : Int) (σ1 : fS) : Prop := (¬ ((0 ≤ b ∧ b < σ.1 10 1) ∧ 0 ≤ c ∧ c < σ.1 10 1) ∧ k = 1 ∧ σ1 = σ) ∨ (((0 ≤ b ∧ b < σ.1 10 1) ∧ 0 ≤ c ∧ c < σ.1 10 1) ∧ k = 0 ∧ x_frD σ 40 σ1 ∧ v = σ1.1 380 2)
set_option maxRecDepth 100000 in
set_option maxHeartbeats 4000000 in
theorem kG_object (l : Launch) (D : va_G) (cA : Nat → ClassId) (ad : Nat → Nat) (hJ : f_J (xG D cA ad)) (hst : l.stackTraces = false) (a : Nat) (hoff : h_off (xG D cA ad) a) (v0 : Int) (σ : fS) (hI : x_I σ) (n m : Int) (hn : -2147483648 ≤ n ∧ n ≤ 2147483647) (hm : -2147483648 ≤ m ∧ m ≤ 2147483647) : h_M l (xG D cA ad) (cA 4) a yL_object (Cond.codeWith yL_object cL_object 4 (some .int) [(0, 6, 9, 13), (0, 6, 12, 15)] :: A9) 9 1 6 σ v0 [.ref (ad 0), .int (fI n), .int (fI m)] (fun k v σ1 => y_object σ n m k v σ1) := by
  refine h_enter (by decide +kernel) hJ rfl (Nat.le_of_ble_eq_true rfl) ?_
  intro z hzl hR C htab hRt hLk hEz ho
  subst hzl
  have hR1 : 8 ≤ z.2.2.2.1.frames ∧ 40 * 8 ≤ z.2.2.2.1.locals ∧ 0 ≤ z.2.2.2.1.cells ∧ 0 ≤ z.2.2.2.1.slots := by rw [hR]; exact ⟨by decide, by decide, Nat.zero_le _, Nat.zero_le _⟩
  have hR2 : 8 ≤ z.2.2.2.1.frames ∧ 40 * 8 ≤ z.2.2.2.1.locals ∧ 0 + 1 ≤ z.2.2.2.1.cells ∧ 0 + 6 ≤ z.2.2.2.1.slots := by rw [hR]; exact ⟨by decide, by decide, by decide, by decide⟩
  have h81 : 0 ≤ σ.1 8 1 ∧ σ.1 8 1 ≤ 12000 := hI.1 8 1
  have h101 : 0 ≤ σ.1 10 1 ∧ σ.1 10 1 ≤ 60 := hI.1 10 1
  have h82 : 0 ≤ σ.1 8 2 ∧ σ.1 8 2 ≤ 1 := hI.1 8 2
  have h380 : 0 ≤ σ.1 380 2 ∧ σ.1 380 2 ≤ 40 := hI.1 380 2
  refine v_aload_n C dL_object_0 rfl rfl ?_
  refine v_iload_n C dL_object_1 rfl rfl ?_
  refine v_iload_n C dL_object_2 rfl rfl ?_
  by_cases hg0 : ¬ (1 ≤ n ∧ n ≤ 40)
  · refine u_cVX (k := 0) (np := 2) (dd := 8) (hpc := 9) C (xE_ok _) hEz hR2 (tX_objectI _ D cA ad hJ hst σ n m hn hm hg0) dL_object_3 (by show (0 : Nat) < 383; decide) rfl rfl gL_7 (by decide +kernel) (by decide) (by decide) rfl (Nat.le_of_ble_eq_true rfl) rfl (fun hpl cX hcX => by rw [htab]; exact h_fc hpl C.2.2.2.1 (by decide) (by decide) (C.2.2.2.2.1 _ qL_13) (hEz.2.2.2.2.1 _ (by decide +kernel)) hcX) (fun τ q hp => ?_)
    refine v_astore_n C dL_object_9 rfl (by decide) ?_
    refine v_iconst C dL_object_10 ?_
    exact h_ret C ho hoff hRt hLk dL_object_11 ⟨by decide, by decide⟩ (Or.inl ⟨hg0, rfl, hp⟩)
  by_cases hg1 : ¬ (0 ≤ m ∧ m ≤ 120)
  · refine u_cVX (k := 0) (np := 2) (dd := 8) (hpc := 12) C (xE_ok _) hEz hR2 (tX_objectA _ D cA ad hJ hst σ n m hn hm (by omega) hg1) dL_object_3 (by show (0 : Nat) < 383; decide) rfl rfl gL_7 (by decide +kernel) (by decide) (by decide) rfl (Nat.le_of_ble_eq_true rfl) rfl (fun hpl cX hcX => by rw [htab]; exact h_fp hpl C.2.2.2.1 (by decide) (by decide) (C.2.2.2.2.1 _ qL_13) hEz.2.2.2.2.2.1.1 hcX (h_fc hpl C.2.2.2.1 (by decide) (by decide) (C.2.2.2.2.1 _ qL_15) (hEz.2.2.2.2.1 _ (by decide +kernel)) hcX)) (fun τ q hp => ?_)
    refine v_astore_n C dL_object_12 rfl (by decide) ?_
    refine v_iconst C dL_object_13 ?_
    exact h_ret C ho hoff hRt hLk dL_object_14 ⟨by decide, by decide⟩ (Or.inr (Or.inl ⟨by omega, hg1, rfl, hp⟩))
  refine u_cVV (k := 0) (n := 2) (dd := 8) C (xE_ok _) hEz hR1 (kX_XA_object _ D cA ad hJ σ n m (by omega) (by omega)) dL_object_3 (by show (0 : Nat) < 383; decide) rfl rfl gL_7 (by decide +kernel) (by decide) (by decide) rfl (Nat.le_of_ble_eq_true rfl) rfl (fun τ hp => ?_)
  refine v_goto (tgt := 15) C dL_object_6 (by decide) ?_
  refine v_iconst C dL_object_15 ?_
  exact h_ret C ho hoff hRt hLk dL_object_16 ⟨by decide, by decide⟩ (Or.inr (Or.inr ⟨by omega, by omega, rfl, hp⟩))
set_option maxRecDepth 100000 in
set_option maxHeartbeats 4000000 in
theorem kG_write (l : Launch) (D : va_G) (cA : Nat → ClassId) (ad : Nat → Nat) (hJ : f_J (xG D cA ad)) (hst : l.stackTraces = false) (a : Nat) (hoff : h_off (xG D cA ad) a) (v0 : Int) (σ : fS) (hI : x_I σ) (how : Int) (hhow : -2147483648 ≤ how ∧ how ≤ 2147483647) : h_M l (xG D cA ad) (cA 4) a yL_write (Cond.codeWith yL_write cL_write 4 (some .int) [(0, 9, 12, 15), (0, 9, 15, 33)] :: A9) 9 1 6 σ v0 [.ref (ad 0), .int (fI how), .ref a] (fun k v σ1 => y_write σ how k v σ1) := by
  refine h_enter (by decide +kernel) hJ rfl (Nat.le_of_ble_eq_true rfl) ?_
  intro z hzl hR C htab hRt hLk hEz ho
  subst hzl
  have hR1 : 8 ≤ z.2.2.2.1.frames ∧ 40 * 8 ≤ z.2.2.2.1.locals ∧ 0 ≤ z.2.2.2.1.cells ∧ 0 ≤ z.2.2.2.1.slots := by rw [hR]; exact ⟨by decide, by decide, Nat.zero_le _, Nat.zero_le _⟩
  have hR2 : 8 ≤ z.2.2.2.1.frames ∧ 40 * 8 ≤ z.2.2.2.1.locals ∧ 0 + 1 ≤ z.2.2.2.1.cells ∧ 0 + 6 ≤ z.2.2.2.1.slots := by rw [hR]; exact ⟨by decide, by decide, by decide, by decide⟩
  have h81 : 0 ≤ σ.1 8 1 ∧ σ.1 8 1 ≤ 12000 := hI.1 8 1
  have h101 : 0 ≤ σ.1 10 1 ∧ σ.1 10 1 ≤ 60 := hI.1 10 1
  have h82 : 0 ≤ σ.1 8 2 ∧ σ.1 8 2 ≤ 1 := hI.1 8 2
  have h380 : 0 ≤ σ.1 380 2 ∧ σ.1 380 2 ≤ 40 := hI.1 380 2
  refine v_aload_n C dL_write_0 rfl rfl ?_
  refine v_iconst C dL_write_1 ?_
  refine v_aload_n C dL_write_2 rfl rfl ?_
  refine v_iload_n C dL_write_3 rfl rfl ?_
  by_cases hg0 : ¬ (0 ≤ how ∧ how ≤ 2)
  · refine u_cVX (k := 0) (np := 1) (dd := 8) (hpc := 12) C (xE_ok _) hEz hR2 (tX_writeA _ D cA ad hJ hst σ how hhow hg0) dL_write_4 (by show (0 : Nat) < 383; decide) rfl rfl gL_29 (by decide +kernel) (by decide) (by decide) rfl (Nat.le_of_ble_eq_true rfl) rfl (fun hpl cX hcX => by rw [htab]; exact h_fc hpl C.2.2.2.1 (by decide) (by decide) (C.2.2.2.2.1 _ qL_15) (hEz.2.2.2.2.1 _ (by decide +kernel)) hcX) (fun τ q hp => ?_)
    refine v_astore_n C dL_write_12 rfl (by decide) ?_
    refine v_iconst C dL_write_13 ?_
    exact h_ret C ho hoff hRt hLk dL_write_14 ⟨by decide, by decide⟩ (Or.inl ⟨hg0, rfl, hp⟩)
  refine u_cVI (k := 0) (n := 1) (dd := 8) C (xE_ok _) hEz hR1 (kX_XA_write _ D cA ad hJ σ how (by omega) hI) dL_write_4 (by show (0 : Nat) < 383; decide) rfl rfl gL_29 (by decide +kernel) (by decide) (by decide) rfl (Nat.le_of_ble_eq_true rfl) rfl (fun r τ hp => ?_)
  obtain ⟨e1, e2⟩ := hp
  have e3 : 0 ≤ τ.1 8 1 ∧ τ.1 8 1 ≤ 12000 := (x_I_wrt hI e1).1 8 1
  refine v_i2l C dL_write_7 (by omega) ?_
  exact h_end (v := r) C ho hoff hRt hLk rfl rfl dL_write_8 dL_write_9 (by decide) dL_write_18 dL_write_19 ⟨by decide, by decide⟩ (Or.inr ⟨by omega, rfl, e1, e2⟩)
set_option maxRecDepth 100000 in
set_option maxHeartbeats 4000000 in
theorem kG_append (l : Launch) (D : va_G) (cA : Nat → ClassId) (ad : Nat → Nat) (hJ : f_J (xG D cA ad)) (hst : l.stackTraces = false) (a : Nat) (hoff : h_off (xG D cA ad) a) (v0 : Int) (σ : fS) (hI : x_I σ) (_u : Unit)  : h_M l (xG D cA ad) (cA 4) a yL_append (Cond.codeWith yL_append cL_append 3 (some .int) [(0, 8, 11, 39), (0, 8, 14, 33)] :: A9) 9 1 6 σ v0 [.ref (ad 0), .ref a] (fun k v σ1 => y_append σ  k v σ1) := by
  refine h_enter (by decide +kernel) hJ rfl (Nat.le_of_ble_eq_true rfl) ?_
  intro z hzl hR C htab hRt hLk hEz ho
  subst hzl
  have hR1 : 8 ≤ z.2.2.2.1.frames ∧ 40 * 8 ≤ z.2.2.2.1.locals ∧ 0 ≤ z.2.2.2.1.cells ∧ 0 ≤ z.2.2.2.1.slots := by rw [hR]; exact ⟨by decide, by decide, Nat.zero_le _, Nat.zero_le _⟩
  have hR2 : 8 ≤ z.2.2.2.1.frames ∧ 40 * 8 ≤ z.2.2.2.1.locals ∧ 0 + 1 ≤ z.2.2.2.1.cells ∧ 0 + 6 ≤ z.2.2.2.1.slots := by rw [hR]; exact ⟨by decide, by decide, by decide, by decide⟩
  have h81 : 0 ≤ σ.1 8 1 ∧ σ.1 8 1 ≤ 12000 := hI.1 8 1
  have h101 : 0 ≤ σ.1 10 1 ∧ σ.1 10 1 ≤ 60 := hI.1 10 1
  have h82 : 0 ≤ σ.1 8 2 ∧ σ.1 8 2 ≤ 1 := hI.1 8 2
  have h380 : 0 ≤ σ.1 380 2 ∧ σ.1 380 2 ≤ 40 := hI.1 380 2
  refine v_aload_n C dL_append_0 rfl rfl ?_
  refine v_iconst C dL_append_1 ?_
  refine v_aload_n C dL_append_2 rfl rfl ?_
  by_cases hg0 : σ.1 8 1 = 0 ∨ σ.1 8 2 = 1
  · refine u_cVX (k := 0) (np := 0) (dd := 8) (hpc := 11) C (xE_ok _) hEz hR2 (tX_appendS _ D cA ad hJ hst σ h81 h82 hg0) dL_append_3 (by show (0 : Nat) < 383; decide) rfl rfl gL_35 (by decide +kernel) (by decide) (by decide) rfl (Nat.le_of_ble_eq_true rfl) rfl (fun hpl cX hcX => by rw [htab]; exact h_fc hpl C.2.2.2.1 (by decide) (by decide) (C.2.2.2.2.1 _ qL_39) (hEz.2.2.2.2.1 _ (by decide +kernel)) hcX) (fun τ q hp => ?_)
    refine v_astore_n C dL_append_11 rfl (by decide) ?_
    refine v_iconst C dL_append_12 ?_
    exact h_ret C ho hoff hRt hLk dL_append_13 ⟨by decide, by decide⟩ (Or.inl ⟨hg0, rfl, hp⟩)
  by_cases hg1 : m_cnt (x_ch σ) 40 = 0
  · refine u_cVI (k := 0) (n := 0) (dd := 8) C (xE_ok _) hEz hR1 (kX_XA_appendZ _ D cA ad hJ σ (σ.1 10 1).toNat (by omega) hI (by omega) (by omega) hg1) dL_append_3 (by show (0 : Nat) < 383; decide) rfl rfl gL_35 (by decide +kernel) (by decide) (by decide) rfl (Nat.le_of_ble_eq_true rfl) rfl (fun r τ hp => ?_)
    obtain ⟨e1, e2⟩ := hp
    refine v_i2l C dL_append_6 (by omega) ?_
    exact h_end (v := r) C ho hoff hRt hLk rfl rfl dL_append_7 dL_append_8 (by decide) dL_append_17 dL_append_18 ⟨by decide, by decide⟩ (Or.inr (Or.inl ⟨hg0, hg1, rfl, e1, e2⟩))
  by_cases hg2 : σ.1 10 1 = 60
  · refine u_cVX (k := 0) (np := 0) (dd := 8) (hpc := 14) C (xE_ok _) hEz hR2 (tX_appendU _ D cA ad hJ hst σ (σ.1 10 1).toNat (by omega) hI (by omega) (by omega) hg1 (by omega)) dL_append_3 (by show (0 : Nat) < 383; decide) rfl rfl gL_35 (by decide +kernel) (by decide) (by decide) rfl (Nat.le_of_ble_eq_true rfl) rfl (fun hpl cX hcX => by rw [htab]; exact h_fp hpl C.2.2.2.1 (by decide) (by decide) (C.2.2.2.2.1 _ qL_39) hEz.2.2.2.2.2.1.2.2 hcX (h_fc hpl C.2.2.2.1 (by decide) (by decide) (C.2.2.2.2.1 _ qL_33) (hEz.2.2.2.2.1 _ (by decide +kernel)) hcX)) (fun τ q hp => ?_)
    refine v_astore_n C dL_append_14 rfl (by decide) ?_
    refine v_iconst C dL_append_15 ?_
    exact h_ret C ho hoff hRt hLk dL_append_16 ⟨by decide, by decide⟩ (Or.inr (Or.inr (Or.inl ⟨hg0, hg1, hg2, rfl, hp⟩)))
  by_cases hg3 : ¬ (x_apd σ (σ.1 10 1).toNat).1 377 3 ≤ 12000
  · refine u_cVX (k := 0) (np := 0) (dd := 8) (hpc := 14) C (xE_ok _) hEz hR2 (tX_appendV _ D cA ad hJ hst σ (σ.1 10 1).toNat (by omega) hI (by omega) (by omega) hg1 (by omega) hg3) dL_append_3 (by show (0 : Nat) < 383; decide) rfl rfl gL_35 (by decide +kernel) (by decide) (by decide) rfl (Nat.le_of_ble_eq_true rfl) rfl (fun hpl cX hcX => by rw [htab]; exact h_fp hpl C.2.2.2.1 (by decide) (by decide) (C.2.2.2.2.1 _ qL_39) hEz.2.2.2.2.2.1.2.2 hcX (h_fc hpl C.2.2.2.1 (by decide) (by decide) (C.2.2.2.2.1 _ qL_33) (hEz.2.2.2.2.1 _ (by decide +kernel)) hcX)) (fun τ q hp => ?_)
    refine v_astore_n C dL_append_14 rfl (by decide) ?_
    refine v_iconst C dL_append_15 ?_
    exact h_ret C ho hoff hRt hLk dL_append_16 ⟨by decide, by decide⟩ (Or.inr (Or.inr (Or.inr (Or.inl ⟨hg0, hg1, hg2, hg3, rfl, hp.1, hp.2⟩))))
  refine u_cVI (k := 0) (n := 0) (dd := 8) C (xE_ok _) hEz hR1 (kX_XA_append _ D cA ad hJ σ (σ.1 10 1).toNat (by omega) hI (by omega) (by omega) hg1 (by omega) (by omega)) dL_append_3 (by show (0 : Nat) < 383; decide) rfl rfl gL_35 (by decide +kernel) (by decide) (by decide) rfl (Nat.le_of_ble_eq_true rfl) rfl (fun r τ hp => ?_)
  obtain ⟨e0, e1, e2⟩ := hp
  have e3 := x_fin_n (x_rdy_a hI e0) (x_lx σ (σ.1 10 1).toNat)
  have e4 := (x_rdy_a hI e0).2.2.2.2
  have e5 : (x_fin (x_ccF (x_beg σ (σ.1 8 1)) 40) (x_lx σ (σ.1 10 1).toNat)).1 374 6 = r := e2.symm
  refine v_i2l C dL_append_6 (by omega) ?_
  exact h_end (v := r) C ho hoff hRt hLk rfl rfl dL_append_7 dL_append_8 (by decide) dL_append_17 dL_append_18 ⟨by decide, by decide⟩ (Or.inr (Or.inr (Or.inr (Or.inr ⟨hg0, hg1, hg2, by omega, rfl, e0, e1, e2⟩))))
set_option maxRecDepth 100000 in
set_option maxHeartbeats 4000000 in
theorem kG_poke (l : Launch) (D : va_G) (cA : Nat → ClassId) (ad : Nat → Nat) (hJ : f_J (xG D cA ad)) (hst : l.stackTraces = false) (a : Nat) (hoff : h_off (xG D cA ad) a) (v0 : Int) (σ : fS) (hI : x_I σ) (i b : Int) (hi : -2147483648 ≤ i ∧ i ≤ 2147483647) (hb : -2147483648 ≤ b ∧ b ≤ 2147483647) (hb8 : -128 ≤ b ∧ b ≤ 127) : h_M l (xG D cA ad) (cA 4) a yL_poke (Cond.codeWith yL_poke cL_poke 5 (some .int) [(0, 10, 13, 13)] :: A9) 9 1 6 σ v0 [.ref (ad 0), .int (fI i), .int (fI b), .ref a] (fun k v σ1 => y_poke σ i b k v σ1) := by
  refine h_enter (by decide +kernel) hJ rfl (Nat.le_of_ble_eq_true rfl) ?_
  intro z hzl hR C htab hRt hLk hEz ho
  subst hzl
  have hR1 : 8 ≤ z.2.2.2.1.frames ∧ 40 * 8 ≤ z.2.2.2.1.locals ∧ 0 ≤ z.2.2.2.1.cells ∧ 0 ≤ z.2.2.2.1.slots := by rw [hR]; exact ⟨by decide, by decide, Nat.zero_le _, Nat.zero_le _⟩
  have hR2 : 8 ≤ z.2.2.2.1.frames ∧ 40 * 8 ≤ z.2.2.2.1.locals ∧ 0 + 1 ≤ z.2.2.2.1.cells ∧ 0 + 6 ≤ z.2.2.2.1.slots := by rw [hR]; exact ⟨by decide, by decide, by decide, by decide⟩
  have h81 : 0 ≤ σ.1 8 1 ∧ σ.1 8 1 ≤ 12000 := hI.1 8 1
  have h101 : 0 ≤ σ.1 10 1 ∧ σ.1 10 1 ≤ 60 := hI.1 10 1
  have h82 : 0 ≤ σ.1 8 2 ∧ σ.1 8 2 ≤ 1 := hI.1 8 2
  have h380 : 0 ≤ σ.1 380 2 ∧ σ.1 380 2 ≤ 40 := hI.1 380 2
  refine v_aload_n C dL_poke_0 rfl rfl ?_
  refine v_iconst C dL_poke_1 ?_
  refine v_aload_n C dL_poke_2 rfl rfl ?_
  refine v_iload_n C dL_poke_3 rfl rfl ?_
  refine v_iload_n C dL_poke_4 rfl rfl ?_
  by_cases hg0 : ¬ (0 ≤ i ∧ i < σ.1 8 1)
  · refine u_cVX (k := 0) (np := 2) (dd := 8) (hpc := 13) C (xE_ok _) hEz hR2 (tX_poke _ D cA ad hJ hst σ i b hi h81 hg0) dL_poke_5 (by show (0 : Nat) < 383; decide) rfl rfl gL_41 (by decide +kernel) (by decide) (by decide) rfl (Nat.le_of_ble_eq_true rfl) rfl (fun hpl cX hcX => by rw [htab]; exact h_fc hpl C.2.2.2.1 (by decide) (by decide) (C.2.2.2.2.1 _ qL_13) (hEz.2.2.2.2.1 _ (by decide +kernel)) hcX) (fun τ q hp => ?_)
    refine v_astore C dL_poke_13 (by decide) ?_
    refine v_iconst C dL_poke_15 ?_
    exact h_ret C ho hoff hRt hLk dL_poke_16 ⟨by decide, by decide⟩ (Or.inl ⟨hg0, rfl, hp⟩)
  refine u_cVI (k := 0) (n := 2) (dd := 8) C (xE_ok _) hEz hR1 (kX_XA_poke _ D cA ad hJ σ i b hb8 h81 (fun i => hI.2 9 i) (by omega)) dL_poke_5 (by show (0 : Nat) < 383; decide) rfl rfl gL_41 (by decide +kernel) (by decide) (by decide) rfl (Nat.le_of_ble_eq_true rfl) rfl (fun r τ hp => ?_)
  obtain ⟨e1, e2⟩ := hp
  have e3 : -128 ≤ σ.2 9 i.toNat ∧ σ.2 9 i.toNat ≤ 127 := hI.2 9 _
  refine v_i2l C dL_poke_8 (by omega) ?_
  exact h_end (v := r) C ho hoff hRt hLk rfl rfl dL_poke_9 dL_poke_10 (by decide) dL_poke_17 dL_poke_18 ⟨by decide, by decide⟩ (Or.inr ⟨by omega, rfl, e1, e2⟩)
set_option maxRecDepth 100000 in
set_option maxHeartbeats 4000000 in
theorem kG_take (l : Launch) (D : va_G) (cA : Nat → ClassId) (ad : Nat → Nat) (hJ : f_J (xG D cA ad)) (hst : l.stackTraces = false) (a : Nat) (hoff : h_off (xG D cA ad) a) (v0 : Int) (σ : fS) (hI : x_I σ) (i : Int) (hi : -2147483648 ≤ i ∧ i ≤ 2147483647) : h_M l (xG D cA ad) (cA 4) a yL_take (Cond.codeWith yL_take cL_take 4 (some .int) [(0, 9, 12, 13)] :: A9) 9 1 6 σ v0 [.ref (ad 0), .int (fI i), .ref a] (fun k v σ1 => y_take σ i k v σ1) := by
  refine h_enter (by decide +kernel) hJ rfl (Nat.le_of_ble_eq_true rfl) ?_
  intro z hzl hR C htab hRt hLk hEz ho
  subst hzl
  have hR1 : 8 ≤ z.2.2.2.1.frames ∧ 40 * 8 ≤ z.2.2.2.1.locals ∧ 0 ≤ z.2.2.2.1.cells ∧ 0 ≤ z.2.2.2.1.slots := by rw [hR]; exact ⟨by decide, by decide, Nat.zero_le _, Nat.zero_le _⟩
  have hR2 : 8 ≤ z.2.2.2.1.frames ∧ 40 * 8 ≤ z.2.2.2.1.locals ∧ 0 + 1 ≤ z.2.2.2.1.cells ∧ 0 + 6 ≤ z.2.2.2.1.slots := by rw [hR]; exact ⟨by decide, by decide, by decide, by decide⟩
  have h81 : 0 ≤ σ.1 8 1 ∧ σ.1 8 1 ≤ 12000 := hI.1 8 1
  have h101 : 0 ≤ σ.1 10 1 ∧ σ.1 10 1 ≤ 60 := hI.1 10 1
  have h82 : 0 ≤ σ.1 8 2 ∧ σ.1 8 2 ≤ 1 := hI.1 8 2
  have h380 : 0 ≤ σ.1 380 2 ∧ σ.1 380 2 ≤ 40 := hI.1 380 2
  refine v_aload_n C dL_take_0 rfl rfl ?_
  refine v_iconst C dL_take_1 ?_
  refine v_aload_n C dL_take_2 rfl rfl ?_
  refine v_iload_n C dL_take_3 rfl rfl ?_
  by_cases hg0 : ¬ (0 ≤ i ∧ i < σ.1 10 1)
  · refine u_cVX (k := 0) (np := 1) (dd := 8) (hpc := 12) C (xE_ok _) hEz hR2 (tX_take _ D cA ad hJ hst σ i hi h101 hg0) dL_take_4 (by show (0 : Nat) < 383; decide) rfl rfl gL_45 (by decide +kernel) (by decide) (by decide) rfl (Nat.le_of_ble_eq_true rfl) rfl (fun hpl cX hcX => by rw [htab]; exact h_fc hpl C.2.2.2.1 (by decide) (by decide) (C.2.2.2.2.1 _ qL_13) (hEz.2.2.2.2.1 _ (by decide +kernel)) hcX) (fun τ q hp => ?_)
    refine v_astore_n C dL_take_12 rfl (by decide) ?_
    refine v_iconst C dL_take_13 ?_
    exact h_ret C ho hoff hRt hLk dL_take_14 ⟨by decide, by decide⟩ (Or.inl ⟨hg0, rfl, hp⟩)
  refine u_cVI (k := 0) (n := 1) (dd := 8) C (xE_ok _) hEz hR1 (kX_XA_take _ D cA ad hJ σ i hI (by omega)) dL_take_4 (by show (0 : Nat) < 383; decide) rfl rfl gL_45 (by decide +kernel) (by decide) (by decide) rfl (Nat.le_of_ble_eq_true rfl) rfl (fun r τ hp => ?_)
  have e3 := x_rd_r hp (x_tk_n hI (by omega)) (x_tk_I hI (by omega))
  refine v_i2l C dL_take_7 (by omega) ?_
  exact h_end (v := r) C ho hoff hRt hLk rfl rfl dL_take_8 dL_take_9 (by decide) dL_take_15 dL_take_16 ⟨by decide, by decide⟩ (Or.inr ⟨by omega, rfl, hp⟩)
end
section
set_option maxRecDepth 100000 in
set_option maxHeartbeats 4000000 in
theorem kM_writeS (l : Launch) (xCl : List vw_C) (D : va_G) (cA : Nat → ClassId) (ad : Nat → Nat) (hJ : f_J (mG xCl D cA ad)) (σ : fS) (how : Int) (hn : -2147483648 ≤ how ∧ how ≤ 2147483647) (hg : ¬ (0 ≤ how ∧ how ≤ 2)) : f_M l (mG xCl D cA ad) mE yM_write (Cond.code yM_write cM_write 2 (some .int) :: A9) 6 σ [.ref (ad 0), .int (fI how)] (f_QI (fun r σ1 => r = 0 ∧ σ1 = f_p1 σ 0 0 1) (mG xCl D cA ad)) := by
  refine f_enter (by decide +kernel) hJ rfl (Nat.le_of_ble_eq_true rfl) ?_
  intro z hzl hR C hRt hLk hEz
  subst hzl
  refine v_aload_n C dM_write_0 rfl rfl ?_
  refine v_iload_n C dM_write_1 rfl rfl ?_
  refine v_if_lt (tgt := 10) C dM_write_2 (by decide) (by omega) (fun hc1 => ?_) (fun hc1 => ?_)
  · refine v_iconst C dM_write_10 ?_
    refine v_goto (tgt := 15) C dM_write_11 (by decide) ?_
    refine v_putI (k := 0) (q := 0) C dM_write_15 (by show (0 : Nat) < 18; decide) rfl rfl (by decide) rfl inM tyM_ok nmM lM_63 rfl rfl rfl rfl rfl ?_
    refine v_aload_n C dM_write_18 rfl rfl ?_
    refine v_getI (k := 0) (q := 0) (v := 1) C dM_write_19 (by show (0 : Nat) < 18; decide) rfl rfl (by decide) rfl inM lM_63 rfl rfl ?_
    refine v_if_le (tgt := 27) C dM_write_22 (by decide) (by omega) (fun hc2 => ?_) (fun hc2 => ?_)
    · exfalso; omega
    · refine v_iconst C dM_write_25 ?_
      exact v_iret C hRt hLk dM_write_26 ⟨rfl, rfl⟩
  · refine v_iload_n C dM_write_5 rfl rfl ?_
    refine v_iconst C dM_write_6 ?_
    refine v_icmp_le (tgt := 14) C dM_write_7 (by decide) (by omega) (by omega) (fun hc3 => ?_) (fun hc3 => ?_)
    · exfalso; omega
    · refine v_iconst C dM_write_10 ?_
      refine v_goto (tgt := 15) C dM_write_11 (by decide) ?_
      refine v_putI (k := 0) (q := 0) C dM_write_15 (by show (0 : Nat) < 18; decide) rfl rfl (by decide) rfl inM tyM_ok nmM lM_63 rfl rfl rfl rfl rfl ?_
      refine v_aload_n C dM_write_18 rfl rfl ?_
      refine v_getI (k := 0) (q := 0) (v := 1) C dM_write_19 (by show (0 : Nat) < 18; decide) rfl rfl (by decide) rfl inM lM_63 rfl rfl ?_
      refine v_if_le (tgt := 27) C dM_write_22 (by decide) (by omega) (fun hc4 => ?_) (fun hc4 => ?_)
      · exfalso; omega
      · refine v_iconst C dM_write_25 ?_
        exact v_iret C hRt hLk dM_write_26 ⟨rfl, rfl⟩
set_option maxRecDepth 100000 in
set_option maxHeartbeats 4000000 in
theorem kM_appendS (l : Launch) (xCl : List vw_C) (D : va_G) (cA : Nat → ClassId) (ad : Nat → Nat) (hJ : f_J (mG xCl D cA ad)) (σ : fS) (hc : 0 ≤ σ.1 0 7 ∧ σ.1 0 7 ≤ 12000) (ha : 0 ≤ σ.1 0 9 ∧ σ.1 0 9 ≤ 1) (hg : σ.1 0 7 = 0 ∨ σ.1 0 9 = 1) : f_M l (mG xCl D cA ad) mE yM_append (Cond.code yM_append cM_append 2 (some .int) :: A9) 6 σ [.ref (ad 0)] (f_QI (fun r σ1 => r = 0 ∧ σ1 = f_p1 σ 0 0 1) (mG xCl D cA ad)) := by
  refine f_enter (by decide +kernel) hJ rfl (Nat.le_of_ble_eq_true rfl) ?_
  intro z hzl hR C hRt hLk hEz
  subst hzl
  refine v_aload_n C dM_append_0 rfl rfl ?_
  refine v_aload_n C dM_append_1 rfl rfl ?_
  refine v_getI (k := 0) (q := 7) (v := σ.1 0 7) C dM_append_2 (by show (0 : Nat) < 18; decide) rfl rfl (by decide) rfl inM lM_116 rfl rfl ?_
  refine v_if_eq (tgt := 15) C dM_append_5 (by decide) (by omega) (fun hc1 => ?_) (fun hc1 => ?_)
  · refine v_iconst C dM_append_15 ?_
    refine v_goto (tgt := 20) C dM_append_16 (by decide) ?_
    refine v_putI (k := 0) (q := 0) C dM_append_20 (by show (0 : Nat) < 18; decide) rfl rfl (by decide) rfl inM tyM_ok nmM lM_63 rfl rfl rfl rfl rfl ?_
    refine v_aload_n C dM_append_23 rfl rfl ?_
    refine v_getI (k := 0) (q := 0) (v := 1) C dM_append_24 (by show (0 : Nat) < 18; decide) rfl rfl (by decide) rfl inM lM_63 rfl rfl ?_
    refine v_if_gt (tgt := 37) C dM_append_27 (by decide) (by omega) (fun hc2 => ?_) (fun hc2 => ?_)
    · refine v_iconst C dM_append_37 ?_
      exact v_iret C hRt hLk dM_append_38 ⟨rfl, rfl⟩
    · exfalso; omega
  · refine v_aload_n C dM_append_8 rfl rfl ?_
    refine v_getI (k := 0) (q := 9) (v := σ.1 0 9) C dM_append_9 (by show (0 : Nat) < 18; decide) rfl rfl (by decide) rfl inM lM_123 rfl rfl ?_
    refine v_if_eq (tgt := 19) C dM_append_12 (by decide) (by omega) (fun hc3 => ?_) (fun hc3 => ?_)
    · exfalso; omega
    · refine v_iconst C dM_append_15 ?_
      refine v_goto (tgt := 20) C dM_append_16 (by decide) ?_
      refine v_putI (k := 0) (q := 0) C dM_append_20 (by show (0 : Nat) < 18; decide) rfl rfl (by decide) rfl inM tyM_ok nmM lM_63 rfl rfl rfl rfl rfl ?_
      refine v_aload_n C dM_append_23 rfl rfl ?_
      refine v_getI (k := 0) (q := 0) (v := 1) C dM_append_24 (by show (0 : Nat) < 18; decide) rfl rfl (by decide) rfl inM lM_63 rfl rfl ?_
      refine v_if_gt (tgt := 37) C dM_append_27 (by decide) (by omega) (fun hc4 => ?_) (fun hc4 => ?_)
      · refine v_iconst C dM_append_37 ?_
        exact v_iret C hRt hLk dM_append_38 ⟨rfl, rfl⟩
      · exfalso; omega
set_option maxRecDepth 100000 in
set_option maxHeartbeats 4000000 in
theorem kM_takeS (l : Launch) (xCl : List vw_C) (D : va_G) (cA : Nat → ClassId) (ad : Nat → Nat) (hJ : f_J (mG xCl D cA ad)) (σ : fS) (a : Int) (ha : -2147483648 ≤ a ∧ a ≤ 2147483647) (hr : 0 ≤ σ.1 0 10 ∧ σ.1 0 10 ≤ 60) (hg : ¬ (0 ≤ a ∧ a < σ.1 0 10)) : f_M l (mG xCl D cA ad) mE yM_take (Cond.code yM_take cM_take 2 (some .int) :: A9) 6 σ [.ref (ad 0), .int (fI a)] (f_QI (fun r σ1 => r = 0 ∧ σ1 = f_p1 σ 0 0 1) (mG xCl D cA ad)) := by
  refine f_enter (by decide +kernel) hJ rfl (Nat.le_of_ble_eq_true rfl) ?_
  intro z hzl hR C hRt hLk hEz
  subst hzl
  refine v_aload_n C dM_take_0 rfl rfl ?_
  refine v_iload_n C dM_take_1 rfl rfl ?_
  refine v_cVI (k := 0) (n := 1) C (mE_ok _) trivial hR (kM_isRevision _ xCl D cA ad hJ σ (a) (by omega) hr) dM_take_2 (by show (0 : Nat) < 18; decide) rfl rfl gM_201 (by decide +kernel) (by decide) (by decide) rfl (Nat.le_of_ble_eq_true rfl) rfl ⟨rfl, rfl⟩ (fun r1 σ1 hp1 => ?_)
  rcases hp1 with ⟨e1, e2, e3⟩ | ⟨e1, e2, e3⟩
  · exact absurd e1 hg
  subst σ1
  subst r1
  refine v_if_ne (tgt := 10) C dM_take_5 (by decide) (by omega) (fun hc1 => ?_) (fun hc1 => ?_)
  · exfalso; omega
  · refine v_iconst C dM_take_8 ?_
    exact v_iret C hRt hLk dM_take_9 ⟨rfl, rfl⟩
/-! THE REFERENCE'S METHODS, by name -/
def u_object (τ : fS) (n m : Int) (τ1 : fS) : Prop := (¬ (1 ≤ n ∧ n ≤ 40) ∧ τ1 = f_p1 τ 0 0 1) ∨ ((1 ≤ n ∧ n ≤ 40) ∧ ¬ (0 ≤ m ∧ m ≤ 120) ∧ τ1 = f_p1 τ 0 0 2) ∨ ((1 ≤ n ∧ n ≤ 40) ∧ (0 ≤ m ∧ m ≤ 120) ∧ τ1 = m_zero (m_bring τ n m) n 120)
theorem kU_object (l : Launch) (D : va_G) (cA : Nat → ClassId) (am : Nat → Nat) (hJ : f_J (mG xCl D cA am)) (τ : fS) (hI : m_I τ) (n m : Int) (hn : -2147483648 ≤ n ∧ n ≤ 2147483647) (hm : -2147483648 ≤ m ∧ m ≤ 2147483647) : f_M l (mG xCl D cA am) mE yM_object (Cond.code yM_object cM_object 4 none :: A9) 1 τ [.ref (am 0), .int (fI n), .int (fI m)] (f_QV (fun τ1 => u_object τ n m τ1) (mG xCl D cA am)) := by
  exact kM_object l xCl D cA am hJ τ n m hn hm
def u_write (τ : fS) (how : Int) (r : Int) (τ1 : fS) : Prop := (¬ (0 ≤ how ∧ how ≤ 2) ∧ r = 0 ∧ τ1 = f_p1 τ 0 0 1) ∨ ((0 ≤ how ∧ how ≤ 2) ∧ τ1 = m_all (m_part (f_p1 (f_p1 τ 0 0 0) 0 17 1) 0 1 how) 0 1 how ∧ r = τ1.1 0 7 ∧ m_I τ1 ∧ τ1.1 0 0 = 0)
theorem kU_write (l : Launch) (D : va_G) (cA : Nat → ClassId) (am : Nat → Nat) (hJ : f_J (mG xCl D cA am)) (τ : fS) (hI : m_I τ) (how : Int) (hhow : -2147483648 ≤ how ∧ how ≤ 2147483647) : f_M l (mG xCl D cA am) mE yM_write (Cond.code yM_write cM_write 2 (some .int) :: A9) 6 τ [.ref (am 0), .int (fI how)] (f_QI (fun r τ1 => u_write τ how r τ1) (mG xCl D cA am)) := by
  by_cases hg : 0 ≤ how ∧ how ≤ 2
  · exact f_weakI (kM_write l xCl D cA am hJ τ how hg hI) (fun r σ1 h => Or.inr ⟨hg, h⟩)
  · exact f_weakI (kM_writeS l xCl D cA am hJ τ how hhow hg) (fun r σ1 h => Or.inl ⟨hg, h⟩)
def u_append (τ : fS) (r : Int) (τ1 : fS) : Prop := ((τ.1 0 7 = 0 ∨ τ.1 0 9 = 1) ∧ r = 0 ∧ τ1 = f_p1 τ 0 0 1) ∨ (¬ (τ.1 0 7 = 0 ∨ τ.1 0 9 = 1) ∧ ((m_cnt (τ.2 3) 40 = 0 ∧ r = 0 ∧ τ1 = f_p1 τ 0 0 0) ∨ (m_cnt (τ.2 3) 40 ≠ 0 ∧ τ.1 0 10 = 60 ∧ r = 0 ∧ τ1 = f_p1 (f_p1 (f_p1 τ 0 0 0) 0 17 1) 0 0 2) ∨ (m_cnt (τ.2 3) 40 ≠ 0 ∧ τ.1 0 10 < 60 ∧ 12000 < (m_part (f_p1 (f_p1 τ 0 0 0) 0 17 1) (τ.1 0 7) 0 0).1 0 16 ∧ r = 0 ∧ τ1 = f_p1 (m_part (f_p1 (f_p1 τ 0 0 0) 0 17 1) (τ.1 0 7) 0 0) 0 0 2) ∨ (m_cnt (τ.2 3) 40 ≠ 0 ∧ τ.1 0 10 < 60 ∧ (m_part (f_p1 (f_p1 τ 0 0 0) 0 17 1) (τ.1 0 7) 0 0).1 0 16 ≤ 12000 ∧ τ1 = m_all (m_part (f_p1 (f_p1 τ 0 0 0) 0 17 1) (τ.1 0 7) 0 0) (τ.1 0 7) 0 0 ∧ r = τ1.1 0 7 - τ.1 0 7 ∧ m_I τ1 ∧ τ1.1 0 0 = 0)))
theorem kU_append (l : Launch) (D : va_G) (cA : Nat → ClassId) (am : Nat → Nat) (hJ : f_J (mG xCl D cA am)) (τ : fS) (hI : m_I τ)  : f_M l (mG xCl D cA am) mE yM_append (Cond.code yM_append cM_append 2 (some .int) :: A9) 6 τ [.ref (am 0)] (f_QI (fun r τ1 => u_append τ  r τ1) (mG xCl D cA am)) := by
  have h9 : 0 ≤ τ.1 0 9 ∧ τ.1 0 9 ≤ 1 := hI.1 9
  by_cases hg : τ.1 0 7 = 0 ∨ τ.1 0 9 = 1
  · exact f_weakI (kM_appendS l xCl D cA am hJ τ (hI.1 7) h9 hg) (fun r σ1 h => Or.inl ⟨hg, h⟩)
  · exact f_weakI (kM_append l xCl D cA am hJ τ hI (by omega) (by omega)) (fun r σ1 h => Or.inr ⟨hg, h⟩)
def u_poke (τ : fS) (i b : Int) (r : Int) (τ1 : fS) : Prop := ((0 ≤ i ∧ i < τ.1 0 7) ∧ r = τ.2 7 i.toNat ∧ τ1 = f_p1 (f_p2 (f_p1 τ 0 0 0) 7 i.toNat b) 0 9 1) ∨ (¬ (0 ≤ i ∧ i < τ.1 0 7) ∧ r = 0 ∧ τ1 = f_p1 τ 0 0 1)
theorem kU_poke (l : Launch) (D : va_G) (cA : Nat → ClassId) (am : Nat → Nat) (hJ : f_J (mG xCl D cA am)) (τ : fS) (hI : m_I τ) (i b : Int) (hi : -2147483648 ≤ i ∧ i ≤ 2147483647) (hb : -2147483648 ≤ b ∧ b ≤ 2147483647) (hb8 : -128 ≤ b ∧ b ≤ 127) : f_M l (mG xCl D cA am) mE yM_poke (Cond.code yM_poke cM_poke 4 (some .byte) :: A9) 0 τ [.ref (am 0), .int (fI i), .int (fI b)] (f_QI (fun r τ1 => u_poke τ i b r τ1) (mG xCl D cA am)) := by
  exact kM_poke l xCl D cA am hJ τ i b hi hb8 (hI.1 7) (fun i => hI.2.1 7 i)
def u_take (τ : fS) (i : Int) (r : Int) (τ1 : fS) : Prop := (¬ (0 ≤ i ∧ i < τ.1 0 10) ∧ r = 0 ∧ τ1 = f_p1 τ 0 0 1) ∨ ((0 ≤ i ∧ i < τ.1 0 10) ∧ m_rd (τ.2 7) (m_tkn τ i.toNat) (m_tk τ i.toNat) r τ1)
theorem kU_take (l : Launch) (D : va_G) (cA : Nat → ClassId) (am : Nat → Nat) (hJ : f_J (mG xCl D cA am)) (τ : fS) (hI : m_I τ) (i : Int) (hi : -2147483648 ≤ i ∧ i ≤ 2147483647) : f_M l (mG xCl D cA am) mE yM_take (Cond.code yM_take cM_take 2 (some .int) :: A9) 6 τ [.ref (am 0), .int (fI i)] (f_QI (fun r τ1 => u_take τ i r τ1) (mG xCl D cA am)) := by
  by_cases hg : (0 ≤ i ∧ i < τ.1 0 10)
  · exact f_weakI (kM_take l xCl D cA am hJ τ i hI hg) (fun r σ1 h => Or.inr ⟨hg, h⟩)
  · exact f_weakI (kM_takeS l xCl D cA am hJ τ i hi (hI.1 10) hg) (fun r σ1 h => Or.inl ⟨hg, h⟩)
def u_differ (τ : fS) (b c : Int) (r : Int) (τ1 : fS) : Prop := (¬ ((0 ≤ b ∧ b < τ.1 0 10) ∧ 0 ≤ c ∧ c < τ.1 0 10) ∧ r = 0 ∧ τ1 = f_p1 τ 0 0 1) ∨ (((0 ≤ b ∧ b < τ.1 0 10) ∧ 0 ≤ c ∧ c < τ.1 0 10) ∧ m_dfr τ τ1 ∧ τ1.1 0 0 = 0 ∧ τ1.1 0 28 = 1 ∧ τ1.1 0 29 = r ∧ 0 ≤ r ∧ r ≤ 40)
section KR
variable {σ σ1 τ τ1 : fS} {k v r n i m b c w how : Int}
theorem xI_object (h : x_I σ) (hy : y_object σ n m k v σ1) : x_I σ1 := by
  rcases hy with ⟨-, -, rfl⟩ | ⟨-, -, -, rfl⟩ | ⟨hn, hm, -, rfl⟩
  · exact h
  · exact h
  · exact x_I_fill (x_I_p2 (x_I_p2 (x_I_p2 (x_I_p2 h (show (0 : Int) ≤ 1 ∧ (1 : Int) ≤ 1 by omega)) (show (0 : Int) ≤ 0 ∧ (0 : Int) ≤ 1 by omega)) (show (0 : Int) ≤ 1 ∧ (1 : Int) ≤ 1 by omega)) hm) (show (-128 : Int) ≤ 0 ∧ (0 : Int) ≤ 127 by omega)
theorem xI_write (h : x_I σ) (hy : y_write σ how k v σ1) : x_I σ1 := by
  rcases hy with ⟨-, -, rfl⟩ | ⟨-, -, hw, -⟩
  · exact h
  · exact x_I_wrt h hw
theorem xI_append (h : x_I σ) (hy : y_append σ k v σ1) : x_I σ1 := by
  have h10 : 0 ≤ σ.1 10 1 ∧ σ.1 10 1 ≤ 60 := h.1 10 1
  rcases hy with ⟨-, -, rfl⟩ | ⟨-, -, -, -, rfl⟩ | ⟨-, -, -, -, rfl⟩ | ⟨-, -, h60, -, -, hr, rfl⟩ | ⟨-, -, h60, he, -, hr, rfl, -⟩
  · exact h
  · exact h
  · exact h
  · exact (x_I_apd h hr (by omega)).1
  · exact (x_I_apd h hr (by omega)).2 he
theorem xI_poke (h : x_I σ) (hb : -128 ≤ b ∧ b ≤ 127) (hy : y_poke σ i b k v σ1) : x_I σ1 := by
  rcases hy with ⟨-, -, rfl⟩ | ⟨-, -, -, rfl⟩
  · exact h
  · exact x_I_p1 (x_I_p2 h hb) (show (0 : Int) ≤ 1 ∧ (1 : Int) ≤ 1 by omega)
theorem xI_take (h : x_I σ) (hy : y_take σ i k v σ1) : x_I σ1 := by
  have h10 : 0 ≤ σ.1 10 1 ∧ σ.1 10 1 ≤ 60 := h.1 10 1
  rcases hy with ⟨-, -, rfl⟩ | ⟨hg, -, hr⟩
  · exact h
  · exact x_rd_I (x_tk_n h (by omega)) (x_tk_I h (by omega)) hr
theorem xI_differ (h : x_I σ) (hy : y_differ σ b c k v σ1) : x_I σ1 := by
  rcases hy with ⟨-, -, rfl⟩ | ⟨-, -, hf, -⟩
  · exact h
  · exact x_frD_I h hf
theorem m_I_00 (h : m_I τ) (q : Int) : m_I (f_p1 τ 0 0 q) := m_I_p h 0 q (by decide) (m_okF_n _ _ (by decide))
theorem mI_object (h : m_I τ) (hu : u_object τ n m τ1) : m_I τ1 := by
  rcases hu with ⟨-, rfl⟩ | ⟨-, -, rfl⟩ | ⟨hn, hm, rfl⟩
  · exact m_I_00 h 1
  · exact m_I_00 h 2
  · have h1 : m_I (m_bring τ n m) := m_I_a (m_I_a (m_I_a (m_I_a (m_I_00 h 0) 1 _ 1 (by decide) (show (0 : Int) ≤ 1 ∧ (1 : Int) ≤ 1 by omega)) 2 _ 0 (by decide) (show (0 : Int) ≤ 0 ∧ (0 : Int) ≤ 1 by omega)) 3 _ 1 (by decide) (show (0 : Int) ≤ 1 ∧ (1 : Int) ≤ 1 by omega)) 5 _ m (by decide) hm
    refine m_I_fr h1 (fun _ => Or.inl rfl) (fun a b => ?_)
    show (if a = 6 ∧ (120 * n).toNat ≤ b ∧ b < (120 * n).toNat + 120 then 0 else (m_bring τ n m).2 a b) = _ ∨ (a ≠ 10 ∧ a ≠ 11 ∧ a ≠ 12 ∧ m_okA a (if a = 6 ∧ (120 * n).toNat ≤ b ∧ b < (120 * n).toNat + 120 then 0 else (m_bring τ n m).2 a b))
    by_cases g : a = 6 ∧ (120 * n).toNat ≤ b ∧ b < (120 * n).toNat + 120
    · right; rw [if_pos g, g.1]; exact ⟨by decide, by decide, by decide, (show (-128 : Int) ≤ 0 ∧ (0 : Int) ≤ 127 by omega)⟩
    · left; rw [if_neg g]
theorem mI_write (h : m_I τ) (hu : u_write τ how r τ1) : m_I τ1 := by
  rcases hu with ⟨-, -, rfl⟩ | ⟨-, -, -, h, -⟩
  · exact m_I_00 h 1
  · exact h
theorem mI_append (h : m_I τ) (hu : u_append τ r τ1) : m_I τ1 := by
  rcases hu with ⟨-, -, rfl⟩ | ⟨-, hu⟩
  · exact m_I_00 h 1
  · exact m_I_app h hu
theorem mI_poke (h : m_I τ) (hb : -128 ≤ b ∧ b ≤ 127) (hu : u_poke τ i b r τ1) : m_I τ1 := by
  rcases hu with ⟨-, -, rfl⟩ | ⟨-, -, rfl⟩
  · exact m_I_p (m_I_a (m_I_00 h 0) 7 _ b (by decide) hb) 9 1 (by decide) (show (0 : Int) ≤ 1 ∧ (1 : Int) ≤ 1 by omega)
  · exact m_I_00 h 1
theorem mI_take (h : m_I τ) (hu : u_take τ i r τ1) : m_I τ1 := by
  rcases hu with ⟨-, -, rfl⟩ | ⟨-, hu⟩
  · exact m_I_00 h 1
  · exact (m_rd_I (m_tk_I h) rfl rfl hu).1
theorem mI_differ (h : m_I τ) (hu : u_differ τ b c r τ1) : m_I τ1 := by
  rcases hu with ⟨-, -, rfl⟩ | ⟨-, hs, h0, h28, h29, hr⟩
  · exact m_I_00 h 1
  · refine m_I_fr h (fun q => ?_) (fun a j => ?_)
    · by_cases g : q = 0 ∨ q = 28 ∨ q = 29
      · right
        rcases g with g | g | g
        · subst g; exact ⟨by decide, by decide, m_okF_n _ _ (by decide)⟩
        · subst g; rw [h28]; exact ⟨by decide, by decide, (show (0 : Int) ≤ 1 ∧ (1 : Int) ≤ 1 by omega)⟩
        · subst g; rw [h29]; exact ⟨by decide, by decide, hr⟩
      · left; exact hs.2 0 q (by omega)
    · by_cases g : a = 16 ∨ a = 17
      · right; exact ⟨by omega, by omega, by omega, m_okA_n _ _ (by omega)⟩
      · left; exact hs.1 a j (by omega) (by omega)
end KR
end
