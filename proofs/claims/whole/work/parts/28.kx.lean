section
set_option maxRecDepth 100000 in
set_option maxHeartbeats 4000000 in
/-- isNumber(n) -/
theorem kX_XA_isNumber (l : Launch) (D : va_G) (cA : Nat → ClassId) (ad : Nat → Nat) (hJ : f_J (xG D cA ad)) (σ : fS) (n : Int) (hn : -2147483648 ≤ n ∧ n ≤ 2147483647) : f_M l (xG D cA ad) (xE (xG D cA ad)) yXA_isNumber (Cond.code yXA_isNumber cXA_isNumber 1 (some .boolean) :: A9) 0 σ [.int (fI n)] (f_QI (fun r σ1 => r = (if 1 ≤ n ∧ n ≤ 40 then 1 else 0) ∧ σ1 = σ) (xG D cA ad)) := by
  refine f_enter (by decide +kernel) hJ rfl (Nat.le_of_ble_eq_true rfl) ?_
  intro z hzl hR C hRt hLk hEz
  subst hzl
  have hRR : 0 ≤ z.2.2.2.1.frames ∧ 40 * 0 ≤ z.2.2.2.1.locals ∧ 0 ≤ z.2.2.2.1.cells ∧ 0 ≤ z.2.2.2.1.slots := by rw [hR]; exact ⟨Nat.le_refl _, Nat.le_refl _, Nat.zero_le _, Nat.zero_le _⟩
  refine v_iload_n C dXA_isNumber_0 rfl rfl ?_
  refine v_iconst C dXA_isNumber_1 ?_
  refine v_icmp_lt (tgt := 15) C dXA_isNumber_2 (by decide) (by omega) (by omega) (fun hc1 => ?_) (fun hc1 => ?_)
  · refine v_iconst C dXA_isNumber_15 ?_
    exact v_zret C hRt hLk dXA_isNumber_16 (fN_bool (by omega)) ⟨by split <;> omega, rfl⟩
  · refine v_iload_n C dXA_isNumber_5 rfl rfl ?_
    refine v_bipush C dXA_isNumber_6 (by decide +kernel) ?_
    refine v_icmp_gt (tgt := 15) C dXA_isNumber_8 (by decide) (by omega) (by omega) (fun hc2 => ?_) (fun hc2 => ?_)
    · refine v_iconst C dXA_isNumber_15 ?_
      exact v_zret C hRt hLk dXA_isNumber_16 (fN_bool (by omega)) ⟨by split <;> omega, rfl⟩
    · refine v_iconst C dXA_isNumber_11 ?_
      refine v_goto (tgt := 16) C dXA_isNumber_12 (by decide) ?_
      exact v_zret C hRt hLk dXA_isNumber_16 (fN_bool (by omega)) ⟨by split <;> omega, rfl⟩
set_option maxRecDepth 100000 in
set_option maxHeartbeats 4000000 in
/-- the file has a place -/
theorem kX_XF_has (l : Launch) (D : va_G) (cA : Nat → ClassId) (ad : Nat → Nat) (hJ : f_J (xG D cA ad)) (σ : fS) (i : Int) (hi : -2147483648 ≤ i ∧ i ≤ 2147483647) (hc : 0 ≤ σ.1 8 1 ∧ σ.1 8 1 ≤ 12000) : f_M l (xG D cA ad) (xE (xG D cA ad)) yXF_has (Cond.code yXF_has cXF_has 2 (some .boolean) :: A9) 0 σ [.ref (ad 8), .int (fI i)] (f_QI (fun r σ1 => r = (if 0 ≤ i ∧ i < σ.1 8 1 then 1 else 0) ∧ σ1 = σ) (xG D cA ad)) := by
  refine f_enter (by decide +kernel) hJ rfl (Nat.le_of_ble_eq_true rfl) ?_
  intro z hzl hR C hRt hLk hEz
  subst hzl
  have hRR : 0 ≤ z.2.2.2.1.frames ∧ 40 * 0 ≤ z.2.2.2.1.locals ∧ 0 ≤ z.2.2.2.1.cells ∧ 0 ≤ z.2.2.2.1.slots := by rw [hR]; exact ⟨Nat.le_refl _, Nat.le_refl _, Nat.zero_le _, Nat.zero_le _⟩
  refine v_iload_n C dXF_has_0 rfl rfl ?_
  refine v_if_lt (tgt := 16) C dXF_has_1 (by decide) (by omega) (fun hc1 => ?_) (fun hc1 => ?_)
  · refine v_iconst C dXF_has_16 ?_
    exact v_zret C hRt hLk dXF_has_17 (fN_bool (by omega)) ⟨by split <;> omega, rfl⟩
  · refine v_iload_n C dXF_has_4 rfl rfl ?_
    refine v_aload_n C dXF_has_5 rfl rfl ?_
    refine v_getI (k := 8) (q := 1) (v := σ.1 8 1) C dXF_has_6 (by show (8 : Nat) < 383; decide) rfl rfl (by decide) rfl inXF lXF_15 rfl rfl ?_
    refine v_icmp_ge (tgt := 16) C dXF_has_9 (by decide) (by omega) (by omega) (fun hc2 => ?_) (fun hc2 => ?_)
    · refine v_iconst C dXF_has_16 ?_
      exact v_zret C hRt hLk dXF_has_17 (fN_bool (by omega)) ⟨by split <;> omega, rfl⟩
    · refine v_iconst C dXF_has_12 ?_
      refine v_goto (tgt := 17) C dXF_has_13 (by decide) ?_
      exact v_zret C hRt hLk dXF_has_17 (fN_bool (by omega)) ⟨by split <;> omega, rfl⟩
set_option maxRecDepth 100000 in
set_option maxHeartbeats 4000000 in
/-- the history has a revision -/
theorem kX_XH_has (l : Launch) (D : va_G) (cA : Nat → ClassId) (ad : Nat → Nat) (hJ : f_J (xG D cA ad)) (σ : fS) (i : Int) (hi : -2147483648 ≤ i ∧ i ≤ 2147483647) (hc : 0 ≤ σ.1 10 1 ∧ σ.1 10 1 ≤ 60) : f_M l (xG D cA ad) (xE (xG D cA ad)) yXH_has (Cond.code yXH_has cXH_has 2 (some .boolean) :: A9) 0 σ [.ref (ad 10), .int (fI i)] (f_QI (fun r σ1 => r = (if 0 ≤ i ∧ i < σ.1 10 1 then 1 else 0) ∧ σ1 = σ) (xG D cA ad)) := by
  refine f_enter (by decide +kernel) hJ rfl (Nat.le_of_ble_eq_true rfl) ?_
  intro z hzl hR C hRt hLk hEz
  subst hzl
  have hRR : 0 ≤ z.2.2.2.1.frames ∧ 40 * 0 ≤ z.2.2.2.1.locals ∧ 0 ≤ z.2.2.2.1.cells ∧ 0 ≤ z.2.2.2.1.slots := by rw [hR]; exact ⟨Nat.le_refl _, Nat.le_refl _, Nat.zero_le _, Nat.zero_le _⟩
  refine v_iload_n C dXH_has_0 rfl rfl ?_
  refine v_if_lt (tgt := 16) C dXH_has_1 (by decide) (by omega) (fun hc1 => ?_) (fun hc1 => ?_)
  · refine v_iconst C dXH_has_16 ?_
    exact v_zret C hRt hLk dXH_has_17 (fN_bool (by omega)) ⟨by split <;> omega, rfl⟩
  · refine v_iload_n C dXH_has_4 rfl rfl ?_
    refine v_aload_n C dXH_has_5 rfl rfl ?_
    refine v_getI (k := 10) (q := 1) (v := σ.1 10 1) C dXH_has_6 (by show (10 : Nat) < 383; decide) rfl rfl (by decide) rfl inXH lXH_18 rfl rfl ?_
    refine v_icmp_ge (tgt := 16) C dXH_has_9 (by decide) (by omega) (by omega) (fun hc2 => ?_) (fun hc2 => ?_)
    · refine v_iconst C dXH_has_16 ?_
      exact v_zret C hRt hLk dXH_has_17 (fN_bool (by omega)) ⟨by split <;> omega, rfl⟩
    · refine v_iconst C dXH_has_12 ?_
      refine v_goto (tgt := 17) C dXH_has_13 (by decide) ?_
      exact v_zret C hRt hLk dXH_has_17 (fN_bool (by omega)) ⟨by split <;> omega, rfl⟩
set_option maxRecDepth 100000 in
set_option maxHeartbeats 4000000 in
/-- object throws IndexOutOfBoundsException -/
theorem tX_objectI (l : Launch) (D : va_G) (cA : Nat → ClassId) (ad : Nat → Nat) (hJ : f_J (xG D cA ad)) (hst : l.stackTraces = false) (σ : fS) (n len : Int) (hn : -2147483648 ≤ n ∧ n ≤ 2147483647) (hl : -2147483648 ≤ len ∧ len ≤ 2147483647) (hg : ¬ (1 ≤ n ∧ n ≤ 40)) : tx_M l (xG D cA ad) (xE (xG D cA ad)) yXA_object (Cond.code yXA_object cXA_object 3 none :: A9) 6 1 6 σ [.ref (ad 0), .int (fI n), .int (fI len)] "java/lang/IndexOutOfBoundsException" (fun σ1 => σ1 = σ) := by
  refine tx_enter (by decide +kernel) hJ rfl (Nat.le_of_ble_eq_true rfl) ?_
  intro z hzl hR C htab hLk hEz
  subst hzl
  have hRR : 6 ≤ z.2.2.2.1.frames ∧ 40 * 6 ≤ z.2.2.2.1.locals ∧ 0 ≤ z.2.2.2.1.cells ∧ 0 ≤ z.2.2.2.1.slots := by rw [hR]; exact ⟨Nat.le_refl _, Nat.le_refl _, Nat.zero_le _, Nat.zero_le _⟩
  refine v_iload_n C dXA_object_0 rfl rfl ?_
  refine u_cSI (n := 1) C (xE_ok _) hEz hRR (kX_XA_isNumber _ D cA ad hJ σ (n) (by omega)) dXA_object_1 gXA_55 (by decide +kernel) (by decide) (by decide) rfl (Nat.le_of_ble_eq_true rfl) rfl (fun r1 σ1 hp1 => ?_)
  obtain ⟨e1, e2⟩ := hp1
  subst σ1
  rw [if_neg (by omega)] at e1
  subst r1
  refine v_if_ne (tgt := 17) C dXA_object_4 (by decide) (by omega) (fun hc1 => ?_) (fun hc1 => ?_)
  · exfalso; omega
  · exact x_throw (is := 61) (text := "no such object") C hEz hst htab hLk (by decide +kernel) (by decide +kernel) x_wI (by decide +kernel) dXA_object_7 dXA_object_10 dXA_object_11 dXA_object_13 dXA_object_16 (by rw [hR]; exact ⟨by decide, by decide, by decide, by decide⟩) ⟨by decide, by decide⟩ rfl
set_option maxRecDepth 100000 in
set_option maxHeartbeats 4000000 in
/-- object throws IllegalArgumentException -/
theorem tX_objectA (l : Launch) (D : va_G) (cA : Nat → ClassId) (ad : Nat → Nat) (hJ : f_J (xG D cA ad)) (hst : l.stackTraces = false) (σ : fS) (n len : Int) (hn : -2147483648 ≤ n ∧ n ≤ 2147483647) (hl : -2147483648 ≤ len ∧ len ≤ 2147483647) (hg : 1 ≤ n ∧ n ≤ 40) (hg2 : ¬ (0 ≤ len ∧ len ≤ 120)) : tx_M l (xG D cA ad) (xE (xG D cA ad)) yXA_object (Cond.code yXA_object cXA_object 3 none :: A9) 6 1 6 σ [.ref (ad 0), .int (fI n), .int (fI len)] "java/lang/IllegalArgumentException" (fun σ1 => σ1 = σ) := by
  refine tx_enter (by decide +kernel) hJ rfl (Nat.le_of_ble_eq_true rfl) ?_
  intro z hzl hR C htab hLk hEz
  subst hzl
  have hRR : 6 ≤ z.2.2.2.1.frames ∧ 40 * 6 ≤ z.2.2.2.1.locals ∧ 0 ≤ z.2.2.2.1.cells ∧ 0 ≤ z.2.2.2.1.slots := by rw [hR]; exact ⟨Nat.le_refl _, Nat.le_refl _, Nat.zero_le _, Nat.zero_le _⟩
  refine v_iload_n C dXA_object_0 rfl rfl ?_
  refine u_cSI (n := 1) C (xE_ok _) hEz hRR (kX_XA_isNumber _ D cA ad hJ σ (n) (by omega)) dXA_object_1 gXA_55 (by decide +kernel) (by decide) (by decide) rfl (Nat.le_of_ble_eq_true rfl) rfl (fun r1 σ1 hp1 => ?_)
  obtain ⟨e1, e2⟩ := hp1
  subst σ1
  rw [if_pos (by omega)] at e1
  subst r1
  refine v_if_ne (tgt := 17) C dXA_object_4 (by decide) (by omega) (fun hc1 => ?_) (fun hc1 => ?_)
  · refine v_iload_n C dXA_object_17 rfl rfl ?_
    refine v_if_lt (tgt := 27) C dXA_object_18 (by decide) (by omega) (fun hc2 => ?_) (fun hc2 => ?_)
    · exact x_throw (is := 68) (text := "an object has 0 .. 120 bytes") C hEz hst htab hLk (by decide +kernel) (by decide +kernel) x_wA (by decide +kernel) dXA_object_27 dXA_object_30 dXA_object_31 dXA_object_33 dXA_object_36 (by rw [hR]; exact ⟨by decide, by decide, by decide, by decide⟩) ⟨by decide, by decide⟩ rfl
    · refine v_iload_n C dXA_object_21 rfl rfl ?_
      refine v_bipush C dXA_object_22 (by decide +kernel) ?_
      refine v_icmp_le (tgt := 37) C dXA_object_24 (by decide) (by omega) (by omega) (fun hc3 => ?_) (fun hc3 => ?_)
      · exfalso; omega
      · exact x_throw (is := 68) (text := "an object has 0 .. 120 bytes") C hEz hst htab hLk (by decide +kernel) (by decide +kernel) x_wA (by decide +kernel) dXA_object_27 dXA_object_30 dXA_object_31 dXA_object_33 dXA_object_36 (by rw [hR]; exact ⟨by decide, by decide, by decide, by decide⟩) ⟨by decide, by decide⟩ rfl
  · exfalso; omega
set_option maxRecDepth 100000 in
set_option maxHeartbeats 4000000 in
/-- write throws IllegalArgumentException -/
theorem tX_writeA (l : Launch) (D : va_G) (cA : Nat → ClassId) (ad : Nat → Nat) (hJ : f_J (xG D cA ad)) (hst : l.stackTraces = false) (σ : fS) (how : Int) (hn : -2147483648 ≤ how ∧ how ≤ 2147483647) (hg : ¬ (0 ≤ how ∧ how ≤ 2)) : tx_M l (xG D cA ad) (xE (xG D cA ad)) yXA_write (Cond.code yXA_write cXA_write 2 (some .int) :: A9) 6 1 6 σ [.ref (ad 0), .int (fI how)] "java/lang/IllegalArgumentException" (fun σ1 => σ1 = σ) := by
  refine tx_enter (by decide +kernel) hJ rfl (Nat.le_of_ble_eq_true rfl) ?_
  intro z hzl hR C htab hLk hEz
  subst hzl
  have hRR : 6 ≤ z.2.2.2.1.frames ∧ 40 * 6 ≤ z.2.2.2.1.locals ∧ 0 ≤ z.2.2.2.1.cells ∧ 0 ≤ z.2.2.2.1.slots := by rw [hR]; exact ⟨Nat.le_refl _, Nat.le_refl _, Nat.zero_le _, Nat.zero_le _⟩
  refine v_iload_n C dXA_write_0 rfl rfl ?_
  refine v_if_lt (tgt := 9) C dXA_write_1 (by decide) (by omega) (fun hc1 => ?_) (fun hc1 => ?_)
  · exact x_throw (is := 95) (text := "how is 0 .. 2") C hEz hst htab hLk (by decide +kernel) (by decide +kernel) x_wA (by decide +kernel) dXA_write_9 dXA_write_12 dXA_write_13 dXA_write_15 dXA_write_18 (by rw [hR]; exact ⟨by decide, by decide, by decide, by decide⟩) ⟨by decide, by decide⟩ rfl
  · refine v_iload_n C dXA_write_4 rfl rfl ?_
    refine v_iconst C dXA_write_5 ?_
    refine v_icmp_le (tgt := 19) C dXA_write_6 (by decide) (by omega) (by omega) (fun hc2 => ?_) (fun hc2 => ?_)
    · exfalso; omega
    · exact x_throw (is := 95) (text := "how is 0 .. 2") C hEz hst htab hLk (by decide +kernel) (by decide +kernel) x_wA (by decide +kernel) dXA_write_9 dXA_write_12 dXA_write_13 dXA_write_15 dXA_write_18 (by rw [hR]; exact ⟨by decide, by decide, by decide, by decide⟩) ⟨by decide, by decide⟩ rfl
set_option maxRecDepth 100000 in
set_option maxHeartbeats 4000000 in
/-- append throws IllegalStateException -/
theorem tX_appendS (l : Launch) (D : va_G) (cA : Nat → ClassId) (ad : Nat → Nat) (hJ : f_J (xG D cA ad)) (hst : l.stackTraces = false) (σ : fS) (hc : 0 ≤ σ.1 8 1 ∧ σ.1 8 1 ≤ 12000) (ha : 0 ≤ σ.1 8 2 ∧ σ.1 8 2 ≤ 1) (hg : σ.1 8 1 = 0 ∨ σ.1 8 2 = 1) : tx_M l (xG D cA ad) (xE (xG D cA ad)) yXA_append (Cond.code yXA_append cXA_append 1 (some .int) :: A9) 6 1 6 σ [.ref (ad 0)] "java/lang/IllegalStateException" (fun σ1 => σ1 = σ) := by
  refine tx_enter (by decide +kernel) hJ rfl (Nat.le_of_ble_eq_true rfl) ?_
  intro z hzl hR C htab hLk hEz
  subst hzl
  have hRR : 6 ≤ z.2.2.2.1.frames ∧ 40 * 6 ≤ z.2.2.2.1.locals ∧ 0 ≤ z.2.2.2.1.cells ∧ 0 ≤ z.2.2.2.1.slots := by rw [hR]; exact ⟨Nat.le_refl _, Nat.le_refl _, Nat.zero_le _, Nat.zero_le _⟩
  refine v_aload_n C dXA_append_0 rfl rfl ?_
  refine v_getR (k := 0) (q := 1) C dXA_append_1 (by show (0 : Nat) < 383; decide) rfl rfl (by decide) rfl inXA lXA_19 rfl ?_
  refine v_getI (k := 8) (q := 1) (v := σ.1 8 1) C dXA_append_4 (by show (8 : Nat) < 383; decide) rfl rfl (by decide) rfl inXF lXA_131 rfl rfl ?_
  refine v_if_eq (tgt := 20) C dXA_append_7 (by decide) (by omega) (fun hc1 => ?_) (fun hc1 => ?_)
  · exact x_throw (is := 138) (text := "the file is empty or altered") C hEz hst htab hLk (by decide +kernel) (by decide +kernel) x_wS (by decide +kernel) dXA_append_20 dXA_append_23 dXA_append_24 dXA_append_26 dXA_append_29 (by rw [hR]; exact ⟨by decide, by decide, by decide, by decide⟩) ⟨by decide, by decide⟩ rfl
  · refine v_aload_n C dXA_append_10 rfl rfl ?_
    refine v_getR (k := 0) (q := 1) C dXA_append_11 (by show (0 : Nat) < 383; decide) rfl rfl (by decide) rfl inXA lXA_19 rfl ?_
    refine v_getI (k := 8) (q := 2) (v := σ.1 8 2) C dXA_append_14 (by show (8 : Nat) < 383; decide) rfl rfl (by decide) rfl inXF lXA_132 rfl rfl ?_
    refine v_if_eq (tgt := 30) C dXA_append_17 (by decide) (by omega) (fun hc2 => ?_) (fun hc2 => ?_)
    · exfalso; omega
    · exact x_throw (is := 138) (text := "the file is empty or altered") C hEz hst htab hLk (by decide +kernel) (by decide +kernel) x_wS (by decide +kernel) dXA_append_20 dXA_append_23 dXA_append_24 dXA_append_26 dXA_append_29 (by rw [hR]; exact ⟨by decide, by decide, by decide, by decide⟩) ⟨by decide, by decide⟩ rfl
set_option maxRecDepth 100000 in
set_option maxHeartbeats 4000000 in
/-- poke throws IndexOutOfBoundsException -/
theorem tX_poke (l : Launch) (D : va_G) (cA : Nat → ClassId) (ad : Nat → Nat) (hJ : f_J (xG D cA ad)) (hst : l.stackTraces = false) (σ : fS) (i b : Int) (hi : -2147483648 ≤ i ∧ i ≤ 2147483647) (hc : 0 ≤ σ.1 8 1 ∧ σ.1 8 1 ≤ 12000) (hg : ¬ (0 ≤ i ∧ i < σ.1 8 1)) : tx_M l (xG D cA ad) (xE (xG D cA ad)) yXA_poke (Cond.code yXA_poke cXA_poke 4 (some .byte) :: A9) 6 1 6 σ [.ref (ad 0), .int (fI i), .int (fI b)] "java/lang/IndexOutOfBoundsException" (fun σ1 => σ1 = σ) := by
  refine tx_enter (by decide +kernel) hJ rfl (Nat.le_of_ble_eq_true rfl) ?_
  intro z hzl hR C htab hLk hEz
  subst hzl
  have hRR : 6 ≤ z.2.2.2.1.frames ∧ 40 * 6 ≤ z.2.2.2.1.locals ∧ 0 ≤ z.2.2.2.1.cells ∧ 0 ≤ z.2.2.2.1.slots := by rw [hR]; exact ⟨Nat.le_refl _, Nat.le_refl _, Nat.zero_le _, Nat.zero_le _⟩
  refine v_aload_n C dXA_poke_0 rfl rfl ?_
  refine v_getR (k := 0) (q := 1) C dXA_poke_1 (by show (0 : Nat) < 383; decide) rfl rfl (by decide) rfl inXA lXA_19 rfl ?_
  refine v_iload_n C dXA_poke_4 rfl rfl ?_
  refine u_cVI (k := 8) (n := 1) C (xE_ok _) hEz hRR (kX_XF_has _ D cA ad hJ σ (i) (by omega) hc) dXA_poke_5 (by show (8 : Nat) < 383; decide) rfl rfl gXA_159 (by decide +kernel) (by decide) (by decide) rfl (Nat.le_of_ble_eq_true rfl) rfl (fun r1 σ1 hp1 => ?_)
  obtain ⟨e1, e2⟩ := hp1
  subst σ1
  rw [if_neg hg] at e1
  subst r1
  refine v_if_ne (tgt := 21) C dXA_poke_8 (by decide) (by omega) (fun hc1 => ?_) (fun hc1 => ?_)
  · exfalso; omega
  · exact x_throw (is := 162) (text := "no such place") C hEz hst htab hLk (by decide +kernel) (by decide +kernel) x_wI (by decide +kernel) dXA_poke_11 dXA_poke_14 dXA_poke_15 dXA_poke_17 dXA_poke_20 (by rw [hR]; exact ⟨by decide, by decide, by decide, by decide⟩) ⟨by decide, by decide⟩ rfl
set_option maxRecDepth 100000 in
set_option maxHeartbeats 4000000 in
/-- take throws IndexOutOfBoundsException -/
theorem tX_take (l : Launch) (D : va_G) (cA : Nat → ClassId) (ad : Nat → Nat) (hJ : f_J (xG D cA ad)) (hst : l.stackTraces = false) (σ : fS) (i : Int) (hi : -2147483648 ≤ i ∧ i ≤ 2147483647) (hc : 0 ≤ σ.1 10 1 ∧ σ.1 10 1 ≤ 60) (hg : ¬ (0 ≤ i ∧ i < σ.1 10 1)) : tx_M l (xG D cA ad) (xE (xG D cA ad)) yXA_take (Cond.code yXA_take cXA_take 2 (some .int) :: A9) 6 1 6 σ [.ref (ad 0), .int (fI i)] "java/lang/IndexOutOfBoundsException" (fun σ1 => σ1 = σ) := by
  refine tx_enter (by decide +kernel) hJ rfl (Nat.le_of_ble_eq_true rfl) ?_
  intro z hzl hR C htab hLk hEz
  subst hzl
  have hRR : 6 ≤ z.2.2.2.1.frames ∧ 40 * 6 ≤ z.2.2.2.1.locals ∧ 0 ≤ z.2.2.2.1.cells ∧ 0 ≤ z.2.2.2.1.slots := by rw [hR]; exact ⟨Nat.le_refl _, Nat.le_refl _, Nat.zero_le _, Nat.zero_le _⟩
  refine v_aload_n C dXA_take_0 rfl rfl ?_
  refine v_getR (k := 0) (q := 2) C dXA_take_1 (by show (0 : Nat) < 383; decide) rfl rfl (by decide) rfl inXA lXA_26 rfl ?_
  refine v_iload_n C dXA_take_4 rfl rfl ?_
  refine u_cVI (k := 10) (n := 1) C (xE_ok _) hEz hRR (kX_XH_has _ D cA ad hJ σ (i) (by omega) hc) dXA_take_5 (by show (10 : Nat) < 383; decide) rfl rfl gXA_168 (by decide +kernel) (by decide) (by decide) rfl (Nat.le_of_ble_eq_true rfl) rfl (fun r1 σ1 hp1 => ?_)
  obtain ⟨e1, e2⟩ := hp1
  subst σ1
  rw [if_neg hg] at e1
  subst r1
  refine v_if_ne (tgt := 21) C dXA_take_8 (by decide) (by omega) (fun hc1 => ?_) (fun hc1 => ?_)
  · exfalso; omega
  · exact x_throw (is := 169) (text := "no such revision") C hEz hst htab hLk (by decide +kernel) (by decide +kernel) x_wI (by decide +kernel) dXA_take_11 dXA_take_14 dXA_take_15 dXA_take_17 dXA_take_20 (by rw [hR]; exact ⟨by decide, by decide, by decide, by decide⟩) ⟨by decide, by decide⟩ rfl
set_option maxRecDepth 100000 in
set_option maxHeartbeats 4000000 in
/-- differ throws IndexOutOfBoundsException -/
theorem tX_differ (l : Launch) (D : va_G) (cA : Nat → ClassId) (ad : Nat → Nat) (hJ : f_J (xG D cA ad)) (hst : l.stackTraces = false) (σ : fS) (a b : Int) (hi : -2147483648 ≤ a ∧ a ≤ 2147483647) (hn : -2147483648 ≤ b ∧ b ≤ 2147483647) (hc : 0 ≤ σ.1 10 1 ∧ σ.1 10 1 ≤ 60) (hg : ¬ ((0 ≤ a ∧ a < σ.1 10 1) ∧ 0 ≤ b ∧ b < σ.1 10 1)) : tx_M l (xG D cA ad) (xE (xG D cA ad)) yXA_differ (Cond.code yXA_differ cXA_differ 3 (some .int) :: A9) 6 1 6 σ [.ref (ad 0), .int (fI a), .int (fI b)] "java/lang/IndexOutOfBoundsException" (fun σ1 => σ1 = σ) := by
  refine tx_enter (by decide +kernel) hJ rfl (Nat.le_of_ble_eq_true rfl) ?_
  intro z hzl hR C htab hLk hEz
  subst hzl
  have hRR : 6 ≤ z.2.2.2.1.frames ∧ 40 * 6 ≤ z.2.2.2.1.locals ∧ 0 ≤ z.2.2.2.1.cells ∧ 0 ≤ z.2.2.2.1.slots := by rw [hR]; exact ⟨Nat.le_refl _, Nat.le_refl _, Nat.zero_le _, Nat.zero_le _⟩
  refine v_aload_n C dXA_differ_0 rfl rfl ?_
  refine v_getR (k := 0) (q := 2) C dXA_differ_1 (by show (0 : Nat) < 383; decide) rfl rfl (by decide) rfl inXA lXA_26 rfl ?_
  refine v_iload_n C dXA_differ_4 rfl rfl ?_
  refine u_cVI (k := 10) (n := 1) C (xE_ok _) hEz hRR (kX_XH_has _ D cA ad hJ σ (a) (by omega) hc) dXA_differ_5 (by show (10 : Nat) < 383; decide) rfl rfl gXA_168 (by decide +kernel) (by decide) (by decide) rfl (Nat.le_of_ble_eq_true rfl) rfl (fun re1 σe1 hpe1 => ?_)
  obtain ⟨e1e1, e2e1⟩ := hpe1
  subst σe1
  by_cases hhe1 : 0 ≤ a ∧ a < σ.1 10 1
  · rw [if_pos hhe1] at e1e1
    subst re1
    refine v_if_eq (tgt := 22) C dXA_differ_8 (by decide) (by omega) (fun hc2 => ?_) (fun hc2 => ?_)
    · exfalso; omega
    · refine v_aload_n C dXA_differ_11 rfl rfl ?_
      refine v_getR (k := 0) (q := 2) C dXA_differ_12 (by show (0 : Nat) < 383; decide) rfl rfl (by decide) rfl inXA lXA_26 rfl ?_
      refine v_iload_n C dXA_differ_15 rfl rfl ?_
      refine u_cVI (k := 10) (n := 1) C (xE_ok _) hEz hRR (kX_XH_has _ D cA ad hJ σ (b) (by omega) hc) dXA_differ_16 (by show (10 : Nat) < 383; decide) rfl rfl gXA_168 (by decide +kernel) (by decide) (by decide) rfl (Nat.le_of_ble_eq_true rfl) rfl (fun re3 σe3 hpe3 => ?_)
      obtain ⟨e1e3, e2e3⟩ := hpe3
      subst σe3
      by_cases hhe3 : 0 ≤ b ∧ b < σ.1 10 1
      · rw [if_pos hhe3] at e1e3
        subst re3
        refine v_if_ne (tgt := 32) C dXA_differ_19 (by decide) (by omega) (fun hc4 => ?_) (fun hc4 => ?_)
        · exfalso; omega
        · exfalso; omega
      · rw [if_neg hhe3] at e1e3
        subst re3
        refine v_if_ne (tgt := 32) C dXA_differ_19 (by decide) (by omega) (fun hc5 => ?_) (fun hc5 => ?_)
        · exfalso; omega
        · exact x_throw (is := 169) (text := "no such revision") C hEz hst htab hLk (by decide +kernel) (by decide +kernel) x_wI (by decide +kernel) dXA_differ_22 dXA_differ_25 dXA_differ_26 dXA_differ_28 dXA_differ_31 (by rw [hR]; exact ⟨by decide, by decide, by decide, by decide⟩) ⟨by decide, by decide⟩ rfl
  · rw [if_neg hhe1] at e1e1
    subst re1
    refine v_if_eq (tgt := 22) C dXA_differ_8 (by decide) (by omega) (fun hc6 => ?_) (fun hc6 => ?_)
    · exact x_throw (is := 169) (text := "no such revision") C hEz hst htab hLk (by decide +kernel) (by decide +kernel) x_wI (by decide +kernel) dXA_differ_22 dXA_differ_25 dXA_differ_26 dXA_differ_28 dXA_differ_31 (by rw [hR]; exact ⟨by decide, by decide, by decide, by decide⟩) ⟨by decide, by decide⟩ rfl
    · exfalso; omega
end
section
def RXJ : String := "java/util/Arrays"
theorem iXJ : Cond.initialized RXJ ∈ A9 := in9_1 15 (by decide +kernel) rfl
abbrev cXJ_fillB : ByteArray := prog_28_method_110_code
def yXJ_fillB : MethodName := ⟨RXJ, "fill", "([BIIB)V"⟩
theorem wXJ_fillB : Cond.code yXJ_fillB cXJ_fillB 5 none ∈ A9 := in9_2 222 rfl rfl
theorem dXJ_fillB_0 : decode cXJ_fillB 0 = .ok (.aload_n 0, 1) := by decide +kernel
theorem dXJ_fillB_1 : decode cXJ_fillB 1 = .ok (.arraylength, 1) := by decide +kernel
theorem dXJ_fillB_2 : decode cXJ_fillB 2 = .ok (.iload_n 1, 1) := by decide +kernel
theorem dXJ_fillB_3 : decode cXJ_fillB 3 = .ok (.iload_n 2, 1) := by decide +kernel
theorem dXJ_fillB_4 : decode cXJ_fillB 4 = .ok (.invokestatic 13, 3) := by decide +kernel
theorem dXJ_fillB_7 : decode cXJ_fillB 7 = .ok (.iload_n 1, 1) := by decide +kernel
theorem dXJ_fillB_8 : decode cXJ_fillB 8 = .ok (.istore 4, 2) := by decide +kernel
theorem dXJ_fillB_10 : decode cXJ_fillB 10 = .ok (.iload 4, 2) := by decide +kernel
theorem dXJ_fillB_12 : decode cXJ_fillB 12 = .ok (.iload_n 2, 1) := by decide +kernel
theorem dXJ_fillB_13 : decode cXJ_fillB 13 = .ok (.if_icmp .ge 14, 3) := by decide +kernel
theorem dXJ_fillB_16 : decode cXJ_fillB 16 = .ok (.aload_n 0, 1) := by decide +kernel
theorem dXJ_fillB_17 : decode cXJ_fillB 17 = .ok (.iload 4, 2) := by decide +kernel
theorem dXJ_fillB_19 : decode cXJ_fillB 19 = .ok (.iload_n 3, 1) := by decide +kernel
theorem dXJ_fillB_20 : decode cXJ_fillB 20 = .ok (.bastore, 1) := by decide +kernel
theorem dXJ_fillB_21 : decode cXJ_fillB 21 = .ok (.iinc 4 1, 3) := by decide +kernel
theorem dXJ_fillB_24 : decode cXJ_fillB 24 = .ok (.goto (-14), 3) := by decide +kernel
theorem dXJ_fillB_27 : decode cXJ_fillB 27 = .ok (.return_, 1) := by decide +kernel
abbrev cXJ_fillI : ByteArray := prog_28_method_103_code
def yXJ_fillI : MethodName := ⟨RXJ, "fill", "([II)V"⟩
theorem wXJ_fillI : Cond.code yXJ_fillI cXJ_fillI 4 none ∈ A9 := in9_2 50 rfl rfl
theorem dXJ_fillI_0 : decode cXJ_fillI 0 = .ok (.iconst 0, 1) := by decide +kernel
theorem dXJ_fillI_1 : decode cXJ_fillI 1 = .ok (.istore_n 2, 1) := by decide +kernel
theorem dXJ_fillI_2 : decode cXJ_fillI 2 = .ok (.aload_n 0, 1) := by decide +kernel
theorem dXJ_fillI_3 : decode cXJ_fillI 3 = .ok (.arraylength, 1) := by decide +kernel
theorem dXJ_fillI_4 : decode cXJ_fillI 4 = .ok (.istore_n 3, 1) := by decide +kernel
theorem dXJ_fillI_5 : decode cXJ_fillI 5 = .ok (.iload_n 2, 1) := by decide +kernel
theorem dXJ_fillI_6 : decode cXJ_fillI 6 = .ok (.iload_n 3, 1) := by decide +kernel
theorem dXJ_fillI_7 : decode cXJ_fillI 7 = .ok (.if_icmp .ge 13, 3) := by decide +kernel
theorem dXJ_fillI_10 : decode cXJ_fillI 10 = .ok (.aload_n 0, 1) := by decide +kernel
theorem dXJ_fillI_11 : decode cXJ_fillI 11 = .ok (.iload_n 2, 1) := by decide +kernel
theorem dXJ_fillI_12 : decode cXJ_fillI 12 = .ok (.iload_n 1, 1) := by decide +kernel
theorem dXJ_fillI_13 : decode cXJ_fillI 13 = .ok (.iastore, 1) := by decide +kernel
theorem dXJ_fillI_14 : decode cXJ_fillI 14 = .ok (.iinc 2 1, 3) := by decide +kernel
theorem dXJ_fillI_17 : decode cXJ_fillI 17 = .ok (.goto (-12), 3) := by decide +kernel
theorem dXJ_fillI_20 : decode cXJ_fillI 20 = .ok (.return_, 1) := by decide +kernel
abbrev cXJ_rangeCheck : ByteArray := prog_28_method_30_code
def yXJ_rangeCheck : MethodName := ⟨RXJ, "rangeCheck", "(III)V"⟩
theorem wXJ_rangeCheck : Cond.code yXJ_rangeCheck cXJ_rangeCheck 3 none ∈ A9 := in9_2 225 rfl rfl
theorem dXJ_rangeCheck_0 : decode cXJ_rangeCheck 0 = .ok (.iload_n 1, 1) := by decide +kernel
theorem dXJ_rangeCheck_1 : decode cXJ_rangeCheck 1 = .ok (.iload_n 2, 1) := by decide +kernel
theorem dXJ_rangeCheck_2 : decode cXJ_rangeCheck 2 = .ok (.if_icmp .le 44, 3) := by decide +kernel
theorem dXJ_rangeCheck_46 : decode cXJ_rangeCheck 46 = .ok (.iload_n 1, 1) := by decide +kernel
theorem dXJ_rangeCheck_47 : decode cXJ_rangeCheck 47 = .ok (.ifCond .ge 12, 3) := by decide +kernel
theorem dXJ_rangeCheck_59 : decode cXJ_rangeCheck 59 = .ok (.iload_n 2, 1) := by decide +kernel
theorem dXJ_rangeCheck_60 : decode cXJ_rangeCheck 60 = .ok (.iload_n 0, 1) := by decide +kernel
theorem dXJ_rangeCheck_61 : decode cXJ_rangeCheck 61 = .ok (.if_icmp .le 12, 3) := by decide +kernel
theorem dXJ_rangeCheck_73 : decode cXJ_rangeCheck 73 = .ok (.return_, 1) := by decide +kernel
theorem gXJ_13 : GoodIn A9 (va_wsS RXJ 13 yXJ_rangeCheck (Cond.code yXJ_rangeCheck cXJ_rangeCheck 3 none :: A9)) := g9S (in9_2 223 (by decide +kernel) rfl) (in9_2 224 (by decide +kernel) rfl) iXJ wXJ_rangeCheck
theorem gXS_39 : GoodIn A9 (va_wsS RXS 39 yXJ_fillB (Cond.code yXJ_fillB cXJ_fillB 5 none :: A9)) := g9S (in9_2 220 (by decide +kernel) rfl) (in9_2 221 (by decide +kernel) rfl) iXJ wXJ_fillB
theorem gXT_18 : GoodIn A9 (va_wsS RXT 18 yXJ_fillI (Cond.code yXJ_fillI cXJ_fillI 4 none :: A9)) := g9S (in9_2 48 (by decide +kernel) rfl) (in9_2 49 (by decide +kernel) rfl) iXJ wXJ_fillI
theorem v_less0 {z : fZ} {G : fG} {nL : Nat} {Q : State → Prop} {kc ks : Nat} {σ σ1 : fS} {pc : Nat} {lv : List (Option Value)} {st : List Value} (h : σ = σ1) (k : fv z G nL Q kc ks σ1 pc lv st) : fv z G nL Q kc ks σ pc lv st := h ▸ k
def x_fill (σ : fS) (k : Nat) (a b v : Int) : fS := f_pa σ k (fun q => if a ≤ q ∧ (q : Int) < b then v else σ.2 k q)
theorem x_fill_0 (σ : fS) (k : Nat) (a v : Int) : x_fill σ k a a v = σ := by
  refine fS_ext (fun _ _ => rfl) (fun x q => ?_)
  show (f_pa σ k _).2 x q = _
  rw [pa_2]
  split
  · rename_i h; subst h; exact if_neg (by omega)
  · rfl
theorem x_fill_s (σ : fS) (k : Nat) (a j v : Int) (h : 0 ≤ a) (ha : a ≤ j) : f_p2 (x_fill σ k a j v) k j.toNat v = x_fill σ k a (j + 1) v := by
  refine fS_ext (fun _ _ => rfl) (fun x q => ?_)
  rw [p2_2]
  show _ = (f_pa σ k _).2 x q
  rw [pa_2]
  by_cases hx : x = k
  · subst hx
    rw [if_pos rfl]
    by_cases hq : q = j.toNat
    · rw [if_pos ⟨rfl, hq⟩, if_pos (by omega)]
    · rw [if_neg (by omega)]
      show (f_pa σ x _).2 x q = _
      rw [pa_2, if_pos rfl]
      by_cases h2 : a ≤ (q : Int) ∧ (q : Int) < j
      · rw [if_pos h2, if_pos (by omega)]
      · rw [if_neg h2, if_neg (by omega)]
  · rw [if_neg (by omega), if_neg hx]
    show (f_pa σ k _).2 x q = _
    rw [pa_2, if_neg hx]
section XJ
variable {z : fZ} {G : fG} {cc : ByteArray} {nL : Nat} {own : String} {Q : State → Prop} {kc ks : Nat} {σ : fS} {pc : Nat} {lv : List (Option Value)} {st : List Value}
/-- System.arraycopy between two arrays of numbers -/
theorem v_copy (C : fc z G cc nL own) {k0 k1 t n0 n1 index : Nat} {sp dp n : Int} {ty : FieldType} (hlink : Cond.methodLink own index arraycopyName ∈ A9) (hnat : Cond.native arraycopyName ∈ A9) (hstat : Cond.static arraycopyName ∈ A9) (hini : Cond.initialized "java/lang/System" ∈ A9)
    (hN0 : k0 < G.2.2.2.2.2.2) (hY0 : G.2.2.2.2.2.1 k0 = .inr (.inl (t, n0))) (hN1 : k1 < G.2.2.2.2.2.2) (hY1 : G.2.2.2.2.2.1 k1 = .inr (.inl (t, n1))) (ht : G.2.2.1[t]? = some (G.2.2.2.2.1 t, ty)) (hprim : refKind ty = false) (hs : 0 ≤ sp ∧ sp ≤ 2147483647) (hd : 0 ≤ dp ∧ dp ≤ 2147483647) (hn : 0 ≤ n ∧ n ≤ 2147483647) (h0 : sp + n ≤ n0) (h1 : dp + n ≤ n1)
    (hfit : ∀ i, fits ty (.int (fI (σ.2 k0 i))) = true) (hR : 1 ≤ z.2.2.2.1.frames ∧ (st.map fun v => v.category).sum + (nativeFrameWords "java/lang/System" "arraycopy" 5 + 11) ≤ z.2.2.2.1.locals) (dg : decode cc pc = .ok (.invokestatic index, 3))
    (kk : fv z G nL Q kc ks (f_pa σ k1 (fun q => if dp.toNat ≤ q ∧ q < dp.toNat + n.toNat then σ.2 k0 (sp.toNat + (q - dp.toNat)) else σ.2 k1 q)) (pc + 3) lv st) : fv z G nL Q kc ks σ pc lv (.int (fI n) :: .int (fI dp) :: .ref (G.2.2.2.1 k1) :: .int (fI sp) :: .ref (G.2.2.2.1 k0) :: st) := by
  intro H locs ls hP hS hl
  have c1 := fI_clamp hs.1 hs.2
  have c2 := fI_clamp hd.1 hd.2
  have c3 := fI_clamp hn.1 hn.2
  refine va_copyi (ty := ty) C.1 C.2.1 (C.2.2.1.trans hl.1.symm) C.2.2.2.1 (C.2.2.2.2.1 _ hlink) (C.2.2.2.2.1 _ hnat) (C.2.2.2.2.1 _ hstat) (C.2.2.2.2.1 _ hini) C.2.2.2.2.2.1 hP (f_D C.2.2.2.2.2.2) hS k0 k1 t t (f_at2 hN0 hY0) (f_at2 hN1 hY1) ht ht hprim ?_ ?_ ?_ (by rw [c1, c3]; omega) (by rw [c2, c3]; omega) (fun i _ => hfit _) hR.1 hR.2 dg ?_
  · rw [← fI_0, fI_lt (by omega) (by omega)]; omega
  · rw [← fI_0, fI_lt (by omega) (by omega)]; omega
  · rw [← fI_0, fI_lt (by omega) (by omega)]; omega
  · intro H1 locs1 hP1 _ hS1
    refine kk H1 locs1 ls ?_ hS1 hl
    rw [c1, c2, c3, f_set2 (g := fun q => if dp.toNat ≤ q ∧ q < dp.toNat + n.toNat then σ.2 k0 (sp.toNat + (q - dp.toNat)) else σ.2 k1 q) hY1 (fun q => by unfold va_cpy; split <;> rfl)] at hP1
    exact hP1
/-- the first line's static array: its reference, length, bytes -/
theorem v_fl (C : fc z G cc nL own) (hE : xE G z.2.2.2.2.1.heap.size z.2.2.2.2.1) {index : Nat} (hlink : Cond.fieldLinkNest own index RXA "FIRST_LINE" "[B" RXA ∈ x_nest) (dg : decode cc pc = .ok (.getstatic index, 3))
    (kk : ∀ t, va_T .byte t 4 (fun j => .int (fI (x_fl j))) (f_A G z.2.2.2.2.1.heap.size) z.2.2.2.2.1 z.2.2.2.2.1.heap → fv z G nL Q kc ks σ (pc + 3) lv (.ref t :: st)) : fv z G nL Q kc ks σ pc lv st := by
  obtain ⟨-, -, -, h4, -, -, t, h5, h6⟩ := hE
  intro H locs ls hP hS hl
  exact va_getsN C.1 C.2.1 h5 hS C.2.2.2.1 (va_Nw.use rfl (h4 _ hlink)) (fun x h => h) dg (kk t h6 H locs ls hP hS hl)
theorem v_fln (C : fc z G cc nL own) {t : Nat} (hT : va_T .byte t 4 (fun j => .int (fI (x_fl j))) (f_A G z.2.2.2.2.1.heap.size) z.2.2.2.2.1 z.2.2.2.2.1.heap) (dg : decode cc pc = .ok (.arraylength, 1)) (kk : fv z G nL Q kc ks σ (pc + 1) lv (.int (fI 4) :: st)) : fv z G nL Q kc ks σ pc lv (.ref t :: st) :=
  fun H locs ls hP hS hl => va_tlen C.1 C.2.1 hT hS (by decide +kernel) dg (kk H locs ls hP hS hl)
theorem v_flb (C : fc z G cc nL own) {t : Nat} {i : Int} (hT : va_T .byte t 4 (fun j => .int (fI (x_fl j))) (f_A G z.2.2.2.2.1.heap.size) z.2.2.2.2.1 z.2.2.2.2.1.heap) (hi : 0 ≤ i ∧ i < 4) (dg : decode cc pc = .ok (.baload, 1)) (kk : fv z G nL Q kc ks σ (pc + 1) lv (.int (fI (x_fl i.toNat)) :: st)) : fv z G nL Q kc ks σ pc lv (.int (fI i) :: .ref t :: st) :=
  fun H locs ls hP hS hl => va_tb C.1 C.2.1 hT hS (fI_in hi.1 hi.2 (by decide)) (by rw [fI_clamp hi.1 (by omega)]) dg (kk H locs ls hP hS hl)
end XJ
set_option maxRecDepth 100000 in
set_option maxHeartbeats 4000000 in
/-- rangeCheck -/
theorem kX_XJ_rangeCheck (l : Launch) (D : va_G) (cA : Nat → ClassId) (ad : Nat → Nat) (hJ : f_J (xG D cA ad)) (σ : fS) (len a b : Int) (h : 0 ≤ a ∧ a ≤ b ∧ b ≤ len ∧ len ≤ 100000) : f_M l (xG D cA ad) (xE (xG D cA ad)) yXJ_rangeCheck (Cond.code yXJ_rangeCheck cXJ_rangeCheck 3 none :: A9) 0 σ [.int (fI len), .int (fI a), .int (fI b)] (f_QV (fun σ1 => σ1 = σ) (xG D cA ad)) := by
  refine f_enter (by decide +kernel) hJ rfl (Nat.le_of_ble_eq_true rfl) ?_
  intro z hzl hR C hRt hLk hEz
  subst hzl
  have hRR : 0 ≤ z.2.2.2.1.frames ∧ 40 * 0 ≤ z.2.2.2.1.locals ∧ 0 ≤ z.2.2.2.1.cells ∧ 0 ≤ z.2.2.2.1.slots := by rw [hR]; exact ⟨Nat.le_refl _, Nat.le_refl _, Nat.zero_le _, Nat.zero_le _⟩
  refine v_iload_n C dXJ_rangeCheck_0 rfl rfl ?_
  refine v_iload_n C dXJ_rangeCheck_1 rfl rfl ?_
  refine v_icmp_le (tgt := 46) C dXJ_rangeCheck_2 (by decide) (by omega) (by omega) (fun hc1 => ?_) (fun hc1 => ?_)
  · refine v_iload_n C dXJ_rangeCheck_46 rfl rfl ?_
    refine v_if_ge (tgt := 59) C dXJ_rangeCheck_47 (by decide) (by omega) (fun hc2 => ?_) (fun hc2 => ?_)
    · refine v_iload_n C dXJ_rangeCheck_59 rfl rfl ?_
      refine v_iload_n C dXJ_rangeCheck_60 rfl rfl ?_
      refine v_icmp_le (tgt := 73) C dXJ_rangeCheck_61 (by decide) (by omega) (by omega) (fun hc3 => ?_) (fun hc3 => ?_)
      · exact v_vret C hRt hLk dXJ_rangeCheck_73 rfl
      · exfalso; omega
    · exfalso; omega
  · exfalso; omega
set_option maxRecDepth 100000 in
set_option maxHeartbeats 4000000 in
/-- fillI -/
theorem kX_XJ_fillI (l : Launch) (D : va_G) (cA : Nat → ClassId) (ad : Nat → Nat) (hJ : f_J (xG D cA ad)) (σ : fS) (k m : Nat) (v : Int) (hk : k < 383) (hYk : xY k = .inr (.inl (0, m))) (hm : m ≤ 100000) : f_M l (xG D cA ad) (xE (xG D cA ad)) yXJ_fillI (Cond.code yXJ_fillI cXJ_fillI 4 none :: A9) 0 σ [.ref (ad (k)), .int (fI v)] (f_QV (fun σ1 => σ1 = x_fill σ k 0 m v) (xG D cA ad)) := by
  refine f_enter (by decide +kernel) hJ rfl (Nat.le_of_ble_eq_true rfl) ?_
  intro z hzl hR C hRt hLk hEz
  subst hzl
  have hRR : 0 ≤ z.2.2.2.1.frames ∧ 40 * 0 ≤ z.2.2.2.1.locals ∧ 0 ≤ z.2.2.2.1.cells ∧ 0 ≤ z.2.2.2.1.slots := by rw [hR]; exact ⟨Nat.le_refl _, Nat.le_refl _, Nat.zero_le _, Nat.zero_le _⟩
  have L : ∀ (n : Nat) (j : Int), j + n = m → 0 ≤ j → fv z (xG D cA ad) 4 (f_R z (xG D cA ad) (f_QV (fun σ1 => σ1 = x_fill σ k 0 m v) (xG D cA ad))) 0 0 (x_fill σ k 0 j v) 5 [some (.ref (ad k)), some (.int (fI v)), some (.int (fI j)), some (.int (fI m))] [] := by
    intro n
    induction n with
    | zero =>
      intro j hj h0
      have hjm : j = m := by omega
      subst j
      refine v_iload_n C dXJ_fillI_5 rfl rfl ?_
      refine v_iload_n C dXJ_fillI_6 rfl rfl ?_
      refine v_icmp_ge (tgt := 20) C dXJ_fillI_7 (by decide) (by omega) (by omega) (fun hc1 => ?_) (fun hc1 => ?_)
      · exact v_vret C hRt hLk dXJ_fillI_20 rfl
      · exfalso; omega
    | succ n ih =>
      intro j hj h0
      refine v_iload_n C dXJ_fillI_5 rfl rfl ?_
      refine v_iload_n C dXJ_fillI_6 rfl rfl ?_
      refine v_icmp_ge (tgt := 20) C dXJ_fillI_7 (by decide) (by omega) (by omega) (fun hc2 => ?_) (fun hc2 => ?_)
      · exfalso; omega
      · refine v_aload_n C dXJ_fillI_10 rfl rfl ?_
        refine v_iload_n C dXJ_fillI_11 rfl rfl ?_
        refine v_iload_n C dXJ_fillI_12 rfl rfl ?_
        refine v_iast (k := k) C dXJ_fillI_13 hk hYk rfl (by omega) (by omega) ?_
        refine v_iinc C dXJ_fillI_14 rfl (by decide) ?_
        refine v_goto (tgt := 5) C dXJ_fillI_17 (by decide) ?_
        exact v_less0 (x_fill_s σ k 0 j v (by omega) h0) (ih (j + 1) (by omega) (by omega))
  refine v_iconst C dXJ_fillI_0 ?_
  refine v_istore_n C dXJ_fillI_1 rfl (by decide) ?_
  refine v_aload_n C dXJ_fillI_2 rfl rfl ?_
  refine v_alen (k := k) C dXJ_fillI_3 hk hYk rfl ?_
  refine v_istore_n C dXJ_fillI_4 rfl (by decide) ?_
  exact v_less0 (x_fill_0 σ k 0 v).symm (L m 0 (by omega) (by omega))
set_option maxRecDepth 100000 in
set_option maxHeartbeats 4000000 in
/-- fillB -/
theorem kX_XJ_fillB (l : Launch) (D : va_G) (cA : Nat → ClassId) (ad : Nat → Nat) (hJ : f_J (xG D cA ad)) (σ : fS) (k m : Nat) (a b v : Int) (hk : k < 383) (hYk : xY k = .inr (.inl (1, m))) (hm : m ≤ 100000) (hab : 0 ≤ a ∧ a ≤ b ∧ b ≤ m) (hv : -128 ≤ v ∧ v ≤ 127) : f_M l (xG D cA ad) (xE (xG D cA ad)) yXJ_fillB (Cond.code yXJ_fillB cXJ_fillB 5 none :: A9) 1 σ [.ref (ad (k)), .int (fI a), .int (fI b), .int (fI v)] (f_QV (fun σ1 => σ1 = x_fill σ k a b v) (xG D cA ad)) := by
  refine f_enter (by decide +kernel) hJ rfl (Nat.le_of_ble_eq_true rfl) ?_
  intro z hzl hR C hRt hLk hEz
  subst hzl
  have hRR : 1 ≤ z.2.2.2.1.frames ∧ 40 * 1 ≤ z.2.2.2.1.locals ∧ 0 ≤ z.2.2.2.1.cells ∧ 0 ≤ z.2.2.2.1.slots := by rw [hR]; exact ⟨Nat.le_refl _, Nat.le_refl _, Nat.zero_le _, Nat.zero_le _⟩
  have L : ∀ (n : Nat) (j : Int), j + n = b → a ≤ j → fv z (xG D cA ad) 5 (f_R z (xG D cA ad) (f_QV (fun σ1 => σ1 = x_fill σ k a b v) (xG D cA ad))) 0 0 (x_fill σ k a j v) 10 [some (.ref (ad k)), some (.int (fI a)), some (.int (fI b)), some (.int (fI v)), some (.int (fI j))] [] := by
    intro n
    induction n with
    | zero =>
      intro j hj h0
      have hjm : j = b := by omega
      subst j
      refine v_iload C dXJ_fillB_10 rfl ?_
      refine v_iload_n C dXJ_fillB_12 rfl rfl ?_
      refine v_icmp_ge (tgt := 27) C dXJ_fillB_13 (by decide) (by omega) (by omega) (fun hc1 => ?_) (fun hc1 => ?_)
      · exact v_vret C hRt hLk dXJ_fillB_27 rfl
      · exfalso; omega
    | succ n ih =>
      intro j hj h0
      refine v_iload C dXJ_fillB_10 rfl ?_
      refine v_iload_n C dXJ_fillB_12 rfl rfl ?_
      refine v_icmp_ge (tgt := 27) C dXJ_fillB_13 (by decide) (by omega) (by omega) (fun hc2 => ?_) (fun hc2 => ?_)
      · exfalso; omega
      · refine v_aload_n C dXJ_fillB_16 rfl rfl ?_
        refine v_iload C dXJ_fillB_17 rfl ?_
        refine v_iload_n C dXJ_fillB_19 rfl rfl ?_
        refine v_bast (k := k) C dXJ_fillB_20 hk hYk rfl (by omega) (by omega) (by omega) ?_
        refine v_iinc C dXJ_fillB_21 rfl (by decide) ?_
        refine v_goto (tgt := 10) C dXJ_fillB_24 (by decide) ?_
        exact v_less0 (x_fill_s σ k a j v (by omega) h0) (ih (j + 1) (by omega) (by omega))
  refine v_aload_n C dXJ_fillB_0 rfl rfl ?_
  refine v_alen (k := k) C dXJ_fillB_1 hk hYk rfl ?_
  refine v_iload_n C dXJ_fillB_2 rfl rfl ?_
  refine v_iload_n C dXJ_fillB_3 rfl rfl ?_
  refine v_cSV (n := 3) C (xE_ok _) hEz hR (kX_XJ_rangeCheck _ D cA ad hJ σ (m : Int) a b (by omega)) dXJ_fillB_4 gXJ_13 (by decide +kernel) (by decide) (by decide) rfl (Nat.le_of_ble_eq_true rfl) rfl ⟨rfl, rfl⟩ (fun σ1 hp1 => ?_)
  subst σ1
  refine v_iload_n C dXJ_fillB_7 rfl rfl ?_
  refine v_istore C dXJ_fillB_8 (by decide) ?_
  exact v_less0 (x_fill_0 σ k a v).symm (L (b - a).toNat a (by omega) (by omega))
end
section
/-- an object comes -/
def x_bring (σ : fS) (n len : Int) : fS := x_fill (f_p2 (f_p2 (f_p2 (f_p2 σ 2 n.toNat 1) 3 n.toNat 0) 6 n.toNat 1) 4 n.toNat len) 5 (n * 120) (n * 120 + len) 0
/-- whether object n is changed -/
def x_ch (σ : fS) (n : Nat) : Int := if σ.2 2 n = 1 then σ.2 6 n else σ.2 7 n
/-- all objects below k are saved -/
def x_sav (σ : fS) (k : Nat) : fS := (σ.1, fun a b => if 1 ≤ b ∧ b < k then (if a = 6 then 0 else if a = 7 then σ.2 2 b else σ.2 a b) else σ.2 a b)
theorem x_sav_2 (σ : fS) (k b : Nat) : (x_sav σ k).2 2 b = σ.2 2 b := by
  show (if 1 ≤ b ∧ b < k then (if 2 = 6 then 0 else if 2 = 7 then σ.2 2 b else σ.2 2 b) else σ.2 2 b) = _
  split <;> rfl
theorem x_sav_1 (σ : fS) : σ = x_sav σ 1 := fS_ext (fun _ _ => rfl) (fun a b => by show _ = if 1 ≤ b ∧ b < 1 then _ else σ.2 a b; rw [if_neg (by omega)])
theorem x_sav_s (σ : fS) (k : Nat) (hk : 1 ≤ k) : f_p2 (f_p2 (x_sav σ k) 6 k 0) 7 k (σ.2 2 k) = x_sav σ (k + 1) := by
  refine fS_ext (fun _ _ => rfl) (fun a b => ?_)
  rw [p2_2, p2_2]
  show _ = if 1 ≤ b ∧ b < k + 1 then (if a = 6 then 0 else if a = 7 then σ.2 2 b else σ.2 a b) else σ.2 a b
  by_cases hb : b = k
  · subst hb
    rw [if_pos (show 1 ≤ b ∧ b < b + 1 by omega)]
    by_cases g1 : a = 7
    · subst g1; simp
    · by_cases g2 : a = 6
      · subst g2; simp
      · simp only [g1, g2, false_and, if_false]
        show (if 1 ≤ b ∧ b < b then _ else σ.2 a b) = _
        rw [if_neg (by omega)]
  · rw [if_neg (by omega), if_neg (by omega)]
    show (if 1 ≤ b ∧ b < k then (if a = 6 then 0 else if a = 7 then σ.2 2 b else σ.2 a b) else σ.2 a b) = _
    by_cases h : 1 ≤ b ∧ b < k
    · rw [if_pos h, if_pos (show 1 ≤ b ∧ b < k + 1 by omega)]
    · rw [if_neg h, if_neg (show ¬ (1 ≤ b ∧ b < k + 1) by omega)]
set_option maxRecDepth 100000 in
set_option maxHeartbeats 4000000 in
/-- byteAt -/
theorem kX_XS_byteAt (l : Launch) (D : va_G) (cA : Nat → ClassId) (ad : Nat → Nat) (hJ : f_J (xG D cA ad)) (σ : fS) (n i : Int) (hn : 1 ≤ n ∧ n ≤ 40) (hi : 0 ≤ i ∧ i < 120) (h5 : ∀ i, -128 ≤ σ.2 5 i ∧ σ.2 5 i ≤ 127) : f_M l (xG D cA ad) (xE (xG D cA ad)) yXS_byteAt (Cond.code yXS_byteAt cXS_byteAt 3 (some .byte) :: A9) 0 σ [.ref (ad 1), .int (fI n), .int (fI i)] (f_QI (fun r σ1 => r = σ.2 5 (n * 120 + i).toNat ∧ σ1 = σ) (xG D cA ad)) := by
  refine f_enter (by decide +kernel) hJ rfl (Nat.le_of_ble_eq_true rfl) ?_
  intro z hzl hR C hRt hLk hEz
  subst hzl
  have hRR : 0 ≤ z.2.2.2.1.frames ∧ 40 * 0 ≤ z.2.2.2.1.locals ∧ 0 ≤ z.2.2.2.1.cells ∧ 0 ≤ z.2.2.2.1.slots := by rw [hR]; exact ⟨Nat.le_refl _, Nat.le_refl _, Nat.zero_le _, Nat.zero_le _⟩
  refine v_aload_n C dXS_byteAt_0 rfl rfl ?_
  refine v_getR (k := 1) (q := 3) C dXS_byteAt_1 (by show (1 : Nat) < 383; decide) rfl rfl (by decide) rfl inXS lXS_22 rfl ?_
  refine v_iload_n C dXS_byteAt_4 rfl rfl ?_
  refine v_bipush C dXS_byteAt_5 (by decide +kernel) ?_
  refine v_imul C dXS_byteAt_7 ?_
  refine v_iload_n C dXS_byteAt_8 rfl rfl ?_
  refine v_iadd C dXS_byteAt_9 ?_
  have hb1 := h5 (((n * 120) + i)).toNat
  refine v_bald (k := 5) (v := σ.2 5 (((n * 120) + i)).toNat) C dXS_byteAt_10 (by show (5 : Nat) < 383; decide) rfl rfl (by omega) (by decide) rfl ?_
  exact v_zret C hRt hLk dXS_byteAt_11 (fN_byte (by omega) (by omega)) ⟨rfl, rfl⟩
set_option maxRecDepth 100000 in
set_option maxHeartbeats 4000000 in
/-- bring -/
theorem kX_XS_bring (l : Launch) (D : va_G) (cA : Nat → ClassId) (ad : Nat → Nat) (hJ : f_J (xG D cA ad)) (σ : fS) (n len : Int) (hn : 1 ≤ n ∧ n ≤ 40) (hl : 0 ≤ len ∧ len ≤ 120) : f_M l (xG D cA ad) (xE (xG D cA ad)) yXS_bring (Cond.code yXS_bring cXS_bring 4 none :: A9) 2 σ [.ref (ad 1), .int (fI n), .int (fI len)] (f_QV (fun σ1 => σ1 = x_bring σ n len) (xG D cA ad)) := by
  refine f_enter (by decide +kernel) hJ rfl (Nat.le_of_ble_eq_true rfl) ?_
  intro z hzl hR C hRt hLk hEz
  subst hzl
  have hRR : 2 ≤ z.2.2.2.1.frames ∧ 40 * 2 ≤ z.2.2.2.1.locals ∧ 0 ≤ z.2.2.2.1.cells ∧ 0 ≤ z.2.2.2.1.slots := by rw [hR]; exact ⟨Nat.le_refl _, Nat.le_refl _, Nat.zero_le _, Nat.zero_le _⟩
  refine v_aload_n C dXS_bring_0 rfl rfl ?_
  refine v_getR (k := 1) (q := 0) C dXS_bring_1 (by show (1 : Nat) < 383; decide) rfl rfl (by decide) rfl inXS lXS_9 rfl ?_
  refine v_iload_n C dXS_bring_4 rfl rfl ?_
  refine v_iconst C dXS_bring_5 ?_
  refine v_zast (k := 2) C dXS_bring_6 (by show (2 : Nat) < 383; decide) rfl rfl (by omega) (by decide) (by omega) ?_
  refine v_aload_n C dXS_bring_7 rfl rfl ?_
  refine v_getR (k := 1) (q := 1) C dXS_bring_8 (by show (1 : Nat) < 383; decide) rfl rfl (by decide) rfl inXS lXS_15 rfl ?_
  refine v_iload_n C dXS_bring_11 rfl rfl ?_
  refine v_iconst C dXS_bring_12 ?_
  refine v_zast (k := 3) C dXS_bring_13 (by show (3 : Nat) < 383; decide) rfl rfl (by omega) (by decide) (by omega) ?_
  refine v_aload_n C dXS_bring_14 rfl rfl ?_
  refine v_getR (k := 1) (q := 4) C dXS_bring_15 (by show (1 : Nat) < 383; decide) rfl rfl (by decide) rfl inXS lXS_26 rfl ?_
  refine v_iload_n C dXS_bring_18 rfl rfl ?_
  refine v_iconst C dXS_bring_19 ?_
  refine v_zast (k := 6) C dXS_bring_20 (by show (6 : Nat) < 383; decide) rfl rfl (by omega) (by decide) (by omega) ?_
  refine v_aload_n C dXS_bring_21 rfl rfl ?_
  refine v_getR (k := 1) (q := 2) C dXS_bring_22 (by show (1 : Nat) < 383; decide) rfl rfl (by decide) rfl inXS lXS_18 rfl ?_
  refine v_iload_n C dXS_bring_25 rfl rfl ?_
  refine v_iload_n C dXS_bring_26 rfl rfl ?_
  refine v_iast (k := 4) C dXS_bring_27 (by show (4 : Nat) < 383; decide) rfl rfl (by omega) (by decide) ?_
  refine v_iload_n C dXS_bring_28 rfl rfl ?_
  refine v_bipush C dXS_bring_29 (by decide +kernel) ?_
  refine v_imul C dXS_bring_31 ?_
  refine v_istore_n C dXS_bring_32 rfl (by decide) ?_
  refine v_aload_n C dXS_bring_33 rfl rfl ?_
  refine v_getR (k := 1) (q := 3) C dXS_bring_34 (by show (1 : Nat) < 383; decide) rfl rfl (by decide) rfl inXS lXS_22 rfl ?_
  refine v_iload_n C dXS_bring_37 rfl rfl ?_
  refine v_iload_n C dXS_bring_38 rfl rfl ?_
  refine v_iload_n C dXS_bring_39 rfl rfl ?_
  refine v_iadd C dXS_bring_40 ?_
  refine v_iconst C dXS_bring_41 ?_
  refine v_cSV (n := 4) C (xE_ok _) hEz hR (kX_XJ_fillB _ D cA ad hJ _ 5 4920 ((n * 120)) (((n * 120) + len)) 0 (by decide) rfl (by decide) (by omega) (by omega)) dXS_bring_42 gXS_39 (by decide +kernel) (by decide) (by decide) rfl (Nat.le_of_ble_eq_true rfl) rfl ⟨rfl, rfl⟩ (fun σ1 hp1 => ?_)
  subst σ1
  exact v_vret C hRt hLk dXS_bring_45 rfl
set_option maxRecDepth 100000 in
set_option maxHeartbeats 4000000 in
/-- isChanged -/
theorem kX_XS_isChanged (l : Launch) (D : va_G) (cA : Nat → ClassId) (ad : Nat → Nat) (hJ : f_J (xG D cA ad)) (σ : fS) (n : Int) (hn : 1 ≤ n ∧ n ≤ 40) (h2 : ∀ i, 0 ≤ σ.2 2 i ∧ σ.2 2 i ≤ 1) (h6 : ∀ i, 0 ≤ σ.2 6 i ∧ σ.2 6 i ≤ 1) (h7 : ∀ i, 0 ≤ σ.2 7 i ∧ σ.2 7 i ≤ 1) : f_M l (xG D cA ad) (xE (xG D cA ad)) yXS_isChanged (Cond.code yXS_isChanged cXS_isChanged 2 (some .boolean) :: A9) 0 σ [.ref (ad 1), .int (fI n)] (f_QI (fun r σ1 => r = x_ch σ n.toNat ∧ σ1 = σ) (xG D cA ad)) := by
  refine f_enter (by decide +kernel) hJ rfl (Nat.le_of_ble_eq_true rfl) ?_
  intro z hzl hR C hRt hLk hEz
  subst hzl
  have hRR : 0 ≤ z.2.2.2.1.frames ∧ 40 * 0 ≤ z.2.2.2.1.locals ∧ 0 ≤ z.2.2.2.1.cells ∧ 0 ≤ z.2.2.2.1.slots := by rw [hR]; exact ⟨Nat.le_refl _, Nat.le_refl _, Nat.zero_le _, Nat.zero_le _⟩
  refine v_aload_n C dXS_isChanged_0 rfl rfl ?_
  refine v_getR (k := 1) (q := 0) C dXS_isChanged_1 (by show (1 : Nat) < 383; decide) rfl rfl (by decide) rfl inXS lXS_9 rfl ?_
  refine v_iload_n C dXS_isChanged_4 rfl rfl ?_
  have hb1 := h2 (n).toNat
  refine v_zald (k := 2) (v := σ.2 2 (n).toNat) C dXS_isChanged_5 (by show (2 : Nat) < 383; decide) rfl rfl (by omega) (by decide) rfl ?_
  refine v_if_eq (tgt := 18) C dXS_isChanged_6 (by decide) (by omega) (fun hc2 => ?_) (fun hc2 => ?_)
  · refine v_aload_n C dXS_isChanged_18 rfl rfl ?_
    refine v_getR (k := 1) (q := 5) C dXS_isChanged_19 (by show (1 : Nat) < 383; decide) rfl rfl (by decide) rfl inXS lXS_29 rfl ?_
    refine v_iload_n C dXS_isChanged_22 rfl rfl ?_
    have hb3 := h7 (n).toNat
    refine v_zald (k := 7) (v := σ.2 7 (n).toNat) C dXS_isChanged_23 (by show (7 : Nat) < 383; decide) rfl rfl (by omega) (by decide) rfl ?_
    exact v_zret C hRt hLk dXS_isChanged_24 (fN_bool (by omega)) ⟨by unfold x_ch; first | rw [if_pos (by omega)] | rw [if_neg (by omega)], rfl⟩
  · refine v_aload_n C dXS_isChanged_9 rfl rfl ?_
    refine v_getR (k := 1) (q := 4) C dXS_isChanged_10 (by show (1 : Nat) < 383; decide) rfl rfl (by decide) rfl inXS lXS_26 rfl ?_
    refine v_iload_n C dXS_isChanged_13 rfl rfl ?_
    have hb4 := h6 (n).toNat
    refine v_zald (k := 6) (v := σ.2 6 (n).toNat) C dXS_isChanged_14 (by show (6 : Nat) < 383; decide) rfl rfl (by omega) (by decide) rfl ?_
    refine v_goto (tgt := 24) C dXS_isChanged_15 (by decide) ?_
    exact v_zret C hRt hLk dXS_isChanged_24 (fN_bool (by omega)) ⟨by unfold x_ch; first | rw [if_pos (by omega)] | rw [if_neg (by omega)], rfl⟩
set_option maxRecDepth 100000 in
set_option maxHeartbeats 4000000 in
/-- countChanged -/
theorem kX_XS_countChanged (l : Launch) (D : va_G) (cA : Nat → ClassId) (ad : Nat → Nat) (hJ : f_J (xG D cA ad)) (σ : fS) (h2 : ∀ i, 0 ≤ σ.2 2 i ∧ σ.2 2 i ≤ 1) (h6 : ∀ i, 0 ≤ σ.2 6 i ∧ σ.2 6 i ≤ 1) (h7 : ∀ i, 0 ≤ σ.2 7 i ∧ σ.2 7 i ≤ 1) : f_M l (xG D cA ad) (xE (xG D cA ad)) yXS_countChanged (Cond.code yXS_countChanged cXS_countChanged 3 (some .int) :: A9) 1 σ [.ref (ad 1)] (f_QI (fun r σ1 => r = m_cnt (x_ch σ) 40 ∧ σ1 = σ) (xG D cA ad)) := by
  refine f_enter (by decide +kernel) hJ rfl (Nat.le_of_ble_eq_true rfl) ?_
  intro z hzl hR C hRt hLk hEz
  subst hzl
  have hRR : 1 ≤ z.2.2.2.1.frames ∧ 40 * 1 ≤ z.2.2.2.1.locals ∧ 0 ≤ z.2.2.2.1.cells ∧ 0 ≤ z.2.2.2.1.slots := by rw [hR]; exact ⟨Nat.le_refl _, Nat.le_refl _, Nat.zero_le _, Nat.zero_le _⟩
  have L : ∀ (m k : Nat), m + k = 40 → fv z (xG D cA ad) 3 (f_R z (xG D cA ad) (f_QI (fun r σ1 => r = m_cnt (x_ch σ) 40 ∧ σ1 = σ) (xG D cA ad))) 0 0 σ 4 [some (.ref (ad 1)), some (.int (fI (m_cnt (x_ch σ) k))), some (.int (fI ((k : Int) + 1)))] [] := by
    intro m
    induction m with
    | zero =>
      intro k hk
      have hcl := m_cnt_le (x_ch σ) k
      have hk40 : k = 40 := by omega
      subst hk40
      refine v_iload_n C dXS_countChanged_4 rfl rfl ?_
      refine v_bipush C dXS_countChanged_5 (by decide +kernel) ?_
      refine v_icmp_gt (tgt := 27) C dXS_countChanged_7 (by decide) (by omega) (by omega) (fun hc1 => ?_) (fun hc1 => ?_)
      · refine v_iload_n C dXS_countChanged_27 rfl rfl ?_
        exact v_iret C hRt hLk dXS_countChanged_28 ⟨rfl, rfl⟩
      · exfalso; omega
    | succ m ih =>
      intro k hk
      have hcl := m_cnt_le (x_ch σ) k
      have hkt : ((k : Int) + 1).toNat = k + 1 := by omega
      have hcs : m_cnt (x_ch σ) (k + 1) = m_cnt (x_ch σ) k + (if (x_ch σ) (k + 1) = 1 then 1 else 0) := rfl
      refine v_iload_n C dXS_countChanged_4 rfl rfl ?_
      refine v_bipush C dXS_countChanged_5 (by decide +kernel) ?_
      refine v_icmp_gt (tgt := 27) C dXS_countChanged_7 (by decide) (by omega) (by omega) (fun hc2 => ?_) (fun hc2 => ?_)
      · exfalso; omega
      · refine v_aload_n C dXS_countChanged_10 rfl rfl ?_
        refine v_iload_n C dXS_countChanged_11 rfl rfl ?_
        refine v_cVI (k := 1) (n := 1) C (xE_ok _) hEz hR (kX_XS_isChanged _ D cA ad hJ σ (((k : Int) + 1)) (by omega) h2 h6 h7) dXS_countChanged_12 (by show (1 : Nat) < 383; decide) rfl rfl gXS_45 (by decide +kernel) (by decide) (by decide) rfl (Nat.le_of_ble_eq_true rfl) rfl ⟨rfl, rfl⟩ (fun r1 σ1 hp1 => ?_)
        obtain ⟨e1, e2⟩ := hp1
        subst σ1
        rw [hkt] at e1
        have hx01 : 0 ≤ x_ch σ (k + 1) ∧ x_ch σ (k + 1) ≤ 1 := by unfold x_ch; split; (· exact h6 _); (· exact h7 _)
        refine v_if_eq (tgt := 21) C dXS_countChanged_15 (by decide) (by omega) (fun hc3 => ?_) (fun hc3 => ?_)
        · refine v_iinc C dXS_countChanged_21 rfl (by decide) ?_
          refine v_goto (tgt := 4) C dXS_countChanged_24 (by decide) ?_
          exact v_lv (by rw [hcs]; (first | rw [if_pos (by omega)] | rw [if_neg (by omega), Int.add_zero]); rfl) (ih (k + 1) (by omega))
        · refine v_iinc C dXS_countChanged_18 rfl (by decide) ?_
          refine v_iinc C dXS_countChanged_21 rfl (by decide) ?_
          refine v_goto (tgt := 4) C dXS_countChanged_24 (by decide) ?_
          exact v_lv (by rw [hcs]; (first | rw [if_pos (by omega)] | rw [if_neg (by omega), Int.add_zero]); rfl) (ih (k + 1) (by omega))
  refine v_iconst C dXS_countChanged_0 ?_
  refine v_istore_n C dXS_countChanged_1 rfl (by decide) ?_
  refine v_iconst C dXS_countChanged_2 ?_
  refine v_istore_n C dXS_countChanged_3 rfl (by decide) ?_
  exact v_lv rfl (L 40 0 (by omega))
set_option maxRecDepth 100000 in
set_option maxHeartbeats 4000000 in
/-- save -/
theorem kX_XS_save (l : Launch) (D : va_G) (cA : Nat → ClassId) (ad : Nat → Nat) (hJ : f_J (xG D cA ad)) (σ : fS) (h2 : ∀ i, 0 ≤ σ.2 2 i ∧ σ.2 2 i ≤ 1) : f_M l (xG D cA ad) (xE (xG D cA ad)) yXS_save (Cond.code yXS_save cXS_save 2 none :: A9) 0 σ [.ref (ad 1)] (f_QV (fun σ1 => σ1 = x_sav σ 41) (xG D cA ad)) := by
  refine f_enter (by decide +kernel) hJ rfl (Nat.le_of_ble_eq_true rfl) ?_
  intro z hzl hR C hRt hLk hEz
  subst hzl
  have hRR : 0 ≤ z.2.2.2.1.frames ∧ 40 * 0 ≤ z.2.2.2.1.locals ∧ 0 ≤ z.2.2.2.1.cells ∧ 0 ≤ z.2.2.2.1.slots := by rw [hR]; exact ⟨Nat.le_refl _, Nat.le_refl _, Nat.zero_le _, Nat.zero_le _⟩
  have L : ∀ (m k : Nat), m + k = 41 → 1 ≤ k → fv z (xG D cA ad) 2 (f_R z (xG D cA ad) (f_QV (fun σ1 => σ1 = x_sav σ 41) (xG D cA ad))) 0 0 (x_sav σ k) 2 [some (.ref (ad 1)), some (.int (fI (k : Int)))] [] := by
    intro m
    induction m with
    | zero =>
      intro k hk hk1
      have hk41 : k = 41 := by omega
      subst hk41
      refine v_iload_n C dXS_save_2 rfl rfl ?_
      refine v_bipush C dXS_save_3 (by decide +kernel) ?_
      refine v_icmp_gt (tgt := 33) C dXS_save_5 (by decide) (by omega) (by omega) (fun hc1 => ?_) (fun hc1 => ?_)
      · exact v_vret C hRt hLk dXS_save_33 rfl
      · exfalso; omega
    | succ m ih =>
      intro k hk hk1
      have hb2 := h2 (k : Int).toNat
      refine v_iload_n C dXS_save_2 rfl rfl ?_
      refine v_bipush C dXS_save_3 (by decide +kernel) ?_
      refine v_icmp_gt (tgt := 33) C dXS_save_5 (by decide) (by omega) (by omega) (fun hc2 => ?_) (fun hc2 => ?_)
      · exfalso; omega
      · refine v_aload_n C dXS_save_8 rfl rfl ?_
        refine v_getR (k := 1) (q := 4) C dXS_save_9 (by show (1 : Nat) < 383; decide) rfl rfl (by decide) rfl inXS lXS_26 rfl ?_
        refine v_iload_n C dXS_save_12 rfl rfl ?_
        refine v_iconst C dXS_save_13 ?_
        refine v_zast (k := 6) C dXS_save_14 (by show (6 : Nat) < 383; decide) rfl rfl (by omega) (by decide) (by omega) ?_
        refine v_aload_n C dXS_save_15 rfl rfl ?_
        refine v_getR (k := 1) (q := 5) C dXS_save_16 (by show (1 : Nat) < 383; decide) rfl rfl (by decide) rfl inXS lXS_29 rfl ?_
        refine v_iload_n C dXS_save_19 rfl rfl ?_
        refine v_aload_n C dXS_save_20 rfl rfl ?_
        refine v_getR (k := 1) (q := 0) C dXS_save_21 (by show (1 : Nat) < 383; decide) rfl rfl (by decide) rfl inXS lXS_9 rfl ?_
        refine v_iload_n C dXS_save_24 rfl rfl ?_
        refine v_zald (k := 2) (v := σ.2 2 ((k : Int)).toNat) C dXS_save_25 (by show (2 : Nat) < 383; decide) rfl rfl (by omega) (by decide) (by rw [p2_2, if_neg (by omega)]; exact x_sav_2 _ _ _) ?_
        refine v_zast (k := 7) C dXS_save_26 (by show (7 : Nat) < 383; decide) rfl rfl (by omega) (by decide) (by omega) ?_
        refine v_iinc C dXS_save_27 rfl (by decide) ?_
        refine v_goto (tgt := 2) C dXS_save_30 (by decide) ?_
        exact v_st (x_sav_s σ k hk1) (ih (k + 1) (by omega) (by omega))
  refine v_iconst C dXS_save_0 ?_
  refine v_istore_n C dXS_save_1 rfl (by decide) ?_
  exact v_st (x_sav_1 σ) (L 40 1 (by omega) (by omega))
set_option maxRecDepth 100000 in
set_option maxHeartbeats 4000000 in
/-- valueAt -/
theorem kX_XF_valueAt (l : Launch) (D : va_G) (cA : Nat → ClassId) (ad : Nat → Nat) (hJ : f_J (xG D cA ad)) (σ : fS) (i : Int) (hi : -2147483648 ≤ i ∧ i ≤ 2147483647) (hc : 0 ≤ σ.1 8 1 ∧ σ.1 8 1 ≤ 12000) (h9 : ∀ i, -128 ≤ σ.2 9 i ∧ σ.2 9 i ≤ 127) : f_M l (xG D cA ad) (xE (xG D cA ad)) yXF_valueAt (Cond.code yXF_valueAt cXF_valueAt 2 (some .int) :: A9) 0 σ [.ref (ad 8), .int (fI i)] (f_QI (fun r σ1 => r = (if 0 ≤ i ∧ i < σ.1 8 1 then σ.2 9 i.toNat else 256) ∧ σ1 = σ) (xG D cA ad)) := by
  refine f_enter (by decide +kernel) hJ rfl (Nat.le_of_ble_eq_true rfl) ?_
  intro z hzl hR C hRt hLk hEz
  subst hzl
  have hRR : 0 ≤ z.2.2.2.1.frames ∧ 40 * 0 ≤ z.2.2.2.1.locals ∧ 0 ≤ z.2.2.2.1.cells ∧ 0 ≤ z.2.2.2.1.slots := by rw [hR]; exact ⟨Nat.le_refl _, Nat.le_refl _, Nat.zero_le _, Nat.zero_le _⟩
  refine v_iload_n C dXF_valueAt_0 rfl rfl ?_
  refine v_if_lt (tgt := 21) C dXF_valueAt_1 (by decide) (by omega) (fun hc1 => ?_) (fun hc1 => ?_)
  · refine v_sipush C dXF_valueAt_21 (by decide +kernel) ?_
    exact v_iret C hRt hLk dXF_valueAt_24 ⟨by first | rw [if_pos (by omega)] | rw [if_neg (by omega)], rfl⟩
  · refine v_iload_n C dXF_valueAt_4 rfl rfl ?_
    refine v_aload_n C dXF_valueAt_5 rfl rfl ?_
    refine v_getI (k := 8) (q := 1) (v := σ.1 8 1) C dXF_valueAt_6 (by show (8 : Nat) < 383; decide) rfl rfl (by decide) rfl inXF lXF_15 rfl rfl ?_
    refine v_icmp_ge (tgt := 21) C dXF_valueAt_9 (by decide) (by omega) (by omega) (fun hc2 => ?_) (fun hc2 => ?_)
    · refine v_sipush C dXF_valueAt_21 (by decide +kernel) ?_
      exact v_iret C hRt hLk dXF_valueAt_24 ⟨by first | rw [if_pos (by omega)] | rw [if_neg (by omega)], rfl⟩
    · refine v_aload_n C dXF_valueAt_12 rfl rfl ?_
      refine v_getR (k := 8) (q := 0) C dXF_valueAt_13 (by show (8 : Nat) < 383; decide) rfl rfl (by decide) rfl inXF lXF_9 rfl ?_
      refine v_iload_n C dXF_valueAt_16 rfl rfl ?_
      have hb3 := h9 (i).toNat
      refine v_bald (k := 9) (v := σ.2 9 (i).toNat) C dXF_valueAt_17 (by show (9 : Nat) < 383; decide) rfl rfl (by omega) (by decide) rfl ?_
      refine v_goto (tgt := 24) C dXF_valueAt_18 (by decide) ?_
      exact v_iret C hRt hLk dXF_valueAt_24 ⟨by first | rw [if_pos (by omega)] | rw [if_neg (by omega)], rfl⟩
set_option maxRecDepth 100000 in
set_option maxHeartbeats 4000000 in
/-- object -/
theorem kX_XA_object (l : Launch) (D : va_G) (cA : Nat → ClassId) (ad : Nat → Nat) (hJ : f_J (xG D cA ad)) (σ : fS) (n len : Int) (hn : 1 ≤ n ∧ n ≤ 40) (hl : 0 ≤ len ∧ len ≤ 120) : f_M l (xG D cA ad) (xE (xG D cA ad)) yXA_object (Cond.code yXA_object cXA_object 3 none :: A9) 3 σ [.ref (ad 0), .int (fI n), .int (fI len)] (f_QV (fun σ1 => σ1 = x_bring σ n len) (xG D cA ad)) := by
  refine f_enter (by decide +kernel) hJ rfl (Nat.le_of_ble_eq_true rfl) ?_
  intro z hzl hR C hRt hLk hEz
  subst hzl
  have hRR : 3 ≤ z.2.2.2.1.frames ∧ 40 * 3 ≤ z.2.2.2.1.locals ∧ 0 ≤ z.2.2.2.1.cells ∧ 0 ≤ z.2.2.2.1.slots := by rw [hR]; exact ⟨Nat.le_refl _, Nat.le_refl _, Nat.zero_le _, Nat.zero_le _⟩
  refine v_iload_n C dXA_object_0 rfl rfl ?_
  refine v_cSI (n := 1) C (xE_ok _) hEz hR (kX_XA_isNumber _ D cA ad hJ σ (n) (by omega)) dXA_object_1 gXA_55 (by decide +kernel) (by decide) (by decide) rfl (Nat.le_of_ble_eq_true rfl) rfl ⟨rfl, rfl⟩ (fun r1 σ1 hp1 => ?_)
  obtain ⟨e1, e2⟩ := hp1
  subst σ1
  rw [if_pos (by omega)] at e1
  subst r1
  refine v_if_ne (tgt := 17) C dXA_object_4 (by decide) (by omega) (fun hc1 => ?_) (fun hc1 => ?_)
  · refine v_iload_n C dXA_object_17 rfl rfl ?_
    refine v_if_lt (tgt := 27) C dXA_object_18 (by decide) (by omega) (fun hc2 => ?_) (fun hc2 => ?_)
    · exfalso; omega
    · refine v_iload_n C dXA_object_21 rfl rfl ?_
      refine v_bipush C dXA_object_22 (by decide +kernel) ?_
      refine v_icmp_le (tgt := 37) C dXA_object_24 (by decide) (by omega) (by omega) (fun hc3 => ?_) (fun hc3 => ?_)
      · refine v_aload_n C dXA_object_37 rfl rfl ?_
        refine v_getR (k := 0) (q := 0) C dXA_object_38 (by show (0 : Nat) < 383; decide) rfl rfl (by decide) rfl inXA lXA_10 rfl ?_
        refine v_iload_n C dXA_object_41 rfl rfl ?_
        refine v_iload_n C dXA_object_42 rfl rfl ?_
        refine v_cVV (k := 1) (n := 2) C (xE_ok _) hEz hR (kX_XS_bring _ D cA ad hJ σ n len hn hl) dXA_object_43 (by show (1 : Nat) < 383; decide) rfl rfl gXA_71 (by decide +kernel) (by decide) (by decide) rfl (Nat.le_of_ble_eq_true rfl) rfl ⟨rfl, rfl⟩ (fun σ1 hp1 => ?_)
        subst σ1
        exact v_vret C hRt hLk dXA_object_46 rfl
      · exfalso; omega
  · exfalso; omega
set_option maxRecDepth 100000 in
set_option maxHeartbeats 4000000 in
/-- poke -/
theorem kX_XA_poke (l : Launch) (D : va_G) (cA : Nat → ClassId) (ad : Nat → Nat) (hJ : f_J (xG D cA ad)) (σ : fS) (i b : Int) (hb : -128 ≤ b ∧ b ≤ 127) (hc : 0 ≤ σ.1 8 1 ∧ σ.1 8 1 ≤ 12000) (h9 : ∀ i, -128 ≤ σ.2 9 i ∧ σ.2 9 i ≤ 127) (hg : 0 ≤ i ∧ i < σ.1 8 1) : f_M l (xG D cA ad) (xE (xG D cA ad)) yXA_poke (Cond.code yXA_poke cXA_poke 4 (some .byte) :: A9) 1 σ [.ref (ad 0), .int (fI i), .int (fI b)] (f_QI (fun r σ1 => r = σ.2 9 i.toNat ∧ σ1 = f_p1 (f_p2 σ 9 i.toNat b) 8 2 1) (xG D cA ad)) := by
  refine f_enter (by decide +kernel) hJ rfl (Nat.le_of_ble_eq_true rfl) ?_
  intro z hzl hR C hRt hLk hEz
  subst hzl
  have hRR : 1 ≤ z.2.2.2.1.frames ∧ 40 * 1 ≤ z.2.2.2.1.locals ∧ 0 ≤ z.2.2.2.1.cells ∧ 0 ≤ z.2.2.2.1.slots := by rw [hR]; exact ⟨Nat.le_refl _, Nat.le_refl _, Nat.zero_le _, Nat.zero_le _⟩
  refine v_aload_n C dXA_poke_0 rfl rfl ?_
  refine v_getR (k := 0) (q := 1) C dXA_poke_1 (by show (0 : Nat) < 383; decide) rfl rfl (by decide) rfl inXA lXA_19 rfl ?_
  refine v_iload_n C dXA_poke_4 rfl rfl ?_
  refine v_cVI (k := 8) (n := 1) C (xE_ok _) hEz hR (kX_XF_has _ D cA ad hJ σ (i) (by omega) hc) dXA_poke_5 (by show (8 : Nat) < 383; decide) rfl rfl gXA_159 (by decide +kernel) (by decide) (by decide) rfl (Nat.le_of_ble_eq_true rfl) rfl ⟨rfl, rfl⟩ (fun r1 σ1 hp1 => ?_)
  obtain ⟨e1, e2⟩ := hp1
  subst σ1
  rw [if_pos (by omega)] at e1
  subst r1
  refine v_if_ne (tgt := 21) C dXA_poke_8 (by decide) (by omega) (fun hc1 => ?_) (fun hc1 => ?_)
  · refine v_aload_n C dXA_poke_21 rfl rfl ?_
    refine v_getR (k := 0) (q := 1) C dXA_poke_22 (by show (0 : Nat) < 383; decide) rfl rfl (by decide) rfl inXA lXA_19 rfl ?_
    refine v_getR (k := 8) (q := 0) C dXA_poke_25 (by show (8 : Nat) < 383; decide) rfl rfl (by decide) rfl inXF lXA_164 rfl ?_
    refine v_iload_n C dXA_poke_28 rfl rfl ?_
    have hb2 := h9 (i).toNat
    refine v_bald (k := 9) (v := σ.2 9 (i).toNat) C dXA_poke_29 (by show (9 : Nat) < 383; decide) rfl rfl (by omega) (by decide) rfl ?_
    refine v_istore_n C dXA_poke_30 rfl (by decide) ?_
    refine v_aload_n C dXA_poke_31 rfl rfl ?_
    refine v_getR (k := 0) (q := 1) C dXA_poke_32 (by show (0 : Nat) < 383; decide) rfl rfl (by decide) rfl inXA lXA_19 rfl ?_
    refine v_getR (k := 8) (q := 0) C dXA_poke_35 (by show (8 : Nat) < 383; decide) rfl rfl (by decide) rfl inXF lXA_164 rfl ?_
    refine v_iload_n C dXA_poke_38 rfl rfl ?_
    refine v_iload_n C dXA_poke_39 rfl rfl ?_
    refine v_bast (k := 9) C dXA_poke_40 (by show (9 : Nat) < 383; decide) rfl rfl (by omega) (by decide) (by omega) ?_
    refine v_aload_n C dXA_poke_41 rfl rfl ?_
    refine v_getR (k := 0) (q := 1) C dXA_poke_42 (by show (0 : Nat) < 383; decide) rfl rfl (by decide) rfl inXA lXA_19 rfl ?_
    refine v_iconst C dXA_poke_45 ?_
    refine v_putI (k := 8) (q := 2) C dXA_poke_46 (by show (8 : Nat) < 383; decide) rfl rfl (by decide) rfl inXF tyXF_ok nmXF lXA_132 rfl rfl rfl (fN_bool (by omega)) (fF_bool (by omega)) ?_
    refine v_iload_n C dXA_poke_49 rfl rfl ?_
    exact v_zret C hRt hLk dXA_poke_50 (fN_byte (by omega) (by omega)) ⟨rfl, rfl⟩
  · exfalso; omega
end
section
section XSW
variable {z : fZ} {G : fG} {cc : ByteArray} {nL : Nat} {own : String} {Q : State → Prop} {kc ks : Nat} {σ : fS} {pc : Nat} {lv : List (Option Value)} {st : List Value}
end XSW
/-- a table's rows are set anew -/
def x_reset (σ : fS) (r : Nat) (v : Int) : fS := x_fill (x_fill σ (r + 1) 0 41 v) (r + 2) 0 41 0
/-- a part's rows are laid over a table's, those of the objects below k -/
def x_layk (σ : fS) (r p k : Nat) : fS := (σ.1, fun a b => if (1 ≤ b ∧ b < k) ∧ σ.2 (p + 1) b ≠ -2 then (if a = r + 1 then σ.2 (p + 1) b else if a = r + 2 then σ.2 (p + 2) b else σ.2 a b) else σ.2 a b)
def x_lay (σ : fS) (r p : Nat) : fS := f_p1 (f_p1 (x_layk σ r p 41) r 2 (σ.1 p 2)) r 3 (σ.1 p 3)
theorem x_layk_o (σ : fS) (r p k a b : Nat) (h : a ≠ r + 1 ∧ a ≠ r + 2) : (x_layk σ r p k).2 a b = σ.2 a b := by
  show (if (1 ≤ b ∧ b < k) ∧ σ.2 (p + 1) b ≠ -2 then (if a = r + 1 then σ.2 (p + 1) b else if a = r + 2 then σ.2 (p + 2) b else σ.2 a b) else σ.2 a b) = _
  rw [if_neg h.1, if_neg h.2]
  split <;> rfl
theorem x_layk_1 (σ : fS) (r p : Nat) : σ = x_layk σ r p 1 := fS_ext (fun _ _ => rfl) (fun a b => by show _ = if (1 ≤ b ∧ b < 1) ∧ _ then _ else σ.2 a b; rw [if_neg (by omega)])
theorem x_layk_n (σ : fS) (r p k : Nat) (h : σ.2 (p + 1) k = -2) : x_layk σ r p k = x_layk σ r p (k + 1) := by
  refine fS_ext (fun _ _ => rfl) (fun a b => ?_)
  show (if (1 ≤ b ∧ b < k) ∧ σ.2 (p + 1) b ≠ -2 then _ else σ.2 a b) = if (1 ≤ b ∧ b < k + 1) ∧ σ.2 (p + 1) b ≠ -2 then _ else σ.2 a b
  by_cases hb : b = k
  · subst hb; rw [if_neg (by omega), if_neg (by omega)]
  · by_cases h9 : (1 ≤ b ∧ b < k) ∧ σ.2 (p + 1) b ≠ -2
    · rw [if_pos h9, if_pos (show (1 ≤ b ∧ b < k + 1) ∧ σ.2 (p + 1) b ≠ -2 from ⟨by omega, h9.2⟩)]
    · rw [if_neg h9, if_neg (show ¬ ((1 ≤ b ∧ b < k + 1) ∧ σ.2 (p + 1) b ≠ -2) by omega)]
theorem x_layk_s (σ : fS) (r p k : Nat) (hk : 1 ≤ k) (h : σ.2 (p + 1) k ≠ -2) : f_p2 (f_p2 (x_layk σ r p k) (r + 1) k (σ.2 (p + 1) k)) (r + 2) k (σ.2 (p + 2) k) = x_layk σ r p (k + 1) := by
  refine fS_ext (fun _ _ => rfl) (fun a b => ?_)
  rw [p2_2, p2_2]
  show _ = if (1 ≤ b ∧ b < k + 1) ∧ σ.2 (p + 1) b ≠ -2 then (if a = r + 1 then σ.2 (p + 1) b else if a = r + 2 then σ.2 (p + 2) b else σ.2 a b) else σ.2 a b
  by_cases hb : b = k
  · subst hb
    rw [if_pos (show (1 ≤ b ∧ b < b + 1) ∧ σ.2 (p + 1) b ≠ -2 from ⟨by omega, h⟩)]
    by_cases g2 : a = r + 2
    · subst g2; rw [if_pos ⟨rfl, rfl⟩, if_neg (by omega), if_pos rfl]
    · rw [if_neg (by omega)]
      by_cases g1 : a = r + 1
      · subst g1; rw [if_pos ⟨rfl, rfl⟩, if_pos rfl]
      · rw [if_neg (by omega), if_neg g1, if_neg g2]
        exact x_layk_o σ r p b a b ⟨g1, g2⟩
  · rw [if_neg (by omega), if_neg (by omega)]
    show (if (1 ≤ b ∧ b < k) ∧ σ.2 (p + 1) b ≠ -2 then (if a = r + 1 then σ.2 (p + 1) b else if a = r + 2 then σ.2 (p + 2) b else σ.2 a b) else σ.2 a b) = _
    by_cases h9 : (1 ≤ b ∧ b < k) ∧ σ.2 (p + 1) b ≠ -2
    · rw [if_pos h9, if_pos (show (1 ≤ b ∧ b < k + 1) ∧ σ.2 (p + 1) b ≠ -2 from ⟨by omega, h9.2⟩)]
    · rw [if_neg h9, if_neg (show ¬ ((1 ≤ b ∧ b < k + 1) ∧ σ.2 (p + 1) b ≠ -2) by omega)]
/-- whether a table has a row of object i -/
def x_has (σ : fS) (r i : Nat) : Int := if σ.2 (r + 1) i = -2 then 0 else 1
/-- rows of another table are copied -/
def x_copy (σ : fS) (r o : Nat) : fS := f_pa (f_pa σ (r + 1) (fun q => if (0 : Int).toNat ≤ q ∧ q < (0 : Int).toNat + (41 : Int).toNat then σ.2 (o + 1) ((0 : Int).toNat + (q - (0 : Int).toNat)) else σ.2 (r + 1) q)) (r + 2) (fun q => if (0 : Int).toNat ≤ q ∧ q < (0 : Int).toNat + (41 : Int).toNat then σ.2 (o + 2) ((0 : Int).toNat + (q - (0 : Int).toNat)) else σ.2 (r + 2) q)
set_option maxRecDepth 100000 in
set_option maxHeartbeats 4000000 in
/-- reset -/
theorem kX_XT_reset (l : Launch) (D : va_G) (cA : Nat → ClassId) (ad : Nat → Nat) (hJ : f_J (xG D cA ad)) (σ : fS) (r : Nat) (hr : r + 2 < 383) (hY0 : xY r = .inl (4, 4, fXT r)) (hY1 : xY (r + 1) = .inr (.inl (0, 41))) (hY2 : xY (r + 2) = .inr (.inl (0, 41))) (v : Int) : f_M l (xG D cA ad) (xE (xG D cA ad)) yXT_reset (Cond.code yXT_reset cXT_reset 2 none :: A9) 1 σ [.ref (ad (r)), .int (fI v)] (f_QV (fun σ1 => σ1 = x_reset σ r v) (xG D cA ad)) := by
  refine f_enter (by decide +kernel) hJ rfl (Nat.le_of_ble_eq_true rfl) ?_
  intro z hzl hR C hRt hLk hEz
  subst hzl
  have hRR : 1 ≤ z.2.2.2.1.frames ∧ 40 * 1 ≤ z.2.2.2.1.locals ∧ 0 ≤ z.2.2.2.1.cells ∧ 0 ≤ z.2.2.2.1.slots := by rw [hR]; exact ⟨Nat.le_refl _, Nat.le_refl _, Nat.zero_le _, Nat.zero_le _⟩
  refine v_aload_n C dXT_reset_0 rfl rfl ?_
  refine v_getR (k := r) (q := 0) C dXT_reset_1 (by show (r : Nat) < 383; omega) (hY0) rfl (by decide) rfl inXT lXT_9 rfl ?_
  refine v_iload_n C dXT_reset_4 rfl rfl ?_
  refine v_cSV (n := 2) C (xE_ok _) hEz hR (kX_XJ_fillI _ D cA ad hJ _ (r + 1) 41 (v) (by omega) (hY1) (by decide)) dXT_reset_5 gXT_18 (by decide +kernel) (by decide) (by decide) rfl (Nat.le_of_ble_eq_true rfl) rfl ⟨rfl, rfl⟩ (fun σ1 hp1 => ?_)
  subst σ1
  refine v_aload_n C dXT_reset_8 rfl rfl ?_
  refine v_getR (k := r) (q := 1) C dXT_reset_9 (by show (r : Nat) < 383; omega) (hY0) rfl (by decide) rfl inXT lXT_15 rfl ?_
  refine v_iconst C dXT_reset_12 ?_
  refine v_cSV (n := 2) C (xE_ok _) hEz hR (kX_XJ_fillI _ D cA ad hJ _ (r + 2) 41 (0) (by omega) (hY2) (by decide)) dXT_reset_13 gXT_18 (by decide +kernel) (by decide) (by decide) rfl (Nat.le_of_ble_eq_true rfl) rfl ⟨rfl, rfl⟩ (fun σ1 hp1 => ?_)
  subst σ1
  exact v_vret C hRt hLk dXT_reset_16 rfl
set_option maxRecDepth 100000 in
set_option maxHeartbeats 4000000 in
/-- countRows -/
theorem kX_XT_countRows (l : Launch) (D : va_G) (cA : Nat → ClassId) (ad : Nat → Nat) (hJ : f_J (xG D cA ad)) (σ : fS) (r : Nat) (hr : r + 2 < 383) (hY0 : xY r = .inl (4, 4, fXT r)) (hY1 : xY (r + 1) = .inr (.inl (0, 41))) (hY2 : xY (r + 2) = .inr (.inl (0, 41))) (hb : ∀ i, -2 ≤ σ.2 (r + 1) i ∧ σ.2 (r + 1) i ≤ 99999) : f_M l (xG D cA ad) (xE (xG D cA ad)) yXT_countRows (Cond.code yXT_countRows cXT_countRows 3 (some .int) :: A9) 0 σ [.ref (ad (r))] (f_QI (fun r1 σ1 => r1 = m_cnt (x_has σ r) 40 ∧ σ1 = σ) (xG D cA ad)) := by
  refine f_enter (by decide +kernel) hJ rfl (Nat.le_of_ble_eq_true rfl) ?_
  intro z hzl hR C hRt hLk hEz
  subst hzl
  have hRR : 0 ≤ z.2.2.2.1.frames ∧ 40 * 0 ≤ z.2.2.2.1.locals ∧ 0 ≤ z.2.2.2.1.cells ∧ 0 ≤ z.2.2.2.1.slots := by rw [hR]; exact ⟨Nat.le_refl _, Nat.le_refl _, Nat.zero_le _, Nat.zero_le _⟩
  have L : ∀ (m k : Nat), m + k = 40 → fv z (xG D cA ad) 3 (f_R z (xG D cA ad) (f_QI (fun r1 σ1 => r1 = m_cnt (x_has σ r) 40 ∧ σ1 = σ) (xG D cA ad))) 0 0 σ 4 [some (.ref (ad r)), some (.int (fI (m_cnt (x_has σ r) k))), some (.int (fI ((k : Int) + 1)))] [] := by
    intro m
    induction m with
    | zero =>
      intro k hk
      have hcl := m_cnt_le (x_has σ r) k
      have hk40 : k = 40 := by omega
      subst hk40
      refine v_iload_n C dXT_countRows_4 rfl rfl ?_
      refine v_bipush C dXT_countRows_5 (by decide +kernel) ?_
      refine v_icmp_gt (tgt := 30) C dXT_countRows_7 (by decide) (by omega) (by omega) (fun hc1 => ?_) (fun hc1 => ?_)
      · refine v_iload_n C dXT_countRows_30 rfl rfl ?_
        exact v_iret C hRt hLk dXT_countRows_31 ⟨rfl, rfl⟩
      · exfalso; omega
    | succ m ih =>
      intro k hk
      have hcl := m_cnt_le (x_has σ r) k
      have hkt : ((k : Int) + 1).toNat = k + 1 := by omega
      have hcs : m_cnt (x_has σ r) (k + 1) = m_cnt (x_has σ r) k + (if (x_has σ r) (k + 1) = 1 then 1 else 0) := rfl
      have hkx : σ.2 (r + 1) ((k : Int) + 1).toNat = σ.2 (r + 1) (k + 1) := by rw [hkt]
      have hbb := hb (k + 1)
      have hxd : x_has σ r (k + 1) = if σ.2 (r + 1) (k + 1) = -2 then 0 else 1 := rfl
      refine v_iload_n C dXT_countRows_4 rfl rfl ?_
      refine v_bipush C dXT_countRows_5 (by decide +kernel) ?_
      refine v_icmp_gt (tgt := 30) C dXT_countRows_7 (by decide) (by omega) (by omega) (fun hc2 => ?_) (fun hc2 => ?_)
      · exfalso; omega
      · refine v_aload_n C dXT_countRows_10 rfl rfl ?_
        refine v_getR (k := r) (q := 0) C dXT_countRows_11 (by show (r : Nat) < 383; omega) (hY0) rfl (by decide) rfl inXT lXT_9 rfl ?_
        refine v_iload_n C dXT_countRows_14 rfl rfl ?_
        refine v_iald (k := (r + 1)) (v := σ.2 (r + 1) (((k : Int) + 1)).toNat) C dXT_countRows_15 (by show ((r + 1) : Nat) < 383; omega) (hY1) rfl (by omega) (by decide) rfl ?_
        refine v_bipush C dXT_countRows_16 (by decide +kernel) ?_
        refine v_icmp_eq (tgt := 24) C dXT_countRows_18 (by decide) (by omega) (by omega) (fun hc3 => ?_) (fun hc3 => ?_)
        · refine v_iinc C dXT_countRows_24 rfl (by decide) ?_
          refine v_goto (tgt := 4) C dXT_countRows_27 (by decide) ?_
          exact v_lv (by rw [hcs, hxd]; (first | rw [if_pos (show σ.2 (r + 1) (k + 1) = -2 by omega), if_neg (by decide), Int.add_zero] | rw [if_neg (show ¬ σ.2 (r + 1) (k + 1) = -2 by omega), if_pos rfl]); rfl) (ih (k + 1) (by omega))
        · refine v_iinc C dXT_countRows_21 rfl (by decide) ?_
          refine v_iinc C dXT_countRows_24 rfl (by decide) ?_
          refine v_goto (tgt := 4) C dXT_countRows_27 (by decide) ?_
          exact v_lv (by rw [hcs, hxd]; (first | rw [if_pos (show σ.2 (r + 1) (k + 1) = -2 by omega), if_neg (by decide), Int.add_zero] | rw [if_neg (show ¬ σ.2 (r + 1) (k + 1) = -2 by omega), if_pos rfl]); rfl) (ih (k + 1) (by omega))
  refine v_iconst C dXT_countRows_0 ?_
  refine v_istore_n C dXT_countRows_1 rfl (by decide) ?_
  refine v_iconst C dXT_countRows_2 ?_
  refine v_istore_n C dXT_countRows_3 rfl (by decide) ?_
  exact v_lv rfl (L 40 0 (by omega))
set_option maxRecDepth 100000 in
set_option maxHeartbeats 4000000 in
/-- lay -/
theorem kX_XT_lay (l : Launch) (D : va_G) (cA : Nat → ClassId) (ad : Nat → Nat) (hJ : f_J (xG D cA ad)) (σ : fS) (r : Nat) (hr : r + 2 < 383) (hY0 : xY r = .inl (4, 4, fXT r)) (hY1 : xY (r + 1) = .inr (.inl (0, 41))) (hY2 : xY (r + 2) = .inr (.inl (0, 41))) (p : Nat) (hp : p + 2 < 383) (hZ0 : xY p = .inl (4, 4, fXT p)) (hZ1 : xY (p + 1) = .inr (.inl (0, 41))) (hZ2 : xY (p + 2) = .inr (.inl (0, 41))) (hrp : r + 2 < p ∨ p + 2 < r) (hb : ∀ i, -2 ≤ σ.2 (p + 1) i ∧ σ.2 (p + 1) i ≤ 99999) : f_M l (xG D cA ad) (xE (xG D cA ad)) yXT_lay (Cond.code yXT_lay cXT_lay 3 none :: A9) 0 σ [.ref (ad (r)), .ref (ad (p))] (f_QV (fun σ1 => σ1 = x_lay σ r p) (xG D cA ad)) := by
  refine f_enter (by decide +kernel) hJ rfl (Nat.le_of_ble_eq_true rfl) ?_
  intro z hzl hR C hRt hLk hEz
  subst hzl
  have hRR : 0 ≤ z.2.2.2.1.frames ∧ 40 * 0 ≤ z.2.2.2.1.locals ∧ 0 ≤ z.2.2.2.1.cells ∧ 0 ≤ z.2.2.2.1.slots := by rw [hR]; exact ⟨Nat.le_refl _, Nat.le_refl _, Nat.zero_le _, Nat.zero_le _⟩
  have L : ∀ (m k : Nat), m + k = 41 → 1 ≤ k → fv z (xG D cA ad) 3 (f_R z (xG D cA ad) (f_QV (fun σ1 => σ1 = x_lay σ r p) (xG D cA ad))) 0 0 (x_layk σ r p k) 2 [some (.ref (ad r)), some (.ref (ad p)), some (.int (fI (k : Int)))] [] := by
    intro m
    induction m with
    | zero =>
      intro k hk hk1
      have hk41 : k = 41 := by omega
      subst hk41
      refine v_iload_n C dXT_lay_2 rfl rfl ?_
      refine v_bipush C dXT_lay_3 (by decide +kernel) ?_
      refine v_icmp_gt (tgt := 49) C dXT_lay_5 (by decide) (by omega) (by omega) (fun hc1 => ?_) (fun hc1 => ?_)
      · refine v_aload_n C dXT_lay_49 rfl rfl ?_
        refine v_aload_n C dXT_lay_50 rfl rfl ?_
        refine v_getI (k := p) (q := 2) (v := σ.1 p 2) C dXT_lay_51 (by show (p : Nat) < 383; omega) hZ0 rfl (by decide) rfl inXT lXT_30 rfl rfl ?_
        refine v_putI (k := r) (q := 2) C dXT_lay_54 (by show (r : Nat) < 383; omega) (hY0) rfl (by decide) rfl inXT tyXT_ok nmXT lXT_30 rfl rfl rfl rfl rfl ?_
        refine v_aload_n C dXT_lay_57 rfl rfl ?_
        refine v_aload_n C dXT_lay_58 rfl rfl ?_
        refine v_getI (k := p) (q := 3) (v := σ.1 p 3) C dXT_lay_59 (by show (p : Nat) < 383; omega) hZ0 rfl (by decide) rfl inXT lXT_34 rfl (by rw [p1_1, if_neg (by omega)]; rfl) ?_
        refine v_putI (k := r) (q := 3) C dXT_lay_62 (by show (r : Nat) < 383; omega) (hY0) rfl (by decide) rfl inXT tyXT_ok nmXT lXT_34 rfl rfl rfl rfl rfl ?_
        exact v_vret C hRt hLk dXT_lay_65 rfl
      · exfalso; omega
    | succ m ih =>
      intro k hk hk1
      have hkn : ((k : Int)).toNat = k := by omega
      have hbb := hb k
      have hkx : σ.2 (p + 1) ((k : Int)).toNat = σ.2 (p + 1) k := by rw [hkn]
      refine v_iload_n C dXT_lay_2 rfl rfl ?_
      refine v_bipush C dXT_lay_3 (by decide +kernel) ?_
      refine v_icmp_gt (tgt := 49) C dXT_lay_5 (by decide) (by omega) (by omega) (fun hc2 => ?_) (fun hc2 => ?_)
      · exfalso; omega
      · refine v_aload_n C dXT_lay_8 rfl rfl ?_
        refine v_getR (k := p) (q := 0) C dXT_lay_9 (by show (p : Nat) < 383; omega) hZ0 rfl (by decide) rfl inXT lXT_9 rfl ?_
        refine v_iload_n C dXT_lay_12 rfl rfl ?_
        refine v_iald (k := (p + 1)) (v := σ.2 (p + 1) ((k : Int)).toNat) C dXT_lay_13 (by show ((p + 1) : Nat) < 383; omega) hZ1 rfl (by omega) (by decide) (by (try rw [p2_2, if_neg (by omega)]); exact x_layk_o _ _ _ _ _ _ (by omega)) ?_
        refine v_bipush C dXT_lay_14 (by decide +kernel) ?_
        refine v_icmp_eq (tgt := 43) C dXT_lay_16 (by decide) (by omega) (by omega) (fun hc3 => ?_) (fun hc3 => ?_)
        · refine v_iinc C dXT_lay_43 rfl (by decide) ?_
          refine v_goto (tgt := 2) C dXT_lay_46 (by decide) ?_
          exact v_st (by first | exact x_layk_n σ r p k (by omega) | (simp only [hkn]; exact x_layk_s σ r p k hk1 (by omega))) (ih (k + 1) (by omega) (by omega))
        · refine v_aload_n C dXT_lay_19 rfl rfl ?_
          refine v_getR (k := r) (q := 0) C dXT_lay_20 (by show (r : Nat) < 383; omega) (hY0) rfl (by decide) rfl inXT lXT_9 rfl ?_
          refine v_iload_n C dXT_lay_23 rfl rfl ?_
          refine v_aload_n C dXT_lay_24 rfl rfl ?_
          refine v_getR (k := p) (q := 0) C dXT_lay_25 (by show (p : Nat) < 383; omega) hZ0 rfl (by decide) rfl inXT lXT_9 rfl ?_
          refine v_iload_n C dXT_lay_28 rfl rfl ?_
          refine v_iald (k := (p + 1)) (v := σ.2 (p + 1) ((k : Int)).toNat) C dXT_lay_29 (by show ((p + 1) : Nat) < 383; omega) hZ1 rfl (by omega) (by decide) (by (try rw [p2_2, if_neg (by omega)]); exact x_layk_o _ _ _ _ _ _ (by omega)) ?_
          refine v_iast (k := (r + 1)) C dXT_lay_30 (by show ((r + 1) : Nat) < 383; omega) (hY1) rfl (by omega) (by decide) ?_
          refine v_aload_n C dXT_lay_31 rfl rfl ?_
          refine v_getR (k := r) (q := 1) C dXT_lay_32 (by show (r : Nat) < 383; omega) (hY0) rfl (by decide) rfl inXT lXT_15 rfl ?_
          refine v_iload_n C dXT_lay_35 rfl rfl ?_
          refine v_aload_n C dXT_lay_36 rfl rfl ?_
          refine v_getR (k := p) (q := 1) C dXT_lay_37 (by show (p : Nat) < 383; omega) hZ0 rfl (by decide) rfl inXT lXT_15 rfl ?_
          refine v_iload_n C dXT_lay_40 rfl rfl ?_
          refine v_iald (k := (p + 2)) (v := σ.2 (p + 2) ((k : Int)).toNat) C dXT_lay_41 (by show ((p + 2) : Nat) < 383; omega) hZ2 rfl (by omega) (by decide) (by (try rw [p2_2, if_neg (by omega)]); exact x_layk_o _ _ _ _ _ _ (by omega)) ?_
          refine v_iast (k := (r + 2)) C dXT_lay_42 (by show ((r + 2) : Nat) < 383; omega) (hY2) rfl (by omega) (by decide) ?_
          refine v_iinc C dXT_lay_43 rfl (by decide) ?_
          refine v_goto (tgt := 2) C dXT_lay_46 (by decide) ?_
          exact v_st (by first | exact x_layk_n σ r p k (by omega) | (simp only [hkn]; exact x_layk_s σ r p k hk1 (by omega))) (ih (k + 1) (by omega) (by omega))
  refine v_iconst C dXT_lay_0 ?_
  refine v_istore_n C dXT_lay_1 rfl (by decide) ?_
  exact v_st (x_layk_1 σ r p) (L 40 1 (by omega) (by omega))
end
section
/-- a byte goes behind the draft's -/
def x_put (σ : fS) (v : Int) : fS := f_p1 (f_p2 σ 375 (σ.1 374 6).toNat v) 374 6 (σ.1 374 6 + 1)
def x_puts (σ : fS) (l : List Int) : fS := l.foldl x_put σ
theorem x_puts_app (σ : fS) (a b : List Int) : x_puts σ (a ++ b) = x_puts (x_puts σ a) b := List.foldl_append
theorem x_puts_snoc (σ : fS) (a : List Int) (x : Int) : x_put (x_puts σ a) x = x_puts σ (a ++ [x]) := by rw [x_puts_app]; rfl
theorem x_put_1 (σ : fS) (v : Int) (a b : Nat) : (x_put σ v).1 a b = if a = 374 ∧ b = 6 then σ.1 374 6 + 1 else σ.1 a b := by
  unfold x_put
  rw [p1_1]
  rfl
theorem x_put_2 (σ : fS) (v : Int) (a b : Nat) (h : a ≠ 375) : (x_put σ v).2 a b = σ.2 a b := by
  unfold x_put
  rw [p1_2, p2_2, if_neg (by omega)]
theorem x_puts_1 (l : List Int) : ∀ (σ : fS) (a b : Nat), (x_puts σ l).1 a b = if a = 374 ∧ b = 6 then σ.1 374 6 + l.length else σ.1 a b := by
  induction l with
  | nil =>
    intro σ a b
    show σ.1 a b = _
    split
    · rename_i h; rw [h.1, h.2]; simp
    · rfl
  | cons x r ih =>
    intro σ a b
    show (x_puts (x_put σ x) r).1 a b = _
    rw [ih]
    simp only [x_put_1, and_self, if_true, List.length_cons]
    by_cases h : a = 374 ∧ b = 6
    · rw [if_pos h, if_pos h]; omega
    · rw [if_neg h, if_neg h, if_neg h]
theorem x_puts_u (σ : fS) (l : List Int) : (x_puts σ l).1 374 6 = σ.1 374 6 + l.length := by rw [x_puts_1, if_pos ⟨rfl, rfl⟩]
theorem x_puts_2 (l : List Int) : ∀ (σ : fS) (a b : Nat), a ≠ 375 → (x_puts σ l).2 a b = σ.2 a b := by
  induction l with
  | nil => intro σ a b _; rfl
  | cons x r ih =>
    intro σ a b h
    show (x_puts (x_put σ x) r).2 a b = _
    rw [ih _ _ _ h, x_put_2 _ _ _ _ h]
theorem x_dl1 (v : Int) (j : Nat) (h0 : 0 ≤ v ∧ v ≤ 99999) (hj : j ≤ 3) (h : (10 : Int) ^ (j + 1) ≤ v) : j + 1 ≤ dl v := by
  unfold dl
  rcases (show j = 0 ∨ j = 1 ∨ j = 2 ∨ j = 3 by omega) with rfl | rfl | rfl | rfl <;> (simp only [Nat.reduceAdd, Int.reducePow] at h; (repeat' split) <;> omega)
theorem x_dl2 (v : Int) (j : Nat) (hj : j ≤ 3) (h : v < (10 : Int) ^ (j + 1)) : dl v ≤ j := by
  unfold dl
  rcases (show j = 0 ∨ j = 1 ∨ j = 2 ∨ j = 3 by omega) with rfl | rfl | rfl | rfl <;> (simp only [Nat.reduceAdd, Int.reducePow] at h; (repeat' split) <;> omega)
theorem x_dg_put (v : Int) (j : Nat) (pre : List Int) (h0 : 0 ≤ v ∧ v ≤ 99999) (hj : j ≤ 3) (hp : (10 : Int) ^ (j + 1) ≤ v) (h : (pre = [] ∧ dl v ≤ j + 1) ∨ dig v = pre ++ dg (j + 1) v) : dig v = (pre ++ [48 + v / 10 ^ (j + 1) % 10]) ++ dg j v := by
  have h1 := x_dl1 v j h0 hj hp
  rcases h with ⟨rfl, h⟩ | h
  · show dg (dl v) v = _
    rw [show dl v = j + 1 by omega]
    rfl
  · rw [h, List.append_assoc]
    rfl
theorem x_dg_no (v : Int) (j : Nat) (pre : List Int) (hj : j ≤ 3) (hp : v < (10 : Int) ^ (j + 1)) (h : (pre = [] ∧ dl v ≤ j + 1) ∨ dig v = pre ++ dg (j + 1) v) : pre = [] ∧ dl v ≤ j := by
  have h1 := x_dl2 v j hj hp
  rcases h with ⟨rfl, h⟩ | h
  · exact ⟨rfl, h1⟩
  · exfalso
    have h2 := congrArg List.length h
    rw [List.length_append, dg_len] at h2
    unfold dig at h2
    rw [dg_len] at h2
    omega
theorem x_dg_end (v : Int) (pre : List Int) (h : (pre = [] ∧ dl v ≤ 0) ∨ dig v = pre ++ dg 0 v) : pre ++ [48 + v % 10] = dig v := by
  rcases h with ⟨rfl, h⟩ | h
  · show [48 + v % 10] = dg (dl v) v
    rw [show dl v = 0 by omega]
    rfl
  · rw [h]; rfl
theorem x_pre_len (v : Int) (j : Nat) (pre : List Int) (h : (pre = [] ∧ dl v ≤ j) ∨ dig v = pre ++ dg j v) : pre.length ≤ 4 := by
  rcases h with ⟨rfl, _⟩ | h
  · simp
  · have h2 := congrArg List.length h
    rw [List.length_append, dg_len] at h2
    have := dig_len v
    omega
set_option maxRecDepth 100000 in
set_option maxHeartbeats 4000000 in
/-- put -/
theorem kX_XD_put (l : Launch) (D : va_G) (cA : Nat → ClassId) (ad : Nat → Nat) (hJ : f_J (xG D cA ad)) (σ : fS) (v : Int) (hv : -128 ≤ v ∧ v ≤ 127) (hu : 0 ≤ σ.1 374 6 ∧ σ.1 374 6 < 6000) : f_M l (xG D cA ad) (xE (xG D cA ad)) yXD_put (Cond.code yXD_put cXD_put 2 none :: A9) 0 σ [.ref (ad 374), .int (fI v)] (f_QV (fun σ1 => σ1 = x_put σ v) (xG D cA ad)) := by
  refine f_enter (by decide +kernel) hJ rfl (Nat.le_of_ble_eq_true rfl) ?_
  intro z hzl hR C hRt hLk hEz
  subst hzl
  have hRR : 0 ≤ z.2.2.2.1.frames ∧ 40 * 0 ≤ z.2.2.2.1.locals ∧ 0 ≤ z.2.2.2.1.cells ∧ 0 ≤ z.2.2.2.1.slots := by rw [hR]; exact ⟨Nat.le_refl _, Nat.le_refl _, Nat.zero_le _, Nat.zero_le _⟩
  refine v_aload_n C dXD_put_0 rfl rfl ?_
  refine v_getI (k := 374) (q := 6) (v := σ.1 374 6) C dXD_put_1 (by show (374 : Nat) < 383; decide) rfl rfl (by decide) rfl inXD lXD_34 rfl rfl ?_
  refine v_sipush C dXD_put_4 (by decide +kernel) ?_
  refine v_icmp_ge (tgt := 31) C dXD_put_7 (by decide) (by omega) (by omega) (fun hc1 => ?_) (fun hc1 => ?_)
  · exfalso; omega
  · refine v_aload_n C dXD_put_10 rfl rfl ?_
    refine v_getR (k := 374) (q := 1) C dXD_put_11 (by show (374 : Nat) < 383; decide) rfl rfl (by decide) rfl inXD lXD_9 rfl ?_
    refine v_aload_n C dXD_put_14 rfl rfl ?_
    refine v_getI (k := 374) (q := 6) (v := σ.1 374 6) C dXD_put_15 (by show (374 : Nat) < 383; decide) rfl rfl (by decide) rfl inXD lXD_34 rfl rfl ?_
    refine v_iload_n C dXD_put_18 rfl rfl ?_
    refine v_i2bi C dXD_put_19 (by omega) ?_
    refine v_bast (k := 375) C dXD_put_20 (by show (375 : Nat) < 383; decide) rfl rfl (by omega) (by decide) (by omega) ?_
    refine v_aload_n C dXD_put_21 rfl rfl ?_
    refine v_dup C dXD_put_22 rfl ?_
    refine v_getI (k := 374) (q := 6) (v := σ.1 374 6) C dXD_put_23 (by show (374 : Nat) < 383; decide) rfl rfl (by decide) rfl inXD lXD_34 rfl rfl ?_
    refine v_iconst C dXD_put_26 ?_
    refine v_iadd C dXD_put_27 ?_
    refine v_putI (k := 374) (q := 6) C dXD_put_28 (by show (374 : Nat) < 383; decide) rfl rfl (by decide) rfl inXD tyXD_ok nmXD lXD_34 rfl rfl rfl rfl rfl ?_
    exact v_vret C hRt hLk dXD_put_31 rfl
set_option maxRecDepth 100000 in
set_option maxHeartbeats 4000000 in
/-- putNumber -/
theorem kX_XD_putNumber (l : Launch) (D : va_G) (cA : Nat → ClassId) (ad : Nat → Nat) (hJ : f_J (xG D cA ad)) (σ : fS) (v : Int) (hv : 0 ≤ v ∧ v ≤ 99999) (hu : 0 ≤ σ.1 374 6 ∧ σ.1 374 6 < 5900) : f_M l (xG D cA ad) (xE (xG D cA ad)) yXD_putNumber (Cond.code yXD_putNumber cXD_putNumber 3 none :: A9) 1 σ [.ref (ad 374), .int (fI v)] (f_QV (fun σ1 => σ1 = x_puts σ (dig v)) (xG D cA ad)) := by
  refine f_enter (by decide +kernel) hJ rfl (Nat.le_of_ble_eq_true rfl) ?_
  intro z hzl hR C hRt hLk hEz
  subst hzl
  have hRR : 1 ≤ z.2.2.2.1.frames ∧ 40 * 1 ≤ z.2.2.2.1.locals ∧ 0 ≤ z.2.2.2.1.cells ∧ 0 ≤ z.2.2.2.1.slots := by rw [hR]; exact ⟨Nat.le_refl _, Nat.le_refl _, Nat.zero_le _, Nat.zero_le _⟩
  have L0 : ∀ (pre : List Int), ((pre = [] ∧ dl v ≤ 0) ∨ dig v = pre ++ dg 0 v) → fv z (xG D cA ad) 3 (f_R z (xG D cA ad) (f_QV (fun σ1 => σ1 = x_puts σ (dig v)) (xG D cA ad))) 0 0 (x_puts σ pre) 4 [some (.ref (ad 374)), some (.int (fI v)), some (.int (fI 1))] [] := by
    intro pre hpre
    have hpl := x_pre_len v 0 pre hpre
    have hus := x_puts_u σ pre
    have hd1 : 0 ≤ v / 1 := Int.ediv_nonneg hv.1 (by omega)
    have hd2 : v / 1 ≤ v := Int.ediv_le_self 1 hv.1
    refine v_iload_n C dXD_putNumber_4 rfl rfl ?_
    refine v_iconst C dXD_putNumber_5 ?_
    refine v_icmp_lt (tgt := 40) C dXD_putNumber_6 (by decide) (by omega) (by omega) (fun hc1 => ?_) (fun hc1 => ?_)
    · exfalso; omega
    · refine v_iload_n C dXD_putNumber_9 rfl rfl ?_
      refine v_iload_n C dXD_putNumber_10 rfl rfl ?_
      refine v_icmp_ge (tgt := 19) C dXD_putNumber_11 (by decide) (by omega) (by omega) (fun hc2 => ?_) (fun hc2 => ?_)
      · refine v_aload_n C dXD_putNumber_19 rfl rfl ?_
        refine v_bipush C dXD_putNumber_20 (by decide +kernel) ?_
        refine v_iload_n C dXD_putNumber_22 rfl rfl ?_
        refine v_iload_n C dXD_putNumber_23 rfl rfl ?_
        refine v_idiv C dXD_putNumber_24 (by omega) (by omega) ?_
        refine v_top (b := v) (Int.ediv_one v) ?_
        refine v_bipush C dXD_putNumber_25 (by decide +kernel) ?_
        refine v_irem C dXD_putNumber_27 (by omega) (by omega) ?_
        refine v_iadd C dXD_putNumber_28 ?_
        refine v_cVV (k := 374) (n := 1) C (xE_ok _) hEz hR (kX_XD_put _ D cA ad hJ (x_puts σ pre) ((48 + (v % 10))) (by omega) (by omega)) dXD_putNumber_29 (by show (374 : Nat) < 383; decide) rfl rfl gXD_93 (by decide +kernel) (by decide) (by decide) rfl (Nat.le_of_ble_eq_true rfl) rfl ⟨rfl, rfl⟩ (fun σ1 hp1 => ?_)
        subst σ1
        refine v_st (x_puts_snoc _ _ _) ?_
        refine v_iload_n C dXD_putNumber_32 rfl rfl ?_
        refine v_bipush C dXD_putNumber_33 (by decide +kernel) ?_
        refine v_idiv C dXD_putNumber_35 (by omega) (by omega) ?_
        refine v_top (b := 0) (by decide) ?_
        refine v_istore_n C dXD_putNumber_36 rfl (by decide) ?_
        refine v_goto (tgt := 4) C dXD_putNumber_37 (by decide) ?_
        refine v_iload_n C dXD_putNumber_4 rfl rfl ?_
        refine v_iconst C dXD_putNumber_5 ?_
        refine v_icmp_lt (tgt := 40) C dXD_putNumber_6 (by decide) (by omega) (by omega) (fun hc3 => ?_) (fun hc3 => ?_)
        · exact v_vret C hRt hLk dXD_putNumber_40 (by rw [x_dg_end v pre hpre])
        · exfalso; omega
      · refine v_iload_n C dXD_putNumber_14 rfl rfl ?_
        refine v_iconst C dXD_putNumber_15 ?_
        refine v_icmp_ne (tgt := 32) C dXD_putNumber_16 (by decide) (by omega) (by omega) (fun hc4 => ?_) (fun hc4 => ?_)
        · exfalso; omega
        · refine v_aload_n C dXD_putNumber_19 rfl rfl ?_
          refine v_bipush C dXD_putNumber_20 (by decide +kernel) ?_
          refine v_iload_n C dXD_putNumber_22 rfl rfl ?_
          refine v_iload_n C dXD_putNumber_23 rfl rfl ?_
          refine v_idiv C dXD_putNumber_24 (by omega) (by omega) ?_
          refine v_top (b := v) (Int.ediv_one v) ?_
          refine v_bipush C dXD_putNumber_25 (by decide +kernel) ?_
          refine v_irem C dXD_putNumber_27 (by omega) (by omega) ?_
          refine v_iadd C dXD_putNumber_28 ?_
          refine v_cVV (k := 374) (n := 1) C (xE_ok _) hEz hR (kX_XD_put _ D cA ad hJ (x_puts σ pre) ((48 + (v % 10))) (by omega) (by omega)) dXD_putNumber_29 (by show (374 : Nat) < 383; decide) rfl rfl gXD_93 (by decide +kernel) (by decide) (by decide) rfl (Nat.le_of_ble_eq_true rfl) rfl ⟨rfl, rfl⟩ (fun σ1 hp1 => ?_)
          subst σ1
          refine v_st (x_puts_snoc _ _ _) ?_
          refine v_iload_n C dXD_putNumber_32 rfl rfl ?_
          refine v_bipush C dXD_putNumber_33 (by decide +kernel) ?_
          refine v_idiv C dXD_putNumber_35 (by omega) (by omega) ?_
          refine v_top (b := 0) (by decide) ?_
          refine v_istore_n C dXD_putNumber_36 rfl (by decide) ?_
          refine v_goto (tgt := 4) C dXD_putNumber_37 (by decide) ?_
          refine v_iload_n C dXD_putNumber_4 rfl rfl ?_
          refine v_iconst C dXD_putNumber_5 ?_
          refine v_icmp_lt (tgt := 40) C dXD_putNumber_6 (by decide) (by omega) (by omega) (fun hc5 => ?_) (fun hc5 => ?_)
          · exact v_vret C hRt hLk dXD_putNumber_40 (by rw [x_dg_end v pre hpre])
          · exfalso; omega
  have L1 : ∀ (pre : List Int), ((pre = [] ∧ dl v ≤ 1) ∨ dig v = pre ++ dg 1 v) → fv z (xG D cA ad) 3 (f_R z (xG D cA ad) (f_QV (fun σ1 => σ1 = x_puts σ (dig v)) (xG D cA ad))) 0 0 (x_puts σ pre) 4 [some (.ref (ad 374)), some (.int (fI v)), some (.int (fI 10))] [] := by
    intro pre hpre
    have hpl := x_pre_len v 1 pre hpre
    have hus := x_puts_u σ pre
    have hd1 : 0 ≤ v / 10 := Int.ediv_nonneg hv.1 (by omega)
    have hd2 : v / 10 ≤ v := Int.ediv_le_self 10 hv.1
    refine v_iload_n C dXD_putNumber_4 rfl rfl ?_
    refine v_iconst C dXD_putNumber_5 ?_
    refine v_icmp_lt (tgt := 40) C dXD_putNumber_6 (by decide) (by omega) (by omega) (fun hc6 => ?_) (fun hc6 => ?_)
    · exfalso; omega
    · refine v_iload_n C dXD_putNumber_9 rfl rfl ?_
      refine v_iload_n C dXD_putNumber_10 rfl rfl ?_
      refine v_icmp_ge (tgt := 19) C dXD_putNumber_11 (by decide) (by omega) (by omega) (fun hc7 => ?_) (fun hc7 => ?_)
      · refine v_aload_n C dXD_putNumber_19 rfl rfl ?_
        refine v_bipush C dXD_putNumber_20 (by decide +kernel) ?_
        refine v_iload_n C dXD_putNumber_22 rfl rfl ?_
        refine v_iload_n C dXD_putNumber_23 rfl rfl ?_
        refine v_idiv C dXD_putNumber_24 (by omega) (by omega) ?_
        refine v_bipush C dXD_putNumber_25 (by decide +kernel) ?_
        refine v_irem C dXD_putNumber_27 (by omega) (by omega) ?_
        refine v_iadd C dXD_putNumber_28 ?_
        refine v_cVV (k := 374) (n := 1) C (xE_ok _) hEz hR (kX_XD_put _ D cA ad hJ (x_puts σ pre) ((48 + ((v / 10) % 10))) (by omega) (by omega)) dXD_putNumber_29 (by show (374 : Nat) < 383; decide) rfl rfl gXD_93 (by decide +kernel) (by decide) (by decide) rfl (Nat.le_of_ble_eq_true rfl) rfl ⟨rfl, rfl⟩ (fun σ1 hp1 => ?_)
        subst σ1
        refine v_st (x_puts_snoc _ _ _) ?_
        refine v_iload_n C dXD_putNumber_32 rfl rfl ?_
        refine v_bipush C dXD_putNumber_33 (by decide +kernel) ?_
        refine v_idiv C dXD_putNumber_35 (by omega) (by omega) ?_
        refine v_top (b := 1) (by decide) ?_
        refine v_istore_n C dXD_putNumber_36 rfl (by decide) ?_
        refine v_goto (tgt := 4) C dXD_putNumber_37 (by decide) ?_
        exact L0 _ (Or.inr (x_dg_put v 0 pre hv (by decide) (by simp only [Nat.reduceAdd, Int.reducePow]; omega) hpre))
      · refine v_iload_n C dXD_putNumber_14 rfl rfl ?_
        refine v_iconst C dXD_putNumber_15 ?_
        refine v_icmp_ne (tgt := 32) C dXD_putNumber_16 (by decide) (by omega) (by omega) (fun hc8 => ?_) (fun hc8 => ?_)
        · refine v_iload_n C dXD_putNumber_32 rfl rfl ?_
          refine v_bipush C dXD_putNumber_33 (by decide +kernel) ?_
          refine v_idiv C dXD_putNumber_35 (by omega) (by omega) ?_
          refine v_top (b := 1) (by decide) ?_
          refine v_istore_n C dXD_putNumber_36 rfl (by decide) ?_
          refine v_goto (tgt := 4) C dXD_putNumber_37 (by decide) ?_
          exact L0 _ (Or.inl (x_dg_no v 0 pre (by decide) (by simp only [Nat.reduceAdd, Int.reducePow]; omega) hpre))
        · exfalso; omega
  have L2 : ∀ (pre : List Int), ((pre = [] ∧ dl v ≤ 2) ∨ dig v = pre ++ dg 2 v) → fv z (xG D cA ad) 3 (f_R z (xG D cA ad) (f_QV (fun σ1 => σ1 = x_puts σ (dig v)) (xG D cA ad))) 0 0 (x_puts σ pre) 4 [some (.ref (ad 374)), some (.int (fI v)), some (.int (fI 100))] [] := by
    intro pre hpre
    have hpl := x_pre_len v 2 pre hpre
    have hus := x_puts_u σ pre
    have hd1 : 0 ≤ v / 100 := Int.ediv_nonneg hv.1 (by omega)
    have hd2 : v / 100 ≤ v := Int.ediv_le_self 100 hv.1
    refine v_iload_n C dXD_putNumber_4 rfl rfl ?_
    refine v_iconst C dXD_putNumber_5 ?_
    refine v_icmp_lt (tgt := 40) C dXD_putNumber_6 (by decide) (by omega) (by omega) (fun hc9 => ?_) (fun hc9 => ?_)
    · exfalso; omega
    · refine v_iload_n C dXD_putNumber_9 rfl rfl ?_
      refine v_iload_n C dXD_putNumber_10 rfl rfl ?_
      refine v_icmp_ge (tgt := 19) C dXD_putNumber_11 (by decide) (by omega) (by omega) (fun hc10 => ?_) (fun hc10 => ?_)
      · refine v_aload_n C dXD_putNumber_19 rfl rfl ?_
        refine v_bipush C dXD_putNumber_20 (by decide +kernel) ?_
        refine v_iload_n C dXD_putNumber_22 rfl rfl ?_
        refine v_iload_n C dXD_putNumber_23 rfl rfl ?_
        refine v_idiv C dXD_putNumber_24 (by omega) (by omega) ?_
        refine v_bipush C dXD_putNumber_25 (by decide +kernel) ?_
        refine v_irem C dXD_putNumber_27 (by omega) (by omega) ?_
        refine v_iadd C dXD_putNumber_28 ?_
        refine v_cVV (k := 374) (n := 1) C (xE_ok _) hEz hR (kX_XD_put _ D cA ad hJ (x_puts σ pre) ((48 + ((v / 100) % 10))) (by omega) (by omega)) dXD_putNumber_29 (by show (374 : Nat) < 383; decide) rfl rfl gXD_93 (by decide +kernel) (by decide) (by decide) rfl (Nat.le_of_ble_eq_true rfl) rfl ⟨rfl, rfl⟩ (fun σ1 hp1 => ?_)
        subst σ1
        refine v_st (x_puts_snoc _ _ _) ?_
        refine v_iload_n C dXD_putNumber_32 rfl rfl ?_
        refine v_bipush C dXD_putNumber_33 (by decide +kernel) ?_
        refine v_idiv C dXD_putNumber_35 (by omega) (by omega) ?_
        refine v_top (b := 10) (by decide) ?_
        refine v_istore_n C dXD_putNumber_36 rfl (by decide) ?_
        refine v_goto (tgt := 4) C dXD_putNumber_37 (by decide) ?_
        exact L1 _ (Or.inr (x_dg_put v 1 pre hv (by decide) (by simp only [Nat.reduceAdd, Int.reducePow]; omega) hpre))
      · refine v_iload_n C dXD_putNumber_14 rfl rfl ?_
        refine v_iconst C dXD_putNumber_15 ?_
        refine v_icmp_ne (tgt := 32) C dXD_putNumber_16 (by decide) (by omega) (by omega) (fun hc11 => ?_) (fun hc11 => ?_)
        · refine v_iload_n C dXD_putNumber_32 rfl rfl ?_
          refine v_bipush C dXD_putNumber_33 (by decide +kernel) ?_
          refine v_idiv C dXD_putNumber_35 (by omega) (by omega) ?_
          refine v_top (b := 10) (by decide) ?_
          refine v_istore_n C dXD_putNumber_36 rfl (by decide) ?_
          refine v_goto (tgt := 4) C dXD_putNumber_37 (by decide) ?_
          exact L1 _ (Or.inl (x_dg_no v 1 pre (by decide) (by simp only [Nat.reduceAdd, Int.reducePow]; omega) hpre))
        · exfalso; omega
  have L3 : ∀ (pre : List Int), ((pre = [] ∧ dl v ≤ 3) ∨ dig v = pre ++ dg 3 v) → fv z (xG D cA ad) 3 (f_R z (xG D cA ad) (f_QV (fun σ1 => σ1 = x_puts σ (dig v)) (xG D cA ad))) 0 0 (x_puts σ pre) 4 [some (.ref (ad 374)), some (.int (fI v)), some (.int (fI 1000))] [] := by
    intro pre hpre
    have hpl := x_pre_len v 3 pre hpre
    have hus := x_puts_u σ pre
    have hd1 : 0 ≤ v / 1000 := Int.ediv_nonneg hv.1 (by omega)
    have hd2 : v / 1000 ≤ v := Int.ediv_le_self 1000 hv.1
    refine v_iload_n C dXD_putNumber_4 rfl rfl ?_
    refine v_iconst C dXD_putNumber_5 ?_
    refine v_icmp_lt (tgt := 40) C dXD_putNumber_6 (by decide) (by omega) (by omega) (fun hc12 => ?_) (fun hc12 => ?_)
    · exfalso; omega
    · refine v_iload_n C dXD_putNumber_9 rfl rfl ?_
      refine v_iload_n C dXD_putNumber_10 rfl rfl ?_
      refine v_icmp_ge (tgt := 19) C dXD_putNumber_11 (by decide) (by omega) (by omega) (fun hc13 => ?_) (fun hc13 => ?_)
      · refine v_aload_n C dXD_putNumber_19 rfl rfl ?_
        refine v_bipush C dXD_putNumber_20 (by decide +kernel) ?_
        refine v_iload_n C dXD_putNumber_22 rfl rfl ?_
        refine v_iload_n C dXD_putNumber_23 rfl rfl ?_
        refine v_idiv C dXD_putNumber_24 (by omega) (by omega) ?_
        refine v_bipush C dXD_putNumber_25 (by decide +kernel) ?_
        refine v_irem C dXD_putNumber_27 (by omega) (by omega) ?_
        refine v_iadd C dXD_putNumber_28 ?_
        refine v_cVV (k := 374) (n := 1) C (xE_ok _) hEz hR (kX_XD_put _ D cA ad hJ (x_puts σ pre) ((48 + ((v / 1000) % 10))) (by omega) (by omega)) dXD_putNumber_29 (by show (374 : Nat) < 383; decide) rfl rfl gXD_93 (by decide +kernel) (by decide) (by decide) rfl (Nat.le_of_ble_eq_true rfl) rfl ⟨rfl, rfl⟩ (fun σ1 hp1 => ?_)
        subst σ1
        refine v_st (x_puts_snoc _ _ _) ?_
        refine v_iload_n C dXD_putNumber_32 rfl rfl ?_
        refine v_bipush C dXD_putNumber_33 (by decide +kernel) ?_
        refine v_idiv C dXD_putNumber_35 (by omega) (by omega) ?_
        refine v_top (b := 100) (by decide) ?_
        refine v_istore_n C dXD_putNumber_36 rfl (by decide) ?_
        refine v_goto (tgt := 4) C dXD_putNumber_37 (by decide) ?_
        exact L2 _ (Or.inr (x_dg_put v 2 pre hv (by decide) (by simp only [Nat.reduceAdd, Int.reducePow]; omega) hpre))
      · refine v_iload_n C dXD_putNumber_14 rfl rfl ?_
        refine v_iconst C dXD_putNumber_15 ?_
        refine v_icmp_ne (tgt := 32) C dXD_putNumber_16 (by decide) (by omega) (by omega) (fun hc14 => ?_) (fun hc14 => ?_)
        · refine v_iload_n C dXD_putNumber_32 rfl rfl ?_
          refine v_bipush C dXD_putNumber_33 (by decide +kernel) ?_
          refine v_idiv C dXD_putNumber_35 (by omega) (by omega) ?_
          refine v_top (b := 100) (by decide) ?_
          refine v_istore_n C dXD_putNumber_36 rfl (by decide) ?_
          refine v_goto (tgt := 4) C dXD_putNumber_37 (by decide) ?_
          exact L2 _ (Or.inl (x_dg_no v 2 pre (by decide) (by simp only [Nat.reduceAdd, Int.reducePow]; omega) hpre))
        · exfalso; omega
  have L4 : ∀ (pre : List Int), ((pre = [] ∧ dl v ≤ 4) ∨ dig v = pre ++ dg 4 v) → fv z (xG D cA ad) 3 (f_R z (xG D cA ad) (f_QV (fun σ1 => σ1 = x_puts σ (dig v)) (xG D cA ad))) 0 0 (x_puts σ pre) 4 [some (.ref (ad 374)), some (.int (fI v)), some (.int (fI 10000))] [] := by
    intro pre hpre
    have hpl := x_pre_len v 4 pre hpre
    have hus := x_puts_u σ pre
    have hd1 : 0 ≤ v / 10000 := Int.ediv_nonneg hv.1 (by omega)
    have hd2 : v / 10000 ≤ v := Int.ediv_le_self 10000 hv.1
    refine v_iload_n C dXD_putNumber_4 rfl rfl ?_
    refine v_iconst C dXD_putNumber_5 ?_
    refine v_icmp_lt (tgt := 40) C dXD_putNumber_6 (by decide) (by omega) (by omega) (fun hc15 => ?_) (fun hc15 => ?_)
    · exfalso; omega
    · refine v_iload_n C dXD_putNumber_9 rfl rfl ?_
      refine v_iload_n C dXD_putNumber_10 rfl rfl ?_
      refine v_icmp_ge (tgt := 19) C dXD_putNumber_11 (by decide) (by omega) (by omega) (fun hc16 => ?_) (fun hc16 => ?_)
      · refine v_aload_n C dXD_putNumber_19 rfl rfl ?_
        refine v_bipush C dXD_putNumber_20 (by decide +kernel) ?_
        refine v_iload_n C dXD_putNumber_22 rfl rfl ?_
        refine v_iload_n C dXD_putNumber_23 rfl rfl ?_
        refine v_idiv C dXD_putNumber_24 (by omega) (by omega) ?_
        refine v_bipush C dXD_putNumber_25 (by decide +kernel) ?_
        refine v_irem C dXD_putNumber_27 (by omega) (by omega) ?_
        refine v_iadd C dXD_putNumber_28 ?_
        refine v_cVV (k := 374) (n := 1) C (xE_ok _) hEz hR (kX_XD_put _ D cA ad hJ (x_puts σ pre) ((48 + ((v / 10000) % 10))) (by omega) (by omega)) dXD_putNumber_29 (by show (374 : Nat) < 383; decide) rfl rfl gXD_93 (by decide +kernel) (by decide) (by decide) rfl (Nat.le_of_ble_eq_true rfl) rfl ⟨rfl, rfl⟩ (fun σ1 hp1 => ?_)
        subst σ1
        refine v_st (x_puts_snoc _ _ _) ?_
        refine v_iload_n C dXD_putNumber_32 rfl rfl ?_
        refine v_bipush C dXD_putNumber_33 (by decide +kernel) ?_
        refine v_idiv C dXD_putNumber_35 (by omega) (by omega) ?_
        refine v_top (b := 1000) (by decide) ?_
        refine v_istore_n C dXD_putNumber_36 rfl (by decide) ?_
        refine v_goto (tgt := 4) C dXD_putNumber_37 (by decide) ?_
        exact L3 _ (Or.inr (x_dg_put v 3 pre hv (by decide) (by simp only [Nat.reduceAdd, Int.reducePow]; omega) hpre))
      · refine v_iload_n C dXD_putNumber_14 rfl rfl ?_
        refine v_iconst C dXD_putNumber_15 ?_
        refine v_icmp_ne (tgt := 32) C dXD_putNumber_16 (by decide) (by omega) (by omega) (fun hc17 => ?_) (fun hc17 => ?_)
        · refine v_iload_n C dXD_putNumber_32 rfl rfl ?_
          refine v_bipush C dXD_putNumber_33 (by decide +kernel) ?_
          refine v_idiv C dXD_putNumber_35 (by omega) (by omega) ?_
          refine v_top (b := 1000) (by decide) ?_
          refine v_istore_n C dXD_putNumber_36 rfl (by decide) ?_
          refine v_goto (tgt := 4) C dXD_putNumber_37 (by decide) ?_
          exact L3 _ (Or.inl (x_dg_no v 3 pre (by decide) (by simp only [Nat.reduceAdd, Int.reducePow]; omega) hpre))
        · exfalso; omega
  refine v_sipush C dXD_putNumber_0 (by decide +kernel) ?_
  refine v_istore_n C dXD_putNumber_3 rfl (by decide) ?_
  exact L4 [] (Or.inl ⟨rfl, by have := dig_len v; unfold dig at this; rw [dg_len] at this; omega⟩)
set_option maxRecDepth 100000 in
set_option maxHeartbeats 4000000 in
/-- putTagged -/
theorem kX_XD_putTagged (l : Launch) (D : va_G) (cA : Nat → ClassId) (ad : Nat → Nat) (hJ : f_J (xG D cA ad)) (σ : fS) (c v : Int) (hc : -128 ≤ c ∧ c ≤ 127) (hv : 0 ≤ v ∧ v ≤ 99999) (hu : 0 ≤ σ.1 374 6 ∧ σ.1 374 6 < 5800) : f_M l (xG D cA ad) (xE (xG D cA ad)) yXD_putTagged (Cond.code yXD_putTagged cXD_putTagged 3 none :: A9) 2 σ [.ref (ad 374), .int (fI c), .int (fI v)] (f_QV (fun σ1 => σ1 = x_puts σ (m_tell c v)) (xG D cA ad)) := by
  refine f_enter (by decide +kernel) hJ rfl (Nat.le_of_ble_eq_true rfl) ?_
  intro z hzl hR C hRt hLk hEz
  subst hzl
  have hRR : 2 ≤ z.2.2.2.1.frames ∧ 40 * 2 ≤ z.2.2.2.1.locals ∧ 0 ≤ z.2.2.2.1.cells ∧ 0 ≤ z.2.2.2.1.slots := by rw [hR]; exact ⟨Nat.le_refl _, Nat.le_refl _, Nat.zero_le _, Nat.zero_le _⟩
  refine v_st (σ1 := x_puts σ []) rfl ?_
  refine v_aload_n C dXD_putTagged_0 rfl rfl ?_
  refine v_iload_n C dXD_putTagged_1 rfl rfl ?_
  have hx1 := x_puts_u σ ([])
  try simp only [List.length_append, List.length_cons, List.length_nil] at hx1
  refine v_cVV (k := 374) (n := 1) C (xE_ok _) hEz hR (kX_XD_put _ D cA ad hJ (x_puts σ ([])) (c) (by omega) (by omega)) dXD_putTagged_2 (by show (374 : Nat) < 383; decide) rfl rfl gXD_93 (by decide +kernel) (by decide) (by decide) rfl (Nat.le_of_ble_eq_true rfl) rfl ⟨rfl, rfl⟩ (fun σ1 hp1 => ?_)
  subst σ1
  refine v_st (σ1 := x_puts σ ([c])) (rfl) ?_
  refine v_aload_n C dXD_putTagged_5 rfl rfl ?_
  refine v_bipush C dXD_putTagged_6 (by decide +kernel) ?_
  have hx2 := x_puts_u σ ([c])
  try simp only [List.length_append, List.length_cons, List.length_nil] at hx2
  refine v_cVV (k := 374) (n := 1) C (xE_ok _) hEz hR (kX_XD_put _ D cA ad hJ (x_puts σ ([c])) (32) (by omega) (by omega)) dXD_putTagged_8 (by show (374 : Nat) < 383; decide) rfl rfl gXD_93 (by decide +kernel) (by decide) (by decide) rfl (Nat.le_of_ble_eq_true rfl) rfl ⟨rfl, rfl⟩ (fun σ1 hp1 => ?_)
  subst σ1
  refine v_st (σ1 := x_puts σ ([c] ++ [32])) (x_puts_snoc _ _ _) ?_
  refine v_aload_n C dXD_putTagged_11 rfl rfl ?_
  refine v_iload_n C dXD_putTagged_12 rfl rfl ?_
  have hx3 := x_puts_u σ ([c] ++ [32])
  try simp only [List.length_append, List.length_cons, List.length_nil] at hx3
  have hl4 := dig_len (v)
  refine v_cVV (k := 374) (n := 1) C (xE_ok _) hEz hR (kX_XD_putNumber _ D cA ad hJ (x_puts σ ([c] ++ [32])) (v) (by omega) (by omega)) dXD_putTagged_13 (by show (374 : Nat) < 383; decide) rfl rfl gXD_97 (by decide +kernel) (by decide) (by decide) rfl (Nat.le_of_ble_eq_true rfl) rfl ⟨rfl, rfl⟩ (fun σ1 hp1 => ?_)
  subst σ1
  refine v_st (σ1 := x_puts σ ([c] ++ [32] ++ dig (v))) (x_puts_app _ _ _).symm ?_
  refine v_aload_n C dXD_putTagged_16 rfl rfl ?_
  refine v_bipush C dXD_putTagged_17 (by decide +kernel) ?_
  have hx5 := x_puts_u σ ([c] ++ [32] ++ dig (v))
  try simp only [List.length_append, List.length_cons, List.length_nil] at hx5
  refine v_cVV (k := 374) (n := 1) C (xE_ok _) hEz hR (kX_XD_put _ D cA ad hJ (x_puts σ ([c] ++ [32] ++ dig (v))) (10) (by omega) (by omega)) dXD_putTagged_19 (by show (374 : Nat) < 383; decide) rfl rfl gXD_93 (by decide +kernel) (by decide) (by decide) rfl (Nat.le_of_ble_eq_true rfl) rfl ⟨rfl, rfl⟩ (fun σ1 hp1 => ?_)
  subst σ1
  refine v_st (σ1 := x_puts σ ([c] ++ [32] ++ dig (v) ++ [10])) (x_puts_snoc _ _ _) ?_
  exact v_vret C hRt hLk dXD_putTagged_22 (by unfold m_tell; simp)
set_option maxRecDepth 100000 in
set_option maxHeartbeats 4000000 in
/-- putFirstLine -/
theorem kX_XD_putFirstLine (l : Launch) (D : va_G) (cA : Nat → ClassId) (ad : Nat → Nat) (hJ : f_J (xG D cA ad)) (σ : fS) (hu : 0 ≤ σ.1 374 6 ∧ σ.1 374 6 < 5900) : f_M l (xG D cA ad) (xE (xG D cA ad)) yXD_putFirstLine (Cond.code yXD_putFirstLine cXD_putFirstLine 2 none :: A9) 1 σ [.ref (ad 374)] (f_QV (fun σ1 => σ1 = x_puts σ [37, 70, 49, 10]) (xG D cA ad)) := by
  refine f_enter (by decide +kernel) hJ rfl (Nat.le_of_ble_eq_true rfl) ?_
  intro z hzl hR C hRt hLk hEz
  subst hzl
  have hRR : 1 ≤ z.2.2.2.1.frames ∧ 40 * 1 ≤ z.2.2.2.1.locals ∧ 0 ≤ z.2.2.2.1.cells ∧ 0 ≤ z.2.2.2.1.slots := by rw [hR]; exact ⟨Nat.le_refl _, Nat.le_refl _, Nat.zero_le _, Nat.zero_le _⟩
  have L4 : fv z (xG D cA ad) 2 (f_R z (xG D cA ad) (f_QV (fun σ1 => σ1 = x_puts σ [37, 70, 49, 10]) (xG D cA ad))) 0 0 (x_puts σ ([37] ++ [70] ++ [49] ++ [10])) 2 [some (.ref (ad 374)), some (.int (fI 4))] [] := by
    refine v_iload_n C dXD_putFirstLine_2 rfl rfl ?_
    refine v_fl C hEz (by decide +kernel) dXD_putFirstLine_3 (fun t1 hTt1 => ?_)
    refine v_fln C hTt1 dXD_putFirstLine_6 ?_
    refine v_icmp_ge (tgt := 25) C dXD_putFirstLine_7 (by decide) (by omega) (by omega) (fun hc2 => ?_) (fun hc2 => ?_)
    · exact v_vret C hRt hLk dXD_putFirstLine_25 rfl
    · exfalso; omega
  have L3 : fv z (xG D cA ad) 2 (f_R z (xG D cA ad) (f_QV (fun σ1 => σ1 = x_puts σ [37, 70, 49, 10]) (xG D cA ad))) 0 0 (x_puts σ ([37] ++ [70] ++ [49])) 2 [some (.ref (ad 374)), some (.int (fI 3))] [] := by
    refine v_iload_n C dXD_putFirstLine_2 rfl rfl ?_
    refine v_fl C hEz (by decide +kernel) dXD_putFirstLine_3 (fun t3 hTt3 => ?_)
    refine v_fln C hTt3 dXD_putFirstLine_6 ?_
    refine v_icmp_ge (tgt := 25) C dXD_putFirstLine_7 (by decide) (by omega) (by omega) (fun hc4 => ?_) (fun hc4 => ?_)
    · exfalso; omega
    · refine v_aload_n C dXD_putFirstLine_10 rfl rfl ?_
      refine v_fl C hEz (by decide +kernel) dXD_putFirstLine_11 (fun t5 hTt5 => ?_)
      refine v_iload_n C dXD_putFirstLine_14 rfl rfl ?_
      refine v_flb (i := 3) C hTt5 (by decide) dXD_putFirstLine_15 ?_
      refine v_top (b := 10) (by decide +kernel) ?_
      have hx6 := x_puts_u σ ([37] ++ [70] ++ [49])
      try simp only [List.length_append, List.length_cons, List.length_nil] at hx6
      refine v_cVV (k := 374) (n := 1) C (xE_ok _) hEz hR (kX_XD_put _ D cA ad hJ (x_puts σ ([37] ++ [70] ++ [49])) (10) (by omega) (by omega)) dXD_putFirstLine_16 (by show (374 : Nat) < 383; decide) rfl rfl gXD_93 (by decide +kernel) (by decide) (by decide) rfl (Nat.le_of_ble_eq_true rfl) rfl ⟨rfl, rfl⟩ (fun σ1 hp1 => ?_)
      subst σ1
      refine v_st (σ1 := x_puts σ ([37] ++ [70] ++ [49] ++ [10])) (x_puts_snoc _ _ _) ?_
      refine v_iinc C dXD_putFirstLine_19 rfl (by decide) ?_
      refine v_goto (tgt := 2) C dXD_putFirstLine_22 (by decide) ?_
      exact v_lv rfl L4
  have L2 : fv z (xG D cA ad) 2 (f_R z (xG D cA ad) (f_QV (fun σ1 => σ1 = x_puts σ [37, 70, 49, 10]) (xG D cA ad))) 0 0 (x_puts σ ([37] ++ [70])) 2 [some (.ref (ad 374)), some (.int (fI 2))] [] := by
    refine v_iload_n C dXD_putFirstLine_2 rfl rfl ?_
    refine v_fl C hEz (by decide +kernel) dXD_putFirstLine_3 (fun t7 hTt7 => ?_)
    refine v_fln C hTt7 dXD_putFirstLine_6 ?_
    refine v_icmp_ge (tgt := 25) C dXD_putFirstLine_7 (by decide) (by omega) (by omega) (fun hc8 => ?_) (fun hc8 => ?_)
    · exfalso; omega
    · refine v_aload_n C dXD_putFirstLine_10 rfl rfl ?_
      refine v_fl C hEz (by decide +kernel) dXD_putFirstLine_11 (fun t9 hTt9 => ?_)
      refine v_iload_n C dXD_putFirstLine_14 rfl rfl ?_
      refine v_flb (i := 2) C hTt9 (by decide) dXD_putFirstLine_15 ?_
      refine v_top (b := 49) (by decide +kernel) ?_
      have hx10 := x_puts_u σ ([37] ++ [70])
      try simp only [List.length_append, List.length_cons, List.length_nil] at hx10
      refine v_cVV (k := 374) (n := 1) C (xE_ok _) hEz hR (kX_XD_put _ D cA ad hJ (x_puts σ ([37] ++ [70])) (49) (by omega) (by omega)) dXD_putFirstLine_16 (by show (374 : Nat) < 383; decide) rfl rfl gXD_93 (by decide +kernel) (by decide) (by decide) rfl (Nat.le_of_ble_eq_true rfl) rfl ⟨rfl, rfl⟩ (fun σ1 hp1 => ?_)
      subst σ1
      refine v_st (σ1 := x_puts σ ([37] ++ [70] ++ [49])) (x_puts_snoc _ _ _) ?_
      refine v_iinc C dXD_putFirstLine_19 rfl (by decide) ?_
      refine v_goto (tgt := 2) C dXD_putFirstLine_22 (by decide) ?_
      exact v_lv rfl L3
  have L1 : fv z (xG D cA ad) 2 (f_R z (xG D cA ad) (f_QV (fun σ1 => σ1 = x_puts σ [37, 70, 49, 10]) (xG D cA ad))) 0 0 (x_puts σ ([37])) 2 [some (.ref (ad 374)), some (.int (fI 1))] [] := by
    refine v_iload_n C dXD_putFirstLine_2 rfl rfl ?_
    refine v_fl C hEz (by decide +kernel) dXD_putFirstLine_3 (fun t11 hTt11 => ?_)
    refine v_fln C hTt11 dXD_putFirstLine_6 ?_
    refine v_icmp_ge (tgt := 25) C dXD_putFirstLine_7 (by decide) (by omega) (by omega) (fun hc12 => ?_) (fun hc12 => ?_)
    · exfalso; omega
    · refine v_aload_n C dXD_putFirstLine_10 rfl rfl ?_
      refine v_fl C hEz (by decide +kernel) dXD_putFirstLine_11 (fun t13 hTt13 => ?_)
      refine v_iload_n C dXD_putFirstLine_14 rfl rfl ?_
      refine v_flb (i := 1) C hTt13 (by decide) dXD_putFirstLine_15 ?_
      refine v_top (b := 70) (by decide +kernel) ?_
      have hx14 := x_puts_u σ ([37])
      try simp only [List.length_append, List.length_cons, List.length_nil] at hx14
      refine v_cVV (k := 374) (n := 1) C (xE_ok _) hEz hR (kX_XD_put _ D cA ad hJ (x_puts σ ([37])) (70) (by omega) (by omega)) dXD_putFirstLine_16 (by show (374 : Nat) < 383; decide) rfl rfl gXD_93 (by decide +kernel) (by decide) (by decide) rfl (Nat.le_of_ble_eq_true rfl) rfl ⟨rfl, rfl⟩ (fun σ1 hp1 => ?_)
      subst σ1
      refine v_st (σ1 := x_puts σ ([37] ++ [70])) (x_puts_snoc _ _ _) ?_
      refine v_iinc C dXD_putFirstLine_19 rfl (by decide) ?_
      refine v_goto (tgt := 2) C dXD_putFirstLine_22 (by decide) ?_
      exact v_lv rfl L2
  have L0 : fv z (xG D cA ad) 2 (f_R z (xG D cA ad) (f_QV (fun σ1 => σ1 = x_puts σ [37, 70, 49, 10]) (xG D cA ad))) 0 0 (x_puts σ ([])) 2 [some (.ref (ad 374)), some (.int (fI 0))] [] := by
    refine v_iload_n C dXD_putFirstLine_2 rfl rfl ?_
    refine v_fl C hEz (by decide +kernel) dXD_putFirstLine_3 (fun t15 hTt15 => ?_)
    refine v_fln C hTt15 dXD_putFirstLine_6 ?_
    refine v_icmp_ge (tgt := 25) C dXD_putFirstLine_7 (by decide) (by omega) (by omega) (fun hc16 => ?_) (fun hc16 => ?_)
    · exfalso; omega
    · refine v_aload_n C dXD_putFirstLine_10 rfl rfl ?_
      refine v_fl C hEz (by decide +kernel) dXD_putFirstLine_11 (fun t17 hTt17 => ?_)
      refine v_iload_n C dXD_putFirstLine_14 rfl rfl ?_
      refine v_flb (i := 0) C hTt17 (by decide) dXD_putFirstLine_15 ?_
      refine v_top (b := 37) (by decide +kernel) ?_
      have hx18 := x_puts_u σ ([])
      try simp only [List.length_append, List.length_cons, List.length_nil] at hx18
      refine v_cVV (k := 374) (n := 1) C (xE_ok _) hEz hR (kX_XD_put _ D cA ad hJ (x_puts σ ([])) (37) (by omega) (by omega)) dXD_putFirstLine_16 (by show (374 : Nat) < 383; decide) rfl rfl gXD_93 (by decide +kernel) (by decide) (by decide) rfl (Nat.le_of_ble_eq_true rfl) rfl ⟨rfl, rfl⟩ (fun σ1 hp1 => ?_)
      subst σ1
      refine v_st (σ1 := x_puts σ ([37])) (rfl) ?_
      refine v_iinc C dXD_putFirstLine_19 rfl (by decide) ?_
      refine v_goto (tgt := 2) C dXD_putFirstLine_22 (by decide) ?_
      exact v_lv rfl L1
  refine v_st (σ1 := x_puts σ []) rfl ?_
  refine v_iconst C dXD_putFirstLine_0 ?_
  refine v_istore_n C dXD_putFirstLine_1 rfl (by decide) ?_
  exact L0
end
section
/-- a draft is begun -/
def x_beg (σ : fS) (p : Int) : fS := x_reset (f_p1 (f_p1 (f_p1 σ 374 5 p) 374 6 0) 374 4 0) 377 (-2)
def x_behind (σ : fS) (b n : Int) : fS := f_p1 (f_pa σ 9 (fun q => if b.toNat ≤ q ∧ q < b.toNat + n.toNat then σ.2 375 ((0 : Int).toNat + (q - b.toNat)) else σ.2 9 q)) 8 1 (b + n)
theorem x_fill_o (σ : fS) (k : Nat) (a b v : Int) (x q : Nat) (h : x ≠ k) : (x_fill σ k a b v).2 x q = σ.2 x q := by
  show (f_pa σ k _).2 x q = _
  rw [pa_2, if_neg h]
theorem x_reset_o (σ : fS) (r : Nat) (v : Int) (x q : Nat) (h : x ≠ r + 1 ∧ x ≠ r + 2) : (x_reset σ r v).2 x q = σ.2 x q := by
  unfold x_reset
  rw [x_fill_o _ _ _ _ _ _ _ h.2, x_fill_o _ _ _ _ _ _ _ h.1]
theorem x_reset_p (σ : fS) (r : Nat) (v : Int) (q : Nat) (h : q < 41) : (x_reset σ r v).2 (r + 1) q = v := by
  unfold x_reset
  rw [x_fill_o _ _ _ _ _ _ _ (by omega)]
  show (f_pa σ (r + 1) _).2 (r + 1) q = _
  rw [pa_2, if_pos rfl, if_pos (by omega)]
set_option maxRecDepth 100000 in
set_option maxHeartbeats 4000000 in
/-- begin -/
theorem kX_XD_begin (l : Launch) (D : va_G) (cA : Nat → ClassId) (ad : Nat → Nat) (hJ : f_J (xG D cA ad)) (σ : fS) (p : Int) (hp : -2147483648 ≤ p ∧ p ≤ 2147483647) : f_M l (xG D cA ad) (xE (xG D cA ad)) yXD_begin (Cond.code yXD_begin cXD_begin 2 none :: A9) 2 σ [.ref (ad 374), .int (fI p)] (f_QV (fun σ1 => σ1 = x_beg σ p) (xG D cA ad)) := by
  refine f_enter (by decide +kernel) hJ rfl (Nat.le_of_ble_eq_true rfl) ?_
  intro z hzl hR C hRt hLk hEz
  subst hzl
  have hRR : 2 ≤ z.2.2.2.1.frames ∧ 40 * 2 ≤ z.2.2.2.1.locals ∧ 0 ≤ z.2.2.2.1.cells ∧ 0 ≤ z.2.2.2.1.slots := by rw [hR]; exact ⟨Nat.le_refl _, Nat.le_refl _, Nat.zero_le _, Nat.zero_le _⟩
  refine v_aload_n C dXD_begin_0 rfl rfl ?_
  refine v_iload_n C dXD_begin_1 rfl rfl ?_
  refine v_putI (k := 374) (q := 5) C dXD_begin_2 (by show (374 : Nat) < 383; decide) rfl rfl (by decide) rfl inXD tyXD_ok nmXD lXD_30 rfl rfl rfl rfl rfl ?_
  refine v_aload_n C dXD_begin_5 rfl rfl ?_
  refine v_iconst C dXD_begin_6 ?_
  refine v_putI (k := 374) (q := 6) C dXD_begin_7 (by show (374 : Nat) < 383; decide) rfl rfl (by decide) rfl inXD tyXD_ok nmXD lXD_34 rfl rfl rfl rfl rfl ?_
  refine v_aload_n C dXD_begin_10 rfl rfl ?_
  refine v_iconst C dXD_begin_11 ?_
  refine v_putI (k := 374) (q := 4) C dXD_begin_12 (by show (374 : Nat) < 383; decide) rfl rfl (by decide) rfl inXD tyXD_ok nmXD lXD_37 rfl rfl rfl rfl rfl ?_
  refine v_aload_n C dXD_begin_15 rfl rfl ?_
  refine v_getR (k := 374) (q := 3) C dXD_begin_16 (by show (374 : Nat) < 383; decide) rfl rfl (by decide) rfl inXD lXD_22 rfl ?_
  refine v_bipush C dXD_begin_19 (by decide +kernel) ?_
  refine v_cVV (k := 377) (n := 1) C (xE_ok _) hEz hR (kX_XT_reset _ D cA ad hJ _ 377 (by decide) rfl rfl rfl (-2)) dXD_begin_21 (by show (377 : Nat) < 383; decide) rfl rfl gXD_40 (by decide +kernel) (by decide) (by decide) rfl (Nat.le_of_ble_eq_true rfl) rfl ⟨rfl, rfl⟩ (fun σ1 hp1 => ?_)
  subst σ1
  exact v_vret C hRt hLk dXD_begin_24 rfl
end
section
theorem x_behind_2 (σ : fS) (b n : Int) (x q : Nat) (h : x ≠ 9) : (x_behind σ b n).2 x q = σ.2 x q := by
  show (f_pa σ 9 _).2 x q = _
  rw [pa_2, if_neg h]
theorem x_beg_2 (σ : fS) (p : Int) (x i : Nat) (h : x ≠ 378 ∧ x ≠ 379) : (x_beg σ p).2 x i = σ.2 x i := by
  unfold x_beg
  rw [x_reset_o _ _ _ _ _ (by omega)]
  rfl
theorem x_beg_378 (σ : fS) (p : Int) (i : Nat) : (x_beg σ p).2 378 i = if i < 41 then -2 else σ.2 378 i := by
  by_cases hi : i < 41
  · rw [if_pos hi]; unfold x_beg; exact x_reset_p _ 377 _ i hi
  · rw [if_neg hi]
    unfold x_beg x_reset
    rw [x_fill_o _ _ _ _ _ _ _ (by decide)]
    show (f_pa _ (377 + 1) _).2 378 i = _
    rw [pa_2, if_pos rfl, if_neg (by omega)]
    rfl
theorem x_beg_1 (σ : fS) (p : Int) : (x_beg σ p).1 374 5 = p ∧ (x_beg σ p).1 374 6 = 0 ∧ (x_beg σ p).1 374 4 = 0 := by
  refine ⟨?_, ?_, ?_⟩
  · show (f_p1 (f_p1 (f_p1 σ 374 5 p) 374 6 0) 374 4 0).1 374 5 = p
    rw [p1_1, if_neg (by decide), p1_1, if_neg (by decide), p1_1, if_pos ⟨rfl, rfl⟩]
  · show (f_p1 (f_p1 (f_p1 σ 374 5 p) 374 6 0) 374 4 0).1 374 6 = 0
    rw [p1_1, if_neg (by decide), p1_1, if_pos ⟨rfl, rfl⟩]
  · show (f_p1 (f_p1 (f_p1 σ 374 5 p) 374 6 0) 374 4 0).1 374 4 = 0
    rw [p1_1, if_pos ⟨rfl, rfl⟩]
set_option maxRecDepth 100000 in
set_option maxHeartbeats 4000000 in
/-- putBehind -/
theorem kX_XF_putBehind (l : Launch) (D : va_G) (cA : Nat → ClassId) (ad : Nat → Nat) (hJ : f_J (xG D cA ad)) (σ : fS) (b n : Int) (hb : 0 ≤ b) (hn : 0 ≤ n ∧ n ≤ 6000) (hbn : b + n ≤ 12000) (h375 : ∀ i, -128 ≤ σ.2 375 i ∧ σ.2 375 i ≤ 127) : f_M l (xG D cA ad) (xE (xG D cA ad)) yXF_putBehind (Cond.code yXF_putBehind cXF_putBehind 4 none :: A9) 2 σ [.ref (ad 8), .int (fI b), .ref (ad 375), .int (fI n)] (f_QV (fun σ1 => σ1 = x_behind σ b n) (xG D cA ad)) := by
  refine f_enter (by decide +kernel) hJ rfl (Nat.le_of_ble_eq_true rfl) ?_
  intro z hzl hR C hRt hLk hEz
  subst hzl
  have hRR : 2 ≤ z.2.2.2.1.frames ∧ 40 * 2 ≤ z.2.2.2.1.locals ∧ 0 ≤ z.2.2.2.1.cells ∧ 0 ≤ z.2.2.2.1.slots := by rw [hR]; exact ⟨Nat.le_refl _, Nat.le_refl _, Nat.zero_le _, Nat.zero_le _⟩
  refine v_iload_n C dXF_putBehind_0 rfl rfl ?_
  refine v_if_lt (tgt := 41) C dXF_putBehind_1 (by decide) (by omega) (fun hc1 => ?_) (fun hc1 => ?_)
  · exfalso; omega
  · refine v_iload_n C dXF_putBehind_4 rfl rfl ?_
    refine v_if_lt (tgt := 41) C dXF_putBehind_5 (by decide) (by omega) (fun hc2 => ?_) (fun hc2 => ?_)
    · exfalso; omega
    · refine v_iload_n C dXF_putBehind_8 rfl rfl ?_
      refine v_aload_n C dXF_putBehind_9 rfl rfl ?_
      refine v_alen (k := 375) C dXF_putBehind_10 (by show (375 : Nat) < 383; decide) rfl rfl ?_
      refine v_icmp_gt (tgt := 41) C dXF_putBehind_11 (by decide) (by omega) (by omega) (fun hc3 => ?_) (fun hc3 => ?_)
      · exfalso; omega
      · refine v_iload_n C dXF_putBehind_14 rfl rfl ?_
        refine v_iload_n C dXF_putBehind_15 rfl rfl ?_
        refine v_iadd C dXF_putBehind_16 ?_
        refine v_sipush C dXF_putBehind_17 (by decide +kernel) ?_
        refine v_icmp_gt (tgt := 41) C dXF_putBehind_20 (by decide) (by omega) (by omega) (fun hc4 => ?_) (fun hc4 => ?_)
        · exfalso; omega
        · refine v_aload_n C dXF_putBehind_23 rfl rfl ?_
          refine v_iconst C dXF_putBehind_24 ?_
          refine v_aload_n C dXF_putBehind_25 rfl rfl ?_
          refine v_getR (k := 8) (q := 0) C dXF_putBehind_26 (by show (8 : Nat) < 383; decide) rfl rfl (by decide) rfl inXF lXF_9 rfl ?_
          refine v_iload_n C dXF_putBehind_29 rfl rfl ?_
          refine v_iload_n C dXF_putBehind_30 rfl rfl ?_
          refine v_copy (k0 := 375) (k1 := 9) (sp := 0) (dp := b) (n := n) C (in9_4 128 (by decide +kernel) rfl) (in9_2 78 (by decide +kernel) rfl) (in9_2 77 (by decide +kernel) rfl) (in9_1 22 (by decide +kernel) rfl) (by show (375 : Nat) < 383; decide) rfl (by show (9 : Nat) < 383; decide) rfl rfl rfl (by omega) (by omega) (by omega) (by omega) (by omega) (fun i => fF_byte (h375 i).1 (h375 i).2) (by rw [hR]; exact ⟨by decide, by decide +kernel⟩) dXF_putBehind_31 ?_
          refine v_aload_n C dXF_putBehind_34 rfl rfl ?_
          refine v_iload_n C dXF_putBehind_35 rfl rfl ?_
          refine v_iload_n C dXF_putBehind_36 rfl rfl ?_
          refine v_iadd C dXF_putBehind_37 ?_
          refine v_putI (k := 8) (q := 1) C dXF_putBehind_38 (by show (8 : Nat) < 383; decide) rfl rfl (by decide) rfl inXF tyXF_ok nmXF lXF_15 rfl rfl rfl rfl rfl ?_
          exact v_vret C hRt hLk dXF_putBehind_41 rfl
end
section
end
