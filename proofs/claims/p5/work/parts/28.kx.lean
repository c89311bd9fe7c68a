set_option maxRecDepth 100000 in
set_option maxHeartbeats 4000000 in
/-- isNumber(n) -/
theorem kX_XA_isNumber (l : Launch) (D : va_G) (cA : Nat → ClassId) (ad : Nat → Nat) (hJ : f_J (xG D cA ad)) (σ : fS) (n : Int) (hn : -2147483648 ≤ n ∧ n ≤ 2147483647) : f_M l (xG D cA ad) (xE (xG D cA ad)) yXA_isNumber (Cond.code yXA_isNumber cXA_isNumber 1 (some .boolean) :: A9) 0 σ [.int (fI n)] (f_QI (fun r σ1 => r = (if 1 ≤ n ∧ n ≤ 40 then 1 else 0) ∧ σ1 = σ) (xG D cA ad)) := by
  refine f_enter (by decide +kernel) hJ rfl (Nat.le_of_ble_eq_true rfl) ?_
  intro z hzl hR C hRt hLk hEz
  subst hzl
  have hRR : 0 ≤ z.2.2.2.1.frames ∧ 40 * 0 ≤ z.2.2.2.1.locals ∧ 0 ≤ z.2.2.2.1.cells ∧ 0 ≤ z.2.2.2.1.slots := by rw [hR]; exact ⟨Nat.le_refl _, Nat.le_refl _, Nat.zero_le _, Nat.zero_le _⟩
  refine v_iload_n C dXA_isNumber_0 rfl rfl ?_
  refine v_iconst C dXA_isNumber_1 ?_
  refine v_icmp_lt (tgt := 15) C dXA_isNumber_2 (by decide) (by omega) (by omega) (fun hc1 => ?_) (fun hc1 => ?_)
  · refine v_iconst C dXA_isNumber_15 ?_
    exact v_zret C hRt hLk dXA_isNumber_16 (fN_bool (by omega)) ⟨by split <;> omega, rfl⟩
  · refine v_iload_n C dXA_isNumber_5 rfl rfl ?_
    refine v_bipush C dXA_isNumber_6 (by decide +kernel) ?_
    refine v_icmp_gt (tgt := 15) C dXA_isNumber_8 (by decide) (by omega) (by omega) (fun hc2 => ?_) (fun hc2 => ?_)
    · refine v_iconst C dXA_isNumber_15 ?_
      exact v_zret C hRt hLk dXA_isNumber_16 (fN_bool (by omega)) ⟨by split <;> omega, rfl⟩
    · refine v_iconst C dXA_isNumber_11 ?_
      refine v_goto (tgt := 16) C dXA_isNumber_12 (by decide) ?_
      exact v_zret C hRt hLk dXA_isNumber_16 (fN_bool (by omega)) ⟨by split <;> omega, rfl⟩
set_option maxRecDepth 100000 in
set_option maxHeartbeats 4000000 in
/-- hasObject(n) -/
theorem kX_XS_hasObject (l : Launch) (D : va_G) (cA : Nat → ClassId) (ad : Nat → Nat) (hJ : f_J (xG D cA ad)) (σ : fS) (n : Int) (hn : -2147483648 ≤ n ∧ n ≤ 2147483647) (h2 : ∀ i, 0 ≤ σ.2 2 i ∧ σ.2 2 i ≤ 1) : f_M l (xG D cA ad) (xE (xG D cA ad)) yXS_hasObject (Cond.code yXS_hasObject cXS_hasObject 2 (some .boolean) :: A9) 1 σ [.ref (ad 1), .int (fI n)] (f_QI (fun r σ1 => r = (if (1 ≤ n ∧ n ≤ 40) ∧ σ.2 2 n.toNat = 1 then 1 else 0) ∧ σ1 = σ) (xG D cA ad)) := by
  refine f_enter (by decide +kernel) hJ rfl (Nat.le_of_ble_eq_true rfl) ?_
  intro z hzl hR C hRt hLk hEz
  subst hzl
  have hRR : 1 ≤ z.2.2.2.1.frames ∧ 40 * 1 ≤ z.2.2.2.1.locals ∧ 0 ≤ z.2.2.2.1.cells ∧ 0 ≤ z.2.2.2.1.slots := by rw [hR]; exact ⟨Nat.le_refl _, Nat.le_refl _, Nat.zero_le _, Nat.zero_le _⟩
  refine v_iload_n C dXS_hasObject_0 rfl rfl ?_
  refine u_cNI (n := 1) (host := RXA) C (xE_ok _) hEz hRR (kX_XA_isNumber _ D cA ad hJ σ (n) (by omega)) dXS_hasObject_1 (hEz.2.2.2.1 _ (by decide +kernel)) (in9_2 129 (by decide +kernel) rfl) iXA (fun w h => ((List.mem_cons.mp h).elim (fun e => e ▸ ⟨wXA_isNumber, good9 wXA_isNumber⟩) (fun h => ⟨h, good9 h⟩))) (by decide +kernel) (by decide) (by decide) rfl (Nat.le_of_ble_eq_true rfl) rfl (fun r1 σ1 hp1 => ?_)
  obtain ⟨e1, e2⟩ := hp1
  subst σ1
  refine v_if_eq (tgt := 20) C dXS_hasObject_4 (by decide) (by omega) (fun hc1 => ?_) (fun hc1 => ?_)
  · refine v_iconst C dXS_hasObject_20 ?_
    exact v_zret C hRt hLk dXS_hasObject_21 (fN_bool (by omega)) ⟨by split <;> omega, rfl⟩
  · refine v_aload_n C dXS_hasObject_7 rfl rfl ?_
    refine v_getR (k := 1) (q := 0) C dXS_hasObject_8 (by show (1 : Nat) < 383; decide) rfl rfl (by decide) rfl inXS lXS_9 rfl ?_
    refine v_iload_n C dXS_hasObject_11 rfl rfl ?_
    have hb2 := h2 (n).toNat
    refine v_zald (k := 2) (v := σ.2 2 (n).toNat) C dXS_hasObject_12 (by show (2 : Nat) < 383; decide) rfl rfl (by omega) (by decide) rfl ?_
    refine v_if_eq (tgt := 20) C dXS_hasObject_13 (by decide) (by omega) (fun hc3 => ?_) (fun hc3 => ?_)
    · refine v_iconst C dXS_hasObject_20 ?_
      exact v_zret C hRt hLk dXS_hasObject_21 (fN_bool (by omega)) ⟨by split <;> omega, rfl⟩
    · refine v_iconst C dXS_hasObject_16 ?_
      refine v_goto (tgt := 21) C dXS_hasObject_17 (by decide) ?_
      exact v_zret C hRt hLk dXS_hasObject_21 (fN_bool (by omega)) ⟨by split <;> omega, rfl⟩
set_option maxRecDepth 100000 in
set_option maxHeartbeats 4000000 in
/-- hasByte(n, i) -/
theorem kX_XS_hasByte (l : Launch) (D : va_G) (cA : Nat → ClassId) (ad : Nat → Nat) (hJ : f_J (xG D cA ad)) (σ : fS) (n i : Int) (hn : -2147483648 ≤ n ∧ n ≤ 2147483647) (hi : -2147483648 ≤ i ∧ i ≤ 2147483647) (h2 : ∀ i, 0 ≤ σ.2 2 i ∧ σ.2 2 i ≤ 1) (h4 : ∀ i, 0 ≤ σ.2 4 i ∧ σ.2 4 i ≤ 120) : f_M l (xG D cA ad) (xE (xG D cA ad)) yXS_hasByte (Cond.code yXS_hasByte cXS_hasByte 3 (some .boolean) :: A9) 2 σ [.ref (ad 1), .int (fI n), .int (fI i)] (f_QI (fun r σ1 => r = (if ((1 ≤ n ∧ n ≤ 40) ∧ σ.2 2 n.toNat = 1) ∧ 0 ≤ i ∧ i < σ.2 4 n.toNat then 1 else 0) ∧ σ1 = σ) (xG D cA ad)) := by
  refine f_enter (by decide +kernel) hJ rfl (Nat.le_of_ble_eq_true rfl) ?_
  intro z hzl hR C hRt hLk hEz
  subst hzl
  have hRR : 2 ≤ z.2.2.2.1.frames ∧ 40 * 2 ≤ z.2.2.2.1.locals ∧ 0 ≤ z.2.2.2.1.cells ∧ 0 ≤ z.2.2.2.1.slots := by rw [hR]; exact ⟨Nat.le_refl _, Nat.le_refl _, Nat.zero_le _, Nat.zero_le _⟩
  refine v_aload_n C dXS_hasByte_0 rfl rfl ?_
  refine v_iload_n C dXS_hasByte_1 rfl rfl ?_
  refine v_cVI (k := 1) (n := 1) C (xE_ok _) hEz hR (kX_XS_hasObject _ D cA ad hJ σ (n) (by omega) h2) dXS_hasByte_2 (by show (1 : Nat) < 383; decide) rfl rfl gXS_36 (by decide +kernel) (by decide) (by decide) rfl (Nat.le_of_ble_eq_true rfl) rfl ⟨rfl, rfl⟩ (fun r1 σ1 hp1 => ?_)
  obtain ⟨e1, e2⟩ := hp1
  subst σ1
  refine v_if_eq (tgt := 26) C dXS_hasByte_5 (by decide) (by omega) (fun hc1 => ?_) (fun hc1 => ?_)
  · refine v_iconst C dXS_hasByte_26 ?_
    exact v_zret C hRt hLk dXS_hasByte_27 (fN_bool (by omega)) ⟨by split <;> omega, rfl⟩
  · refine v_iload_n C dXS_hasByte_8 rfl rfl ?_
    refine v_if_lt (tgt := 26) C dXS_hasByte_9 (by decide) (by omega) (fun hc2 => ?_) (fun hc2 => ?_)
    · refine v_iconst C dXS_hasByte_26 ?_
      exact v_zret C hRt hLk dXS_hasByte_27 (fN_bool (by omega)) ⟨by split <;> omega, rfl⟩
    · refine v_iload_n C dXS_hasByte_12 rfl rfl ?_
      refine v_aload_n C dXS_hasByte_13 rfl rfl ?_
      refine v_getR (k := 1) (q := 2) C dXS_hasByte_14 (by show (1 : Nat) < 383; decide) rfl rfl (by decide) rfl inXS lXS_18 rfl ?_
      refine v_iload_n C dXS_hasByte_17 rfl rfl ?_
      have hb3 := h4 (n).toNat
      refine v_iald (k := 4) (v := σ.2 4 (n).toNat) C dXS_hasByte_18 (by show (4 : Nat) < 383; decide) rfl rfl (by omega) (by decide) rfl ?_
      refine v_icmp_ge (tgt := 26) C dXS_hasByte_19 (by decide) (by omega) (by omega) (fun hc4 => ?_) (fun hc4 => ?_)
      · refine v_iconst C dXS_hasByte_26 ?_
        exact v_zret C hRt hLk dXS_hasByte_27 (fN_bool (by omega)) ⟨by split <;> omega, rfl⟩
      · refine v_iconst C dXS_hasByte_22 ?_
        refine v_goto (tgt := 27) C dXS_hasByte_23 (by decide) ?_
        exact v_zret C hRt hLk dXS_hasByte_27 (fN_bool (by omega)) ⟨by split <;> omega, rfl⟩
set_option maxRecDepth 100000 in
set_option maxHeartbeats 4000000 in
/-- the file has a place -/
theorem kX_XF_has (l : Launch) (D : va_G) (cA : Nat → ClassId) (ad : Nat → Nat) (hJ : f_J (xG D cA ad)) (σ : fS) (i : Int) (hi : -2147483648 ≤ i ∧ i ≤ 2147483647) (hc : 0 ≤ σ.1 8 1 ∧ σ.1 8 1 ≤ 12000) : f_M l (xG D cA ad) (xE (xG D cA ad)) yXF_has (Cond.code yXF_has cXF_has 2 (some .boolean) :: A9) 0 σ [.ref (ad 8), .int (fI i)] (f_QI (fun r σ1 => r = (if 0 ≤ i ∧ i < σ.1 8 1 then 1 else 0) ∧ σ1 = σ) (xG D cA ad)) := by
  refine f_enter (by decide +kernel) hJ rfl (Nat.le_of_ble_eq_true rfl) ?_
  intro z hzl hR C hRt hLk hEz
  subst hzl
  have hRR : 0 ≤ z.2.2.2.1.frames ∧ 40 * 0 ≤ z.2.2.2.1.locals ∧ 0 ≤ z.2.2.2.1.cells ∧ 0 ≤ z.2.2.2.1.slots := by rw [hR]; exact ⟨Nat.le_refl _, Nat.le_refl _, Nat.zero_le _, Nat.zero_le _⟩
  refine v_iload_n C dXF_has_0 rfl rfl ?_
  refine v_if_lt (tgt := 16) C dXF_has_1 (by decide) (by omega) (fun hc1 => ?_) (fun hc1 => ?_)
  · refine v_iconst C dXF_has_16 ?_
    exact v_zret C hRt hLk dXF_has_17 (fN_bool (by omega)) ⟨by split <;> omega, rfl⟩
  · refine v_iload_n C dXF_has_4 rfl rfl ?_
    refine v_aload_n C dXF_has_5 rfl rfl ?_
    refine v_getI (k := 8) (q := 1) (v := σ.1 8 1) C dXF_has_6 (by show (8 : Nat) < 383; decide) rfl rfl (by decide) rfl inXF lXF_15 rfl rfl ?_
    refine v_icmp_ge (tgt := 16) C dXF_has_9 (by decide) (by omega) (by omega) (fun hc2 => ?_) (fun hc2 => ?_)
    · refine v_iconst C dXF_has_16 ?_
      exact v_zret C hRt hLk dXF_has_17 (fN_bool (by omega)) ⟨by split <;> omega, rfl⟩
    · refine v_iconst C dXF_has_12 ?_
      refine v_goto (tgt := 17) C dXF_has_13 (by decide) ?_
      exact v_zret C hRt hLk dXF_has_17 (fN_bool (by omega)) ⟨by split <;> omega, rfl⟩
set_option maxRecDepth 100000 in
set_option maxHeartbeats 4000000 in
/-- the history has a revision -/
theorem kX_XH_has (l : Launch) (D : va_G) (cA : Nat → ClassId) (ad : Nat → Nat) (hJ : f_J (xG D cA ad)) (σ : fS) (i : Int) (hi : -2147483648 ≤ i ∧ i ≤ 2147483647) (hc : 0 ≤ σ.1 10 1 ∧ σ.1 10 1 ≤ 60) : f_M l (xG D cA ad) (xE (xG D cA ad)) yXH_has (Cond.code yXH_has cXH_has 2 (some .boolean) :: A9) 0 σ [.ref (ad 10), .int (fI i)] (f_QI (fun r σ1 => r = (if 0 ≤ i ∧ i < σ.1 10 1 then 1 else 0) ∧ σ1 = σ) (xG D cA ad)) := by
  refine f_enter (by decide +kernel) hJ rfl (Nat.le_of_ble_eq_true rfl) ?_
  intro z hzl hR C hRt hLk hEz
  subst hzl
  have hRR : 0 ≤ z.2.2.2.1.frames ∧ 40 * 0 ≤ z.2.2.2.1.locals ∧ 0 ≤ z.2.2.2.1.cells ∧ 0 ≤ z.2.2.2.1.slots := by rw [hR]; exact ⟨Nat.le_refl _, Nat.le_refl _, Nat.zero_le _, Nat.zero_le _⟩
  refine v_iload_n C dXH_has_0 rfl rfl ?_
  refine v_if_lt (tgt := 16) C dXH_has_1 (by decide) (by omega) (fun hc1 => ?_) (fun hc1 => ?_)
  · refine v_iconst C dXH_has_16 ?_
    exact v_zret C hRt hLk dXH_has_17 (fN_bool (by omega)) ⟨by split <;> omega, rfl⟩
  · refine v_iload_n C dXH_has_4 rfl rfl ?_
    refine v_aload_n C dXH_has_5 rfl rfl ?_
    refine v_getI (k := 10) (q := 1) (v := σ.1 10 1) C dXH_has_6 (by show (10 : Nat) < 383; decide) rfl rfl (by decide) rfl inXH lXH_18 rfl rfl ?_
    refine v_icmp_ge (tgt := 16) C dXH_has_9 (by decide) (by omega) (by omega) (fun hc2 => ?_) (fun hc2 => ?_)
    · refine v_iconst C dXH_has_16 ?_
      exact v_zret C hRt hLk dXH_has_17 (fN_bool (by omega)) ⟨by split <;> omega, rfl⟩
    · refine v_iconst C dXH_has_12 ?_
      refine v_goto (tgt := 17) C dXH_has_13 (by decide) ?_
      exact v_zret C hRt hLk dXH_has_17 (fN_bool (by omega)) ⟨by split <;> omega, rfl⟩
set_option maxRecDepth 100000 in
set_option maxHeartbeats 4000000 in
/-- object throws IndexOutOfBoundsException -/
theorem tX_objectI (l : Launch) (D : va_G) (cA : Nat → ClassId) (ad : Nat → Nat) (hJ : f_J (xG D cA ad)) (hst : l.stackTraces = false) (σ : fS) (n len : Int) (hn : -2147483648 ≤ n ∧ n ≤ 2147483647) (hl : -2147483648 ≤ len ∧ len ≤ 2147483647) (hg : ¬ (1 ≤ n ∧ n ≤ 40)) : tx_M l (xG D cA ad) (xE (xG D cA ad)) yXA_object (Cond.code yXA_object cXA_object 3 none :: A9) 6 1 6 σ [.ref (ad 0), .int (fI n), .int (fI len)] "java/lang/IndexOutOfBoundsException" (fun σ1 => σ1 = σ) := by
  refine tx_enter (by decide +kernel) hJ rfl (Nat.le_of_ble_eq_true rfl) ?_
  intro z hzl hR C htab hLk hEz
  subst hzl
  have hRR : 6 ≤ z.2.2.2.1.frames ∧ 40 * 6 ≤ z.2.2.2.1.locals ∧ 0 ≤ z.2.2.2.1.cells ∧ 0 ≤ z.2.2.2.1.slots := by rw [hR]; exact ⟨Nat.le_refl _, Nat.le_refl _, Nat.zero_le _, Nat.zero_le _⟩
  refine v_iload_n C dXA_object_0 rfl rfl ?_
  refine u_cSI (n := 1) C (xE_ok _) hEz hRR (kX_XA_isNumber _ D cA ad hJ σ (n) (by omega)) dXA_object_1 gXA_55 (by decide +kernel) (by decide) (by decide) rfl (Nat.le_of_ble_eq_true rfl) rfl (fun r1 σ1 hp1 => ?_)
  obtain ⟨e1, e2⟩ := hp1
  subst σ1
  rw [if_neg (by omega)] at e1
  subst r1
  refine v_if_ne (tgt := 17) C dXA_object_4 (by decide) (by omega) (fun hc1 => ?_) (fun hc1 => ?_)
  · exfalso; omega
  · exact x_throw (is := 61) (text := "no such object") C hEz hst htab hLk (by decide +kernel) (by decide +kernel) x_wI (by decide +kernel) dXA_object_7 dXA_object_10 dXA_object_11 dXA_object_13 dXA_object_16 (by rw [hR]; exact ⟨by decide, by decide, by decide, by decide⟩) ⟨by decide, by decide⟩ rfl
set_option maxRecDepth 100000 in
set_option maxHeartbeats 4000000 in
/-- object throws IllegalArgumentException -/
theorem tX_objectA (l : Launch) (D : va_G) (cA : Nat → ClassId) (ad : Nat → Nat) (hJ : f_J (xG D cA ad)) (hst : l.stackTraces = false) (σ : fS) (n len : Int) (hn : -2147483648 ≤ n ∧ n ≤ 2147483647) (hl : -2147483648 ≤ len ∧ len ≤ 2147483647) (hg : 1 ≤ n ∧ n ≤ 40) (hg2 : ¬ (0 ≤ len ∧ len ≤ 120)) : tx_M l (xG D cA ad) (xE (xG D cA ad)) yXA_object (Cond.code yXA_object cXA_object 3 none :: A9) 6 1 6 σ [.ref (ad 0), .int (fI n), .int (fI len)] "java/lang/IllegalArgumentException" (fun σ1 => σ1 = σ) := by
  refine tx_enter (by decide +kernel) hJ rfl (Nat.le_of_ble_eq_true rfl) ?_
  intro z hzl hR C htab hLk hEz
  subst hzl
  have hRR : 6 ≤ z.2.2.2.1.frames ∧ 40 * 6 ≤ z.2.2.2.1.locals ∧ 0 ≤ z.2.2.2.1.cells ∧ 0 ≤ z.2.2.2.1.slots := by rw [hR]; exact ⟨Nat.le_refl _, Nat.le_refl _, Nat.zero_le _, Nat.zero_le _⟩
  refine v_iload_n C dXA_object_0 rfl rfl ?_
  refine u_cSI (n := 1) C (xE_ok _) hEz hRR (kX_XA_isNumber _ D cA ad hJ σ (n) (by omega)) dXA_object_1 gXA_55 (by decide +kernel) (by decide) (by decide) rfl (Nat.le_of_ble_eq_true rfl) rfl (fun r1 σ1 hp1 => ?_)
  obtain ⟨e1, e2⟩ := hp1
  subst σ1
  rw [if_pos (by omega)] at e1
  subst r1
  refine v_if_ne (tgt := 17) C dXA_object_4 (by decide) (by omega) (fun hc1 => ?_) (fun hc1 => ?_)
  · refine v_iload_n C dXA_object_17 rfl rfl ?_
    refine v_if_lt (tgt := 27) C dXA_object_18 (by decide) (by omega) (fun hc2 => ?_) (fun hc2 => ?_)
    · exact x_throw (is := 68) (text := "an object has 0 .. 120 bytes") C hEz hst htab hLk (by decide +kernel) (by decide +kernel) x_wA (by decide +kernel) dXA_object_27 dXA_object_30 dXA_object_31 dXA_object_33 dXA_object_36 (by rw [hR]; exact ⟨by decide, by decide, by decide, by decide⟩) ⟨by decide, by decide⟩ rfl
    · refine v_iload_n C dXA_object_21 rfl rfl ?_
      refine v_bipush C dXA_object_22 (by decide +kernel) ?_
      refine v_icmp_le (tgt := 37) C dXA_object_24 (by decide) (by omega) (by omega) (fun hc3 => ?_) (fun hc3 => ?_)
      · exfalso; omega
      · exact x_throw (is := 68) (text := "an object has 0 .. 120 bytes") C hEz hst htab hLk (by decide +kernel) (by decide +kernel) x_wA (by decide +kernel) dXA_object_27 dXA_object_30 dXA_object_31 dXA_object_33 dXA_object_36 (by rw [hR]; exact ⟨by decide, by decide, by decide, by decide⟩) ⟨by decide, by decide⟩ rfl
  · exfalso; omega
set_option maxRecDepth 100000 in
set_option maxHeartbeats 4000000 in
/-- octet throws IndexOutOfBoundsException -/
theorem tX_octet (l : Launch) (D : va_G) (cA : Nat → ClassId) (ad : Nat → Nat) (hJ : f_J (xG D cA ad)) (hst : l.stackTraces = false) (σ : fS) (n i b : Int) (hn : -2147483648 ≤ n ∧ n ≤ 2147483647) (hi : -2147483648 ≤ i ∧ i ≤ 2147483647) (h2 : ∀ i, 0 ≤ σ.2 2 i ∧ σ.2 2 i ≤ 1) (h4 : ∀ i, 0 ≤ σ.2 4 i ∧ σ.2 4 i ≤ 120) (hg : ¬ (((1 ≤ n ∧ n ≤ 40) ∧ σ.2 2 n.toNat = 1) ∧ 0 ≤ i ∧ i < σ.2 4 n.toNat)) : tx_M l (xG D cA ad) (xE (xG D cA ad)) yXA_octet (Cond.code yXA_octet cXA_octet 4 (some .byte) :: A9) 6 1 6 σ [.ref (ad 0), .int (fI n), .int (fI i), .int (fI b)] "java/lang/IndexOutOfBoundsException" (fun σ1 => σ1 = σ) := by
  refine tx_enter (by decide +kernel) hJ rfl (Nat.le_of_ble_eq_true rfl) ?_
  intro z hzl hR C htab hLk hEz
  subst hzl
  have hRR : 6 ≤ z.2.2.2.1.frames ∧ 40 * 6 ≤ z.2.2.2.1.locals ∧ 0 ≤ z.2.2.2.1.cells ∧ 0 ≤ z.2.2.2.1.slots := by rw [hR]; exact ⟨Nat.le_refl _, Nat.le_refl _, Nat.zero_le _, Nat.zero_le _⟩
  refine v_aload_n C dXA_octet_0 rfl rfl ?_
  refine v_getR (k := 0) (q := 0) C dXA_octet_1 (by show (0 : Nat) < 383; decide) rfl rfl (by decide) rfl inXA lXA_10 rfl ?_
  refine v_iload_n C dXA_octet_4 rfl rfl ?_
  refine v_iload_n C dXA_octet_5 rfl rfl ?_
  refine u_cVI (k := 1) (n := 2) C (xE_ok _) hEz hRR (kX_XS_hasByte _ D cA ad hJ σ (n) (i) (by omega) (by omega) h2 h4) dXA_octet_6 (by show (1 : Nat) < 383; decide) rfl rfl gXA_75 (by decide +kernel) (by decide) (by decide) rfl (Nat.le_of_ble_eq_true rfl) rfl (fun r1 σ1 hp1 => ?_)
  obtain ⟨e1, e2⟩ := hp1
  subst σ1
  rw [if_neg hg] at e1
  subst r1
  refine v_if_ne (tgt := 22) C dXA_octet_9 (by decide) (by omega) (fun hc1 => ?_) (fun hc1 => ?_)
  · exfalso; omega
  · exact x_throw (is := 79) (text := "no such byte of an object") C hEz hst htab hLk (by decide +kernel) (by decide +kernel) x_wI (by decide +kernel) dXA_octet_12 dXA_octet_15 dXA_octet_16 dXA_octet_18 dXA_octet_21 (by rw [hR]; exact ⟨by decide, by decide, by decide, by decide⟩) ⟨by decide, by decide⟩ rfl
set_option maxRecDepth 100000 in
set_option maxHeartbeats 4000000 in
/-- byteOf throws IndexOutOfBoundsException -/
theorem tX_byteOf (l : Launch) (D : va_G) (cA : Nat → ClassId) (ad : Nat → Nat) (hJ : f_J (xG D cA ad)) (hst : l.stackTraces = false) (σ : fS) (n i : Int) (hn : -2147483648 ≤ n ∧ n ≤ 2147483647) (hi : -2147483648 ≤ i ∧ i ≤ 2147483647) (h2 : ∀ i, 0 ≤ σ.2 2 i ∧ σ.2 2 i ≤ 1) (h4 : ∀ i, 0 ≤ σ.2 4 i ∧ σ.2 4 i ≤ 120) (hg : ¬ (((1 ≤ n ∧ n ≤ 40) ∧ σ.2 2 n.toNat = 1) ∧ 0 ≤ i ∧ i < σ.2 4 n.toNat)) : tx_M l (xG D cA ad) (xE (xG D cA ad)) yXA_byteOf (Cond.code yXA_byteOf cXA_byteOf 3 (some .byte) :: A9) 6 1 6 σ [.ref (ad 0), .int (fI n), .int (fI i)] "java/lang/IndexOutOfBoundsException" (fun σ1 => σ1 = σ) := by
  refine tx_enter (by decide +kernel) hJ rfl (Nat.le_of_ble_eq_true rfl) ?_
  intro z hzl hR C htab hLk hEz
  subst hzl
  have hRR : 6 ≤ z.2.2.2.1.frames ∧ 40 * 6 ≤ z.2.2.2.1.locals ∧ 0 ≤ z.2.2.2.1.cells ∧ 0 ≤ z.2.2.2.1.slots := by rw [hR]; exact ⟨Nat.le_refl _, Nat.le_refl _, Nat.zero_le _, Nat.zero_le _⟩
  refine v_aload_n C dXA_byteOf_0 rfl rfl ?_
  refine v_getR (k := 0) (q := 0) C dXA_byteOf_1 (by show (0 : Nat) < 383; decide) rfl rfl (by decide) rfl inXA lXA_10 rfl ?_
  refine v_iload_n C dXA_byteOf_4 rfl rfl ?_
  refine v_iload_n C dXA_byteOf_5 rfl rfl ?_
  refine u_cVI (k := 1) (n := 2) C (xE_ok _) hEz hRR (kX_XS_hasByte _ D cA ad hJ σ (n) (i) (by omega) (by omega) h2 h4) dXA_byteOf_6 (by show (1 : Nat) < 383; decide) rfl rfl gXA_75 (by decide +kernel) (by decide) (by decide) rfl (Nat.le_of_ble_eq_true rfl) rfl (fun r1 σ1 hp1 => ?_)
  obtain ⟨e1, e2⟩ := hp1
  subst σ1
  rw [if_neg hg] at e1
  subst r1
  refine v_if_ne (tgt := 22) C dXA_byteOf_9 (by decide) (by omega) (fun hc1 => ?_) (fun hc1 => ?_)
  · exfalso; omega
  · exact x_throw (is := 79) (text := "no such byte of an object") C hEz hst htab hLk (by decide +kernel) (by decide +kernel) x_wI (by decide +kernel) dXA_byteOf_12 dXA_byteOf_15 dXA_byteOf_16 dXA_byteOf_18 dXA_byteOf_21 (by rw [hR]; exact ⟨by decide, by decide, by decide, by decide⟩) ⟨by decide, by decide⟩ rfl
set_option maxRecDepth 100000 in
set_option maxHeartbeats 4000000 in
/-- drop throws IndexOutOfBoundsException -/
theorem tX_drop (l : Launch) (D : va_G) (cA : Nat → ClassId) (ad : Nat → Nat) (hJ : f_J (xG D cA ad)) (hst : l.stackTraces = false) (σ : fS) (n : Int) (hn : -2147483648 ≤ n ∧ n ≤ 2147483647) (hg : ¬ (1 ≤ n ∧ n ≤ 40)) : tx_M l (xG D cA ad) (xE (xG D cA ad)) yXA_drop (Cond.code yXA_drop cXA_drop 3 (some .boolean) :: A9) 6 1 6 σ [.ref (ad 0), .int (fI n)] "java/lang/IndexOutOfBoundsException" (fun σ1 => σ1 = σ) := by
  refine tx_enter (by decide +kernel) hJ rfl (Nat.le_of_ble_eq_true rfl) ?_
  intro z hzl hR C htab hLk hEz
  subst hzl
  have hRR : 6 ≤ z.2.2.2.1.frames ∧ 40 * 6 ≤ z.2.2.2.1.locals ∧ 0 ≤ z.2.2.2.1.cells ∧ 0 ≤ z.2.2.2.1.slots := by rw [hR]; exact ⟨Nat.le_refl _, Nat.le_refl _, Nat.zero_le _, Nat.zero_le _⟩
  refine v_iload_n C dXA_drop_0 rfl rfl ?_
  refine u_cSI (n := 1) C (xE_ok _) hEz hRR (kX_XA_isNumber _ D cA ad hJ σ (n) (by omega)) dXA_drop_1 gXA_55 (by decide +kernel) (by decide) (by decide) rfl (Nat.le_of_ble_eq_true rfl) rfl (fun r1 σ1 hp1 => ?_)
  obtain ⟨e1, e2⟩ := hp1
  subst σ1
  rw [if_neg (by omega)] at e1
  subst r1
  refine v_if_ne (tgt := 17) C dXA_drop_4 (by decide) (by omega) (fun hc1 => ?_) (fun hc1 => ?_)
  · exfalso; omega
  · exact x_throw (is := 61) (text := "no such object") C hEz hst htab hLk (by decide +kernel) (by decide +kernel) x_wI (by decide +kernel) dXA_drop_7 dXA_drop_10 dXA_drop_11 dXA_drop_13 dXA_drop_16 (by rw [hR]; exact ⟨by decide, by decide, by decide, by decide⟩) ⟨by decide, by decide⟩ rfl
set_option maxRecDepth 100000 in
set_option maxHeartbeats 4000000 in
/-- length throws IndexOutOfBoundsException -/
theorem tX_length (l : Launch) (D : va_G) (cA : Nat → ClassId) (ad : Nat → Nat) (hJ : f_J (xG D cA ad)) (hst : l.stackTraces = false) (σ : fS) (n : Int) (hn : -2147483648 ≤ n ∧ n ≤ 2147483647) (hg : ¬ (1 ≤ n ∧ n ≤ 40)) : tx_M l (xG D cA ad) (xE (xG D cA ad)) yXA_length (Cond.code yXA_length cXA_length 2 (some .int) :: A9) 6 1 6 σ [.ref (ad 0), .int (fI n)] "java/lang/IndexOutOfBoundsException" (fun σ1 => σ1 = σ) := by
  refine tx_enter (by decide +kernel) hJ rfl (Nat.le_of_ble_eq_true rfl) ?_
  intro z hzl hR C htab hLk hEz
  subst hzl
  have hRR : 6 ≤ z.2.2.2.1.frames ∧ 40 * 6 ≤ z.2.2.2.1.locals ∧ 0 ≤ z.2.2.2.1.cells ∧ 0 ≤ z.2.2.2.1.slots := by rw [hR]; exact ⟨Nat.le_refl _, Nat.le_refl _, Nat.zero_le _, Nat.zero_le _⟩
  refine v_iload_n C dXA_length_0 rfl rfl ?_
  refine u_cSI (n := 1) C (xE_ok _) hEz hRR (kX_XA_isNumber _ D cA ad hJ σ (n) (by omega)) dXA_length_1 gXA_55 (by decide +kernel) (by decide) (by decide) rfl (Nat.le_of_ble_eq_true rfl) rfl (fun r1 σ1 hp1 => ?_)
  obtain ⟨e1, e2⟩ := hp1
  subst σ1
  rw [if_neg (by omega)] at e1
  subst r1
  refine v_if_ne (tgt := 17) C dXA_length_4 (by decide) (by omega) (fun hc1 => ?_) (fun hc1 => ?_)
  · exfalso; omega
  · exact x_throw (is := 61) (text := "no such object") C hEz hst htab hLk (by decide +kernel) (by decide +kernel) x_wI (by decide +kernel) dXA_length_7 dXA_length_10 dXA_length_11 dXA_length_13 dXA_length_16 (by rw [hR]; exact ⟨by decide, by decide, by decide, by decide⟩) ⟨by decide, by decide⟩ rfl
set_option maxRecDepth 100000 in
set_option maxHeartbeats 4000000 in
/-- first throws IndexOutOfBoundsException -/
theorem tX_first (l : Launch) (D : va_G) (cA : Nat → ClassId) (ad : Nat → Nat) (hJ : f_J (xG D cA ad)) (hst : l.stackTraces = false) (σ : fS) (n on : Int) (hn : -2147483648 ≤ n ∧ n ≤ 2147483647) (h2 : ∀ i, 0 ≤ σ.2 2 i ∧ σ.2 2 i ≤ 1) (hg : ¬ ((1 ≤ n ∧ n ≤ 40) ∧ σ.2 2 n.toNat = 1)) : tx_M l (xG D cA ad) (xE (xG D cA ad)) yXA_first (Cond.code yXA_first cXA_first 4 (some .boolean) :: A9) 6 1 6 σ [.ref (ad 0), .int (fI n), .int (fI on)] "java/lang/IndexOutOfBoundsException" (fun σ1 => σ1 = σ) := by
  refine tx_enter (by decide +kernel) hJ rfl (Nat.le_of_ble_eq_true rfl) ?_
  intro z hzl hR C htab hLk hEz
  subst hzl
  have hRR : 6 ≤ z.2.2.2.1.frames ∧ 40 * 6 ≤ z.2.2.2.1.locals ∧ 0 ≤ z.2.2.2.1.cells ∧ 0 ≤ z.2.2.2.1.slots := by rw [hR]; exact ⟨Nat.le_refl _, Nat.le_refl _, Nat.zero_le _, Nat.zero_le _⟩
  refine v_aload_n C dXA_first_0 rfl rfl ?_
  refine v_getR (k := 0) (q := 0) C dXA_first_1 (by show (0 : Nat) < 383; decide) rfl rfl (by decide) rfl inXA lXA_10 rfl ?_
  refine v_iload_n C dXA_first_4 rfl rfl ?_
  refine u_cVI (k := 1) (n := 1) C (xE_ok _) hEz hRR (kX_XS_hasObject _ D cA ad hJ σ (n) (by omega) h2) dXA_first_5 (by show (1 : Nat) < 383; decide) rfl rfl gXA_89 (by decide +kernel) (by decide) (by decide) rfl (Nat.le_of_ble_eq_true rfl) rfl (fun r1 σ1 hp1 => ?_)
  obtain ⟨e1, e2⟩ := hp1
  subst σ1
  rw [if_neg hg] at e1
  subst r1
  refine v_if_ne (tgt := 21) C dXA_first_8 (by decide) (by omega) (fun hc1 => ?_) (fun hc1 => ?_)
  · exfalso; omega
  · exact x_throw (is := 61) (text := "no such object") C hEz hst htab hLk (by decide +kernel) (by decide +kernel) x_wI (by decide +kernel) dXA_first_11 dXA_first_14 dXA_first_15 dXA_first_17 dXA_first_20 (by rw [hR]; exact ⟨by decide, by decide, by decide, by decide⟩) ⟨by decide, by decide⟩ rfl
set_option maxRecDepth 100000 in
set_option maxHeartbeats 4000000 in
/-- write throws IllegalArgumentException -/
theorem tX_writeA (l : Launch) (D : va_G) (cA : Nat → ClassId) (ad : Nat → Nat) (hJ : f_J (xG D cA ad)) (hst : l.stackTraces = false) (σ : fS) (how : Int) (hn : -2147483648 ≤ how ∧ how ≤ 2147483647) (hg : ¬ (0 ≤ how ∧ how ≤ 2)) : tx_M l (xG D cA ad) (xE (xG D cA ad)) yXA_write (Cond.code yXA_write cXA_write 2 (some .int) :: A9) 6 1 6 σ [.ref (ad 0), .int (fI how)] "java/lang/IllegalArgumentException" (fun σ1 => σ1 = σ) := by
  refine tx_enter (by decide +kernel) hJ rfl (Nat.le_of_ble_eq_true rfl) ?_
  intro z hzl hR C htab hLk hEz
  subst hzl
  have hRR : 6 ≤ z.2.2.2.1.frames ∧ 40 * 6 ≤ z.2.2.2.1.locals ∧ 0 ≤ z.2.2.2.1.cells ∧ 0 ≤ z.2.2.2.1.slots := by rw [hR]; exact ⟨Nat.le_refl _, Nat.le_refl _, Nat.zero_le _, Nat.zero_le _⟩
  refine v_iload_n C dXA_write_0 rfl rfl ?_
  refine v_if_lt (tgt := 9) C dXA_write_1 (by decide) (by omega) (fun hc1 => ?_) (fun hc1 => ?_)
  · exact x_throw (is := 95) (text := "how is 0 .. 2") C hEz hst htab hLk (by decide +kernel) (by decide +kernel) x_wA (by decide +kernel) dXA_write_9 dXA_write_12 dXA_write_13 dXA_write_15 dXA_write_18 (by rw [hR]; exact ⟨by decide, by decide, by decide, by decide⟩) ⟨by decide, by decide⟩ rfl
  · refine v_iload_n C dXA_write_4 rfl rfl ?_
    refine v_iconst C dXA_write_5 ?_
    refine v_icmp_le (tgt := 19) C dXA_write_6 (by decide) (by omega) (by omega) (fun hc2 => ?_) (fun hc2 => ?_)
    · exfalso; omega
    · exact x_throw (is := 95) (text := "how is 0 .. 2") C hEz hst htab hLk (by decide +kernel) (by decide +kernel) x_wA (by decide +kernel) dXA_write_9 dXA_write_12 dXA_write_13 dXA_write_15 dXA_write_18 (by rw [hR]; exact ⟨by decide, by decide, by decide, by decide⟩) ⟨by decide, by decide⟩ rfl
set_option maxRecDepth 100000 in
set_option maxHeartbeats 4000000 in
/-- append throws IllegalStateException -/
theorem tX_appendS (l : Launch) (D : va_G) (cA : Nat → ClassId) (ad : Nat → Nat) (hJ : f_J (xG D cA ad)) (hst : l.stackTraces = false) (σ : fS) (hc : 0 ≤ σ.1 8 1 ∧ σ.1 8 1 ≤ 12000) (ha : 0 ≤ σ.1 8 2 ∧ σ.1 8 2 ≤ 1) (hg : σ.1 8 1 = 0 ∨ σ.1 8 2 = 1) : tx_M l (xG D cA ad) (xE (xG D cA ad)) yXA_append (Cond.code yXA_append cXA_append 1 (some .int) :: A9) 6 1 6 σ [.ref (ad 0)] "java/lang/IllegalStateException" (fun σ1 => σ1 = σ) := by
  refine tx_enter (by decide +kernel) hJ rfl (Nat.le_of_ble_eq_true rfl) ?_
  intro z hzl hR C htab hLk hEz
  subst hzl
  have hRR : 6 ≤ z.2.2.2.1.frames ∧ 40 * 6 ≤ z.2.2.2.1.locals ∧ 0 ≤ z.2.2.2.1.cells ∧ 0 ≤ z.2.2.2.1.slots := by rw [hR]; exact ⟨Nat.le_refl _, Nat.le_refl _, Nat.zero_le _, Nat.zero_le _⟩
  refine v_aload_n C dXA_append_0 rfl rfl ?_
  refine v_getR (k := 0) (q := 1) C dXA_append_1 (by show (0 : Nat) < 383; decide) rfl rfl (by decide) rfl inXA lXA_19 rfl ?_
  refine v_getI (k := 8) (q := 1) (v := σ.1 8 1) C dXA_append_4 (by show (8 : Nat) < 383; decide) rfl rfl (by decide) rfl inXF lXA_131 rfl rfl ?_
  refine v_if_eq (tgt := 20) C dXA_append_7 (by decide) (by omega) (fun hc1 => ?_) (fun hc1 => ?_)
  · exact x_throw (is := 138) (text := "the file is empty or altered") C hEz hst htab hLk (by decide +kernel) (by decide +kernel) x_wS (by decide +kernel) dXA_append_20 dXA_append_23 dXA_append_24 dXA_append_26 dXA_append_29 (by rw [hR]; exact ⟨by decide, by decide, by decide, by decide⟩) ⟨by decide, by decide⟩ rfl
  · refine v_aload_n C dXA_append_10 rfl rfl ?_
    refine v_getR (k := 0) (q := 1) C dXA_append_11 (by show (0 : Nat) < 383; decide) rfl rfl (by decide) rfl inXA lXA_19 rfl ?_
    refine v_getI (k := 8) (q := 2) (v := σ.1 8 2) C dXA_append_14 (by show (8 : Nat) < 383; decide) rfl rfl (by decide) rfl inXF lXA_132 rfl rfl ?_
    refine v_if_eq (tgt := 30) C dXA_append_17 (by decide) (by omega) (fun hc2 => ?_) (fun hc2 => ?_)
    · exfalso; omega
    · exact x_throw (is := 138) (text := "the file is empty or altered") C hEz hst htab hLk (by decide +kernel) (by decide +kernel) x_wS (by decide +kernel) dXA_append_20 dXA_append_23 dXA_append_24 dXA_append_26 dXA_append_29 (by rw [hR]; exact ⟨by decide, by decide, by decide, by decide⟩) ⟨by decide, by decide⟩ rfl
set_option maxRecDepth 100000 in
set_option maxHeartbeats 4000000 in
/-- poke throws IndexOutOfBoundsException -/
theorem tX_poke (l : Launch) (D : va_G) (cA : Nat → ClassId) (ad : Nat → Nat) (hJ : f_J (xG D cA ad)) (hst : l.stackTraces = false) (σ : fS) (i b : Int) (hi : -2147483648 ≤ i ∧ i ≤ 2147483647) (hc : 0 ≤ σ.1 8 1 ∧ σ.1 8 1 ≤ 12000) (hg : ¬ (0 ≤ i ∧ i < σ.1 8 1)) : tx_M l (xG D cA ad) (xE (xG D cA ad)) yXA_poke (Cond.code yXA_poke cXA_poke 4 (some .byte) :: A9) 6 1 6 σ [.ref (ad 0), .int (fI i), .int (fI b)] "java/lang/IndexOutOfBoundsException" (fun σ1 => σ1 = σ) := by
  refine tx_enter (by decide +kernel) hJ rfl (Nat.le_of_ble_eq_true rfl) ?_
  intro z hzl hR C htab hLk hEz
  subst hzl
  have hRR : 6 ≤ z.2.2.2.1.frames ∧ 40 * 6 ≤ z.2.2.2.1.locals ∧ 0 ≤ z.2.2.2.1.cells ∧ 0 ≤ z.2.2.2.1.slots := by rw [hR]; exact ⟨Nat.le_refl _, Nat.le_refl _, Nat.zero_le _, Nat.zero_le _⟩
  refine v_aload_n C dXA_poke_0 rfl rfl ?_
  refine v_getR (k := 0) (q := 1) C dXA_poke_1 (by show (0 : Nat) < 383; decide) rfl rfl (by decide) rfl inXA lXA_19 rfl ?_
  refine v_iload_n C dXA_poke_4 rfl rfl ?_
  refine u_cVI (k := 8) (n := 1) C (xE_ok _) hEz hRR (kX_XF_has _ D cA ad hJ σ (i) (by omega) hc) dXA_poke_5 (by show (8 : Nat) < 383; decide) rfl rfl gXA_159 (by decide +kernel) (by decide) (by decide) rfl (Nat.le_of_ble_eq_true rfl) rfl (fun r1 σ1 hp1 => ?_)
  obtain ⟨e1, e2⟩ := hp1
  subst σ1
  rw [if_neg hg] at e1
  subst r1
  refine v_if_ne (tgt := 21) C dXA_poke_8 (by decide) (by omega) (fun hc1 => ?_) (fun hc1 => ?_)
  · exfalso; omega
  · exact x_throw (is := 162) (text := "no such place") C hEz hst htab hLk (by decide +kernel) (by decide +kernel) x_wI (by decide +kernel) dXA_poke_11 dXA_poke_14 dXA_poke_15 dXA_poke_17 dXA_poke_20 (by rw [hR]; exact ⟨by decide, by decide, by decide, by decide⟩) ⟨by decide, by decide⟩ rfl
set_option maxRecDepth 100000 in
set_option maxHeartbeats 4000000 in
/-- at throws IndexOutOfBoundsException -/
theorem tX_at (l : Launch) (D : va_G) (cA : Nat → ClassId) (ad : Nat → Nat) (hJ : f_J (xG D cA ad)) (hst : l.stackTraces = false) (σ : fS) (i : Int) (hi : -2147483648 ≤ i ∧ i ≤ 2147483647) (hc : 0 ≤ σ.1 8 1 ∧ σ.1 8 1 ≤ 12000) (hg : ¬ (0 ≤ i ∧ i < σ.1 8 1)) : tx_M l (xG D cA ad) (xE (xG D cA ad)) yXA_at (Cond.code yXA_at cXA_at 2 (some .byte) :: A9) 6 1 6 σ [.ref (ad 0), .int (fI i)] "java/lang/IndexOutOfBoundsException" (fun σ1 => σ1 = σ) := by
  refine tx_enter (by decide +kernel) hJ rfl (Nat.le_of_ble_eq_true rfl) ?_
  intro z hzl hR C htab hLk hEz
  subst hzl
  have hRR : 6 ≤ z.2.2.2.1.frames ∧ 40 * 6 ≤ z.2.2.2.1.locals ∧ 0 ≤ z.2.2.2.1.cells ∧ 0 ≤ z.2.2.2.1.slots := by rw [hR]; exact ⟨Nat.le_refl _, Nat.le_refl _, Nat.zero_le _, Nat.zero_le _⟩
  refine v_aload_n C dXA_at_0 rfl rfl ?_
  refine v_getR (k := 0) (q := 1) C dXA_at_1 (by show (0 : Nat) < 383; decide) rfl rfl (by decide) rfl inXA lXA_19 rfl ?_
  refine v_iload_n C dXA_at_4 rfl rfl ?_
  refine u_cVI (k := 8) (n := 1) C (xE_ok _) hEz hRR (kX_XF_has _ D cA ad hJ σ (i) (by omega) hc) dXA_at_5 (by show (8 : Nat) < 383; decide) rfl rfl gXA_159 (by decide +kernel) (by decide) (by decide) rfl (Nat.le_of_ble_eq_true rfl) rfl (fun r1 σ1 hp1 => ?_)
  obtain ⟨e1, e2⟩ := hp1
  subst σ1
  rw [if_neg hg] at e1
  subst r1
  refine v_if_ne (tgt := 21) C dXA_at_8 (by decide) (by omega) (fun hc1 => ?_) (fun hc1 => ?_)
  · exfalso; omega
  · exact x_throw (is := 162) (text := "no such place") C hEz hst htab hLk (by decide +kernel) (by decide +kernel) x_wI (by decide +kernel) dXA_at_11 dXA_at_14 dXA_at_15 dXA_at_17 dXA_at_20 (by rw [hR]; exact ⟨by decide, by decide, by decide, by decide⟩) ⟨by decide, by decide⟩ rfl
set_option maxRecDepth 100000 in
set_option maxHeartbeats 4000000 in
/-- take throws IndexOutOfBoundsException -/
theorem tX_take (l : Launch) (D : va_G) (cA : Nat → ClassId) (ad : Nat → Nat) (hJ : f_J (xG D cA ad)) (hst : l.stackTraces = false) (σ : fS) (i : Int) (hi : -2147483648 ≤ i ∧ i ≤ 2147483647) (hc : 0 ≤ σ.1 10 1 ∧ σ.1 10 1 ≤ 60) (hg : ¬ (0 ≤ i ∧ i < σ.1 10 1)) : tx_M l (xG D cA ad) (xE (xG D cA ad)) yXA_take (Cond.code yXA_take cXA_take 2 (some .int) :: A9) 6 1 6 σ [.ref (ad 0), .int (fI i)] "java/lang/IndexOutOfBoundsException" (fun σ1 => σ1 = σ) := by
  refine tx_enter (by decide +kernel) hJ rfl (Nat.le_of_ble_eq_true rfl) ?_
  intro z hzl hR C htab hLk hEz
  subst hzl
  have hRR : 6 ≤ z.2.2.2.1.frames ∧ 40 * 6 ≤ z.2.2.2.1.locals ∧ 0 ≤ z.2.2.2.1.cells ∧ 0 ≤ z.2.2.2.1.slots := by rw [hR]; exact ⟨Nat.le_refl _, Nat.le_refl _, Nat.zero_le _, Nat.zero_le _⟩
  refine v_aload_n C dXA_take_0 rfl rfl ?_
  refine v_getR (k := 0) (q := 2) C dXA_take_1 (by show (0 : Nat) < 383; decide) rfl rfl (by decide) rfl inXA lXA_26 rfl ?_
  refine v_iload_n C dXA_take_4 rfl rfl ?_
  refine u_cVI (k := 10) (n := 1) C (xE_ok _) hEz hRR (kX_XH_has _ D cA ad hJ σ (i) (by omega) hc) dXA_take_5 (by show (10 : Nat) < 383; decide) rfl rfl gXA_168 (by decide +kernel) (by decide) (by decide) rfl (Nat.le_of_ble_eq_true rfl) rfl (fun r1 σ1 hp1 => ?_)
  obtain ⟨e1, e2⟩ := hp1
  subst σ1
  rw [if_neg hg] at e1
  subst r1
  refine v_if_ne (tgt := 21) C dXA_take_8 (by decide) (by omega) (fun hc1 => ?_) (fun hc1 => ?_)
  · exfalso; omega
  · exact x_throw (is := 169) (text := "no such revision") C hEz hst htab hLk (by decide +kernel) (by decide +kernel) x_wI (by decide +kernel) dXA_take_11 dXA_take_14 dXA_take_15 dXA_take_17 dXA_take_20 (by rw [hR]; exact ⟨by decide, by decide, by decide, by decide⟩) ⟨by decide, by decide⟩ rfl
set_option maxRecDepth 100000 in
set_option maxHeartbeats 4000000 in
/-- size throws IndexOutOfBoundsException -/
theorem tX_size (l : Launch) (D : va_G) (cA : Nat → ClassId) (ad : Nat → Nat) (hJ : f_J (xG D cA ad)) (hst : l.stackTraces = false) (σ : fS) (i : Int) (hi : -2147483648 ≤ i ∧ i ≤ 2147483647) (hc : 0 ≤ σ.1 10 1 ∧ σ.1 10 1 ≤ 60) (hg : ¬ (0 ≤ i ∧ i < σ.1 10 1)) : tx_M l (xG D cA ad) (xE (xG D cA ad)) yXA_size (Cond.code yXA_size cXA_size 2 (some .int) :: A9) 6 1 6 σ [.ref (ad 0), .int (fI i)] "java/lang/IndexOutOfBoundsException" (fun σ1 => σ1 = σ) := by
  refine tx_enter (by decide +kernel) hJ rfl (Nat.le_of_ble_eq_true rfl) ?_
  intro z hzl hR C htab hLk hEz
  subst hzl
  have hRR : 6 ≤ z.2.2.2.1.frames ∧ 40 * 6 ≤ z.2.2.2.1.locals ∧ 0 ≤ z.2.2.2.1.cells ∧ 0 ≤ z.2.2.2.1.slots := by rw [hR]; exact ⟨Nat.le_refl _, Nat.le_refl _, Nat.zero_le _, Nat.zero_le _⟩
  refine v_aload_n C dXA_size_0 rfl rfl ?_
  refine v_getR (k := 0) (q := 2) C dXA_size_1 (by show (0 : Nat) < 383; decide) rfl rfl (by decide) rfl inXA lXA_26 rfl ?_
  refine v_iload_n C dXA_size_4 rfl rfl ?_
  refine u_cVI (k := 10) (n := 1) C (xE_ok _) hEz hRR (kX_XH_has _ D cA ad hJ σ (i) (by omega) hc) dXA_size_5 (by show (10 : Nat) < 383; decide) rfl rfl gXA_168 (by decide +kernel) (by decide) (by decide) rfl (Nat.le_of_ble_eq_true rfl) rfl (fun r1 σ1 hp1 => ?_)
  obtain ⟨e1, e2⟩ := hp1
  subst σ1
  rw [if_neg hg] at e1
  subst r1
  refine v_if_ne (tgt := 21) C dXA_size_8 (by decide) (by omega) (fun hc1 => ?_) (fun hc1 => ?_)
  · exfalso; omega
  · exact x_throw (is := 169) (text := "no such revision") C hEz hst htab hLk (by decide +kernel) (by decide +kernel) x_wI (by decide +kernel) dXA_size_11 dXA_size_14 dXA_size_15 dXA_size_17 dXA_size_20 (by rw [hR]; exact ⟨by decide, by decide, by decide, by decide⟩) ⟨by decide, by decide⟩ rfl
set_option maxRecDepth 100000 in
set_option maxHeartbeats 4000000 in
/-- place throws IndexOutOfBoundsException -/
theorem tX_place (l : Launch) (D : va_G) (cA : Nat → ClassId) (ad : Nat → Nat) (hJ : f_J (xG D cA ad)) (hst : l.stackTraces = false) (σ : fS) (i n : Int) (hi : -2147483648 ≤ i ∧ i ≤ 2147483647) (hn : -2147483648 ≤ n ∧ n ≤ 2147483647) (hc : 0 ≤ σ.1 10 1 ∧ σ.1 10 1 ≤ 60) (hg : ¬ ((0 ≤ i ∧ i < σ.1 10 1) ∧ 1 ≤ n ∧ n ≤ 40)) : tx_M l (xG D cA ad) (xE (xG D cA ad)) yXA_place (Cond.code yXA_place cXA_place 3 (some .int) :: A9) 6 1 6 σ [.ref (ad 0), .int (fI i), .int (fI n)] "java/lang/IndexOutOfBoundsException" (fun σ1 => σ1 = σ) := by
  refine tx_enter (by decide +kernel) hJ rfl (Nat.le_of_ble_eq_true rfl) ?_
  intro z hzl hR C htab hLk hEz
  subst hzl
  have hRR : 6 ≤ z.2.2.2.1.frames ∧ 40 * 6 ≤ z.2.2.2.1.locals ∧ 0 ≤ z.2.2.2.1.cells ∧ 0 ≤ z.2.2.2.1.slots := by rw [hR]; exact ⟨Nat.le_refl _, Nat.le_refl _, Nat.zero_le _, Nat.zero_le _⟩
  refine v_aload_n C dXA_place_0 rfl rfl ?_
  refine v_getR (k := 0) (q := 2) C dXA_place_1 (by show (0 : Nat) < 383; decide) rfl rfl (by decide) rfl inXA lXA_26 rfl ?_
  refine v_iload_n C dXA_place_4 rfl rfl ?_
  refine u_cVI (k := 10) (n := 1) C (xE_ok _) hEz hRR (kX_XH_has _ D cA ad hJ σ (i) (by omega) hc) dXA_place_5 (by show (10 : Nat) < 383; decide) rfl rfl gXA_168 (by decide +kernel) (by decide) (by decide) rfl (Nat.le_of_ble_eq_true rfl) rfl (fun re1 σe1 hpe1 => ?_)
  obtain ⟨e1e1, e2e1⟩ := hpe1
  subst σe1
  by_cases hhe1 : 0 ≤ i ∧ i < σ.1 10 1
  · rw [if_pos hhe1] at e1e1
    subst re1
    refine v_if_eq (tgt := 18) C dXA_place_8 (by decide) (by omega) (fun hc2 => ?_) (fun hc2 => ?_)
    · exfalso; omega
    · refine v_iload_n C dXA_place_11 rfl rfl ?_
      refine u_cSI (n := 1) C (xE_ok _) hEz hRR (kX_XA_isNumber _ D cA ad hJ σ (n) (by omega)) dXA_place_12 gXA_55 (by decide +kernel) (by decide) (by decide) rfl (Nat.le_of_ble_eq_true rfl) rfl (fun re3 σe3 hpe3 => ?_)
      obtain ⟨e1e3, e2e3⟩ := hpe3
      subst σe3
      by_cases hhe3 : 1 ≤ n ∧ n ≤ 40
      · rw [if_pos hhe3] at e1e3
        subst re3
        refine v_if_ne (tgt := 28) C dXA_place_15 (by decide) (by omega) (fun hc4 => ?_) (fun hc4 => ?_)
        · exfalso; omega
        · exfalso; omega
      · rw [if_neg hhe3] at e1e3
        subst re3
        refine v_if_ne (tgt := 28) C dXA_place_15 (by decide) (by omega) (fun hc5 => ?_) (fun hc5 => ?_)
        · exfalso; omega
        · exact x_throw (is := 189) (text := "no such revision or object") C hEz hst htab hLk (by decide +kernel) (by decide +kernel) x_wI (by decide +kernel) dXA_place_18 dXA_place_21 dXA_place_22 dXA_place_24 dXA_place_27 (by rw [hR]; exact ⟨by decide, by decide, by decide, by decide⟩) ⟨by decide, by decide⟩ rfl
  · rw [if_neg hhe1] at e1e1
    subst re1
    refine v_if_eq (tgt := 18) C dXA_place_8 (by decide) (by omega) (fun hc6 => ?_) (fun hc6 => ?_)
    · exact x_throw (is := 189) (text := "no such revision or object") C hEz hst htab hLk (by decide +kernel) (by decide +kernel) x_wI (by decide +kernel) dXA_place_18 dXA_place_21 dXA_place_22 dXA_place_24 dXA_place_27 (by rw [hR]; exact ⟨by decide, by decide, by decide, by decide⟩) ⟨by decide, by decide⟩ rfl
    · exfalso; omega
set_option maxRecDepth 100000 in
set_option maxHeartbeats 4000000 in
/-- differ throws IndexOutOfBoundsException -/
theorem tX_differ (l : Launch) (D : va_G) (cA : Nat → ClassId) (ad : Nat → Nat) (hJ : f_J (xG D cA ad)) (hst : l.stackTraces = false) (σ : fS) (a b : Int) (hi : -2147483648 ≤ a ∧ a ≤ 2147483647) (hn : -2147483648 ≤ b ∧ b ≤ 2147483647) (hc : 0 ≤ σ.1 10 1 ∧ σ.1 10 1 ≤ 60) (hg : ¬ ((0 ≤ a ∧ a < σ.1 10 1) ∧ 0 ≤ b ∧ b < σ.1 10 1)) : tx_M l (xG D cA ad) (xE (xG D cA ad)) yXA_differ (Cond.code yXA_differ cXA_differ 3 (some .int) :: A9) 6 1 6 σ [.ref (ad 0), .int (fI a), .int (fI b)] "java/lang/IndexOutOfBoundsException" (fun σ1 => σ1 = σ) := by
  refine tx_enter (by decide +kernel) hJ rfl (Nat.le_of_ble_eq_true rfl) ?_
  intro z hzl hR C htab hLk hEz
  subst hzl
  have hRR : 6 ≤ z.2.2.2.1.frames ∧ 40 * 6 ≤ z.2.2.2.1.locals ∧ 0 ≤ z.2.2.2.1.cells ∧ 0 ≤ z.2.2.2.1.slots := by rw [hR]; exact ⟨Nat.le_refl _, Nat.le_refl _, Nat.zero_le _, Nat.zero_le _⟩
  refine v_aload_n C dXA_differ_0 rfl rfl ?_
  refine v_getR (k := 0) (q := 2) C dXA_differ_1 (by show (0 : Nat) < 383; decide) rfl rfl (by decide) rfl inXA lXA_26 rfl ?_
  refine v_iload_n C dXA_differ_4 rfl rfl ?_
  refine u_cVI (k := 10) (n := 1) C (xE_ok _) hEz hRR (kX_XH_has _ D cA ad hJ σ (a) (by omega) hc) dXA_differ_5 (by show (10 : Nat) < 383; decide) rfl rfl gXA_168 (by decide +kernel) (by decide) (by decide) rfl (Nat.le_of_ble_eq_true rfl) rfl (fun re1 σe1 hpe1 => ?_)
  obtain ⟨e1e1, e2e1⟩ := hpe1
  subst σe1
  by_cases hhe1 : 0 ≤ a ∧ a < σ.1 10 1
  · rw [if_pos hhe1] at e1e1
    subst re1
    refine v_if_eq (tgt := 22) C dXA_differ_8 (by decide) (by omega) (fun hc2 => ?_) (fun hc2 => ?_)
    · exfalso; omega
    · refine v_aload_n C dXA_differ_11 rfl rfl ?_
      refine v_getR (k := 0) (q := 2) C dXA_differ_12 (by show (0 : Nat) < 383; decide) rfl rfl (by decide) rfl inXA lXA_26 rfl ?_
      refine v_iload_n C dXA_differ_15 rfl rfl ?_
      refine u_cVI (k := 10) (n := 1) C (xE_ok _) hEz hRR (kX_XH_has _ D cA ad hJ σ (b) (by omega) hc) dXA_differ_16 (by show (10 : Nat) < 383; decide) rfl rfl gXA_168 (by decide +kernel) (by decide) (by decide) rfl (Nat.le_of_ble_eq_true rfl) rfl (fun re3 σe3 hpe3 => ?_)
      obtain ⟨e1e3, e2e3⟩ := hpe3
      subst σe3
      by_cases hhe3 : 0 ≤ b ∧ b < σ.1 10 1
      · rw [if_pos hhe3] at e1e3
        subst re3
        refine v_if_ne (tgt := 32) C dXA_differ_19 (by decide) (by omega) (fun hc4 => ?_) (fun hc4 => ?_)
        · exfalso; omega
        · exfalso; omega
      · rw [if_neg hhe3] at e1e3
        subst re3
        refine v_if_ne (tgt := 32) C dXA_differ_19 (by decide) (by omega) (fun hc5 => ?_) (fun hc5 => ?_)
        · exfalso; omega
        · exact x_throw (is := 169) (text := "no such revision") C hEz hst htab hLk (by decide +kernel) (by decide +kernel) x_wI (by decide +kernel) dXA_differ_22 dXA_differ_25 dXA_differ_26 dXA_differ_28 dXA_differ_31 (by rw [hR]; exact ⟨by decide, by decide, by decide, by decide⟩) ⟨by decide, by decide⟩ rfl
  · rw [if_neg hhe1] at e1e1
    subst re1
    refine v_if_eq (tgt := 22) C dXA_differ_8 (by decide) (by omega) (fun hc6 => ?_) (fun hc6 => ?_)
    · exact x_throw (is := 169) (text := "no such revision") C hEz hst htab hLk (by decide +kernel) (by decide +kernel) x_wI (by decide +kernel) dXA_differ_22 dXA_differ_25 dXA_differ_26 dXA_differ_28 dXA_differ_31 (by rw [hR]; exact ⟨by decide, by decide, by decide, by decide⟩) ⟨by decide, by decide⟩ rfl
    · exfalso; omega
set_option maxRecDepth 100000 in
set_option maxHeartbeats 4000000 in
/-- row throws IndexOutOfBoundsException -/
theorem tX_row (l : Launch) (D : va_G) (cA : Nat → ClassId) (ad : Nat → Nat) (hJ : f_J (xG D cA ad)) (hst : l.stackTraces = false) (σ : fS) (i w : Int) (hi : -2147483648 ≤ i ∧ i ≤ 2147483647) (hn : -2147483648 ≤ w ∧ w ≤ 2147483647) (hc : 0 ≤ σ.1 380 2 ∧ σ.1 380 2 ≤ 40) (hg : ¬ ((0 ≤ i ∧ i < σ.1 380 2) ∧ 0 ≤ w ∧ w ≤ 1)) : tx_M l (xG D cA ad) (xE (xG D cA ad)) yXA_row (Cond.code yXA_row cXA_row 3 (some .int) :: A9) 6 1 6 σ [.ref (ad 0), .int (fI i), .int (fI w)] "java/lang/IndexOutOfBoundsException" (fun σ1 => σ1 = σ) := by
  refine tx_enter (by decide +kernel) hJ rfl (Nat.le_of_ble_eq_true rfl) ?_
  intro z hzl hR C htab hLk hEz
  subst hzl
  have hRR : 6 ≤ z.2.2.2.1.frames ∧ 40 * 6 ≤ z.2.2.2.1.locals ∧ 0 ≤ z.2.2.2.1.cells ∧ 0 ≤ z.2.2.2.1.slots := by rw [hR]; exact ⟨Nat.le_refl _, Nat.le_refl _, Nat.zero_le _, Nat.zero_le _⟩
  refine v_iload_n C dXA_row_0 rfl rfl ?_
  refine v_if_lt (tgt := 24) C dXA_row_1 (by decide) (by omega) (fun hc1 => ?_) (fun hc1 => ?_)
  · exact x_throw (is := 199) (text := "no such row") C hEz hst htab hLk (by decide +kernel) (by decide +kernel) x_wI (by decide +kernel) dXA_row_24 dXA_row_27 dXA_row_28 dXA_row_30 dXA_row_33 (by rw [hR]; exact ⟨by decide, by decide, by decide, by decide⟩) ⟨by decide, by decide⟩ rfl
  · refine v_iload_n C dXA_row_4 rfl rfl ?_
    refine v_aload_n C dXA_row_5 rfl rfl ?_
    refine v_getR (k := 0) (q := 5) C dXA_row_6 (by show (0 : Nat) < 383; decide) rfl rfl (by decide) rfl inXA lXA_51 rfl ?_
    refine v_getI (k := 380) (q := 2) (v := σ.1 380 2) C dXA_row_9 (by show (380 : Nat) < 383; decide) rfl rfl (by decide) rfl inXG lXA_198 rfl rfl ?_
    refine v_icmp_ge (tgt := 24) C dXA_row_12 (by decide) (by omega) (by omega) (fun hc2 => ?_) (fun hc2 => ?_)
    · exact x_throw (is := 199) (text := "no such row") C hEz hst htab hLk (by decide +kernel) (by decide +kernel) x_wI (by decide +kernel) dXA_row_24 dXA_row_27 dXA_row_28 dXA_row_30 dXA_row_33 (by rw [hR]; exact ⟨by decide, by decide, by decide, by decide⟩) ⟨by decide, by decide⟩ rfl
    · refine v_iload_n C dXA_row_15 rfl rfl ?_
      refine v_if_lt (tgt := 24) C dXA_row_16 (by decide) (by omega) (fun hc3 => ?_) (fun hc3 => ?_)
      · exact x_throw (is := 199) (text := "no such row") C hEz hst htab hLk (by decide +kernel) (by decide +kernel) x_wI (by decide +kernel) dXA_row_24 dXA_row_27 dXA_row_28 dXA_row_30 dXA_row_33 (by rw [hR]; exact ⟨by decide, by decide, by decide, by decide⟩) ⟨by decide, by decide⟩ rfl
      · refine v_iload_n C dXA_row_19 rfl rfl ?_
        refine v_iconst C dXA_row_20 ?_
        refine v_icmp_le (tgt := 34) C dXA_row_21 (by decide) (by omega) (by omega) (fun hc4 => ?_) (fun hc4 => ?_)
        · exfalso; omega
        · exact x_throw (is := 199) (text := "no such row") C hEz hst htab hLk (by decide +kernel) (by decide +kernel) x_wI (by decide +kernel) dXA_row_24 dXA_row_27 dXA_row_28 dXA_row_30 dXA_row_33 (by rw [hR]; exact ⟨by decide, by decide, by decide, by decide⟩) ⟨by decide, by decide⟩ rfl
