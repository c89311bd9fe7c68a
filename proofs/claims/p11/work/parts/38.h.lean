theorem x_puts_b (l : List Int) : ∀ (σ : fS), (∀ v ∈ l, -128 ≤ v ∧ v ≤ 127) → (∀ i, -128 ≤ σ.2 375 i ∧ σ.2 375 i ≤ 127) → ∀ i, -128 ≤ (x_puts σ l).2 375 i ∧ (x_puts σ l).2 375 i ≤ 127 := by
  induction l with
  | nil => intro σ _ h i; exact h i
  | cons x r ih =>
    intro σ hl h i
    refine ih (x_put σ x) (fun v hv => hl v (List.mem_cons_of_mem _ hv)) (fun j => ?_) i
    unfold x_put
    rw [p1_2, p2_2]
    split
    · exact hl x List.mem_cons_self
    · exact h j
theorem x_w375 (i : Nat) : -128 ≤ (x_fin0 (x_puts (x_beg x_0 0) [37, 70, 49, 10]) 0).2 375 i ∧ (x_fin0 (x_puts (x_beg x_0 0) [37, 70, 49, 10]) 0).2 375 i ≤ 127 := by
  have ht : ∀ c v, -128 ≤ c ∧ c ≤ 127 → ∀ x ∈ m_tell c v, -128 ≤ x ∧ x ≤ 127 := by
    intro c v hc x hx
    unfold m_tell at hx
    simp only [List.mem_append, List.mem_cons, List.not_mem_nil, or_false] at hx
    rcases hx with ((h | h) | h) | h
    · omega
    · omega
    · have := dg_byte (dl v) v x h; omega
    · omega
  unfold x_fin0
  rw [p1_2]
  refine x_puts_b _ _ (fun v hv => ?_) (fun j => ?_) i
  · rcases List.mem_append.mp hv with hv | hv
    · rcases List.mem_append.mp hv with hv | hv
      · exact ht _ _ (by decide) v hv
      · exact ht _ _ (by decide) v hv
    · exact ht _ _ (by decide) v hv
  · rw [p1_2]
    refine x_puts_b _ _ (by decide) (fun q => ?_) j
    rw [x_beg_2 _ _ _ _ (by decide)]
    show (-128 : Int) ≤ 0 ∧ (0 : Int) ≤ 127
    omega
set_option maxRecDepth 100000 in
set_option maxHeartbeats 4000000 in
theorem kL_object (l : Launch) (D : va_G) (cA : Nat → ClassId) (ad : Nat → Nat) (hJ : f_J (xG D cA ad)) (hst : l.stackTraces = false) (a : Nat) (hoff : h_off (xG D cA ad) a) (v0 : Int) (n m : Int) (hn : -2147483648 ≤ n ∧ n ≤ 2147483647) (hm : -2147483648 ≤ m ∧ m ≤ 2147483647) : h_M l (xG D cA ad) (cA 4) a yL_object (Cond.codeWith yL_object cL_object 4 (some .int) [(0, 6, 9, 13), (0, 6, 12, 15)] :: A9) 8 1 6 x_0 v0 [.ref (ad 0), .int (fI n), .int (fI m)] (fun k v σ1 => k = (if 1 ≤ n ∧ n ≤ 40 then (if 0 ≤ m ∧ m ≤ 120 then 0 else 2) else 1)) := by
  refine h_enter (by decide +kernel) hJ rfl (Nat.le_of_ble_eq_true rfl) ?_
  intro z hzl hR C htab hRt hLk hEz ho
  subst hzl
  have hR1 : 7 ≤ z.2.2.2.1.frames ∧ 40 * 7 ≤ z.2.2.2.1.locals ∧ 0 ≤ z.2.2.2.1.cells ∧ 0 ≤ z.2.2.2.1.slots := by rw [hR]; exact ⟨by decide, by decide, Nat.zero_le _, Nat.zero_le _⟩
  have hR2 : 7 ≤ z.2.2.2.1.frames ∧ 40 * 7 ≤ z.2.2.2.1.locals ∧ 0 + 1 ≤ z.2.2.2.1.cells ∧ 0 + 6 ≤ z.2.2.2.1.slots := by rw [hR]; exact ⟨by decide, by decide, by decide, by decide⟩
  refine v_aload_n C dL_object_0 rfl rfl ?_
  refine v_iload_n C dL_object_1 rfl rfl ?_
  refine v_iload_n C dL_object_2 rfl rfl ?_
  by_cases hg0 : ¬ (1 ≤ n ∧ n ≤ 40)
  · refine u_cVX (k := 0) (np := 2) (dd := 7) (hpc := 9) C (xE_ok _) hEz hR2 (tX_objectI _ D cA ad hJ hst x_0 n m hn hm hg0) dL_object_3 (by show (0 : Nat) < 383; decide) rfl rfl gL_7 (by decide +kernel) (by decide) (by decide) rfl (Nat.le_of_ble_eq_true rfl) rfl (fun hpl cX hcX => by rw [htab]; exact h_fc hpl C.2.2.2.1 (by decide) (by decide) (C.2.2.2.2.1 _ qL_13) (hEz.2.2.2.2.1 _ (by decide +kernel)) hcX) (fun τ q hp => ?_)
    subst hp
    refine v_astore_n C dL_object_9 rfl (by decide) ?_
    refine v_iconst C dL_object_10 ?_
    exact h_ret C ho hoff hRt hLk dL_object_11 ⟨by decide, by decide⟩ (by rw [if_neg hg0])
  by_cases hg1 : ¬ (0 ≤ m ∧ m ≤ 120)
  · refine u_cVX (k := 0) (np := 2) (dd := 7) (hpc := 12) C (xE_ok _) hEz hR2 (tX_objectA _ D cA ad hJ hst x_0 n m hn hm (by omega) hg1) dL_object_3 (by show (0 : Nat) < 383; decide) rfl rfl gL_7 (by decide +kernel) (by decide) (by decide) rfl (Nat.le_of_ble_eq_true rfl) rfl (fun hpl cX hcX => by rw [htab]; exact h_fp hpl C.2.2.2.1 (by decide) (by decide) (C.2.2.2.2.1 _ qL_13) hEz.2.2.2.2.2.1.1 hcX (h_fc hpl C.2.2.2.1 (by decide) (by decide) (C.2.2.2.2.1 _ qL_15) (hEz.2.2.2.2.1 _ (by decide +kernel)) hcX)) (fun τ q hp => ?_)
    subst hp
    refine v_astore_n C dL_object_12 rfl (by decide) ?_
    refine v_iconst C dL_object_13 ?_
    exact h_ret C ho hoff hRt hLk dL_object_14 ⟨by decide, by decide⟩ (by rw [if_pos (by omega), if_neg hg1])
  refine u_cVV (k := 0) (n := 2) (dd := 7) C (xE_ok _) hEz hR1 (kX_XA_object _ D cA ad hJ x_0 n m (by omega) (by omega)) dL_object_3 (by show (0 : Nat) < 383; decide) rfl rfl gL_7 (by decide +kernel) (by decide) (by decide) rfl (Nat.le_of_ble_eq_true rfl) rfl (fun τ hp => ?_)
  refine v_goto (tgt := 15) C dL_object_6 (by decide) ?_
  refine v_iconst C dL_object_15 ?_
  exact h_ret C ho hoff hRt hLk dL_object_16 ⟨by decide, by decide⟩ (by rw [if_pos (by omega), if_pos (by omega)])
set_option maxRecDepth 100000 in
set_option maxHeartbeats 4000000 in
theorem kL_octet (l : Launch) (D : va_G) (cA : Nat → ClassId) (ad : Nat → Nat) (hJ : f_J (xG D cA ad)) (hst : l.stackTraces = false) (a : Nat) (hoff : h_off (xG D cA ad) a) (v0 : Int) (n i b : Int) (hn : -2147483648 ≤ n ∧ n ≤ 2147483647) (hi : -2147483648 ≤ i ∧ i ≤ 2147483647) (hb : -2147483648 ≤ b ∧ b ≤ 2147483647) : h_M l (xG D cA ad) (cA 4) a yL_octet (Cond.codeWith yL_octet cL_octet 6 (some .int) [(0, 12, 15, 13)] :: A9) 8 1 6 x_0 v0 [.ref (ad 0), .int (fI n), .int (fI i), .int (fI b), .ref a] (fun k v σ1 => k = 1) := by
  refine h_enter (by decide +kernel) hJ rfl (Nat.le_of_ble_eq_true rfl) ?_
  intro z hzl hR C htab hRt hLk hEz ho
  subst hzl
  have hR1 : 7 ≤ z.2.2.2.1.frames ∧ 40 * 7 ≤ z.2.2.2.1.locals ∧ 0 ≤ z.2.2.2.1.cells ∧ 0 ≤ z.2.2.2.1.slots := by rw [hR]; exact ⟨by decide, by decide, Nat.zero_le _, Nat.zero_le _⟩
  have hR2 : 7 ≤ z.2.2.2.1.frames ∧ 40 * 7 ≤ z.2.2.2.1.locals ∧ 0 + 1 ≤ z.2.2.2.1.cells ∧ 0 + 6 ≤ z.2.2.2.1.slots := by rw [hR]; exact ⟨by decide, by decide, by decide, by decide⟩
  refine v_aload C dL_octet_0 rfl ?_
  refine v_iconst C dL_octet_2 ?_
  refine v_aload_n C dL_octet_3 rfl rfl ?_
  refine v_iload_n C dL_octet_4 rfl rfl ?_
  refine v_iload_n C dL_octet_5 rfl rfl ?_
  refine v_iload_n C dL_octet_6 rfl rfl ?_
  refine u_cVX (k := 0) (np := 3) (dd := 7) (hpc := 15) C (xE_ok _) hEz hR2 (tX_octet _ D cA ad hJ hst x_0 n i b hn hi (fun _ => (show (0 : Int) ≤ 0 ∧ (0 : Int) ≤ 1 by omega)) (fun _ => (show (0 : Int) ≤ 0 ∧ (0 : Int) ≤ 120 by omega)) (fun h => by have h9 : (0 : Int) = 1 := h.1.2; omega)) dL_octet_7 (by show (0 : Nat) < 383; decide) rfl rfl gL_17 (by decide +kernel) (by decide) (by decide) rfl (Nat.le_of_ble_eq_true rfl) rfl (fun hpl cX hcX => by rw [htab]; exact h_fc hpl C.2.2.2.1 (by decide) (by decide) (C.2.2.2.2.1 _ qL_13) (hEz.2.2.2.2.1 _ (by decide +kernel)) hcX) (fun τ q hp => ?_)
  subst hp
  refine v_astore C dL_octet_15 (by decide) ?_
  refine v_iconst C dL_octet_17 ?_
  exact h_ret C ho hoff hRt hLk dL_octet_18 ⟨by decide, by decide⟩ (rfl)
set_option maxRecDepth 100000 in
set_option maxHeartbeats 4000000 in
theorem kL_drop (l : Launch) (D : va_G) (cA : Nat → ClassId) (ad : Nat → Nat) (hJ : f_J (xG D cA ad)) (hst : l.stackTraces = false) (a : Nat) (hoff : h_off (xG D cA ad) a) (v0 : Int) (n : Int) (hn : -2147483648 ≤ n ∧ n ≤ 2147483647) : h_M l (xG D cA ad) (cA 4) a yL_drop (Cond.codeWith yL_drop cL_drop 4 (some .int) [(0, 16, 19, 13)] :: A9) 8 1 6 x_0 v0 [.ref (ad 0), .int (fI n), .ref a] (fun k v σ1 => k = (if 1 ≤ n ∧ n ≤ 40 then 0 else 1) ∧ (k = 0 → v = 0)) := by
  refine h_enter (by decide +kernel) hJ rfl (Nat.le_of_ble_eq_true rfl) ?_
  intro z hzl hR C htab hRt hLk hEz ho
  subst hzl
  have hR1 : 7 ≤ z.2.2.2.1.frames ∧ 40 * 7 ≤ z.2.2.2.1.locals ∧ 0 ≤ z.2.2.2.1.cells ∧ 0 ≤ z.2.2.2.1.slots := by rw [hR]; exact ⟨by decide, by decide, Nat.zero_le _, Nat.zero_le _⟩
  have hR2 : 7 ≤ z.2.2.2.1.frames ∧ 40 * 7 ≤ z.2.2.2.1.locals ∧ 0 + 1 ≤ z.2.2.2.1.cells ∧ 0 + 6 ≤ z.2.2.2.1.slots := by rw [hR]; exact ⟨by decide, by decide, by decide, by decide⟩
  refine v_aload_n C dL_drop_0 rfl rfl ?_
  refine v_iconst C dL_drop_1 ?_
  refine v_aload_n C dL_drop_2 rfl rfl ?_
  refine v_iload_n C dL_drop_3 rfl rfl ?_
  by_cases hg0 : ¬ (1 ≤ n ∧ n ≤ 40)
  · refine u_cVX (k := 0) (np := 1) (dd := 7) (hpc := 19) C (xE_ok _) hEz hR2 (tX_drop _ D cA ad hJ hst x_0 n hn hg0) dL_drop_4 (by show (0 : Nat) < 383; decide) rfl rfl gL_21 (by decide +kernel) (by decide) (by decide) rfl (Nat.le_of_ble_eq_true rfl) rfl (fun hpl cX hcX => by rw [htab]; exact h_fc hpl C.2.2.2.1 (by decide) (by decide) (C.2.2.2.2.1 _ qL_13) (hEz.2.2.2.2.1 _ (by decide +kernel)) hcX) (fun τ q hp => ?_)
    subst hp
    refine v_astore_n C dL_drop_19 rfl (by decide) ?_
    refine v_iconst C dL_drop_20 ?_
    exact h_ret C ho hoff hRt hLk dL_drop_21 ⟨by decide, by decide⟩ (⟨by rw [if_neg hg0], fun h => absurd h (by decide)⟩)
  refine u_cVI (k := 0) (n := 1) (dd := 7) C (xE_ok _) hEz hR1 (kX_XA_drop _ D cA ad hJ x_0 n (by omega) (fun _ => (show (0 : Int) ≤ 0 ∧ (0 : Int) ≤ 1 by omega))) dL_drop_4 (by show (0 : Nat) < 383; decide) rfl rfl gL_21 (by decide +kernel) (by decide) (by decide) rfl (Nat.le_of_ble_eq_true rfl) rfl (fun r τ hp => ?_)
  obtain ⟨e1, e2⟩ := hp
  have e1 : r = 0 := e1
  subst e1
  subst τ
  refine v_if_eq (tgt := 14) C dL_drop_7 (by decide) (by omega) (fun hc0 => ?_) (fun hc0 => absurd rfl hc0)
  refine v_lconst (i := 0) C dL_drop_14 (by decide +kernel) ?_
  exact h_end (v := 0) C ho hoff hRt hLk rfl rfl dL_drop_15 dL_drop_16 (by decide) dL_drop_22 dL_drop_23 ⟨by decide, by decide⟩ (⟨by rw [if_pos (by omega)], fun _ => rfl⟩)
set_option maxRecDepth 100000 in
set_option maxHeartbeats 4000000 in
theorem kL_first (l : Launch) (D : va_G) (cA : Nat → ClassId) (ad : Nat → Nat) (hJ : f_J (xG D cA ad)) (hst : l.stackTraces = false) (a : Nat) (hoff : h_off (xG D cA ad) a) (v0 : Int) (n on : Int) (hn : -2147483648 ≤ n ∧ n ≤ 2147483647) (hon : -2147483648 ≤ on ∧ on ≤ 2147483647) : h_M l (xG D cA ad) (cA 4) a yL_first (Cond.codeWith yL_first cL_first 5 (some .int) [(0, 17, 20, 13)] :: A9) 8 1 6 x_0 v0 [.ref (ad 0), .int (fI n), .int (fI on), .ref a] (fun k v σ1 => k = 1) := by
  refine h_enter (by decide +kernel) hJ rfl (Nat.le_of_ble_eq_true rfl) ?_
  intro z hzl hR C htab hRt hLk hEz ho
  subst hzl
  have hR1 : 7 ≤ z.2.2.2.1.frames ∧ 40 * 7 ≤ z.2.2.2.1.locals ∧ 0 ≤ z.2.2.2.1.cells ∧ 0 ≤ z.2.2.2.1.slots := by rw [hR]; exact ⟨by decide, by decide, Nat.zero_le _, Nat.zero_le _⟩
  have hR2 : 7 ≤ z.2.2.2.1.frames ∧ 40 * 7 ≤ z.2.2.2.1.locals ∧ 0 + 1 ≤ z.2.2.2.1.cells ∧ 0 + 6 ≤ z.2.2.2.1.slots := by rw [hR]; exact ⟨by decide, by decide, by decide, by decide⟩
  refine v_aload_n C dL_first_0 rfl rfl ?_
  refine v_iconst C dL_first_1 ?_
  refine v_aload_n C dL_first_2 rfl rfl ?_
  refine v_iload_n C dL_first_3 rfl rfl ?_
  refine v_iload_n C dL_first_4 rfl rfl ?_
  refine u_cVX (k := 0) (np := 2) (dd := 7) (hpc := 20) C (xE_ok _) hEz hR2 (tX_first _ D cA ad hJ hst x_0 n on hn (fun _ => (show (0 : Int) ≤ 0 ∧ (0 : Int) ≤ 1 by omega)) (fun h => by have h9 : (0 : Int) = 1 := h.2; omega)) dL_first_5 (by show (0 : Nat) < 383; decide) rfl rfl gL_25 (by decide +kernel) (by decide) (by decide) rfl (Nat.le_of_ble_eq_true rfl) rfl (fun hpl cX hcX => by rw [htab]; exact h_fc hpl C.2.2.2.1 (by decide) (by decide) (C.2.2.2.2.1 _ qL_13) (hEz.2.2.2.2.1 _ (by decide +kernel)) hcX) (fun τ q hp => ?_)
  subst hp
  refine v_astore C dL_first_20 (by decide) ?_
  refine v_iconst C dL_first_22 ?_
  exact h_ret C ho hoff hRt hLk dL_first_23 ⟨by decide, by decide⟩ (rfl)
set_option maxRecDepth 100000 in
set_option maxHeartbeats 4000000 in
theorem kL_write (l : Launch) (D : va_G) (cA : Nat → ClassId) (ad : Nat → Nat) (hJ : f_J (xG D cA ad)) (hst : l.stackTraces = false) (a : Nat) (hoff : h_off (xG D cA ad) a) (v0 : Int) (how : Int) (hhow : -2147483648 ≤ how ∧ how ≤ 2147483647) : h_M l (xG D cA ad) (cA 4) a yL_write (Cond.codeWith yL_write cL_write 4 (some .int) [(0, 9, 12, 15), (0, 9, 15, 33)] :: A9) 8 1 6 x_0 v0 [.ref (ad 0), .int (fI how), .ref a] (fun k v σ1 => k = (if 0 ≤ how ∧ how ≤ 2 then 0 else 1) ∧ (k = 0 → v = 16)) := by
  refine h_enter (by decide +kernel) hJ rfl (Nat.le_of_ble_eq_true rfl) ?_
  intro z hzl hR C htab hRt hLk hEz ho
  subst hzl
  have hR1 : 7 ≤ z.2.2.2.1.frames ∧ 40 * 7 ≤ z.2.2.2.1.locals ∧ 0 ≤ z.2.2.2.1.cells ∧ 0 ≤ z.2.2.2.1.slots := by rw [hR]; exact ⟨by decide, by decide, Nat.zero_le _, Nat.zero_le _⟩
  have hR2 : 7 ≤ z.2.2.2.1.frames ∧ 40 * 7 ≤ z.2.2.2.1.locals ∧ 0 + 1 ≤ z.2.2.2.1.cells ∧ 0 + 6 ≤ z.2.2.2.1.slots := by rw [hR]; exact ⟨by decide, by decide, by decide, by decide⟩
  refine v_aload_n C dL_write_0 rfl rfl ?_
  refine v_iconst C dL_write_1 ?_
  refine v_aload_n C dL_write_2 rfl rfl ?_
  refine v_iload_n C dL_write_3 rfl rfl ?_
  by_cases hg0 : ¬ (0 ≤ how ∧ how ≤ 2)
  · refine u_cVX (k := 0) (np := 1) (dd := 7) (hpc := 12) C (xE_ok _) hEz hR2 (tX_writeA _ D cA ad hJ hst x_0 how hhow hg0) dL_write_4 (by show (0 : Nat) < 383; decide) rfl rfl gL_29 (by decide +kernel) (by decide) (by decide) rfl (Nat.le_of_ble_eq_true rfl) rfl (fun hpl cX hcX => by rw [htab]; exact h_fc hpl C.2.2.2.1 (by decide) (by decide) (C.2.2.2.2.1 _ qL_15) (hEz.2.2.2.2.1 _ (by decide +kernel)) hcX) (fun τ q hp => ?_)
    subst hp
    refine v_astore_n C dL_write_12 rfl (by decide) ?_
    refine v_iconst C dL_write_13 ?_
    exact h_ret C ho hoff hRt hLk dL_write_14 ⟨by decide, by decide⟩ (⟨by rw [if_neg hg0], fun h => absurd h (by decide)⟩)
  refine u_cVI (k := 0) (n := 1) (dd := 7) C (xE_ok _) hEz hR1 (kX_XA_write0 _ D cA ad hJ x_0 how (by omega) (fun _ => rfl) (fun _ => (show (-2 : Int) ≤ 0 ∧ (0 : Int) ≤ 99999 by omega)) x_w375) dL_write_4 (by show (0 : Nat) < 383; decide) rfl rfl gL_29 (by decide +kernel) (by decide) (by decide) rfl (Nat.le_of_ble_eq_true rfl) rfl (fun r τ hp => ?_)
  have e1 : r = 16 := hp
  subst e1
  refine v_i2l C dL_write_7 (by omega) ?_
  exact h_end (v := 16) C ho hoff hRt hLk rfl rfl dL_write_8 dL_write_9 (by decide) dL_write_18 dL_write_19 ⟨by decide, by decide⟩ (⟨by rw [if_pos (by omega)], fun _ => rfl⟩)
set_option maxRecDepth 100000 in
set_option maxHeartbeats 4000000 in
theorem kL_append (l : Launch) (D : va_G) (cA : Nat → ClassId) (ad : Nat → Nat) (hJ : f_J (xG D cA ad)) (hst : l.stackTraces = false) (a : Nat) (hoff : h_off (xG D cA ad) a) (v0 : Int) (_u : Unit)  : h_M l (xG D cA ad) (cA 4) a yL_append (Cond.codeWith yL_append cL_append 3 (some .int) [(0, 8, 11, 39), (0, 8, 14, 33)] :: A9) 8 1 6 x_0 v0 [.ref (ad 0), .ref a] (fun k v σ1 => k = 1) := by
  refine h_enter (by decide +kernel) hJ rfl (Nat.le_of_ble_eq_true rfl) ?_
  intro z hzl hR C htab hRt hLk hEz ho
  subst hzl
  have hR1 : 7 ≤ z.2.2.2.1.frames ∧ 40 * 7 ≤ z.2.2.2.1.locals ∧ 0 ≤ z.2.2.2.1.cells ∧ 0 ≤ z.2.2.2.1.slots := by rw [hR]; exact ⟨by decide, by decide, Nat.zero_le _, Nat.zero_le _⟩
  have hR2 : 7 ≤ z.2.2.2.1.frames ∧ 40 * 7 ≤ z.2.2.2.1.locals ∧ 0 + 1 ≤ z.2.2.2.1.cells ∧ 0 + 6 ≤ z.2.2.2.1.slots := by rw [hR]; exact ⟨by decide, by decide, by decide, by decide⟩
  refine v_aload_n C dL_append_0 rfl rfl ?_
  refine v_iconst C dL_append_1 ?_
  refine v_aload_n C dL_append_2 rfl rfl ?_
  refine u_cVX (k := 0) (np := 0) (dd := 7) (hpc := 11) C (xE_ok _) hEz hR2 (tX_appendS _ D cA ad hJ hst x_0 (show (0 : Int) ≤ 0 ∧ (0 : Int) ≤ 12000 by omega) (show (0 : Int) ≤ 0 ∧ (0 : Int) ≤ 1 by omega) (Or.inl rfl)) dL_append_3 (by show (0 : Nat) < 383; decide) rfl rfl gL_35 (by decide +kernel) (by decide) (by decide) rfl (Nat.le_of_ble_eq_true rfl) rfl (fun hpl cX hcX => by rw [htab]; exact h_fc hpl C.2.2.2.1 (by decide) (by decide) (C.2.2.2.2.1 _ qL_39) (hEz.2.2.2.2.1 _ (by decide +kernel)) hcX) (fun τ q hp => ?_)
  subst hp
  refine v_astore_n C dL_append_11 rfl (by decide) ?_
  refine v_iconst C dL_append_12 ?_
  exact h_ret C ho hoff hRt hLk dL_append_13 ⟨by decide, by decide⟩ (rfl)
set_option maxRecDepth 100000 in
set_option maxHeartbeats 4000000 in
theorem kL_poke (l : Launch) (D : va_G) (cA : Nat → ClassId) (ad : Nat → Nat) (hJ : f_J (xG D cA ad)) (hst : l.stackTraces = false) (a : Nat) (hoff : h_off (xG D cA ad) a) (v0 : Int) (i b : Int) (hi : -2147483648 ≤ i ∧ i ≤ 2147483647) (hb : -2147483648 ≤ b ∧ b ≤ 2147483647) : h_M l (xG D cA ad) (cA 4) a yL_poke (Cond.codeWith yL_poke cL_poke 5 (some .int) [(0, 10, 13, 13)] :: A9) 8 1 6 x_0 v0 [.ref (ad 0), .int (fI i), .int (fI b), .ref a] (fun k v σ1 => k = 1) := by
  refine h_enter (by decide +kernel) hJ rfl (Nat.le_of_ble_eq_true rfl) ?_
  intro z hzl hR C htab hRt hLk hEz ho
  subst hzl
  have hR1 : 7 ≤ z.2.2.2.1.frames ∧ 40 * 7 ≤ z.2.2.2.1.locals ∧ 0 ≤ z.2.2.2.1.cells ∧ 0 ≤ z.2.2.2.1.slots := by rw [hR]; exact ⟨by decide, by decide, Nat.zero_le _, Nat.zero_le _⟩
  have hR2 : 7 ≤ z.2.2.2.1.frames ∧ 40 * 7 ≤ z.2.2.2.1.locals ∧ 0 + 1 ≤ z.2.2.2.1.cells ∧ 0 + 6 ≤ z.2.2.2.1.slots := by rw [hR]; exact ⟨by decide, by decide, by decide, by decide⟩
  refine v_aload_n C dL_poke_0 rfl rfl ?_
  refine v_iconst C dL_poke_1 ?_
  refine v_aload_n C dL_poke_2 rfl rfl ?_
  refine v_iload_n C dL_poke_3 rfl rfl ?_
  refine v_iload_n C dL_poke_4 rfl rfl ?_
  refine u_cVX (k := 0) (np := 2) (dd := 7) (hpc := 13) C (xE_ok _) hEz hR2 (tX_poke _ D cA ad hJ hst x_0 i b hi (show (0 : Int) ≤ 0 ∧ (0 : Int) ≤ 12000 by omega) (fun h => by have h9 : i < 0 := h.2; omega)) dL_poke_5 (by show (0 : Nat) < 383; decide) rfl rfl gL_41 (by decide +kernel) (by decide) (by decide) rfl (Nat.le_of_ble_eq_true rfl) rfl (fun hpl cX hcX => by rw [htab]; exact h_fc hpl C.2.2.2.1 (by decide) (by decide) (C.2.2.2.2.1 _ qL_13) (hEz.2.2.2.2.1 _ (by decide +kernel)) hcX) (fun τ q hp => ?_)
  subst hp
  refine v_astore C dL_poke_13 (by decide) ?_
  refine v_iconst C dL_poke_15 ?_
  exact h_ret C ho hoff hRt hLk dL_poke_16 ⟨by decide, by decide⟩ (rfl)
set_option maxRecDepth 100000 in
set_option maxHeartbeats 4000000 in
theorem kL_take (l : Launch) (D : va_G) (cA : Nat → ClassId) (ad : Nat → Nat) (hJ : f_J (xG D cA ad)) (hst : l.stackTraces = false) (a : Nat) (hoff : h_off (xG D cA ad) a) (v0 : Int) (i : Int) (hi : -2147483648 ≤ i ∧ i ≤ 2147483647) : h_M l (xG D cA ad) (cA 4) a yL_take (Cond.codeWith yL_take cL_take 4 (some .int) [(0, 9, 12, 13)] :: A9) 8 1 6 x_0 v0 [.ref (ad 0), .int (fI i), .ref a] (fun k v σ1 => k = 1) := by
  refine h_enter (by decide +kernel) hJ rfl (Nat.le_of_ble_eq_true rfl) ?_
  intro z hzl hR C htab hRt hLk hEz ho
  subst hzl
  have hR1 : 7 ≤ z.2.2.2.1.frames ∧ 40 * 7 ≤ z.2.2.2.1.locals ∧ 0 ≤ z.2.2.2.1.cells ∧ 0 ≤ z.2.2.2.1.slots := by rw [hR]; exact ⟨by decide, by decide, Nat.zero_le _, Nat.zero_le _⟩
  have hR2 : 7 ≤ z.2.2.2.1.frames ∧ 40 * 7 ≤ z.2.2.2.1.locals ∧ 0 + 1 ≤ z.2.2.2.1.cells ∧ 0 + 6 ≤ z.2.2.2.1.slots := by rw [hR]; exact ⟨by decide, by decide, by decide, by decide⟩
  refine v_aload_n C dL_take_0 rfl rfl ?_
  refine v_iconst C dL_take_1 ?_
  refine v_aload_n C dL_take_2 rfl rfl ?_
  refine v_iload_n C dL_take_3 rfl rfl ?_
  refine u_cVX (k := 0) (np := 1) (dd := 7) (hpc := 12) C (xE_ok _) hEz hR2 (tX_take _ D cA ad hJ hst x_0 i hi (show (0 : Int) ≤ 0 ∧ (0 : Int) ≤ 60 by omega) (fun h => by have h9 : i < 0 := h.2; omega)) dL_take_4 (by show (0 : Nat) < 383; decide) rfl rfl gL_45 (by decide +kernel) (by decide) (by decide) rfl (Nat.le_of_ble_eq_true rfl) rfl (fun hpl cX hcX => by rw [htab]; exact h_fc hpl C.2.2.2.1 (by decide) (by decide) (C.2.2.2.2.1 _ qL_13) (hEz.2.2.2.2.1 _ (by decide +kernel)) hcX) (fun τ q hp => ?_)
  subst hp
  refine v_astore_n C dL_take_12 rfl (by decide) ?_
  refine v_iconst C dL_take_13 ?_
  exact h_ret C ho hoff hRt hLk dL_take_14 ⟨by decide, by decide⟩ (rfl)
set_option maxRecDepth 100000 in
set_option maxHeartbeats 4000000 in
theorem kL_at (l : Launch) (D : va_G) (cA : Nat → ClassId) (ad : Nat → Nat) (hJ : f_J (xG D cA ad)) (hst : l.stackTraces = false) (a : Nat) (hoff : h_off (xG D cA ad) a) (v0 : Int) (i : Int) (hi : -2147483648 ≤ i ∧ i ≤ 2147483647) : h_M l (xG D cA ad) (cA 4) a yL_at (Cond.codeWith yL_at cL_at 4 (some .int) [(0, 9, 12, 13)] :: A9) 8 1 6 x_0 v0 [.ref (ad 0), .int (fI i), .ref a] (fun k v σ1 => k = 1) := by
  refine h_enter (by decide +kernel) hJ rfl (Nat.le_of_ble_eq_true rfl) ?_
  intro z hzl hR C htab hRt hLk hEz ho
  subst hzl
  have hR1 : 7 ≤ z.2.2.2.1.frames ∧ 40 * 7 ≤ z.2.2.2.1.locals ∧ 0 ≤ z.2.2.2.1.cells ∧ 0 ≤ z.2.2.2.1.slots := by rw [hR]; exact ⟨by decide, by decide, Nat.zero_le _, Nat.zero_le _⟩
  have hR2 : 7 ≤ z.2.2.2.1.frames ∧ 40 * 7 ≤ z.2.2.2.1.locals ∧ 0 + 1 ≤ z.2.2.2.1.cells ∧ 0 + 6 ≤ z.2.2.2.1.slots := by rw [hR]; exact ⟨by decide, by decide, by decide, by decide⟩
  refine v_aload_n C dL_at_0 rfl rfl ?_
  refine v_iconst C dL_at_1 ?_
  refine v_aload_n C dL_at_2 rfl rfl ?_
  refine v_iload_n C dL_at_3 rfl rfl ?_
  refine u_cVX (k := 0) (np := 1) (dd := 7) (hpc := 12) C (xE_ok _) hEz hR2 (tX_at _ D cA ad hJ hst x_0 i hi (show (0 : Int) ≤ 0 ∧ (0 : Int) ≤ 12000 by omega) (fun h => by have h9 : i < 0 := h.2; omega)) dL_at_4 (by show (0 : Nat) < 383; decide) rfl rfl gL_48 (by decide +kernel) (by decide) (by decide) rfl (Nat.le_of_ble_eq_true rfl) rfl (fun hpl cX hcX => by rw [htab]; exact h_fc hpl C.2.2.2.1 (by decide) (by decide) (C.2.2.2.2.1 _ qL_13) (hEz.2.2.2.2.1 _ (by decide +kernel)) hcX) (fun τ q hp => ?_)
  subst hp
  refine v_astore_n C dL_at_12 rfl (by decide) ?_
  refine v_iconst C dL_at_13 ?_
  exact h_ret C ho hoff hRt hLk dL_at_14 ⟨by decide, by decide⟩ (rfl)
set_option maxRecDepth 100000 in
set_option maxHeartbeats 4000000 in
theorem kL_length (l : Launch) (D : va_G) (cA : Nat → ClassId) (ad : Nat → Nat) (hJ : f_J (xG D cA ad)) (hst : l.stackTraces = false) (a : Nat) (hoff : h_off (xG D cA ad) a) (v0 : Int) (n : Int) (hn : -2147483648 ≤ n ∧ n ≤ 2147483647) : h_M l (xG D cA ad) (cA 4) a yL_length (Cond.codeWith yL_length cL_length 4 (some .int) [(0, 9, 12, 13)] :: A9) 8 1 6 x_0 v0 [.ref (ad 0), .int (fI n), .ref a] (fun k v σ1 => k = (if 1 ≤ n ∧ n ≤ 40 then 0 else 1) ∧ (k = 0 → v = -1)) := by
  refine h_enter (by decide +kernel) hJ rfl (Nat.le_of_ble_eq_true rfl) ?_
  intro z hzl hR C htab hRt hLk hEz ho
  subst hzl
  have hR1 : 7 ≤ z.2.2.2.1.frames ∧ 40 * 7 ≤ z.2.2.2.1.locals ∧ 0 ≤ z.2.2.2.1.cells ∧ 0 ≤ z.2.2.2.1.slots := by rw [hR]; exact ⟨by decide, by decide, Nat.zero_le _, Nat.zero_le _⟩
  have hR2 : 7 ≤ z.2.2.2.1.frames ∧ 40 * 7 ≤ z.2.2.2.1.locals ∧ 0 + 1 ≤ z.2.2.2.1.cells ∧ 0 + 6 ≤ z.2.2.2.1.slots := by rw [hR]; exact ⟨by decide, by decide, by decide, by decide⟩
  refine v_aload_n C dL_length_0 rfl rfl ?_
  refine v_iconst C dL_length_1 ?_
  refine v_aload_n C dL_length_2 rfl rfl ?_
  refine v_iload_n C dL_length_3 rfl rfl ?_
  by_cases hg0 : ¬ (1 ≤ n ∧ n ≤ 40)
  · refine u_cVX (k := 0) (np := 1) (dd := 7) (hpc := 12) C (xE_ok _) hEz hR2 (tX_length _ D cA ad hJ hst x_0 n hn hg0) dL_length_4 (by show (0 : Nat) < 383; decide) rfl rfl gL_52 (by decide +kernel) (by decide) (by decide) rfl (Nat.le_of_ble_eq_true rfl) rfl (fun hpl cX hcX => by rw [htab]; exact h_fc hpl C.2.2.2.1 (by decide) (by decide) (C.2.2.2.2.1 _ qL_13) (hEz.2.2.2.2.1 _ (by decide +kernel)) hcX) (fun τ q hp => ?_)
    subst hp
    refine v_astore_n C dL_length_12 rfl (by decide) ?_
    refine v_iconst C dL_length_13 ?_
    exact h_ret C ho hoff hRt hLk dL_length_14 ⟨by decide, by decide⟩ (⟨by rw [if_neg hg0], fun h => absurd h (by decide)⟩)
  refine u_cVI (k := 0) (n := 1) (dd := 7) C (xE_ok _) hEz hR1 (kX_XA_length _ D cA ad hJ x_0 n (by omega) (fun _ => (show (0 : Int) ≤ 0 ∧ (0 : Int) ≤ 1 by omega))) dL_length_4 (by show (0 : Nat) < 383; decide) rfl rfl gL_52 (by decide +kernel) (by decide) (by decide) rfl (Nat.le_of_ble_eq_true rfl) rfl (fun r τ hp => ?_)
  obtain ⟨e1, e2⟩ := hp
  have e1 : r = -1 := e1
  subst e1
  subst τ
  refine v_i2l C dL_length_7 (by omega) ?_
  exact h_end (v := (-1)) C ho hoff hRt hLk rfl rfl dL_length_8 dL_length_9 (by decide) dL_length_15 dL_length_16 ⟨by decide, by decide⟩ (⟨by rw [if_pos (by omega)], fun _ => rfl⟩)
set_option maxRecDepth 100000 in
set_option maxHeartbeats 4000000 in
theorem kL_byteOf (l : Launch) (D : va_G) (cA : Nat → ClassId) (ad : Nat → Nat) (hJ : f_J (xG D cA ad)) (hst : l.stackTraces = false) (a : Nat) (hoff : h_off (xG D cA ad) a) (v0 : Int) (n i : Int) (hn : -2147483648 ≤ n ∧ n ≤ 2147483647) (hi : -2147483648 ≤ i ∧ i ≤ 2147483647) : h_M l (xG D cA ad) (cA 4) a yL_byteOf (Cond.codeWith yL_byteOf cL_byteOf 5 (some .int) [(0, 10, 13, 13)] :: A9) 8 1 6 x_0 v0 [.ref (ad 0), .int (fI n), .int (fI i), .ref a] (fun k v σ1 => k = 1) := by
  refine h_enter (by decide +kernel) hJ rfl (Nat.le_of_ble_eq_true rfl) ?_
  intro z hzl hR C htab hRt hLk hEz ho
  subst hzl
  have hR1 : 7 ≤ z.2.2.2.1.frames ∧ 40 * 7 ≤ z.2.2.2.1.locals ∧ 0 ≤ z.2.2.2.1.cells ∧ 0 ≤ z.2.2.2.1.slots := by rw [hR]; exact ⟨by decide, by decide, Nat.zero_le _, Nat.zero_le _⟩
  have hR2 : 7 ≤ z.2.2.2.1.frames ∧ 40 * 7 ≤ z.2.2.2.1.locals ∧ 0 + 1 ≤ z.2.2.2.1.cells ∧ 0 + 6 ≤ z.2.2.2.1.slots := by rw [hR]; exact ⟨by decide, by decide, by decide, by decide⟩
  refine v_aload_n C dL_byteOf_0 rfl rfl ?_
  refine v_iconst C dL_byteOf_1 ?_
  refine v_aload_n C dL_byteOf_2 rfl rfl ?_
  refine v_iload_n C dL_byteOf_3 rfl rfl ?_
  refine v_iload_n C dL_byteOf_4 rfl rfl ?_
  refine u_cVX (k := 0) (np := 2) (dd := 7) (hpc := 13) C (xE_ok _) hEz hR2 (tX_byteOf _ D cA ad hJ hst x_0 n i hn hi (fun _ => (show (0 : Int) ≤ 0 ∧ (0 : Int) ≤ 1 by omega)) (fun _ => (show (0 : Int) ≤ 0 ∧ (0 : Int) ≤ 120 by omega)) (fun h => by have h9 : (0 : Int) = 1 := h.1.2; omega)) dL_byteOf_5 (by show (0 : Nat) < 383; decide) rfl rfl gL_55 (by decide +kernel) (by decide) (by decide) rfl (Nat.le_of_ble_eq_true rfl) rfl (fun hpl cX hcX => by rw [htab]; exact h_fc hpl C.2.2.2.1 (by decide) (by decide) (C.2.2.2.2.1 _ qL_13) (hEz.2.2.2.2.1 _ (by decide +kernel)) hcX) (fun τ q hp => ?_)
  subst hp
  refine v_astore C dL_byteOf_13 (by decide) ?_
  refine v_iconst C dL_byteOf_15 ?_
  exact h_ret C ho hoff hRt hLk dL_byteOf_16 ⟨by decide, by decide⟩ (rfl)
set_option maxRecDepth 100000 in
set_option maxHeartbeats 4000000 in
theorem kL_size (l : Launch) (D : va_G) (cA : Nat → ClassId) (ad : Nat → Nat) (hJ : f_J (xG D cA ad)) (hst : l.stackTraces = false) (a : Nat) (hoff : h_off (xG D cA ad) a) (v0 : Int) (i : Int) (hi : -2147483648 ≤ i ∧ i ≤ 2147483647) : h_M l (xG D cA ad) (cA 4) a yL_size (Cond.codeWith yL_size cL_size 4 (some .int) [(0, 9, 12, 13)] :: A9) 8 1 6 x_0 v0 [.ref (ad 0), .int (fI i), .ref a] (fun k v σ1 => k = 1) := by
  refine h_enter (by decide +kernel) hJ rfl (Nat.le_of_ble_eq_true rfl) ?_
  intro z hzl hR C htab hRt hLk hEz ho
  subst hzl
  have hR1 : 7 ≤ z.2.2.2.1.frames ∧ 40 * 7 ≤ z.2.2.2.1.locals ∧ 0 ≤ z.2.2.2.1.cells ∧ 0 ≤ z.2.2.2.1.slots := by rw [hR]; exact ⟨by decide, by decide, Nat.zero_le _, Nat.zero_le _⟩
  have hR2 : 7 ≤ z.2.2.2.1.frames ∧ 40 * 7 ≤ z.2.2.2.1.locals ∧ 0 + 1 ≤ z.2.2.2.1.cells ∧ 0 + 6 ≤ z.2.2.2.1.slots := by rw [hR]; exact ⟨by decide, by decide, by decide, by decide⟩
  refine v_aload_n C dL_size_0 rfl rfl ?_
  refine v_iconst C dL_size_1 ?_
  refine v_aload_n C dL_size_2 rfl rfl ?_
  refine v_iload_n C dL_size_3 rfl rfl ?_
  refine u_cVX (k := 0) (np := 1) (dd := 7) (hpc := 12) C (xE_ok _) hEz hR2 (tX_size _ D cA ad hJ hst x_0 i hi (show (0 : Int) ≤ 0 ∧ (0 : Int) ≤ 60 by omega) (fun h => by have h9 : i < 0 := h.2; omega)) dL_size_4 (by show (0 : Nat) < 383; decide) rfl rfl gL_59 (by decide +kernel) (by decide) (by decide) rfl (Nat.le_of_ble_eq_true rfl) rfl (fun hpl cX hcX => by rw [htab]; exact h_fc hpl C.2.2.2.1 (by decide) (by decide) (C.2.2.2.2.1 _ qL_13) (hEz.2.2.2.2.1 _ (by decide +kernel)) hcX) (fun τ q hp => ?_)
  subst hp
  refine v_astore_n C dL_size_12 rfl (by decide) ?_
  refine v_iconst C dL_size_13 ?_
  exact h_ret C ho hoff hRt hLk dL_size_14 ⟨by decide, by decide⟩ (rfl)
set_option maxRecDepth 100000 in
set_option maxHeartbeats 4000000 in
theorem kL_place (l : Launch) (D : va_G) (cA : Nat → ClassId) (ad : Nat → Nat) (hJ : f_J (xG D cA ad)) (hst : l.stackTraces = false) (a : Nat) (hoff : h_off (xG D cA ad) a) (v0 : Int) (i n : Int) (hi : -2147483648 ≤ i ∧ i ≤ 2147483647) (hn : -2147483648 ≤ n ∧ n ≤ 2147483647) : h_M l (xG D cA ad) (cA 4) a yL_place (Cond.codeWith yL_place cL_place 5 (some .int) [(0, 10, 13, 13)] :: A9) 8 1 6 x_0 v0 [.ref (ad 0), .int (fI i), .int (fI n), .ref a] (fun k v σ1 => k = 1) := by
  refine h_enter (by decide +kernel) hJ rfl (Nat.le_of_ble_eq_true rfl) ?_
  intro z hzl hR C htab hRt hLk hEz ho
  subst hzl
  have hR1 : 7 ≤ z.2.2.2.1.frames ∧ 40 * 7 ≤ z.2.2.2.1.locals ∧ 0 ≤ z.2.2.2.1.cells ∧ 0 ≤ z.2.2.2.1.slots := by rw [hR]; exact ⟨by decide, by decide, Nat.zero_le _, Nat.zero_le _⟩
  have hR2 : 7 ≤ z.2.2.2.1.frames ∧ 40 * 7 ≤ z.2.2.2.1.locals ∧ 0 + 1 ≤ z.2.2.2.1.cells ∧ 0 + 6 ≤ z.2.2.2.1.slots := by rw [hR]; exact ⟨by decide, by decide, by decide, by decide⟩
  refine v_aload_n C dL_place_0 rfl rfl ?_
  refine v_iconst C dL_place_1 ?_
  refine v_aload_n C dL_place_2 rfl rfl ?_
  refine v_iload_n C dL_place_3 rfl rfl ?_
  refine v_iload_n C dL_place_4 rfl rfl ?_
  refine u_cVX (k := 0) (np := 2) (dd := 7) (hpc := 13) C (xE_ok _) hEz hR2 (tX_place _ D cA ad hJ hst x_0 i n hi hn (show (0 : Int) ≤ 0 ∧ (0 : Int) ≤ 60 by omega) (fun h => by have h9 : i < 0 := h.1.2; omega)) dL_place_5 (by show (0 : Nat) < 383; decide) rfl rfl gL_62 (by decide +kernel) (by decide) (by decide) rfl (Nat.le_of_ble_eq_true rfl) rfl (fun hpl cX hcX => by rw [htab]; exact h_fc hpl C.2.2.2.1 (by decide) (by decide) (C.2.2.2.2.1 _ qL_13) (hEz.2.2.2.2.1 _ (by decide +kernel)) hcX) (fun τ q hp => ?_)
  subst hp
  refine v_astore C dL_place_13 (by decide) ?_
  refine v_iconst C dL_place_15 ?_
  exact h_ret C ho hoff hRt hLk dL_place_16 ⟨by decide, by decide⟩ (rfl)
set_option maxRecDepth 100000 in
set_option maxHeartbeats 4000000 in
theorem kL_differ (l : Launch) (D : va_G) (cA : Nat → ClassId) (ad : Nat → Nat) (hJ : f_J (xG D cA ad)) (hst : l.stackTraces = false) (a : Nat) (hoff : h_off (xG D cA ad) a) (v0 : Int) (b c : Int) (hb : -2147483648 ≤ b ∧ b ≤ 2147483647) (hc : -2147483648 ≤ c ∧ c ≤ 2147483647) : h_M l (xG D cA ad) (cA 4) a yL_differ (Cond.codeWith yL_differ cL_differ 5 (some .int) [(0, 10, 13, 13)] :: A9) 8 1 6 x_0 v0 [.ref (ad 0), .int (fI b), .int (fI c), .ref a] (fun k v σ1 => k = 1) := by
  refine h_enter (by decide +kernel) hJ rfl (Nat.le_of_ble_eq_true rfl) ?_
  intro z hzl hR C htab hRt hLk hEz ho
  subst hzl
  have hR1 : 7 ≤ z.2.2.2.1.frames ∧ 40 * 7 ≤ z.2.2.2.1.locals ∧ 0 ≤ z.2.2.2.1.cells ∧ 0 ≤ z.2.2.2.1.slots := by rw [hR]; exact ⟨by decide, by decide, Nat.zero_le _, Nat.zero_le _⟩
  have hR2 : 7 ≤ z.2.2.2.1.frames ∧ 40 * 7 ≤ z.2.2.2.1.locals ∧ 0 + 1 ≤ z.2.2.2.1.cells ∧ 0 + 6 ≤ z.2.2.2.1.slots := by rw [hR]; exact ⟨by decide, by decide, by decide, by decide⟩
  refine v_aload_n C dL_differ_0 rfl rfl ?_
  refine v_iconst C dL_differ_1 ?_
  refine v_aload_n C dL_differ_2 rfl rfl ?_
  refine v_iload_n C dL_differ_3 rfl rfl ?_
  refine v_iload_n C dL_differ_4 rfl rfl ?_
  refine u_cVX (k := 0) (np := 2) (dd := 7) (hpc := 13) C (xE_ok _) hEz hR2 (tX_differ _ D cA ad hJ hst x_0 b c hb hc (show (0 : Int) ≤ 0 ∧ (0 : Int) ≤ 60 by omega) (fun h => by have h9 : b < 0 := h.1.2; omega)) dL_differ_5 (by show (0 : Nat) < 383; decide) rfl rfl gL_66 (by decide +kernel) (by decide) (by decide) rfl (Nat.le_of_ble_eq_true rfl) rfl (fun hpl cX hcX => by rw [htab]; exact h_fc hpl C.2.2.2.1 (by decide) (by decide) (C.2.2.2.2.1 _ qL_13) (hEz.2.2.2.2.1 _ (by decide +kernel)) hcX) (fun τ q hp => ?_)
  subst hp
  refine v_astore C dL_differ_13 (by decide) ?_
  refine v_iconst C dL_differ_15 ?_
  exact h_ret C ho hoff hRt hLk dL_differ_16 ⟨by decide, by decide⟩ (rfl)
set_option maxRecDepth 100000 in
set_option maxHeartbeats 4000000 in
theorem kL_row (l : Launch) (D : va_G) (cA : Nat → ClassId) (ad : Nat → Nat) (hJ : f_J (xG D cA ad)) (hst : l.stackTraces = false) (a : Nat) (hoff : h_off (xG D cA ad) a) (v0 : Int) (i w : Int) (hi : -2147483648 ≤ i ∧ i ≤ 2147483647) (hw : -2147483648 ≤ w ∧ w ≤ 2147483647) : h_M l (xG D cA ad) (cA 4) a yL_row (Cond.codeWith yL_row cL_row 5 (some .int) [(0, 10, 13, 13)] :: A9) 8 1 6 x_0 v0 [.ref (ad 0), .int (fI i), .int (fI w), .ref a] (fun k v σ1 => k = 1) := by
  refine h_enter (by decide +kernel) hJ rfl (Nat.le_of_ble_eq_true rfl) ?_
  intro z hzl hR C htab hRt hLk hEz ho
  subst hzl
  have hR1 : 7 ≤ z.2.2.2.1.frames ∧ 40 * 7 ≤ z.2.2.2.1.locals ∧ 0 ≤ z.2.2.2.1.cells ∧ 0 ≤ z.2.2.2.1.slots := by rw [hR]; exact ⟨by decide, by decide, Nat.zero_le _, Nat.zero_le _⟩
  have hR2 : 7 ≤ z.2.2.2.1.frames ∧ 40 * 7 ≤ z.2.2.2.1.locals ∧ 0 + 1 ≤ z.2.2.2.1.cells ∧ 0 + 6 ≤ z.2.2.2.1.slots := by rw [hR]; exact ⟨by decide, by decide, by decide, by decide⟩
  refine v_aload_n C dL_row_0 rfl rfl ?_
  refine v_iconst C dL_row_1 ?_
  refine v_aload_n C dL_row_2 rfl rfl ?_
  refine v_iload_n C dL_row_3 rfl rfl ?_
  refine v_iload_n C dL_row_4 rfl rfl ?_
  refine u_cVX (k := 0) (np := 2) (dd := 7) (hpc := 13) C (xE_ok _) hEz hR2 (tX_row _ D cA ad hJ hst x_0 i w hi hw (show (0 : Int) ≤ 0 ∧ (0 : Int) ≤ 40 by omega) (fun h => by have h9 : i < 0 := h.1.2; omega)) dL_row_5 (by show (0 : Nat) < 383; decide) rfl rfl gL_69 (by decide +kernel) (by decide) (by decide) rfl (Nat.le_of_ble_eq_true rfl) rfl (fun hpl cX hcX => by rw [htab]; exact h_fc hpl C.2.2.2.1 (by decide) (by decide) (C.2.2.2.2.1 _ qL_13) (hEz.2.2.2.2.1 _ (by decide +kernel)) hcX) (fun τ q hp => ?_)
  subst hp
  refine v_astore C dL_row_13 (by decide) ?_
  refine v_iconst C dL_row_15 ?_
  exact h_ret C ho hoff hRt hLk dL_row_16 ⟨by decide, by decide⟩ (rfl)
