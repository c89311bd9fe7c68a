/-- whether object n goes before object o -/
def x_gb (σ : fS) (n o how : Int) : Int := if how = 1 then (if σ.2 4 n.toNat < σ.2 4 o.toNat then 1 else 0) else if how = 2 ∧ σ.2 3 n.toNat = 1 ∧ σ.2 3 o.toNat = 0 then 1 else 0
/-- the row of object n in the draft's table -/
def x_row (σ : fS) (n : Int) : List Int := dig n ++ [32] ++ (if σ.2 378 n.toNat = -1 then [45] else dig (σ.2 378 n.toNat)) ++ [10]
set_option maxRecDepth 100000 in
set_option maxHeartbeats 4000000 in
/-- goesBefore -/
theorem kX_XD_goesBefore (l : Launch) (D : va_G) (cA : Nat → ClassId) (ad : Nat → Nat) (hJ : f_J (xG D cA ad)) (σ : fS) (n o how : Int) (hn : 1 ≤ n ∧ n ≤ 40) (ho : 1 ≤ o ∧ o ≤ 40) (hh : -2147483648 ≤ how ∧ how ≤ 2147483647) (h3 : ∀ i, 0 ≤ σ.2 3 i ∧ σ.2 3 i ≤ 1) (h4 : ∀ i, 0 ≤ σ.2 4 i ∧ σ.2 4 i ≤ 120) : f_M l (xG D cA ad) (xE (xG D cA ad)) yXD_goesBefore (Cond.code yXD_goesBefore cXD_goesBefore 4 (some .boolean) :: A9) 0 σ [.ref (ad 374), .int (fI n), .int (fI o), .int (fI how)] (f_QI (fun r σ1 => r = x_gb σ n o how ∧ σ1 = σ) (xG D cA ad)) := by
  refine f_enter (by decide +kernel) hJ rfl (Nat.le_of_ble_eq_true rfl) ?_
  intro z hzl hR C hRt hLk hEz
  subst hzl
  have hRR : 0 ≤ z.2.2.2.1.frames ∧ 40 * 0 ≤ z.2.2.2.1.locals ∧ 0 ≤ z.2.2.2.1.cells ∧ 0 ≤ z.2.2.2.1.slots := by rw [hR]; exact ⟨Nat.le_refl _, Nat.le_refl _, Nat.zero_le _, Nat.zero_le _⟩
  refine v_iload_n C dXD_goesBefore_0 rfl rfl ?_
  refine v_iconst C dXD_goesBefore_1 ?_
  refine v_icmp_ne (tgt := 32) C dXD_goesBefore_2 (by decide) (by omega) (by omega) (fun hc1 => ?_) (fun hc1 => ?_)
  · refine v_iload_n C dXD_goesBefore_32 rfl rfl ?_
    refine v_iconst C dXD_goesBefore_33 ?_
    refine v_icmp_ne (tgt := 65) C dXD_goesBefore_34 (by decide) (by omega) (by omega) (fun hc2 => ?_) (fun hc2 => ?_)
    · refine v_iconst C dXD_goesBefore_65 ?_
      exact v_zret C hRt hLk dXD_goesBefore_66 (fN_bool (by omega)) ⟨by unfold x_gb; first | rw [if_pos (by omega), if_pos (by omega)] | rw [if_pos (by omega), if_neg (by omega)] | rw [if_neg (by omega), if_pos (by omega)] | rw [if_neg (by omega), if_neg (by omega)], rfl⟩
    · refine v_aload_n C dXD_goesBefore_37 rfl rfl ?_
      refine v_getR (k := 374) (q := 0) C dXD_goesBefore_38 (by show (374 : Nat) < 383; decide) rfl rfl (by decide) rfl inXD lXD_26 rfl ?_
      refine v_getR (k := 1) (q := 1) C dXD_goesBefore_41 (by show (1 : Nat) < 383; decide) rfl rfl (by decide) rfl inXS lXD_68 rfl ?_
      refine v_iload_n C dXD_goesBefore_44 rfl rfl ?_
      have hb3 := h3 (n).toNat
      refine v_zald (k := 3) (v := σ.2 3 (n).toNat) C dXD_goesBefore_45 (by show (3 : Nat) < 383; decide) rfl rfl (by omega) (by decide) rfl ?_
      refine v_if_eq (tgt := 65) C dXD_goesBefore_46 (by decide) (by omega) (fun hc4 => ?_) (fun hc4 => ?_)
      · refine v_iconst C dXD_goesBefore_65 ?_
        exact v_zret C hRt hLk dXD_goesBefore_66 (fN_bool (by omega)) ⟨by unfold x_gb; first | rw [if_pos (by omega), if_pos (by omega)] | rw [if_pos (by omega), if_neg (by omega)] | rw [if_neg (by omega), if_pos (by omega)] | rw [if_neg (by omega), if_neg (by omega)], rfl⟩
      · refine v_aload_n C dXD_goesBefore_49 rfl rfl ?_
        refine v_getR (k := 374) (q := 0) C dXD_goesBefore_50 (by show (374 : Nat) < 383; decide) rfl rfl (by decide) rfl inXD lXD_26 rfl ?_
        refine v_getR (k := 1) (q := 1) C dXD_goesBefore_53 (by show (1 : Nat) < 383; decide) rfl rfl (by decide) rfl inXS lXD_68 rfl ?_
        refine v_iload_n C dXD_goesBefore_56 rfl rfl ?_
        have hb5 := h3 (o).toNat
        refine v_zald (k := 3) (v := σ.2 3 (o).toNat) C dXD_goesBefore_57 (by show (3 : Nat) < 383; decide) rfl rfl (by omega) (by decide) rfl ?_
        refine v_if_ne (tgt := 65) C dXD_goesBefore_58 (by decide) (by omega) (fun hc6 => ?_) (fun hc6 => ?_)
        · refine v_iconst C dXD_goesBefore_65 ?_
          exact v_zret C hRt hLk dXD_goesBefore_66 (fN_bool (by omega)) ⟨by unfold x_gb; first | rw [if_pos (by omega), if_pos (by omega)] | rw [if_pos (by omega), if_neg (by omega)] | rw [if_neg (by omega), if_pos (by omega)] | rw [if_neg (by omega), if_neg (by omega)], rfl⟩
        · refine v_iconst C dXD_goesBefore_61 ?_
          refine v_goto (tgt := 66) C dXD_goesBefore_62 (by decide) ?_
          exact v_zret C hRt hLk dXD_goesBefore_66 (fN_bool (by omega)) ⟨by unfold x_gb; first | rw [if_pos (by omega), if_pos (by omega)] | rw [if_pos (by omega), if_neg (by omega)] | rw [if_neg (by omega), if_pos (by omega)] | rw [if_neg (by omega), if_neg (by omega)], rfl⟩
  · refine v_aload_n C dXD_goesBefore_5 rfl rfl ?_
    refine v_getR (k := 374) (q := 0) C dXD_goesBefore_6 (by show (374 : Nat) < 383; decide) rfl rfl (by decide) rfl inXD lXD_26 rfl ?_
    refine v_getR (k := 1) (q := 2) C dXD_goesBefore_9 (by show (1 : Nat) < 383; decide) rfl rfl (by decide) rfl inXS lXD_65 rfl ?_
    refine v_iload_n C dXD_goesBefore_12 rfl rfl ?_
    have hb7 := h4 (n).toNat
    refine v_iald (k := 4) (v := σ.2 4 (n).toNat) C dXD_goesBefore_13 (by show (4 : Nat) < 383; decide) rfl rfl (by omega) (by decide) rfl ?_
    refine v_aload_n C dXD_goesBefore_14 rfl rfl ?_
    refine v_getR (k := 374) (q := 0) C dXD_goesBefore_15 (by show (374 : Nat) < 383; decide) rfl rfl (by decide) rfl inXD lXD_26 rfl ?_
    refine v_getR (k := 1) (q := 2) C dXD_goesBefore_18 (by show (1 : Nat) < 383; decide) rfl rfl (by decide) rfl inXS lXD_65 rfl ?_
    refine v_iload_n C dXD_goesBefore_21 rfl rfl ?_
    have hb8 := h4 (o).toNat
    refine v_iald (k := 4) (v := σ.2 4 (o).toNat) C dXD_goesBefore_22 (by show (4 : Nat) < 383; decide) rfl rfl (by omega) (by decide) rfl ?_
    refine v_icmp_ge (tgt := 30) C dXD_goesBefore_23 (by decide) (by omega) (by omega) (fun hc9 => ?_) (fun hc9 => ?_)
    · refine v_iconst C dXD_goesBefore_30 ?_
      exact v_zret C hRt hLk dXD_goesBefore_31 (fN_bool (by omega)) ⟨by unfold x_gb; first | rw [if_pos (by omega), if_pos (by omega)] | rw [if_pos (by omega), if_neg (by omega)] | rw [if_neg (by omega), if_pos (by omega)] | rw [if_neg (by omega), if_neg (by omega)], rfl⟩
    · refine v_iconst C dXD_goesBefore_26 ?_
      refine v_goto (tgt := 31) C dXD_goesBefore_27 (by decide) ?_
      exact v_zret C hRt hLk dXD_goesBefore_31 (fN_bool (by omega)) ⟨by unfold x_gb; first | rw [if_pos (by omega), if_pos (by omega)] | rw [if_pos (by omega), if_neg (by omega)] | rw [if_neg (by omega), if_pos (by omega)] | rw [if_neg (by omega), if_neg (by omega)], rfl⟩
set_option maxRecDepth 100000 in
set_option maxHeartbeats 4000000 in
/-- putRow -/
theorem kX_XD_putRow (l : Launch) (D : va_G) (cA : Nat → ClassId) (ad : Nat → Nat) (hJ : f_J (xG D cA ad)) (σ : fS) (n : Int) (hn : 1 ≤ n ∧ n ≤ 40) (hp : -1 ≤ σ.2 378 n.toNat ∧ σ.2 378 n.toNat ≤ 99999) (hu : 0 ≤ σ.1 374 6 ∧ σ.1 374 6 < 5800) : f_M l (xG D cA ad) (xE (xG D cA ad)) yXD_putRow (Cond.code yXD_putRow cXD_putRow 2 none :: A9) 2 σ [.ref (ad 374), .int (fI n)] (f_QV (fun σ1 => σ1 = x_puts σ (x_row σ n)) (xG D cA ad)) := by
  refine f_enter (by decide +kernel) hJ rfl (Nat.le_of_ble_eq_true rfl) ?_
  intro z hzl hR C hRt hLk hEz
  subst hzl
  have hRR : 2 ≤ z.2.2.2.1.frames ∧ 40 * 2 ≤ z.2.2.2.1.locals ∧ 0 ≤ z.2.2.2.1.cells ∧ 0 ≤ z.2.2.2.1.slots := by rw [hR]; exact ⟨Nat.le_refl _, Nat.le_refl _, Nat.zero_le _, Nat.zero_le _⟩
  refine v_st (σ1 := x_puts σ []) rfl ?_
  refine v_aload_n C dXD_putRow_0 rfl rfl ?_
  refine v_iload_n C dXD_putRow_1 rfl rfl ?_
  have hx1 := x_puts_u σ ([])
  try simp only [List.length_append, List.length_cons, List.length_nil] at hx1
  have hl2 := dig_len (n)
  refine v_cVV (k := 374) (n := 1) C (xE_ok _) hEz hR (kX_XD_putNumber _ D cA ad hJ (x_puts σ ([])) (n) (by omega) (by omega)) dXD_putRow_2 (by show (374 : Nat) < 383; decide) rfl rfl gXD_97 (by decide +kernel) (by decide) (by decide) rfl (Nat.le_of_ble_eq_true rfl) rfl ⟨rfl, rfl⟩ (fun σ1 hp1 => ?_)
  subst σ1
  refine v_st (σ1 := x_puts σ (dig (n))) (x_puts_app _ _ _).symm ?_
  refine v_aload_n C dXD_putRow_5 rfl rfl ?_
  refine v_bipush C dXD_putRow_6 (by decide +kernel) ?_
  have hx3 := x_puts_u σ (dig (n))
  try simp only [List.length_append, List.length_cons, List.length_nil] at hx3
  refine v_cVV (k := 374) (n := 1) C (xE_ok _) hEz hR (kX_XD_put _ D cA ad hJ (x_puts σ (dig (n))) (32) (by omega) (by omega)) dXD_putRow_8 (by show (374 : Nat) < 383; decide) rfl rfl gXD_93 (by decide +kernel) (by decide) (by decide) rfl (Nat.le_of_ble_eq_true rfl) rfl ⟨rfl, rfl⟩ (fun σ1 hp1 => ?_)
  subst σ1
  refine v_st (σ1 := x_puts σ (dig (n) ++ [32])) (x_puts_snoc _ _ _) ?_
  refine v_aload_n C dXD_putRow_11 rfl rfl ?_
  refine v_getR (k := 374) (q := 3) C dXD_putRow_12 (by show (374 : Nat) < 383; decide) rfl rfl (by decide) rfl inXD lXD_22 rfl ?_
  refine v_getR (k := 377) (q := 0) C dXD_putRow_15 (by show (377 : Nat) < 383; decide) rfl rfl (by decide) rfl inXT lXD_58 rfl ?_
  refine v_iload_n C dXD_putRow_18 rfl rfl ?_
  refine v_iald (k := 378) (v := σ.2 378 (n).toNat) C dXD_putRow_19 (by show (378 : Nat) < 383; decide) rfl rfl (by omega) (by decide) (x_puts_2 _ _ _ _ (by decide)) ?_
  refine v_iconst C dXD_putRow_20 ?_
  refine v_icmp_ne (tgt := 33) C dXD_putRow_21 (by decide) (by omega) (by omega) (fun hc4 => ?_) (fun hc4 => ?_)
  · refine v_aload_n C dXD_putRow_33 rfl rfl ?_
    refine v_aload_n C dXD_putRow_34 rfl rfl ?_
    refine v_getR (k := 374) (q := 3) C dXD_putRow_35 (by show (374 : Nat) < 383; decide) rfl rfl (by decide) rfl inXD lXD_22 rfl ?_
    refine v_getR (k := 377) (q := 0) C dXD_putRow_38 (by show (377 : Nat) < 383; decide) rfl rfl (by decide) rfl inXT lXD_58 rfl ?_
    refine v_iload_n C dXD_putRow_41 rfl rfl ?_
    refine v_iald (k := 378) (v := σ.2 378 (n).toNat) C dXD_putRow_42 (by show (378 : Nat) < 383; decide) rfl rfl (by omega) (by decide) (x_puts_2 _ _ _ _ (by decide)) ?_
    have hx5 := x_puts_u σ (dig (n) ++ [32])
    try simp only [List.length_append, List.length_cons, List.length_nil] at hx5
    have hl6 := dig_len (σ.2 378 (n).toNat)
    refine v_cVV (k := 374) (n := 1) C (xE_ok _) hEz hR (kX_XD_putNumber _ D cA ad hJ (x_puts σ (dig (n) ++ [32])) (σ.2 378 (n).toNat) (by omega) (by omega)) dXD_putRow_43 (by show (374 : Nat) < 383; decide) rfl rfl gXD_97 (by decide +kernel) (by decide) (by decide) rfl (Nat.le_of_ble_eq_true rfl) rfl ⟨rfl, rfl⟩ (fun σ1 hp1 => ?_)
    subst σ1
    refine v_st (σ1 := x_puts σ (dig (n) ++ [32] ++ dig (σ.2 378 (n).toNat))) (x_puts_app _ _ _).symm ?_
    refine v_aload_n C dXD_putRow_46 rfl rfl ?_
    refine v_bipush C dXD_putRow_47 (by decide +kernel) ?_
    have hx7 := x_puts_u σ (dig (n) ++ [32] ++ dig (σ.2 378 (n).toNat))
    try simp only [List.length_append, List.length_cons, List.length_nil] at hx7
    refine v_cVV (k := 374) (n := 1) C (xE_ok _) hEz hR (kX_XD_put _ D cA ad hJ (x_puts σ (dig (n) ++ [32] ++ dig (σ.2 378 (n).toNat))) (10) (by omega) (by omega)) dXD_putRow_49 (by show (374 : Nat) < 383; decide) rfl rfl gXD_93 (by decide +kernel) (by decide) (by decide) rfl (Nat.le_of_ble_eq_true rfl) rfl ⟨rfl, rfl⟩ (fun σ1 hp1 => ?_)
    subst σ1
    refine v_st (σ1 := x_puts σ (dig (n) ++ [32] ++ dig (σ.2 378 (n).toNat) ++ [10])) (x_puts_snoc _ _ _) ?_
    exact v_vret C hRt hLk dXD_putRow_52 (by unfold x_row; first | rw [if_pos (by omega)] | rw [if_neg (by omega)])
  · refine v_aload_n C dXD_putRow_24 rfl rfl ?_
    refine v_bipush C dXD_putRow_25 (by decide +kernel) ?_
    have hx8 := x_puts_u σ (dig (n) ++ [32])
    try simp only [List.length_append, List.length_cons, List.length_nil] at hx8
    refine v_cVV (k := 374) (n := 1) C (xE_ok _) hEz hR (kX_XD_put _ D cA ad hJ (x_puts σ (dig (n) ++ [32])) (45) (by omega) (by omega)) dXD_putRow_27 (by show (374 : Nat) < 383; decide) rfl rfl gXD_93 (by decide +kernel) (by decide) (by decide) rfl (Nat.le_of_ble_eq_true rfl) rfl ⟨rfl, rfl⟩ (fun σ1 hp1 => ?_)
    subst σ1
    refine v_st (σ1 := x_puts σ (dig (n) ++ [32] ++ [45])) (x_puts_snoc _ _ _) ?_
    refine v_goto (tgt := 46) C dXD_putRow_30 (by decide) ?_
    refine v_aload_n C dXD_putRow_46 rfl rfl ?_
    refine v_bipush C dXD_putRow_47 (by decide +kernel) ?_
    have hx9 := x_puts_u σ (dig (n) ++ [32] ++ [45])
    try simp only [List.length_append, List.length_cons, List.length_nil] at hx9
    refine v_cVV (k := 374) (n := 1) C (xE_ok _) hEz hR (kX_XD_put _ D cA ad hJ (x_puts σ (dig (n) ++ [32] ++ [45])) (10) (by omega) (by omega)) dXD_putRow_49 (by show (374 : Nat) < 383; decide) rfl rfl gXD_93 (by decide +kernel) (by decide) (by decide) rfl (Nat.le_of_ble_eq_true rfl) rfl ⟨rfl, rfl⟩ (fun σ1 hp1 => ?_)
    subst σ1
    refine v_st (σ1 := x_puts σ (dig (n) ++ [32] ++ [45] ++ [10])) (x_puts_snoc _ _ _) ?_
    exact v_vret C hRt hLk dXD_putRow_52 (by unfold x_row; first | rw [if_pos (by omega)] | rw [if_neg (by omega)])
