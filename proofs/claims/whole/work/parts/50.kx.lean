section
/-- whether object n goes before object o -/
def x_gb (σ : fS) (n o how : Int) : Int := if how = 1 then (if σ.2 4 n.toNat < σ.2 4 o.toNat then 1 else 0) else if how = 2 ∧ σ.2 3 n.toNat = 1 ∧ σ.2 3 o.toNat = 0 then 1 else 0
/-- the row of object n in the draft's table -/
def x_row (σ : fS) (n : Int) : List Int := dig n ++ [32] ++ (if σ.2 378 n.toNat = -1 then [45] else dig (σ.2 378 n.toNat)) ++ [10]
set_option maxRecDepth 100000 in
set_option maxHeartbeats 4000000 in
/-- goesBefore -/
theorem kX_XD_goesBefore (l : Launch) (D : va_G) (cA : Nat → ClassId) (ad : Nat → Nat) (hJ : f_J (xG D cA ad)) (σ : fS) (n o how : Int) (hn : 1 ≤ n ∧ n ≤ 40) (ho : 1 ≤ o ∧ o ≤ 40) (hh : -2147483648 ≤ how ∧ how ≤ 2147483647) (h3 : ∀ i, 0 ≤ σ.2 3 i ∧ σ.2 3 i ≤ 1) (h4 : ∀ i, 0 ≤ σ.2 4 i ∧ σ.2 4 i ≤ 120) : f_M l (xG D cA ad) (xE (xG D cA ad)) yXD_goesBefore (Cond.code yXD_goesBefore cXD_goesBefore 4 (some .boolean) :: A9) 0 σ [.ref (ad 374), .int (fI n), .int (fI o), .int (fI how)] (f_QI (fun r σ1 => r = x_gb σ n o how ∧ σ1 = σ) (xG D cA ad)) := by
  refine f_enter (by decide +kernel) hJ rfl (Nat.le_of_ble_eq_true rfl) ?_
  intro z hzl hR C hRt hLk hEz
  subst hzl
  have hRR : 0 ≤ z.2.2.2.1.frames ∧ 40 * 0 ≤ z.2.2.2.1.locals ∧ 0 ≤ z.2.2.2.1.cells ∧ 0 ≤ z.2.2.2.1.slots := by rw [hR]; exact ⟨Nat.le_refl _, Nat.le_refl _, Nat.zero_le _, Nat.zero_le _⟩
  refine v_iload_n C dXD_goesBefore_0 rfl rfl ?_
  refine v_iconst C dXD_goesBefore_1 ?_
  refine v_icmp_ne (tgt := 32) C dXD_goesBefore_2 (by decide) (by omega) (by omega) (fun hc1 => ?_) (fun hc1 => ?_)
  · refine v_iload_n C dXD_goesBefore_32 rfl rfl ?_
    refine v_iconst C dXD_goesBefore_33 ?_
    refine v_icmp_ne (tgt := 65) C dXD_goesBefore_34 (by decide) (by omega) (by omega) (fun hc2 => ?_) (fun hc2 => ?_)
    · refine v_iconst C dXD_goesBefore_65 ?_
      exact v_zret C hRt hLk dXD_goesBefore_66 (fN_bool (by omega)) ⟨by unfold x_gb; first | rw [if_pos (by omega), if_pos (by omega)] | rw [if_pos (by omega), if_neg (by omega)] | rw [if_neg (by omega), if_pos (by omega)] | rw [if_neg (by omega), if_neg (by omega)], rfl⟩
    · refine v_aload_n C dXD_goesBefore_37 rfl rfl ?_
      refine v_getR (k := 374) (q := 0) C dXD_goesBefore_38 (by show (374 : Nat) < 383; decide) rfl rfl (by decide) rfl inXD lXD_26 rfl ?_
      refine v_getR (k := 1) (q := 1) C dXD_goesBefore_41 (by show (1 : Nat) < 383; decide) rfl rfl (by decide) rfl inXS lXD_68 rfl ?_
      refine v_iload_n C dXD_goesBefore_44 rfl rfl ?_
      have hb3 := h3 (n).toNat
      refine v_zald (k := 3) (v := σ.2 3 (n).toNat) C dXD_goesBefore_45 (by show (3 : Nat) < 383; decide) rfl rfl (by omega) (by decide) rfl ?_
      refine v_if_eq (tgt := 65) C dXD_goesBefore_46 (by decide) (by omega) (fun hc4 => ?_) (fun hc4 => ?_)
      · refine v_iconst C dXD_goesBefore_65 ?_
        exact v_zret C hRt hLk dXD_goesBefore_66 (fN_bool (by omega)) ⟨by unfold x_gb; first | rw [if_pos (by omega), if_pos (by omega)] | rw [if_pos (by omega), if_neg (by omega)] | rw [if_neg (by omega), if_pos (by omega)] | rw [if_neg (by omega), if_neg (by omega)], rfl⟩
      · refine v_aload_n C dXD_goesBefore_49 rfl rfl ?_
        refine v_getR (k := 374) (q := 0) C dXD_goesBefore_50 (by show (374 : Nat) < 383; decide) rfl rfl (by decide) rfl inXD lXD_26 rfl ?_
        refine v_getR (k := 1) (q := 1) C dXD_goesBefore_53 (by show (1 : Nat) < 383; decide) rfl rfl (by decide) rfl inXS lXD_68 rfl ?_
        refine v_iload_n C dXD_goesBefore_56 rfl rfl ?_
        have hb5 := h3 (o).toNat
        refine v_zald (k := 3) (v := σ.2 3 (o).toNat) C dXD_goesBefore_57 (by show (3 : Nat) < 383; decide) rfl rfl (by omega) (by decide) rfl ?_
        refine v_if_ne (tgt := 65) C dXD_goesBefore_58 (by decide) (by omega) (fun hc6 => ?_) (fun hc6 => ?_)
        · refine v_iconst C dXD_goesBefore_65 ?_
          exact v_zret C hRt hLk dXD_goesBefore_66 (fN_bool (by omega)) ⟨by unfold x_gb; first | rw [if_pos (by omega), if_pos (by omega)] | rw [if_pos (by omega), if_neg (by omega)] | rw [if_neg (by omega), if_pos (by omega)] | rw [if_neg (by omega), if_neg (by omega)], rfl⟩
        · refine v_iconst C dXD_goesBefore_61 ?_
          refine v_goto (tgt := 66) C dXD_goesBefore_62 (by decide) ?_
          exact v_zret C hRt hLk dXD_goesBefore_66 (fN_bool (by omega)) ⟨by unfold x_gb; first | rw [if_pos (by omega), if_pos (by omega)] | rw [if_pos (by omega), if_neg (by omega)] | rw [if_neg (by omega), if_pos (by omega)] | rw [if_neg (by omega), if_neg (by omega)], rfl⟩
  · refine v_aload_n C dXD_goesBefore_5 rfl rfl ?_
    refine v_getR (k := 374) (q := 0) C dXD_goesBefore_6 (by show (374 : Nat) < 383; decide) rfl rfl (by decide) rfl inXD lXD_26 rfl ?_
    refine v_getR (k := 1) (q := 2) C dXD_goesBefore_9 (by show (1 : Nat) < 383; decide) rfl rfl (by decide) rfl inXS lXD_65 rfl ?_
    refine v_iload_n C dXD_goesBefore_12 rfl rfl ?_
    have hb7 := h4 (n).toNat
    refine v_iald (k := 4) (v := σ.2 4 (n).toNat) C dXD_goesBefore_13 (by show (4 : Nat) < 383; decide) rfl rfl (by omega) (by decide) rfl ?_
    refine v_aload_n C dXD_goesBefore_14 rfl rfl ?_
    refine v_getR (k := 374) (q := 0) C dXD_goesBefore_15 (by show (374 : Nat) < 383; decide) rfl rfl (by decide) rfl inXD lXD_26 rfl ?_
    refine v_getR (k := 1) (q := 2) C dXD_goesBefore_18 (by show (1 : Nat) < 383; decide) rfl rfl (by decide) rfl inXS lXD_65 rfl ?_
    refine v_iload_n C dXD_goesBefore_21 rfl rfl ?_
    have hb8 := h4 (o).toNat
    refine v_iald (k := 4) (v := σ.2 4 (o).toNat) C dXD_goesBefore_22 (by show (4 : Nat) < 383; decide) rfl rfl (by omega) (by decide) rfl ?_
    refine v_icmp_ge (tgt := 30) C dXD_goesBefore_23 (by decide) (by omega) (by omega) (fun hc9 => ?_) (fun hc9 => ?_)
    · refine v_iconst C dXD_goesBefore_30 ?_
      exact v_zret C hRt hLk dXD_goesBefore_31 (fN_bool (by omega)) ⟨by unfold x_gb; first | rw [if_pos (by omega), if_pos (by omega)] | rw [if_pos (by omega), if_neg (by omega)] | rw [if_neg (by omega), if_pos (by omega)] | rw [if_neg (by omega), if_neg (by omega)], rfl⟩
    · refine v_iconst C dXD_goesBefore_26 ?_
      refine v_goto (tgt := 31) C dXD_goesBefore_27 (by decide) ?_
      exact v_zret C hRt hLk dXD_goesBefore_31 (fN_bool (by omega)) ⟨by unfold x_gb; first | rw [if_pos (by omega), if_pos (by omega)] | rw [if_pos (by omega), if_neg (by omega)] | rw [if_neg (by omega), if_pos (by omega)] | rw [if_neg (by omega), if_neg (by omega)], rfl⟩
set_option maxRecDepth 100000 in
set_option maxHeartbeats 4000000 in
/-- putRow -/
theorem kX_XD_putRow (l : Launch) (D : va_G) (cA : Nat → ClassId) (ad : Nat → Nat) (hJ : f_J (xG D cA ad)) (σ : fS) (n : Int) (hn : 1 ≤ n ∧ n ≤ 40) (hp : -1 ≤ σ.2 378 n.toNat ∧ σ.2 378 n.toNat ≤ 99999) (hu : 0 ≤ σ.1 374 6 ∧ σ.1 374 6 < 5800) : f_M l (xG D cA ad) (xE (xG D cA ad)) yXD_putRow (Cond.code yXD_putRow cXD_putRow 2 none :: A9) 2 σ [.ref (ad 374), .int (fI n)] (f_QV (fun σ1 => σ1 = x_puts σ (x_row σ n)) (xG D cA ad)) := by
  refine f_enter (by decide +kernel) hJ rfl (Nat.le_of_ble_eq_true rfl) ?_
  intro z hzl hR C hRt hLk hEz
  subst hzl
  have hRR : 2 ≤ z.2.2.2.1.frames ∧ 40 * 2 ≤ z.2.2.2.1.locals ∧ 0 ≤ z.2.2.2.1.cells ∧ 0 ≤ z.2.2.2.1.slots := by rw [hR]; exact ⟨Nat.le_refl _, Nat.le_refl _, Nat.zero_le _, Nat.zero_le _⟩
  refine v_st (σ1 := x_puts σ []) rfl ?_
  refine v_aload_n C dXD_putRow_0 rfl rfl ?_
  refine v_iload_n C dXD_putRow_1 rfl rfl ?_
  have hx1 := x_puts_u σ ([])
  try simp only [List.length_append, List.length_cons, List.length_nil] at hx1
  have hl2 := dig_len (n)
  refine v_cVV (k := 374) (n := 1) C (xE_ok _) hEz hR (kX_XD_putNumber _ D cA ad hJ (x_puts σ ([])) (n) (by omega) (by omega)) dXD_putRow_2 (by show (374 : Nat) < 383; decide) rfl rfl gXD_97 (by decide +kernel) (by decide) (by decide) rfl (Nat.le_of_ble_eq_true rfl) rfl ⟨rfl, rfl⟩ (fun σ1 hp1 => ?_)
  subst σ1
  refine v_st (σ1 := x_puts σ (dig (n))) (x_puts_app _ _ _).symm ?_
  refine v_aload_n C dXD_putRow_5 rfl rfl ?_
  refine v_bipush C dXD_putRow_6 (by decide +kernel) ?_
  have hx3 := x_puts_u σ (dig (n))
  try simp only [List.length_append, List.length_cons, List.length_nil] at hx3
  refine v_cVV (k := 374) (n := 1) C (xE_ok _) hEz hR (kX_XD_put _ D cA ad hJ (x_puts σ (dig (n))) (32) (by omega) (by omega)) dXD_putRow_8 (by show (374 : Nat) < 383; decide) rfl rfl gXD_93 (by decide +kernel) (by decide) (by decide) rfl (Nat.le_of_ble_eq_true rfl) rfl ⟨rfl, rfl⟩ (fun σ1 hp1 => ?_)
  subst σ1
  refine v_st (σ1 := x_puts σ (dig (n) ++ [32])) (x_puts_snoc _ _ _) ?_
  refine v_aload_n C dXD_putRow_11 rfl rfl ?_
  refine v_getR (k := 374) (q := 3) C dXD_putRow_12 (by show (374 : Nat) < 383; decide) rfl rfl (by decide) rfl inXD lXD_22 rfl ?_
  refine v_getR (k := 377) (q := 0) C dXD_putRow_15 (by show (377 : Nat) < 383; decide) rfl rfl (by decide) rfl inXT lXD_58 rfl ?_
  refine v_iload_n C dXD_putRow_18 rfl rfl ?_
  refine v_iald (k := 378) (v := σ.2 378 (n).toNat) C dXD_putRow_19 (by show (378 : Nat) < 383; decide) rfl rfl (by omega) (by decide) (x_puts_2 _ _ _ _ (by decide)) ?_
  refine v_iconst C dXD_putRow_20 ?_
  refine v_icmp_ne (tgt := 33) C dXD_putRow_21 (by decide) (by omega) (by omega) (fun hc4 => ?_) (fun hc4 => ?_)
  · refine v_aload_n C dXD_putRow_33 rfl rfl ?_
    refine v_aload_n C dXD_putRow_34 rfl rfl ?_
    refine v_getR (k := 374) (q := 3) C dXD_putRow_35 (by show (374 : Nat) < 383; decide) rfl rfl (by decide) rfl inXD lXD_22 rfl ?_
    refine v_getR (k := 377) (q := 0) C dXD_putRow_38 (by show (377 : Nat) < 383; decide) rfl rfl (by decide) rfl inXT lXD_58 rfl ?_
    refine v_iload_n C dXD_putRow_41 rfl rfl ?_
    refine v_iald (k := 378) (v := σ.2 378 (n).toNat) C dXD_putRow_42 (by show (378 : Nat) < 383; decide) rfl rfl (by omega) (by decide) (x_puts_2 _ _ _ _ (by decide)) ?_
    have hx5 := x_puts_u σ (dig (n) ++ [32])
    try simp only [List.length_append, List.length_cons, List.length_nil] at hx5
    have hl6 := dig_len (σ.2 378 (n).toNat)
    refine v_cVV (k := 374) (n := 1) C (xE_ok _) hEz hR (kX_XD_putNumber _ D cA ad hJ (x_puts σ (dig (n) ++ [32])) (σ.2 378 (n).toNat) (by omega) (by omega)) dXD_putRow_43 (by show (374 : Nat) < 383; decide) rfl rfl gXD_97 (by decide +kernel) (by decide) (by decide) rfl (Nat.le_of_ble_eq_true rfl) rfl ⟨rfl, rfl⟩ (fun σ1 hp1 => ?_)
    subst σ1
    refine v_st (σ1 := x_puts σ (dig (n) ++ [32] ++ dig (σ.2 378 (n).toNat))) (x_puts_app _ _ _).symm ?_
    refine v_aload_n C dXD_putRow_46 rfl rfl ?_
    refine v_bipush C dXD_putRow_47 (by decide +kernel) ?_
    have hx7 := x_puts_u σ (dig (n) ++ [32] ++ dig (σ.2 378 (n).toNat))
    try simp only [List.length_append, List.length_cons, List.length_nil] at hx7
    refine v_cVV (k := 374) (n := 1) C (xE_ok _) hEz hR (kX_XD_put _ D cA ad hJ (x_puts σ (dig (n) ++ [32] ++ dig (σ.2 378 (n).toNat))) (10) (by omega) (by omega)) dXD_putRow_49 (by show (374 : Nat) < 383; decide) rfl rfl gXD_93 (by decide +kernel) (by decide) (by decide) rfl (Nat.le_of_ble_eq_true rfl) rfl ⟨rfl, rfl⟩ (fun σ1 hp1 => ?_)
    subst σ1
    refine v_st (σ1 := x_puts σ (dig (n) ++ [32] ++ dig (σ.2 378 (n).toNat) ++ [10])) (x_puts_snoc _ _ _) ?_
    exact v_vret C hRt hLk dXD_putRow_52 (by unfold x_row; first | rw [if_pos (by omega)] | rw [if_neg (by omega)])
  · refine v_aload_n C dXD_putRow_24 rfl rfl ?_
    refine v_bipush C dXD_putRow_25 (by decide +kernel) ?_
    have hx8 := x_puts_u σ (dig (n) ++ [32])
    try simp only [List.length_append, List.length_cons, List.length_nil] at hx8
    refine v_cVV (k := 374) (n := 1) C (xE_ok _) hEz hR (kX_XD_put _ D cA ad hJ (x_puts σ (dig (n) ++ [32])) (45) (by omega) (by omega)) dXD_putRow_27 (by show (374 : Nat) < 383; decide) rfl rfl gXD_93 (by decide +kernel) (by decide) (by decide) rfl (Nat.le_of_ble_eq_true rfl) rfl ⟨rfl, rfl⟩ (fun σ1 hp1 => ?_)
    subst σ1
    refine v_st (σ1 := x_puts σ (dig (n) ++ [32] ++ [45])) (x_puts_snoc _ _ _) ?_
    refine v_goto (tgt := 46) C dXD_putRow_30 (by decide) ?_
    refine v_aload_n C dXD_putRow_46 rfl rfl ?_
    refine v_bipush C dXD_putRow_47 (by decide +kernel) ?_
    have hx9 := x_puts_u σ (dig (n) ++ [32] ++ [45])
    try simp only [List.length_append, List.length_cons, List.length_nil] at hx9
    refine v_cVV (k := 374) (n := 1) C (xE_ok _) hEz hR (kX_XD_put _ D cA ad hJ (x_puts σ (dig (n) ++ [32] ++ [45])) (10) (by omega) (by omega)) dXD_putRow_49 (by show (374 : Nat) < 383; decide) rfl rfl gXD_93 (by decide +kernel) (by decide) (by decide) rfl (Nat.le_of_ble_eq_true rfl) rfl ⟨rfl, rfl⟩ (fun σ1 hp1 => ?_)
    subst σ1
    refine v_st (σ1 := x_puts σ (dig (n) ++ [32] ++ [45] ++ [10])) (x_puts_snoc _ _ _) ?_
    exact v_vret C hRt hLk dXD_putRow_52 (by unfold x_row; first | rw [if_pos (by omega)] | rw [if_neg (by omega)])
end
section
/-- the order from t on, up to c, one place further -/
def x_sh (σ : fS) (t c : Nat) : fS := (σ.1, fun a b => if a = 376 ∧ t < b ∧ b ≤ c then σ.2 376 (b - 1) else σ.2 a b)
theorem x_sh_c (σ : fS) (c : Nat) : σ = x_sh σ c c := fS_ext (fun _ _ => rfl) (fun a b => by show _ = if a = 376 ∧ c < b ∧ b ≤ c then _ else σ.2 a b; rw [if_neg (by omega)])
theorem x_sh_lo (σ : fS) (t c b : Nat) (h : b ≤ t) : (x_sh σ t c).2 376 b = σ.2 376 b := by
  show (if 376 = 376 ∧ t < b ∧ b ≤ c then _ else σ.2 376 b) = _
  rw [if_neg (by omega)]
theorem x_sh_2 (σ : fS) (t c a b : Nat) (h : a ≠ 376) : (x_sh σ t c).2 a b = σ.2 a b := by
  show (if a = 376 ∧ t < b ∧ b ≤ c then _ else σ.2 a b) = _
  rw [if_neg (by omega)]
theorem x_sh_s (σ : fS) (t c : Nat) (h : t + 1 ≤ c) : f_p2 (x_sh σ (t + 1) c) 376 (t + 1) (σ.2 376 t) = x_sh σ t c := by
  refine fS_ext (fun _ _ => rfl) (fun a b => ?_)
  rw [p2_2]
  show (if a = 376 ∧ b = t + 1 then σ.2 376 t else if a = 376 ∧ t + 1 < b ∧ b ≤ c then σ.2 376 (b - 1) else σ.2 a b) = if a = 376 ∧ t < b ∧ b ≤ c then σ.2 376 (b - 1) else σ.2 a b
  by_cases h1 : a = 376 ∧ b = t + 1
  · rw [if_pos h1, if_pos (by omega)]
    rw [show b - 1 = t by omega]
  · rw [if_neg h1]
    by_cases h2 : a = 376 ∧ t + 1 < b ∧ b ≤ c
    · rw [if_pos h2, if_pos (by omega)]
    · rw [if_neg h2, if_neg (by omega)]
theorem x_gb_sh (σ : fS) (t c : Nat) (n o how : Int) : x_gb (x_sh σ t c) n o how = x_gb σ n o how := by
  unfold x_gb
  rw [x_sh_2 _ _ _ _ _ (by decide), x_sh_2 _ _ _ _ _ (by decide), x_sh_2 _ _ _ _ _ (by decide), x_sh_2 _ _ _ _ _ (by decide)]
theorem x_gb_01 (σ : fS) (n o how : Int) : 0 ≤ x_gb σ n o how ∧ x_gb σ n o how ≤ 1 := by
  unfold x_gb
  split
  · split <;> omega
  · split <;> omega
/-- object n stands at place t of the order -/
def x_insd (σ : fS) (t : Nat) (n : Int) : fS := f_p1 (f_p2 (x_sh σ t (σ.1 374 4).toNat) 376 t n) 374 4 (σ.1 374 4 + 1)
def x_insP (σ : fS) (n how : Int) (σ1 : fS) : Prop := ∃ t : Nat, (t : Int) ≤ σ.1 374 4 ∧ σ1 = x_insd σ t n ∧ (∀ j : Nat, t ≤ j → (j : Int) < σ.1 374 4 → x_gb σ n (σ.2 376 j) how = 1) ∧ (0 < t → x_gb σ n (σ.2 376 (t - 1)) how = 0)
set_option maxRecDepth 100000 in
set_option maxHeartbeats 4000000 in
/-- insert -/
theorem kX_XD_insert (l : Launch) (D : va_G) (cA : Nat → ClassId) (ad : Nat → Nat) (hJ : f_J (xG D cA ad)) (σ : fS) (n how : Int) (hn : 1 ≤ n ∧ n ≤ 40) (hh : -2147483648 ≤ how ∧ how ≤ 2147483647) (hc : 0 ≤ σ.1 374 4 ∧ σ.1 374 4 < 40) (ho : ∀ j : Nat, (j : Int) < σ.1 374 4 → 1 ≤ σ.2 376 j ∧ σ.2 376 j ≤ 40) (h3 : ∀ i, 0 ≤ σ.2 3 i ∧ σ.2 3 i ≤ 1) (h4 : ∀ i, 0 ≤ σ.2 4 i ∧ σ.2 4 i ≤ 120) : f_M l (xG D cA ad) (xE (xG D cA ad)) yXD_insert (Cond.code yXD_insert cXD_insert 4 none :: A9) 1 σ [.ref (ad 374), .int (fI n), .int (fI how)] (f_QV (fun σ1 => x_insP σ n how σ1) (xG D cA ad)) := by
  refine f_enter (by decide +kernel) hJ rfl (Nat.le_of_ble_eq_true rfl) ?_
  intro z hzl hR C hRt hLk hEz
  subst hzl
  have hRR : 1 ≤ z.2.2.2.1.frames ∧ 40 * 1 ≤ z.2.2.2.1.locals ∧ 0 ≤ z.2.2.2.1.cells ∧ 0 ≤ z.2.2.2.1.slots := by rw [hR]; exact ⟨Nat.le_refl _, Nat.le_refl _, Nat.zero_le _, Nat.zero_le _⟩
  have L : ∀ t : Nat, (t : Int) ≤ σ.1 374 4 → (∀ j : Nat, t ≤ j → (j : Int) < σ.1 374 4 → x_gb σ n (σ.2 376 j) how = 1) → fv z (xG D cA ad) 4 (f_R z (xG D cA ad) (f_QV (fun σ1 => x_insP σ n how σ1) (xG D cA ad))) 0 0 (x_sh σ t (σ.1 374 4).toNat) 15 [some (.ref (ad 374)), some (.int (fI n)), some (.int (fI how)), some (.int (fI (t : Int)))] [] := by
    intro t
    induction t with
    | zero =>
      intro ht hall
      refine v_iload_n C dXD_insert_15 rfl rfl ?_
      refine v_if_le (tgt := 56) C dXD_insert_16 (by decide) (by omega) (fun hc1 => ?_) (fun hc1 => ?_)
      · refine v_aload_n C dXD_insert_56 rfl rfl ?_
        refine v_getR (k := 374) (q := 2) C dXD_insert_57 (by show (374 : Nat) < 383; decide) rfl rfl (by decide) rfl inXD lXD_15 rfl ?_
        refine v_iload_n C dXD_insert_60 rfl rfl ?_
        refine v_iload_n C dXD_insert_61 rfl rfl ?_
        refine v_iast (k := 376) C dXD_insert_62 (by show (376 : Nat) < 383; decide) rfl rfl (by omega) (by decide) ?_
        refine v_aload_n C dXD_insert_63 rfl rfl ?_
        refine v_dup C dXD_insert_64 rfl ?_
        refine v_getI (k := 374) (q := 4) (v := σ.1 374 4) C dXD_insert_65 (by show (374 : Nat) < 383; decide) rfl rfl (by decide) rfl inXD lXD_37 rfl rfl ?_
        refine v_iconst C dXD_insert_68 ?_
        refine v_iadd C dXD_insert_69 ?_
        refine v_putI (k := 374) (q := 4) C dXD_insert_70 (by show (374 : Nat) < 383; decide) rfl rfl (by decide) rfl inXD tyXD_ok nmXD lXD_37 rfl rfl rfl rfl rfl ?_
        exact v_vret C hRt hLk dXD_insert_73 (by first | exact ⟨0, by omega, rfl, hall, fun h => by omega⟩ | exact ⟨t + 1, by omega, by unfold x_insd; rw [show (((t + 1 : Nat) : Int)).toNat = t + 1 by omega], hall, fun _ => by rw [show t + 1 - 1 = t by omega]; omega⟩)
      · exfalso; omega
    | succ t ih =>
      intro ht hall
      refine v_iload_n C dXD_insert_15 rfl rfl ?_
      refine v_if_le (tgt := 56) C dXD_insert_16 (by decide) (by omega) (fun hc2 => ?_) (fun hc2 => ?_)
      · exfalso; omega
      · refine v_aload_n C dXD_insert_19 rfl rfl ?_
        refine v_iload_n C dXD_insert_20 rfl rfl ?_
        refine v_aload_n C dXD_insert_21 rfl rfl ?_
        refine v_getR (k := 374) (q := 2) C dXD_insert_22 (by show (374 : Nat) < 383; decide) rfl rfl (by decide) rfl inXD lXD_15 rfl ?_
        refine v_iload_n C dXD_insert_25 rfl rfl ?_
        refine v_iconst C dXD_insert_26 ?_
        refine v_isub C dXD_insert_27 ?_
        refine v_iald (k := 376) (v := σ.2 376 t) C dXD_insert_28 (by show (376 : Nat) < 383; decide) rfl rfl (by omega) (by decide) (by rw [show ((((t + 1 : Nat) : Int) - 1)).toNat = t by omega]; exact x_sh_lo _ _ _ _ (by omega)) ?_
        refine v_iload_n C dXD_insert_29 rfl rfl ?_
        refine v_cVI (k := 374) (n := 3) C (xE_ok _) hEz hR (kX_XD_goesBefore _ D cA ad hJ (x_sh σ (t + 1) (σ.1 374 4).toNat) n (σ.2 376 t) how hn (ho t (by omega)) hh (fun i => by rw [x_sh_2 _ _ _ _ _ (by decide)]; exact h3 i) (fun i => by rw [x_sh_2 _ _ _ _ _ (by decide)]; exact h4 i)) dXD_insert_30 (by show (374 : Nat) < 383; decide) rfl rfl gXD_61 (by decide +kernel) (by decide) (by decide) rfl (Nat.le_of_ble_eq_true rfl) rfl ⟨rfl, rfl⟩ (fun r1 σ1 hp1 => ?_)
        obtain ⟨e1, e2⟩ := hp1
        subst σ1
        rw [x_gb_sh] at e1
        have hx01 := x_gb_01 σ n (σ.2 376 t) how
        subst r1
        refine v_if_eq (tgt := 56) C dXD_insert_33 (by decide) (by omega) (fun hc3 => ?_) (fun hc3 => ?_)
        · refine v_aload_n C dXD_insert_56 rfl rfl ?_
          refine v_getR (k := 374) (q := 2) C dXD_insert_57 (by show (374 : Nat) < 383; decide) rfl rfl (by decide) rfl inXD lXD_15 rfl ?_
          refine v_iload_n C dXD_insert_60 rfl rfl ?_
          refine v_iload_n C dXD_insert_61 rfl rfl ?_
          refine v_iast (k := 376) C dXD_insert_62 (by show (376 : Nat) < 383; decide) rfl rfl (by omega) (by decide) ?_
          refine v_aload_n C dXD_insert_63 rfl rfl ?_
          refine v_dup C dXD_insert_64 rfl ?_
          refine v_getI (k := 374) (q := 4) (v := σ.1 374 4) C dXD_insert_65 (by show (374 : Nat) < 383; decide) rfl rfl (by decide) rfl inXD lXD_37 rfl rfl ?_
          refine v_iconst C dXD_insert_68 ?_
          refine v_iadd C dXD_insert_69 ?_
          refine v_putI (k := 374) (q := 4) C dXD_insert_70 (by show (374 : Nat) < 383; decide) rfl rfl (by decide) rfl inXD tyXD_ok nmXD lXD_37 rfl rfl rfl rfl rfl ?_
          exact v_vret C hRt hLk dXD_insert_73 (by first | exact ⟨0, by omega, rfl, hall, fun h => by omega⟩ | exact ⟨t + 1, by omega, by unfold x_insd; rw [show (((t + 1 : Nat) : Int)).toNat = t + 1 by omega], hall, fun _ => by rw [show t + 1 - 1 = t by omega]; omega⟩)
        · refine v_aload_n C dXD_insert_36 rfl rfl ?_
          refine v_getR (k := 374) (q := 2) C dXD_insert_37 (by show (374 : Nat) < 383; decide) rfl rfl (by decide) rfl inXD lXD_15 rfl ?_
          refine v_iload_n C dXD_insert_40 rfl rfl ?_
          refine v_aload_n C dXD_insert_41 rfl rfl ?_
          refine v_getR (k := 374) (q := 2) C dXD_insert_42 (by show (374 : Nat) < 383; decide) rfl rfl (by decide) rfl inXD lXD_15 rfl ?_
          refine v_iload_n C dXD_insert_45 rfl rfl ?_
          refine v_iconst C dXD_insert_46 ?_
          refine v_isub C dXD_insert_47 ?_
          refine v_iald (k := 376) (v := σ.2 376 t) C dXD_insert_48 (by show (376 : Nat) < 383; decide) rfl rfl (by omega) (by decide) (by rw [show ((((t + 1 : Nat) : Int) - 1)).toNat = t by omega]; exact x_sh_lo _ _ _ _ (by omega)) ?_
          refine v_iast (k := 376) C dXD_insert_49 (by show (376 : Nat) < 383; decide) rfl rfl (by omega) (by decide) ?_
          refine v_iinc C dXD_insert_50 rfl (by decide) ?_
          refine v_goto (tgt := 15) C dXD_insert_53 (by decide) ?_
          exact v_st (by rw [show (((t + 1 : Nat) : Int)).toNat = t + 1 by omega]; exact x_sh_s σ t _ (by omega)) (v_lv (by rw [show ((t + 1 : Nat) : Int) + -1 = (t : Int) by omega]; rfl) (ih (by omega) (fun j h1 h2 => by by_cases h9 : j = t; (subst h9; omega); exact hall j (by omega) h2)))
  refine v_aload_n C dXD_insert_0 rfl rfl ?_
  refine v_getI (k := 374) (q := 4) (v := σ.1 374 4) C dXD_insert_1 (by show (374 : Nat) < 383; decide) rfl rfl (by decide) rfl inXD lXD_37 rfl rfl ?_
  refine v_bipush C dXD_insert_4 (by decide +kernel) ?_
  refine v_icmp_lt (tgt := 10) C dXD_insert_6 (by decide) (by omega) (by omega) (fun hc4 => ?_) (fun hc4 => ?_)
  · refine v_aload_n C dXD_insert_10 rfl rfl ?_
    refine v_getI (k := 374) (q := 4) (v := σ.1 374 4) C dXD_insert_11 (by show (374 : Nat) < 383; decide) rfl rfl (by decide) rfl inXD lXD_37 rfl rfl ?_
    refine v_istore_n C dXD_insert_14 rfl (by decide) ?_
    exact v_st (x_sh_c σ (σ.1 374 4).toNat) (v_lv (by rw [show σ.1 374 4 = (((σ.1 374 4).toNat : Nat) : Int) by omega]; rfl) (L (σ.1 374 4).toNat (by omega) (fun j h1 h2 => by omega)))
  · exfalso; omega
end
section
/-- the place of object n's record, and its length, go into the draft's table -/
def x_r0 (σ : fS) (n : Int) : fS := f_p2 (f_p2 σ 378 n.toNat (σ.1 374 5 + σ.1 374 6)) 379 n.toNat (σ.2 4 n.toNat)
theorem x_r0_2 (σ : fS) (n : Int) (a b : Nat) (h1 : a ≠ 378) (h2 : a ≠ 379) : (x_r0 σ n).2 a b = σ.2 a b := by
  unfold x_r0
  rw [p2_2, if_neg (by omega), p2_2, if_neg (by omega)]
def x_hd (σ : fS) (n : Int) : List Int := [111] ++ [32] ++ dig n ++ [32] ++ dig (σ.2 4 n.toNat) ++ [10]
theorem x_hd_len (σ : fS) (n : Int) : (x_hd σ n).length ≤ 14 := by
  have h1 := dig_len n
  have h2 := dig_len (σ.2 4 n.toNat)
  unfold x_hd
  simp only [List.length_append, List.length_cons, List.length_nil]
  omega
def x_byt (σ : fS) (n : Int) (k : Nat) : List Int := (List.range k).map (fun (j : Nat) => σ.2 5 (n * 120 + (j : Int)).toNat)
theorem x_byt_len (σ : fS) (n : Int) (k : Nat) : (x_byt σ n k).length = k := by unfold x_byt; simp
theorem x_byt_s (σ : fS) (n : Int) (k : Nat) : x_byt σ n k ++ [σ.2 5 (n * 120 + (k : Int)).toNat] = x_byt σ n (k + 1) := by
  unfold x_byt
  rw [List.range_succ, List.map_append]
  rfl
/-- the record of object n -/
def x_rec (σ : fS) (n : Int) : List Int := x_hd σ n ++ x_byt σ n (σ.2 4 n.toNat).toNat ++ [10]
set_option maxRecDepth 100000 in
set_option maxHeartbeats 4000000 in
/-- putRecord -/
theorem kX_XD_putRecord (l : Launch) (D : va_G) (cA : Nat → ClassId) (ad : Nat → Nat) (hJ : f_J (xG D cA ad)) (σ : fS) (n : Int) (hn : 1 ≤ n ∧ n ≤ 40) (h4 : ∀ i, 0 ≤ σ.2 4 i ∧ σ.2 4 i ≤ 120) (h5 : ∀ i, -128 ≤ σ.2 5 i ∧ σ.2 5 i ≤ 127) (hb : 0 ≤ σ.1 374 5 ∧ σ.1 374 5 ≤ 12000) (hu : 0 ≤ σ.1 374 6 ∧ σ.1 374 6 < 5700) : f_M l (xG D cA ad) (xE (xG D cA ad)) yXD_putRecord (Cond.code yXD_putRecord cXD_putRecord 4 none :: A9) 2 σ [.ref (ad 374), .int (fI n)] (f_QV (fun σ1 => σ1 = x_puts (x_r0 σ n) (x_rec σ n)) (xG D cA ad)) := by
  refine f_enter (by decide +kernel) hJ rfl (Nat.le_of_ble_eq_true rfl) ?_
  intro z hzl hR C hRt hLk hEz
  subst hzl
  have hRR : 2 ≤ z.2.2.2.1.frames ∧ 40 * 2 ≤ z.2.2.2.1.locals ∧ 0 ≤ z.2.2.2.1.cells ∧ 0 ≤ z.2.2.2.1.slots := by rw [hR]; exact ⟨Nat.le_refl _, Nat.le_refl _, Nat.zero_le _, Nat.zero_le _⟩
  have hb0 : (x_r0 σ n).1 374 6 = σ.1 374 6 := rfl
  have hlh := x_hd_len σ n
  have h4n := h4 n.toNat
  have Lp : ∀ (m k : Nat), m + k = (σ.2 4 n.toNat).toNat → fv z (xG D cA ad) 4 (f_R z (xG D cA ad) (f_QV (fun σ1 => σ1 = x_puts (x_r0 σ n) (x_rec σ n)) (xG D cA ad))) 0 0 (x_puts (x_r0 σ n) (x_hd σ n ++ x_byt σ n k)) 74 [some (.ref (ad 374)), some (.int (fI n)), some (.int (fI (σ.2 4 n.toNat))), some (.int (fI (k : Int)))] [] := by
    intro m
    induction m with
    | zero =>
      intro k hk
      have hbl := x_byt_len σ n k
      obtain rfl : k = (σ.2 4 n.toNat).toNat := by omega
      refine v_iload_n C dXD_putRecord_74 rfl rfl ?_
      refine v_iload_n C dXD_putRecord_75 rfl rfl ?_
      refine v_icmp_ge (tgt := 98) C dXD_putRecord_76 (by decide) (by omega) (by omega) (fun hc1 => ?_) (fun hc1 => ?_)
      · refine v_aload_n C dXD_putRecord_98 rfl rfl ?_
        refine v_bipush C dXD_putRecord_99 (by decide +kernel) ?_
        have hx2 := x_puts_u (x_r0 σ n) (x_hd σ n ++ x_byt σ n (σ.2 4 n.toNat).toNat)
        try simp only [List.length_append, List.length_cons, List.length_nil] at hx2
        refine v_cVV (k := 374) (n := 1) C (xE_ok _) hEz hR (kX_XD_put _ D cA ad hJ (x_puts (x_r0 σ n) (x_hd σ n ++ x_byt σ n (σ.2 4 n.toNat).toNat)) (10) (by omega) (by omega)) dXD_putRecord_101 (by show (374 : Nat) < 383; decide) rfl rfl gXD_93 (by decide +kernel) (by decide) (by decide) rfl (Nat.le_of_ble_eq_true rfl) rfl ⟨rfl, rfl⟩ (fun σ1 hp1 => ?_)
        subst σ1
        refine v_st (σ1 := x_puts (x_r0 σ n) (x_hd σ n ++ x_byt σ n (σ.2 4 n.toNat).toNat ++ [10])) (x_puts_snoc _ _ _) ?_
        exact v_vret C hRt hLk dXD_putRecord_104 (by unfold x_rec; rfl)
      · exfalso; omega
    | succ m ih =>
      intro k hk
      have hbl := x_byt_len σ n k
      refine v_iload_n C dXD_putRecord_74 rfl rfl ?_
      refine v_iload_n C dXD_putRecord_75 rfl rfl ?_
      refine v_icmp_ge (tgt := 98) C dXD_putRecord_76 (by decide) (by omega) (by omega) (fun hc3 => ?_) (fun hc3 => ?_)
      · exfalso; omega
      · refine v_aload_n C dXD_putRecord_79 rfl rfl ?_
        refine v_aload_n C dXD_putRecord_80 rfl rfl ?_
        refine v_getR (k := 374) (q := 0) C dXD_putRecord_81 (by show (374 : Nat) < 383; decide) rfl rfl (by decide) rfl inXD lXD_26 rfl ?_
        refine v_iload_n C dXD_putRecord_84 rfl rfl ?_
        refine v_iload_n C dXD_putRecord_85 rfl rfl ?_
        refine v_cVI (k := 1) (n := 2) C (xE_ok _) hEz hR (kX_XS_byteAt _ D cA ad hJ (x_puts (x_r0 σ n) (x_hd σ n ++ x_byt σ n k)) n (k : Int) hn (by omega) (fun i => by rw [x_puts_2 _ _ _ _ (by decide), x_r0_2 _ _ _ _ (by decide) (by decide)]; exact h5 i)) dXD_putRecord_86 (by show (1 : Nat) < 383; decide) rfl rfl gXD_100 (by decide +kernel) (by decide) (by decide) rfl (Nat.le_of_ble_eq_true rfl) rfl ⟨rfl, rfl⟩ (fun r1 σ1 hp1 => ?_)
        obtain ⟨e1, e2⟩ := hp1
        subst σ1
        rw [x_puts_2 _ _ _ _ (by decide), x_r0_2 _ _ _ _ (by decide) (by decide)] at e1
        have hb5 := h5 (n * 120 + (k : Int)).toNat
        subst r1
        have hx4 := x_puts_u (x_r0 σ n) (x_hd σ n ++ x_byt σ n k)
        try simp only [List.length_append, List.length_cons, List.length_nil] at hx4
        refine v_cVV (k := 374) (n := 1) C (xE_ok _) hEz hR (kX_XD_put _ D cA ad hJ (x_puts (x_r0 σ n) (x_hd σ n ++ x_byt σ n k)) ((σ.2 5 (n * 120 + (k : Int)).toNat)) (by omega) (by omega)) dXD_putRecord_89 (by show (374 : Nat) < 383; decide) rfl rfl gXD_93 (by decide +kernel) (by decide) (by decide) rfl (Nat.le_of_ble_eq_true rfl) rfl ⟨rfl, rfl⟩ (fun σ1 hp1 => ?_)
        subst σ1
        refine v_st (σ1 := x_puts (x_r0 σ n) (x_hd σ n ++ x_byt σ n k ++ [(σ.2 5 (n * 120 + (k : Int)).toNat)])) (x_puts_snoc _ _ _) ?_
        refine v_iinc C dXD_putRecord_92 rfl (by decide) ?_
        refine v_goto (tgt := 74) C dXD_putRecord_95 (by decide) ?_
        exact v_st (by rw [List.append_assoc, x_byt_s]) (ih (k + 1) (by omega))
  have H1 : fv z (xG D cA ad) 4 (f_R z (xG D cA ad) (f_QV (fun σ1 => σ1 = x_puts (x_r0 σ n) (x_rec σ n)) (xG D cA ad))) 0 0 (x_puts (x_r0 σ n) []) 38 [some (.ref (ad 374)), some (.int (fI n)), some (.int (fI (σ.2 4 n.toNat))), none] [] := by
    refine v_aload_n C dXD_putRecord_38 rfl rfl ?_
    refine v_bipush C dXD_putRecord_39 (by decide +kernel) ?_
    have hx5 := x_puts_u (x_r0 σ n) ([])
    try simp only [List.length_append, List.length_cons, List.length_nil] at hx5
    refine v_cVV (k := 374) (n := 1) C (xE_ok _) hEz hR (kX_XD_put _ D cA ad hJ (x_puts (x_r0 σ n) ([])) (111) (by omega) (by omega)) dXD_putRecord_41 (by show (374 : Nat) < 383; decide) rfl rfl gXD_93 (by decide +kernel) (by decide) (by decide) rfl (Nat.le_of_ble_eq_true rfl) rfl ⟨rfl, rfl⟩ (fun σ1 hp1 => ?_)
    subst σ1
    refine v_st (σ1 := x_puts (x_r0 σ n) ([111])) (rfl) ?_
    refine v_aload_n C dXD_putRecord_44 rfl rfl ?_
    refine v_bipush C dXD_putRecord_45 (by decide +kernel) ?_
    have hx6 := x_puts_u (x_r0 σ n) ([111])
    try simp only [List.length_append, List.length_cons, List.length_nil] at hx6
    refine v_cVV (k := 374) (n := 1) C (xE_ok _) hEz hR (kX_XD_put _ D cA ad hJ (x_puts (x_r0 σ n) ([111])) (32) (by omega) (by omega)) dXD_putRecord_47 (by show (374 : Nat) < 383; decide) rfl rfl gXD_93 (by decide +kernel) (by decide) (by decide) rfl (Nat.le_of_ble_eq_true rfl) rfl ⟨rfl, rfl⟩ (fun σ1 hp1 => ?_)
    subst σ1
    refine v_st (σ1 := x_puts (x_r0 σ n) ([111] ++ [32])) (x_puts_snoc _ _ _) ?_
    refine v_aload_n C dXD_putRecord_50 rfl rfl ?_
    refine v_iload_n C dXD_putRecord_51 rfl rfl ?_
    have hx7 := x_puts_u (x_r0 σ n) ([111] ++ [32])
    try simp only [List.length_append, List.length_cons, List.length_nil] at hx7
    have hl8 := dig_len (n)
    refine v_cVV (k := 374) (n := 1) C (xE_ok _) hEz hR (kX_XD_putNumber _ D cA ad hJ (x_puts (x_r0 σ n) ([111] ++ [32])) (n) (by omega) (by omega)) dXD_putRecord_52 (by show (374 : Nat) < 383; decide) rfl rfl gXD_97 (by decide +kernel) (by decide) (by decide) rfl (Nat.le_of_ble_eq_true rfl) rfl ⟨rfl, rfl⟩ (fun σ1 hp1 => ?_)
    subst σ1
    refine v_st (σ1 := x_puts (x_r0 σ n) ([111] ++ [32] ++ dig (n))) (x_puts_app _ _ _).symm ?_
    refine v_aload_n C dXD_putRecord_55 rfl rfl ?_
    refine v_bipush C dXD_putRecord_56 (by decide +kernel) ?_
    have hx9 := x_puts_u (x_r0 σ n) ([111] ++ [32] ++ dig (n))
    try simp only [List.length_append, List.length_cons, List.length_nil] at hx9
    refine v_cVV (k := 374) (n := 1) C (xE_ok _) hEz hR (kX_XD_put _ D cA ad hJ (x_puts (x_r0 σ n) ([111] ++ [32] ++ dig (n))) (32) (by omega) (by omega)) dXD_putRecord_58 (by show (374 : Nat) < 383; decide) rfl rfl gXD_93 (by decide +kernel) (by decide) (by decide) rfl (Nat.le_of_ble_eq_true rfl) rfl ⟨rfl, rfl⟩ (fun σ1 hp1 => ?_)
    subst σ1
    refine v_st (σ1 := x_puts (x_r0 σ n) ([111] ++ [32] ++ dig (n) ++ [32])) (x_puts_snoc _ _ _) ?_
    refine v_aload_n C dXD_putRecord_61 rfl rfl ?_
    refine v_iload_n C dXD_putRecord_62 rfl rfl ?_
    have hx10 := x_puts_u (x_r0 σ n) ([111] ++ [32] ++ dig (n) ++ [32])
    try simp only [List.length_append, List.length_cons, List.length_nil] at hx10
    have hl11 := dig_len ((σ.2 4 n.toNat))
    refine v_cVV (k := 374) (n := 1) C (xE_ok _) hEz hR (kX_XD_putNumber _ D cA ad hJ (x_puts (x_r0 σ n) ([111] ++ [32] ++ dig (n) ++ [32])) ((σ.2 4 n.toNat)) (by omega) (by omega)) dXD_putRecord_63 (by show (374 : Nat) < 383; decide) rfl rfl gXD_97 (by decide +kernel) (by decide) (by decide) rfl (Nat.le_of_ble_eq_true rfl) rfl ⟨rfl, rfl⟩ (fun σ1 hp1 => ?_)
    subst σ1
    refine v_st (σ1 := x_puts (x_r0 σ n) ([111] ++ [32] ++ dig (n) ++ [32] ++ dig ((σ.2 4 n.toNat)))) (x_puts_app _ _ _).symm ?_
    refine v_aload_n C dXD_putRecord_66 rfl rfl ?_
    refine v_bipush C dXD_putRecord_67 (by decide +kernel) ?_
    have hx12 := x_puts_u (x_r0 σ n) ([111] ++ [32] ++ dig (n) ++ [32] ++ dig ((σ.2 4 n.toNat)))
    try simp only [List.length_append, List.length_cons, List.length_nil] at hx12
    refine v_cVV (k := 374) (n := 1) C (xE_ok _) hEz hR (kX_XD_put _ D cA ad hJ (x_puts (x_r0 σ n) ([111] ++ [32] ++ dig (n) ++ [32] ++ dig ((σ.2 4 n.toNat)))) (10) (by omega) (by omega)) dXD_putRecord_69 (by show (374 : Nat) < 383; decide) rfl rfl gXD_93 (by decide +kernel) (by decide) (by decide) rfl (Nat.le_of_ble_eq_true rfl) rfl ⟨rfl, rfl⟩ (fun σ1 hp1 => ?_)
    subst σ1
    refine v_st (σ1 := x_puts (x_r0 σ n) ([111] ++ [32] ++ dig (n) ++ [32] ++ dig ((σ.2 4 n.toNat)) ++ [10])) (x_puts_snoc _ _ _) ?_
    refine v_iconst C dXD_putRecord_72 ?_
    refine v_istore_n C dXD_putRecord_73 rfl (by decide) ?_
    exact v_st (by show _ = x_puts _ (x_hd σ n ++ x_byt σ n 0); unfold x_hd x_byt; simp) (v_lv rfl (Lp (σ.2 4 n.toNat).toNat 0 (by omega)))
  refine v_aload_n C dXD_putRecord_0 rfl rfl ?_
  refine v_getR (k := 374) (q := 0) C dXD_putRecord_1 (by show (374 : Nat) < 383; decide) rfl rfl (by decide) rfl inXD lXD_26 rfl ?_
  refine v_getR (k := 1) (q := 2) C dXD_putRecord_4 (by show (1 : Nat) < 383; decide) rfl rfl (by decide) rfl inXS lXD_65 rfl ?_
  refine v_iload_n C dXD_putRecord_7 rfl rfl ?_
  refine v_iald (k := 4) (v := σ.2 4 (n).toNat) C dXD_putRecord_8 (by show (4 : Nat) < 383; decide) rfl rfl (by omega) (by decide) rfl ?_
  refine v_istore_n C dXD_putRecord_9 rfl (by decide) ?_
  refine v_aload_n C dXD_putRecord_10 rfl rfl ?_
  refine v_getR (k := 374) (q := 3) C dXD_putRecord_11 (by show (374 : Nat) < 383; decide) rfl rfl (by decide) rfl inXD lXD_22 rfl ?_
  refine v_getR (k := 377) (q := 0) C dXD_putRecord_14 (by show (377 : Nat) < 383; decide) rfl rfl (by decide) rfl inXT lXD_58 rfl ?_
  refine v_iload_n C dXD_putRecord_17 rfl rfl ?_
  refine v_aload_n C dXD_putRecord_18 rfl rfl ?_
  refine v_getI (k := 374) (q := 5) (v := σ.1 374 5) C dXD_putRecord_19 (by show (374 : Nat) < 383; decide) rfl rfl (by decide) rfl inXD lXD_30 rfl rfl ?_
  refine v_aload_n C dXD_putRecord_22 rfl rfl ?_
  refine v_getI (k := 374) (q := 6) (v := σ.1 374 6) C dXD_putRecord_23 (by show (374 : Nat) < 383; decide) rfl rfl (by decide) rfl inXD lXD_34 rfl rfl ?_
  refine v_iadd C dXD_putRecord_26 ?_
  refine v_iast (k := 378) C dXD_putRecord_27 (by show (378 : Nat) < 383; decide) rfl rfl (by omega) (by decide) ?_
  refine v_aload_n C dXD_putRecord_28 rfl rfl ?_
  refine v_getR (k := 374) (q := 3) C dXD_putRecord_29 (by show (374 : Nat) < 383; decide) rfl rfl (by decide) rfl inXD lXD_22 rfl ?_
  refine v_getR (k := 377) (q := 1) C dXD_putRecord_32 (by show (377 : Nat) < 383; decide) rfl rfl (by decide) rfl inXT lXD_96 rfl ?_
  refine v_iload_n C dXD_putRecord_35 rfl rfl ?_
  refine v_iload_n C dXD_putRecord_36 rfl rfl ?_
  refine v_iast (k := 379) C dXD_putRecord_37 (by show (379 : Nat) < 383; decide) rfl rfl (by omega) (by decide) ?_
  exact v_st (σ1 := x_puts (x_r0 σ n) []) rfl (v_lv rfl H1)
end
section
theorem x_insP_inv {σ σ1 : fS} {n how : Int} (hc : 0 ≤ σ.1 374 4) (h : x_insP σ n how σ1) : σ1.1 374 4 = σ.1 374 4 + 1 ∧ (∀ a b, ¬ (a = 374 ∧ b = 4) → σ1.1 a b = σ.1 a b) ∧ (∀ a b, a ≠ 376 → σ1.2 a b = σ.2 a b) ∧ ∀ j : Nat, (j : Int) < σ1.1 374 4 → σ1.2 376 j = n ∨ ∃ i : Nat, (i : Int) < σ.1 374 4 ∧ σ1.2 376 j = σ.2 376 i := by
  obtain ⟨t, ht, rfl, -, -⟩ := h
  unfold x_insd
  refine ⟨by rw [p1_1, if_pos ⟨rfl, rfl⟩], fun a b h => by rw [p1_1, if_neg h]; rfl, fun a b h => by rw [p1_2, p2_2, if_neg (by omega)]; exact x_sh_2 _ _ _ _ _ h, fun j hj => ?_⟩
  rw [p1_1, if_pos ⟨rfl, rfl⟩] at hj
  rw [p1_2, p2_2]
  by_cases h1 : j = t
  · left; rw [if_pos ⟨rfl, h1⟩]
  · right
    rw [if_neg (by omega)]
    by_cases h2 : t < j
    · refine ⟨j - 1, by omega, ?_⟩
      show (if 376 = 376 ∧ t < j ∧ j ≤ (σ.1 374 4).toNat then σ.2 376 (j - 1) else σ.2 376 j) = _
      rw [if_pos (by omega)]
    · exact ⟨j, by omega, x_sh_lo _ _ _ _ (by omega)⟩
/-- the objects up to k are chosen, one after the other -/
def x_chR (σ : fS) (how : Int) : Nat → fS → Prop
  | 0, σ1 => σ1 = σ
  | k + 1, σ1 => ∃ y : fS, x_chR σ how k y ∧ ((σ.2 2 (k + 1) = 1 ∧ x_insP y ((k : Int) + 1) how σ1) ∨ (σ.2 2 (k + 1) = 0 ∧ σ1 = y))
def x_chI (σ : fS) (k : Nat) (σ1 : fS) : Prop := (0 ≤ σ1.1 374 4 ∧ σ1.1 374 4 ≤ k) ∧ (∀ a b, ¬ (a = 374 ∧ b = 4) → σ1.1 a b = σ.1 a b) ∧ (∀ a b, a ≠ 376 → σ1.2 a b = σ.2 a b) ∧ ∀ j : Nat, (j : Int) < σ1.1 374 4 → 1 ≤ σ1.2 376 j ∧ σ1.2 376 j ≤ 40
theorem x_chR_I {σ : fS} {how : Int} (h0 : σ.1 374 4 = 0) : ∀ (k : Nat) (σ1 : fS), k ≤ 40 → x_chR σ how k σ1 → x_chI σ k σ1 := by
  intro k
  induction k with
  | zero =>
    intro σ1 _ h
    have e : σ1 = σ := h
    subst e
    exact ⟨by omega, fun _ _ _ => rfl, fun _ _ _ => rfl, fun j hj => by omega⟩
  | succ k ih =>
    intro σ1 hk h
    obtain ⟨y, hy, h⟩ := h
    obtain ⟨i1, i2, i3, i4⟩ := ih y (by omega) hy
    rcases h with ⟨-, h⟩ | ⟨-, rfl⟩
    · obtain ⟨j1, j2, j3, j4⟩ := x_insP_inv i1.1 h
      refine ⟨by omega, fun a b g => (j2 a b g).trans (i2 a b g), fun a b g => (j3 a b g).trans (i3 a b g), fun j hj => ?_⟩
      rcases j4 j hj with e | ⟨i, hi, e⟩
      · rw [e]; omega
      · rw [e]; exact i4 i hi
    · exact ⟨by omega, i2, i3, i4⟩
set_option maxRecDepth 100000 in
set_option maxHeartbeats 4000000 in
/-- chooseThere -/
theorem kX_XD_chooseThere (l : Launch) (D : va_G) (cA : Nat → ClassId) (ad : Nat → Nat) (hJ : f_J (xG D cA ad)) (σ : fS) (how : Int) (hh : -2147483648 ≤ how ∧ how ≤ 2147483647) (h0 : σ.1 374 4 = 0) (h2 : ∀ i, 0 ≤ σ.2 2 i ∧ σ.2 2 i ≤ 1) (h3 : ∀ i, 0 ≤ σ.2 3 i ∧ σ.2 3 i ≤ 1) (h4 : ∀ i, 0 ≤ σ.2 4 i ∧ σ.2 4 i ≤ 120) : f_M l (xG D cA ad) (xE (xG D cA ad)) yXD_chooseThere (Cond.code yXD_chooseThere cXD_chooseThere 3 none :: A9) 2 σ [.ref (ad 374), .int (fI how)] (f_QV (fun σ1 => x_chR σ how 40 σ1) (xG D cA ad)) := by
  refine f_enter (by decide +kernel) hJ rfl (Nat.le_of_ble_eq_true rfl) ?_
  intro z hzl hR C hRt hLk hEz
  subst hzl
  have hRR : 2 ≤ z.2.2.2.1.frames ∧ 40 * 2 ≤ z.2.2.2.1.locals ∧ 0 ≤ z.2.2.2.1.cells ∧ 0 ≤ z.2.2.2.1.slots := by rw [hR]; exact ⟨Nat.le_refl _, Nat.le_refl _, Nat.zero_le _, Nat.zero_le _⟩
  have L : ∀ (m k : Nat), m + k = 40 → ∀ y : fS, x_chR σ how k y → fv z (xG D cA ad) 3 (f_R z (xG D cA ad) (f_QV (fun σ1 => x_chR σ how 40 σ1) (xG D cA ad))) 0 0 y 2 [some (.ref (ad 374)), some (.int (fI how)), some (.int (fI ((k : Int) + 1)))] [] := by
    intro m
    induction m with
    | zero =>
      intro k hk y hy
      obtain rfl : k = 40 := by omega
      refine v_iload_n C dXD_chooseThere_2 rfl rfl ?_
      refine v_bipush C dXD_chooseThere_3 (by decide +kernel) ?_
      refine v_icmp_gt (tgt := 32) C dXD_chooseThere_5 (by decide) (by omega) (by omega) (fun hc1 => ?_) (fun hc1 => ?_)
      · exact v_vret C hRt hLk dXD_chooseThere_32 hy
      · exfalso; omega
    | succ m ih =>
      intro k hk y hy
      obtain ⟨hi1, hi2, hi3, hi4⟩ := x_chR_I h0 k y (by omega) hy
      have hkt : ((k : Int) + 1).toNat = k + 1 := by omega
      have hb2 : 0 ≤ y.2 2 ((k : Int) + 1).toNat ∧ y.2 2 ((k : Int) + 1).toNat ≤ 1 := by rw [hi3 2 _ (by decide)]; exact h2 _
      have hbe : y.2 2 ((k : Int) + 1).toNat = σ.2 2 (k + 1) := by rw [hkt]; exact hi3 2 _ (by decide)
      refine v_iload_n C dXD_chooseThere_2 rfl rfl ?_
      refine v_bipush C dXD_chooseThere_3 (by decide +kernel) ?_
      refine v_icmp_gt (tgt := 32) C dXD_chooseThere_5 (by decide) (by omega) (by omega) (fun hc2 => ?_) (fun hc2 => ?_)
      · exfalso; omega
      · refine v_aload_n C dXD_chooseThere_8 rfl rfl ?_
        refine v_getR (k := 374) (q := 0) C dXD_chooseThere_9 (by show (374 : Nat) < 383; decide) rfl rfl (by decide) rfl inXD lXD_26 rfl ?_
        refine v_getR (k := 1) (q := 0) C dXD_chooseThere_12 (by show (1 : Nat) < 383; decide) rfl rfl (by decide) rfl inXS lXD_44 rfl ?_
        refine v_iload_n C dXD_chooseThere_15 rfl rfl ?_
        refine v_zald (k := 2) (v := y.2 2 (((k : Int) + 1)).toNat) C dXD_chooseThere_16 (by show (2 : Nat) < 383; decide) rfl rfl (by omega) (by decide) rfl ?_
        refine v_if_eq (tgt := 26) C dXD_chooseThere_17 (by decide) (by omega) (fun hc3 => ?_) (fun hc3 => ?_)
        · refine v_iinc C dXD_chooseThere_26 rfl (by decide) ?_
          refine v_goto (tgt := 2) C dXD_chooseThere_29 (by decide) ?_
          exact ih (k + 1) (by omega) _ (by first | exact ⟨y, hy, Or.inl ⟨by omega, hp1⟩⟩ | exact ⟨y, hy, Or.inr ⟨by omega, rfl⟩⟩)
        · refine v_aload_n C dXD_chooseThere_20 rfl rfl ?_
          refine v_iload_n C dXD_chooseThere_21 rfl rfl ?_
          refine v_iload_n C dXD_chooseThere_22 rfl rfl ?_
          refine v_cVV (k := 374) (n := 2) C (xE_ok _) hEz hR (kX_XD_insert _ D cA ad hJ y ((k : Int) + 1) how (by omega) hh (by omega) hi4 (fun i => by rw [hi3 3 i (by decide)]; exact h3 i) (fun i => by rw [hi3 4 i (by decide)]; exact h4 i)) dXD_chooseThere_23 (by show (374 : Nat) < 383; decide) rfl rfl gXD_50 (by decide +kernel) (by decide) (by decide) rfl (Nat.le_of_ble_eq_true rfl) rfl ⟨rfl, rfl⟩ (fun σ1 hp1 => ?_)
          refine v_iinc C dXD_chooseThere_26 rfl (by decide) ?_
          refine v_goto (tgt := 2) C dXD_chooseThere_29 (by decide) ?_
          exact ih (k + 1) (by omega) _ (by first | exact ⟨y, hy, Or.inl ⟨by omega, hp1⟩⟩ | exact ⟨y, hy, Or.inr ⟨by omega, rfl⟩⟩)
  refine v_iconst C dXD_chooseThere_0 ?_
  refine v_istore_n C dXD_chooseThere_1 rfl (by decide) ?_
  exact v_lv rfl (L 40 0 (by omega) σ rfl)
end
section
/-- the changed objects up to k are chosen, or told to be gone -/
def x_ccR (σ : fS) : Nat → fS → Prop
  | 0, σ1 => σ1 = σ
  | k + 1, σ1 => ∃ y : fS, x_ccR σ k y ∧ ((x_ch σ (k + 1) = 0 ∧ σ1 = y) ∨ (x_ch σ (k + 1) = 1 ∧ σ.2 2 (k + 1) = 1 ∧ x_insP y ((k : Int) + 1) 0 σ1) ∨ (x_ch σ (k + 1) = 1 ∧ σ.2 2 (k + 1) = 0 ∧ σ1 = f_p2 y 378 (k + 1) (-1)))
def x_ccI (σ : fS) (k : Nat) (σ1 : fS) : Prop := (0 ≤ σ1.1 374 4 ∧ σ1.1 374 4 ≤ k) ∧ (∀ a b, ¬ (a = 374 ∧ b = 4) → σ1.1 a b = σ.1 a b) ∧ (∀ a b, a ≠ 376 → a ≠ 378 → σ1.2 a b = σ.2 a b) ∧ (∀ j : Nat, (j : Int) < σ1.1 374 4 → 1 ≤ σ1.2 376 j ∧ σ1.2 376 j ≤ 40) ∧ ∀ b : Nat, σ1.2 378 b = σ.2 378 b ∨ σ1.2 378 b = -1
theorem x_ccR_I {σ : fS} (h0 : σ.1 374 4 = 0) : ∀ (k : Nat) (σ1 : fS), k ≤ 40 → x_ccR σ k σ1 → x_ccI σ k σ1 := by
  intro k
  induction k with
  | zero =>
    intro σ1 _ h
    have e : σ1 = σ := h
    subst e
    exact ⟨by omega, fun _ _ _ => rfl, fun _ _ _ _ => rfl, fun j hj => by omega, fun _ => Or.inl rfl⟩
  | succ k ih =>
    intro σ1 hk h
    obtain ⟨y, hy, h⟩ := h
    obtain ⟨i1, i2, i3, i4, i5⟩ := ih y (by omega) hy
    rcases h with ⟨-, rfl⟩ | ⟨-, -, h⟩ | ⟨-, -, rfl⟩
    · exact ⟨by omega, i2, i3, i4, i5⟩
    · obtain ⟨j1, j2, j3, j4⟩ := x_insP_inv i1.1 h
      refine ⟨by omega, fun a b g => (j2 a b g).trans (i2 a b g), fun a b g g2 => (j3 a b g).trans (i3 a b g g2), fun j hj => ?_, fun b => by rw [j3 378 b (by decide)]; exact i5 b⟩
      rcases j4 j hj with e | ⟨i, hi, e⟩
      · rw [e]; omega
      · rw [e]; exact i4 i hi
    · refine ⟨⟨i1.1, by show y.1 374 4 ≤ _; omega⟩, i2, fun a b g g2 => by rw [p2_2, if_neg (by omega)]; exact i3 a b g g2, fun j hj => by rw [p2_2, if_neg (by omega)]; exact i4 j hj, fun b => ?_⟩
      rw [p2_2]
      split
      · exact Or.inr rfl
      · exact i5 b
theorem x_ch_eq {σ y : fS} (h : ∀ a b, a ≠ 376 → a ≠ 378 → y.2 a b = σ.2 a b) (n : Nat) : x_ch y n = x_ch σ n := by
  unfold x_ch
  rw [h 2 n (by decide) (by decide), h 6 n (by decide) (by decide), h 7 n (by decide) (by decide)]
set_option maxRecDepth 100000 in
set_option maxHeartbeats 4000000 in
/-- chooseChanged -/
theorem kX_XD_chooseChanged (l : Launch) (D : va_G) (cA : Nat → ClassId) (ad : Nat → Nat) (hJ : f_J (xG D cA ad)) (σ : fS) (h0 : σ.1 374 4 = 0) (h2 : ∀ i, 0 ≤ σ.2 2 i ∧ σ.2 2 i ≤ 1) (h3 : ∀ i, 0 ≤ σ.2 3 i ∧ σ.2 3 i ≤ 1) (h4 : ∀ i, 0 ≤ σ.2 4 i ∧ σ.2 4 i ≤ 120) (h6 : ∀ i, 0 ≤ σ.2 6 i ∧ σ.2 6 i ≤ 1) (h7 : ∀ i, 0 ≤ σ.2 7 i ∧ σ.2 7 i ≤ 1) : f_M l (xG D cA ad) (xE (xG D cA ad)) yXD_chooseChanged (Cond.code yXD_chooseChanged cXD_chooseChanged 2 none :: A9) 2 σ [.ref (ad 374)] (f_QV (fun σ1 => x_ccR σ 40 σ1) (xG D cA ad)) := by
  refine f_enter (by decide +kernel) hJ rfl (Nat.le_of_ble_eq_true rfl) ?_
  intro z hzl hR C hRt hLk hEz
  subst hzl
  have hRR : 2 ≤ z.2.2.2.1.frames ∧ 40 * 2 ≤ z.2.2.2.1.locals ∧ 0 ≤ z.2.2.2.1.cells ∧ 0 ≤ z.2.2.2.1.slots := by rw [hR]; exact ⟨Nat.le_refl _, Nat.le_refl _, Nat.zero_le _, Nat.zero_le _⟩
  have L : ∀ (m k : Nat), m + k = 40 → ∀ y : fS, x_ccR σ k y → fv z (xG D cA ad) 2 (f_R z (xG D cA ad) (f_QV (fun σ1 => x_ccR σ 40 σ1) (xG D cA ad))) 0 0 y 2 [some (.ref (ad 374)), some (.int (fI ((k : Int) + 1)))] [] := by
    intro m
    induction m with
    | zero =>
      intro k hk y hy
      obtain rfl : k = 40 := by omega
      refine v_iload_n C dXD_chooseChanged_2 rfl rfl ?_
      refine v_bipush C dXD_chooseChanged_3 (by decide +kernel) ?_
      refine v_icmp_gt (tgt := 59) C dXD_chooseChanged_5 (by decide) (by omega) (by omega) (fun hc1 => ?_) (fun hc1 => ?_)
      · exact v_vret C hRt hLk dXD_chooseChanged_59 hy
      · exfalso; omega
    | succ m ih =>
      intro k hk y hy
      obtain ⟨hi1, hi2, hi3, hi4, hi5⟩ := x_ccR_I h0 k y (by omega) hy
      have hkt : ((k : Int) + 1).toNat = k + 1 := by omega
      have hb2 : 0 ≤ y.2 2 ((k : Int) + 1).toNat ∧ y.2 2 ((k : Int) + 1).toNat ≤ 1 := by rw [hi3 2 _ (by decide) (by decide)]; exact h2 _
      have hbe : y.2 2 ((k : Int) + 1).toNat = σ.2 2 (k + 1) := by rw [hkt]; exact hi3 2 _ (by decide) (by decide)
      refine v_iload_n C dXD_chooseChanged_2 rfl rfl ?_
      refine v_bipush C dXD_chooseChanged_3 (by decide +kernel) ?_
      refine v_icmp_gt (tgt := 59) C dXD_chooseChanged_5 (by decide) (by omega) (by omega) (fun hc2 => ?_) (fun hc2 => ?_)
      · exfalso; omega
      · refine v_aload_n C dXD_chooseChanged_8 rfl rfl ?_
        refine v_getR (k := 374) (q := 0) C dXD_chooseChanged_9 (by show (374 : Nat) < 383; decide) rfl rfl (by decide) rfl inXD lXD_26 rfl ?_
        refine v_iload_n C dXD_chooseChanged_12 rfl rfl ?_
        refine v_cVI (k := 1) (n := 1) C (xE_ok _) hEz hR (kX_XS_isChanged _ D cA ad hJ y ((k : Int) + 1) (by omega) (fun i => by rw [hi3 2 i (by decide) (by decide)]; exact h2 i) (fun i => by rw [hi3 6 i (by decide) (by decide)]; exact h6 i) (fun i => by rw [hi3 7 i (by decide) (by decide)]; exact h7 i)) dXD_chooseChanged_13 (by show (1 : Nat) < 383; decide) rfl rfl gXD_54 (by decide +kernel) (by decide) (by decide) rfl (Nat.le_of_ble_eq_true rfl) rfl ⟨rfl, rfl⟩ (fun r1 σ1 hp1 => ?_)
        obtain ⟨e1, e2⟩ := hp1
        subst σ1
        rw [hkt, x_ch_eq hi3] at e1
        have hx01 : 0 ≤ x_ch σ (k + 1) ∧ x_ch σ (k + 1) ≤ 1 := by
          unfold x_ch
          split
          · exact h6 _
          · exact h7 _
        subst r1
        refine v_if_ne (tgt := 22) C dXD_chooseChanged_16 (by decide) (by omega) (fun hc3 => ?_) (fun hc3 => ?_)
        · refine v_aload_n C dXD_chooseChanged_22 rfl rfl ?_
          refine v_getR (k := 374) (q := 0) C dXD_chooseChanged_23 (by show (374 : Nat) < 383; decide) rfl rfl (by decide) rfl inXD lXD_26 rfl ?_
          refine v_getR (k := 1) (q := 0) C dXD_chooseChanged_26 (by show (1 : Nat) < 383; decide) rfl rfl (by decide) rfl inXS lXD_44 rfl ?_
          refine v_iload_n C dXD_chooseChanged_29 rfl rfl ?_
          refine v_zald (k := 2) (v := y.2 2 (((k : Int) + 1)).toNat) C dXD_chooseChanged_30 (by show (2 : Nat) < 383; decide) rfl rfl (by omega) (by decide) rfl ?_
          refine v_if_eq (tgt := 43) C dXD_chooseChanged_31 (by decide) (by omega) (fun hc4 => ?_) (fun hc4 => ?_)
          · refine v_aload_n C dXD_chooseChanged_43 rfl rfl ?_
            refine v_getR (k := 374) (q := 3) C dXD_chooseChanged_44 (by show (374 : Nat) < 383; decide) rfl rfl (by decide) rfl inXD lXD_22 rfl ?_
            refine v_getR (k := 377) (q := 0) C dXD_chooseChanged_47 (by show (377 : Nat) < 383; decide) rfl rfl (by decide) rfl inXT lXD_58 rfl ?_
            refine v_iload_n C dXD_chooseChanged_50 rfl rfl ?_
            refine v_iconst C dXD_chooseChanged_51 ?_
            refine v_iast (k := 378) C dXD_chooseChanged_52 (by show (378 : Nat) < 383; decide) rfl rfl (by omega) (by decide) ?_
            refine v_iinc C dXD_chooseChanged_53 rfl (by decide) ?_
            refine v_goto (tgt := 2) C dXD_chooseChanged_56 (by decide) ?_
            exact ih (k + 1) (by omega) _ (by first | exact ⟨y, hy, Or.inl ⟨by omega, rfl⟩⟩ | exact ⟨y, hy, Or.inr (Or.inl ⟨by omega, by omega, hp1⟩)⟩ | exact ⟨y, hy, Or.inr (Or.inl ⟨by omega, by omega, hp2⟩)⟩ | exact ⟨y, hy, Or.inr (Or.inr ⟨by omega, by omega, by rw [hkt]⟩)⟩)
          · refine v_aload_n C dXD_chooseChanged_34 rfl rfl ?_
            refine v_iload_n C dXD_chooseChanged_35 rfl rfl ?_
            refine v_iconst C dXD_chooseChanged_36 ?_
            refine v_cVV (k := 374) (n := 2) C (xE_ok _) hEz hR (kX_XD_insert _ D cA ad hJ y ((k : Int) + 1) 0 (by omega) (by omega) (by omega) hi4 (fun i => by rw [hi3 3 i (by decide) (by decide)]; exact h3 i) (fun i => by rw [hi3 4 i (by decide) (by decide)]; exact h4 i)) dXD_chooseChanged_37 (by show (374 : Nat) < 383; decide) rfl rfl gXD_50 (by decide +kernel) (by decide) (by decide) rfl (Nat.le_of_ble_eq_true rfl) rfl ⟨rfl, rfl⟩ (fun σ1 hp1 => ?_)
            refine v_goto (tgt := 53) C dXD_chooseChanged_40 (by decide) ?_
            refine v_iinc C dXD_chooseChanged_53 rfl (by decide) ?_
            refine v_goto (tgt := 2) C dXD_chooseChanged_56 (by decide) ?_
            exact ih (k + 1) (by omega) _ (by first | exact ⟨y, hy, Or.inl ⟨by omega, rfl⟩⟩ | exact ⟨y, hy, Or.inr (Or.inl ⟨by omega, by omega, hp1⟩)⟩ | exact ⟨y, hy, Or.inr (Or.inl ⟨by omega, by omega, hp2⟩)⟩ | exact ⟨y, hy, Or.inr (Or.inr ⟨by omega, by omega, by rw [hkt]⟩)⟩)
        · refine v_goto (tgt := 53) C dXD_chooseChanged_19 (by decide) ?_
          refine v_iinc C dXD_chooseChanged_53 rfl (by decide) ?_
          refine v_goto (tgt := 2) C dXD_chooseChanged_56 (by decide) ?_
          exact ih (k + 1) (by omega) _ (by first | exact ⟨y, hy, Or.inl ⟨by omega, rfl⟩⟩ | exact ⟨y, hy, Or.inr (Or.inl ⟨by omega, by omega, hp1⟩)⟩ | exact ⟨y, hy, Or.inr (Or.inl ⟨by omega, by omega, hp2⟩)⟩ | exact ⟨y, hy, Or.inr (Or.inr ⟨by omega, by omega, by rw [hkt]⟩)⟩)
  refine v_iconst C dXD_chooseChanged_0 ?_
  refine v_istore_n C dXD_chooseChanged_1 rfl (by decide) ?_
  exact v_lv rfl (L 40 0 (by omega) σ rfl)
end
section
/-! how long a record and a row are at most -/
theorem x_dig2 {v : Int} (h : v ≤ 99) : (dig v).length ≤ 2 := by
  unfold dig
  rw [dg_len]
  have h2 := x_dl2 v 1 (by omega) (show v < (10 : Int) ^ (1 + 1) by simp only [Nat.reduceAdd, Int.reducePow]; omega)
  omega
theorem x_dig3 {v : Int} (h : v ≤ 999) : (dig v).length ≤ 3 := by
  unfold dig
  rw [dg_len]
  have h2 := x_dl2 v 2 (by omega) (show v < (10 : Int) ^ (2 + 1) by simp only [Nat.reduceAdd, Int.reducePow]; omega)
  omega
theorem x_rec_len {σ : fS} {n : Int} (hn : n ≤ 40) (h4 : 0 ≤ σ.2 4 n.toNat ∧ σ.2 4 n.toNat ≤ 120) : (x_rec σ n).length ≤ 130 := by
  have h1 := x_dig2 (v := n) (by omega)
  have h2 := x_dig3 (v := σ.2 4 n.toNat) (by omega)
  unfold x_rec x_hd
  simp only [List.length_append, List.length_cons, List.length_nil, x_byt_len]
  omega
theorem x_row_len {σ : fS} {n : Int} (hn : n ≤ 40) : (x_row σ n).length ≤ 9 := by
  have h1 := x_dig2 (v := n) (by omega)
  have h2 := dig_len (σ.2 378 n.toNat)
  unfold x_row
  split
  · simp only [List.length_append, List.length_cons, List.length_nil]
    omega
  · simp only [List.length_append, List.length_cons, List.length_nil]
    omega
end
section
/-! the records of a draft, one behind the other -/
def x_recs (σ : fS) : Nat → fS
  | 0 => σ
  | k + 1 => x_puts (x_r0 (x_recs σ k) (σ.2 376 k)) (x_rec (x_recs σ k) (σ.2 376 k))
theorem x_recs_I {σ : fS} (h4 : ∀ i, 0 ≤ σ.2 4 i ∧ σ.2 4 i ≤ 120) (ho : ∀ j : Nat, (j : Int) < σ.1 374 4 → 1 ≤ σ.2 376 j ∧ σ.2 376 j ≤ 40) : ∀ k : Nat, (k : Int) ≤ σ.1 374 4 → (∀ a b, a ≠ 375 → a ≠ 378 → a ≠ 379 → (x_recs σ k).2 a b = σ.2 a b) ∧ (∀ a b, ¬ (a = 374 ∧ b = 6) → (x_recs σ k).1 a b = σ.1 a b) ∧ σ.1 374 6 ≤ (x_recs σ k).1 374 6 ∧ (x_recs σ k).1 374 6 ≤ σ.1 374 6 + 130 * (k : Int) := by
  intro k
  induction k with
  | zero => intro _; exact ⟨fun _ _ _ _ _ => rfl, fun _ _ _ => rfl, Int.le_refl _, by show σ.1 374 6 ≤ _; omega⟩
  | succ k ih =>
    intro hk
    obtain ⟨i1, i2, i3, i4⟩ := ih (by omega)
    have hn := ho k (by omega)
    have hl := x_rec_len (σ := x_recs σ k) (n := σ.2 376 k) hn.2 (by rw [i1 4 _ (by decide) (by decide) (by decide)]; exact h4 _)
    have hu := x_puts_u (x_r0 (x_recs σ k) (σ.2 376 k)) (x_rec (x_recs σ k) (σ.2 376 k))
    have e : (x_r0 (x_recs σ k) (σ.2 376 k)).1 374 6 = (x_recs σ k).1 374 6 := rfl
    refine ⟨fun a b g1 g2 g3 => ?_, fun a b g => ?_, ?_, ?_⟩
    · show (x_puts _ _).2 a b = _
      rw [x_puts_2 _ _ _ _ g1, x_r0_2 _ _ _ _ g2 g3]
      exact i1 a b g1 g2 g3
    · show (x_puts _ _).1 a b = _
      rw [x_puts_1, if_neg g]
      exact i2 a b g
    · show _ ≤ (x_puts _ _).1 374 6
      omega
    · show (x_puts _ _).1 374 6 ≤ _
      omega
end
section
/-! ranges of what a draft holds -/
def x_byR (L : List Int) : Prop := ∀ x ∈ L, -128 ≤ x ∧ x ≤ 127
theorem x_byR_app {a b : List Int} (ha : x_byR a) (hb : x_byR b) : x_byR (a ++ b) := fun x h => (List.mem_append.mp h).elim (ha x) (hb x)
theorem x_byR_1 {v : Int} (h : -128 ≤ v ∧ v ≤ 127) : x_byR [v] := fun x hx => by rw [List.mem_singleton] at hx; rw [hx]; exact h
theorem x_byR_dig (v : Int) : x_byR (dig v) := fun x hx => by have := dg_byte (dl v) v x hx; omega
theorem x_byR_tell {c : Int} (hc : -128 ≤ c ∧ c ≤ 127) (v : Int) : x_byR (m_tell c v) := by
  unfold m_tell
  refine x_byR_app (x_byR_app (fun x hx => ?_) (x_byR_dig v)) (x_byR_1 (by omega))
  simp only [List.mem_cons, List.not_mem_nil, or_false] at hx
  rcases hx with rfl | rfl
  · exact hc
  · omega
theorem x_put_375 {σ : fS} {v : Int} (hv : -128 ≤ v ∧ v ≤ 127) (h : ∀ i, -128 ≤ σ.2 375 i ∧ σ.2 375 i ≤ 127) : ∀ i, -128 ≤ (x_put σ v).2 375 i ∧ (x_put σ v).2 375 i ≤ 127 := fun i => by
  unfold x_put
  rw [p1_2, p2_2]
  split
  · exact hv
  · exact h i
theorem x_puts_375 : ∀ (L : List Int) (σ : fS), x_byR L → (∀ i, -128 ≤ σ.2 375 i ∧ σ.2 375 i ≤ 127) → ∀ i, -128 ≤ (x_puts σ L).2 375 i ∧ (x_puts σ L).2 375 i ≤ 127 := by
  intro L
  induction L with
  | nil => intro σ _ h; exact h
  | cons x r ih =>
    intro σ hL h
    exact ih (x_put σ x) (fun y hy => hL y (List.mem_cons_of_mem _ hy)) (x_put_375 (hL x List.mem_cons_self) h)
theorem x_byR_rec {σ : fS} (n : Int) (h5 : ∀ i, -128 ≤ σ.2 5 i ∧ σ.2 5 i ≤ 127) : x_byR (x_rec σ n) := by
  unfold x_rec x_hd
  refine x_byR_app (x_byR_app (x_byR_app (x_byR_app (x_byR_app (x_byR_app (x_byR_app (x_byR_1 (by omega)) (x_byR_1 (by omega))) (x_byR_dig _)) (x_byR_1 (by omega))) (x_byR_dig _)) (x_byR_1 (by omega))) (fun x hx => ?_)) (x_byR_1 (by omega))
  unfold x_byt at hx
  obtain ⟨j, -, rfl⟩ := List.mem_map.mp hx
  exact h5 _
theorem x_byR_row (σ : fS) (n : Int) : x_byR (x_row σ n) := by
  unfold x_row
  refine x_byR_app (x_byR_app (x_byR_app (x_byR_dig _) (x_byR_1 (by omega))) ?_) (x_byR_1 (by omega))
  split
  · exact x_byR_1 (by omega)
  · exact x_byR_dig _
/-- the rows of a draft's table -/
def x_rows (B : fS) : Nat → List Int
  | 0 => []
  | k + 1 => x_rows B k ++ (if B.2 378 (k + 1) = -2 then [] else x_row B ((k : Int) + 1))
theorem x_rows_len (B : fS) : ∀ k : Nat, k ≤ 40 → (x_rows B k).length ≤ 9 * k := by
  intro k
  induction k with
  | zero => intro _; exact Nat.le_refl _
  | succ k ih =>
    intro hk
    have h1 := ih (by omega)
    show (x_rows B k ++ _).length ≤ _
    rw [List.length_append]
    split
    · show _ + 0 ≤ _; omega
    · have := x_row_len (σ := B) (n := (k : Int) + 1) (by omega)
      omega
theorem x_rows_byR (B : fS) : ∀ k : Nat, x_byR (x_rows B k) := by
  intro k
  induction k with
  | zero => intro x hx; cases hx
  | succ k ih =>
    show x_byR (x_rows B k ++ _)
    refine x_byR_app ih ?_
    split
    · intro x hx; cases hx
    · exact x_byR_row _ _
theorem x_row_eq {B C : fS} (h : ∀ i, C.2 378 i = B.2 378 i) (n : Int) : x_row C n = x_row B n := by
  unfold x_row
  rw [h]
/-- the part behind its records -/
def x_ftl (R : fS) (q : Int) : List Int := m_tell 120 (m_cnt (x_has R 377) 40) ++ x_rows R 40 ++ m_tell 112 q ++ m_tell 101 (R.1 374 5 + R.1 374 6)
theorem x_ftl_len (R : fS) (q : Int) : (x_ftl R q).length ≤ 384 := by
  have h1 := m_tell_len 120 (m_cnt (x_has R 377) 40)
  have h2 := m_tell_len 112 q
  have h3 := m_tell_len 101 (R.1 374 5 + R.1 374 6)
  have h4 := x_rows_len R 40 (by omega)
  unfold x_ftl
  simp only [List.length_append]
  omega
theorem x_ftl_byR (R : fS) (q : Int) : x_byR (x_ftl R q) := by
  unfold x_ftl
  exact x_byR_app (x_byR_app (x_byR_app (x_byR_tell (by omega) _) (x_rows_byR _ _)) (x_byR_tell (by omega) _)) (x_byR_tell (by omega) _)
def x_finx (R : fS) (q : Int) : fS := f_p1 (x_puts (f_p1 R 377 2 (R.1 374 5 + R.1 374 6)) (x_ftl R q)) 377 3 (R.1 374 5 + R.1 374 6 + (x_ftl R q).length)
/-- a draft is finished -/
def x_fin (σ : fS) (q : Int) : fS := x_finx (x_recs σ (σ.1 374 4).toNat) q
/-- the records leave the ranges -/
theorem x_recs_J {σ : fS} (h4 : ∀ i, 0 ≤ σ.2 4 i ∧ σ.2 4 i ≤ 120) (h5 : ∀ i, -128 ≤ σ.2 5 i ∧ σ.2 5 i ≤ 127) (ho : ∀ j : Nat, (j : Int) < σ.1 374 4 → 1 ≤ σ.2 376 j ∧ σ.2 376 j ≤ 40) (hc : σ.1 374 4 ≤ 40) (hb : 0 ≤ σ.1 374 5 ∧ σ.1 374 5 ≤ 12000) (hu : 0 ≤ σ.1 374 6 ∧ σ.1 374 6 ≤ 100) (h375 : ∀ i, -128 ≤ σ.2 375 i ∧ σ.2 375 i ≤ 127) (h378 : ∀ i, -2 ≤ σ.2 378 i ∧ σ.2 378 i ≤ 99999) (h379 : ∀ i, 0 ≤ σ.2 379 i ∧ σ.2 379 i ≤ 120) : ∀ k : Nat, (k : Int) ≤ σ.1 374 4 → (∀ i, -128 ≤ (x_recs σ k).2 375 i ∧ (x_recs σ k).2 375 i ≤ 127) ∧ (∀ i, -2 ≤ (x_recs σ k).2 378 i ∧ (x_recs σ k).2 378 i ≤ 99999) ∧ (∀ i, 0 ≤ (x_recs σ k).2 379 i ∧ (x_recs σ k).2 379 i ≤ 120) := by
  intro k
  induction k with
  | zero => intro _; exact ⟨h375, h378, h379⟩
  | succ k ih =>
    intro hk
    obtain ⟨i1, i2, i3⟩ := ih (by omega)
    obtain ⟨j1, j2, j3, j4⟩ := x_recs_I h4 ho k (by omega)
    have hn := ho k (by omega)
    have hb5 : (x_recs σ k).1 374 5 = σ.1 374 5 := j2 374 5 (by decide)
    refine ⟨fun i => ?_, fun i => ?_, fun i => ?_⟩
    · refine x_puts_375 _ _ (x_byR_rec _ (fun i => by rw [j1 5 i (by decide) (by decide) (by decide)]; exact h5 i)) (fun i => ?_) i
      rw [x_r0_2 _ _ _ _ (by decide) (by decide)]
      exact i1 i
    · show -2 ≤ (x_puts _ _).2 378 i ∧ (x_puts _ _).2 378 i ≤ 99999
      rw [x_puts_2 _ _ _ _ (by decide)]
      unfold x_r0
      rw [p2_2, if_neg (by omega), p2_2]
      split
      · omega
      · exact i2 i
    · show 0 ≤ (x_puts _ _).2 379 i ∧ (x_puts _ _).2 379 i ≤ 120
      rw [x_puts_2 _ _ _ _ (by decide)]
      unfold x_r0
      rw [p2_2]
      split
      · rw [j1 4 _ (by decide) (by decide) (by decide)]; exact h4 _
      · rw [p2_2, if_neg (by omega)]; exact i3 i
set_option maxRecDepth 100000 in
set_option maxHeartbeats 4000000 in
/-- finish -/
theorem kX_XD_finish (l : Launch) (D : va_G) (cA : Nat → ClassId) (ad : Nat → Nat) (hJ : f_J (xG D cA ad)) (σ : fS) (q : Int) (hq : 0 ≤ q ∧ q ≤ 99999) (hc : 0 ≤ σ.1 374 4 ∧ σ.1 374 4 ≤ 40) (ho : ∀ j : Nat, (j : Int) < σ.1 374 4 → 1 ≤ σ.2 376 j ∧ σ.2 376 j ≤ 40) (hb : 0 ≤ σ.1 374 5 ∧ σ.1 374 5 ≤ 12000) (hu : 0 ≤ σ.1 374 6 ∧ σ.1 374 6 ≤ 100) (h4 : ∀ i, 0 ≤ σ.2 4 i ∧ σ.2 4 i ≤ 120) (h5 : ∀ i, -128 ≤ σ.2 5 i ∧ σ.2 5 i ≤ 127) (h375 : ∀ i, -128 ≤ σ.2 375 i ∧ σ.2 375 i ≤ 127) (h378 : ∀ i, -2 ≤ σ.2 378 i ∧ σ.2 378 i ≤ 99999) (h379 : ∀ i, 0 ≤ σ.2 379 i ∧ σ.2 379 i ≤ 120) : f_M l (xG D cA ad) (xE (xG D cA ad)) yXD_finish (Cond.code yXD_finish cXD_finish 3 none :: A9) 3 σ [.ref (ad 374), .int (fI q)] (f_QV (fun σ1 => σ1 = x_fin σ q) (xG D cA ad)) := by
  refine f_enter (by decide +kernel) hJ rfl (Nat.le_of_ble_eq_true rfl) ?_
  intro z hzl hR C hRt hLk hEz
  subst hzl
  have hRR : 3 ≤ z.2.2.2.1.frames ∧ 40 * 3 ≤ z.2.2.2.1.locals ∧ 0 ≤ z.2.2.2.1.cells ∧ 0 ≤ z.2.2.2.1.slots := by rw [hR]; exact ⟨Nat.le_refl _, Nat.le_refl _, Nat.zero_le _, Nat.zero_le _⟩
  obtain ⟨R, hRe⟩ : ∃ s, s = x_recs σ (σ.1 374 4).toNat := ⟨_, rfl⟩
  obtain ⟨X, hXe⟩ : ∃ s, s = f_p1 R 377 2 (R.1 374 5 + R.1 374 6) := ⟨_, rfl⟩
  obtain ⟨r1, r2, r3, r4⟩ := x_recs_I h4 ho (σ.1 374 4).toNat (by omega)
  obtain ⟨-, hR378, -⟩ := x_recs_J h4 h5 ho hc.2 hb hu h375 h378 h379 (σ.1 374 4).toNat (by omega)
  rw [← hRe] at r1 r2 r3 r4 hR378
  have hR5 : R.1 374 5 = σ.1 374 5 := r2 374 5 (by decide)
  have hX2 : ∀ a i, X.2 a i = R.2 a i := fun a i => by rw [hXe]; rfl
  have hX6 : X.1 374 6 = R.1 374 6 := by rw [hXe]; rfl
  have hX5 : X.1 374 5 = R.1 374 5 := by rw [hXe]; rfl
  have hXx : X.1 377 2 = R.1 374 5 + R.1 374 6 := by rw [hXe, p1_1, if_pos ⟨rfl, rfl⟩]
  have h120 := m_tell_len 120 (m_cnt (x_has R 377) 40)
  have hcn := m_cnt_le (x_has R 377) 40
  have hfin : ∀ s : fS, s = f_p1 (x_puts X (m_tell 120 (m_cnt (x_has R 377) 40) ++ x_rows R 40 ++ m_tell 112 q ++ m_tell 101 (R.1 374 5 + R.1 374 6))) 377 3 (R.1 374 5 + R.1 374 6 + (m_tell 120 (m_cnt (x_has R 377) 40) ++ x_rows R 40 ++ m_tell 112 q ++ m_tell 101 (R.1 374 5 + R.1 374 6)).length) → s = x_fin σ q := fun s hs => by rw [hs, hXe, hRe]; rfl
  have L2 : ∀ (m k : Nat), m + k = 40 → fv z (xG D cA ad) 3 (f_R z (xG D cA ad) (f_QV (fun σ1 => σ1 = x_fin σ q) (xG D cA ad))) 0 0 (x_puts X (m_tell 120 (m_cnt (x_has R 377) 40) ++ x_rows R k)) 57 [some (.ref (ad 374)), some (.int (fI q)), some (.int (fI ((k : Int) + 1)))] [] := by
    intro m
    induction m with
    | zero =>
      intro k hk
      obtain rfl : k = 40 := by omega
      refine v_iload_n C dXD_finish_57 rfl rfl ?_
      refine v_bipush C dXD_finish_58 (by decide +kernel) ?_
      refine v_icmp_gt (tgt := 88) C dXD_finish_60 (by decide) (by omega) (by omega) (fun hc1 => ?_) (fun hc1 => ?_)
      · refine v_aload_n C dXD_finish_88 rfl rfl ?_
        refine v_bipush C dXD_finish_89 (by decide +kernel) ?_
        refine v_iload_n C dXD_finish_91 rfl rfl ?_
        have hx2 := x_puts_u X (m_tell 120 (m_cnt (x_has R 377) 40) ++ x_rows R 40)
        have h120 := m_tell_len 120 (m_cnt (x_has R 377) 40)
        have h112 := m_tell_len 112 q
        have hrl := x_rows_len R 40 (by omega)
        simp only [List.length_append, List.length_nil] at hx2
        refine v_cVV (k := 374) (n := 2) C (xE_ok _) hEz hR (kX_XD_putTagged _ D cA ad hJ (x_puts X (m_tell 120 (m_cnt (x_has R 377) 40) ++ x_rows R 40)) (112) (q) (by omega) (by omega) (by omega)) dXD_finish_92 (by show (374 : Nat) < 383; decide) rfl rfl gXD_81 (by decide +kernel) (by decide) (by decide) rfl (Nat.le_of_ble_eq_true rfl) rfl ⟨rfl, rfl⟩ (fun σ1 hp1 => ?_)
        subst σ1
        refine v_st (σ1 := x_puts X (m_tell 120 (m_cnt (x_has R 377) 40) ++ x_rows R 40 ++ m_tell (112) (q))) ((x_puts_app _ _ _).symm) ?_
        refine v_aload_n C dXD_finish_95 rfl rfl ?_
        refine v_bipush C dXD_finish_96 (by decide +kernel) ?_
        refine v_aload_n C dXD_finish_98 rfl rfl ?_
        refine v_getR (k := 374) (q := 3) C dXD_finish_99 (by show (374 : Nat) < 383; decide) rfl rfl (by decide) rfl inXD lXD_22 rfl ?_
        refine v_getI (k := 377) (q := 2) (v := X.1 377 2) C dXD_finish_102 (by show (377 : Nat) < 383; decide) rfl rfl (by decide) rfl inXT lXD_74 rfl (by rw [x_puts_1, if_neg (by decide)]) ?_
        refine v_top (b := R.1 374 5 + R.1 374 6) hXx ?_
        have hx3 := x_puts_u X (m_tell 120 (m_cnt (x_has R 377) 40) ++ x_rows R 40 ++ m_tell (112) (q))
        have h120 := m_tell_len 120 (m_cnt (x_has R 377) 40)
        have h112 := m_tell_len 112 q
        have hrl := x_rows_len R 40 (by omega)
        simp only [List.length_append, List.length_nil] at hx3
        refine v_cVV (k := 374) (n := 2) C (xE_ok _) hEz hR (kX_XD_putTagged _ D cA ad hJ (x_puts X (m_tell 120 (m_cnt (x_has R 377) 40) ++ x_rows R 40 ++ m_tell (112) (q))) (101) (R.1 374 5 + R.1 374 6) (by omega) (by omega) (by omega)) dXD_finish_105 (by show (374 : Nat) < 383; decide) rfl rfl gXD_81 (by decide +kernel) (by decide) (by decide) rfl (Nat.le_of_ble_eq_true rfl) rfl ⟨rfl, rfl⟩ (fun σ1 hp1 => ?_)
        subst σ1
        refine v_st (σ1 := x_puts X (m_tell 120 (m_cnt (x_has R 377) 40) ++ x_rows R 40 ++ m_tell (112) (q) ++ m_tell (101) (R.1 374 5 + R.1 374 6))) ((x_puts_app _ _ _).symm) ?_
        refine v_aload_n C dXD_finish_108 rfl rfl ?_
        refine v_getR (k := 374) (q := 3) C dXD_finish_109 (by show (374 : Nat) < 383; decide) rfl rfl (by decide) rfl inXD lXD_22 rfl ?_
        refine v_aload_n C dXD_finish_112 rfl rfl ?_
        refine v_getI (k := 374) (q := 5) (v := X.1 374 5) C dXD_finish_113 (by show (374 : Nat) < 383; decide) rfl rfl (by decide) rfl inXD lXD_30 rfl (by rw [x_puts_1, if_neg (by decide)]) ?_
        refine v_aload_n C dXD_finish_116 rfl rfl ?_
        refine v_getI (k := 374) (q := 6) (v := X.1 374 6 + (m_tell 120 (m_cnt (x_has R 377) 40) ++ x_rows R 40 ++ m_tell (112) (q) ++ m_tell (101) (R.1 374 5 + R.1 374 6) : List Int).length) C dXD_finish_117 (by show (374 : Nat) < 383; decide) rfl rfl (by decide) rfl inXD lXD_34 rfl (x_puts_u _ _) ?_
        refine v_iadd C dXD_finish_120 ?_
        refine v_top (b := R.1 374 5 + R.1 374 6 + (m_tell 120 (m_cnt (x_has R 377) 40) ++ x_rows R 40 ++ m_tell 112 q ++ m_tell 101 (R.1 374 5 + R.1 374 6)).length) (by simp only [List.length_append]; omega) ?_
        refine v_putI (k := 377) (q := 3) C dXD_finish_121 (by show (377 : Nat) < 383; decide) rfl rfl (by decide) rfl inXT tyXT_ok nmXT lXD_87 rfl rfl rfl rfl rfl ?_
        exact v_vret C hRt hLk dXD_finish_124 (hfin _ rfl)
      · exfalso; omega
    | succ m ih =>
      intro k hk
      have hkt : ((k : Int) + 1).toNat = k + 1 := by omega
      have hx8 := hR378 (k + 1)
      have hxe : X.2 378 ((k : Int) + 1).toNat = R.2 378 (k + 1) := by rw [hX2, hkt]
      refine v_iload_n C dXD_finish_57 rfl rfl ?_
      refine v_bipush C dXD_finish_58 (by decide +kernel) ?_
      refine v_icmp_gt (tgt := 88) C dXD_finish_60 (by decide) (by omega) (by omega) (fun hc4 => ?_) (fun hc4 => ?_)
      · exfalso; omega
      · refine v_aload_n C dXD_finish_63 rfl rfl ?_
        refine v_getR (k := 374) (q := 3) C dXD_finish_64 (by show (374 : Nat) < 383; decide) rfl rfl (by decide) rfl inXD lXD_22 rfl ?_
        refine v_getR (k := 377) (q := 0) C dXD_finish_67 (by show (377 : Nat) < 383; decide) rfl rfl (by decide) rfl inXT lXD_58 rfl ?_
        refine v_iload_n C dXD_finish_70 rfl rfl ?_
        refine v_iald (k := 378) (v := X.2 378 (((k : Int) + 1)).toNat) C dXD_finish_71 (by show (378 : Nat) < 383; decide) rfl rfl (by omega) (by decide) (x_puts_2 _ _ _ _ (by decide)) ?_
        refine v_bipush C dXD_finish_72 (by decide +kernel) ?_
        refine v_icmp_eq (tgt := 82) C dXD_finish_74 (by decide) (by omega) (by omega) (fun hc5 => ?_) (fun hc5 => ?_)
        · refine v_iinc C dXD_finish_82 rfl (by decide) ?_
          refine v_goto (tgt := 57) C dXD_finish_85 (by decide) ?_
          exact v_st (by first | (rw [← x_puts_app]; show _ = x_puts X (_ ++ (x_rows R k ++ _)); rw [if_neg (by omega), List.append_assoc, x_row_eq (B := R) (fun i => by rw [x_puts_2 _ _ _ _ (by decide), hX2])]) | (show _ = x_puts X (_ ++ (x_rows R k ++ _)); rw [if_pos (by omega), List.append_nil])) (ih (k + 1) (by omega))
        · refine v_aload_n C dXD_finish_77 rfl rfl ?_
          refine v_iload_n C dXD_finish_78 rfl rfl ?_
          have hpl := x_puts_u X (m_tell 120 (m_cnt (x_has R 377) 40) ++ x_rows R k)
          have hrl := x_rows_len R k (by omega)
          have hpp : (x_puts X (m_tell 120 (m_cnt (x_has R 377) 40) ++ x_rows R k)).2 378 ((k : Int) + 1).toNat = X.2 378 ((k : Int) + 1).toNat := x_puts_2 _ _ _ _ (by decide)
          simp only [List.length_append] at hpl
          refine v_cVV (k := 374) (n := 1) C (xE_ok _) hEz hR (kX_XD_putRow _ D cA ad hJ (x_puts X (m_tell 120 (m_cnt (x_has R 377) 40) ++ x_rows R k)) ((k : Int) + 1) (by omega) (by omega) (by omega)) dXD_finish_79 (by show (374 : Nat) < 383; decide) rfl rfl gXD_84 (by decide +kernel) (by decide) (by decide) rfl (Nat.le_of_ble_eq_true rfl) rfl ⟨rfl, rfl⟩ (fun σ1 hp1 => ?_)
          subst σ1
          refine v_iinc C dXD_finish_82 rfl (by decide) ?_
          refine v_goto (tgt := 57) C dXD_finish_85 (by decide) ?_
          exact v_st (by first | (rw [← x_puts_app]; show _ = x_puts X (_ ++ (x_rows R k ++ _)); rw [if_neg (by omega), List.append_assoc, x_row_eq (B := R) (fun i => by rw [x_puts_2 _ _ _ _ (by decide), hX2])]) | (show _ = x_puts X (_ ++ (x_rows R k ++ _)); rw [if_pos (by omega), List.append_nil])) (ih (k + 1) (by omega))
  have L1 : ∀ (m k : Nat), m + k = (σ.1 374 4).toNat → fv z (xG D cA ad) 3 (f_R z (xG D cA ad) (f_QV (fun σ1 => σ1 = x_fin σ q) (xG D cA ad))) 0 0 (x_recs σ k) 2 [some (.ref (ad 374)), some (.int (fI q)), some (.int (fI (k : Int)))] [] := by
    intro m
    induction m with
    | zero =>
      intro k hk
      obtain ⟨j1, j2, j3, j4⟩ := x_recs_I h4 ho k (by omega)
      refine v_iload_n C dXD_finish_2 rfl rfl ?_
      refine v_aload_n C dXD_finish_3 rfl rfl ?_
      refine v_getI (k := 374) (q := 4) (v := σ.1 374 4) C dXD_finish_4 (by show (374 : Nat) < 383; decide) rfl rfl (by decide) rfl inXD lXD_37 rfl (j2 374 4 (by decide)) ?_
      refine v_icmp_ge (tgt := 26) C dXD_finish_7 (by decide) (by omega) (by omega) (fun hc6 => ?_) (fun hc6 => ?_)
      · obtain rfl : k = (σ.1 374 4).toNat := by omega
        refine v_st hRe.symm ?_
        refine v_aload_n C dXD_finish_26 rfl rfl ?_
        refine v_getR (k := 374) (q := 3) C dXD_finish_27 (by show (374 : Nat) < 383; decide) rfl rfl (by decide) rfl inXD lXD_22 rfl ?_
        refine v_aload_n C dXD_finish_30 rfl rfl ?_
        refine v_getI (k := 374) (q := 5) (v := R.1 374 5) C dXD_finish_31 (by show (374 : Nat) < 383; decide) rfl rfl (by decide) rfl inXD lXD_30 rfl rfl ?_
        refine v_aload_n C dXD_finish_34 rfl rfl ?_
        refine v_getI (k := 374) (q := 6) (v := R.1 374 6) C dXD_finish_35 (by show (374 : Nat) < 383; decide) rfl rfl (by decide) rfl inXD lXD_34 rfl rfl ?_
        refine v_iadd C dXD_finish_38 ?_
        refine v_putI (k := 377) (q := 2) C dXD_finish_39 (by show (377 : Nat) < 383; decide) rfl rfl (by decide) rfl inXT tyXT_ok nmXT lXD_74 rfl rfl rfl rfl rfl ?_
        refine v_st hXe.symm ?_
        refine v_aload_n C dXD_finish_42 rfl rfl ?_
        refine v_bipush C dXD_finish_43 (by decide +kernel) ?_
        refine v_aload_n C dXD_finish_45 rfl rfl ?_
        refine v_getR (k := 374) (q := 3) C dXD_finish_46 (by show (374 : Nat) < 383; decide) rfl rfl (by decide) rfl inXD lXD_22 rfl ?_
        have hbr : ∀ i, -2 ≤ X.2 (377 + 1) i ∧ X.2 (377 + 1) i ≤ 99999 := fun i => by rw [hX2]; exact hR378 i
        refine v_cVI (k := 377) (n := 0) C (xE_ok _) hEz hR (kX_XT_countRows _ D cA ad hJ X 377 (by decide) rfl rfl rfl hbr) dXD_finish_49 (by show (377 : Nat) < 383; decide) rfl rfl gXD_77 (by decide +kernel) (by decide) (by decide) rfl (Nat.le_of_ble_eq_true rfl) rfl ⟨rfl, rfl⟩ (fun r1 σ1 hp1 => ?_)
        obtain ⟨e1, e2⟩ := hp1
        subst σ1
        have ecn : x_has X 377 = x_has R 377 := funext fun i => by unfold x_has; rw [hX2]
        rw [ecn] at e1
        subst r1
        refine v_st (σ1 := x_puts X []) rfl ?_
        have hx7 := x_puts_u X ([])
        have h120 := m_tell_len 120 (m_cnt (x_has R 377) 40)
        have h112 := m_tell_len 112 q
        have hrl := x_rows_len R 40 (by omega)
        simp only [List.length_append, List.length_nil] at hx7
        refine v_cVV (k := 374) (n := 2) C (xE_ok _) hEz hR (kX_XD_putTagged _ D cA ad hJ (x_puts X ([])) (120) ((m_cnt (x_has R 377) 40)) (by omega) (by omega) (by omega)) dXD_finish_52 (by show (374 : Nat) < 383; decide) rfl rfl gXD_81 (by decide +kernel) (by decide) (by decide) rfl (Nat.le_of_ble_eq_true rfl) rfl ⟨rfl, rfl⟩ (fun σ1 hp1 => ?_)
        subst σ1
        refine v_st (σ1 := x_puts X (m_tell (120) ((m_cnt (x_has R 377) 40)))) (rfl) ?_
        refine v_iconst C dXD_finish_55 ?_
        refine v_istore_n C dXD_finish_56 rfl (by decide) ?_
        exact v_st (by show _ = x_puts X (_ ++ []); rw [List.append_nil]) (v_lv rfl (L2 40 0 (by omega)))
      · exfalso; omega
    | succ m ih =>
      intro k hk
      obtain ⟨j1, j2, j3, j4⟩ := x_recs_I h4 ho k (by omega)
      refine v_iload_n C dXD_finish_2 rfl rfl ?_
      refine v_aload_n C dXD_finish_3 rfl rfl ?_
      refine v_getI (k := 374) (q := 4) (v := σ.1 374 4) C dXD_finish_4 (by show (374 : Nat) < 383; decide) rfl rfl (by decide) rfl inXD lXD_37 rfl (j2 374 4 (by decide)) ?_
      refine v_icmp_ge (tgt := 26) C dXD_finish_7 (by decide) (by omega) (by omega) (fun hc8 => ?_) (fun hc8 => ?_)
      · exfalso; omega
      · refine v_aload_n C dXD_finish_10 rfl rfl ?_
        refine v_aload_n C dXD_finish_11 rfl rfl ?_
        refine v_getR (k := 374) (q := 2) C dXD_finish_12 (by show (374 : Nat) < 383; decide) rfl rfl (by decide) rfl inXD lXD_15 rfl ?_
        refine v_iload_n C dXD_finish_15 rfl rfl ?_
        refine v_iald (k := 376) (v := σ.2 376 k) C dXD_finish_16 (by show (376 : Nat) < 383; decide) rfl rfl (by omega) (by decide) (j1 376 k (by decide) (by decide) (by decide)) ?_
        refine v_cVV (k := 374) (n := 1) C (xE_ok _) hEz hR (kX_XD_putRecord _ D cA ad hJ (x_recs σ k) (σ.2 376 k) (ho k (by omega)) (fun i => by rw [j1 4 i (by decide) (by decide) (by decide)]; exact h4 i) (fun i => by rw [j1 5 i (by decide) (by decide) (by decide)]; exact h5 i) (by rw [j2 374 5 (by decide)]; exact hb) (by omega)) dXD_finish_17 (by show (374 : Nat) < 383; decide) rfl rfl gXD_71 (by decide +kernel) (by decide) (by decide) rfl (Nat.le_of_ble_eq_true rfl) rfl ⟨rfl, rfl⟩ (fun σ1 hp1 => ?_)
        subst σ1
        refine v_iinc C dXD_finish_20 rfl (by decide) ?_
        refine v_goto (tgt := 2) C dXD_finish_23 (by decide) ?_
        exact v_st rfl (ih (k + 1) (by omega))
  refine v_iconst C dXD_finish_0 ?_
  refine v_istore_n C dXD_finish_1 rfl (by decide) ?_
  exact v_lv rfl (L1 (σ.1 374 4).toNat 0 (by omega))
end
section
/-! THE RANGES OF THE CLASS'S NUMBERS -/
def x_okA (a : Nat) (v : Int) : Prop :=
  if a = 2 ∨ a = 3 ∨ a = 6 ∨ a = 7 then 0 ≤ v ∧ v ≤ 1
  else if a = 4 ∨ a = 379 then 0 ≤ v ∧ v ≤ 120
  else if a = 5 ∨ a = 9 ∨ a = 375 then -128 ≤ v ∧ v ≤ 127
  else if a = 378 then -2 ≤ v ∧ v ≤ 99999
  else if 12 ≤ a ∧ a < 192 then (if a % 3 = 1 then -2 ≤ v ∧ v ≤ 99999 else 0 ≤ v ∧ v ≤ 120)
  else if 194 ≤ a ∧ a < 374 then (if a % 3 = 0 then -2 ≤ v ∧ v ≤ 99999 else -1 ≤ v ∧ v ≤ 120)
  else if a = 381 ∨ a = 382 then 0 ≤ v ∧ v ≤ 40
  else True
def x_okF (a b : Nat) (v : Int) : Prop :=
  if a = 8 ∧ b = 1 then 0 ≤ v ∧ v ≤ 12000
  else if a = 8 ∧ b = 2 then 0 ≤ v ∧ v ≤ 1
  else if a = 10 ∧ b = 1 then 0 ≤ v ∧ v ≤ 60
  else if a = 380 ∧ b = 2 then 0 ≤ v ∧ v ≤ 40
  else if (12 ≤ a ∧ a < 192 ∨ 194 ≤ a ∧ a < 374) ∧ (b = 2 ∨ b = 3) then 0 ≤ v ∧ v ≤ 12000
  else True
def x_I (σ : fS) : Prop := (∀ a b, x_okF a b (σ.1 a b)) ∧ ∀ a b, x_okA a (σ.2 a b)
theorem x_okA_hp (i : Nat) (h : i < 60) (v : Int) : x_okA (12 + 3 * i + 1) v ↔ (-2 ≤ v ∧ v ≤ 99999) := by
  unfold x_okA
  rw [if_neg (by omega), if_neg (by omega), if_neg (by omega), if_neg (by omega), if_pos (by omega), if_pos (by omega)]
theorem x_okA_hl (i : Nat) (h : i < 60) (v : Int) : x_okA (12 + 3 * i + 2) v ↔ (0 ≤ v ∧ v ≤ 120) := by
  unfold x_okA
  rw [if_neg (by omega), if_neg (by omega), if_neg (by omega), if_neg (by omega), if_pos (by omega), if_neg (by omega)]
theorem x_okA_cp (i : Nat) (h : i < 60) (v : Int) : x_okA (194 + 3 * i + 1) v ↔ (-2 ≤ v ∧ v ≤ 99999) := by
  unfold x_okA
  rw [if_neg (by omega), if_neg (by omega), if_neg (by omega), if_neg (by omega), if_neg (by omega), if_pos (by omega), if_pos (by omega)]
theorem x_okA_cl (i : Nat) (h : i < 60) (v : Int) : x_okA (194 + 3 * i + 2) v ↔ (-1 ≤ v ∧ v ≤ 120) := by
  unfold x_okA
  rw [if_neg (by omega), if_neg (by omega), if_neg (by omega), if_neg (by omega), if_neg (by omega), if_pos (by omega), if_neg (by omega)]
theorem x_okF_h (i : Nat) (h : i < 60) (b : Nat) (hb : b = 2 ∨ b = 3) (v : Int) : x_okF (12 + 3 * i) b v ↔ (0 ≤ v ∧ v ≤ 12000) := by
  unfold x_okF
  rw [if_neg (by omega), if_neg (by omega), if_neg (by omega), if_neg (by omega), if_pos (by omega)]
theorem x_okF_c (i : Nat) (h : i < 60) (b : Nat) (hb : b = 2 ∨ b = 3) (v : Int) : x_okF (194 + 3 * i) b v ↔ (0 ≤ v ∧ v ≤ 12000) := by
  unfold x_okF
  rw [if_neg (by omega), if_neg (by omega), if_neg (by omega), if_neg (by omega), if_pos (by omega)]
theorem x_okF_n (a b : Nat) (v : Int) (h : ¬ (a = 8 ∨ a = 10 ∨ a = 380 ∨ (12 ≤ a ∧ a < 192 ∨ 194 ≤ a ∧ a < 374))) : x_okF a b v := by
  unfold x_okF
  rw [if_neg (by omega), if_neg (by omega), if_neg (by omega), if_neg (by omega), if_neg (by omega)]
  trivial
section XI
variable {σ : fS}
theorem x_I_p1 {k q : Nat} {v : Int} (h : x_I σ) (hv : x_okF k q v) : x_I (f_p1 σ k q v) := by
  refine ⟨fun a b => ?_, h.2⟩
  rw [p1_1]
  by_cases g : a = k ∧ b = q
  · rw [if_pos g, g.1, g.2]; exact hv
  · rw [if_neg g]; exact h.1 a b
theorem x_I_p2 {k q : Nat} {v : Int} (h : x_I σ) (hv : x_okA k v) : x_I (f_p2 σ k q v) := by
  refine ⟨h.1, fun a b => ?_⟩
  rw [p2_2]
  by_cases g : a = k ∧ b = q
  · rw [if_pos g, g.1]; exact hv
  · rw [if_neg g]; exact h.2 a b
theorem x_I_pa {k : Nat} {f : Nat → Int} (h : x_I σ) (hv : ∀ q, x_okA k (f q)) : x_I (f_pa σ k f) := by
  refine ⟨h.1, fun a b => ?_⟩
  rw [pa_2]
  by_cases g : a = k
  · rw [if_pos g, g]; exact hv b
  · rw [if_neg g]; exact h.2 a b
theorem x_I_fill {k : Nat} {a b v : Int} (h : x_I σ) (hv : x_okA k v) : x_I (x_fill σ k a b v) := x_I_pa h (fun q => by
  by_cases g : a ≤ q ∧ (q : Int) < b
  · rw [if_pos g]; exact hv
  · rw [if_neg g]; exact h.2 k q)
theorem x_I_reset {r : Nat} {v : Int} (h : x_I σ) (hv : x_okA (r + 1) v) (h0 : x_okA (r + 2) 0) : x_I (x_reset σ r v) := x_I_fill (x_I_fill h hv) h0
theorem x_I_copy {c d : Nat} (h : x_I σ) (hc : c < 60) (hd : d < 60) : x_I (x_copy σ (12 + 3 * c) (12 + 3 * d)) := by
  refine x_I_pa (x_I_pa h (fun q => ?_)) (fun q => ?_)
  · rw [x_okA_hp c hc]
    split
    · exact (x_okA_hp d hd _).mp (h.2 _ _)
    · exact (x_okA_hp c hc _).mp (h.2 _ _)
  · rw [x_okA_hl c hc]
    split
    · exact (x_okA_hl d hd _).mp (h.2 _ _)
    · exact (x_okA_hl c hc _).mp (h.2 _ _)
theorem x_I_lay {c p : Nat} (h : x_I σ) (hc : c < 60) (hp : ∀ b, 1 ≤ b → b < 41 → -2 ≤ σ.2 (p + 1) b ∧ σ.2 (p + 1) b ≤ 99999) (hl : ∀ b, 1 ≤ b → b < 41 → σ.2 (p + 1) b ≠ -2 → 0 ≤ σ.2 (p + 2) b ∧ σ.2 (p + 2) b ≤ 120) (hx : 0 ≤ σ.1 p 2 ∧ σ.1 p 2 ≤ 12000) (he : 0 ≤ σ.1 p 3 ∧ σ.1 p 3 ≤ 12000) : x_I (x_lay σ (12 + 3 * c) p) := by
  refine x_I_p1 (x_I_p1 ⟨h.1, fun a b => ?_⟩ ((x_okF_h c hc 2 (Or.inl rfl) _).mpr hx)) ((x_okF_h c hc 3 (Or.inr rfl) _).mpr he)
  show x_okA a (if (1 ≤ b ∧ b < 41) ∧ σ.2 (p + 1) b ≠ -2 then (if a = 12 + 3 * c + 1 then σ.2 (p + 1) b else if a = 12 + 3 * c + 2 then σ.2 (p + 2) b else σ.2 a b) else σ.2 a b)
  by_cases g : (1 ≤ b ∧ b < 41) ∧ σ.2 (p + 1) b ≠ -2
  · rw [if_pos g]
    by_cases g1 : a = 12 + 3 * c + 1
    · rw [if_pos g1, g1, x_okA_hp c hc]; exact hp b g.1.1 g.1.2
    · rw [if_neg g1]
      by_cases g2 : a = 12 + 3 * c + 2
      · rw [if_pos g2, g2, x_okA_hl c hc]; exact hl b g.1.1 g.1.2 g.2
      · rw [if_neg g2]; exact h.2 a b
  · rw [if_neg g]; exact h.2 a b
theorem x_I_sav {k : Nat} (h : x_I σ) : x_I (x_sav σ k) := by
  refine ⟨h.1, fun a b => ?_⟩
  show x_okA a (if 1 ≤ b ∧ b < k then (if a = 6 then 0 else if a = 7 then σ.2 2 b else σ.2 a b) else σ.2 a b)
  by_cases g : 1 ≤ b ∧ b < k
  · rw [if_pos g]
    by_cases g1 : a = 6
    · subst g1; rw [if_pos rfl]; show (0 : Int) ≤ 0 ∧ (0 : Int) ≤ 1; omega
    · rw [if_neg g1]
      by_cases g2 : a = 7
      · subst g2; rw [if_pos rfl]; exact h.2 2 b
      · rw [if_neg g2]; exact h.2 a b
  · rw [if_neg g]; exact h.2 a b
theorem x_I_behind {b n : Int} (h : x_I σ) (hb : 0 ≤ b + n ∧ b + n ≤ 12000) : x_I (x_behind σ b n) := x_I_p1 (x_I_pa h (fun q => by
  by_cases g : b.toNat ≤ q ∧ q < b.toNat + n.toNat
  · rw [if_pos g]; exact h.2 375 _
  · rw [if_neg g]; exact h.2 9 q)) hb
end XI
/-- the history takes a part, its count being c -/
def x_adr (σ : fS) (c : Nat) : fS := if c = 0 then x_reset σ 12 (-1) else x_copy σ (12 + 3 * c) (12 + 3 * (c - 1))
def x_ad (σ : fS) (p c : Nat) : fS := f_p1 (x_lay (x_adr σ c) (12 + 3 * c) p) 10 1 ((c : Int) + 1)
theorem x_copy_o (σ : fS) (r o x q : Nat) (h : x ≠ r + 1 ∧ x ≠ r + 2) : (x_copy σ r o).2 x q = σ.2 x q := by
  unfold x_copy
  rw [pa_2, if_neg h.2, pa_2, if_neg h.1]
theorem x_adr_o (σ : fS) (c x q : Nat) (h : x ≠ 12 + 3 * c + 1 ∧ x ≠ 12 + 3 * c + 2) : (x_adr σ c).2 x q = σ.2 x q := by
  unfold x_adr
  split
  · rename_i h0; subst h0; exact x_reset_o _ _ _ _ _ h
  · exact x_copy_o _ _ _ _ _ h
theorem x_adr_1 (σ : fS) (c a b : Nat) : (x_adr σ c).1 a b = σ.1 a b := by
  unfold x_adr
  split <;> rfl
theorem x_ad_o (σ : fS) (p c x q : Nat) (h : x ≠ 12 + 3 * c + 1 ∧ x ≠ 12 + 3 * c + 2) : (x_ad σ p c).2 x q = σ.2 x q := by
  show (x_layk (x_adr σ c) (12 + 3 * c) p 41).2 x q = _
  rw [x_layk_o _ _ _ _ _ _ h, x_adr_o _ _ _ _ h]
theorem x_ad_1 (σ : fS) (p c a b : Nat) : (x_ad σ p c).1 a b = if a = 10 ∧ b = 1 then (c : Int) + 1 else if a = 12 + 3 * c ∧ b = 3 then σ.1 p 3 else if a = 12 + 3 * c ∧ b = 2 then σ.1 p 2 else σ.1 a b := by
  unfold x_ad x_lay
  rw [p1_1, p1_1, p1_1, x_adr_1, x_adr_1]
  show (if a = 10 ∧ b = 1 then _ else if _ then _ else if _ then _ else (x_adr σ c).1 a b) = _
  rw [x_adr_1]
theorem x_I_ad {σ : fS} {p c : Nat} (h : x_I σ) (hc : c < 60) (hpr : 12 + 3 * c + 2 < p) (hp : ∀ b, 1 ≤ b → b < 41 → -2 ≤ σ.2 (p + 1) b ∧ σ.2 (p + 1) b ≤ 99999) (hl : ∀ b, 1 ≤ b → b < 41 → σ.2 (p + 1) b ≠ -2 → 0 ≤ σ.2 (p + 2) b ∧ σ.2 (p + 2) b ≤ 120) (hx : 0 ≤ σ.1 p 2 ∧ σ.1 p 2 ≤ 12000) (he : 0 ≤ σ.1 p 3 ∧ σ.1 p 3 ≤ 12000) : x_I (x_ad σ p c) := by
  refine x_I_p1 (x_I_lay ?_ hc ?_ ?_ ?_ ?_) (show (0 : Int) ≤ (c : Int) + 1 ∧ (c : Int) + 1 ≤ 60 by omega)
  · unfold x_adr
    split
    · exact x_I_reset h (show (-2 : Int) ≤ -1 ∧ (-1 : Int) ≤ 99999 by omega) (show (0 : Int) ≤ 0 ∧ (0 : Int) ≤ 120 by omega)
    · exact x_I_copy h hc (by omega)
  · intro b h1 h2; rw [x_adr_o _ _ _ _ (by omega)]; exact hp b h1 h2
  · intro b h1 h2; rw [x_adr_o _ _ _ _ (by omega), x_adr_o _ _ _ _ (by omega)]; exact hl b h1 h2
  · rw [x_adr_1]; exact hx
  · rw [x_adr_1]; exact he
/-- the draft is kept -/
def x_kept (σ : fS) (c : Nat) : fS := x_sav (x_ad (f_p1 (x_behind σ (σ.1 374 5) (σ.1 374 6)) 8 2 0) 377 c) 41
set_option maxRecDepth 100000 in
set_option maxHeartbeats 4000000 in
/-- copyRows -/
theorem kX_XT_copyRows (l : Launch) (D : va_G) (cA : Nat → ClassId) (ad : Nat → Nat) (hJ : f_J (xG D cA ad)) (σ : fS) (r : Nat) (hr : r + 2 < 383) (hY0 : xY r = .inl (4, 4, fXT r)) (hY1 : xY (r + 1) = .inr (.inl (0, 41))) (hY2 : xY (r + 2) = .inr (.inl (0, 41))) (p : Nat) (hp : p + 2 < 383) (hZ0 : xY p = .inl (4, 4, fXT p)) (hZ1 : xY (p + 1) = .inr (.inl (0, 41))) (hZ2 : xY (p + 2) = .inr (.inl (0, 41))) (hrp : r + 2 < p ∨ p + 2 < r) : f_M l (xG D cA ad) (xE (xG D cA ad)) yXT_copyRows (Cond.code yXT_copyRows cXT_copyRows 2 none :: A9) 1 σ [.ref (ad (r)), .ref (ad (p))] (f_QV (fun σ1 => σ1 = x_copy σ r p) (xG D cA ad)) := by
  refine f_enter (by decide +kernel) hJ rfl (Nat.le_of_ble_eq_true rfl) ?_
  intro z hzl hR C hRt hLk hEz
  subst hzl
  have hRR : 1 ≤ z.2.2.2.1.frames ∧ 40 * 1 ≤ z.2.2.2.1.locals ∧ 0 ≤ z.2.2.2.1.cells ∧ 0 ≤ z.2.2.2.1.slots := by rw [hR]; exact ⟨Nat.le_refl _, Nat.le_refl _, Nat.zero_le _, Nat.zero_le _⟩
  refine v_aload_n C dXT_copyRows_0 rfl rfl ?_
  refine v_getR (k := p) (q := 0) C dXT_copyRows_1 (by show (p : Nat) < 383; omega) hZ0 rfl (by decide) rfl inXT lXT_9 rfl ?_
  refine v_iconst C dXT_copyRows_4 ?_
  refine v_aload_n C dXT_copyRows_5 rfl rfl ?_
  refine v_getR (k := r) (q := 0) C dXT_copyRows_6 (by show (r : Nat) < 383; omega) (hY0) rfl (by decide) rfl inXT lXT_9 rfl ?_
  refine v_iconst C dXT_copyRows_9 ?_
  refine v_bipush C dXT_copyRows_10 (by decide +kernel) ?_
  refine v_copy (k0 := (p + 1)) (k1 := (r + 1)) (sp := 0) (dp := 0) (n := 41) C (in9_2 76 (by decide +kernel) rfl) (in9_2 78 (by decide +kernel) rfl) (in9_2 77 (by decide +kernel) rfl) (in9_1 22 (by decide +kernel) rfl) (by show ((p + 1) : Nat) < 383; omega) hZ1 (by show ((r + 1) : Nat) < 383; omega) (hY1) rfl rfl (by omega) (by omega) (by omega) (by omega) (by omega) (fun i => rfl) (by rw [hR]; exact ⟨by decide, by decide +kernel⟩) dXT_copyRows_12 ?_
  refine v_aload_n C dXT_copyRows_15 rfl rfl ?_
  refine v_getR (k := p) (q := 1) C dXT_copyRows_16 (by show (p : Nat) < 383; omega) hZ0 rfl (by decide) rfl inXT lXT_15 rfl ?_
  refine v_iconst C dXT_copyRows_19 ?_
  refine v_aload_n C dXT_copyRows_20 rfl rfl ?_
  refine v_getR (k := r) (q := 1) C dXT_copyRows_21 (by show (r : Nat) < 383; omega) (hY0) rfl (by decide) rfl inXT lXT_15 rfl ?_
  refine v_iconst C dXT_copyRows_24 ?_
  refine v_bipush C dXT_copyRows_25 (by decide +kernel) ?_
  refine v_copy (k0 := (p + 2)) (k1 := (r + 2)) (sp := 0) (dp := 0) (n := 41) C (in9_2 76 (by decide +kernel) rfl) (in9_2 78 (by decide +kernel) rfl) (in9_2 77 (by decide +kernel) rfl) (in9_1 22 (by decide +kernel) rfl) (by show ((p + 2) : Nat) < 383; omega) hZ2 (by show ((r + 2) : Nat) < 383; omega) (hY2) rfl rfl (by omega) (by omega) (by omega) (by omega) (by omega) (fun i => rfl) (by rw [hR]; exact ⟨by decide, by decide +kernel⟩) dXT_copyRows_27 ?_
  exact v_vret C hRt hLk dXT_copyRows_30 (by unfold x_copy; rw [show ∀ g, (f_pa σ (r + 1) g).2 (p + 2) = σ.2 (p + 2) from fun g => by rw [pa_2, if_neg (by omega)], show ∀ g, (f_pa σ (r + 1) g).2 (r + 2) = σ.2 (r + 2) from fun g => by rw [pa_2, if_neg (by omega)]])
set_option maxRecDepth 100000 in
set_option maxHeartbeats 4000000 in
/-- add -/
theorem kX_XH_add (l : Launch) (D : va_G) (cA : Nat → ClassId) (ad : Nat → Nat) (hJ : f_J (xG D cA ad)) (σ : fS) (c : Nat) (hc : σ.1 10 1 = (c : Int)) (h60 : c < 60) (p : Nat) (hp : p + 2 < 383) (hZ0 : xY p = .inl (4, 4, fXT p)) (hZ1 : xY (p + 1) = .inr (.inl (0, 41))) (hZ2 : xY (p + 2) = .inr (.inl (0, 41))) (hpr : 12 + 3 * c + 2 < p) (hb : ∀ i, -2 ≤ σ.2 (p + 1) i ∧ σ.2 (p + 1) i ≤ 99999) : f_M l (xG D cA ad) (xE (xG D cA ad)) yXH_add (Cond.code yXH_add cXH_add 3 none :: A9) 2 σ [.ref (ad 10), .ref (ad (p))] (f_QV (fun σ1 => σ1 = x_ad σ p c) (xG D cA ad)) := by
  refine f_enter (by decide +kernel) hJ rfl (Nat.le_of_ble_eq_true rfl) ?_
  intro z hzl hR C hRt hLk hEz
  subst hzl
  have hRR : 2 ≤ z.2.2.2.1.frames ∧ 40 * 2 ≤ z.2.2.2.1.locals ∧ 0 ≤ z.2.2.2.1.cells ∧ 0 ≤ z.2.2.2.1.slots := by rw [hR]; exact ⟨Nat.le_refl _, Nat.le_refl _, Nat.zero_le _, Nat.zero_le _⟩
  refine v_aload_n C dXH_add_0 rfl rfl ?_
  refine v_getI (k := 10) (q := 1) (v := (c : Int)) C dXH_add_1 (by show (10 : Nat) < 383; decide) rfl rfl (by decide) rfl inXH lXH_18 rfl hc ?_
  refine v_bipush C dXH_add_4 (by decide +kernel) ?_
  refine v_icmp_lt (tgt := 10) C dXH_add_6 (by decide) (by omega) (by omega) (fun hc1 => ?_) (fun hc1 => ?_)
  · refine v_aload_n C dXH_add_10 rfl rfl ?_
    refine v_getR (k := 10) (q := 0) C dXH_add_11 (by show (10 : Nat) < 383; decide) rfl rfl (by decide) rfl inXH lXH_11 rfl ?_
    refine v_aload_n C dXH_add_14 rfl rfl ?_
    refine v_getI (k := 10) (q := 1) (v := (c : Int)) C dXH_add_15 (by show (10 : Nat) < 383; decide) rfl rfl (by decide) rfl inXH lXH_18 rfl hc ?_
    refine v_aald (k := 11) C dXH_add_18 (by show (11 : Nat) < 383; decide) rfl rfl (by omega) (by decide) ?_
    refine v_astore_n C dXH_add_19 rfl (by decide) ?_
    refine v_aload_n C dXH_add_20 rfl rfl ?_
    refine v_getI (k := 10) (q := 1) (v := (c : Int)) C dXH_add_21 (by show (10 : Nat) < 383; decide) rfl rfl (by decide) rfl inXH lXH_18 rfl hc ?_
    refine v_if_ne (tgt := 35) C dXH_add_24 (by decide) (by omega) (fun hc2 => ?_) (fun hc2 => ?_)
    · refine v_aload_n C dXH_add_35 rfl rfl ?_
      refine v_aload_n C dXH_add_36 rfl rfl ?_
      refine v_getR (k := 10) (q := 0) C dXH_add_37 (by show (10 : Nat) < 383; decide) rfl rfl (by decide) rfl inXH lXH_11 rfl ?_
      refine v_aload_n C dXH_add_40 rfl rfl ?_
      refine v_getI (k := 10) (q := 1) (v := (c : Int)) C dXH_add_41 (by show (10 : Nat) < 383; decide) rfl rfl (by decide) rfl inXH lXH_18 rfl hc ?_
      refine v_iconst C dXH_add_44 ?_
      refine v_isub C dXH_add_45 ?_
      refine v_top (b := ((c - 1 : Nat) : Int)) (by omega) ?_
      refine v_aald (k := 11) C dXH_add_46 (by show (11 : Nat) < 383; decide) rfl rfl (by omega) (by decide) ?_
      refine v_cVV (k := (12 + 3 * c)) (n := 1) C (xE_ok _) hEz hR (kX_XT_copyRows _ D cA ad hJ σ (12 + 3 * c) (by omega) (xY_h0 c (by omega)) (xY_h1 c (by omega)) (xY_h2 c (by omega)) (12 + 3 * (c - 1)) (by omega) (xY_h0 (c - 1) (by omega)) (xY_h1 (c - 1) (by omega)) (xY_h2 (c - 1) (by omega)) (by omega)) dXH_add_47 (by show ((12 + 3 * c) : Nat) < 383; omega) (xY_h0 c (by omega)) rfl gXH_26 (by decide +kernel) (by decide) (by decide) rfl (Nat.le_of_ble_eq_true rfl) rfl ⟨rfl, rfl⟩ (fun σ1 hp1 => ?_)
      subst σ1
      refine v_st (σ1 := x_adr σ c) (by unfold x_adr; rw [if_neg (by omega)]) ?_
      refine v_aload_n C dXH_add_50 rfl rfl ?_
      refine v_aload_n C dXH_add_51 rfl rfl ?_
      refine v_cVV (k := (12 + 3 * c)) (n := 1) C (xE_ok _) hEz hR (kX_XT_lay _ D cA ad hJ (x_adr σ c) (12 + 3 * c) (by omega) (xY_h0 c (by omega)) (xY_h1 c (by omega)) (xY_h2 c (by omega)) p hp hZ0 hZ1 hZ2 (by omega) (fun i => by rw [x_adr_o _ _ _ _ (by omega)]; exact hb i)) dXH_add_52 (by show ((12 + 3 * c) : Nat) < 383; omega) (xY_h0 c (by omega)) rfl gXH_30 (by decide +kernel) (by decide) (by decide) rfl (Nat.le_of_ble_eq_true rfl) rfl ⟨rfl, rfl⟩ (fun σ1 hp1 => ?_)
      subst σ1
      have hc2 : (x_lay (x_adr σ c) (12 + 3 * c) p).1 10 1 = (c : Int) := by unfold x_lay; rw [p1_1, if_neg (by omega), p1_1, if_neg (by omega)]; show (x_adr σ c).1 10 1 = _; rw [x_adr_1]; exact hc
      refine v_aload_n C dXH_add_55 rfl rfl ?_
      refine v_dup C dXH_add_56 rfl ?_
      refine v_getI (k := 10) (q := 1) (v := (c : Int)) C dXH_add_57 (by show (10 : Nat) < 383; decide) rfl rfl (by decide) rfl inXH lXH_18 rfl hc2 ?_
      refine v_iconst C dXH_add_60 ?_
      refine v_iadd C dXH_add_61 ?_
      refine v_putI (k := 10) (q := 1) C dXH_add_62 (by show (10 : Nat) < 383; decide) rfl rfl (by decide) rfl inXH tyXH_ok nmXH lXH_18 rfl rfl rfl rfl rfl ?_
      exact v_vret C hRt hLk dXH_add_65 rfl
    · refine v_aload_n C dXH_add_27 rfl rfl ?_
      refine v_iconst C dXH_add_28 ?_
      refine v_cVV (k := (12 + 3 * c)) (n := 1) C (xE_ok _) hEz hR (kX_XT_reset _ D cA ad hJ σ (12 + 3 * c) (by omega) (xY_h0 c (by omega)) (xY_h1 c (by omega)) (xY_h2 c (by omega)) (-1)) dXH_add_29 (by show ((12 + 3 * c) : Nat) < 383; omega) (xY_h0 c (by omega)) rfl gXH_22 (by decide +kernel) (by decide) (by decide) rfl (Nat.le_of_ble_eq_true rfl) rfl ⟨rfl, rfl⟩ (fun σ1 hp1 => ?_)
      subst σ1
      refine v_st (σ1 := x_adr σ c) (by unfold x_adr; rw [if_pos (by omega), show c = 0 by omega]) ?_
      refine v_goto (tgt := 50) C dXH_add_32 (by decide) ?_
      refine v_aload_n C dXH_add_50 rfl rfl ?_
      refine v_aload_n C dXH_add_51 rfl rfl ?_
      refine v_cVV (k := (12 + 3 * c)) (n := 1) C (xE_ok _) hEz hR (kX_XT_lay _ D cA ad hJ (x_adr σ c) (12 + 3 * c) (by omega) (xY_h0 c (by omega)) (xY_h1 c (by omega)) (xY_h2 c (by omega)) p hp hZ0 hZ1 hZ2 (by omega) (fun i => by rw [x_adr_o _ _ _ _ (by omega)]; exact hb i)) dXH_add_52 (by show ((12 + 3 * c) : Nat) < 383; omega) (xY_h0 c (by omega)) rfl gXH_30 (by decide +kernel) (by decide) (by decide) rfl (Nat.le_of_ble_eq_true rfl) rfl ⟨rfl, rfl⟩ (fun σ1 hp1 => ?_)
      subst σ1
      have hc2 : (x_lay (x_adr σ c) (12 + 3 * c) p).1 10 1 = (c : Int) := by unfold x_lay; rw [p1_1, if_neg (by omega), p1_1, if_neg (by omega)]; show (x_adr σ c).1 10 1 = _; rw [x_adr_1]; exact hc
      refine v_aload_n C dXH_add_55 rfl rfl ?_
      refine v_dup C dXH_add_56 rfl ?_
      refine v_getI (k := 10) (q := 1) (v := (c : Int)) C dXH_add_57 (by show (10 : Nat) < 383; decide) rfl rfl (by decide) rfl inXH lXH_18 rfl hc2 ?_
      refine v_iconst C dXH_add_60 ?_
      refine v_iadd C dXH_add_61 ?_
      refine v_putI (k := 10) (q := 1) C dXH_add_62 (by show (10 : Nat) < 383; decide) rfl rfl (by decide) rfl inXH tyXH_ok nmXH lXH_18 rfl rfl rfl rfl rfl ?_
      exact v_vret C hRt hLk dXH_add_65 rfl
  · exfalso; omega
set_option maxRecDepth 100000 in
set_option maxHeartbeats 4000000 in
/-- latestX -/
theorem kX_XH_latestX (l : Launch) (D : va_G) (cA : Nat → ClassId) (ad : Nat → Nat) (hJ : f_J (xG D cA ad)) (σ : fS) (c : Nat) (hc : σ.1 10 1 = (c : Int)) (h60 : c ≤ 60) : f_M l (xG D cA ad) (xE (xG D cA ad)) yXH_latestX (Cond.code yXH_latestX cXH_latestX 1 (some .int) :: A9) 0 σ [.ref (ad 10)] (f_QI (fun r σ1 => r = (if c = 0 then 0 else σ.1 (12 + 3 * (c - 1)) 2) ∧ σ1 = σ) (xG D cA ad)) := by
  refine f_enter (by decide +kernel) hJ rfl (Nat.le_of_ble_eq_true rfl) ?_
  intro z hzl hR C hRt hLk hEz
  subst hzl
  have hRR : 0 ≤ z.2.2.2.1.frames ∧ 40 * 0 ≤ z.2.2.2.1.locals ∧ 0 ≤ z.2.2.2.1.cells ∧ 0 ≤ z.2.2.2.1.slots := by rw [hR]; exact ⟨Nat.le_refl _, Nat.le_refl _, Nat.zero_le _, Nat.zero_le _⟩
  refine v_aload_n C dXH_latestX_0 rfl rfl ?_
  refine v_getI (k := 10) (q := 1) (v := (c : Int)) C dXH_latestX_1 (by show (10 : Nat) < 383; decide) rfl rfl (by decide) rfl inXH lXH_18 rfl hc ?_
  refine v_if_le (tgt := 24) C dXH_latestX_4 (by decide) (by omega) (fun hc1 => ?_) (fun hc1 => ?_)
  · refine v_iconst C dXH_latestX_24 ?_
    exact v_iret C hRt hLk dXH_latestX_25 ⟨by first | rw [if_pos (by omega)] | rw [if_neg (by omega)], rfl⟩
  · refine v_aload_n C dXH_latestX_7 rfl rfl ?_
    refine v_getR (k := 10) (q := 0) C dXH_latestX_8 (by show (10 : Nat) < 383; decide) rfl rfl (by decide) rfl inXH lXH_11 rfl ?_
    refine v_aload_n C dXH_latestX_11 rfl rfl ?_
    refine v_getI (k := 10) (q := 1) (v := (c : Int)) C dXH_latestX_12 (by show (10 : Nat) < 383; decide) rfl rfl (by decide) rfl inXH lXH_18 rfl hc ?_
    refine v_iconst C dXH_latestX_15 ?_
    refine v_isub C dXH_latestX_16 ?_
    refine v_top (b := ((c - 1 : Nat) : Int)) (by omega) ?_
    refine v_aald (k := 11) C dXH_latestX_17 (by show (11 : Nat) < 383; decide) rfl rfl (by omega) (by decide) ?_
    refine v_getI (k := (12 + 3 * (c - 1))) (q := 2) (v := σ.1 (12 + 3 * (c - 1)) 2) C dXH_latestX_18 (by show ((12 + 3 * (c - 1)) : Nat) < 383; omega) (xY_h0 (c - 1) (by omega)) rfl (by decide) rfl inXT lXH_33 rfl rfl ?_
    refine v_goto (tgt := 25) C dXH_latestX_21 (by decide) ?_
    exact v_iret C hRt hLk dXH_latestX_25 ⟨by first | rw [if_pos (by omega)] | rw [if_neg (by omega)], rfl⟩
set_option maxRecDepth 100000 in
set_option maxHeartbeats 4000000 in
/-- keepDraft -/
theorem kX_XA_keepDraft (l : Launch) (D : va_G) (cA : Nat → ClassId) (ad : Nat → Nat) (hJ : f_J (xG D cA ad)) (σ : fS) (c : Nat) (hc : σ.1 10 1 = (c : Int)) (h60 : c < 60) (hI : x_I σ) (hb5 : 0 ≤ σ.1 374 5) (hb6 : 0 ≤ σ.1 374 6 ∧ σ.1 374 6 ≤ 6000) (hbn : σ.1 374 5 + σ.1 374 6 ≤ 12000) : f_M l (xG D cA ad) (xE (xG D cA ad)) yXA_keepDraft (Cond.code yXA_keepDraft cXA_keepDraft 1 none :: A9) 3 σ [.ref (ad 0)] (f_QV (fun σ1 => σ1 = x_kept σ c) (xG D cA ad)) := by
  refine f_enter (by decide +kernel) hJ rfl (Nat.le_of_ble_eq_true rfl) ?_
  intro z hzl hR C hRt hLk hEz
  subst hzl
  have hRR : 3 ≤ z.2.2.2.1.frames ∧ 40 * 3 ≤ z.2.2.2.1.locals ∧ 0 ≤ z.2.2.2.1.cells ∧ 0 ≤ z.2.2.2.1.slots := by rw [hR]; exact ⟨Nat.le_refl _, Nat.le_refl _, Nat.zero_le _, Nat.zero_le _⟩
  refine v_aload_n C dXA_keepDraft_0 rfl rfl ?_
  refine v_getR (k := 0) (q := 1) C dXA_keepDraft_1 (by show (0 : Nat) < 383; decide) rfl rfl (by decide) rfl inXA lXA_19 rfl ?_
  refine v_aload_n C dXA_keepDraft_4 rfl rfl ?_
  refine v_getR (k := 0) (q := 4) C dXA_keepDraft_5 (by show (0 : Nat) < 383; decide) rfl rfl (by decide) rfl inXA lXA_44 rfl ?_
  refine v_getI (k := 374) (q := 5) (v := σ.1 374 5) C dXA_keepDraft_8 (by show (374 : Nat) < 383; decide) rfl rfl (by decide) rfl inXD lXA_210 rfl rfl ?_
  refine v_aload_n C dXA_keepDraft_11 rfl rfl ?_
  refine v_getR (k := 0) (q := 4) C dXA_keepDraft_12 (by show (0 : Nat) < 383; decide) rfl rfl (by decide) rfl inXA lXA_44 rfl ?_
  refine v_getR (k := 374) (q := 1) C dXA_keepDraft_15 (by show (374 : Nat) < 383; decide) rfl rfl (by decide) rfl inXD lXA_213 rfl ?_
  refine v_aload_n C dXA_keepDraft_18 rfl rfl ?_
  refine v_getR (k := 0) (q := 4) C dXA_keepDraft_19 (by show (0 : Nat) < 383; decide) rfl rfl (by decide) rfl inXA lXA_44 rfl ?_
  refine v_getI (k := 374) (q := 6) (v := σ.1 374 6) C dXA_keepDraft_22 (by show (374 : Nat) < 383; decide) rfl rfl (by decide) rfl inXD lXA_153 rfl rfl ?_
  refine v_cVV (k := 8) (n := 3) C (xE_ok _) hEz hR (kX_XF_putBehind _ D cA ad hJ σ (σ.1 374 5) (σ.1 374 6) hb5 hb6 hbn (fun i => hI.2 375 i)) dXA_keepDraft_25 (by show (8 : Nat) < 383; decide) rfl rfl gXA_214 (by decide +kernel) (by decide) (by decide) rfl (Nat.le_of_ble_eq_true rfl) rfl ⟨rfl, rfl⟩ (fun σ1 hp1 => ?_)
  subst σ1
  refine v_aload_n C dXA_keepDraft_28 rfl rfl ?_
  refine v_getR (k := 0) (q := 1) C dXA_keepDraft_29 (by show (0 : Nat) < 383; decide) rfl rfl (by decide) rfl inXA lXA_19 rfl ?_
  refine v_iconst C dXA_keepDraft_32 ?_
  refine v_putI (k := 8) (q := 2) C dXA_keepDraft_33 (by show (8 : Nat) < 383; decide) rfl rfl (by decide) rfl inXF tyXF_ok nmXF lXA_132 rfl rfl rfl (fN_bool (by omega)) (fF_bool (by omega)) ?_
  refine v_aload_n C dXA_keepDraft_36 rfl rfl ?_
  refine v_getR (k := 0) (q := 2) C dXA_keepDraft_37 (by show (0 : Nat) < 383; decide) rfl rfl (by decide) rfl inXA lXA_26 rfl ?_
  refine v_aload_n C dXA_keepDraft_40 rfl rfl ?_
  refine v_getR (k := 0) (q := 4) C dXA_keepDraft_41 (by show (0 : Nat) < 383; decide) rfl rfl (by decide) rfl inXA lXA_44 rfl ?_
  refine v_getR (k := 374) (q := 3) C dXA_keepDraft_44 (by show (374 : Nat) < 383; decide) rfl rfl (by decide) rfl inXD lXA_110 rfl ?_
  refine v_cVV (k := 10) (n := 1) C (xE_ok _) hEz hR (kX_XH_add _ D cA ad hJ (f_p1 (x_behind σ (σ.1 374 5) (σ.1 374 6)) 8 2 0) c hc h60 377 (by decide) rfl rfl rfl (by omega) (fun i => by show _ ≤ (x_behind σ (σ.1 374 5) (σ.1 374 6)).2 378 i ∧ (x_behind σ (σ.1 374 5) (σ.1 374 6)).2 378 i ≤ _; rw [x_behind_2 _ _ _ _ _ (by decide)]; exact hI.2 378 i)) dXA_keepDraft_47 (by show (10 : Nat) < 383; decide) rfl rfl gXA_218 (by decide +kernel) (by decide) (by decide) rfl (Nat.le_of_ble_eq_true rfl) rfl ⟨rfl, rfl⟩ (fun σ1 hp1 => ?_)
  subst σ1
  refine v_aload_n C dXA_keepDraft_50 rfl rfl ?_
  refine v_getR (k := 0) (q := 0) C dXA_keepDraft_51 (by show (0 : Nat) < 383; decide) rfl rfl (by decide) rfl inXA lXA_10 rfl ?_
  refine v_cVV (k := 1) (n := 0) C (xE_ok _) hEz hR (kX_XS_save _ D cA ad hJ (x_ad (f_p1 (x_behind σ (σ.1 374 5) (σ.1 374 6)) 8 2 0) 377 c) (fun i => by rw [x_ad_o _ _ _ _ _ (by omega)]; show _ ≤ (x_behind σ (σ.1 374 5) (σ.1 374 6)).2 2 i ∧ (x_behind σ (σ.1 374 5) (σ.1 374 6)).2 2 i ≤ _; rw [x_behind_2 _ _ _ _ _ (by decide)]; exact hI.2 2 i)) dXA_keepDraft_54 (by show (1 : Nat) < 383; decide) rfl rfl gXA_222 (by decide +kernel) (by decide) (by decide) rfl (Nat.le_of_ble_eq_true rfl) rfl ⟨rfl, rfl⟩ (fun σ1 hp1 => ?_)
  subst σ1
  exact v_vret C hRt hLk dXA_keepDraft_57 rfl
end
