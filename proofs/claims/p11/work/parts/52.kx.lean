/-- the place of object n's record, and its length, go into the draft's table -/
def x_r0 (σ : fS) (n : Int) : fS := f_p2 (f_p2 σ 378 n.toNat (σ.1 374 5 + σ.1 374 6)) 379 n.toNat (σ.2 4 n.toNat)
theorem x_r0_2 (σ : fS) (n : Int) (a b : Nat) (h1 : a ≠ 378) (h2 : a ≠ 379) : (x_r0 σ n).2 a b = σ.2 a b := by
  unfold x_r0
  rw [p2_2, if_neg (by omega), p2_2, if_neg (by omega)]
def x_hd (σ : fS) (n : Int) : List Int := [111] ++ [32] ++ dig n ++ [32] ++ dig (σ.2 4 n.toNat) ++ [10]
theorem x_hd_len (σ : fS) (n : Int) : (x_hd σ n).length ≤ 14 := by
  have h1 := dig_len n
  have h2 := dig_len (σ.2 4 n.toNat)
  unfold x_hd
  simp only [List.length_append, List.length_cons, List.length_nil]
  omega
def x_byt (σ : fS) (n : Int) (k : Nat) : List Int := (List.range k).map (fun (j : Nat) => σ.2 5 (n * 120 + (j : Int)).toNat)
theorem x_byt_len (σ : fS) (n : Int) (k : Nat) : (x_byt σ n k).length = k := by unfold x_byt; simp
theorem x_byt_s (σ : fS) (n : Int) (k : Nat) : x_byt σ n k ++ [σ.2 5 (n * 120 + (k : Int)).toNat] = x_byt σ n (k + 1) := by
  unfold x_byt
  rw [List.range_succ, List.map_append]
  rfl
/-- the record of object n -/
def x_rec (σ : fS) (n : Int) : List Int := x_hd σ n ++ x_byt σ n (σ.2 4 n.toNat).toNat ++ [10]
set_option maxRecDepth 100000 in
set_option maxHeartbeats 4000000 in
/-- putRecord -/
theorem kX_XD_putRecord (l : Launch) (D : va_G) (cA : Nat → ClassId) (ad : Nat → Nat) (hJ : f_J (xG D cA ad)) (σ : fS) (n : Int) (hn : 1 ≤ n ∧ n ≤ 40) (h4 : ∀ i, 0 ≤ σ.2 4 i ∧ σ.2 4 i ≤ 120) (h5 : ∀ i, -128 ≤ σ.2 5 i ∧ σ.2 5 i ≤ 127) (hb : 0 ≤ σ.1 374 5 ∧ σ.1 374 5 ≤ 12000) (hu : 0 ≤ σ.1 374 6 ∧ σ.1 374 6 < 5700) : f_M l (xG D cA ad) (xE (xG D cA ad)) yXD_putRecord (Cond.code yXD_putRecord cXD_putRecord 4 none :: A9) 2 σ [.ref (ad 374), .int (fI n)] (f_QV (fun σ1 => σ1 = x_puts (x_r0 σ n) (x_rec σ n)) (xG D cA ad)) := by
  refine f_enter (by decide +kernel) hJ rfl (Nat.le_of_ble_eq_true rfl) ?_
  intro z hzl hR C hRt hLk hEz
  subst hzl
  have hRR : 2 ≤ z.2.2.2.1.frames ∧ 40 * 2 ≤ z.2.2.2.1.locals ∧ 0 ≤ z.2.2.2.1.cells ∧ 0 ≤ z.2.2.2.1.slots := by rw [hR]; exact ⟨Nat.le_refl _, Nat.le_refl _, Nat.zero_le _, Nat.zero_le _⟩
  have hb0 : (x_r0 σ n).1 374 6 = σ.1 374 6 := rfl
  have hlh := x_hd_len σ n
  have h4n := h4 n.toNat
  have Lp : ∀ (m k : Nat), m + k = (σ.2 4 n.toNat).toNat → fv z (xG D cA ad) 4 (f_R z (xG D cA ad) (f_QV (fun σ1 => σ1 = x_puts (x_r0 σ n) (x_rec σ n)) (xG D cA ad))) 0 0 (x_puts (x_r0 σ n) (x_hd σ n ++ x_byt σ n k)) 74 [some (.ref (ad 374)), some (.int (fI n)), some (.int (fI (σ.2 4 n.toNat))), some (.int (fI (k : Int)))] [] := by
    intro m
    induction m with
    | zero =>
      intro k hk
      have hbl := x_byt_len σ n k
      obtain rfl : k = (σ.2 4 n.toNat).toNat := by omega
      refine v_iload_n C dXD_putRecord_74 rfl rfl ?_
      refine v_iload_n C dXD_putRecord_75 rfl rfl ?_
      refine v_icmp_ge (tgt := 98) C dXD_putRecord_76 (by decide) (by omega) (by omega) (fun hc1 => ?_) (fun hc1 => ?_)
      · refine v_aload_n C dXD_putRecord_98 rfl rfl ?_
        refine v_bipush C dXD_putRecord_99 (by decide +kernel) ?_
        have hx2 := x_puts_u (x_r0 σ n) (x_hd σ n ++ x_byt σ n (σ.2 4 n.toNat).toNat)
        try simp only [List.length_append, List.length_cons, List.length_nil] at hx2
        refine v_cVV (k := 374) (n := 1) C (xE_ok _) hEz hR (kX_XD_put _ D cA ad hJ (x_puts (x_r0 σ n) (x_hd σ n ++ x_byt σ n (σ.2 4 n.toNat).toNat)) (10) (by omega) (by omega)) dXD_putRecord_101 (by show (374 : Nat) < 383; decide) rfl rfl gXD_93 (by decide +kernel) (by decide) (by decide) rfl (Nat.le_of_ble_eq_true rfl) rfl ⟨rfl, rfl⟩ (fun σ1 hp1 => ?_)
        subst σ1
        refine v_st (σ1 := x_puts (x_r0 σ n) (x_hd σ n ++ x_byt σ n (σ.2 4 n.toNat).toNat ++ [10])) (x_puts_snoc _ _ _) ?_
        exact v_vret C hRt hLk dXD_putRecord_104 (by unfold x_rec; rfl)
      · exfalso; omega
    | succ m ih =>
      intro k hk
      have hbl := x_byt_len σ n k
      refine v_iload_n C dXD_putRecord_74 rfl rfl ?_
      refine v_iload_n C dXD_putRecord_75 rfl rfl ?_
      refine v_icmp_ge (tgt := 98) C dXD_putRecord_76 (by decide) (by omega) (by omega) (fun hc3 => ?_) (fun hc3 => ?_)
      · exfalso; omega
      · refine v_aload_n C dXD_putRecord_79 rfl rfl ?_
        refine v_aload_n C dXD_putRecord_80 rfl rfl ?_
        refine v_getR (k := 374) (q := 0) C dXD_putRecord_81 (by show (374 : Nat) < 383; decide) rfl rfl (by decide) rfl inXD lXD_26 rfl ?_
        refine v_iload_n C dXD_putRecord_84 rfl rfl ?_
        refine v_iload_n C dXD_putRecord_85 rfl rfl ?_
        refine v_cVI (k := 1) (n := 2) C (xE_ok _) hEz hR (kX_XS_byteAt _ D cA ad hJ (x_puts (x_r0 σ n) (x_hd σ n ++ x_byt σ n k)) n (k : Int) hn (by omega) (fun i => by rw [x_puts_2 _ _ _ _ (by decide), x_r0_2 _ _ _ _ (by decide) (by decide)]; exact h5 i)) dXD_putRecord_86 (by show (1 : Nat) < 383; decide) rfl rfl gXD_100 (by decide +kernel) (by decide) (by decide) rfl (Nat.le_of_ble_eq_true rfl) rfl ⟨rfl, rfl⟩ (fun r1 σ1 hp1 => ?_)
        obtain ⟨e1, e2⟩ := hp1
        subst σ1
        rw [x_puts_2 _ _ _ _ (by decide), x_r0_2 _ _ _ _ (by decide) (by decide)] at e1
        have hb5 := h5 (n * 120 + (k : Int)).toNat
        subst r1
        have hx4 := x_puts_u (x_r0 σ n) (x_hd σ n ++ x_byt σ n k)
        try simp only [List.length_append, List.length_cons, List.length_nil] at hx4
        refine v_cVV (k := 374) (n := 1) C (xE_ok _) hEz hR (kX_XD_put _ D cA ad hJ (x_puts (x_r0 σ n) (x_hd σ n ++ x_byt σ n k)) ((σ.2 5 (n * 120 + (k : Int)).toNat)) (by omega) (by omega)) dXD_putRecord_89 (by show (374 : Nat) < 383; decide) rfl rfl gXD_93 (by decide +kernel) (by decide) (by decide) rfl (Nat.le_of_ble_eq_true rfl) rfl ⟨rfl, rfl⟩ (fun σ1 hp1 => ?_)
        subst σ1
        refine v_st (σ1 := x_puts (x_r0 σ n) (x_hd σ n ++ x_byt σ n k ++ [(σ.2 5 (n * 120 + (k : Int)).toNat)])) (x_puts_snoc _ _ _) ?_
        refine v_iinc C dXD_putRecord_92 rfl (by decide) ?_
        refine v_goto (tgt := 74) C dXD_putRecord_95 (by decide) ?_
        exact v_st (by rw [List.append_assoc, x_byt_s]) (ih (k + 1) (by omega))
  have H1 : fv z (xG D cA ad) 4 (f_R z (xG D cA ad) (f_QV (fun σ1 => σ1 = x_puts (x_r0 σ n) (x_rec σ n)) (xG D cA ad))) 0 0 (x_puts (x_r0 σ n) []) 38 [some (.ref (ad 374)), some (.int (fI n)), some (.int (fI (σ.2 4 n.toNat))), none] [] := by
    refine v_aload_n C dXD_putRecord_38 rfl rfl ?_
    refine v_bipush C dXD_putRecord_39 (by decide +kernel) ?_
    have hx5 := x_puts_u (x_r0 σ n) ([])
    try simp only [List.length_append, List.length_cons, List.length_nil] at hx5
    refine v_cVV (k := 374) (n := 1) C (xE_ok _) hEz hR (kX_XD_put _ D cA ad hJ (x_puts (x_r0 σ n) ([])) (111) (by omega) (by omega)) dXD_putRecord_41 (by show (374 : Nat) < 383; decide) rfl rfl gXD_93 (by decide +kernel) (by decide) (by decide) rfl (Nat.le_of_ble_eq_true rfl) rfl ⟨rfl, rfl⟩ (fun σ1 hp1 => ?_)
    subst σ1
    refine v_st (σ1 := x_puts (x_r0 σ n) ([111])) (rfl) ?_
    refine v_aload_n C dXD_putRecord_44 rfl rfl ?_
    refine v_bipush C dXD_putRecord_45 (by decide +kernel) ?_
    have hx6 := x_puts_u (x_r0 σ n) ([111])
    try simp only [List.length_append, List.length_cons, List.length_nil] at hx6
    refine v_cVV (k := 374) (n := 1) C (xE_ok _) hEz hR (kX_XD_put _ D cA ad hJ (x_puts (x_r0 σ n) ([111])) (32) (by omega) (by omega)) dXD_putRecord_47 (by show (374 : Nat) < 383; decide) rfl rfl gXD_93 (by decide +kernel) (by decide) (by decide) rfl (Nat.le_of_ble_eq_true rfl) rfl ⟨rfl, rfl⟩ (fun σ1 hp1 => ?_)
    subst σ1
    refine v_st (σ1 := x_puts (x_r0 σ n) ([111] ++ [32])) (x_puts_snoc _ _ _) ?_
    refine v_aload_n C dXD_putRecord_50 rfl rfl ?_
    refine v_iload_n C dXD_putRecord_51 rfl rfl ?_
    have hx7 := x_puts_u (x_r0 σ n) ([111] ++ [32])
    try simp only [List.length_append, List.length_cons, List.length_nil] at hx7
    have hl8 := dig_len (n)
    refine v_cVV (k := 374) (n := 1) C (xE_ok _) hEz hR (kX_XD_putNumber _ D cA ad hJ (x_puts (x_r0 σ n) ([111] ++ [32])) (n) (by omega) (by omega)) dXD_putRecord_52 (by show (374 : Nat) < 383; decide) rfl rfl gXD_97 (by decide +kernel) (by decide) (by decide) rfl (Nat.le_of_ble_eq_true rfl) rfl ⟨rfl, rfl⟩ (fun σ1 hp1 => ?_)
    subst σ1
    refine v_st (σ1 := x_puts (x_r0 σ n) ([111] ++ [32] ++ dig (n))) (x_puts_app _ _ _).symm ?_
    refine v_aload_n C dXD_putRecord_55 rfl rfl ?_
    refine v_bipush C dXD_putRecord_56 (by decide +kernel) ?_
    have hx9 := x_puts_u (x_r0 σ n) ([111] ++ [32] ++ dig (n))
    try simp only [List.length_append, List.length_cons, List.length_nil] at hx9
    refine v_cVV (k := 374) (n := 1) C (xE_ok _) hEz hR (kX_XD_put _ D cA ad hJ (x_puts (x_r0 σ n) ([111] ++ [32] ++ dig (n))) (32) (by omega) (by omega)) dXD_putRecord_58 (by show (374 : Nat) < 383; decide) rfl rfl gXD_93 (by decide +kernel) (by decide) (by decide) rfl (Nat.le_of_ble_eq_true rfl) rfl ⟨rfl, rfl⟩ (fun σ1 hp1 => ?_)
    subst σ1
    refine v_st (σ1 := x_puts (x_r0 σ n) ([111] ++ [32] ++ dig (n) ++ [32])) (x_puts_snoc _ _ _) ?_
    refine v_aload_n C dXD_putRecord_61 rfl rfl ?_
    refine v_iload_n C dXD_putRecord_62 rfl rfl ?_
    have hx10 := x_puts_u (x_r0 σ n) ([111] ++ [32] ++ dig (n) ++ [32])
    try simp only [List.length_append, List.length_cons, List.length_nil] at hx10
    have hl11 := dig_len ((σ.2 4 n.toNat))
    refine v_cVV (k := 374) (n := 1) C (xE_ok _) hEz hR (kX_XD_putNumber _ D cA ad hJ (x_puts (x_r0 σ n) ([111] ++ [32] ++ dig (n) ++ [32])) ((σ.2 4 n.toNat)) (by omega) (by omega)) dXD_putRecord_63 (by show (374 : Nat) < 383; decide) rfl rfl gXD_97 (by decide +kernel) (by decide) (by decide) rfl (Nat.le_of_ble_eq_true rfl) rfl ⟨rfl, rfl⟩ (fun σ1 hp1 => ?_)
    subst σ1
    refine v_st (σ1 := x_puts (x_r0 σ n) ([111] ++ [32] ++ dig (n) ++ [32] ++ dig ((σ.2 4 n.toNat)))) (x_puts_app _ _ _).symm ?_
    refine v_aload_n C dXD_putRecord_66 rfl rfl ?_
    refine v_bipush C dXD_putRecord_67 (by decide +kernel) ?_
    have hx12 := x_puts_u (x_r0 σ n) ([111] ++ [32] ++ dig (n) ++ [32] ++ dig ((σ.2 4 n.toNat)))
    try simp only [List.length_append, List.length_cons, List.length_nil] at hx12
    refine v_cVV (k := 374) (n := 1) C (xE_ok _) hEz hR (kX_XD_put _ D cA ad hJ (x_puts (x_r0 σ n) ([111] ++ [32] ++ dig (n) ++ [32] ++ dig ((σ.2 4 n.toNat)))) (10) (by omega) (by omega)) dXD_putRecord_69 (by show (374 : Nat) < 383; decide) rfl rfl gXD_93 (by decide +kernel) (by decide) (by decide) rfl (Nat.le_of_ble_eq_true rfl) rfl ⟨rfl, rfl⟩ (fun σ1 hp1 => ?_)
    subst σ1
    refine v_st (σ1 := x_puts (x_r0 σ n) ([111] ++ [32] ++ dig (n) ++ [32] ++ dig ((σ.2 4 n.toNat)) ++ [10])) (x_puts_snoc _ _ _) ?_
    refine v_iconst C dXD_putRecord_72 ?_
    refine v_istore_n C dXD_putRecord_73 rfl (by decide) ?_
    exact v_st (by show _ = x_puts _ (x_hd σ n ++ x_byt σ n 0); unfold x_hd x_byt; simp) (v_lv rfl (Lp (σ.2 4 n.toNat).toNat 0 (by omega)))
  refine v_aload_n C dXD_putRecord_0 rfl rfl ?_
  refine v_getR (k := 374) (q := 0) C dXD_putRecord_1 (by show (374 : Nat) < 383; decide) rfl rfl (by decide) rfl inXD lXD_26 rfl ?_
  refine v_getR (k := 1) (q := 2) C dXD_putRecord_4 (by show (1 : Nat) < 383; decide) rfl rfl (by decide) rfl inXS lXD_65 rfl ?_
  refine v_iload_n C dXD_putRecord_7 rfl rfl ?_
  refine v_iald (k := 4) (v := σ.2 4 (n).toNat) C dXD_putRecord_8 (by show (4 : Nat) < 383; decide) rfl rfl (by omega) (by decide) rfl ?_
  refine v_istore_n C dXD_putRecord_9 rfl (by decide) ?_
  refine v_aload_n C dXD_putRecord_10 rfl rfl ?_
  refine v_getR (k := 374) (q := 3) C dXD_putRecord_11 (by show (374 : Nat) < 383; decide) rfl rfl (by decide) rfl inXD lXD_22 rfl ?_
  refine v_getR (k := 377) (q := 0) C dXD_putRecord_14 (by show (377 : Nat) < 383; decide) rfl rfl (by decide) rfl inXT lXD_58 rfl ?_
  refine v_iload_n C dXD_putRecord_17 rfl rfl ?_
  refine v_aload_n C dXD_putRecord_18 rfl rfl ?_
  refine v_getI (k := 374) (q := 5) (v := σ.1 374 5) C dXD_putRecord_19 (by show (374 : Nat) < 383; decide) rfl rfl (by decide) rfl inXD lXD_30 rfl rfl ?_
  refine v_aload_n C dXD_putRecord_22 rfl rfl ?_
  refine v_getI (k := 374) (q := 6) (v := σ.1 374 6) C dXD_putRecord_23 (by show (374 : Nat) < 383; decide) rfl rfl (by decide) rfl inXD lXD_34 rfl rfl ?_
  refine v_iadd C dXD_putRecord_26 ?_
  refine v_iast (k := 378) C dXD_putRecord_27 (by show (378 : Nat) < 383; decide) rfl rfl (by omega) (by decide) ?_
  refine v_aload_n C dXD_putRecord_28 rfl rfl ?_
  refine v_getR (k := 374) (q := 3) C dXD_putRecord_29 (by show (374 : Nat) < 383; decide) rfl rfl (by decide) rfl inXD lXD_22 rfl ?_
  refine v_getR (k := 377) (q := 1) C dXD_putRecord_32 (by show (377 : Nat) < 383; decide) rfl rfl (by decide) rfl inXT lXD_96 rfl ?_
  refine v_iload_n C dXD_putRecord_35 rfl rfl ?_
  refine v_iload_n C dXD_putRecord_36 rfl rfl ?_
  refine v_iast (k := 379) C dXD_putRecord_37 (by show (379 : Nat) < 383; decide) rfl rfl (by omega) (by decide) ?_
  exact v_st (σ1 := x_puts (x_r0 σ n) []) rfl (v_lv rfl H1)
