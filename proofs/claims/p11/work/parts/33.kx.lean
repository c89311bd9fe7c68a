/-- a draft is begun -/
def x_beg (σ : fS) (p : Int) : fS := x_reset (f_p1 (f_p1 (f_p1 σ 374 5 p) 374 6 0) 374 4 0) 377 (-2)
/-- a draft without records and rows is finished -/
def x_fin0 (σ : fS) (q : Int) : fS := f_p1 (x_puts (f_p1 σ 377 2 (σ.1 374 5 + σ.1 374 6)) (m_tell 120 0 ++ m_tell 112 q ++ m_tell 101 (σ.1 374 5 + σ.1 374 6))) 377 3 (σ.1 374 5 + (σ.1 374 6 + (m_tell 120 0 ++ m_tell 112 q ++ m_tell 101 (σ.1 374 5 + σ.1 374 6)).length))
def x_behind (σ : fS) (b n : Int) : fS := f_p1 (f_pa σ 9 (fun q => if b.toNat ≤ q ∧ q < b.toNat + n.toNat then σ.2 375 ((0 : Int).toNat + (q - b.toNat)) else σ.2 9 q)) 8 1 (b + n)
def x_add0 (σ : fS) (p : Nat) : fS := f_p1 (x_lay (x_reset σ 12 (-1)) 12 p) 10 1 (σ.1 10 1 + 1)
def x_keep0 (σ : fS) : fS := x_sav (x_add0 (f_p1 (x_behind σ (σ.1 374 5) (σ.1 374 6)) 8 2 0) 377) 41
theorem x_fill_o (σ : fS) (k : Nat) (a b v : Int) (x q : Nat) (h : x ≠ k) : (x_fill σ k a b v).2 x q = σ.2 x q := by
  show (f_pa σ k _).2 x q = _
  rw [pa_2, if_neg h]
theorem x_reset_o (σ : fS) (r : Nat) (v : Int) (x q : Nat) (h : x ≠ r + 1 ∧ x ≠ r + 2) : (x_reset σ r v).2 x q = σ.2 x q := by
  unfold x_reset
  rw [x_fill_o _ _ _ _ _ _ _ h.2, x_fill_o _ _ _ _ _ _ _ h.1]
theorem x_reset_p (σ : fS) (r : Nat) (v : Int) (q : Nat) (h : q < 41) : (x_reset σ r v).2 (r + 1) q = v := by
  unfold x_reset
  rw [x_fill_o _ _ _ _ _ _ _ (by omega)]
  show (f_pa σ (r + 1) _).2 (r + 1) q = _
  rw [pa_2, if_pos rfl, if_pos (by omega)]
theorem x_cnt0 (f : Nat → Int) (h : ∀ i, 1 ≤ i → i ≤ 40 → f i = 0) : ∀ k : Nat, k ≤ 40 → m_cnt f k = 0 := by
  intro k
  induction k with
  | zero => intro _; rfl
  | succ k ih =>
    intro hk
    show m_cnt f k + (if f (k + 1) = 1 then 1 else 0) = 0
    rw [ih (by omega), h (k + 1) (by omega) hk]
    rfl
set_option maxRecDepth 100000 in
set_option maxHeartbeats 4000000 in
/-- begin -/
theorem kX_XD_begin (l : Launch) (D : va_G) (cA : Nat → ClassId) (ad : Nat → Nat) (hJ : f_J (xG D cA ad)) (σ : fS) (p : Int) (hp : -2147483648 ≤ p ∧ p ≤ 2147483647) : f_M l (xG D cA ad) (xE (xG D cA ad)) yXD_begin (Cond.code yXD_begin cXD_begin 2 none :: A9) 2 σ [.ref (ad 374), .int (fI p)] (f_QV (fun σ1 => σ1 = x_beg σ p) (xG D cA ad)) := by
  refine f_enter (by decide +kernel) hJ rfl (Nat.le_of_ble_eq_true rfl) ?_
  intro z hzl hR C hRt hLk hEz
  subst hzl
  have hRR : 2 ≤ z.2.2.2.1.frames ∧ 40 * 2 ≤ z.2.2.2.1.locals ∧ 0 ≤ z.2.2.2.1.cells ∧ 0 ≤ z.2.2.2.1.slots := by rw [hR]; exact ⟨Nat.le_refl _, Nat.le_refl _, Nat.zero_le _, Nat.zero_le _⟩
  refine v_aload_n C dXD_begin_0 rfl rfl ?_
  refine v_iload_n C dXD_begin_1 rfl rfl ?_
  refine v_putI (k := 374) (q := 5) C dXD_begin_2 (by show (374 : Nat) < 383; decide) rfl rfl (by decide) rfl inXD tyXD_ok nmXD lXD_30 rfl rfl rfl rfl rfl ?_
  refine v_aload_n C dXD_begin_5 rfl rfl ?_
  refine v_iconst C dXD_begin_6 ?_
  refine v_putI (k := 374) (q := 6) C dXD_begin_7 (by show (374 : Nat) < 383; decide) rfl rfl (by decide) rfl inXD tyXD_ok nmXD lXD_34 rfl rfl rfl rfl rfl ?_
  refine v_aload_n C dXD_begin_10 rfl rfl ?_
  refine v_iconst C dXD_begin_11 ?_
  refine v_putI (k := 374) (q := 4) C dXD_begin_12 (by show (374 : Nat) < 383; decide) rfl rfl (by decide) rfl inXD tyXD_ok nmXD lXD_37 rfl rfl rfl rfl rfl ?_
  refine v_aload_n C dXD_begin_15 rfl rfl ?_
  refine v_getR (k := 374) (q := 3) C dXD_begin_16 (by show (374 : Nat) < 383; decide) rfl rfl (by decide) rfl inXD lXD_22 rfl ?_
  refine v_bipush C dXD_begin_19 (by decide +kernel) ?_
  refine v_cVV (k := 377) (n := 1) C (xE_ok _) hEz hR (kX_XT_reset _ D cA ad hJ _ 377 (by decide) rfl rfl rfl (-2)) dXD_begin_21 (by show (377 : Nat) < 383; decide) rfl rfl gXD_40 (by decide +kernel) (by decide) (by decide) rfl (Nat.le_of_ble_eq_true rfl) rfl ⟨rfl, rfl⟩ (fun σ1 hp1 => ?_)
  subst σ1
  exact v_vret C hRt hLk dXD_begin_24 rfl
set_option maxRecDepth 100000 in
set_option maxHeartbeats 4000000 in
/-- chooseThere -/
theorem kX_XD_chooseThere0 (l : Launch) (D : va_G) (cA : Nat → ClassId) (ad : Nat → Nat) (hJ : f_J (xG D cA ad)) (σ : fS) (how : Int) (h2 : ∀ i, σ.2 2 i = 0) : f_M l (xG D cA ad) (xE (xG D cA ad)) yXD_chooseThere (Cond.code yXD_chooseThere cXD_chooseThere 3 none :: A9) 0 σ [.ref (ad 374), .int (fI how)] (f_QV (fun σ1 => σ1 = σ) (xG D cA ad)) := by
  refine f_enter (by decide +kernel) hJ rfl (Nat.le_of_ble_eq_true rfl) ?_
  intro z hzl hR C hRt hLk hEz
  subst hzl
  have hRR : 0 ≤ z.2.2.2.1.frames ∧ 40 * 0 ≤ z.2.2.2.1.locals ∧ 0 ≤ z.2.2.2.1.cells ∧ 0 ≤ z.2.2.2.1.slots := by rw [hR]; exact ⟨Nat.le_refl _, Nat.le_refl _, Nat.zero_le _, Nat.zero_le _⟩
  have L : ∀ (m : Nat) (k : Int), k + m = 41 → 1 ≤ k → fv z (xG D cA ad) 3 (f_R z (xG D cA ad) (f_QV (fun σ1 => σ1 = σ) (xG D cA ad))) 0 0 σ 2 [some (.ref (ad 374)), some (.int (fI how)), some (.int (fI k))] [] := by
    intro m
    induction m with
    | zero =>
      intro k hk hk1
      refine v_iload_n C dXD_chooseThere_2 rfl rfl ?_
      refine v_bipush C dXD_chooseThere_3 (by decide +kernel) ?_
      refine v_icmp_gt (tgt := 32) C dXD_chooseThere_5 (by decide) (by omega) (by omega) (fun hc1 => ?_) (fun hc1 => ?_)
      · exact v_vret C hRt hLk dXD_chooseThere_32 rfl
      · exfalso; omega
    | succ m ih =>
      intro k hk hk1
      have hz := h2 k.toNat
      refine v_iload_n C dXD_chooseThere_2 rfl rfl ?_
      refine v_bipush C dXD_chooseThere_3 (by decide +kernel) ?_
      refine v_icmp_gt (tgt := 32) C dXD_chooseThere_5 (by decide) (by omega) (by omega) (fun hc2 => ?_) (fun hc2 => ?_)
      · exfalso; omega
      · refine v_aload_n C dXD_chooseThere_8 rfl rfl ?_
        refine v_getR (k := 374) (q := 0) C dXD_chooseThere_9 (by show (374 : Nat) < 383; decide) rfl rfl (by decide) rfl inXD lXD_26 rfl ?_
        refine v_getR (k := 1) (q := 0) C dXD_chooseThere_12 (by show (1 : Nat) < 383; decide) rfl rfl (by decide) rfl inXS lXD_44 rfl ?_
        refine v_iload_n C dXD_chooseThere_15 rfl rfl ?_
        refine v_zald (k := 2) (v := σ.2 2 (k).toNat) C dXD_chooseThere_16 (by show (2 : Nat) < 383; decide) rfl rfl (by omega) (by decide) rfl ?_
        refine v_if_eq (tgt := 26) C dXD_chooseThere_17 (by decide) (by omega) (fun hc3 => ?_) (fun hc3 => ?_)
        · refine v_iinc C dXD_chooseThere_26 rfl (by decide) ?_
          refine v_goto (tgt := 2) C dXD_chooseThere_29 (by decide) ?_
          exact ih (k + 1) (by omega) (by omega)
        · exfalso; omega
  refine v_iconst C dXD_chooseThere_0 ?_
  refine v_istore_n C dXD_chooseThere_1 rfl (by decide) ?_
  exact L 40 1 (by omega) (by omega)
set_option maxRecDepth 100000 in
set_option maxHeartbeats 4000000 in
/-- finish -/
theorem kX_XD_finish0 (l : Launch) (D : va_G) (cA : Nat → ClassId) (ad : Nat → Nat) (hJ : f_J (xG D cA ad)) (σ : fS) (q : Int) (hq : 0 ≤ q ∧ q ≤ 99999) (hc : σ.1 374 4 = 0) (hbs : 0 ≤ σ.1 374 5 ∧ σ.1 374 5 ≤ 12000) (hu : 0 ≤ σ.1 374 6 ∧ σ.1 374 6 < 5000) (hb : ∀ i, -2 ≤ σ.2 378 i ∧ σ.2 378 i ≤ 99999) (hr : ∀ i, 1 ≤ i → i ≤ 40 → σ.2 378 i = -2) : f_M l (xG D cA ad) (xE (xG D cA ad)) yXD_finish (Cond.code yXD_finish cXD_finish 3 none :: A9) 3 σ [.ref (ad 374), .int (fI q)] (f_QV (fun σ1 => σ1 = x_fin0 σ q) (xG D cA ad)) := by
  refine f_enter (by decide +kernel) hJ rfl (Nat.le_of_ble_eq_true rfl) ?_
  intro z hzl hR C hRt hLk hEz
  subst hzl
  have hRR : 3 ≤ z.2.2.2.1.frames ∧ 40 * 3 ≤ z.2.2.2.1.locals ∧ 0 ≤ z.2.2.2.1.cells ∧ 0 ≤ z.2.2.2.1.slots := by rw [hR]; exact ⟨Nat.le_refl _, Nat.le_refl _, Nat.zero_le _, Nat.zero_le _⟩
  have L : ∀ (m : Nat) (k : Int), k + m = 41 → 1 ≤ k → fv z (xG D cA ad) 3 (f_R z (xG D cA ad) (f_QV (fun σ1 => σ1 = x_fin0 σ q) (xG D cA ad))) 0 0 (x_puts (f_p1 σ 377 2 (σ.1 374 5 + σ.1 374 6)) (m_tell 120 0)) 57 [some (.ref (ad 374)), some (.int (fI q)), some (.int (fI k))] [] := by
    intro m
    induction m with
    | zero =>
      intro k hk hk1
      refine v_iload_n C dXD_finish_57 rfl rfl ?_
      refine v_bipush C dXD_finish_58 (by decide +kernel) ?_
      refine v_icmp_gt (tgt := 88) C dXD_finish_60 (by decide) (by omega) (by omega) (fun hc1 => ?_) (fun hc1 => ?_)
      · refine v_aload_n C dXD_finish_88 rfl rfl ?_
        refine v_bipush C dXD_finish_89 (by decide +kernel) ?_
        refine v_iload_n C dXD_finish_91 rfl rfl ?_
        have hx2 := x_puts_u (f_p1 σ 377 2 (σ.1 374 5 + σ.1 374 6)) (m_tell 120 0)
        have h120 := m_tell_len 120 0
        have h112 := m_tell_len 112 q
        have hl3 := m_tell_len (112) (q)
        have hB6 : (f_p1 σ 377 2 (σ.1 374 5 + σ.1 374 6)).1 374 6 = σ.1 374 6 := rfl
        try simp only [List.length_append, List.length_nil] at *
        refine v_cVV (k := 374) (n := 2) C (xE_ok _) hEz hR (kX_XD_putTagged _ D cA ad hJ (x_puts (f_p1 σ 377 2 (σ.1 374 5 + σ.1 374 6)) (m_tell 120 0)) (112) (q) (by omega) (by omega) (by omega)) dXD_finish_92 (by show (374 : Nat) < 383; decide) rfl rfl gXD_81 (by decide +kernel) (by decide) (by decide) rfl (Nat.le_of_ble_eq_true rfl) rfl ⟨rfl, rfl⟩ (fun σ1 hp1 => ?_)
        subst σ1
        refine v_st (σ1 := x_puts (f_p1 σ 377 2 (σ.1 374 5 + σ.1 374 6)) (m_tell 120 0 ++ m_tell (112) (q))) ((x_puts_app _ _ _).symm) ?_
        refine v_aload_n C dXD_finish_95 rfl rfl ?_
        refine v_bipush C dXD_finish_96 (by decide +kernel) ?_
        refine v_aload_n C dXD_finish_98 rfl rfl ?_
        refine v_getR (k := 374) (q := 3) C dXD_finish_99 (by show (374 : Nat) < 383; decide) rfl rfl (by decide) rfl inXD lXD_22 rfl ?_
        refine v_getI (k := 377) (q := 2) (v := σ.1 374 5 + σ.1 374 6) C dXD_finish_102 (by show (377 : Nat) < 383; decide) rfl rfl (by decide) rfl inXT lXD_74 rfl (by rw [x_puts_1, if_neg (by decide)]; rfl) ?_
        have hx4 := x_puts_u (f_p1 σ 377 2 (σ.1 374 5 + σ.1 374 6)) (m_tell 120 0 ++ m_tell (112) (q))
        have h120 := m_tell_len 120 0
        have h112 := m_tell_len 112 q
        have hl5 := m_tell_len (101) (σ.1 374 5 + σ.1 374 6)
        have hB6 : (f_p1 σ 377 2 (σ.1 374 5 + σ.1 374 6)).1 374 6 = σ.1 374 6 := rfl
        try simp only [List.length_append, List.length_nil] at *
        refine v_cVV (k := 374) (n := 2) C (xE_ok _) hEz hR (kX_XD_putTagged _ D cA ad hJ (x_puts (f_p1 σ 377 2 (σ.1 374 5 + σ.1 374 6)) (m_tell 120 0 ++ m_tell (112) (q))) (101) (σ.1 374 5 + σ.1 374 6) (by omega) (by omega) (by omega)) dXD_finish_105 (by show (374 : Nat) < 383; decide) rfl rfl gXD_81 (by decide +kernel) (by decide) (by decide) rfl (Nat.le_of_ble_eq_true rfl) rfl ⟨rfl, rfl⟩ (fun σ1 hp1 => ?_)
        subst σ1
        refine v_st (σ1 := x_puts (f_p1 σ 377 2 (σ.1 374 5 + σ.1 374 6)) (m_tell 120 0 ++ m_tell (112) (q) ++ m_tell (101) (σ.1 374 5 + σ.1 374 6))) ((x_puts_app _ _ _).symm) ?_
        refine v_aload_n C dXD_finish_108 rfl rfl ?_
        refine v_getR (k := 374) (q := 3) C dXD_finish_109 (by show (374 : Nat) < 383; decide) rfl rfl (by decide) rfl inXD lXD_22 rfl ?_
        refine v_aload_n C dXD_finish_112 rfl rfl ?_
        refine v_getI (k := 374) (q := 5) (v := σ.1 374 5) C dXD_finish_113 (by show (374 : Nat) < 383; decide) rfl rfl (by decide) rfl inXD lXD_30 rfl (by rw [x_puts_1, if_neg (by decide)]; rfl) ?_
        refine v_aload_n C dXD_finish_116 rfl rfl ?_
        refine v_getI (k := 374) (q := 6) (v := σ.1 374 6 + (m_tell 120 0 ++ m_tell (112) (q) ++ m_tell (101) (σ.1 374 5 + σ.1 374 6) : List Int).length) C dXD_finish_117 (by show (374 : Nat) < 383; decide) rfl rfl (by decide) rfl inXD lXD_34 rfl (x_puts_u _ _) ?_
        refine v_iadd C dXD_finish_120 ?_
        refine v_putI (k := 377) (q := 3) C dXD_finish_121 (by show (377 : Nat) < 383; decide) rfl rfl (by decide) rfl inXT tyXT_ok nmXT lXD_87 rfl rfl rfl rfl rfl ?_
        exact v_vret C hRt hLk dXD_finish_124 (by unfold x_fin0; simp only [List.append_assoc])
      · exfalso; omega
    | succ m ih =>
      intro k hk hk1
      have hz := hr k.toNat (by omega) (by omega)
      refine v_iload_n C dXD_finish_57 rfl rfl ?_
      refine v_bipush C dXD_finish_58 (by decide +kernel) ?_
      refine v_icmp_gt (tgt := 88) C dXD_finish_60 (by decide) (by omega) (by omega) (fun hc6 => ?_) (fun hc6 => ?_)
      · exfalso; omega
      · refine v_aload_n C dXD_finish_63 rfl rfl ?_
        refine v_getR (k := 374) (q := 3) C dXD_finish_64 (by show (374 : Nat) < 383; decide) rfl rfl (by decide) rfl inXD lXD_22 rfl ?_
        refine v_getR (k := 377) (q := 0) C dXD_finish_67 (by show (377 : Nat) < 383; decide) rfl rfl (by decide) rfl inXT lXD_58 rfl ?_
        refine v_iload_n C dXD_finish_70 rfl rfl ?_
        refine v_iald (k := 378) (v := σ.2 378 (k).toNat) C dXD_finish_71 (by show (378 : Nat) < 383; decide) rfl rfl (by omega) (by decide) (x_puts_2 _ _ _ _ (by decide)) ?_
        refine v_bipush C dXD_finish_72 (by decide +kernel) ?_
        refine v_icmp_eq (tgt := 82) C dXD_finish_74 (by decide) (by omega) (by omega) (fun hc7 => ?_) (fun hc7 => ?_)
        · refine v_iinc C dXD_finish_82 rfl (by decide) ?_
          refine v_goto (tgt := 57) C dXD_finish_85 (by decide) ?_
          exact ih (k + 1) (by omega) (by omega)
        · exfalso; omega
  refine v_iconst C dXD_finish_0 ?_
  refine v_istore_n C dXD_finish_1 rfl (by decide) ?_
  refine v_iload_n C dXD_finish_2 rfl rfl ?_
  refine v_aload_n C dXD_finish_3 rfl rfl ?_
  refine v_getI (k := 374) (q := 4) (v := σ.1 374 4) C dXD_finish_4 (by show (374 : Nat) < 383; decide) rfl rfl (by decide) rfl inXD lXD_37 rfl rfl ?_
  refine v_icmp_ge (tgt := 26) C dXD_finish_7 (by decide) (by omega) (by omega) (fun hc8 => ?_) (fun hc8 => ?_)
  · refine v_aload_n C dXD_finish_26 rfl rfl ?_
    refine v_getR (k := 374) (q := 3) C dXD_finish_27 (by show (374 : Nat) < 383; decide) rfl rfl (by decide) rfl inXD lXD_22 rfl ?_
    refine v_aload_n C dXD_finish_30 rfl rfl ?_
    refine v_getI (k := 374) (q := 5) (v := σ.1 374 5) C dXD_finish_31 (by show (374 : Nat) < 383; decide) rfl rfl (by decide) rfl inXD lXD_30 rfl rfl ?_
    refine v_aload_n C dXD_finish_34 rfl rfl ?_
    refine v_getI (k := 374) (q := 6) (v := σ.1 374 6) C dXD_finish_35 (by show (374 : Nat) < 383; decide) rfl rfl (by decide) rfl inXD lXD_34 rfl rfl ?_
    refine v_iadd C dXD_finish_38 ?_
    refine v_putI (k := 377) (q := 2) C dXD_finish_39 (by show (377 : Nat) < 383; decide) rfl rfl (by decide) rfl inXT tyXT_ok nmXT lXD_74 rfl rfl rfl rfl rfl ?_
    refine v_st (σ1 := x_puts (f_p1 σ 377 2 (σ.1 374 5 + σ.1 374 6)) []) rfl ?_
    refine v_aload_n C dXD_finish_42 rfl rfl ?_
    refine v_bipush C dXD_finish_43 (by decide +kernel) ?_
    refine v_aload_n C dXD_finish_45 rfl rfl ?_
    refine v_getR (k := 374) (q := 3) C dXD_finish_46 (by show (374 : Nat) < 383; decide) rfl rfl (by decide) rfl inXD lXD_22 rfl ?_
    have hbr : ∀ i, -2 ≤ (x_puts (f_p1 σ 377 2 (σ.1 374 5 + σ.1 374 6)) []).2 (377 + 1) i ∧ (x_puts (f_p1 σ 377 2 (σ.1 374 5 + σ.1 374 6)) []).2 (377 + 1) i ≤ 99999 := hb
    refine v_cVI (k := 377) (n := 0) C (xE_ok _) hEz hR (kX_XT_countRows _ D cA ad hJ (x_puts (f_p1 σ 377 2 (σ.1 374 5 + σ.1 374 6)) []) 377 (by decide) rfl rfl rfl hbr) dXD_finish_49 (by show (377 : Nat) < 383; decide) rfl rfl gXD_77 (by decide +kernel) (by decide) (by decide) rfl (Nat.le_of_ble_eq_true rfl) rfl ⟨rfl, rfl⟩ (fun r1 σ1 hp1 => ?_)
    obtain ⟨e1, e2⟩ := hp1
    subst σ1
    rw [x_cnt0 (x_has (x_puts (f_p1 σ 377 2 (σ.1 374 5 + σ.1 374 6)) []) 377) (fun i h1 h2 => by show (if σ.2 378 i = -2 then 0 else 1) = _; rw [if_pos (hr i h1 h2)]) 40 (by omega)] at e1
    subst r1
    have hx9 := x_puts_u (f_p1 σ 377 2 (σ.1 374 5 + σ.1 374 6)) ([])
    have h120 := m_tell_len 120 0
    have h112 := m_tell_len 112 q
    have hl10 := m_tell_len (120) (0)
    have hB6 : (f_p1 σ 377 2 (σ.1 374 5 + σ.1 374 6)).1 374 6 = σ.1 374 6 := rfl
    try simp only [List.length_append, List.length_nil] at *
    refine v_cVV (k := 374) (n := 2) C (xE_ok _) hEz hR (kX_XD_putTagged _ D cA ad hJ (x_puts (f_p1 σ 377 2 (σ.1 374 5 + σ.1 374 6)) ([])) (120) (0) (by omega) (by omega) (by omega)) dXD_finish_52 (by show (374 : Nat) < 383; decide) rfl rfl gXD_81 (by decide +kernel) (by decide) (by decide) rfl (Nat.le_of_ble_eq_true rfl) rfl ⟨rfl, rfl⟩ (fun σ1 hp1 => ?_)
    subst σ1
    refine v_st (σ1 := x_puts (f_p1 σ 377 2 (σ.1 374 5 + σ.1 374 6)) (m_tell (120) (0))) (rfl) ?_
    refine v_iconst C dXD_finish_55 ?_
    refine v_istore_n C dXD_finish_56 rfl (by decide) ?_
    exact L 40 1 (by omega) (by omega)
  · exfalso; omega
