/-- the order from t on, up to c, one place further -/
def x_sh (σ : fS) (t c : Nat) : fS := (σ.1, fun a b => if a = 376 ∧ t < b ∧ b ≤ c then σ.2 376 (b - 1) else σ.2 a b)
theorem x_sh_c (σ : fS) (c : Nat) : σ = x_sh σ c c := fS_ext (fun _ _ => rfl) (fun a b => by show _ = if a = 376 ∧ c < b ∧ b ≤ c then _ else σ.2 a b; rw [if_neg (by omega)])
theorem x_sh_lo (σ : fS) (t c b : Nat) (h : b ≤ t) : (x_sh σ t c).2 376 b = σ.2 376 b := by
  show (if 376 = 376 ∧ t < b ∧ b ≤ c then _ else σ.2 376 b) = _
  rw [if_neg (by omega)]
theorem x_sh_2 (σ : fS) (t c a b : Nat) (h : a ≠ 376) : (x_sh σ t c).2 a b = σ.2 a b := by
  show (if a = 376 ∧ t < b ∧ b ≤ c then _ else σ.2 a b) = _
  rw [if_neg (by omega)]
theorem x_sh_s (σ : fS) (t c : Nat) (h : t + 1 ≤ c) : f_p2 (x_sh σ (t + 1) c) 376 (t + 1) (σ.2 376 t) = x_sh σ t c := by
  refine fS_ext (fun _ _ => rfl) (fun a b => ?_)
  rw [p2_2]
  show (if a = 376 ∧ b = t + 1 then σ.2 376 t else if a = 376 ∧ t + 1 < b ∧ b ≤ c then σ.2 376 (b - 1) else σ.2 a b) = if a = 376 ∧ t < b ∧ b ≤ c then σ.2 376 (b - 1) else σ.2 a b
  by_cases h1 : a = 376 ∧ b = t + 1
  · rw [if_pos h1, if_pos (by omega)]
    rw [show b - 1 = t by omega]
  · rw [if_neg h1]
    by_cases h2 : a = 376 ∧ t + 1 < b ∧ b ≤ c
    · rw [if_pos h2, if_pos (by omega)]
    · rw [if_neg h2, if_neg (by omega)]
theorem x_gb_sh (σ : fS) (t c : Nat) (n o how : Int) : x_gb (x_sh σ t c) n o how = x_gb σ n o how := by
  unfold x_gb
  rw [x_sh_2 _ _ _ _ _ (by decide), x_sh_2 _ _ _ _ _ (by decide), x_sh_2 _ _ _ _ _ (by decide), x_sh_2 _ _ _ _ _ (by decide)]
theorem x_gb_01 (σ : fS) (n o how : Int) : 0 ≤ x_gb σ n o how ∧ x_gb σ n o how ≤ 1 := by
  unfold x_gb
  split
  · split <;> omega
  · split <;> omega
/-- object n stands at place t of the order -/
def x_insd (σ : fS) (t : Nat) (n : Int) : fS := f_p1 (f_p2 (x_sh σ t (σ.1 374 4).toNat) 376 t n) 374 4 (σ.1 374 4 + 1)
def x_insP (σ : fS) (n how : Int) (σ1 : fS) : Prop := ∃ t : Nat, (t : Int) ≤ σ.1 374 4 ∧ σ1 = x_insd σ t n ∧ (∀ j : Nat, t ≤ j → (j : Int) < σ.1 374 4 → x_gb σ n (σ.2 376 j) how = 1) ∧ (0 < t → x_gb σ n (σ.2 376 (t - 1)) how = 0)
set_option maxRecDepth 100000 in
set_option maxHeartbeats 4000000 in
/-- insert -/
theorem kX_XD_insert (l : Launch) (D : va_G) (cA : Nat → ClassId) (ad : Nat → Nat) (hJ : f_J (xG D cA ad)) (σ : fS) (n how : Int) (hn : 1 ≤ n ∧ n ≤ 40) (hh : -2147483648 ≤ how ∧ how ≤ 2147483647) (hc : 0 ≤ σ.1 374 4 ∧ σ.1 374 4 < 40) (ho : ∀ j : Nat, (j : Int) < σ.1 374 4 → 1 ≤ σ.2 376 j ∧ σ.2 376 j ≤ 40) (h3 : ∀ i, 0 ≤ σ.2 3 i ∧ σ.2 3 i ≤ 1) (h4 : ∀ i, 0 ≤ σ.2 4 i ∧ σ.2 4 i ≤ 120) : f_M l (xG D cA ad) (xE (xG D cA ad)) yXD_insert (Cond.code yXD_insert cXD_insert 4 none :: A9) 1 σ [.ref (ad 374), .int (fI n), .int (fI how)] (f_QV (fun σ1 => x_insP σ n how σ1) (xG D cA ad)) := by
  refine f_enter (by decide +kernel) hJ rfl (Nat.le_of_ble_eq_true rfl) ?_
  intro z hzl hR C hRt hLk hEz
  subst hzl
  have hRR : 1 ≤ z.2.2.2.1.frames ∧ 40 * 1 ≤ z.2.2.2.1.locals ∧ 0 ≤ z.2.2.2.1.cells ∧ 0 ≤ z.2.2.2.1.slots := by rw [hR]; exact ⟨Nat.le_refl _, Nat.le_refl _, Nat.zero_le _, Nat.zero_le _⟩
  have L : ∀ t : Nat, (t : Int) ≤ σ.1 374 4 → (∀ j : Nat, t ≤ j → (j : Int) < σ.1 374 4 → x_gb σ n (σ.2 376 j) how = 1) → fv z (xG D cA ad) 4 (f_R z (xG D cA ad) (f_QV (fun σ1 => x_insP σ n how σ1) (xG D cA ad))) 0 0 (x_sh σ t (σ.1 374 4).toNat) 15 [some (.ref (ad 374)), some (.int (fI n)), some (.int (fI how)), some (.int (fI (t : Int)))] [] := by
    intro t
    induction t with
    | zero =>
      intro ht hall
      refine v_iload_n C dXD_insert_15 rfl rfl ?_
      refine v_if_le (tgt := 56) C dXD_insert_16 (by decide) (by omega) (fun hc1 => ?_) (fun hc1 => ?_)
      · refine v_aload_n C dXD_insert_56 rfl rfl ?_
        refine v_getR (k := 374) (q := 2) C dXD_insert_57 (by show (374 : Nat) < 383; decide) rfl rfl (by decide) rfl inXD lXD_15 rfl ?_
        refine v_iload_n C dXD_insert_60 rfl rfl ?_
        refine v_iload_n C dXD_insert_61 rfl rfl ?_
        refine v_iast (k := 376) C dXD_insert_62 (by show (376 : Nat) < 383; decide) rfl rfl (by omega) (by decide) ?_
        refine v_aload_n C dXD_insert_63 rfl rfl ?_
        refine v_dup C dXD_insert_64 rfl ?_
        refine v_getI (k := 374) (q := 4) (v := σ.1 374 4) C dXD_insert_65 (by show (374 : Nat) < 383; decide) rfl rfl (by decide) rfl inXD lXD_37 rfl rfl ?_
        refine v_iconst C dXD_insert_68 ?_
        refine v_iadd C dXD_insert_69 ?_
        refine v_putI (k := 374) (q := 4) C dXD_insert_70 (by show (374 : Nat) < 383; decide) rfl rfl (by decide) rfl inXD tyXD_ok nmXD lXD_37 rfl rfl rfl rfl rfl ?_
        exact v_vret C hRt hLk dXD_insert_73 (by first | exact ⟨0, by omega, rfl, hall, fun h => by omega⟩ | exact ⟨t + 1, by omega, by unfold x_insd; rw [show (((t + 1 : Nat) : Int)).toNat = t + 1 by omega], hall, fun _ => by rw [show t + 1 - 1 = t by omega]; omega⟩)
      · exfalso; omega
    | succ t ih =>
      intro ht hall
      refine v_iload_n C dXD_insert_15 rfl rfl ?_
      refine v_if_le (tgt := 56) C dXD_insert_16 (by decide) (by omega) (fun hc2 => ?_) (fun hc2 => ?_)
      · exfalso; omega
      · refine v_aload_n C dXD_insert_19 rfl rfl ?_
        refine v_iload_n C dXD_insert_20 rfl rfl ?_
        refine v_aload_n C dXD_insert_21 rfl rfl ?_
        refine v_getR (k := 374) (q := 2) C dXD_insert_22 (by show (374 : Nat) < 383; decide) rfl rfl (by decide) rfl inXD lXD_15 rfl ?_
        refine v_iload_n C dXD_insert_25 rfl rfl ?_
        refine v_iconst C dXD_insert_26 ?_
        refine v_isub C dXD_insert_27 ?_
        refine v_iald (k := 376) (v := σ.2 376 t) C dXD_insert_28 (by show (376 : Nat) < 383; decide) rfl rfl (by omega) (by decide) (by rw [show ((((t + 1 : Nat) : Int) - 1)).toNat = t by omega]; exact x_sh_lo _ _ _ _ (by omega)) ?_
        refine v_iload_n C dXD_insert_29 rfl rfl ?_
        refine v_cVI (k := 374) (n := 3) C (xE_ok _) hEz hR (kX_XD_goesBefore _ D cA ad hJ (x_sh σ (t + 1) (σ.1 374 4).toNat) n (σ.2 376 t) how hn (ho t (by omega)) hh (fun i => by rw [x_sh_2 _ _ _ _ _ (by decide)]; exact h3 i) (fun i => by rw [x_sh_2 _ _ _ _ _ (by decide)]; exact h4 i)) dXD_insert_30 (by show (374 : Nat) < 383; decide) rfl rfl gXD_61 (by decide +kernel) (by decide) (by decide) rfl (Nat.le_of_ble_eq_true rfl) rfl ⟨rfl, rfl⟩ (fun r1 σ1 hp1 => ?_)
        obtain ⟨e1, e2⟩ := hp1
        subst σ1
        rw [x_gb_sh] at e1
        have hx01 := x_gb_01 σ n (σ.2 376 t) how
        subst r1
        refine v_if_eq (tgt := 56) C dXD_insert_33 (by decide) (by omega) (fun hc3 => ?_) (fun hc3 => ?_)
        · refine v_aload_n C dXD_insert_56 rfl rfl ?_
          refine v_getR (k := 374) (q := 2) C dXD_insert_57 (by show (374 : Nat) < 383; decide) rfl rfl (by decide) rfl inXD lXD_15 rfl ?_
          refine v_iload_n C dXD_insert_60 rfl rfl ?_
          refine v_iload_n C dXD_insert_61 rfl rfl ?_
          refine v_iast (k := 376) C dXD_insert_62 (by show (376 : Nat) < 383; decide) rfl rfl (by omega) (by decide) ?_
          refine v_aload_n C dXD_insert_63 rfl rfl ?_
          refine v_dup C dXD_insert_64 rfl ?_
          refine v_getI (k := 374) (q := 4) (v := σ.1 374 4) C dXD_insert_65 (by show (374 : Nat) < 383; decide) rfl rfl (by decide) rfl inXD lXD_37 rfl rfl ?_
          refine v_iconst C dXD_insert_68 ?_
          refine v_iadd C dXD_insert_69 ?_
          refine v_putI (k := 374) (q := 4) C dXD_insert_70 (by show (374 : Nat) < 383; decide) rfl rfl (by decide) rfl inXD tyXD_ok nmXD lXD_37 rfl rfl rfl rfl rfl ?_
          exact v_vret C hRt hLk dXD_insert_73 (by first | exact ⟨0, by omega, rfl, hall, fun h => by omega⟩ | exact ⟨t + 1, by omega, by unfold x_insd; rw [show (((t + 1 : Nat) : Int)).toNat = t + 1 by omega], hall, fun _ => by rw [show t + 1 - 1 = t by omega]; omega⟩)
        · refine v_aload_n C dXD_insert_36 rfl rfl ?_
          refine v_getR (k := 374) (q := 2) C dXD_insert_37 (by show (374 : Nat) < 383; decide) rfl rfl (by decide) rfl inXD lXD_15 rfl ?_
          refine v_iload_n C dXD_insert_40 rfl rfl ?_
          refine v_aload_n C dXD_insert_41 rfl rfl ?_
          refine v_getR (k := 374) (q := 2) C dXD_insert_42 (by show (374 : Nat) < 383; decide) rfl rfl (by decide) rfl inXD lXD_15 rfl ?_
          refine v_iload_n C dXD_insert_45 rfl rfl ?_
          refine v_iconst C dXD_insert_46 ?_
          refine v_isub C dXD_insert_47 ?_
          refine v_iald (k := 376) (v := σ.2 376 t) C dXD_insert_48 (by show (376 : Nat) < 383; decide) rfl rfl (by omega) (by decide) (by rw [show ((((t + 1 : Nat) : Int) - 1)).toNat = t by omega]; exact x_sh_lo _ _ _ _ (by omega)) ?_
          refine v_iast (k := 376) C dXD_insert_49 (by show (376 : Nat) < 383; decide) rfl rfl (by omega) (by decide) ?_
          refine v_iinc C dXD_insert_50 rfl (by decide) ?_
          refine v_goto (tgt := 15) C dXD_insert_53 (by decide) ?_
          exact v_st (by rw [show (((t + 1 : Nat) : Int)).toNat = t + 1 by omega]; exact x_sh_s σ t _ (by omega)) (v_lv (by rw [show ((t + 1 : Nat) : Int) + -1 = (t : Int) by omega]; rfl) (ih (by omega) (fun j h1 h2 => by by_cases h9 : j = t; (subst h9; omega); exact hall j (by omega) h2)))
  refine v_aload_n C dXD_insert_0 rfl rfl ?_
  refine v_getI (k := 374) (q := 4) (v := σ.1 374 4) C dXD_insert_1 (by show (374 : Nat) < 383; decide) rfl rfl (by decide) rfl inXD lXD_37 rfl rfl ?_
  refine v_bipush C dXD_insert_4 (by decide +kernel) ?_
  refine v_icmp_lt (tgt := 10) C dXD_insert_6 (by decide) (by omega) (by omega) (fun hc4 => ?_) (fun hc4 => ?_)
  · refine v_aload_n C dXD_insert_10 rfl rfl ?_
    refine v_getI (k := 374) (q := 4) (v := σ.1 374 4) C dXD_insert_11 (by show (374 : Nat) < 383; decide) rfl rfl (by decide) rfl inXD lXD_37 rfl rfl ?_
    refine v_istore_n C dXD_insert_14 rfl (by decide) ?_
    exact v_st (x_sh_c σ (σ.1 374 4).toNat) (v_lv (by rw [show σ.1 374 4 = (((σ.1 374 4).toNat : Nat) : Int) by omega]; rfl) (L (σ.1 374 4).toNat (by omega) (fun j h1 h2 => by omega)))
  · exfalso; omega
