/-! a part -/
def x_S0 (σ : fS) (r : Nat) (x : Int) : fS := f_p1 (x_reset σ r (-2)) r 2 x
def x_pf (fb : Nat → Int) (fn : Int) (σ : fS) (r : Nat) (x v : Int) (σ1 : fS) : Prop :=
  (¬ q_tg fb fn x 120 ∧ v = x ∧ ∃ y, σ1 = x_nx (x_S0 σ r x) y) ∨ (q_tg fb fn x 120 ∧ ∃ (v1 : Int) (S1 : fS), q_rf fb fn (x_nx (x_S0 σ r x) (q_eat fb fn x)) r (q_eat fb fn x) (q_nr fb fn (x + 2)) v1 S1 ∧
   ((v1 ≠ -1 ∧ v = v1 ∧ σ1 = S1) ∨ (v1 = -1 ∧ ∃ (v2 : Int) (S2 : fS), q_ef fb fn S1 r (q_rat fb fn (q_eat fb fn x) (q_nr fb fn (x + 2)).toNat) v2 S2 ∧ ((v2 ≠ -1 ∧ v = v2 ∧ σ1 = S2) ∨ (v2 = -1 ∧ q_cf fb fn S2 r v σ1)))))
theorem x_S0_r (σ : fS) (r : Nat) (x : Int) : (x_S0 σ r x).1 r 2 = x := by unfold x_S0; rw [p1_1, if_pos ⟨rfl, rfl⟩]
theorem x_S0_1 (σ : fS) (r : Nat) (x : Int) (a b : Nat) (h : ¬ (a = r ∧ b = 2)) : (x_S0 σ r x).1 a b = σ.1 a b := by unfold x_S0; rw [p1_1, if_neg h]; rfl
theorem x_S0_2 (σ : fS) (r : Nat) (x : Int) (a : Nat) (h : a ≠ r + 1 ∧ a ≠ r + 2) : (x_S0 σ r x).2 a = σ.2 a := by funext b; exact x_reset_o _ _ _ _ _ h
theorem x_S0_p (σ : fS) (r : Nat) (x : Int) (b : Nat) : (x_S0 σ r x).2 (r + 1) b = if b < 41 then -2 else σ.2 (r + 1) b := by
  by_cases g : b < 41
  · rw [if_pos g]; exact x_reset_p _ _ _ _ g
  · rw [if_neg g]
    show (x_reset σ r (-2)).2 (r + 1) b = _
    unfold x_reset
    rw [x_fill_o _ _ _ _ _ _ _ (by omega)]
    show (f_pa _ (r + 1) _).2 (r + 1) b = _
    rw [pa_2, if_pos rfl, if_neg (by omega)]
theorem x_S0_l (σ : fS) (r : Nat) (x : Int) (b : Nat) : (x_S0 σ r x).2 (r + 2) b = if b < 41 then 0 else σ.2 (r + 2) b := by
  show (x_fill _ (r + 2) 0 41 0).2 (r + 2) b = _
  show (f_pa _ (r + 2) _).2 (r + 2) b = _
  rw [pa_2, if_pos rfl, x_fill_o _ _ _ _ _ _ _ (by omega)]
  by_cases g : b < 41
  · rw [if_pos (by omega), if_pos g]
  · rw [if_neg (by omega), if_neg g]
theorem q_tg_r {fb : Nat → Int} {fn p c : Int} (h : q_tg fb fn p c) (hc : c ≠ 256) : 0 ≤ p ∧ (p < q_eat fb fn p ∧ q_eat fb fn p ≤ fn) ∧ 0 ≤ q_nr fb fn (p + 2) ∧ q_nr fb fn (p + 2) ≤ 99999 := by
  obtain ⟨h1, h2, h3, h4⟩ := h
  have a := q_np_r fb fn (p + 2)
  have i1 := q_va_in (fb := fb) (fn := fn) (i := p) (by omega)
  have i2 := q_va_in (fb := fb) (fn := fn) (i := q_np fb fn (p + 2)) (by omega)
  have e : q_eat fb fn p = q_np fb fn (p + 2) + 1 := rfl
  exact ⟨by omega, by omega, by omega, by omega⟩
theorem q_rf_v {fb : Nat → Int} {fn p w v : Int} {σ σ1 : fS} {r : Nat} (h : q_rf fb fn σ r p w v σ1) (hp : 0 ≤ p ∧ p ≤ fn) : (-1 ≤ v ∧ v ≤ fn ∨ v = -1) ∧ (v = -1 → (∀ i : Nat, (i : Int) < w → q_rwi fb fn (σ.1 r 2) p i) ∧ σ1 = x_nx (x_rwF fb fn σ r p w.toNat) (q_rat fb fn p w.toNat)) ∧ (v ≠ -1 → x_scp σ r σ1) := by
  rcases h with ⟨j, h1, h2, h3, h4, h5⟩ | ⟨h1, h2, h3⟩
  · have a := (q_rat_r hp j h2).1
    exact ⟨by omega, fun g => by omega, fun _ => h5⟩
  · exact ⟨by omega, fun _ => ⟨h1, h3⟩, fun g => absurd h2 g⟩
theorem q_ef_v {fb : Nat → Int} {fn p v : Int} {σ σ1 : fS} {r : Nat} (h : q_ef fb fn σ r p v σ1) (hp : 0 ≤ p ∧ p ≤ fn) : (-1 ≤ v ∧ v ≤ fn ∨ v = -1) ∧ (v = -1 → q_okP fb fn (σ.1 r 2) (σ.1 192 2) p ∧ q_okE fb fn (σ.1 r 2) (q_eat fb fn p) ∧ σ1.1 192 4 = q_nr fb fn (p + 2) ∧ σ1.1 r 3 = q_eat fb fn (q_eat fb fn p)) := by
  obtain ⟨-, h⟩ := h
  rcases h with ⟨h1, h2⟩ | ⟨h1, ⟨h2, h3⟩ | ⟨h2, h3, h4, ⟨h5, h6, h7⟩ | ⟨h5, h6⟩⟩⟩
  · exact ⟨by omega, fun g => by omega⟩
  · have a := q_tg_r h1.1 (by decide)
    exact ⟨by omega, fun g => by omega⟩
  · have a := q_tg_r h2.1 (by decide)
    have b := q_tg_r h1.1 (by decide)
    exact ⟨by omega, fun g => by omega⟩
  · exact ⟨by omega, fun g => ⟨h1, h2, h3, h4⟩⟩
theorem x_okF_r (r b : Nat) (hr : ∃ i, i < 60 ∧ r = 194 + 3 * i) (hb : b = 2 ∨ b = 3) (v : Int) : x_okF r b v ↔ (0 ≤ v ∧ v ≤ 12000) := by
  obtain ⟨i, hi, rfl⟩ := hr
  exact x_okF_c i hi b hb v
set_option maxRecDepth 100000 in
set_option maxHeartbeats 4000000 in
/-- partFault -/
theorem kX_XC_partFault (l : Launch) (D : va_G) (cA : Nat → ClassId) (ad : Nat → Nat) (hJ : f_J (xG D cA ad)) (σ : fS) (r : Nat) (hr : r + 2 < 383) (hY0 : xY r = .inl (4, 4, fXT r)) (hY1 : xY (r + 1) = .inr (.inl (0, 41))) (hY2 : xY (r + 2) = .inr (.inl (0, 41))) (hr2 : 193 < r) (x : Int) (fb : Nat → Int) (fn : Int) (hfb : σ.2 9 = fb) (hfn : σ.1 8 1 = fn) (hn0 : 0 ≤ fn ∧ fn ≤ 12000) (hb9 : ∀ i, -128 ≤ fb i ∧ fb i ≤ 127) (hx : 0 ≤ x ∧ x ≤ 11999) (hct : 0 ≤ σ.1 192 2 ∧ σ.1 192 2 ≤ 60) (hbp : ∀ i, -2 ≤ σ.2 (r + 1) i ∧ σ.2 (r + 1) i ≤ 99999) (hbl : ∀ i, -1 ≤ σ.2 (r + 2) i ∧ σ.2 (r + 2) i ≤ 120) : f_M l (xG D cA ad) (xE (xG D cA ad)) yXC_partFault (Cond.code yXC_partFault cXC_partFault 5 (some .int) :: A9) 4 σ [.ref (ad 192), .ref (ad (r)), .int (fI x)] (f_QI (fun v σ1 => x_pf fb fn σ r x v σ1) (xG D cA ad)) := by
  refine f_enter (by decide +kernel) hJ rfl (Nat.le_of_ble_eq_true rfl) ?_
  intro z hzl hR C hRt hLk hEz
  subst hzl
  have hRR : 4 ≤ z.2.2.2.1.frames ∧ 40 * 4 ≤ z.2.2.2.1.locals ∧ 0 ≤ z.2.2.2.1.cells ∧ 0 ≤ z.2.2.2.1.slots := by rw [hR]; exact ⟨Nat.le_refl _, Nat.le_refl _, Nat.zero_le _, Nat.zero_le _⟩
  refine v_aload_n C dXC_partFault_0 rfl rfl ?_
  refine v_bipush C dXC_partFault_1 (by decide +kernel) ?_
  refine v_cVV (k := r) (n := 1) C (xE_ok _) hEz hR (kX_XT_reset _ D cA ad hJ σ r hr hY0 hY1 hY2 (-2)) dXC_partFault_3 (by show (r : Nat) < 383; omega) (hY0) rfl gXC_56 (by decide +kernel) (by decide) (by decide) rfl (Nat.le_of_ble_eq_true rfl) rfl ⟨rfl, rfl⟩ (fun σ1 hp1 => ?_)
  subst σ1
  refine v_aload_n C dXC_partFault_6 rfl rfl ?_
  refine v_iload_n C dXC_partFault_7 rfl rfl ?_
  refine v_putI (k := r) (q := 2) C dXC_partFault_8 (by show (r : Nat) < 383; omega) (hY0) rfl (by decide) rfl inXT tyXT_ok nmXT lXC_60 rfl rfl rfl rfl rfl ?_
  obtain ⟨S0, hS0⟩ : ∃ s, s = x_S0 σ r x := ⟨_, rfl⟩
  refine v_st hS0.symm ?_
  have hS0b : S0.2 9 = fb := by rw [hS0, x_S0_2 _ _ _ 9 (by omega)]; exact hfb
  have hS0n : S0.1 8 1 = fn := by rw [hS0, x_S0_1 _ _ _ 8 1 (by omega)]; exact hfn
  have hS0r : S0.1 r 2 = x := by rw [hS0]; exact x_S0_r _ _ _
  have hS0c : S0.1 192 2 = σ.1 192 2 := by rw [hS0, x_S0_1 _ _ _ 192 2 (by omega)]
  refine v_aload_n C dXC_partFault_11 rfl rfl ?_
  refine v_iload_n C dXC_partFault_12 rfl rfl ?_
  refine v_bipush C dXC_partFault_13 (by decide +kernel) ?_
  refine v_cVI (k := 192) (n := 2) C (xE_ok _) hEz hR (kX_XC_tagged _ D cA ad hJ S0 x 120 (by omega) (by omega) fb fn hS0b hS0n hn0 hb9) dXC_partFault_15 (by show (192 : Nat) < 383; decide) rfl rfl gXC_41 (by decide +kernel) (by decide) (by decide) rfl (Nat.le_of_ble_eq_true rfl) rfl ⟨rfl, rfl⟩ (fun rv σv hpv => ?_)
  obtain ⟨y1, rfl, ⟨ht1, rfl, hy1⟩ | ⟨ht1, rfl⟩⟩ := hpv
  · have hy1e : y1 = q_eat fb fn x := hy1
    subst hy1e
    have htr := q_tg_r ht1 (by decide)
    refine v_istore_n C dXC_partFault_18 rfl (by decide) ?_
    refine v_iload_n C dXC_partFault_19 rfl rfl ?_
    refine v_iconst C dXC_partFault_20 ?_
    refine v_icmp_ne (tgt := 26) C dXC_partFault_21 (by decide) (by omega) (by omega) (fun hc1 => ?_) (fun hc1 => ?_)
    · refine v_aload_n C dXC_partFault_26 rfl rfl ?_
      refine v_aload_n C dXC_partFault_27 rfl rfl ?_
      refine v_iload_n C dXC_partFault_28 rfl rfl ?_
      refine v_cVI (k := 192) (n := 2) C (xE_ok _) hEz hR (kX_XC_rowsFault _ D cA ad hJ (x_nx S0 (q_eat fb fn x)) r hr hY0 hY1 hY2 hr2 (q_nr fb fn (x + 2)) (q_eat fb fn x) (by omega) fb fn hS0b hS0n hn0 hb9 (by omega) rfl (by unfold x_nx; rw [p1_1, if_neg (by omega), hS0r]; omega) (fun i => by show -2 ≤ S0.2 (r + 1) i ∧ S0.2 (r + 1) i ≤ 99999; rw [hS0, x_S0_p]; split; (· omega); (· exact hbp i))) dXC_partFault_29 (by show (192 : Nat) < 383; decide) rfl rfl gXC_63 (by decide +kernel) (by decide) (by decide) rfl (Nat.le_of_ble_eq_true rfl) rfl ⟨rfl, rfl⟩ (fun v1 S1 hr1 => ?_)
      have hq1 := q_rf_v hr1 (by omega)
      obtain ⟨hv1, hok1, -⟩ := hq1
      refine v_istore C dXC_partFault_32 (by decide) ?_
      refine v_iload C dXC_partFault_34 rfl ?_
      refine v_iconst C dXC_partFault_36 ?_
      refine v_icmp_eq (tgt := 43) C dXC_partFault_37 (by decide) (by omega) (by omega) (fun hc2 => ?_) (fun hc2 => ?_)
      · refine v_aload_n C dXC_partFault_43 rfl rfl ?_
        refine v_aload_n C dXC_partFault_44 rfl rfl ?_
        obtain ⟨hall, hS1e⟩ := hok1 (by omega)
        obtain ⟨P2, hP2⟩ : ∃ v, v = q_rat fb fn (q_eat fb fn x) (q_nr fb fn (x + 2)).toNat := ⟨_, rfl⟩
        have hnx : ∀ q, (x_nx S0 (q_eat fb fn x)).1 r q = S0.1 r q := fun q => by unfold x_nx; rw [p1_1, if_neg (by omega)]
        rw [hnx 2, hS0r] at hall
        have hP2r := (q_rat_r (x := x) (show 0 ≤ q_eat fb fn x ∧ q_eat fb fn x ≤ fn by omega) (q_nr fb fn (x + 2)).toNat (fun i hi => hall i (by omega))).1
        have hS1b : S1.2 9 = fb := by rw [hS1e]; show (x_rwF _ _ _ _ _ _).2 9 = _; rw [x_rwF_2 _ _ _ _ _ 9 (by omega)]; exact hS0b
        have hS1g : ∀ a b, ¬ (a = 192 ∧ b = 3) → S1.1 a b = S0.1 a b := fun a b g => by rw [hS1e]; unfold x_nx; rw [p1_1, if_neg g, x_rwF_1, p1_1, if_neg g]
        have hS1n : S1.1 8 1 = fn := by rw [hS1g 8 1 (by omega)]; exact hS0n
        have hS13 : S1.1 192 3 = P2 := by rw [hS1e, hP2]; rfl
        have hS1x : S1.1 r 2 = x := by rw [hS1g r 2 (by omega)]; exact hS0r
        have hS1c : S1.1 192 2 = σ.1 192 2 := by rw [hS1g 192 2 (by omega)]; exact hS0c
        rw [← hP2] at hP2r
        have hr1x : q_rf fb fn (x_nx (x_S0 σ r x) (q_eat fb fn x)) r (q_eat fb fn x) (q_nr fb fn (x + 2)) v1 S1 := by rw [← hS0]; exact hr1
        refine v_cVI (k := 192) (n := 1) C (xE_ok _) hEz hR (kX_XC_endFault _ D cA ad hJ S1 r hr hY0 hY1 hY2 hr2 P2 fb fn hS1b hS1n hn0 hb9 hP2r hS13 (by rw [hS1x]; omega) (by rw [hS1c]; exact hct)) dXC_partFault_45 (by show (192 : Nat) < 383; decide) rfl rfl gXC_66 (by decide +kernel) (by decide) (by decide) rfl (Nat.le_of_ble_eq_true rfl) rfl ⟨rfl, rfl⟩ (fun v2 S2 hr2e => ?_)
        have hv2 := (q_ef_v hr2e hP2r).1
        refine v_istore C dXC_partFault_48 (by decide) ?_
        refine v_iload C dXC_partFault_50 rfl ?_
        refine v_iconst C dXC_partFault_52 ?_
        refine v_icmp_eq (tgt := 59) C dXC_partFault_53 (by decide) (by omega) (by omega) (fun hc3 => ?_) (fun hc3 => ?_)
        · refine v_aload_n C dXC_partFault_59 rfl rfl ?_
          refine v_aload_n C dXC_partFault_60 rfl rfl ?_
          have hS2b : S2.2 9 = fb := by rw [hr2e.1.1]; exact hS1b
          have hS2n : S2.1 8 1 = fn := by rw [hr2e.1.2.1 8 1 (by omega) (by omega)]; exact hS1n
          have hS2x : S2.1 r 2 = x := by rw [hr2e.1.2.1 r 2 (by omega) (by omega)]; exact hS1x
          have hS2p : ∀ i, -2 ≤ S2.2 (r + 1) i ∧ S2.2 (r + 1) i ≤ 99999 := fun i => by rw [hr2e.1.1, hS1e]; exact x_rwF_r (x := x) (show 0 ≤ q_eat fb fn x ∧ q_eat fb fn x ≤ fn by omega) (fun i => by show -2 ≤ S0.2 (r + 1) i ∧ S0.2 (r + 1) i ≤ 99999; rw [hS0, x_S0_p]; split; (· omega); (· exact hbp i)) _ (fun i hi => hall i (by omega)) i
          have hS2l : ∀ i, -1 ≤ S2.2 (r + 2) i ∧ S2.2 (r + 2) i ≤ 120 := fun i => by rw [hr2e.1.1, hS1e]; show -1 ≤ (x_rwF _ _ _ _ _ _).2 (r + 2) i ∧ (x_rwF _ _ _ _ _ _).2 (r + 2) i ≤ 120; rw [x_rwF_2 _ _ _ _ _ (r + 2) (by omega)]; show -1 ≤ S0.2 (r + 2) i ∧ S0.2 (r + 2) i ≤ 120; rw [hS0, x_S0_l]; split; (· omega); (· exact hbl i)
          refine v_cVI (k := 192) (n := 1) C (xE_ok _) hEz hR (kX_XC_recordsFault _ D cA ad hJ S2 r hr hY0 hY1 hY2 hr2 fb fn hS2b hS2n hn0 hb9 (by rw [hS2x]; omega) hS2p hS2l) dXC_partFault_61 (by show (192 : Nat) < 383; decide) rfl rfl gXC_70 (by decide +kernel) (by decide) (by decide) rfl (Nat.le_of_ble_eq_true rfl) rfl ⟨rfl, rfl⟩ (fun v3 S3 hr3 => ?_)
          exact v_iret C hRt hLk dXC_partFault_64 (Or.inr ⟨ht1, v1, S1, hr1x, Or.inr ⟨by omega, v2, S2, by rw [← hP2]; exact hr2e, Or.inr ⟨by omega, hr3⟩⟩⟩)
        · refine v_iload C dXC_partFault_56 rfl ?_
          exact v_iret C hRt hLk dXC_partFault_58 (Or.inr ⟨ht1, v1, S1, hr1x, Or.inr ⟨by omega, v2, S2, by rw [← hP2]; exact hr2e, Or.inl ⟨by omega, rfl, rfl⟩⟩⟩)
      · refine v_iload C dXC_partFault_40 rfl ?_
        exact v_iret C hRt hLk dXC_partFault_42 (Or.inr ⟨ht1, v1, S1, by rw [← hS0]; exact hr1, Or.inl ⟨by omega, rfl, rfl⟩⟩)
    · refine v_iload_n C dXC_partFault_24 rfl rfl ?_
      exact v_iret C hRt hLk dXC_partFault_25 (by exfalso; omega)
  · refine v_istore_n C dXC_partFault_18 rfl (by decide) ?_
    refine v_iload_n C dXC_partFault_19 rfl rfl ?_
    refine v_iconst C dXC_partFault_20 ?_
    refine v_icmp_ne (tgt := 26) C dXC_partFault_21 (by decide) (by omega) (by omega) (fun hc4 => ?_) (fun hc4 => ?_)
    · exfalso; omega
    · refine v_iload_n C dXC_partFault_24 rfl rfl ?_
      exact v_iret C hRt hLk dXC_partFault_25 (Or.inl ⟨ht1, rfl, y1, by rw [hS0]⟩)
