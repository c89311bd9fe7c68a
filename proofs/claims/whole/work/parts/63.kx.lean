section
/-! a part -/
def x_S0 (σ : fS) (r : Nat) (x : Int) : fS := f_p1 (x_reset σ r (-2)) r 2 x
def x_pf (fb : Nat → Int) (fn : Int) (σ : fS) (r : Nat) (x v : Int) (σ1 : fS) : Prop :=
  (¬ q_tg fb fn x 120 ∧ v = x ∧ ∃ y, σ1 = x_nx (x_S0 σ r x) y) ∨ (q_tg fb fn x 120 ∧ ∃ (v1 : Int) (S1 : fS), q_rf fb fn (x_nx (x_S0 σ r x) (q_eat fb fn x)) r (q_eat fb fn x) (q_nr fb fn (x + 2)) v1 S1 ∧
   ((v1 ≠ -1 ∧ v = v1 ∧ σ1 = S1) ∨ (v1 = -1 ∧ ∃ (v2 : Int) (S2 : fS), q_ef fb fn S1 r (q_rat fb fn (q_eat fb fn x) (q_nr fb fn (x + 2)).toNat) v2 S2 ∧ ((v2 ≠ -1 ∧ v = v2 ∧ σ1 = S2) ∨ (v2 = -1 ∧ q_cf fb fn S2 r v σ1)))))
theorem x_S0_r (σ : fS) (r : Nat) (x : Int) : (x_S0 σ r x).1 r 2 = x := by unfold x_S0; rw [p1_1, if_pos ⟨rfl, rfl⟩]
theorem x_S0_1 (σ : fS) (r : Nat) (x : Int) (a b : Nat) (h : ¬ (a = r ∧ b = 2)) : (x_S0 σ r x).1 a b = σ.1 a b := by unfold x_S0; rw [p1_1, if_neg h]; rfl
theorem x_S0_2 (σ : fS) (r : Nat) (x : Int) (a : Nat) (h : a ≠ r + 1 ∧ a ≠ r + 2) : (x_S0 σ r x).2 a = σ.2 a := by funext b; exact x_reset_o _ _ _ _ _ h
theorem x_S0_p (σ : fS) (r : Nat) (x : Int) (b : Nat) : (x_S0 σ r x).2 (r + 1) b = if b < 41 then -2 else σ.2 (r + 1) b := by
  by_cases g : b < 41
  · rw [if_pos g]; exact x_reset_p _ _ _ _ g
  · rw [if_neg g]
    show (x_reset σ r (-2)).2 (r + 1) b = _
    unfold x_reset
    rw [x_fill_o _ _ _ _ _ _ _ (by omega)]
    show (f_pa _ (r + 1) _).2 (r + 1) b = _
    rw [pa_2, if_pos rfl, if_neg (by omega)]
theorem x_S0_l (σ : fS) (r : Nat) (x : Int) (b : Nat) : (x_S0 σ r x).2 (r + 2) b = if b < 41 then 0 else σ.2 (r + 2) b := by
  show (x_fill _ (r + 2) 0 41 0).2 (r + 2) b = _
  show (f_pa _ (r + 2) _).2 (r + 2) b = _
  rw [pa_2, if_pos rfl, x_fill_o _ _ _ _ _ _ _ (by omega)]
  by_cases g : b < 41
  · rw [if_pos (by omega), if_pos g]
  · rw [if_neg (by omega), if_neg g]
theorem q_tg_r {fb : Nat → Int} {fn p c : Int} (h : q_tg fb fn p c) (hc : c ≠ 256) : 0 ≤ p ∧ (p < q_eat fb fn p ∧ q_eat fb fn p ≤ fn) ∧ 0 ≤ q_nr fb fn (p + 2) ∧ q_nr fb fn (p + 2) ≤ 99999 := by
  obtain ⟨h1, h2, h3, h4⟩ := h
  have a := q_np_r fb fn (p + 2)
  have i1 := q_va_in (fb := fb) (fn := fn) (i := p) (by omega)
  have i2 := q_va_in (fb := fb) (fn := fn) (i := q_np fb fn (p + 2)) (by omega)
  have e : q_eat fb fn p = q_np fb fn (p + 2) + 1 := rfl
  exact ⟨by omega, by omega, by omega, by omega⟩
theorem q_rf_v {fb : Nat → Int} {fn p w v : Int} {σ σ1 : fS} {r : Nat} (h : q_rf fb fn σ r p w v σ1) (hp : 0 ≤ p ∧ p ≤ fn) : (-1 ≤ v ∧ v ≤ fn ∨ v = -1) ∧ (v = -1 → (∀ i : Nat, (i : Int) < w → q_rwi fb fn (σ.1 r 2) p i) ∧ σ1 = x_nx (x_rwF fb fn σ r p w.toNat) (q_rat fb fn p w.toNat)) ∧ (v ≠ -1 → x_scp σ r σ1) := by
  rcases h with ⟨j, h1, h2, h3, h4, h5⟩ | ⟨h1, h2, h3⟩
  · have a := (q_rat_r hp j h2).1
    exact ⟨by omega, fun g => by omega, fun _ => h5⟩
  · exact ⟨by omega, fun _ => ⟨h1, h3⟩, fun g => absurd h2 g⟩
theorem q_ef_v {fb : Nat → Int} {fn p v : Int} {σ σ1 : fS} {r : Nat} (h : q_ef fb fn σ r p v σ1) (hp : 0 ≤ p ∧ p ≤ fn) : (-1 ≤ v ∧ v ≤ fn ∨ v = -1) ∧ (v = -1 → q_okP fb fn (σ.1 r 2) (σ.1 192 2) p ∧ q_okE fb fn (σ.1 r 2) (q_eat fb fn p) ∧ σ1.1 192 4 = q_nr fb fn (p + 2) ∧ σ1.1 r 3 = q_eat fb fn (q_eat fb fn p)) := by
  obtain ⟨-, h⟩ := h
  rcases h with ⟨h1, h2⟩ | ⟨h1, ⟨h2, h3⟩ | ⟨h2, h3, h4, ⟨h5, h6, h7⟩ | ⟨h5, h6⟩⟩⟩
  · exact ⟨by omega, fun g => by omega⟩
  · have a := q_tg_r h1.1 (by decide)
    exact ⟨by omega, fun g => by omega⟩
  · have a := q_tg_r h2.1 (by decide)
    have b := q_tg_r h1.1 (by decide)
    exact ⟨by omega, fun g => by omega⟩
  · exact ⟨by omega, fun g => ⟨h1, h2, h3, h4⟩⟩
set_option maxRecDepth 100000 in
set_option maxHeartbeats 4000000 in
/-- partFault -/
theorem kX_XC_partFault (l : Launch) (D : va_G) (cA : Nat → ClassId) (ad : Nat → Nat) (hJ : f_J (xG D cA ad)) (σ : fS) (r : Nat) (hr : r + 2 < 383) (hY0 : xY r = .inl (4, 4, fXT r)) (hY1 : xY (r + 1) = .inr (.inl (0, 41))) (hY2 : xY (r + 2) = .inr (.inl (0, 41))) (hr2 : 193 < r) (x : Int) (fb : Nat → Int) (fn : Int) (hfb : σ.2 9 = fb) (hfn : σ.1 8 1 = fn) (hn0 : 0 ≤ fn ∧ fn ≤ 12000) (hb9 : ∀ i, -128 ≤ fb i ∧ fb i ≤ 127) (hx : 0 ≤ x ∧ x ≤ 11999) (hct : 0 ≤ σ.1 192 2 ∧ σ.1 192 2 ≤ 60) (hbp : ∀ i, -2 ≤ σ.2 (r + 1) i ∧ σ.2 (r + 1) i ≤ 99999) (hbl : ∀ i, -1 ≤ σ.2 (r + 2) i ∧ σ.2 (r + 2) i ≤ 120) : f_M l (xG D cA ad) (xE (xG D cA ad)) yXC_partFault (Cond.code yXC_partFault cXC_partFault 5 (some .int) :: A9) 4 σ [.ref (ad 192), .ref (ad (r)), .int (fI x)] (f_QI (fun v σ1 => x_pf fb fn σ r x v σ1) (xG D cA ad)) := by
  refine f_enter (by decide +kernel) hJ rfl (Nat.le_of_ble_eq_true rfl) ?_
  intro z hzl hR C hRt hLk hEz
  subst hzl
  have hRR : 4 ≤ z.2.2.2.1.frames ∧ 40 * 4 ≤ z.2.2.2.1.locals ∧ 0 ≤ z.2.2.2.1.cells ∧ 0 ≤ z.2.2.2.1.slots := by rw [hR]; exact ⟨Nat.le_refl _, Nat.le_refl _, Nat.zero_le _, Nat.zero_le _⟩
  refine v_aload_n C dXC_partFault_0 rfl rfl ?_
  refine v_bipush C dXC_partFault_1 (by decide +kernel) ?_
  refine v_cVV (k := r) (n := 1) C (xE_ok _) hEz hR (kX_XT_reset _ D cA ad hJ σ r hr hY0 hY1 hY2 (-2)) dXC_partFault_3 (by show (r : Nat) < 383; omega) (hY0) rfl gXC_56 (by decide +kernel) (by decide) (by decide) rfl (Nat.le_of_ble_eq_true rfl) rfl ⟨rfl, rfl⟩ (fun σ1 hp1 => ?_)
  subst σ1
  refine v_aload_n C dXC_partFault_6 rfl rfl ?_
  refine v_iload_n C dXC_partFault_7 rfl rfl ?_
  refine v_putI (k := r) (q := 2) C dXC_partFault_8 (by show (r : Nat) < 383; omega) (hY0) rfl (by decide) rfl inXT tyXT_ok nmXT lXC_60 rfl rfl rfl rfl rfl ?_
  obtain ⟨S0, hS0⟩ : ∃ s, s = x_S0 σ r x := ⟨_, rfl⟩
  refine v_st hS0.symm ?_
  have hS0b : S0.2 9 = fb := by rw [hS0, x_S0_2 _ _ _ 9 (by omega)]; exact hfb
  have hS0n : S0.1 8 1 = fn := by rw [hS0, x_S0_1 _ _ _ 8 1 (by omega)]; exact hfn
  have hS0r : S0.1 r 2 = x := by rw [hS0]; exact x_S0_r _ _ _
  have hS0c : S0.1 192 2 = σ.1 192 2 := by rw [hS0, x_S0_1 _ _ _ 192 2 (by omega)]
  refine v_aload_n C dXC_partFault_11 rfl rfl ?_
  refine v_iload_n C dXC_partFault_12 rfl rfl ?_
  refine v_bipush C dXC_partFault_13 (by decide +kernel) ?_
  refine v_cVI (k := 192) (n := 2) C (xE_ok _) hEz hR (kX_XC_tagged _ D cA ad hJ S0 x 120 (by omega) (by omega) fb fn hS0b hS0n hn0 hb9) dXC_partFault_15 (by show (192 : Nat) < 383; decide) rfl rfl gXC_41 (by decide +kernel) (by decide) (by decide) rfl (Nat.le_of_ble_eq_true rfl) rfl ⟨rfl, rfl⟩ (fun rv σv hpv => ?_)
  obtain ⟨y1, rfl, ⟨ht1, rfl, hy1⟩ | ⟨ht1, rfl⟩⟩ := hpv
  · have hy1e : y1 = q_eat fb fn x := hy1
    subst hy1e
    have htr := q_tg_r ht1 (by decide)
    refine v_istore_n C dXC_partFault_18 rfl (by decide) ?_
    refine v_iload_n C dXC_partFault_19 rfl rfl ?_
    refine v_iconst C dXC_partFault_20 ?_
    refine v_icmp_ne (tgt := 26) C dXC_partFault_21 (by decide) (by omega) (by omega) (fun hc1 => ?_) (fun hc1 => ?_)
    · refine v_aload_n C dXC_partFault_26 rfl rfl ?_
      refine v_aload_n C dXC_partFault_27 rfl rfl ?_
      refine v_iload_n C dXC_partFault_28 rfl rfl ?_
      refine v_cVI (k := 192) (n := 2) C (xE_ok _) hEz hR (kX_XC_rowsFault _ D cA ad hJ (x_nx S0 (q_eat fb fn x)) r hr hY0 hY1 hY2 hr2 (q_nr fb fn (x + 2)) (q_eat fb fn x) (by omega) fb fn hS0b hS0n hn0 hb9 (by omega) rfl (by unfold x_nx; rw [p1_1, if_neg (by omega), hS0r]; omega) (fun i => by show -2 ≤ S0.2 (r + 1) i ∧ S0.2 (r + 1) i ≤ 99999; rw [hS0, x_S0_p]; split; (· omega); (· exact hbp i))) dXC_partFault_29 (by show (192 : Nat) < 383; decide) rfl rfl gXC_63 (by decide +kernel) (by decide) (by decide) rfl (Nat.le_of_ble_eq_true rfl) rfl ⟨rfl, rfl⟩ (fun v1 S1 hr1 => ?_)
      have hq1 := q_rf_v hr1 (by omega)
      obtain ⟨hv1, hok1, -⟩ := hq1
      refine v_istore C dXC_partFault_32 (by decide) ?_
      refine v_iload C dXC_partFault_34 rfl ?_
      refine v_iconst C dXC_partFault_36 ?_
      refine v_icmp_eq (tgt := 43) C dXC_partFault_37 (by decide) (by omega) (by omega) (fun hc2 => ?_) (fun hc2 => ?_)
      · refine v_aload_n C dXC_partFault_43 rfl rfl ?_
        refine v_aload_n C dXC_partFault_44 rfl rfl ?_
        obtain ⟨hall, hS1e⟩ := hok1 (by omega)
        obtain ⟨P2, hP2⟩ : ∃ v, v = q_rat fb fn (q_eat fb fn x) (q_nr fb fn (x + 2)).toNat := ⟨_, rfl⟩
        have hnx : ∀ q, (x_nx S0 (q_eat fb fn x)).1 r q = S0.1 r q := fun q => by unfold x_nx; rw [p1_1, if_neg (by omega)]
        rw [hnx 2, hS0r] at hall
        have hP2r := (q_rat_r (x := x) (show 0 ≤ q_eat fb fn x ∧ q_eat fb fn x ≤ fn by omega) (q_nr fb fn (x + 2)).toNat (fun i hi => hall i (by omega))).1
        have hS1b : S1.2 9 = fb := by rw [hS1e]; show (x_rwF _ _ _ _ _ _).2 9 = _; rw [x_rwF_2 _ _ _ _ _ 9 (by omega)]; exact hS0b
        have hS1g : ∀ a b, ¬ (a = 192 ∧ b = 3) → S1.1 a b = S0.1 a b := fun a b g => by rw [hS1e]; unfold x_nx; rw [p1_1, if_neg g, x_rwF_1, p1_1, if_neg g]
        have hS1n : S1.1 8 1 = fn := by rw [hS1g 8 1 (by omega)]; exact hS0n
        have hS13 : S1.1 192 3 = P2 := by rw [hS1e, hP2]; rfl
        have hS1x : S1.1 r 2 = x := by rw [hS1g r 2 (by omega)]; exact hS0r
        have hS1c : S1.1 192 2 = σ.1 192 2 := by rw [hS1g 192 2 (by omega)]; exact hS0c
        rw [← hP2] at hP2r
        have hr1x : q_rf fb fn (x_nx (x_S0 σ r x) (q_eat fb fn x)) r (q_eat fb fn x) (q_nr fb fn (x + 2)) v1 S1 := by rw [← hS0]; exact hr1
        refine v_cVI (k := 192) (n := 1) C (xE_ok _) hEz hR (kX_XC_endFault _ D cA ad hJ S1 r hr hY0 hY1 hY2 hr2 P2 fb fn hS1b hS1n hn0 hb9 hP2r hS13 (by rw [hS1x]; omega) (by rw [hS1c]; exact hct)) dXC_partFault_45 (by show (192 : Nat) < 383; decide) rfl rfl gXC_66 (by decide +kernel) (by decide) (by decide) rfl (Nat.le_of_ble_eq_true rfl) rfl ⟨rfl, rfl⟩ (fun v2 S2 hr2e => ?_)
        have hv2 := (q_ef_v hr2e hP2r).1
        refine v_istore C dXC_partFault_48 (by decide) ?_
        refine v_iload C dXC_partFault_50 rfl ?_
        refine v_iconst C dXC_partFault_52 ?_
        refine v_icmp_eq (tgt := 59) C dXC_partFault_53 (by decide) (by omega) (by omega) (fun hc3 => ?_) (fun hc3 => ?_)
        · refine v_aload_n C dXC_partFault_59 rfl rfl ?_
          refine v_aload_n C dXC_partFault_60 rfl rfl ?_
          have hS2b : S2.2 9 = fb := by rw [hr2e.1.1]; exact hS1b
          have hS2n : S2.1 8 1 = fn := by rw [hr2e.1.2.1 8 1 (by omega) (by omega)]; exact hS1n
          have hS2x : S2.1 r 2 = x := by rw [hr2e.1.2.1 r 2 (by omega) (by omega)]; exact hS1x
          have hS2p : ∀ i, -2 ≤ S2.2 (r + 1) i ∧ S2.2 (r + 1) i ≤ 99999 := fun i => by rw [hr2e.1.1, hS1e]; exact x_rwF_r (x := x) (show 0 ≤ q_eat fb fn x ∧ q_eat fb fn x ≤ fn by omega) (fun i => by show -2 ≤ S0.2 (r + 1) i ∧ S0.2 (r + 1) i ≤ 99999; rw [hS0, x_S0_p]; split; (· omega); (· exact hbp i)) _ (fun i hi => hall i (by omega)) i
          have hS2l : ∀ i, -1 ≤ S2.2 (r + 2) i ∧ S2.2 (r + 2) i ≤ 120 := fun i => by rw [hr2e.1.1, hS1e]; show -1 ≤ (x_rwF _ _ _ _ _ _).2 (r + 2) i ∧ (x_rwF _ _ _ _ _ _).2 (r + 2) i ≤ 120; rw [x_rwF_2 _ _ _ _ _ (r + 2) (by omega)]; show -1 ≤ S0.2 (r + 2) i ∧ S0.2 (r + 2) i ≤ 120; rw [hS0, x_S0_l]; split; (· omega); (· exact hbl i)
          refine v_cVI (k := 192) (n := 1) C (xE_ok _) hEz hR (kX_XC_recordsFault _ D cA ad hJ S2 r hr hY0 hY1 hY2 hr2 fb fn hS2b hS2n hn0 hb9 (by rw [hS2x]; omega) hS2p hS2l) dXC_partFault_61 (by show (192 : Nat) < 383; decide) rfl rfl gXC_70 (by decide +kernel) (by decide) (by decide) rfl (Nat.le_of_ble_eq_true rfl) rfl ⟨rfl, rfl⟩ (fun v3 S3 hr3 => ?_)
          exact v_iret C hRt hLk dXC_partFault_64 (Or.inr ⟨ht1, v1, S1, hr1x, Or.inr ⟨by omega, v2, S2, by rw [← hP2]; exact hr2e, Or.inr ⟨by omega, hr3⟩⟩⟩)
        · refine v_iload C dXC_partFault_56 rfl ?_
          exact v_iret C hRt hLk dXC_partFault_58 (Or.inr ⟨ht1, v1, S1, hr1x, Or.inr ⟨by omega, v2, S2, by rw [← hP2]; exact hr2e, Or.inl ⟨by omega, rfl, rfl⟩⟩⟩)
      · refine v_iload C dXC_partFault_40 rfl ?_
        exact v_iret C hRt hLk dXC_partFault_42 (Or.inr ⟨ht1, v1, S1, by rw [← hS0]; exact hr1, Or.inl ⟨by omega, rfl, rfl⟩⟩)
    · refine v_iload_n C dXC_partFault_24 rfl rfl ?_
      exact v_iret C hRt hLk dXC_partFault_25 (by exfalso; omega)
  · refine v_istore_n C dXC_partFault_18 rfl (by decide) ?_
    refine v_iload_n C dXC_partFault_19 rfl rfl ?_
    refine v_iconst C dXC_partFault_20 ?_
    refine v_icmp_ne (tgt := 26) C dXC_partFault_21 (by decide) (by omega) (by omega) (fun hc4 => ?_) (fun hc4 => ?_)
    · exfalso; omega
    · refine v_iload_n C dXC_partFault_24 rfl rfl ?_
      exact v_iret C hRt hLk dXC_partFault_25 (Or.inl ⟨ht1, rfl, y1, by rw [hS0]⟩)
end
section
/-! what a part's reading leaves -/
theorem x_rlF_at (fb : Nat → Int) (fn : Int) (σ : fS) (r b : Nat) : ∀ k, (x_rlF fb fn σ r k).2 (r + 2) b = if (1 ≤ b ∧ b ≤ k) ∧ 0 ≤ σ.2 (r + 1) b then q_len fb fn (σ.2 (r + 1) b) else σ.2 (r + 2) b := by
  intro k
  induction k with
  | zero => rw [if_neg (by omega)]; rfl
  | succ k ih =>
    show (if 0 ≤ σ.2 (r + 1) (k + 1) then f_p2 (x_rlF fb fn σ r k) (r + 2) (k + 1) (q_len fb fn (σ.2 (r + 1) (k + 1))) else x_rlF fb fn σ r k : fS).2 (r + 2) b = _
    by_cases hb : b = k + 1
    · subst hb
      by_cases g : 0 ≤ σ.2 (r + 1) (k + 1)
      · rw [if_pos g, p2_2, if_pos ⟨rfl, rfl⟩, if_pos ⟨by omega, g⟩]
      · rw [if_neg g, ih, if_neg (by omega), if_neg (by omega)]
    · have e : (if 0 ≤ σ.2 (r + 1) (k + 1) then f_p2 (x_rlF fb fn σ r k) (r + 2) (k + 1) (q_len fb fn (σ.2 (r + 1) (k + 1))) else x_rlF fb fn σ r k : fS).2 (r + 2) b = (x_rlF fb fn σ r k).2 (r + 2) b := by
        split
        · rw [p2_2, if_neg (by omega)]
        · rfl
      rw [e, ih]
      by_cases g : (1 ≤ b ∧ b ≤ k) ∧ 0 ≤ σ.2 (r + 1) b
      · rw [if_pos g, if_pos ⟨by omega, g.2⟩]
      · rw [if_neg g, if_neg (by omega)]
/-- every told row has a length -/
def x_good (σ : fS) (r : Nat) : Prop := ∀ b, 1 ≤ b → b < 41 → σ.2 (r + 1) b ≠ -2 → 0 ≤ σ.2 (r + 2) b ∧ σ.2 (r + 2) b ≤ 120
def x_frP (σ : fS) (r : Nat) (σ1 : fS) : Prop := (∀ a, a ≠ r + 1 → a ≠ r + 2 → σ1.2 a = σ.2 a) ∧ (∀ a b, ¬ (a = 192 ∧ (b = 3 ∨ b = 4)) → ¬ (a = r ∧ (b = 2 ∨ b = 3)) → σ1.1 a b = σ.1 a b)
def x_scP (σ : fS) (r : Nat) (σ1 : fS) : Prop := x_frP σ r σ1 ∧ (∀ i, -2 ≤ σ1.2 (r + 1) i ∧ σ1.2 (r + 1) i ≤ 99999) ∧ (∀ i, -1 ≤ σ1.2 (r + 2) i ∧ σ1.2 (r + 2) i ≤ 120) ∧ (0 ≤ σ1.1 r 2 ∧ σ1.1 r 2 ≤ 12000) ∧ (0 ≤ σ1.1 r 3 ∧ σ1.1 r 3 ≤ 12000)
theorem x_scP_I {σ σ1 : fS} {i : Nat} (hi : i < 60) (h : x_I σ) (hs : x_scP σ (194 + 3 * i) σ1) : x_I σ1 := by
  obtain ⟨⟨f2, f1⟩, hp, hl, hx, he⟩ := hs
  refine x_I_fr h (fun a b => ?_) (fun a b => ?_)
  · by_cases g1 : a = 192
    · right; rw [g1]; exact x_okF_n _ _ _ (by omega)
    · by_cases g2 : a = 194 + 3 * i ∧ (b = 2 ∨ b = 3)
      · right
        obtain ⟨rfl, rfl | rfl⟩ := g2
        · exact (x_okF_c i hi 2 (Or.inl rfl) _).mpr hx
        · exact (x_okF_c i hi 3 (Or.inr rfl) _).mpr he
      · left; exact f1 a b (by omega) g2
  · by_cases g1 : a = 194 + 3 * i + 1
    · right; rw [g1]; exact (x_okA_cp i hi _).mpr (hp b)
    · by_cases g2 : a = 194 + 3 * i + 2
      · right; rw [g2]; exact (x_okA_cl i hi _).mpr (hl b)
      · left; rw [f2 a g1 g2]
theorem x_frP_tr {σ τ υ : fS} {r : Nat} (h1 : x_frP σ r τ) (h2 : x_frP τ r υ) : x_frP σ r υ := ⟨fun a g1 g2 => (h2.1 a g1 g2).trans (h1.1 a g1 g2), fun a b g1 g2 => (h2.2 a b g1 g2).trans (h1.2 a b g1 g2)⟩
theorem x_frP_nx (σ : fS) (r : Nat) (y : Int) : x_frP σ r (x_nx σ y) := ⟨fun _ _ _ => rfl, fun a b g _ => by unfold x_nx; rw [p1_1, if_neg (by omega)]⟩
theorem x_frP_S0 (σ : fS) (r : Nat) (x : Int) : x_frP σ r (x_S0 σ r x) := ⟨fun a g1 g2 => x_S0_2 _ _ _ a ⟨g1, g2⟩, fun a b _ g => x_S0_1 _ _ _ _ _ (by omega)⟩
theorem x_frP_ef {fb : Nat → Int} {fn p v : Int} {σ σ1 : fS} {r : Nat} (h : q_ef fb fn σ r p v σ1) : x_frP σ r σ1 := ⟨fun a _ _ => by rw [h.1.1], fun a b g1 g2 => h.1.2.1 a b g1 (by omega)⟩
theorem x_pf_I {fb : Nat → Int} {fn x v : Int} {σ σ1 : fS} {i : Nat} (hi : i < 60) (h : x_I σ) (hfn : 0 ≤ fn ∧ fn ≤ 12000) (hx : 0 ≤ x ∧ x ≤ 11999) (hp : x_pf fb fn σ (194 + 3 * i) x v σ1) : x_frP σ (194 + 3 * i) σ1 ∧ x_I σ1 ∧ (-1 ≤ v ∧ v ≤ 99999) ∧ (v = -1 → (0 ≤ σ1.1 192 4 ∧ σ1.1 192 4 < x) ∧ x_good σ1 (194 + 3 * i)) := by
  obtain ⟨r, hr⟩ : ∃ r, r = 194 + 3 * i := ⟨_, rfl⟩
  have hbp : ∀ j, -2 ≤ σ.2 (r + 1) j ∧ σ.2 (r + 1) j ≤ 99999 := fun j => by rw [hr]; exact (x_okA_cp i hi _).mp (h.2 _ _)
  have hbl : ∀ j, -1 ≤ σ.2 (r + 2) j ∧ σ.2 (r + 2) j ≤ 120 := fun j => by rw [hr]; exact (x_okA_cl i hi _).mp (h.2 _ _)
  have hbe : 0 ≤ σ.1 r 3 ∧ σ.1 r 3 ≤ 12000 := by rw [hr]; exact (x_okF_c i hi 3 (Or.inr rfl) _).mp (h.1 _ _)
  have key : x_scP σ r σ1 ∧ (-1 ≤ v ∧ v ≤ 99999) ∧ (v = -1 → (0 ≤ σ1.1 192 4 ∧ σ1.1 192 4 < x) ∧ x_good σ1 r) := by
    rw [← hr] at hp
    have s0p : ∀ j, -2 ≤ (x_S0 σ r x).2 (r + 1) j ∧ (x_S0 σ r x).2 (r + 1) j ≤ 99999 := fun j => by
      rw [x_S0_p]; split
      · omega
      · exact hbp j
    have s0l : ∀ j, -1 ≤ (x_S0 σ r x).2 (r + 2) j ∧ (x_S0 σ r x).2 (r + 2) j ≤ 120 := fun j => by
      rw [x_S0_l]; split
      · omega
      · exact hbl j
    have s0r := x_S0_r σ r x
    have s0e : (x_S0 σ r x).1 r 3 = σ.1 r 3 := x_S0_1 _ _ _ _ _ (by omega)
    obtain ⟨S0, hS0⟩ : ∃ s, s = x_S0 σ r x := ⟨_, rfl⟩
    have f0 : x_frP σ r S0 := by rw [hS0]; exact x_frP_S0 _ _ _
    unfold x_pf at hp
    rw [← hS0] at hp s0p s0l s0r s0e
    have nr : ∀ (y : Int) (S : fS) (q : Nat), (x_nx S y).1 r q = S.1 r q := fun y S q => by unfold x_nx; rw [p1_1, if_neg (by omega)]
    rcases hp with ⟨ht, hv, y, rfl⟩ | ⟨ht, v1, S1, h1, hp⟩
    · refine ⟨⟨x_frP_tr f0 (x_frP_nx _ _ _), s0p, s0l, by rw [nr, s0r]; omega, by rw [nr, s0e]; exact hbe⟩, by omega, fun g => by omega⟩
    · have htr := q_tg_r ht (by decide)
      have hPr : 0 ≤ q_eat fb fn x ∧ q_eat fb fn x ≤ fn := by omega
      obtain ⟨hv1, hok, hbad⟩ := q_rf_v h1 hPr
      rcases hp with ⟨hv1n, hv, rfl⟩ | ⟨hv1n, v2, S2, h2, hp⟩
      · obtain ⟨b1, b2, b3⟩ := hbad hv1n
        have f1 : x_frP (x_nx S0 (q_eat fb fn x)) r σ1 := ⟨fun a g1 g2 => b2 a g1, fun a b g1 g2 => b1 a b (by omega)⟩
        refine ⟨⟨x_frP_tr f0 (x_frP_tr (x_frP_nx _ _ _) f1), b3, fun j => by rw [b2 (r + 2) (by omega)]; exact s0l j, by rw [b1 r 2 (by omega), nr, s0r]; omega, by rw [b1 r 3 (by omega), nr, s0e]; exact hbe⟩, by omega, fun g => by omega⟩
      · obtain ⟨hall, hS1⟩ := hok hv1n
        rw [nr, s0r] at hall
        have hP2 := (q_rat_r (x := x) hPr (q_nr fb fn (x + 2)).toNat (fun i hi => hall i (by omega))).1
        obtain ⟨hv2, hok2⟩ := q_ef_v h2 hP2
        have g1 : ∀ a b, ¬ (a = 192 ∧ b = 3) → S1.1 a b = S0.1 a b := fun a b g => by rw [hS1]; unfold x_nx; rw [p1_1, if_neg g, x_rwF_1, p1_1, if_neg g]
        have g2 : ∀ a, a ≠ r + 1 → S1.2 a = S0.2 a := fun a g => by rw [hS1]; show (x_rwF _ _ _ _ _ _).2 a = _; rw [x_rwF_2 _ _ _ _ _ a g]; rfl
        have g3 : ∀ j, -2 ≤ S1.2 (r + 1) j ∧ S1.2 (r + 1) j ≤ 99999 := fun j => by rw [hS1]; exact x_rwF_r (x := x) (σ := x_nx S0 (q_eat fb fn x)) hPr s0p (q_nr fb fn (x + 2)).toNat (fun i hi => hall i (by omega)) j
        have f1 : x_frP S0 r S1 := ⟨fun a k1 k2 => g2 a k1, fun a b k1 k2 => g1 a b (by omega)⟩
        have f2 := x_frP_ef h2
        have x1 : S1.1 r 2 = x := by rw [g1 r 2 (by omega)]; exact s0r
        have x2 : S2.1 r 2 = x := by rw [h2.1.2.1 r 2 (by omega) (by omega)]; exact x1
        have e2 : 0 ≤ S2.1 r 3 ∧ S2.1 r 3 ≤ 12000 := by
          rcases h2.1.2.2 with e | e
          · rw [e, g1 r 3 (by omega), s0e]; exact hbe
          · omega
        have p2 : ∀ j, -2 ≤ S2.2 (r + 1) j ∧ S2.2 (r + 1) j ≤ 99999 := fun j => by rw [h2.1.1]; exact g3 j
        have l2 : ∀ j, -1 ≤ S2.2 (r + 2) j ∧ S2.2 (r + 2) j ≤ 120 := fun j => by rw [h2.1.1, g2 (r + 2) (by omega)]; exact s0l j
        rcases hp with ⟨hv2n, hv, rfl⟩ | ⟨hv2n, hc⟩
        · exact ⟨⟨x_frP_tr f0 (x_frP_tr f1 f2), p2, l2, by omega, e2⟩, by omega, fun g => by omega⟩
        · rcases hc with ⟨j, j1, j2, j3, j4, b1, b2, b3⟩ | ⟨j1, j2, y, rfl⟩
          · have f3 : x_frP S2 r σ1 := ⟨fun a k1 k2 => b2 a k2, fun a b k1 k2 => b1 a b (by omega)⟩
            have hj : 0 ≤ S2.2 (r + 1) (j + 1) := by
              by_cases g : 0 ≤ S2.2 (r + 1) (j + 1)
              · exact g
              · exact absurd (fun q => absurd q g) j3
            have := p2 (j + 1)
            exact ⟨⟨x_frP_tr f0 (x_frP_tr f1 (x_frP_tr f2 f3)), fun q => by rw [b2 (r + 1) (by omega)]; exact p2 q, b3, by rw [b1 r 2 (by omega)]; omega, by rw [b1 r 3 (by omega)]; exact e2⟩, by omega, fun g => by omega⟩
          · have b1 : ∀ a b, ¬ (a = 192 ∧ b = 3) → (x_nx (x_rlF fb fn S2 r 40) y).1 a b = S2.1 a b := fun a b g => by unfold x_nx; rw [p1_1, if_neg g, x_rlF_1]
            have b2 : ∀ a, a ≠ r + 2 → (x_nx (x_rlF fb fn S2 r 40) y).2 a = S2.2 a := fun a g => x_rlF_2 fb fn S2 r a g 40
            have f3 : x_frP S2 r (x_nx (x_rlF fb fn S2 r 40) y) := ⟨fun a k1 k2 => b2 a k2, fun a b k1 k2 => b1 a b (by omega)⟩
            obtain ⟨k1, k2, k3, k4⟩ := hok2 hv2n
            have k5 := q_tg_r k1.1 (by decide)
            have k6 := k1.2.1
            refine ⟨⟨x_frP_tr f0 (x_frP_tr f1 (x_frP_tr f2 f3)), fun q => by rw [b2 (r + 1) (by omega)]; exact p2 q, fun q => x_rlF_r l2 40 j1 q, by rw [b1 r 2 (by omega)]; omega, by rw [b1 r 3 (by omega)]; exact e2⟩, by omega, fun _ => ⟨?_, fun b hb1 hb2 hb3 => ?_⟩⟩
            · rw [b1 192 4 (by omega), k3]; omega
            · rw [b2 (r + 1) (by omega)] at hb3
              show 0 ≤ (x_rlF fb fn S2 r 40).2 (r + 2) b ∧ (x_rlF fb fn S2 r 40).2 (r + 2) b ≤ 120
              rw [x_rlF_at]
              by_cases g : (1 ≤ b ∧ b ≤ 40) ∧ 0 ≤ S2.2 (r + 1) b
              · rw [if_pos g]
                have := j1 (b - 1) (by omega)
                unfold q_rci at this
                rw [show b - 1 + 1 = b by omega] at this
                exact (q_rec_r (this g.2)).1
              · rw [if_neg g, h2.1.1, g2 (r + 2) (by omega), hS0, x_S0_l, if_pos hb2]
                omega
  rw [← hr]
  refine ⟨key.1.1, ?_, key.2⟩
  have := key.1
  rw [hr] at this
  exact x_scP_I hi h this
end
section
/-! the whole file -/
/-- j parts were read without a fault: the state, and where the next part's x is -/
def x_ffc (fb : Nat → Int) (fn : Int) (σ0 : fS) (x0 : Int) : Nat → fS → Int → Prop
  | 0, S, x => S = σ0 ∧ x = x0
  | j + 1, S, x => ∃ (S1 : fS) (x1 : Int) (S2 : fS), x_ffc fb fn σ0 x0 j S1 x1 ∧ x_pf fb fn S1 (194 + 3 * j) x1 (-1) S2 ∧ S2.1 192 4 ≠ 0 ∧ x = S2.1 192 4 ∧ S = f_p1 S2 192 2 ((j : Int) + 1)
def q_lst (fb : Nat → Int) (fn : Int) : Int := q_ll fb fn (fn - 1).toNat (fn - 1)
def q_okL (fb : Nat → Int) (fn : Int) : Prop := q_tg fb fn (q_lst fb fn) 101 ∧ q_nr fb fn (q_lst fb fn + 2) < q_lst fb fn
def x_ff (fb : Nat → Int) (fn : Int) (σ : fS) (v : Int) (σ1 : fS) : Prop :=
  (¬ q_fl fb fn ∧ v = 0 ∧ σ1 = f_p1 σ 192 2 0) ∨ (q_fl fb fn ∧ ((q_va fb fn (fn - 1) ≠ 10 ∧ v = fn ∧ σ1 = f_p1 σ 192 2 0) ∨ (q_va fb fn (fn - 1) = 10 ∧ ∃ y : Int,
   ((¬ q_okL fb fn ∧ v = q_lst fb fn ∧ σ1 = x_nx (f_p1 σ 192 2 0) y) ∨ (q_okL fb fn ∧ ∃ (j : Nat) (S : fS) (x : Int), j ≤ 59 ∧ x_ffc fb fn (x_nx (f_p1 σ 192 2 0) y) (q_nr fb fn (q_lst fb fn + 2)) j S x ∧
     ((v ≠ -1 ∧ x_pf fb fn S (194 + 3 * j) x v σ1) ∨ (v = -1 ∧ ∃ S2 : fS, x_pf fb fn S (194 + 3 * j) x (-1) S2 ∧ (S2.1 192 4 = 0 ∨ j = 59) ∧ σ1 = f_p1 S2 192 2 ((j : Int) + 1)))))))) 
/-- only the scan's own numbers differ -/
def x_frC (σ σ1 : fS) : Prop := (∀ a, ¬ (194 ≤ a ∧ a < 374) → σ1.2 a = σ.2 a) ∧ ∀ a b, a ≠ 192 → ¬ (194 ≤ a ∧ a < 374) → σ1.1 a b = σ.1 a b
theorem x_frC_rf (σ : fS) : x_frC σ σ := ⟨fun _ _ => rfl, fun _ _ _ _ => rfl⟩
theorem x_frC_tr {σ τ υ : fS} (h1 : x_frC σ τ) (h2 : x_frC τ υ) : x_frC σ υ := ⟨fun a g => (h2.1 a g).trans (h1.1 a g), fun a b g1 g2 => (h2.2 a b g1 g2).trans (h1.2 a b g1 g2)⟩
theorem x_frC_1 (σ : fS) (q : Nat) (v : Int) : x_frC σ (f_p1 σ 192 q v) := ⟨fun _ _ => rfl, fun a b g _ => by rw [p1_1, if_neg (by omega)]⟩
theorem x_frC_P {σ σ1 : fS} {i : Nat} (hi : i < 60) (h : x_frP σ (194 + 3 * i) σ1) : x_frC σ σ1 := ⟨fun a g => h.1 a (by omega) (by omega), fun a b g1 g2 => h.2 a b (by omega) (by omega)⟩
theorem x_I_192 {σ : fS} (h : x_I σ) (q : Nat) (v : Int) : x_I (f_p1 σ 192 q v) := x_I_p1 h (x_okF_n _ _ _ (by omega))
theorem x_good_P {σ σ1 : fS} {i t : Nat} (h : x_frP σ (194 + 3 * i) σ1) (ht : t ≠ i) (hg : x_good σ (194 + 3 * t)) : x_good σ1 (194 + 3 * t) := by
  intro b h1 h2 h3
  rw [h.1 (194 + 3 * t + 1) (by omega) (by omega)] at h3
  rw [h.1 (194 + 3 * t + 2) (by omega) (by omega)]
  exact hg b h1 h2 h3
theorem x_ffc_I {fb : Nat → Int} {fn x0 : Int} {σ0 : fS} (hfn : 0 ≤ fn ∧ fn ≤ 12000) (hI : x_I σ0) (hc : σ0.1 192 2 = 0) (hx0 : 0 ≤ x0 ∧ x0 ≤ 11999) : ∀ (j : Nat) (S : fS) (x : Int), j ≤ 60 → x_ffc fb fn σ0 x0 j S x → x_I S ∧ x_frC σ0 S ∧ S.1 192 2 = (j : Int) ∧ (0 ≤ x ∧ x ≤ 11999) ∧ ∀ t, t < j → x_good S (194 + 3 * t) := by
  intro j
  induction j with
  | zero =>
    intro S x _ h
    obtain ⟨rfl, rfl⟩ := h
    exact ⟨hI, x_frC_rf _, hc, hx0, fun t ht => absurd ht (by omega)⟩
  | succ j ih =>
    intro S x hj h
    obtain ⟨S1, x1, S2, h1, h2, h3, rfl, rfl⟩ := h
    obtain ⟨i1, i2, i3, i4, i5⟩ := ih S1 x1 (by omega) h1
    obtain ⟨p1, p2, p3, p4⟩ := x_pf_I (by omega) i1 hfn i4 h2
    obtain ⟨p5, p6⟩ := p4 rfl
    refine ⟨x_I_192 p2 _ _, x_frC_tr i2 (x_frC_tr (x_frC_P (by omega) p1) (x_frC_1 _ _ _)), ?_, by omega, fun t ht => ?_⟩
    · rw [p1_1, if_pos ⟨rfl, rfl⟩]; push_cast; rfl
    · by_cases g : t = j
      · rw [g]; exact p6
      · exact (show x_good S2 (194 + 3 * t) from x_good_P (σ := S1) p1 g (i5 t (by omega)))
theorem q_fl_r {fb : Nat → Int} {fn : Int} (h : q_fl fb fn) : 4 ≤ fn := by
  have := q_va_in (fb := fb) (fn := fn) (i := 3) (by rw [h.2.2.2]; decide)
  omega
theorem q_lst_r {fb : Nat → Int} {fn : Int} (h : 1 ≤ fn) : 0 ≤ q_lst fb fn ∧ q_lst fb fn ≤ fn - 1 := by
  have := q_ll_r fb fn (fn - 1).toNat (fn - 1)
  unfold q_lst
  omega
theorem x_ff_I {fb : Nat → Int} {fn v : Int} {σ σ1 : fS} (hfn : 0 ≤ fn ∧ fn ≤ 12000) (hI : x_I σ) (h : x_ff fb fn σ v σ1) : x_I σ1 ∧ x_frC σ σ1 ∧ (-1 ≤ v ∧ v ≤ 99999) ∧ (v = -1 → ∃ c : Nat, σ1.1 192 2 = (c : Int) ∧ 1 ≤ c ∧ c ≤ 60 ∧ ∀ t, t < c → x_good σ1 (194 + 3 * t)) := by
  rcases h with ⟨-, h1, rfl⟩ | ⟨hf, ⟨-, h1, rfl⟩ | ⟨-, y, ⟨-, h1, rfl⟩ | ⟨hL, j, S, x, hj, hc, h⟩⟩⟩
  · exact ⟨x_I_192 hI _ _, x_frC_1 _ _ _, by omega, fun g => by omega⟩
  · exact ⟨x_I_192 hI _ _, x_frC_1 _ _ _, by omega, fun g => by omega⟩
  · have := q_lst_r (fb := fb) (fn := fn) (by have := q_fl_r hf; omega)
    exact ⟨x_I_192 (x_I_192 hI _ _) _ _, x_frC_tr (x_frC_1 _ _ _) (x_frC_1 _ _ _), by omega, fun g => by omega⟩
  · have h4 := q_fl_r hf
    have hl := q_lst_r (fb := fb) (fn := fn) (by omega)
    have ht := q_tg_r hL.1 (by decide)
    obtain ⟨i1, i2, i3, i4, i5⟩ := x_ffc_I hfn (x_I_192 (x_I_192 hI _ _) _ _) rfl (by have := hL.2; omega) j S x (by omega) hc
    have fr : x_frC σ S := x_frC_tr (x_frC_tr (x_frC_1 _ _ _) (x_frC_1 _ _ _)) i2
    rcases h with ⟨hv, hp⟩ | ⟨hv, S2, hp, hb, rfl⟩
    · obtain ⟨p1, p2, p3, p4⟩ := x_pf_I (by omega) i1 hfn i4 hp
      exact ⟨p2, x_frC_tr fr (x_frC_P (by omega) p1), p3, fun g => absurd g hv⟩
    · obtain ⟨p1, p2, p3, p4⟩ := x_pf_I (by omega) i1 hfn i4 hp
      refine ⟨x_I_192 p2 _ _, x_frC_tr fr (x_frC_tr (x_frC_P (by omega) p1) (x_frC_1 _ _ _)), by omega, fun _ => ⟨j + 1, ?_, by omega, by omega, fun t ht => ?_⟩⟩
      · rw [p1_1, if_pos ⟨rfl, rfl⟩]; push_cast; rfl
      · by_cases g : t = j
        · rw [g]; exact (p4 rfl).2
        · exact (show x_good S2 (194 + 3 * t) from x_good_P (σ := S) p1 g (i5 t (by omega)))
set_option maxRecDepth 100000 in
set_option maxHeartbeats 4000000 in
/-- findFault -/
theorem kX_XC_findFault (l : Launch) (D : va_G) (cA : Nat → ClassId) (ad : Nat → Nat) (hJ : f_J (xG D cA ad)) (σ : fS) (fb : Nat → Int) (fn : Int) (hfb : σ.2 9 = fb) (hfn : σ.1 8 1 = fn) (hn0 : 0 ≤ fn ∧ fn ≤ 12000) (hb9 : ∀ i, -128 ≤ fb i ∧ fb i ≤ 127) (hI : x_I σ) : f_M l (xG D cA ad) (xE (xG D cA ad)) yXC_findFault (Cond.code yXC_findFault cXC_findFault 5 (some .int) :: A9) 5 σ [.ref (ad 192)] (f_QI (fun v σ1 => x_ff fb fn σ v σ1) (xG D cA ad)) := by
  refine f_enter (by decide +kernel) hJ rfl (Nat.le_of_ble_eq_true rfl) ?_
  intro z hzl hR C hRt hLk hEz
  subst hzl
  have hRR : 5 ≤ z.2.2.2.1.frames ∧ 40 * 5 ≤ z.2.2.2.1.locals ∧ 0 ≤ z.2.2.2.1.cells ∧ 0 ≤ z.2.2.2.1.slots := by rw [hR]; exact ⟨Nat.le_refl _, Nat.le_refl _, Nat.zero_le _, Nat.zero_le _⟩
  have L : ∀ y : Int, q_fl fb fn → q_va fb fn (fn - 1) = 10 → q_okL fb fn → ∀ (m j : Nat), m + j = 60 → m ≠ 0 → ∀ (S : fS) (x : Int), x_ffc fb fn (x_nx (f_p1 σ 192 2 0) y) (q_nr fb fn (q_lst fb fn + 2)) j S x → ∀ o4 : Option Value, fv z (xG D cA ad) 5 (f_R z (xG D cA ad) (f_QI (fun v σ1 => x_ff fb fn σ v σ1) (xG D cA ad))) 0 0 S 70 [some (.ref (ad 192)), some (.int (fI (q_lst fb fn))), some (.int (fI x)), some (.int (fI (j : Int))), o4] [] := by
    intro y hfl h10 hok m
    have hf4 := q_fl_r hfl
    have hlr := q_lst_r (fb := fb) (fn := fn) (by omega)
    have htr := q_tg_r hok.1 (by decide)
    have hx2 := hok.2
    induction m with
    | zero => intro j _ h0; exact absurd rfl h0
    | succ m ih =>
      intro j hj _ S x hc o4
      obtain ⟨i1, i2, i3, i4, i5⟩ := x_ffc_I hn0 (x_I_192 (x_I_192 hI _ _) _ _) rfl (by omega) j S x (by omega) hc
      have hSb : S.2 9 = fb := by rw [i2.1 9 (by omega)]; exact hfb
      have hSn : S.1 8 1 = fn := by rw [i2.2 8 1 (by omega) (by omega)]; exact hfn
      refine v_iload_n C dXC_findFault_70 rfl rfl ?_
      refine v_bipush C dXC_findFault_71 (by decide +kernel) ?_
      refine v_icmp_ge (tgt := 126) C dXC_findFault_73 (by decide) (by omega) (by omega) (fun hc1 => ?_) (fun hc1 => ?_)
      · exfalso; omega
      · refine v_aload_n C dXC_findFault_76 rfl rfl ?_
        refine v_aload_n C dXC_findFault_77 rfl rfl ?_
        refine v_getR (k := 192) (q := 1) C dXC_findFault_78 (by show (192 : Nat) < 383; decide) rfl rfl (by decide) rfl inXC lXC_11 rfl ?_
        refine v_iload_n C dXC_findFault_81 rfl rfl ?_
        refine v_aald (k := 193) C dXC_findFault_82 (by show (193 : Nat) < 383; decide) rfl rfl (by omega) (by decide) ?_
        refine v_iload_n C dXC_findFault_83 rfl rfl ?_
        refine v_cVI (k := 192) (n := 2) C (xE_ok _) hEz hR (kX_XC_partFault _ D cA ad hJ S (194 + 3 * j) (by omega) (xY_c0 j (by omega)) (xY_c1 j (by omega)) (xY_c2 j (by omega)) (by omega) x fb fn hSb hSn hn0 hb9 i4 (by omega) (fun q => (x_okA_cp j (by omega) _).mp (i1.2 _ _)) (fun q => (x_okA_cl j (by omega) _).mp (i1.2 _ _))) dXC_findFault_84 (by show (192 : Nat) < 383; decide) rfl rfl gXC_45 (by decide +kernel) (by decide) (by decide) rfl (Nat.le_of_ble_eq_true rfl) rfl ⟨rfl, rfl⟩ (fun rp S2 hp2 => ?_)
        obtain ⟨p1, p2, p3, p4⟩ := x_pf_I (by omega) i1 hn0 i4 hp2
        have hS2c : S2.1 192 2 = (j : Int) := by rw [p1.2 192 2 (by omega) (by omega)]; exact i3
        refine v_istore C dXC_findFault_87 (by decide) ?_
        refine v_iload C dXC_findFault_89 rfl ?_
        refine v_iconst C dXC_findFault_91 ?_
        refine v_icmp_eq (tgt := 98) C dXC_findFault_92 (by decide) (by omega) (by omega) (fun hc2 => ?_) (fun hc2 => ?_)
        · refine v_aload_n C dXC_findFault_98 rfl rfl ?_
          refine v_dup C dXC_findFault_99 rfl ?_
          refine v_getI (k := 192) (q := 2) (v := (j : Int)) C dXC_findFault_100 (by show (192 : Nat) < 383; decide) rfl rfl (by decide) rfl inXC lXC_22 rfl hS2c ?_
          refine v_iconst C dXC_findFault_103 ?_
          refine v_iadd C dXC_findFault_104 ?_
          refine v_putI (k := 192) (q := 2) C dXC_findFault_105 (by show (192 : Nat) < 383; decide) rfl rfl (by decide) rfl inXC tyXC_ok nmXC lXC_22 rfl rfl rfl rfl rfl ?_
          obtain ⟨S3, hS3⟩ : ∃ s, s = f_p1 S2 192 2 ((j : Int) + 1) := ⟨_, rfl⟩
          refine v_st hS3.symm ?_
          have h34 : S3.1 192 4 = S2.1 192 4 := by rw [hS3]; rfl
          have hp5 := p4 (by omega)
          refine v_aload_n C dXC_findFault_108 rfl rfl ?_
          refine v_getI (k := 192) (q := 4) (v := S3.1 192 4) C dXC_findFault_109 (by show (192 : Nat) < 383; decide) rfl rfl (by decide) rfl inXC lXC_49 rfl rfl ?_
          refine v_istore_n C dXC_findFault_112 rfl (by decide) ?_
          refine v_iload_n C dXC_findFault_113 rfl rfl ?_
          refine v_if_ne (tgt := 120) C dXC_findFault_114 (by decide) (by omega) (fun hc3 => ?_) (fun hc3 => ?_)
          · by_cases hm : m = 0
            · obtain rfl : j = 59 := by omega
              refine v_iinc C dXC_findFault_120 rfl (by decide) ?_
              refine v_goto (tgt := 70) C dXC_findFault_123 (by decide) ?_
              refine v_iload_n C dXC_findFault_70 rfl rfl ?_
              refine v_bipush C dXC_findFault_71 (by decide +kernel) ?_
              refine v_icmp_ge (tgt := 126) C dXC_findFault_73 (by decide) (by omega) (by omega) (fun hc4 => ?_) (fun hc4 => ?_)
              · refine v_iconst C dXC_findFault_126 ?_
                exact v_iret C hRt hLk dXC_findFault_127 (Or.inr ⟨hfl, Or.inr ⟨h10, y, Or.inr ⟨hok, _, S, x, by omega, hc, Or.inr ⟨rfl, S2, by rw [← show rp = -1 by omega]; exact hp2, by first | exact Or.inl (by omega) | exact Or.inr (by omega), hS3⟩⟩⟩⟩)
              · exfalso; omega
            refine v_iinc C dXC_findFault_120 rfl (by decide) ?_
            refine v_goto (tgt := 70) C dXC_findFault_123 (by decide) ?_
            exact v_lv rfl (ih (j + 1) (by omega) hm S3 (S3.1 192 4) ⟨S, x, S2, hc, by rw [← show rp = -1 by omega]; exact hp2, by omega, by omega, hS3⟩ _)
          · refine v_goto (tgt := 126) C dXC_findFault_117 (by decide) ?_
            refine v_iconst C dXC_findFault_126 ?_
            exact v_iret C hRt hLk dXC_findFault_127 (Or.inr ⟨hfl, Or.inr ⟨h10, y, Or.inr ⟨hok, _, S, x, by omega, hc, Or.inr ⟨rfl, S2, by rw [← show rp = -1 by omega]; exact hp2, by first | exact Or.inl (by omega) | exact Or.inr (by omega), hS3⟩⟩⟩⟩)
        · refine v_iload C dXC_findFault_95 rfl ?_
          exact v_iret C hRt hLk dXC_findFault_97 (Or.inr ⟨hfl, Or.inr ⟨h10, y, Or.inr ⟨hok, j, S, x, by omega, hc, Or.inl ⟨by omega, hp2⟩⟩⟩⟩)
  refine v_aload_n C dXC_findFault_0 rfl rfl ?_
  refine v_iconst C dXC_findFault_1 ?_
  refine v_putI (k := 192) (q := 2) C dXC_findFault_2 (by show (192 : Nat) < 383; decide) rfl rfl (by decide) rfl inXC tyXC_ok nmXC lXC_22 rfl rfl rfl rfl rfl ?_
  refine v_aload_n C dXC_findFault_5 rfl rfl ?_
  refine v_cVI (k := 192) (n := 0) C (xE_ok _) hEz hR (kX_XC_hasFirstLine _ D cA ad hJ (f_p1 σ 192 2 0) fb fn hfb hfn hn0 hb9) dXC_findFault_6 (by show (192 : Nat) < 383; decide) rfl rfl gXC_26 (by decide +kernel) (by decide) (by decide) rfl (Nat.le_of_ble_eq_true rfl) rfl ⟨rfl, rfl⟩ (fun rh σh hph => ?_)
  obtain ⟨hfl, rfl, rfl⟩ | ⟨hfl, rfl, rfl⟩ := hph
  · have hf4 := q_fl_r hfl
    refine v_if_ne (tgt := 14) C dXC_findFault_9 (by decide) (by omega) (fun hc5 => ?_) (fun hc5 => ?_)
    · refine v_aload_n C dXC_findFault_14 rfl rfl ?_
      refine v_getR (k := 192) (q := 0) C dXC_findFault_15 (by show (192 : Nat) < 383; decide) rfl rfl (by decide) rfl inXC lXC_17 rfl ?_
      refine v_aload_n C dXC_findFault_18 rfl rfl ?_
      refine v_getR (k := 192) (q := 0) C dXC_findFault_19 (by show (192 : Nat) < 383; decide) rfl rfl (by decide) rfl inXC lXC_17 rfl ?_
      refine v_getI (k := 8) (q := 1) (v := fn) C dXC_findFault_22 (by show (8 : Nat) < 383; decide) rfl rfl (by decide) rfl inXF lXC_30 rfl hfn ?_
      refine v_iconst C dXC_findFault_25 ?_
      refine v_isub C dXC_findFault_26 ?_
      refine v_cVI (k := 8) (n := 1) C (xE_ok _) hEz hR (kX_XF_valueAtF _ D cA ad hJ (f_p1 σ 192 2 0) (fn - 1) (by omega) fb fn hfb hfn hn0 hb9) dXC_findFault_27 (by show (8 : Nat) < 383; decide) rfl rfl gXC_33 (by decide +kernel) (by decide) (by decide) rfl (Nat.le_of_ble_eq_true rfl) rfl ⟨rfl, rfl⟩ (fun rb σb hpb => ?_)
      obtain ⟨eb, rfl⟩ := hpb
      subst eb
      have hvr := q_va_r hb9 fn (fn - 1)
      refine v_bipush C dXC_findFault_30 (by decide +kernel) ?_
      refine v_icmp_eq (tgt := 43) C dXC_findFault_32 (by decide) (by omega) (by omega) (fun hc6 => ?_) (fun hc6 => ?_)
      · refine v_aload_n C dXC_findFault_43 rfl rfl ?_
        refine v_cVI (k := 192) (n := 0) C (xE_ok _) hEz hR (kX_XC_lastLine _ D cA ad hJ (f_p1 σ 192 2 0) fb fn hfb hfn hn0 hb9 (by omega)) dXC_findFault_44 (by show (192 : Nat) < 383; decide) rfl rfl gXC_37 (by decide +kernel) (by decide) (by decide) rfl (Nat.le_of_ble_eq_true rfl) rfl ⟨rfl, rfl⟩ (fun rl σl hpl => ?_)
        obtain ⟨el, rfl⟩ := hpl
        have el2 : rl = q_lst fb fn := el
        subst el2
        have hlr := q_lst_r (fb := fb) (fn := fn) (by omega)
        refine v_istore_n C dXC_findFault_47 rfl (by decide) ?_
        refine v_aload_n C dXC_findFault_48 rfl rfl ?_
        refine v_iload_n C dXC_findFault_49 rfl rfl ?_
        refine v_bipush C dXC_findFault_50 (by decide +kernel) ?_
        refine v_cVI (k := 192) (n := 2) C (xE_ok _) hEz hR (kX_XC_tagged _ D cA ad hJ (f_p1 σ 192 2 0) (q_lst fb fn) 101 (by omega) (by omega) fb fn hfb hfn hn0 hb9) dXC_findFault_52 (by show (192 : Nat) < 383; decide) rfl rfl gXC_41 (by decide +kernel) (by decide) (by decide) rfl (Nat.le_of_ble_eq_true rfl) rfl ⟨rfl, rfl⟩ (fun rt σt hpt => ?_)
        obtain ⟨y, rfl, ⟨ht1, rfl, hy1⟩ | ⟨ht1, rfl⟩⟩ := hpt
        · have htr := q_tg_r ht1 (by decide)
          refine v_istore_n C dXC_findFault_55 rfl (by decide) ?_
          refine v_iload_n C dXC_findFault_56 rfl rfl ?_
          refine v_iconst C dXC_findFault_57 ?_
          refine v_icmp_eq (tgt := 66) C dXC_findFault_58 (by decide) (by omega) (by omega) (fun hc7 => ?_) (fun hc7 => ?_)
          · refine v_iload_n C dXC_findFault_66 rfl rfl ?_
            exact v_iret C hRt hLk dXC_findFault_67 (Or.inr ⟨hfl, Or.inr ⟨by omega, y, Or.inl ⟨fun h => by first | exact ht1 h.1 | (have := h.2; omega), rfl, rfl⟩⟩⟩)
          · refine v_iload_n C dXC_findFault_61 rfl rfl ?_
            refine v_iload_n C dXC_findFault_62 rfl rfl ?_
            refine v_icmp_lt (tgt := 68) C dXC_findFault_63 (by decide) (by omega) (by omega) (fun hc8 => ?_) (fun hc8 => ?_)
            · refine v_iconst C dXC_findFault_68 ?_
              refine v_istore_n C dXC_findFault_69 rfl (by decide) ?_
              exact L y hfl (by omega) ⟨ht1, by omega⟩ 60 0 (by omega) (by decide) _ _ ⟨rfl, rfl⟩ none
            · refine v_iload_n C dXC_findFault_66 rfl rfl ?_
              exact v_iret C hRt hLk dXC_findFault_67 (Or.inr ⟨hfl, Or.inr ⟨by omega, y, Or.inl ⟨fun h => by first | exact ht1 h.1 | (have := h.2; omega), rfl, rfl⟩⟩⟩)
        · refine v_istore_n C dXC_findFault_55 rfl (by decide) ?_
          refine v_iload_n C dXC_findFault_56 rfl rfl ?_
          refine v_iconst C dXC_findFault_57 ?_
          refine v_icmp_eq (tgt := 66) C dXC_findFault_58 (by decide) (by omega) (by omega) (fun hc9 => ?_) (fun hc9 => ?_)
          · refine v_iload_n C dXC_findFault_66 rfl rfl ?_
            exact v_iret C hRt hLk dXC_findFault_67 (Or.inr ⟨hfl, Or.inr ⟨by omega, y, Or.inl ⟨fun h => by first | exact ht1 h.1 | (have := h.2; omega), rfl, rfl⟩⟩⟩)
          · exfalso; omega
      · refine v_aload_n C dXC_findFault_35 rfl rfl ?_
        refine v_getR (k := 192) (q := 0) C dXC_findFault_36 (by show (192 : Nat) < 383; decide) rfl rfl (by decide) rfl inXC lXC_17 rfl ?_
        refine v_getI (k := 8) (q := 1) (v := fn) C dXC_findFault_39 (by show (8 : Nat) < 383; decide) rfl rfl (by decide) rfl inXF lXC_30 rfl hfn ?_
        exact v_iret C hRt hLk dXC_findFault_42 (Or.inr ⟨hfl, Or.inl ⟨by omega, rfl, rfl⟩⟩)
    · exfalso; omega
  · refine v_if_ne (tgt := 14) C dXC_findFault_9 (by decide) (by omega) (fun hc10 => ?_) (fun hc10 => ?_)
    · exfalso; omega
    · refine v_iconst C dXC_findFault_12 ?_
      exact v_iret C hRt hLk dXC_findFault_13 (Or.inl ⟨hfl, rfl, rfl⟩)
end
section
section XMM
variable {z : fZ} {G : fG} {cc : ByteArray} {nL : Nat} {own : String} {Q : State → Prop} {kc ks : Nat} {σ : fS} {pc : Nat} {lv : List (Option Value)} {st : List Value}
theorem v_mmin (C : fc z G cc nL own) {index : Nat} {a b : Int} (hlink : Cond.methodLink own index Lib.Math.min.name ∈ A9) (hstat : Cond.static Lib.Math.min.name ∈ A9) (hini : Cond.initialized "java/lang/Math" ∈ A9) (hcode : Cond.code Lib.Math.min.name Lib.Math.min.code 2 (some .int) ∈ A9) (ha : -2147483648 ≤ a ∧ a ≤ 2147483647) (hb : -2147483648 ≤ b ∧ b ≤ 2147483647)
    (hR : 1 ≤ z.2.2.2.1.frames ∧ (st.map fun v => v.category).sum + 13 ≤ z.2.2.2.1.locals ∧ kc ≤ z.2.2.2.1.cells ∧ ks ≤ z.2.2.2.1.slots) (dg : decode cc pc = .ok (.invokestatic index, 3))
    (kk : fv z G nL Q kc ks σ (pc + 3) lv (.int (fI (if b < a then b else a)) :: st)) : fv z G nL Q kc ks σ pc lv (.int (fI b) :: .int (fI a) :: st) := by
  intro H locs ls hP hS hl
  refine va_mmin C.1 C.2.1 (C.2.2.1.trans hl.1.symm) C.2.2.2.1 (C.2.2.2.2.1 _ hlink) (C.2.2.2.2.1 _ hstat) (C.2.2.2.2.1 _ hini) (C.2.2.2.2.1 _ hcode) hR.1 hR.2.1 hR.2.2.1 hR.2.2.2 dg ?_
  have e : (if fI b < fI a then fI b else fI a) = fI (if b < a then b else a) := by
    by_cases g : b < a
    · rw [if_pos g, if_pos ((fI_lt hb ha).mpr g)]
    · rw [if_neg g, if_neg (fun h => g ((fI_lt hb ha).mp h))]
  rw [e]
  exact kk H locs ls hP hS hl
end XMM
/-! loading -/
def x_dgs (n : Int) : Int := if n < 10 then 1 else if n < 100 then 2 else 3
theorem x_dgs_r (n : Int) : 1 ≤ x_dgs n ∧ x_dgs n ≤ 3 := by unfold x_dgs; (repeat' split) <;> omega
/-- where the bytes of an object's record begin, by a table -/
def x_bp (σ : fS) (r : Nat) (n : Int) : Int := σ.2 (r + 1) n.toNat + 4 + x_dgs n + x_dgs (σ.2 (r + 2) n.toNat)
theorem x_bm (v : Int) : -128 ≤ v.bmod 256 ∧ v.bmod 256 ≤ 127 := by
  have h1 := Int.le_bmod (x := v) (m := 256) (by omega)
  have h2 := Int.bmod_lt (x := v) (m := 256) (by omega)
  omega
def x_ldk (fb : Nat → Int) (fn : Int) (B : fS) (n fr : Int) (k : Nat) : fS := (B.1, fun a b => if a = 5 ∧ (n * 120).toNat ≤ b ∧ b < (n * 120).toNat + k then (q_va fb fn (fr + ((b - (n * 120).toNat : Nat) : Int))).bmod 256 else B.2 a b)
theorem x_ldk_0 (fb : Nat → Int) (fn : Int) (B : fS) (n fr : Int) : B = x_ldk fb fn B n fr 0 := fS_ext (fun _ _ => rfl) (fun a b => by show _ = if _ then _ else B.2 a b; rw [if_neg (by omega)])
theorem x_ldk_s (fb : Nat → Int) (fn : Int) (B : fS) (n fr : Int) (k : Nat) (hn : 0 ≤ n) : f_p2 (x_ldk fb fn B n fr k) 5 (n * 120 + (k : Int)).toNat ((q_va fb fn (fr + (k : Int))).bmod 256) = x_ldk fb fn B n fr (k + 1) := by
  refine fS_ext (fun _ _ => rfl) (fun a b => ?_)
  rw [p2_2]
  show (if _ then _ else (if a = 5 ∧ (n * 120).toNat ≤ b ∧ b < (n * 120).toNat + k then (q_va fb fn (fr + ((b - (n * 120).toNat : Nat) : Int))).bmod 256 else B.2 a b)) = if a = 5 ∧ (n * 120).toNat ≤ b ∧ b < (n * 120).toNat + (k + 1) then (q_va fb fn (fr + ((b - (n * 120).toNat : Nat) : Int))).bmod 256 else B.2 a b
  by_cases g : a = 5 ∧ b = (n * 120 + (k : Int)).toNat
  · rw [if_pos g, if_pos (by omega), show ((b - (n * 120).toNat : Nat) : Int) = (k : Int) by omega]
  · rw [if_neg g]
    by_cases g2 : a = 5 ∧ (n * 120).toNat ≤ b ∧ b < (n * 120).toNat + k
    · rw [if_pos g2, if_pos (by omega)]
    · rw [if_neg g2, if_neg (by omega)]
theorem x_ldk_o (fb : Nat → Int) (fn : Int) (B : fS) (n fr : Int) (k a : Nat) (h : a ≠ 5) : (x_ldk fb fn B n fr k).2 a = B.2 a := by
  funext b
  show (if a = 5 ∧ (n * 120).toNat ≤ b ∧ b < (n * 120).toNat + k then (q_va fb fn (fr + ((b - (n * 120).toNat : Nat) : Int))).bmod 256 else B.2 a b) = _
  rw [if_neg (by omega)]
def x_ldb (fb : Nat → Int) (fn : Int) (σ : fS) (r : Nat) (n : Int) : fS := x_ldk fb fn (f_p2 σ 4 n.toNat (σ.2 (r + 2) n.toNat)) n (x_bp σ r n) (σ.2 (r + 2) n.toNat).toNat
/-- the objects up to k are loaded from a table -/
def x_ld1 (σ : fS) (r k : Nat) (y : fS) : fS := f_p2 (f_p2 y 2 (k + 1) (if σ.2 (r + 1) (k + 1) = -1 then 0 else 1)) 3 (k + 1) 0
def x_ldF (fb : Nat → Int) (fn : Int) (σ : fS) (r : Nat) : Nat → fS
  | 0 => σ
  | k + 1 => if σ.2 (r + 1) (k + 1) = -1 then x_ld1 σ r k (x_ldF fb fn σ r k) else x_ldb fb fn (x_ld1 σ r k (x_ldF fb fn σ r k)) r ((k : Int) + 1)
theorem x_ldb_2 (fb : Nat → Int) (fn : Int) (σ : fS) (r : Nat) (n : Int) (a : Nat) (h : a ≠ 4 ∧ a ≠ 5) : (x_ldb fb fn σ r n).2 a = σ.2 a := by
  funext b
  show (if _ then _ else (f_p2 σ 4 _ _).2 a b) = _
  rw [if_neg (by omega), p2_2, if_neg (by omega)]
theorem x_ld1_2 (σ : fS) (r k : Nat) (y : fS) (a : Nat) (h : a ≠ 2 ∧ a ≠ 3) : (x_ld1 σ r k y).2 a = y.2 a := by
  funext b
  unfold x_ld1
  rw [p2_2, if_neg (by omega), p2_2, if_neg (by omega)]
theorem x_ldF_o (fb : Nat → Int) (fn : Int) (σ : fS) (r : Nat) : ∀ k, (x_ldF fb fn σ r k).1 = σ.1 ∧ ∀ a, (a ≠ 2 ∧ a ≠ 3 ∧ a ≠ 4 ∧ a ≠ 5) → (x_ldF fb fn σ r k).2 a = σ.2 a := by
  intro k
  induction k with
  | zero => exact ⟨rfl, fun _ _ => rfl⟩
  | succ k ih =>
    obtain ⟨i1, i2⟩ := ih
    have e : x_ldF fb fn σ r (k + 1) = if σ.2 (r + 1) (k + 1) = -1 then x_ld1 σ r k (x_ldF fb fn σ r k) else x_ldb fb fn (x_ld1 σ r k (x_ldF fb fn σ r k)) r ((k : Int) + 1) := rfl
    rw [e]
    split
    · exact ⟨i1, fun a h => by rw [x_ld1_2 _ _ _ _ a (by omega)]; exact i2 a h⟩
    · exact ⟨i1, fun a h => by rw [x_ldb_2 _ _ _ _ _ a (by omega), x_ld1_2 _ _ _ _ a (by omega)]; exact i2 a h⟩
theorem x_I_ld {fb : Nat → Int} {fn : Int} {σ : fS} {c : Nat} (h : x_I σ) (hc : c < 60) : ∀ k, x_I (x_ldF fb fn σ (12 + 3 * c) k) := by
  intro k
  induction k with
  | zero => exact h
  | succ k ih =>
    have h1 : x_I (x_ld1 σ (12 + 3 * c) k (x_ldF fb fn σ (12 + 3 * c) k)) := by
      refine x_I_p2 (x_I_p2 ih ?_) (show (0 : Int) ≤ 0 ∧ (0 : Int) ≤ 1 by omega)
      split
      · show (0 : Int) ≤ 0 ∧ (0 : Int) ≤ 1; omega
      · show (0 : Int) ≤ 1 ∧ (1 : Int) ≤ 1; omega
    show x_I (if _ then _ else _)
    split
    · exact h1
    · have h2 : x_I (f_p2 (x_ld1 σ (12 + 3 * c) k (x_ldF fb fn σ (12 + 3 * c) k)) 4 ((k : Int) + 1).toNat ((x_ld1 σ (12 + 3 * c) k (x_ldF fb fn σ (12 + 3 * c) k)).2 (12 + 3 * c + 2) ((k : Int) + 1).toNat)) := x_I_p2 h1 ((x_okA_hl c hc _).mp (h1.2 _ _))
      refine ⟨h2.1, fun a b => ?_⟩
      show x_okA a (if _ then _ else _)
      split
      · rename_i g
        rw [g.1]
        exact x_bm _
      · exact h2.2 a b
def x_ldd (fb : Nat → Int) (fn : Int) (σ : fS) (r : Nat) : fS := x_sav (x_ldF fb fn σ r 40) 41
set_option maxRecDepth 100000 in
set_option maxHeartbeats 4000000 in
/-- digits -/
theorem kX_XT_digits (l : Launch) (D : va_G) (cA : Nat → ClassId) (ad : Nat → Nat) (hJ : f_J (xG D cA ad)) (σ : fS) (n : Int) (hn : -2147483648 ≤ n ∧ n ≤ 2147483647) : f_M l (xG D cA ad) (xE (xG D cA ad)) yXT_digits (Cond.code yXT_digits cXT_digits 1 (some .int) :: A9) 0 σ [.int (fI n)] (f_QI (fun v σ1 => v = x_dgs n ∧ σ1 = σ) (xG D cA ad)) := by
  refine f_enter (by decide +kernel) hJ rfl (Nat.le_of_ble_eq_true rfl) ?_
  intro z hzl hR C hRt hLk hEz
  subst hzl
  have hRR : 0 ≤ z.2.2.2.1.frames ∧ 40 * 0 ≤ z.2.2.2.1.locals ∧ 0 ≤ z.2.2.2.1.cells ∧ 0 ≤ z.2.2.2.1.slots := by rw [hR]; exact ⟨Nat.le_refl _, Nat.le_refl _, Nat.zero_le _, Nat.zero_le _⟩
  refine v_iload_n C dXT_digits_0 rfl rfl ?_
  refine v_bipush C dXT_digits_1 (by decide +kernel) ?_
  refine v_icmp_ge (tgt := 10) C dXT_digits_3 (by decide) (by omega) (by omega) (fun hc1 => ?_) (fun hc1 => ?_)
  · refine v_iload_n C dXT_digits_10 rfl rfl ?_
    refine v_bipush C dXT_digits_11 (by decide +kernel) ?_
    refine v_icmp_ge (tgt := 20) C dXT_digits_13 (by decide) (by omega) (by omega) (fun hc2 => ?_) (fun hc2 => ?_)
    · refine v_iconst C dXT_digits_20 ?_
      exact v_iret C hRt hLk dXT_digits_21 ⟨by unfold x_dgs; first | rw [if_pos (by omega)] | rw [if_neg (by omega), if_pos (by omega)] | rw [if_neg (by omega), if_neg (by omega)], rfl⟩
    · refine v_iconst C dXT_digits_16 ?_
      refine v_goto (tgt := 21) C dXT_digits_17 (by decide) ?_
      exact v_iret C hRt hLk dXT_digits_21 ⟨by unfold x_dgs; first | rw [if_pos (by omega)] | rw [if_neg (by omega), if_pos (by omega)] | rw [if_neg (by omega), if_neg (by omega)], rfl⟩
  · refine v_iconst C dXT_digits_6 ?_
    refine v_goto (tgt := 21) C dXT_digits_7 (by decide) ?_
    exact v_iret C hRt hLk dXT_digits_21 ⟨by unfold x_dgs; first | rw [if_pos (by omega)] | rw [if_neg (by omega), if_pos (by omega)] | rw [if_neg (by omega), if_neg (by omega)], rfl⟩
set_option maxRecDepth 100000 in
set_option maxHeartbeats 4000000 in
/-- bytesPlace -/
theorem kX_XT_bytesPlace (l : Launch) (D : va_G) (cA : Nat → ClassId) (ad : Nat → Nat) (hJ : f_J (xG D cA ad)) (σ : fS) (r : Nat) (hr : r + 2 < 383) (hY0 : xY r = .inl (4, 4, fXT r)) (hY1 : xY (r + 1) = .inr (.inl (0, 41))) (hY2 : xY (r + 2) = .inr (.inl (0, 41))) (n : Int) (hn : 1 ≤ n ∧ n ≤ 40) (hl : -1 ≤ σ.2 (r + 2) n.toNat ∧ σ.2 (r + 2) n.toNat ≤ 120) : f_M l (xG D cA ad) (xE (xG D cA ad)) yXT_bytesPlace (Cond.code yXT_bytesPlace cXT_bytesPlace 2 (some .int) :: A9) 1 σ [.ref (ad (r)), .int (fI n)] (f_QI (fun v σ1 => v = x_bp σ r n ∧ σ1 = σ) (xG D cA ad)) := by
  refine f_enter (by decide +kernel) hJ rfl (Nat.le_of_ble_eq_true rfl) ?_
  intro z hzl hR C hRt hLk hEz
  subst hzl
  have hRR : 1 ≤ z.2.2.2.1.frames ∧ 40 * 1 ≤ z.2.2.2.1.locals ∧ 0 ≤ z.2.2.2.1.cells ∧ 0 ≤ z.2.2.2.1.slots := by rw [hR]; exact ⟨Nat.le_refl _, Nat.le_refl _, Nat.zero_le _, Nat.zero_le _⟩
  refine v_aload_n C dXT_bytesPlace_0 rfl rfl ?_
  refine v_getR (k := r) (q := 0) C dXT_bytesPlace_1 (by show (r : Nat) < 383; omega) (hY0) rfl (by decide) rfl inXT lXT_9 rfl ?_
  refine v_iload_n C dXT_bytesPlace_4 rfl rfl ?_
  refine v_iald (k := (r + 1)) (v := σ.2 (r + 1) (n).toNat) C dXT_bytesPlace_5 (by show ((r + 1) : Nat) < 383; omega) (hY1) rfl (by omega) (by decide) rfl ?_
  refine v_iconst C dXT_bytesPlace_6 ?_
  refine v_iadd C dXT_bytesPlace_7 ?_
  refine v_iload_n C dXT_bytesPlace_8 rfl rfl ?_
  refine v_cSI (n := 1) C (xE_ok _) hEz hR (kX_XT_digits _ D cA ad hJ σ (n) (by omega)) dXT_bytesPlace_9 gXT_37 (by decide +kernel) (by decide) (by decide) rfl (Nat.le_of_ble_eq_true rfl) rfl ⟨rfl, rfl⟩ (fun rg1 σg1 hpg1 => ?_)
  obtain ⟨eg1, fg1⟩ := hpg1
  subst σg1
  subst eg1
  have hg1 := x_dgs_r (n)
  refine v_iadd C dXT_bytesPlace_12 ?_
  refine v_aload_n C dXT_bytesPlace_13 rfl rfl ?_
  refine v_getR (k := r) (q := 1) C dXT_bytesPlace_14 (by show (r : Nat) < 383; omega) (hY0) rfl (by decide) rfl inXT lXT_15 rfl ?_
  refine v_iload_n C dXT_bytesPlace_17 rfl rfl ?_
  refine v_iald (k := (r + 2)) (v := σ.2 (r + 2) (n).toNat) C dXT_bytesPlace_18 (by show ((r + 2) : Nat) < 383; omega) (hY2) rfl (by omega) (by decide) rfl ?_
  refine v_cSI (n := 1) C (xE_ok _) hEz hR (kX_XT_digits _ D cA ad hJ σ (σ.2 (r + 2) (n).toNat) (by omega)) dXT_bytesPlace_19 gXT_37 (by decide +kernel) (by decide) (by decide) rfl (Nat.le_of_ble_eq_true rfl) rfl ⟨rfl, rfl⟩ (fun rg2 σg2 hpg2 => ?_)
  obtain ⟨eg2, fg2⟩ := hpg2
  subst σg2
  subst eg2
  have hg2 := x_dgs_r (σ.2 (r + 2) (n).toNat)
  refine v_iadd C dXT_bytesPlace_22 ?_
  exact v_iret C hRt hLk dXT_bytesPlace_23 ⟨rfl, rfl⟩
set_option maxRecDepth 100000 in
set_option maxHeartbeats 4000000 in
/-- loadBytes -/
theorem kX_XS_loadBytes (l : Launch) (D : va_G) (cA : Nat → ClassId) (ad : Nat → Nat) (hJ : f_J (xG D cA ad)) (σ : fS) (r : Nat) (hr : r + 2 < 383) (hY0 : xY r = .inl (4, 4, fXT r)) (hY1 : xY (r + 1) = .inr (.inl (0, 41))) (hY2 : xY (r + 2) = .inr (.inl (0, 41))) (n : Int) (hn : 1 ≤ n ∧ n ≤ 40) (fb : Nat → Int) (fn : Int) (hfb : σ.2 9 = fb) (hfn : σ.1 8 1 = fn) (hn0 : 0 ≤ fn ∧ fn ≤ 12000) (hb9 : ∀ i, -128 ≤ fb i ∧ fb i ≤ 127) (hp : -2 ≤ σ.2 (r + 1) n.toNat ∧ σ.2 (r + 1) n.toNat ≤ 99999) (hl : 0 ≤ σ.2 (r + 2) n.toNat ∧ σ.2 (r + 2) n.toNat ≤ 120) : f_M l (xG D cA ad) (xE (xG D cA ad)) yXS_loadBytes (Cond.code yXS_loadBytes cXS_loadBytes 7 none :: A9) 2 σ [.ref (ad 1), .int (fI n), .ref (ad 8), .ref (ad (r))] (f_QV (fun σ1 => σ1 = x_ldb fb fn σ r n) (xG D cA ad)) := by
  refine f_enter (by decide +kernel) hJ rfl (Nat.le_of_ble_eq_true rfl) ?_
  intro z hzl hR C hRt hLk hEz
  subst hzl
  have hRR : 2 ≤ z.2.2.2.1.frames ∧ 40 * 2 ≤ z.2.2.2.1.locals ∧ 0 ≤ z.2.2.2.1.cells ∧ 0 ≤ z.2.2.2.1.slots := by rw [hR]; exact ⟨Nat.le_refl _, Nat.le_refl _, Nat.zero_le _, Nat.zero_le _⟩
  obtain ⟨B, hB⟩ : ∃ s, s = f_p2 σ 4 n.toNat (σ.2 (r + 2) n.toNat) := ⟨_, rfl⟩
  have hBb : B.2 9 = fb := by rw [hB]; funext b; rw [p2_2, if_neg (by omega), hfb]
  have hBn : B.1 8 1 = fn := by rw [hB]; exact hfn
  have hbp1 : x_bp σ r n = σ.2 (r + 1) n.toNat + 4 + x_dgs n + x_dgs (σ.2 (r + 2) n.toNat) := rfl
  have hd1 := x_dgs_r n
  have hd2 := x_dgs_r (σ.2 (r + 2) n.toNat)
  have L : ∀ (m k : Nat), m + k = (σ.2 (r + 2) n.toNat).toNat → fv z (xG D cA ad) 7 (f_R z (xG D cA ad) (f_QV (fun σ1 => σ1 = x_ldb fb fn σ r n) (xG D cA ad))) 0 0 (x_ldk fb fn B n (x_bp σ r n) k) 26 [some (.ref (ad 1)), some (.int (fI n)), some (.ref (ad 8)), some (.ref (ad r)), some (.int (fI (σ.2 (r + 2) n.toNat))), some (.int (fI (x_bp σ r n))), some (.int (fI (k : Int)))] [] := by
    intro m
    induction m with
    | zero =>
      intro k hk
      obtain rfl : k = (σ.2 (r + 2) n.toNat).toNat := by omega
      refine v_iload C dXS_loadBytes_26 rfl ?_
      refine v_iload C dXS_loadBytes_28 rfl ?_
      refine v_icmp_ge (tgt := 61) C dXS_loadBytes_30 (by decide) (by omega) (by omega) (fun hc1 => ?_) (fun hc1 => ?_)
      · exact v_vret C hRt hLk dXS_loadBytes_61 (by rw [hB]; rfl)
      · exfalso; omega
    | succ m ih =>
      intro k hk
      have hKb : (x_ldk fb fn B n (x_bp σ r n) k).2 9 = fb := by rw [x_ldk_o _ _ _ _ _ _ 9 (by omega)]; exact hBb
      refine v_iload C dXS_loadBytes_26 rfl ?_
      refine v_iload C dXS_loadBytes_28 rfl ?_
      refine v_icmp_ge (tgt := 61) C dXS_loadBytes_30 (by decide) (by omega) (by omega) (fun hc2 => ?_) (fun hc2 => ?_)
      · exfalso; omega
      · refine v_aload_n C dXS_loadBytes_33 rfl rfl ?_
        refine v_getR (k := 1) (q := 3) C dXS_loadBytes_34 (by show (1 : Nat) < 383; decide) rfl rfl (by decide) rfl inXS lXS_22 rfl ?_
        refine v_iload_n C dXS_loadBytes_37 rfl rfl ?_
        refine v_bipush C dXS_loadBytes_38 (by decide +kernel) ?_
        refine v_imul C dXS_loadBytes_40 ?_
        refine v_iload C dXS_loadBytes_41 rfl ?_
        refine v_iadd C dXS_loadBytes_43 ?_
        refine v_aload_n C dXS_loadBytes_44 rfl rfl ?_
        refine v_iload C dXS_loadBytes_45 rfl ?_
        refine v_iload C dXS_loadBytes_47 rfl ?_
        refine v_iadd C dXS_loadBytes_49 ?_
        refine v_cVI (k := 8) (n := 1) C (xE_ok _) hEz hR (kX_XF_valueAtF _ D cA ad hJ (x_ldk fb fn B n (x_bp σ r n) k) (x_bp σ r n + (k : Int)) (by omega) fb fn hKb hBn hn0 hb9) dXS_loadBytes_50 (by show (8 : Nat) < 383; decide) rfl rfl gXS_65 (by decide +kernel) (by decide) (by decide) rfl (Nat.le_of_ble_eq_true rfl) rfl ⟨rfl, rfl⟩ (fun rb σb hpb => ?_)
        obtain ⟨eb, fbb⟩ := hpb
        subst σb
        subst eb
        refine v_i2b C dXS_loadBytes_53 ?_
        have hbm := x_bm (q_va fb fn (x_bp σ r n + (k : Int)))
        refine v_bast (k := 5) C dXS_loadBytes_54 (by show (5 : Nat) < 383; decide) rfl rfl (by omega) (by decide) (by omega) ?_
        refine v_iinc C dXS_loadBytes_55 rfl (by decide) ?_
        refine v_goto (tgt := 26) C dXS_loadBytes_58 (by decide) ?_
        exact v_st (x_ldk_s fb fn B n (x_bp σ r n) k (by omega)) (ih (k + 1) (by omega))
  refine v_aload_n C dXS_loadBytes_0 rfl rfl ?_
  refine v_getR (k := r) (q := 1) C dXS_loadBytes_1 (by show (r : Nat) < 383; omega) (hY0) rfl (by decide) rfl inXT lXS_60 rfl ?_
  refine v_iload_n C dXS_loadBytes_4 rfl rfl ?_
  refine v_iald (k := (r + 2)) (v := σ.2 (r + 2) (n).toNat) C dXS_loadBytes_5 (by show ((r + 2) : Nat) < 383; omega) (hY2) rfl (by omega) (by decide) rfl ?_
  refine v_istore C dXS_loadBytes_6 (by decide) ?_
  refine v_aload_n C dXS_loadBytes_8 rfl rfl ?_
  refine v_iload_n C dXS_loadBytes_9 rfl rfl ?_
  refine v_cVI (k := r) (n := 1) C (xE_ok _) hEz hR (kX_XT_bytesPlace _ D cA ad hJ σ r hr hY0 hY1 hY2 n hn (by omega)) dXS_loadBytes_10 (by show (r : Nat) < 383; omega) (hY0) rfl gXS_61 (by decide +kernel) (by decide) (by decide) rfl (Nat.le_of_ble_eq_true rfl) rfl ⟨rfl, rfl⟩ (fun rp σp hpp => ?_)
  obtain ⟨ep, fp⟩ := hpp
  subst σp
  subst ep
  have hbp1 : x_bp σ r n = σ.2 (r + 1) n.toNat + 4 + x_dgs n + x_dgs (σ.2 (r + 2) n.toNat) := rfl
  have hd1 := x_dgs_r n
  have hd2 := x_dgs_r (σ.2 (r + 2) n.toNat)
  refine v_istore C dXS_loadBytes_13 (by decide) ?_
  refine v_aload_n C dXS_loadBytes_15 rfl rfl ?_
  refine v_getR (k := 1) (q := 2) C dXS_loadBytes_16 (by show (1 : Nat) < 383; decide) rfl rfl (by decide) rfl inXS lXS_18 rfl ?_
  refine v_iload_n C dXS_loadBytes_19 rfl rfl ?_
  refine v_iload C dXS_loadBytes_20 rfl ?_
  refine v_iast (k := 4) C dXS_loadBytes_22 (by show (4 : Nat) < 383; decide) rfl rfl (by omega) (by decide) ?_
  refine v_iconst C dXS_loadBytes_23 ?_
  refine v_istore C dXS_loadBytes_24 (by decide) ?_
  exact v_st (by rw [← hB]; exact x_ldk_0 fb fn B n (x_bp σ r n)) (v_lv rfl (L (σ.2 (r + 2) n.toNat).toNat 0 (by omega)))
set_option maxRecDepth 100000 in
set_option maxHeartbeats 4000000 in
/-- load -/
theorem kX_XS_load (l : Launch) (D : va_G) (cA : Nat → ClassId) (ad : Nat → Nat) (hJ : f_J (xG D cA ad)) (σ : fS) (r : Nat) (hr : r + 2 < 383) (hY0 : xY r = .inl (4, 4, fXT r)) (hY1 : xY (r + 1) = .inr (.inl (0, 41))) (hY2 : xY (r + 2) = .inr (.inl (0, 41))) (hr3 : 9 < r) (fb : Nat → Int) (fn : Int) (hfb : σ.2 9 = fb) (hfn : σ.1 8 1 = fn) (hn0 : 0 ≤ fn ∧ fn ≤ 12000) (hb9 : ∀ i, -128 ≤ fb i ∧ fb i ≤ 127) (hbp : ∀ i, -2 ≤ σ.2 (r + 1) i ∧ σ.2 (r + 1) i ≤ 99999) (hbl : ∀ i, 0 ≤ σ.2 (r + 2) i ∧ σ.2 (r + 2) i ≤ 120) (hI40 : ∀ k, x_I (x_ldF fb fn σ r k)) : f_M l (xG D cA ad) (xE (xG D cA ad)) yXS_load (Cond.code yXS_load cXS_load 4 none :: A9) 3 σ [.ref (ad 1), .ref (ad 8), .ref (ad (r))] (f_QV (fun σ1 => σ1 = x_ldd fb fn σ r) (xG D cA ad)) := by
  refine f_enter (by decide +kernel) hJ rfl (Nat.le_of_ble_eq_true rfl) ?_
  intro z hzl hR C hRt hLk hEz
  subst hzl
  have hRR : 3 ≤ z.2.2.2.1.frames ∧ 40 * 3 ≤ z.2.2.2.1.locals ∧ 0 ≤ z.2.2.2.1.cells ∧ 0 ≤ z.2.2.2.1.slots := by rw [hR]; exact ⟨Nat.le_refl _, Nat.le_refl _, Nat.zero_le _, Nat.zero_le _⟩
  have L : ∀ (m k : Nat), m + k = 40 → fv z (xG D cA ad) 4 (f_R z (xG D cA ad) (f_QV (fun σ1 => σ1 = x_ldd fb fn σ r) (xG D cA ad))) 0 0 (x_ldF fb fn σ r k) 2 [some (.ref (ad 1)), some (.ref (ad 8)), some (.ref (ad r)), some (.int (fI ((k : Int) + 1)))] [] := by
    intro m
    induction m with
    | zero =>
      intro k hk
      obtain ⟨o1, o2⟩ := x_ldF_o fb fn σ r k
      obtain ⟨B, hB⟩ : ∃ s, s = x_ldF fb fn σ r k := ⟨_, rfl⟩
      rw [← hB] at o1 o2 ⊢
      obtain rfl : k = 40 := by omega
      refine v_iload_n C dXS_load_2 rfl rfl ?_
      refine v_bipush C dXS_load_3 (by decide +kernel) ?_
      refine v_icmp_gt (tgt := 58) C dXS_load_5 (by decide) (by omega) (by omega) (fun hc1 => ?_) (fun hc1 => ?_)
      · refine v_aload_n C dXS_load_58 rfl rfl ?_
        refine v_cVV (k := 1) (n := 0) C (xE_ok _) hEz hR (kX_XS_save _ D cA ad hJ B (fun i => by rw [hB]; exact (hI40 40).2 2 i)) dXS_load_59 (by show (1 : Nat) < 383; decide) rfl rfl gXS_57 (by decide +kernel) (by decide) (by decide) rfl (Nat.le_of_ble_eq_true rfl) rfl ⟨rfl, rfl⟩ (fun σ1 hp1 => ?_)
        subst σ1
        exact v_vret C hRt hLk dXS_load_62 (by rw [hB]; rfl)
      · exfalso; omega
    | succ m ih =>
      intro k hk
      obtain ⟨o1, o2⟩ := x_ldF_o fb fn σ r k
      obtain ⟨B, hB⟩ : ∃ s, s = x_ldF fb fn σ r k := ⟨_, rfl⟩
      rw [← hB] at o1 o2 ⊢
      have hkt : ((k : Int) + 1).toNat = k + 1 := by omega
      have hpl : B.2 (r + 1) ((k : Int) + 1).toNat = σ.2 (r + 1) (k + 1) := by rw [hkt, o2 (r + 1) (by omega)]
      have hLb : (x_ld1 σ r k B).2 9 = fb := by rw [x_ld1_2 _ _ _ _ 9 (by omega), o2 9 (by omega)]; exact hfb
      have hLn : (x_ld1 σ r k B).1 8 1 = fn := by show B.1 8 1 = _; rw [o1]; exact hfn
      have hLp : (x_ld1 σ r k B).2 (r + 1) = σ.2 (r + 1) := by rw [x_ld1_2 _ _ _ _ _ (by omega), o2 _ (by omega)]
      have hLl : (x_ld1 σ r k B).2 (r + 2) = σ.2 (r + 2) := by rw [x_ld1_2 _ _ _ _ _ (by omega), o2 _ (by omega)]
      have hpr := hbp (k + 1)
      have hs : ∀ s : fS, (σ.2 (r + 1) (k + 1) = -1 ∧ s = x_ld1 σ r k B) ∨ (σ.2 (r + 1) (k + 1) ≠ -1 ∧ s = x_ldb fb fn (x_ld1 σ r k B) r ((k : Int) + 1)) → s = x_ldF fb fn σ r (k + 1) := fun s h => by
          show s = if σ.2 (r + 1) (k + 1) = -1 then x_ld1 σ r k (x_ldF fb fn σ r k) else x_ldb fb fn (x_ld1 σ r k (x_ldF fb fn σ r k)) r ((k : Int) + 1)
          rw [← hB]
          rcases h with ⟨h1, h2⟩ | ⟨h1, h2⟩
          · rw [if_pos h1]; exact h2
          · rw [if_neg h1]; exact h2
      refine v_iload_n C dXS_load_2 rfl rfl ?_
      refine v_bipush C dXS_load_3 (by decide +kernel) ?_
      refine v_icmp_gt (tgt := 58) C dXS_load_5 (by decide) (by omega) (by omega) (fun hc2 => ?_) (fun hc2 => ?_)
      · exfalso; omega
      · refine v_aload_n C dXS_load_8 rfl rfl ?_
        refine v_getR (k := 1) (q := 0) C dXS_load_9 (by show (1 : Nat) < 383; decide) rfl rfl (by decide) rfl inXS lXS_9 rfl ?_
        refine v_iload_n C dXS_load_12 rfl rfl ?_
        refine v_aload_n C dXS_load_13 rfl rfl ?_
        refine v_getR (k := r) (q := 0) C dXS_load_14 (by show (r : Nat) < 383; omega) (hY0) rfl (by decide) rfl inXT lXS_48 rfl ?_
        refine v_iload_n C dXS_load_17 rfl rfl ?_
        refine v_iald (k := (r + 1)) (v := σ.2 (r + 1) (k + 1)) C dXS_load_18 (by show ((r + 1) : Nat) < 383; omega) (hY1) rfl (by omega) (by decide) hpl ?_
        refine v_iconst C dXS_load_19 ?_
        refine v_icmp_eq (tgt := 27) C dXS_load_20 (by decide) (by omega) (by omega) (fun hc3 => ?_) (fun hc3 => ?_)
        · refine v_iconst C dXS_load_27 ?_
          refine v_zast (k := 2) C dXS_load_28 (by show (2 : Nat) < 383; decide) rfl rfl (by omega) (by decide) (by omega) ?_
          refine v_aload_n C dXS_load_29 rfl rfl ?_
          refine v_getR (k := 1) (q := 1) C dXS_load_30 (by show (1 : Nat) < 383; decide) rfl rfl (by decide) rfl inXS lXS_15 rfl ?_
          refine v_iload_n C dXS_load_33 rfl rfl ?_
          refine v_iconst C dXS_load_34 ?_
          refine v_zast (k := 3) C dXS_load_35 (by show (3 : Nat) < 383; decide) rfl rfl (by omega) (by decide) (by omega) ?_
          refine v_st (σ1 := x_ld1 σ r k B) (by unfold x_ld1; rw [hkt]; first | rw [if_pos (by omega)] | rw [if_neg (by omega)]) ?_
          refine v_aload_n C dXS_load_36 rfl rfl ?_
          refine v_getR (k := 1) (q := 0) C dXS_load_37 (by show (1 : Nat) < 383; decide) rfl rfl (by decide) rfl inXS lXS_9 rfl ?_
          refine v_iload_n C dXS_load_40 rfl rfl ?_
          refine v_zald (k := 2) (v := 0) C dXS_load_41 (by show (2 : Nat) < 383; decide) rfl rfl (by omega) (by decide) (by rw [hkt]; show (f_p2 (f_p2 B 2 (k + 1) _) 3 (k + 1) 0).2 2 (k + 1) = _; rw [p2_2, if_neg (by omega), p2_2, if_pos ⟨rfl, rfl⟩]; first | rw [if_pos (by omega)] | rw [if_neg (by omega)]) ?_
          refine v_if_eq (tgt := 52) C dXS_load_42 (by decide) (by omega) (fun hc4 => ?_) (fun hc4 => ?_)
          · refine v_iinc C dXS_load_52 rfl (by decide) ?_
            refine v_goto (tgt := 2) C dXS_load_55 (by decide) ?_
            exact v_st (hs _ (by first | exact Or.inl ⟨by omega, rfl⟩ | exact Or.inr ⟨by omega, rfl⟩)) (ih (k + 1) (by omega))
          · exfalso; omega
        · refine v_iconst C dXS_load_23 ?_
          refine v_goto (tgt := 28) C dXS_load_24 (by decide) ?_
          refine v_zast (k := 2) C dXS_load_28 (by show (2 : Nat) < 383; decide) rfl rfl (by omega) (by decide) (by omega) ?_
          refine v_aload_n C dXS_load_29 rfl rfl ?_
          refine v_getR (k := 1) (q := 1) C dXS_load_30 (by show (1 : Nat) < 383; decide) rfl rfl (by decide) rfl inXS lXS_15 rfl ?_
          refine v_iload_n C dXS_load_33 rfl rfl ?_
          refine v_iconst C dXS_load_34 ?_
          refine v_zast (k := 3) C dXS_load_35 (by show (3 : Nat) < 383; decide) rfl rfl (by omega) (by decide) (by omega) ?_
          refine v_st (σ1 := x_ld1 σ r k B) (by unfold x_ld1; rw [hkt]; first | rw [if_pos (by omega)] | rw [if_neg (by omega)]) ?_
          refine v_aload_n C dXS_load_36 rfl rfl ?_
          refine v_getR (k := 1) (q := 0) C dXS_load_37 (by show (1 : Nat) < 383; decide) rfl rfl (by decide) rfl inXS lXS_9 rfl ?_
          refine v_iload_n C dXS_load_40 rfl rfl ?_
          refine v_zald (k := 2) (v := 1) C dXS_load_41 (by show (2 : Nat) < 383; decide) rfl rfl (by omega) (by decide) (by rw [hkt]; show (f_p2 (f_p2 B 2 (k + 1) _) 3 (k + 1) 0).2 2 (k + 1) = _; rw [p2_2, if_neg (by omega), p2_2, if_pos ⟨rfl, rfl⟩]; first | rw [if_pos (by omega)] | rw [if_neg (by omega)]) ?_
          refine v_if_eq (tgt := 52) C dXS_load_42 (by decide) (by omega) (fun hc5 => ?_) (fun hc5 => ?_)
          · exfalso; omega
          · refine v_aload_n C dXS_load_45 rfl rfl ?_
            refine v_iload_n C dXS_load_46 rfl rfl ?_
            refine v_aload_n C dXS_load_47 rfl rfl ?_
            refine v_aload_n C dXS_load_48 rfl rfl ?_
            refine v_cVV (k := 1) (n := 3) C (xE_ok _) hEz hR (kX_XS_loadBytes _ D cA ad hJ (x_ld1 σ r k B) r hr hY0 hY1 hY2 ((k : Int) + 1) (by omega) fb fn hLb hLn hn0 hb9 (by rw [hkt, hLp]; exact hbp _) (by rw [hkt, hLl]; exact hbl _)) dXS_load_49 (by show (1 : Nat) < 383; decide) rfl rfl gXS_53 (by decide +kernel) (by decide) (by decide) rfl (Nat.le_of_ble_eq_true rfl) rfl ⟨rfl, rfl⟩ (fun σ1 hp1 => ?_)
            subst σ1
            refine v_iinc C dXS_load_52 rfl (by decide) ?_
            refine v_goto (tgt := 2) C dXS_load_55 (by decide) ?_
            exact v_st (hs _ (by first | exact Or.inl ⟨by omega, rfl⟩ | exact Or.inr ⟨by omega, rfl⟩)) (ih (k + 1) (by omega))
  refine v_iconst C dXS_load_0 ?_
  refine v_istore_n C dXS_load_1 rfl (by decide) ?_
  exact v_lv rfl (L 40 0 (by omega))
end
section
/-! readFile -/
def x_adF (S : fS) (c : Nat) : Nat → fS
  | 0 => f_p1 S 10 1 0
  | t + 1 => x_ad (x_adF S c t) (194 + 3 * (c - 1 - t)) t
theorem x_adF_I {S : fS} {c : Nat} (h : x_I S) (hc : c ≤ 60) (hg : ∀ t, t < c → x_good S (194 + 3 * t)) : ∀ t, t ≤ c → x_I (x_adF S c t) ∧ (x_adF S c t).1 10 1 = (t : Int) ∧ (∀ a, ¬ (12 ≤ a ∧ a < 192) → (x_adF S c t).2 a = S.2 a) ∧ (∀ a b, a ≠ 10 → ¬ (12 ≤ a ∧ a < 192) → (x_adF S c t).1 a b = S.1 a b) := by
  intro t
  induction t with
  | zero => intro _; exact ⟨x_I_p1 h (show (0 : Int) ≤ 0 ∧ (0 : Int) ≤ 60 by omega), rfl, fun _ _ => rfl, fun a b g _ => by show (f_p1 S 10 1 0).1 a b = _; rw [p1_1, if_neg (by omega)]⟩
  | succ t ih =>
    intro ht
    obtain ⟨i1, i2, i3, i4⟩ := ih (by omega)
    refine ⟨?_, ?_, fun a g => ?_, fun a b g g2 => ?_⟩
    · refine x_I_ad i1 (by omega) (by omega) (fun b _ _ => ?_) (fun b h1 h2 h3 => ?_) ?_ ?_
      · exact (x_okA_cp (c - 1 - t) (by omega) _).mp (i1.2 _ _)
      · rw [i3 (194 + 3 * (c - 1 - t) + 1) (by omega)] at h3
        rw [i3 (194 + 3 * (c - 1 - t) + 2) (by omega)]
        exact hg (c - 1 - t) (by omega) b h1 h2 h3
      · exact (x_okF_c (c - 1 - t) (by omega) 2 (Or.inl rfl) _).mp (i1.1 _ _)
      · exact (x_okF_c (c - 1 - t) (by omega) 3 (Or.inr rfl) _).mp (i1.1 _ _)
    · show (x_ad _ _ t).1 10 1 = _
      rw [x_ad_1, if_pos ⟨rfl, rfl⟩]; push_cast; rfl
    · funext b
      show (x_ad _ _ t).2 a b = _
      rw [x_ad_o _ _ _ _ _ (by omega), i3 a g]
    · show (x_ad _ _ t).1 a b = _
      rw [x_ad_1, if_neg (by omega), if_neg (by omega), if_neg (by omega), i4 a b g g2]
def x_rd (fb : Nat → Int) (fn : Int) (σ : fS) (v : Int) (σ1 : fS) : Prop := ∃ (w : Int) (S : fS), x_ff fb fn σ w S ∧ ((w ≠ -1 ∧ v = -1 - w ∧ σ1 = S) ∨ (w = -1 ∧ ∃ c : Nat, S.1 192 2 = (c : Int) ∧ 1 ≤ c ∧ c ≤ 60 ∧ v = (c : Int) ∧ σ1 = f_p1 (x_ldd fb fn (x_adF S c c) (12 + 3 * (c - 1))) 8 2 0))
theorem x_rd_I {fb : Nat → Int} {fn v : Int} {σ σ1 : fS} (hfn : 0 ≤ fn ∧ fn ≤ 12000) (hI : x_I σ) (h : x_rd fb fn σ v σ1) : x_I σ1 := by
  obtain ⟨w, S, hf, h⟩ := h
  obtain ⟨f1, f2, f3, f4⟩ := x_ff_I hfn hI hf
  rcases h with ⟨-, -, rfl⟩ | ⟨hw, c, hc, h1, h60, -, rfl⟩
  · exact f1
  · obtain ⟨c2, e1, e2, e3, e4⟩ := f4 hw
    have e : c2 = c := by omega
    subst e
    obtain ⟨i1, -, -, -⟩ := x_adF_I f1 h60 e4 c2 (Nat.le_refl _)
    exact x_I_p1 (x_I_sav (x_I_ld i1 (by omega) 40)) (show (0 : Int) ≤ 0 ∧ (0 : Int) ≤ 1 by omega)
/-- take cuts the file at a revision's end -/
def x_tkn (σ : fS) (k : Nat) : Int := if σ.1 (12 + 3 * k) 3 < σ.1 8 1 then σ.1 (12 + 3 * k) 3 else σ.1 8 1
def x_tk (σ : fS) (k : Nat) : fS := f_p1 (f_p1 σ 8 1 (x_tkn σ k)) 8 2 1
theorem x_tk_I {σ : fS} {k : Nat} (h : x_I σ) (hk : k < 60) : x_I (x_tk σ k) := by
  refine x_I_p1 (x_I_p1 h ?_) (show (0 : Int) ≤ 1 ∧ (1 : Int) ≤ 1 by omega)
  have h1 := (x_okF_h k hk 3 (Or.inr rfl) _).mp (h.1 (12 + 3 * k) 3)
  have h2 : 0 ≤ σ.1 8 1 ∧ σ.1 8 1 ≤ 12000 := h.1 8 1
  show 0 ≤ x_tkn σ k ∧ x_tkn σ k ≤ 12000
  unfold x_tkn
  split <;> omega
set_option maxRecDepth 100000 in
set_option maxHeartbeats 4000000 in
/-- readFile -/
theorem kX_XA_readFile (l : Launch) (D : va_G) (cA : Nat → ClassId) (ad : Nat → Nat) (hJ : f_J (xG D cA ad)) (σ : fS) (fb : Nat → Int) (fn : Int) (hfb : σ.2 9 = fb) (hfn : σ.1 8 1 = fn) (hn0 : 0 ≤ fn ∧ fn ≤ 12000) (hb9 : ∀ i, -128 ≤ fb i ∧ fb i ≤ 127) (hI : x_I σ) : f_M l (xG D cA ad) (xE (xG D cA ad)) yXA_readFile (Cond.code yXA_readFile cXA_readFile 3 (some .int) :: A9) 6 σ [.ref (ad 0)] (f_QI (fun v σ1 => x_rd fb fn σ v σ1) (xG D cA ad)) := by
  refine f_enter (by decide +kernel) hJ rfl (Nat.le_of_ble_eq_true rfl) ?_
  intro z hzl hR C hRt hLk hEz
  subst hzl
  have hRR : 6 ≤ z.2.2.2.1.frames ∧ 40 * 6 ≤ z.2.2.2.1.locals ∧ 0 ≤ z.2.2.2.1.cells ∧ 0 ≤ z.2.2.2.1.slots := by rw [hR]; exact ⟨Nat.le_refl _, Nat.le_refl _, Nat.zero_le _, Nat.zero_le _⟩
  have L : ∀ (w : Int) (S : fS), x_ff fb fn σ w S → w = -1 → ∀ c : Nat, S.1 192 2 = (c : Int) → 1 ≤ c → c ≤ 60 → (∀ t, t < c → x_good S (194 + 3 * t)) → ∀ (m t : Nat), m + t = c → fv z (xG D cA ad) 3 (f_R z (xG D cA ad) (f_QI (fun v σ1 => x_rd fb fn σ v σ1) (xG D cA ad))) 0 0 (x_adF S c t) 35 [some (.ref (ad 0)), some (.int (fI w)), some (.int (fI ((c : Int) - 1 - (t : Int))))] [] := by
    intro w S hff hw c hc h1 h60 hg m
    obtain ⟨f1, f2, f3, -⟩ := x_ff_I hn0 hI hff
    induction m with
    | zero =>
      intro t ht
      obtain ⟨i1, i2, i3, i4⟩ := x_adF_I f1 h60 hg t (by omega)
      refine v_iload_n C dXA_readFile_35 rfl rfl ?_
      refine v_if_lt (tgt := 61) C dXA_readFile_36 (by decide) (by omega) (fun hc1 => ?_) (fun hc1 => ?_)
      · obtain rfl : t = c := by omega
        obtain ⟨A, hA⟩ : ∃ s, s = x_adF S t t := ⟨_, rfl⟩
        rw [← hA] at i1 i2 i3 i4
        refine v_st hA.symm ?_
        have hAI := i1
        have hA10 := i2
        have hAb : A.2 9 = fb := by rw [i3 9 (by omega), f2.1 9 (by omega)]; exact hfb
        have hAn : A.1 8 1 = fn := by rw [i4 8 1 (by omega) (by omega), f2.2 8 1 (by omega) (by omega)]; exact hfn
        refine v_aload_n C dXA_readFile_61 rfl rfl ?_
        refine v_getR (k := 0) (q := 2) C dXA_readFile_62 (by show (0 : Nat) < 383; decide) rfl rfl (by decide) rfl inXA lXA_26 rfl ?_
        refine v_getI (k := 10) (q := 1) (v := (t : Int)) C dXA_readFile_65 (by show (10 : Nat) < 383; decide) rfl rfl (by decide) rfl inXH lXA_125 rfl hA10 ?_
        refine v_if_le (tgt := 99) C dXA_readFile_68 (by decide) (by omega) (fun hc2 => ?_) (fun hc2 => ?_)
        · exfalso; omega
        · refine v_aload_n C dXA_readFile_71 rfl rfl ?_
          refine v_getR (k := 0) (q := 0) C dXA_readFile_72 (by show (0 : Nat) < 383; decide) rfl rfl (by decide) rfl inXA lXA_10 rfl ?_
          refine v_aload_n C dXA_readFile_75 rfl rfl ?_
          refine v_getR (k := 0) (q := 1) C dXA_readFile_76 (by show (0 : Nat) < 383; decide) rfl rfl (by decide) rfl inXA lXA_19 rfl ?_
          refine v_aload_n C dXA_readFile_79 rfl rfl ?_
          refine v_getR (k := 0) (q := 2) C dXA_readFile_80 (by show (0 : Nat) < 383; decide) rfl rfl (by decide) rfl inXA lXA_26 rfl ?_
          refine v_getR (k := 10) (q := 0) C dXA_readFile_83 (by show (10 : Nat) < 383; decide) rfl rfl (by decide) rfl inXH lXA_171 rfl ?_
          refine v_aload_n C dXA_readFile_86 rfl rfl ?_
          refine v_getR (k := 0) (q := 2) C dXA_readFile_87 (by show (0 : Nat) < 383; decide) rfl rfl (by decide) rfl inXA lXA_26 rfl ?_
          refine v_getI (k := 10) (q := 1) (v := (t : Int)) C dXA_readFile_90 (by show (10 : Nat) < 383; decide) rfl rfl (by decide) rfl inXH lXA_125 rfl hA10 ?_
          refine v_iconst C dXA_readFile_93 ?_
          refine v_isub C dXA_readFile_94 ?_
          refine v_top (b := ((t - 1 : Nat) : Int)) (by omega) ?_
          refine v_aald (k := 11) C dXA_readFile_95 (by show (11 : Nat) < 383; decide) rfl rfl (by omega) (by decide) ?_
          refine v_cVV (k := 1) (n := 2) C (xE_ok _) hEz hR (kX_XS_load _ D cA ad hJ A (12 + 3 * (t - 1)) (by omega) (xY_h0 (t - 1) (by omega)) (xY_h1 (t - 1) (by omega)) (xY_h2 (t - 1) (by omega)) (by omega) fb fn hAb hAn hn0 hb9 (fun q => (x_okA_hp (t - 1) (by omega) _).mp (hAI.2 _ _)) (fun q => (x_okA_hl (t - 1) (by omega) _).mp (hAI.2 _ _)) (fun k => x_I_ld hAI (by omega) k)) dXA_readFile_96 (by show (1 : Nat) < 383; decide) rfl rfl gXA_232 (by decide +kernel) (by decide) (by decide) rfl (Nat.le_of_ble_eq_true rfl) rfl ⟨rfl, rfl⟩ (fun σ1 hp1 => ?_)
          obtain ⟨Z, hZ⟩ : ∃ s, s = x_ldd fb fn A (12 + 3 * (t - 1)) := ⟨_, rfl⟩
          subst σ1
          refine v_st hZ.symm ?_
          have hZ10 : Z.1 10 1 = (t : Int) := by rw [hZ]; show (x_ldF _ _ _ _ 40).1 10 1 = _; rw [(x_ldF_o _ _ _ _ 40).1]; exact hA10
          refine v_aload_n C dXA_readFile_99 rfl rfl ?_
          refine v_getR (k := 0) (q := 1) C dXA_readFile_100 (by show (0 : Nat) < 383; decide) rfl rfl (by decide) rfl inXA lXA_19 rfl ?_
          refine v_iconst C dXA_readFile_103 ?_
          refine v_putI (k := 8) (q := 2) C dXA_readFile_104 (by show (8 : Nat) < 383; decide) rfl rfl (by decide) rfl inXF tyXF_ok nmXF lXA_132 rfl rfl rfl (fN_bool (by omega)) (fF_bool (by omega)) ?_
          refine v_aload_n C dXA_readFile_107 rfl rfl ?_
          refine v_getR (k := 0) (q := 2) C dXA_readFile_108 (by show (0 : Nat) < 383; decide) rfl rfl (by decide) rfl inXA lXA_26 rfl ?_
          refine v_getI (k := 10) (q := 1) (v := (t : Int)) C dXA_readFile_111 (by show (10 : Nat) < 383; decide) rfl rfl (by decide) rfl inXH lXA_125 rfl hZ10 ?_
          exact v_iret C hRt hLk dXA_readFile_114 ⟨w, S, hff, Or.inr ⟨by omega, _, hc, by omega, by omega, rfl, by rw [hZ, hA]⟩⟩
      · exfalso; omega
    | succ m ih =>
      intro t ht
      obtain ⟨i1, i2, i3, i4⟩ := x_adF_I f1 h60 hg t (by omega)
      refine v_iload_n C dXA_readFile_35 rfl rfl ?_
      refine v_if_lt (tgt := 61) C dXA_readFile_36 (by decide) (by omega) (fun hc3 => ?_) (fun hc3 => ?_)
      · exfalso; omega
      · refine v_aload_n C dXA_readFile_39 rfl rfl ?_
        refine v_getR (k := 0) (q := 2) C dXA_readFile_40 (by show (0 : Nat) < 383; decide) rfl rfl (by decide) rfl inXA lXA_26 rfl ?_
        refine v_aload_n C dXA_readFile_43 rfl rfl ?_
        refine v_getR (k := 0) (q := 3) C dXA_readFile_44 (by show (0 : Nat) < 383; decide) rfl rfl (by decide) rfl inXA lXA_35 rfl ?_
        refine v_getR (k := 192) (q := 1) C dXA_readFile_47 (by show (192 : Nat) < 383; decide) rfl rfl (by decide) rfl inXC lXA_229 rfl ?_
        refine v_iload_n C dXA_readFile_50 rfl rfl ?_
        refine v_top (b := ((c - 1 - t : Nat) : Int)) (by omega) ?_
        refine v_aald (k := 193) C dXA_readFile_51 (by show (193 : Nat) < 383; decide) rfl rfl (by omega) (by decide) ?_
        refine v_cVV (k := 10) (n := 1) C (xE_ok _) hEz hR (kX_XH_add _ D cA ad hJ (x_adF S c t) t i2 (by omega) (194 + 3 * (c - 1 - t)) (by omega) (xY_c0 (c - 1 - t) (by omega)) (xY_c1 (c - 1 - t) (by omega)) (xY_c2 (c - 1 - t) (by omega)) (by omega) (fun b => (x_okA_cp (c - 1 - t) (by omega) _).mp (i1.2 _ _))) dXA_readFile_52 (by show (10 : Nat) < 383; decide) rfl rfl gXA_218 (by decide +kernel) (by decide) (by decide) rfl (Nat.le_of_ble_eq_true rfl) rfl ⟨rfl, rfl⟩ (fun σ1 hp1 => ?_)
        subst σ1
        refine v_iinc C dXA_readFile_55 rfl (by decide) ?_
        refine v_goto (tgt := 35) C dXA_readFile_58 (by decide) ?_
        exact v_st rfl (v_lv (by rw [show (c : Int) - 1 - (t : Int) + -1 = (c : Int) - 1 - ((t + 1 : Nat) : Int) by omega]; rfl) (ih (t + 1) (by omega)))
  refine v_aload_n C dXA_readFile_0 rfl rfl ?_
  refine v_getR (k := 0) (q := 3) C dXA_readFile_1 (by show (0 : Nat) < 383; decide) rfl rfl (by decide) rfl inXA lXA_35 rfl ?_
  refine v_cVI (k := 192) (n := 0) C (xE_ok _) hEz hR (kX_XC_findFault _ D cA ad hJ σ fb fn hfb hfn hn0 hb9 hI) dXA_readFile_4 (by show (192 : Nat) < 383; decide) rfl rfl gXA_225 (by decide +kernel) (by decide) (by decide) rfl (Nat.le_of_ble_eq_true rfl) rfl ⟨rfl, rfl⟩ (fun w S hff => ?_)
  obtain ⟨f1, f2, f3, f4⟩ := x_ff_I hn0 hI hff
  refine v_istore_n C dXA_readFile_7 rfl (by decide) ?_
  refine v_iload_n C dXA_readFile_8 rfl rfl ?_
  refine v_iconst C dXA_readFile_9 ?_
  refine v_icmp_eq (tgt := 17) C dXA_readFile_10 (by decide) (by omega) (by omega) (fun hc4 => ?_) (fun hc4 => ?_)
  · obtain ⟨c, hcc, hc1, hc60, hcg⟩ := f4 (by omega)
    refine v_aload_n C dXA_readFile_17 rfl rfl ?_
    refine v_getR (k := 0) (q := 2) C dXA_readFile_18 (by show (0 : Nat) < 383; decide) rfl rfl (by decide) rfl inXA lXA_26 rfl ?_
    refine v_iconst C dXA_readFile_21 ?_
    refine v_putI (k := 10) (q := 1) C dXA_readFile_22 (by show (10 : Nat) < 383; decide) rfl rfl (by decide) rfl inXH tyXH_ok nmXH lXA_125 rfl rfl rfl rfl rfl ?_
    obtain ⟨A0, hA0⟩ : ∃ s, s = f_p1 S 10 1 0 := ⟨_, rfl⟩
    refine v_st hA0.symm ?_
    have hA0c : A0.1 192 2 = (c : Int) := by rw [hA0]; exact hcc
    refine v_aload_n C dXA_readFile_25 rfl rfl ?_
    refine v_getR (k := 0) (q := 3) C dXA_readFile_26 (by show (0 : Nat) < 383; decide) rfl rfl (by decide) rfl inXA lXA_35 rfl ?_
    refine v_getI (k := 192) (q := 2) (v := (c : Int)) C dXA_readFile_29 (by show (192 : Nat) < 383; decide) rfl rfl (by decide) rfl inXC lXA_228 rfl hA0c ?_
    refine v_iconst C dXA_readFile_32 ?_
    refine v_isub C dXA_readFile_33 ?_
    refine v_istore_n C dXA_readFile_34 rfl (by decide) ?_
    exact v_st hA0 (v_lv (by simp) (L w S hff (by omega) c hcc hc1 hc60 hcg c 0 (by omega)))
  · refine v_iconst C dXA_readFile_13 ?_
    refine v_iload_n C dXA_readFile_14 rfl rfl ?_
    refine v_isub C dXA_readFile_15 ?_
    exact v_iret C hRt hLk dXA_readFile_16 ⟨w, S, hff, Or.inl ⟨by omega, rfl, rfl⟩⟩
set_option maxRecDepth 100000 in
set_option maxHeartbeats 4000000 in
/-- take -/
theorem kX_XA_take (l : Launch) (D : va_G) (cA : Nat → ClassId) (ad : Nat → Nat) (hJ : f_J (xG D cA ad)) (σ : fS) (i : Int) (hI : x_I σ) (hg : 0 ≤ i ∧ i < σ.1 10 1) : f_M l (xG D cA ad) (xE (xG D cA ad)) yXA_take (Cond.code yXA_take cXA_take 2 (some .int) :: A9) 7 σ [.ref (ad 0), .int (fI i)] (f_QI (fun v σ1 => x_rd (σ.2 9) (x_tkn σ i.toNat) (x_tk σ i.toNat) v σ1) (xG D cA ad)) := by
  refine f_enter (by decide +kernel) hJ rfl (Nat.le_of_ble_eq_true rfl) ?_
  intro z hzl hR C hRt hLk hEz
  subst hzl
  have hRR : 7 ≤ z.2.2.2.1.frames ∧ 40 * 7 ≤ z.2.2.2.1.locals ∧ 0 ≤ z.2.2.2.1.cells ∧ 0 ≤ z.2.2.2.1.slots := by rw [hR]; exact ⟨Nat.le_refl _, Nat.le_refl _, Nat.zero_le _, Nat.zero_le _⟩
  have h10 : 0 ≤ σ.1 10 1 ∧ σ.1 10 1 ≤ 60 := hI.1 10 1
  have h8 : 0 ≤ σ.1 8 1 ∧ σ.1 8 1 ≤ 12000 := hI.1 8 1
  refine v_aload_n C dXA_take_0 rfl rfl ?_
  refine v_getR (k := 0) (q := 2) C dXA_take_1 (by show (0 : Nat) < 383; decide) rfl rfl (by decide) rfl inXA lXA_26 rfl ?_
  refine v_iload_n C dXA_take_4 rfl rfl ?_
  refine v_cVI (k := 10) (n := 1) C (xE_ok _) hEz hR (kX_XH_has _ D cA ad hJ σ i (by omega) (hI.1 10 1)) dXA_take_5 (by show (10 : Nat) < 383; decide) rfl rfl gXA_168 (by decide +kernel) (by decide) (by decide) rfl (Nat.le_of_ble_eq_true rfl) rfl ⟨rfl, rfl⟩ (fun rh σh hph => ?_)
  obtain ⟨eh, fh⟩ := hph
  subst σh
  rw [if_pos hg] at eh
  subst rh
  refine v_if_ne (tgt := 21) C dXA_take_8 (by decide) (by omega) (fun hc1 => ?_) (fun hc1 => ?_)
  · refine v_aload_n C dXA_take_21 rfl rfl ?_
    refine v_getR (k := 0) (q := 1) C dXA_take_22 (by show (0 : Nat) < 383; decide) rfl rfl (by decide) rfl inXA lXA_19 rfl ?_
    refine v_aload_n C dXA_take_25 rfl rfl ?_
    refine v_getR (k := 0) (q := 1) C dXA_take_26 (by show (0 : Nat) < 383; decide) rfl rfl (by decide) rfl inXA lXA_19 rfl ?_
    refine v_getI (k := 8) (q := 1) (v := σ.1 8 1) C dXA_take_29 (by show (8 : Nat) < 383; decide) rfl rfl (by decide) rfl inXF lXA_131 rfl rfl ?_
    refine v_aload_n C dXA_take_32 rfl rfl ?_
    refine v_getR (k := 0) (q := 2) C dXA_take_33 (by show (0 : Nat) < 383; decide) rfl rfl (by decide) rfl inXA lXA_26 rfl ?_
    refine v_getR (k := 10) (q := 0) C dXA_take_36 (by show (10 : Nat) < 383; decide) rfl rfl (by decide) rfl inXH lXA_171 rfl ?_
    refine v_iload_n C dXA_take_39 rfl rfl ?_
    refine v_aald (k := 11) C dXA_take_40 (by show (11 : Nat) < 383; decide) rfl rfl (by omega) (by decide) ?_
    refine v_getI (k := (12 + 3 * i.toNat)) (q := 3) (v := σ.1 (12 + 3 * i.toNat) 3) C dXA_take_41 (by show ((12 + 3 * i.toNat) : Nat) < 383; omega) (xY_h0 i.toNat (by omega)) rfl (by decide) rfl inXT lXA_114 rfl rfl ?_
    have hen := (x_okF_h i.toNat (by omega) 3 (Or.inr rfl) _).mp (hI.1 (12 + 3 * i.toNat) 3)
    refine v_mmin (a := σ.1 8 1) (b := σ.1 (12 + 3 * i.toNat) 3) C (in9_4 188 (by decide +kernel) rfl) (in9_3 60 (by decide +kernel) rfl) (in9_1 21 (by decide +kernel) rfl) (in9_3 61 (by decide +kernel) rfl) (by omega) (by omega) (by rw [hR]; exact ⟨by decide, (show 1 + 0 + 13 ≤ 40 * 7 by decide), by decide, by decide⟩) dXA_take_44 ?_
    refine v_putI (k := 8) (q := 1) C dXA_take_47 (by show (8 : Nat) < 383; decide) rfl rfl (by decide) rfl inXF tyXF_ok nmXF lXA_131 rfl rfl rfl rfl rfl ?_
    refine v_aload_n C dXA_take_50 rfl rfl ?_
    refine v_getR (k := 0) (q := 1) C dXA_take_51 (by show (0 : Nat) < 383; decide) rfl rfl (by decide) rfl inXA lXA_19 rfl ?_
    refine v_iconst C dXA_take_54 ?_
    refine v_putI (k := 8) (q := 2) C dXA_take_55 (by show (8 : Nat) < 383; decide) rfl rfl (by decide) rfl inXF tyXF_ok nmXF lXA_132 rfl rfl rfl (fN_bool (by omega)) (fF_bool (by omega)) ?_
    refine v_aload_n C dXA_take_58 rfl rfl ?_
    obtain ⟨T, hT⟩ : ∃ s, s = x_tk σ i.toNat := ⟨_, rfl⟩
    refine v_st hT.symm ?_
    have hTn : T.1 8 1 = x_tkn σ i.toNat := by rw [hT]; rfl
    have hTI : x_I T := by rw [hT]; exact x_tk_I hI (by omega)
    have hTr : 0 ≤ x_tkn σ i.toNat ∧ x_tkn σ i.toNat ≤ 12000 := by rw [← hTn]; exact hTI.1 8 1
    have hT9 : T.2 9 = σ.2 9 := by rw [hT]; rfl
    refine v_cVI (k := 0) (n := 0) C (xE_ok _) hEz hR (kX_XA_readFile _ D cA ad hJ T (σ.2 9) (x_tkn σ i.toNat) hT9 hTn hTr (fun q => hI.2 9 q) hTI) dXA_take_59 (by show (0 : Nat) < 383; decide) rfl rfl gXA_156 (by decide +kernel) (by decide) (by decide) rfl (Nat.le_of_ble_eq_true rfl) rfl ⟨rfl, rfl⟩ (fun r1 σ1 hp1 => ?_)
    rw [hT] at hp1
    exact v_iret C hRt hLk dXA_take_62 hp1
  · exfalso; omega
end
section
/-! differ: only its own rows change -/
def x_frD (σ : fS) (k : Nat) (σ1 : fS) : Prop := (∀ a, a ≠ 381 → a ≠ 382 → σ1.2 a = σ.2 a) ∧ (∀ a b, ¬ (a = 380 ∧ b = 2) → σ1.1 a b = σ.1 a b) ∧ (0 ≤ σ1.1 380 2 ∧ σ1.1 380 2 ≤ (k : Int)) ∧ ∀ a b, σ1.2 a b = σ.2 a b ∨ (0 ≤ σ1.2 a b ∧ σ1.2 a b ≤ 40)
theorem x_frD_I {σ σ1 : fS} (h : x_I σ) (hf : x_frD σ 40 σ1) : x_I σ1 := by
  obtain ⟨h1, h2, h3, h4⟩ := hf
  refine x_I_fr h (fun a b => ?_) (fun a b => ?_)
  · by_cases g : a = 380 ∧ b = 2
    · right; obtain ⟨rfl, rfl⟩ := g; exact h3
    · left; exact h2 a b g
  · by_cases g1 : a = 381
    · subst g1; exact h4 381 b
    · by_cases g2 : a = 382
      · subst g2; exact h4 382 b
      · left; rw [h1 a g1 g2]
theorem x_frD_0 (σ : fS) : x_frD σ 0 (f_p1 σ 380 2 0) := ⟨fun _ _ _ => rfl, fun a b g => by rw [p1_1, if_neg g], by rw [p1_1, if_pos ⟨rfl, rfl⟩]; omega, fun _ _ => Or.inl rfl⟩
theorem x_frD_n {σ σ1 : fS} {k : Nat} (h : x_frD σ k σ1) : x_frD σ (k + 1) σ1 := ⟨h.1, h.2.1, by have := h.2.2.1; push_cast; omega, h.2.2.2⟩
theorem x_frD_s {σ σ1 : fS} {k p q : Nat} {u v : Int} (h : x_frD σ k σ1) (hu : 0 ≤ u ∧ u ≤ 40) (hv : 0 ≤ v ∧ v ≤ 40) : x_frD σ (k + 1) (f_p1 (f_p2 (f_p2 σ1 381 p u) 382 q v) 380 2 (σ1.1 380 2 + 1)) := by
  refine ⟨fun a g1 g2 => ?_, fun a b g => ?_, ?_, fun a b => ?_⟩
  · rw [p1_2]; funext b; rw [p2_2, if_neg (by omega), p2_2, if_neg (by omega), h.1 a g1 g2]
  · rw [p1_1, if_neg g]; exact h.2.1 a b g
  · rw [p1_1, if_pos ⟨rfl, rfl⟩]; have := h.2.2.1; push_cast; omega
  · rw [p1_2, p2_2]
    split
    · exact Or.inr hv
    · rw [p2_2]
      split
      · exact Or.inr hu
      · exact h.2.2.2 a b
end
