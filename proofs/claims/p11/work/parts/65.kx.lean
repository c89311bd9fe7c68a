/-! the whole file -/
/-- j parts were read without a fault: the state, and where the next part's x is -/
def x_ffc (fb : Nat → Int) (fn : Int) (σ0 : fS) (x0 : Int) : Nat → fS → Int → Prop
  | 0, S, x => S = σ0 ∧ x = x0
  | j + 1, S, x => ∃ (S1 : fS) (x1 : Int) (S2 : fS), x_ffc fb fn σ0 x0 j S1 x1 ∧ x_pf fb fn S1 (194 + 3 * j) x1 (-1) S2 ∧ S2.1 192 4 ≠ 0 ∧ x = S2.1 192 4 ∧ S = f_p1 S2 192 2 ((j : Int) + 1)
def q_lst (fb : Nat → Int) (fn : Int) : Int := q_ll fb fn (fn - 1).toNat (fn - 1)
def q_okL (fb : Nat → Int) (fn : Int) : Prop := q_tg fb fn (q_lst fb fn) 101 ∧ q_nr fb fn (q_lst fb fn + 2) < q_lst fb fn
def x_ff (fb : Nat → Int) (fn : Int) (σ : fS) (v : Int) (σ1 : fS) : Prop :=
  (¬ q_fl fb fn ∧ v = 0 ∧ σ1 = f_p1 σ 192 2 0) ∨ (q_fl fb fn ∧ ((q_va fb fn (fn - 1) ≠ 10 ∧ v = fn ∧ σ1 = f_p1 σ 192 2 0) ∨ (q_va fb fn (fn - 1) = 10 ∧ ∃ y : Int,
   ((¬ q_okL fb fn ∧ v = q_lst fb fn ∧ σ1 = x_nx (f_p1 σ 192 2 0) y) ∨ (q_okL fb fn ∧ ∃ (j : Nat) (S : fS) (x : Int), j ≤ 59 ∧ x_ffc fb fn (x_nx (f_p1 σ 192 2 0) y) (q_nr fb fn (q_lst fb fn + 2)) j S x ∧
     ((v ≠ -1 ∧ x_pf fb fn S (194 + 3 * j) x v σ1) ∨ (v = -1 ∧ ∃ S2 : fS, x_pf fb fn S (194 + 3 * j) x (-1) S2 ∧ (S2.1 192 4 = 0 ∨ j = 59) ∧ σ1 = f_p1 S2 192 2 ((j : Int) + 1)))))))) 
/-- only the scan's own numbers differ -/
def x_frC (σ σ1 : fS) : Prop := (∀ a, ¬ (194 ≤ a ∧ a < 374) → σ1.2 a = σ.2 a) ∧ ∀ a b, a ≠ 192 → ¬ (194 ≤ a ∧ a < 374) → σ1.1 a b = σ.1 a b
theorem x_frC_rf (σ : fS) : x_frC σ σ := ⟨fun _ _ => rfl, fun _ _ _ _ => rfl⟩
theorem x_frC_tr {σ τ υ : fS} (h1 : x_frC σ τ) (h2 : x_frC τ υ) : x_frC σ υ := ⟨fun a g => (h2.1 a g).trans (h1.1 a g), fun a b g1 g2 => (h2.2 a b g1 g2).trans (h1.2 a b g1 g2)⟩
theorem x_frC_1 (σ : fS) (q : Nat) (v : Int) : x_frC σ (f_p1 σ 192 q v) := ⟨fun _ _ => rfl, fun a b g _ => by rw [p1_1, if_neg (by omega)]⟩
theorem x_frC_P {σ σ1 : fS} {i : Nat} (hi : i < 60) (h : x_frP σ (194 + 3 * i) σ1) : x_frC σ σ1 := ⟨fun a g => h.1 a (by omega) (by omega), fun a b g1 g2 => h.2 a b (by omega) (by omega)⟩
theorem x_I_192 {σ : fS} (h : x_I σ) (q : Nat) (v : Int) : x_I (f_p1 σ 192 q v) := x_I_p1 h (x_okF_n _ _ _ (by omega))
theorem x_good_P {σ σ1 : fS} {i t : Nat} (h : x_frP σ (194 + 3 * i) σ1) (ht : t ≠ i) (hg : x_good σ (194 + 3 * t)) : x_good σ1 (194 + 3 * t) := by
  intro b h1 h2 h3
  rw [h.1 (194 + 3 * t + 1) (by omega) (by omega)] at h3
  rw [h.1 (194 + 3 * t + 2) (by omega) (by omega)]
  exact hg b h1 h2 h3
theorem x_ffc_I {fb : Nat → Int} {fn x0 : Int} {σ0 : fS} (hfn : 0 ≤ fn ∧ fn ≤ 12000) (hI : x_I σ0) (hc : σ0.1 192 2 = 0) (hx0 : 0 ≤ x0 ∧ x0 ≤ 11999) : ∀ (j : Nat) (S : fS) (x : Int), j ≤ 60 → x_ffc fb fn σ0 x0 j S x → x_I S ∧ x_frC σ0 S ∧ S.1 192 2 = (j : Int) ∧ (0 ≤ x ∧ x ≤ 11999) ∧ ∀ t, t < j → x_good S (194 + 3 * t) := by
  intro j
  induction j with
  | zero =>
    intro S x _ h
    obtain ⟨rfl, rfl⟩ := h
    exact ⟨hI, x_frC_rf _, hc, hx0, fun t ht => absurd ht (by omega)⟩
  | succ j ih =>
    intro S x hj h
    obtain ⟨S1, x1, S2, h1, h2, h3, rfl, rfl⟩ := h
    obtain ⟨i1, i2, i3, i4, i5⟩ := ih S1 x1 (by omega) h1
    obtain ⟨p1, p2, p3, p4⟩ := x_pf_I (by omega) i1 hfn i4 h2
    obtain ⟨p5, p6⟩ := p4 rfl
    refine ⟨x_I_192 p2 _ _, x_frC_tr i2 (x_frC_tr (x_frC_P (by omega) p1) (x_frC_1 _ _ _)), ?_, by omega, fun t ht => ?_⟩
    · rw [p1_1, if_pos ⟨rfl, rfl⟩]; push_cast; rfl
    · by_cases g : t = j
      · rw [g]; exact p6
      · exact (show x_good S2 (194 + 3 * t) from x_good_P (σ := S1) p1 g (i5 t (by omega)))
theorem q_fl_r {fb : Nat → Int} {fn : Int} (h : q_fl fb fn) : 4 ≤ fn := by
  have := q_va_in (fb := fb) (fn := fn) (i := 3) (by rw [h.2.2.2]; decide)
  omega
theorem q_lst_r {fb : Nat → Int} {fn : Int} (h : 1 ≤ fn) : 0 ≤ q_lst fb fn ∧ q_lst fb fn ≤ fn - 1 := by
  have := q_ll_r fb fn (fn - 1).toNat (fn - 1)
  unfold q_lst
  omega
theorem x_ff_I {fb : Nat → Int} {fn v : Int} {σ σ1 : fS} (hfn : 0 ≤ fn ∧ fn ≤ 12000) (hI : x_I σ) (h : x_ff fb fn σ v σ1) : x_I σ1 ∧ x_frC σ σ1 ∧ (-1 ≤ v ∧ v ≤ 99999) ∧ (v = -1 → ∃ c : Nat, σ1.1 192 2 = (c : Int) ∧ 1 ≤ c ∧ c ≤ 60 ∧ ∀ t, t < c → x_good σ1 (194 + 3 * t)) := by
  rcases h with ⟨-, h1, rfl⟩ | ⟨hf, ⟨-, h1, rfl⟩ | ⟨-, y, ⟨-, h1, rfl⟩ | ⟨hL, j, S, x, hj, hc, h⟩⟩⟩
  · exact ⟨x_I_192 hI _ _, x_frC_1 _ _ _, by omega, fun g => by omega⟩
  · exact ⟨x_I_192 hI _ _, x_frC_1 _ _ _, by omega, fun g => by omega⟩
  · have := q_lst_r (fb := fb) (fn := fn) (by have := q_fl_r hf; omega)
    exact ⟨x_I_192 (x_I_192 hI _ _) _ _, x_frC_tr (x_frC_1 _ _ _) (x_frC_1 _ _ _), by omega, fun g => by omega⟩
  · have h4 := q_fl_r hf
    have hl := q_lst_r (fb := fb) (fn := fn) (by omega)
    have ht := q_tg_r hL.1 (by decide)
    obtain ⟨i1, i2, i3, i4, i5⟩ := x_ffc_I hfn (x_I_192 (x_I_192 hI _ _) _ _) rfl (by have := hL.2; omega) j S x (by omega) hc
    have fr : x_frC σ S := x_frC_tr (x_frC_tr (x_frC_1 _ _ _) (x_frC_1 _ _ _)) i2
    rcases h with ⟨hv, hp⟩ | ⟨hv, S2, hp, hb, rfl⟩
    · obtain ⟨p1, p2, p3, p4⟩ := x_pf_I (by omega) i1 hfn i4 hp
      exact ⟨p2, x_frC_tr fr (x_frC_P (by omega) p1), p3, fun g => absurd g hv⟩
    · obtain ⟨p1, p2, p3, p4⟩ := x_pf_I (by omega) i1 hfn i4 hp
      refine ⟨x_I_192 p2 _ _, x_frC_tr fr (x_frC_tr (x_frC_P (by omega) p1) (x_frC_1 _ _ _)), by omega, fun _ => ⟨j + 1, ?_, by omega, by omega, fun t ht => ?_⟩⟩
      · rw [p1_1, if_pos ⟨rfl, rfl⟩]; push_cast; rfl
      · by_cases g : t = j
        · rw [g]; exact (p4 rfl).2
        · exact (show x_good S2 (194 + 3 * t) from x_good_P (σ := S) p1 g (i5 t (by omega)))
set_option maxRecDepth 100000 in
set_option maxHeartbeats 4000000 in
/-- findFault -/
theorem kX_XC_findFault (l : Launch) (D : va_G) (cA : Nat → ClassId) (ad : Nat → Nat) (hJ : f_J (xG D cA ad)) (σ : fS) (fb : Nat → Int) (fn : Int) (hfb : σ.2 9 = fb) (hfn : σ.1 8 1 = fn) (hn0 : 0 ≤ fn ∧ fn ≤ 12000) (hb9 : ∀ i, -128 ≤ fb i ∧ fb i ≤ 127) (hI : x_I σ) : f_M l (xG D cA ad) (xE (xG D cA ad)) yXC_findFault (Cond.code yXC_findFault cXC_findFault 5 (some .int) :: A9) 5 σ [.ref (ad 192)] (f_QI (fun v σ1 => x_ff fb fn σ v σ1) (xG D cA ad)) := by
  refine f_enter (by decide +kernel) hJ rfl (Nat.le_of_ble_eq_true rfl) ?_
  intro z hzl hR C hRt hLk hEz
  subst hzl
  have hRR : 5 ≤ z.2.2.2.1.frames ∧ 40 * 5 ≤ z.2.2.2.1.locals ∧ 0 ≤ z.2.2.2.1.cells ∧ 0 ≤ z.2.2.2.1.slots := by rw [hR]; exact ⟨Nat.le_refl _, Nat.le_refl _, Nat.zero_le _, Nat.zero_le _⟩
  have L : ∀ y : Int, q_fl fb fn → q_va fb fn (fn - 1) = 10 → q_okL fb fn → ∀ (m j : Nat), m + j = 60 → m ≠ 0 → ∀ (S : fS) (x : Int), x_ffc fb fn (x_nx (f_p1 σ 192 2 0) y) (q_nr fb fn (q_lst fb fn + 2)) j S x → ∀ o4 : Option Value, fv z (xG D cA ad) 5 (f_R z (xG D cA ad) (f_QI (fun v σ1 => x_ff fb fn σ v σ1) (xG D cA ad))) 0 0 S 70 [some (.ref (ad 192)), some (.int (fI (q_lst fb fn))), some (.int (fI x)), some (.int (fI (j : Int))), o4] [] := by
    intro y hfl h10 hok m
    have hf4 := q_fl_r hfl
    have hlr := q_lst_r (fb := fb) (fn := fn) (by omega)
    have htr := q_tg_r hok.1 (by decide)
    have hx2 := hok.2
    induction m with
    | zero => intro j _ h0; exact absurd rfl h0
    | succ m ih =>
      intro j hj _ S x hc o4
      obtain ⟨i1, i2, i3, i4, i5⟩ := x_ffc_I hn0 (x_I_192 (x_I_192 hI _ _) _ _) rfl (by omega) j S x (by omega) hc
      have hSb : S.2 9 = fb := by rw [i2.1 9 (by omega)]; exact hfb
      have hSn : S.1 8 1 = fn := by rw [i2.2 8 1 (by omega) (by omega)]; exact hfn
      refine v_iload_n C dXC_findFault_70 rfl rfl ?_
      refine v_bipush C dXC_findFault_71 (by decide +kernel) ?_
      refine v_icmp_ge (tgt := 126) C dXC_findFault_73 (by decide) (by omega) (by omega) (fun hc1 => ?_) (fun hc1 => ?_)
      · exfalso; omega
      · refine v_aload_n C dXC_findFault_76 rfl rfl ?_
        refine v_aload_n C dXC_findFault_77 rfl rfl ?_
        refine v_getR (k := 192) (q := 1) C dXC_findFault_78 (by show (192 : Nat) < 383; decide) rfl rfl (by decide) rfl inXC lXC_11 rfl ?_
        refine v_iload_n C dXC_findFault_81 rfl rfl ?_
        refine v_aald (k := 193) C dXC_findFault_82 (by show (193 : Nat) < 383; decide) rfl rfl (by omega) (by decide) ?_
        refine v_iload_n C dXC_findFault_83 rfl rfl ?_
        refine v_cVI (k := 192) (n := 2) C (xE_ok _) hEz hR (kX_XC_partFault _ D cA ad hJ S (194 + 3 * j) (by omega) (xY_c0 j (by omega)) (xY_c1 j (by omega)) (xY_c2 j (by omega)) (by omega) x fb fn hSb hSn hn0 hb9 i4 (by omega) (fun q => (x_okA_cp j (by omega) _).mp (i1.2 _ _)) (fun q => (x_okA_cl j (by omega) _).mp (i1.2 _ _))) dXC_findFault_84 (by show (192 : Nat) < 383; decide) rfl rfl gXC_45 (by decide +kernel) (by decide) (by decide) rfl (Nat.le_of_ble_eq_true rfl) rfl ⟨rfl, rfl⟩ (fun rp S2 hp2 => ?_)
        obtain ⟨p1, p2, p3, p4⟩ := x_pf_I (by omega) i1 hn0 i4 hp2
        have hS2c : S2.1 192 2 = (j : Int) := by rw [p1.2 192 2 (by omega) (by omega)]; exact i3
        refine v_istore C dXC_findFault_87 (by decide) ?_
        refine v_iload C dXC_findFault_89 rfl ?_
        refine v_iconst C dXC_findFault_91 ?_
        refine v_icmp_eq (tgt := 98) C dXC_findFault_92 (by decide) (by omega) (by omega) (fun hc2 => ?_) (fun hc2 => ?_)
        · refine v_aload_n C dXC_findFault_98 rfl rfl ?_
          refine v_dup C dXC_findFault_99 rfl ?_
          refine v_getI (k := 192) (q := 2) (v := (j : Int)) C dXC_findFault_100 (by show (192 : Nat) < 383; decide) rfl rfl (by decide) rfl inXC lXC_22 rfl hS2c ?_
          refine v_iconst C dXC_findFault_103 ?_
          refine v_iadd C dXC_findFault_104 ?_
          refine v_putI (k := 192) (q := 2) C dXC_findFault_105 (by show (192 : Nat) < 383; decide) rfl rfl (by decide) rfl inXC tyXC_ok nmXC lXC_22 rfl rfl rfl rfl rfl ?_
          obtain ⟨S3, hS3⟩ : ∃ s, s = f_p1 S2 192 2 ((j : Int) + 1) := ⟨_, rfl⟩
          refine v_st hS3.symm ?_
          have h34 : S3.1 192 4 = S2.1 192 4 := by rw [hS3]; rfl
          have hp5 := p4 (by omega)
          refine v_aload_n C dXC_findFault_108 rfl rfl ?_
          refine v_getI (k := 192) (q := 4) (v := S3.1 192 4) C dXC_findFault_109 (by show (192 : Nat) < 383; decide) rfl rfl (by decide) rfl inXC lXC_49 rfl rfl ?_
          refine v_istore_n C dXC_findFault_112 rfl (by decide) ?_
          refine v_iload_n C dXC_findFault_113 rfl rfl ?_
          refine v_if_ne (tgt := 120) C dXC_findFault_114 (by decide) (by omega) (fun hc3 => ?_) (fun hc3 => ?_)
          · by_cases hm : m = 0
            · obtain rfl : j = 59 := by omega
              refine v_iinc C dXC_findFault_120 rfl (by decide) ?_
              refine v_goto (tgt := 70) C dXC_findFault_123 (by decide) ?_
              refine v_iload_n C dXC_findFault_70 rfl rfl ?_
              refine v_bipush C dXC_findFault_71 (by decide +kernel) ?_
              refine v_icmp_ge (tgt := 126) C dXC_findFault_73 (by decide) (by omega) (by omega) (fun hc4 => ?_) (fun hc4 => ?_)
              · refine v_iconst C dXC_findFault_126 ?_
                exact v_iret C hRt hLk dXC_findFault_127 (Or.inr ⟨hfl, Or.inr ⟨h10, y, Or.inr ⟨hok, _, S, x, by omega, hc, Or.inr ⟨rfl, S2, by rw [← show rp = -1 by omega]; exact hp2, by first | exact Or.inl (by omega) | exact Or.inr (by omega), hS3⟩⟩⟩⟩)
              · exfalso; omega
            refine v_iinc C dXC_findFault_120 rfl (by decide) ?_
            refine v_goto (tgt := 70) C dXC_findFault_123 (by decide) ?_
            exact v_lv rfl (ih (j + 1) (by omega) hm S3 (S3.1 192 4) ⟨S, x, S2, hc, by rw [← show rp = -1 by omega]; exact hp2, by omega, by omega, hS3⟩ _)
          · refine v_goto (tgt := 126) C dXC_findFault_117 (by decide) ?_
            refine v_iconst C dXC_findFault_126 ?_
            exact v_iret C hRt hLk dXC_findFault_127 (Or.inr ⟨hfl, Or.inr ⟨h10, y, Or.inr ⟨hok, _, S, x, by omega, hc, Or.inr ⟨rfl, S2, by rw [← show rp = -1 by omega]; exact hp2, by first | exact Or.inl (by omega) | exact Or.inr (by omega), hS3⟩⟩⟩⟩)
        · refine v_iload C dXC_findFault_95 rfl ?_
          exact v_iret C hRt hLk dXC_findFault_97 (Or.inr ⟨hfl, Or.inr ⟨h10, y, Or.inr ⟨hok, j, S, x, by omega, hc, Or.inl ⟨by omega, hp2⟩⟩⟩⟩)
  refine v_aload_n C dXC_findFault_0 rfl rfl ?_
  refine v_iconst C dXC_findFault_1 ?_
  refine v_putI (k := 192) (q := 2) C dXC_findFault_2 (by show (192 : Nat) < 383; decide) rfl rfl (by decide) rfl inXC tyXC_ok nmXC lXC_22 rfl rfl rfl rfl rfl ?_
  refine v_aload_n C dXC_findFault_5 rfl rfl ?_
  refine v_cVI (k := 192) (n := 0) C (xE_ok _) hEz hR (kX_XC_hasFirstLine _ D cA ad hJ (f_p1 σ 192 2 0) fb fn hfb hfn hn0 hb9) dXC_findFault_6 (by show (192 : Nat) < 383; decide) rfl rfl gXC_26 (by decide +kernel) (by decide) (by decide) rfl (Nat.le_of_ble_eq_true rfl) rfl ⟨rfl, rfl⟩ (fun rh σh hph => ?_)
  obtain ⟨hfl, rfl, rfl⟩ | ⟨hfl, rfl, rfl⟩ := hph
  · have hf4 := q_fl_r hfl
    refine v_if_ne (tgt := 14) C dXC_findFault_9 (by decide) (by omega) (fun hc5 => ?_) (fun hc5 => ?_)
    · refine v_aload_n C dXC_findFault_14 rfl rfl ?_
      refine v_getR (k := 192) (q := 0) C dXC_findFault_15 (by show (192 : Nat) < 383; decide) rfl rfl (by decide) rfl inXC lXC_17 rfl ?_
      refine v_aload_n C dXC_findFault_18 rfl rfl ?_
      refine v_getR (k := 192) (q := 0) C dXC_findFault_19 (by show (192 : Nat) < 383; decide) rfl rfl (by decide) rfl inXC lXC_17 rfl ?_
      refine v_getI (k := 8) (q := 1) (v := fn) C dXC_findFault_22 (by show (8 : Nat) < 383; decide) rfl rfl (by decide) rfl inXF lXC_30 rfl hfn ?_
      refine v_iconst C dXC_findFault_25 ?_
      refine v_isub C dXC_findFault_26 ?_
      refine v_cVI (k := 8) (n := 1) C (xE_ok _) hEz hR (kX_XF_valueAtF _ D cA ad hJ (f_p1 σ 192 2 0) (fn - 1) (by omega) fb fn hfb hfn hn0 hb9) dXC_findFault_27 (by show (8 : Nat) < 383; decide) rfl rfl gXC_33 (by decide +kernel) (by decide) (by decide) rfl (Nat.le_of_ble_eq_true rfl) rfl ⟨rfl, rfl⟩ (fun rb σb hpb => ?_)
      obtain ⟨eb, rfl⟩ := hpb
      subst eb
      have hvr := q_va_r hb9 fn (fn - 1)
      refine v_bipush C dXC_findFault_30 (by decide +kernel) ?_
      refine v_icmp_eq (tgt := 43) C dXC_findFault_32 (by decide) (by omega) (by omega) (fun hc6 => ?_) (fun hc6 => ?_)
      · refine v_aload_n C dXC_findFault_43 rfl rfl ?_
        refine v_cVI (k := 192) (n := 0) C (xE_ok _) hEz hR (kX_XC_lastLine _ D cA ad hJ (f_p1 σ 192 2 0) fb fn hfb hfn hn0 hb9 (by omega)) dXC_findFault_44 (by show (192 : Nat) < 383; decide) rfl rfl gXC_37 (by decide +kernel) (by decide) (by decide) rfl (Nat.le_of_ble_eq_true rfl) rfl ⟨rfl, rfl⟩ (fun rl σl hpl => ?_)
        obtain ⟨el, rfl⟩ := hpl
        have el2 : rl = q_lst fb fn := el
        subst el2
        have hlr := q_lst_r (fb := fb) (fn := fn) (by omega)
        refine v_istore_n C dXC_findFault_47 rfl (by decide) ?_
        refine v_aload_n C dXC_findFault_48 rfl rfl ?_
        refine v_iload_n C dXC_findFault_49 rfl rfl ?_
        refine v_bipush C dXC_findFault_50 (by decide +kernel) ?_
        refine v_cVI (k := 192) (n := 2) C (xE_ok _) hEz hR (kX_XC_tagged _ D cA ad hJ (f_p1 σ 192 2 0) (q_lst fb fn) 101 (by omega) (by omega) fb fn hfb hfn hn0 hb9) dXC_findFault_52 (by show (192 : Nat) < 383; decide) rfl rfl gXC_41 (by decide +kernel) (by decide) (by decide) rfl (Nat.le_of_ble_eq_true rfl) rfl ⟨rfl, rfl⟩ (fun rt σt hpt => ?_)
        obtain ⟨y, rfl, ⟨ht1, rfl, hy1⟩ | ⟨ht1, rfl⟩⟩ := hpt
        · have htr := q_tg_r ht1 (by decide)
          refine v_istore_n C dXC_findFault_55 rfl (by decide) ?_
          refine v_iload_n C dXC_findFault_56 rfl rfl ?_
          refine v_iconst C dXC_findFault_57 ?_
          refine v_icmp_eq (tgt := 66) C dXC_findFault_58 (by decide) (by omega) (by omega) (fun hc7 => ?_) (fun hc7 => ?_)
          · refine v_iload_n C dXC_findFault_66 rfl rfl ?_
            exact v_iret C hRt hLk dXC_findFault_67 (Or.inr ⟨hfl, Or.inr ⟨by omega, y, Or.inl ⟨fun h => by first | exact ht1 h.1 | (have := h.2; omega), rfl, rfl⟩⟩⟩)
          · refine v_iload_n C dXC_findFault_61 rfl rfl ?_
            refine v_iload_n C dXC_findFault_62 rfl rfl ?_
            refine v_icmp_lt (tgt := 68) C dXC_findFault_63 (by decide) (by omega) (by omega) (fun hc8 => ?_) (fun hc8 => ?_)
            · refine v_iconst C dXC_findFault_68 ?_
              refine v_istore_n C dXC_findFault_69 rfl (by decide) ?_
              exact L y hfl (by omega) ⟨ht1, by omega⟩ 60 0 (by omega) (by decide) _ _ ⟨rfl, rfl⟩ none
            · refine v_iload_n C dXC_findFault_66 rfl rfl ?_
              exact v_iret C hRt hLk dXC_findFault_67 (Or.inr ⟨hfl, Or.inr ⟨by omega, y, Or.inl ⟨fun h => by first | exact ht1 h.1 | (have := h.2; omega), rfl, rfl⟩⟩⟩)
        · refine v_istore_n C dXC_findFault_55 rfl (by decide) ?_
          refine v_iload_n C dXC_findFault_56 rfl rfl ?_
          refine v_iconst C dXC_findFault_57 ?_
          refine v_icmp_eq (tgt := 66) C dXC_findFault_58 (by decide) (by omega) (by omega) (fun hc9 => ?_) (fun hc9 => ?_)
          · refine v_iload_n C dXC_findFault_66 rfl rfl ?_
            exact v_iret C hRt hLk dXC_findFault_67 (Or.inr ⟨hfl, Or.inr ⟨by omega, y, Or.inl ⟨fun h => by first | exact ht1 h.1 | (have := h.2; omega), rfl, rfl⟩⟩⟩)
          · exfalso; omega
      · refine v_aload_n C dXC_findFault_35 rfl rfl ?_
        refine v_getR (k := 192) (q := 0) C dXC_findFault_36 (by show (192 : Nat) < 383; decide) rfl rfl (by decide) rfl inXC lXC_17 rfl ?_
        refine v_getI (k := 8) (q := 1) (v := fn) C dXC_findFault_39 (by show (8 : Nat) < 383; decide) rfl rfl (by decide) rfl inXF lXC_30 rfl hfn ?_
        exact v_iret C hRt hLk dXC_findFault_42 (Or.inr ⟨hfl, Or.inl ⟨by omega, rfl, rfl⟩⟩)
    · exfalso; omega
  · refine v_if_ne (tgt := 14) C dXC_findFault_9 (by decide) (by omega) (fun hc10 => ?_) (fun hc10 => ?_)
    · exfalso; omega
    · refine v_iconst C dXC_findFault_12 ?_
      exact v_iret C hRt hLk dXC_findFault_13 (Or.inl ⟨hfl, rfl, rfl⟩)
