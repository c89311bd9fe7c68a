/-! differ: when it counts none, all objects are alike -/
def x_al (σ : fS) (r p : Nat) (fb : Nat → Int) (fn n : Int) : Prop := σ.2 (r + 2) n.toNat = σ.2 (p + 2) n.toNat ∧ ∀ k : Nat, (k : Int) < σ.2 (r + 2) n.toNat → q_va fb fn (x_bp σ r n + (k : Int)) = q_va fb fn (x_bp σ p n + (k : Int))
def x_sm (σ : fS) (r p : Nat) (fb : Nat → Int) (fn n : Int) : Prop := (σ.2 (r + 1) n.toNat = -1 ∧ σ.2 (p + 1) n.toNat = -1) ∨ (σ.2 (r + 1) n.toNat ≠ -1 ∧ σ.2 (p + 1) n.toNat ≠ -1 ∧ x_al σ r p fb fn n)
theorem x_sm_cg {σ y : fS} {r p : Nat} {fb : Nat → Int} {fn n : Int} (hr : r + 2 < 380) (hp : p + 2 < 380) (h : ∀ a, a ≠ 381 → a ≠ 382 → y.2 a = σ.2 a) (hs : x_sm y r p fb fn n) : x_sm σ r p fb fn n := by
  unfold x_sm x_al x_bp at hs ⊢
  rw [h (r + 1) (by omega) (by omega), h (r + 2) (by omega) (by omega), h (p + 1) (by omega) (by omega), h (p + 2) (by omega) (by omega)] at hs
  exact hs
def x_zz (σ : fS) (r p : Nat) (fb : Nat → Int) (fn : Int) (k : Nat) (y : fS) : Prop := y.1 380 2 = 0 → ∀ j : Int, 1 ≤ j → j ≤ (k : Int) → x_sm σ r p fb fn j
theorem x_zz_0 (σ y : fS) (r p : Nat) (fb : Nat → Int) (fn : Int) : x_zz σ r p fb fn 0 y := fun _ j h1 h2 => absurd h2 (by push_cast; omega)
theorem x_zz_n {σ y : fS} {r p k : Nat} {fb : Nat → Int} {fn : Int} (h : x_zz σ r p fb fn k y) (hs : x_sm σ r p fb fn ((k : Int) + 1)) : x_zz σ r p fb fn (k + 1) y := by
  intro h0 j h1 h2
  by_cases g : j ≤ (k : Int)
  · exact h h0 j h1 g
  · obtain rfl : j = (k : Int) + 1 := by push_cast at h2; omega
    exact hs
theorem x_zz_s {σ y : fS} {r p k a b : Nat} {fb : Nat → Int} {fn u v : Int} (h : 0 ≤ y.1 380 2) : x_zz σ r p fb fn (k + 1) (f_p1 (f_p2 (f_p2 y 381 a u) 382 b v) 380 2 (y.1 380 2 + 1)) := by
  intro h0
  rw [p1_1, if_pos ⟨rfl, rfl⟩] at h0
  omega
set_option maxRecDepth 100000 in
set_option maxHeartbeats 4000000 in
/-- alike -/
theorem kX_XG_alike3 (l : Launch) (D : va_G) (cA : Nat → ClassId) (ad : Nat → Nat) (hJ : f_J (xG D cA ad)) (σ : fS) (n : Int) (hn : 1 ≤ n ∧ n ≤ 40) (r : Nat) (hr : r + 2 < 383) (hY0 : xY r = .inl (4, 4, fXT r)) (hY1 : xY (r + 1) = .inr (.inl (0, 41))) (hY2 : xY (r + 2) = .inr (.inl (0, 41))) (p : Nat) (hp : p + 2 < 383) (hZ0 : xY p = .inl (4, 4, fXT p)) (hZ1 : xY (p + 1) = .inr (.inl (0, 41))) (hZ2 : xY (p + 2) = .inr (.inl (0, 41))) (fb : Nat → Int) (fn : Int) (hfb : σ.2 9 = fb) (hfn : σ.1 8 1 = fn) (hn0 : 0 ≤ fn ∧ fn ≤ 12000) (hb9 : ∀ i, -128 ≤ fb i ∧ fb i ≤ 127) (hbr : ∀ i, -2 ≤ σ.2 (r + 1) i ∧ σ.2 (r + 1) i ≤ 99999) (hlr : ∀ i, 0 ≤ σ.2 (r + 2) i ∧ σ.2 (r + 2) i ≤ 120) (hbp : ∀ i, -2 ≤ σ.2 (p + 1) i ∧ σ.2 (p + 1) i ≤ 99999) (hlp : ∀ i, 0 ≤ σ.2 (p + 2) i ∧ σ.2 (p + 2) i ≤ 120) : f_M l (xG D cA ad) (xE (xG D cA ad)) yXG_alike (Cond.code yXG_alike cXG_alike 8 (some .boolean) :: A9) 2 σ [.ref (ad 380), .int (fI n), .ref (ad 8), .ref (ad (r)), .ref (ad (p))] (f_QI (fun v σ1 => ((0 ≤ v ∧ v ≤ 1) ∧ (v = 1 → x_al σ r p fb fn n)) ∧ σ1 = σ) (xG D cA ad)) := by
  refine f_enter (by decide +kernel) hJ rfl (Nat.le_of_ble_eq_true rfl) ?_
  intro z hzl hR C hRt hLk hEz
  subst hzl
  have hRR : 2 ≤ z.2.2.2.1.frames ∧ 40 * 2 ≤ z.2.2.2.1.locals ∧ 0 ≤ z.2.2.2.1.cells ∧ 0 ≤ z.2.2.2.1.slots := by rw [hR]; exact ⟨Nat.le_refl _, Nat.le_refl _, Nat.zero_le _, Nat.zero_le _⟩
  have hbr1 := hbr n.toNat
  have hlr1 := hlr n.toNat
  have hbp1 := hbp n.toNat
  have hlp1 := hlp n.toNat
  have hd1 := x_dgs_r n
  have hd2 := x_dgs_r (σ.2 (r + 2) n.toNat)
  have hd3 := x_dgs_r (σ.2 (p + 2) n.toNat)
  have hx1 : x_bp σ r n = σ.2 (r + 1) n.toNat + 4 + x_dgs n + x_dgs (σ.2 (r + 2) n.toNat) := rfl
  have hx2 : x_bp σ p n = σ.2 (p + 1) n.toNat + 4 + x_dgs n + x_dgs (σ.2 (p + 2) n.toNat) := rfl
  have L : σ.2 (r + 2) n.toNat = σ.2 (p + 2) n.toNat → ∀ (m k : Nat), m + k = (σ.2 (r + 2) n.toNat).toNat → (∀ j : Nat, j < k → q_va fb fn (x_bp σ r n + (j : Int)) = q_va fb fn (x_bp σ p n + (j : Int))) → fv z (xG D cA ad) 8 (f_R z (xG D cA ad) (f_QI (fun v σ1 => ((0 ≤ v ∧ v ≤ 1) ∧ (v = 1 → x_al σ r p fb fn n)) ∧ σ1 = σ) (xG D cA ad))) 0 0 σ 36 [some (.ref (ad 380)), some (.int (fI n)), some (.ref (ad 8)), some (.ref (ad r)), some (.ref (ad p)), some (.int (fI (x_bp σ r n))), some (.int (fI (x_bp σ p n))), some (.int (fI (k : Int)))] [] := by
    intro hcc m
    induction m with
    | zero =>
      intro k hk hall
      refine v_iload C dXG_alike_36 rfl ?_
      refine v_aload_n C dXG_alike_38 rfl rfl ?_
      refine v_getR (k := r) (q := 1) C dXG_alike_39 (by show (r : Nat) < 383; omega) (hY0) rfl (by decide) rfl inXT lXG_35 rfl ?_
      refine v_iload_n C dXG_alike_42 rfl rfl ?_
      refine v_iald (k := (r + 2)) (v := σ.2 (r + 2) (n).toNat) C dXG_alike_43 (by show ((r + 2) : Nat) < 383; omega) (hY2) rfl (by omega) (by decide) rfl ?_
      refine v_icmp_ge (tgt := 76) C dXG_alike_44 (by decide) (by omega) (by omega) (fun hc1 => ?_) (fun hc1 => ?_)
      · refine v_iconst C dXG_alike_76 ?_
        exact v_zret C hRt hLk dXG_alike_77 (fN_bool (by omega)) ⟨⟨by omega, fun _ => ⟨hcc, fun j hj => hall j (by omega)⟩⟩, rfl⟩
      · exfalso; omega
    | succ m ih =>
      intro k hk hall
      refine v_iload C dXG_alike_36 rfl ?_
      refine v_aload_n C dXG_alike_38 rfl rfl ?_
      refine v_getR (k := r) (q := 1) C dXG_alike_39 (by show (r : Nat) < 383; omega) (hY0) rfl (by decide) rfl inXT lXG_35 rfl ?_
      refine v_iload_n C dXG_alike_42 rfl rfl ?_
      refine v_iald (k := (r + 2)) (v := σ.2 (r + 2) (n).toNat) C dXG_alike_43 (by show ((r + 2) : Nat) < 383; omega) (hY2) rfl (by omega) (by decide) rfl ?_
      refine v_icmp_ge (tgt := 76) C dXG_alike_44 (by decide) (by omega) (by omega) (fun hc2 => ?_) (fun hc2 => ?_)
      · exfalso; omega
      · refine v_aload_n C dXG_alike_47 rfl rfl ?_
        refine v_iload C dXG_alike_48 rfl ?_
        refine v_iload C dXG_alike_50 rfl ?_
        refine v_iadd C dXG_alike_52 ?_
        refine v_cVI (k := 8) (n := 1) C (xE_ok _) hEz hR (kX_XF_valueAtF _ D cA ad hJ σ (((x_bp σ r n) + (k : Int))) (by omega) fb fn hfb hfn hn0 hb9) dXG_alike_53 (by show (8 : Nat) < 383; decide) rfl rfl gXG_42 (by decide +kernel) (by decide) (by decide) rfl (Nat.le_of_ble_eq_true rfl) rfl ⟨rfl, rfl⟩ (fun rv3 σv3 hpv3 => ?_)
        obtain ⟨ev3, fv3⟩ := hpv3
        subst σv3
        subst ev3
        have hv3 := q_va_r hb9 fn (((x_bp σ r n) + (k : Int)))
        refine v_aload_n C dXG_alike_56 rfl rfl ?_
        refine v_iload C dXG_alike_57 rfl ?_
        refine v_iload C dXG_alike_59 rfl ?_
        refine v_iadd C dXG_alike_61 ?_
        refine v_cVI (k := 8) (n := 1) C (xE_ok _) hEz hR (kX_XF_valueAtF _ D cA ad hJ σ (((x_bp σ p n) + (k : Int))) (by omega) fb fn hfb hfn hn0 hb9) dXG_alike_62 (by show (8 : Nat) < 383; decide) rfl rfl gXG_42 (by decide +kernel) (by decide) (by decide) rfl (Nat.le_of_ble_eq_true rfl) rfl ⟨rfl, rfl⟩ (fun rv4 σv4 hpv4 => ?_)
        obtain ⟨ev4, fv4⟩ := hpv4
        subst σv4
        subst ev4
        have hv4 := q_va_r hb9 fn (((x_bp σ p n) + (k : Int)))
        refine v_icmp_eq (tgt := 70) C dXG_alike_65 (by decide) (by omega) (by omega) (fun hc5 => ?_) (fun hc5 => ?_)
        · refine v_iinc C dXG_alike_70 rfl (by decide) ?_
          refine v_goto (tgt := 36) C dXG_alike_73 (by decide) ?_
          exact v_lv rfl (ih (k + 1) (by omega) (fun j hj => by by_cases g : j < k; (· exact hall j g); (· obtain rfl : j = k := (by omega); assumption)))
        · refine v_iconst C dXG_alike_68 ?_
          exact v_zret C hRt hLk dXG_alike_69 (fN_bool (by omega)) ⟨⟨by omega, fun h => absurd h (by decide)⟩, rfl⟩
  refine v_aload_n C dXG_alike_0 rfl rfl ?_
  refine v_getR (k := r) (q := 1) C dXG_alike_1 (by show (r : Nat) < 383; omega) (hY0) rfl (by decide) rfl inXT lXG_35 rfl ?_
  refine v_iload_n C dXG_alike_4 rfl rfl ?_
  refine v_iald (k := (r + 2)) (v := σ.2 (r + 2) (n).toNat) C dXG_alike_5 (by show ((r + 2) : Nat) < 383; omega) (hY2) rfl (by omega) (by decide) rfl ?_
  refine v_aload C dXG_alike_6 rfl ?_
  refine v_getR (k := p) (q := 1) C dXG_alike_8 (by show (p : Nat) < 383; omega) hZ0 rfl (by decide) rfl inXT lXG_35 rfl ?_
  refine v_iload_n C dXG_alike_11 rfl rfl ?_
  refine v_iald (k := (p + 2)) (v := σ.2 (p + 2) (n).toNat) C dXG_alike_12 (by show ((p + 2) : Nat) < 383; omega) hZ2 rfl (by omega) (by decide) rfl ?_
  refine v_icmp_eq (tgt := 18) C dXG_alike_13 (by decide) (by omega) (by omega) (fun hc6 => ?_) (fun hc6 => ?_)
  · refine v_aload_n C dXG_alike_18 rfl rfl ?_
    refine v_iload_n C dXG_alike_19 rfl rfl ?_
    refine v_cVI (k := r) (n := 1) C (xE_ok _) hEz hR (kX_XT_bytesPlace _ D cA ad hJ σ r hr hY0 hY1 hY2 n hn (by omega)) dXG_alike_20 (by show (r : Nat) < 383; omega) (hY0) rfl gXG_38 (by decide +kernel) (by decide) (by decide) rfl (Nat.le_of_ble_eq_true rfl) rfl ⟨rfl, rfl⟩ (fun rp7 σp7 hpp7 => ?_)
    obtain ⟨ep7, fp7⟩ := hpp7
    subst σp7
    subst ep7
    refine v_istore C dXG_alike_23 (by decide) ?_
    refine v_aload C dXG_alike_25 rfl ?_
    refine v_iload_n C dXG_alike_27 rfl rfl ?_
    refine v_cVI (k := p) (n := 1) C (xE_ok _) hEz hR (kX_XT_bytesPlace _ D cA ad hJ σ p hp hZ0 hZ1 hZ2 n hn (by omega)) dXG_alike_28 (by show (p : Nat) < 383; omega) hZ0 rfl gXG_38 (by decide +kernel) (by decide) (by decide) rfl (Nat.le_of_ble_eq_true rfl) rfl ⟨rfl, rfl⟩ (fun rp8 σp8 hpp8 => ?_)
    obtain ⟨ep8, fp8⟩ := hpp8
    subst σp8
    subst ep8
    refine v_istore C dXG_alike_31 (by decide) ?_
    refine v_iconst C dXG_alike_33 ?_
    refine v_istore C dXG_alike_34 (by decide) ?_
    exact v_lv rfl (L (by assumption) (σ.2 (r + 2) n.toNat).toNat 0 (by omega) (fun j hj => absurd hj (by omega)))
  · refine v_iconst C dXG_alike_16 ?_
    exact v_zret C hRt hLk dXG_alike_17 (fN_bool (by omega)) ⟨⟨by omega, fun h => absurd h (by decide)⟩, rfl⟩
set_option maxRecDepth 100000 in
set_option maxHeartbeats 4000000 in
/-- kindOf -/
theorem kX_XG_kindOf3 (l : Launch) (D : va_G) (cA : Nat → ClassId) (ad : Nat → Nat) (hJ : f_J (xG D cA ad)) (σ : fS) (n : Int) (hn : 1 ≤ n ∧ n ≤ 40) (r : Nat) (hr : r + 2 < 383) (hY0 : xY r = .inl (4, 4, fXT r)) (hY1 : xY (r + 1) = .inr (.inl (0, 41))) (hY2 : xY (r + 2) = .inr (.inl (0, 41))) (p : Nat) (hp : p + 2 < 383) (hZ0 : xY p = .inl (4, 4, fXT p)) (hZ1 : xY (p + 1) = .inr (.inl (0, 41))) (hZ2 : xY (p + 2) = .inr (.inl (0, 41))) (fb : Nat → Int) (fn : Int) (hfb : σ.2 9 = fb) (hfn : σ.1 8 1 = fn) (hn0 : 0 ≤ fn ∧ fn ≤ 12000) (hb9 : ∀ i, -128 ≤ fb i ∧ fb i ≤ 127) (hbr : ∀ i, -2 ≤ σ.2 (r + 1) i ∧ σ.2 (r + 1) i ≤ 99999) (hlr : ∀ i, 0 ≤ σ.2 (r + 2) i ∧ σ.2 (r + 2) i ≤ 120) (hbp : ∀ i, -2 ≤ σ.2 (p + 1) i ∧ σ.2 (p + 1) i ≤ 99999) (hlp : ∀ i, 0 ≤ σ.2 (p + 2) i ∧ σ.2 (p + 2) i ≤ 120) : f_M l (xG D cA ad) (xE (xG D cA ad)) yXG_kindOf (Cond.code yXG_kindOf cXG_kindOf 7 (some .int) :: A9) 3 σ [.ref (ad 380), .int (fI n), .ref (ad 8), .ref (ad (r)), .ref (ad (p))] (f_QI (fun v σ1 => ((0 ≤ v ∧ v ≤ 3) ∧ (v = 0 → x_sm σ r p fb fn n)) ∧ σ1 = σ) (xG D cA ad)) := by
  refine f_enter (by decide +kernel) hJ rfl (Nat.le_of_ble_eq_true rfl) ?_
  intro z hzl hR C hRt hLk hEz
  subst hzl
  have hRR : 3 ≤ z.2.2.2.1.frames ∧ 40 * 3 ≤ z.2.2.2.1.locals ∧ 0 ≤ z.2.2.2.1.cells ∧ 0 ≤ z.2.2.2.1.slots := by rw [hR]; exact ⟨Nat.le_refl _, Nat.le_refl _, Nat.zero_le _, Nat.zero_le _⟩
  have hbr1 := hbr n.toNat
  have hlr1 := hlr n.toNat
  have hbp1 := hbp n.toNat
  have hlp1 := hlp n.toNat
  have hd1 := x_dgs_r n
  have hd2 := x_dgs_r (σ.2 (r + 2) n.toNat)
  have hd3 := x_dgs_r (σ.2 (p + 2) n.toNat)
  have hx1 : x_bp σ r n = σ.2 (r + 1) n.toNat + 4 + x_dgs n + x_dgs (σ.2 (r + 2) n.toNat) := rfl
  have hx2 : x_bp σ p n = σ.2 (p + 1) n.toNat + 4 + x_dgs n + x_dgs (σ.2 (p + 2) n.toNat) := rfl
  refine v_aload_n C dXG_kindOf_0 rfl rfl ?_
  refine v_getR (k := r) (q := 0) C dXG_kindOf_1 (by show (r : Nat) < 383; omega) (hY0) rfl (by decide) rfl inXT lXG_26 rfl ?_
  refine v_iload_n C dXG_kindOf_4 rfl rfl ?_
  refine v_iald (k := (r + 1)) (v := σ.2 (r + 1) (n).toNat) C dXG_kindOf_5 (by show ((r + 1) : Nat) < 383; omega) (hY1) rfl (by omega) (by decide) rfl ?_
  refine v_iconst C dXG_kindOf_6 ?_
  refine v_icmp_eq (tgt := 14) C dXG_kindOf_7 (by decide) (by omega) (by omega) (fun hc1 => ?_) (fun hc1 => ?_)
  · refine v_iconst C dXG_kindOf_14 ?_
    refine v_istore C dXG_kindOf_15 (by decide) ?_
    refine v_aload C dXG_kindOf_17 rfl ?_
    refine v_getR (k := p) (q := 0) C dXG_kindOf_19 (by show (p : Nat) < 383; omega) hZ0 rfl (by decide) rfl inXT lXG_26 rfl ?_
    refine v_iload_n C dXG_kindOf_22 rfl rfl ?_
    refine v_iald (k := (p + 1)) (v := σ.2 (p + 1) (n).toNat) C dXG_kindOf_23 (by show ((p + 1) : Nat) < 383; omega) hZ1 rfl (by omega) (by decide) rfl ?_
    refine v_iconst C dXG_kindOf_24 ?_
    refine v_icmp_eq (tgt := 32) C dXG_kindOf_25 (by decide) (by omega) (by omega) (fun hc2 => ?_) (fun hc2 => ?_)
    · refine v_iconst C dXG_kindOf_32 ?_
      refine v_istore C dXG_kindOf_33 (by decide) ?_
      refine v_iload C dXG_kindOf_35 rfl ?_
      refine v_if_eq (tgt := 63) C dXG_kindOf_37 (by decide) (by omega) (fun hc3 => ?_) (fun hc3 => ?_)
      · refine v_iload C dXG_kindOf_63 rfl ?_
        refine v_if_eq (tgt := 70) C dXG_kindOf_65 (by decide) (by omega) (fun hc4 => ?_) (fun hc4 => ?_)
        · refine v_iload C dXG_kindOf_70 rfl ?_
          refine v_if_eq (tgt := 79) C dXG_kindOf_72 (by decide) (by omega) (fun hc5 => ?_) (fun hc5 => ?_)
          · refine v_iconst C dXG_kindOf_79 ?_
            exact v_iret C hRt hLk dXG_kindOf_80 ⟨⟨by omega, fun h0 => by first | exact absurd h0 (by decide) | exact Or.inl ⟨by omega, by omega⟩ | exact Or.inr ⟨by omega, by omega, ea2 (by omega)⟩⟩, rfl⟩
          · exfalso; omega
        · exfalso; omega
      · exfalso; omega
    · refine v_iconst C dXG_kindOf_28 ?_
      refine v_goto (tgt := 33) C dXG_kindOf_29 (by decide) ?_
      refine v_istore C dXG_kindOf_33 (by decide) ?_
      refine v_iload C dXG_kindOf_35 rfl ?_
      refine v_if_eq (tgt := 63) C dXG_kindOf_37 (by decide) (by omega) (fun hc6 => ?_) (fun hc6 => ?_)
      · refine v_iload C dXG_kindOf_63 rfl ?_
        refine v_if_eq (tgt := 70) C dXG_kindOf_65 (by decide) (by omega) (fun hc7 => ?_) (fun hc7 => ?_)
        · refine v_iload C dXG_kindOf_70 rfl ?_
          refine v_if_eq (tgt := 79) C dXG_kindOf_72 (by decide) (by omega) (fun hc8 => ?_) (fun hc8 => ?_)
          · exfalso; omega
          · refine v_iconst C dXG_kindOf_75 ?_
            refine v_goto (tgt := 80) C dXG_kindOf_76 (by decide) ?_
            exact v_iret C hRt hLk dXG_kindOf_80 ⟨⟨by omega, fun h0 => by first | exact absurd h0 (by decide) | exact Or.inl ⟨by omega, by omega⟩ | exact Or.inr ⟨by omega, by omega, ea2 (by omega)⟩⟩, rfl⟩
        · exfalso; omega
      · exfalso; omega
  · refine v_iconst C dXG_kindOf_10 ?_
    refine v_goto (tgt := 15) C dXG_kindOf_11 (by decide) ?_
    refine v_istore C dXG_kindOf_15 (by decide) ?_
    refine v_aload C dXG_kindOf_17 rfl ?_
    refine v_getR (k := p) (q := 0) C dXG_kindOf_19 (by show (p : Nat) < 383; omega) hZ0 rfl (by decide) rfl inXT lXG_26 rfl ?_
    refine v_iload_n C dXG_kindOf_22 rfl rfl ?_
    refine v_iald (k := (p + 1)) (v := σ.2 (p + 1) (n).toNat) C dXG_kindOf_23 (by show ((p + 1) : Nat) < 383; omega) hZ1 rfl (by omega) (by decide) rfl ?_
    refine v_iconst C dXG_kindOf_24 ?_
    refine v_icmp_eq (tgt := 32) C dXG_kindOf_25 (by decide) (by omega) (by omega) (fun hc9 => ?_) (fun hc9 => ?_)
    · refine v_iconst C dXG_kindOf_32 ?_
      refine v_istore C dXG_kindOf_33 (by decide) ?_
      refine v_iload C dXG_kindOf_35 rfl ?_
      refine v_if_eq (tgt := 63) C dXG_kindOf_37 (by decide) (by omega) (fun hc10 => ?_) (fun hc10 => ?_)
      · exfalso; omega
      · refine v_iload C dXG_kindOf_40 rfl ?_
        refine v_if_eq (tgt := 63) C dXG_kindOf_42 (by decide) (by omega) (fun hc11 => ?_) (fun hc11 => ?_)
        · refine v_iload C dXG_kindOf_63 rfl ?_
          refine v_if_eq (tgt := 70) C dXG_kindOf_65 (by decide) (by omega) (fun hc12 => ?_) (fun hc12 => ?_)
          · exfalso; omega
          · refine v_iconst C dXG_kindOf_68 ?_
            exact v_iret C hRt hLk dXG_kindOf_69 ⟨⟨by omega, fun h0 => by first | exact absurd h0 (by decide) | exact Or.inl ⟨by omega, by omega⟩ | exact Or.inr ⟨by omega, by omega, ea2 (by omega)⟩⟩, rfl⟩
        · exfalso; omega
    · refine v_iconst C dXG_kindOf_28 ?_
      refine v_goto (tgt := 33) C dXG_kindOf_29 (by decide) ?_
      refine v_istore C dXG_kindOf_33 (by decide) ?_
      refine v_iload C dXG_kindOf_35 rfl ?_
      refine v_if_eq (tgt := 63) C dXG_kindOf_37 (by decide) (by omega) (fun hc13 => ?_) (fun hc13 => ?_)
      · exfalso; omega
      · refine v_iload C dXG_kindOf_40 rfl ?_
        refine v_if_eq (tgt := 63) C dXG_kindOf_42 (by decide) (by omega) (fun hc14 => ?_) (fun hc14 => ?_)
        · exfalso; omega
        · refine v_aload_n C dXG_kindOf_45 rfl rfl ?_
          refine v_iload_n C dXG_kindOf_46 rfl rfl ?_
          refine v_aload_n C dXG_kindOf_47 rfl rfl ?_
          refine v_aload_n C dXG_kindOf_48 rfl rfl ?_
          refine v_aload C dXG_kindOf_49 rfl ?_
          refine v_cVI (k := 380) (n := 4) C (xE_ok _) hEz hR (kX_XG_alike3 _ D cA ad hJ σ n hn r hr hY0 hY1 hY2 p hp hZ0 hZ1 hZ2 fb fn hfb hfn hn0 hb9 hbr hlr hbp hlp) dXG_kindOf_51 (by show (380 : Nat) < 383; decide) rfl rfl gXG_31 (by decide +kernel) (by decide) (by decide) rfl (Nat.le_of_ble_eq_true rfl) rfl ⟨rfl, rfl⟩ (fun ra σa hpa => ?_)
          obtain ⟨⟨ea, ea2⟩, fa⟩ := hpa
          subst σa
          refine v_if_eq (tgt := 61) C dXG_kindOf_54 (by decide) (by omega) (fun hc15 => ?_) (fun hc15 => ?_)
          · refine v_iconst C dXG_kindOf_61 ?_
            exact v_iret C hRt hLk dXG_kindOf_62 ⟨⟨by omega, fun h0 => by first | exact absurd h0 (by decide) | exact Or.inl ⟨by omega, by omega⟩ | exact Or.inr ⟨by omega, by omega, ea2 (by omega)⟩⟩, rfl⟩
          · refine v_iconst C dXG_kindOf_57 ?_
            refine v_goto (tgt := 62) C dXG_kindOf_58 (by decide) ?_
            exact v_iret C hRt hLk dXG_kindOf_62 ⟨⟨by omega, fun h0 => by first | exact absurd h0 (by decide) | exact Or.inl ⟨by omega, by omega⟩ | exact Or.inr ⟨by omega, by omega, ea2 (by omega)⟩⟩, rfl⟩
set_option maxRecDepth 100000 in
set_option maxHeartbeats 4000000 in
/-- compare -/
theorem kX_XG_compare3 (l : Launch) (D : va_G) (cA : Nat → ClassId) (ad : Nat → Nat) (hJ : f_J (xG D cA ad)) (σ : fS) (r : Nat) (hr : r + 2 < 383) (hY0 : xY r = .inl (4, 4, fXT r)) (hY1 : xY (r + 1) = .inr (.inl (0, 41))) (hY2 : xY (r + 2) = .inr (.inl (0, 41))) (hr8 : r + 2 < 380) (p : Nat) (hp : p + 2 < 383) (hZ0 : xY p = .inl (4, 4, fXT p)) (hZ1 : xY (p + 1) = .inr (.inl (0, 41))) (hZ2 : xY (p + 2) = .inr (.inl (0, 41))) (hp8 : p + 2 < 380) (fb : Nat → Int) (fn : Int) (hfb : σ.2 9 = fb) (hfn : σ.1 8 1 = fn) (hn0 : 0 ≤ fn ∧ fn ≤ 12000) (hb9 : ∀ i, -128 ≤ fb i ∧ fb i ≤ 127) (hbr : ∀ i, -2 ≤ σ.2 (r + 1) i ∧ σ.2 (r + 1) i ≤ 99999) (hlr : ∀ i, 0 ≤ σ.2 (r + 2) i ∧ σ.2 (r + 2) i ≤ 120) (hbp : ∀ i, -2 ≤ σ.2 (p + 1) i ∧ σ.2 (p + 1) i ≤ 99999) (hlp : ∀ i, 0 ≤ σ.2 (p + 2) i ∧ σ.2 (p + 2) i ≤ 120) : f_M l (xG D cA ad) (xE (xG D cA ad)) yXG_compare (Cond.code yXG_compare cXG_compare 6 none :: A9) 4 σ [.ref (ad 380), .ref (ad 8), .ref (ad (r)), .ref (ad (p))] (f_QV (fun σ1 => x_frD σ 40 σ1 ∧ x_zz σ r p fb fn 40 σ1) (xG D cA ad)) := by
  refine f_enter (by decide +kernel) hJ rfl (Nat.le_of_ble_eq_true rfl) ?_
  intro z hzl hR C hRt hLk hEz
  subst hzl
  have hRR : 4 ≤ z.2.2.2.1.frames ∧ 40 * 4 ≤ z.2.2.2.1.locals ∧ 0 ≤ z.2.2.2.1.cells ∧ 0 ≤ z.2.2.2.1.slots := by rw [hR]; exact ⟨Nat.le_refl _, Nat.le_refl _, Nat.zero_le _, Nat.zero_le _⟩
  have L : ∀ (m k : Nat), m + k = 40 → ∀ (y : fS), x_frD σ k y → x_zz σ r p fb fn k y → ∀ o5 : Option Value, fv z (xG D cA ad) 6 (f_R z (xG D cA ad) (f_QV (fun σ1 => x_frD σ 40 σ1 ∧ x_zz σ r p fb fn 40 σ1) (xG D cA ad))) 0 0 y 8 [some (.ref (ad 380)), some (.ref (ad 8)), some (.ref (ad r)), some (.ref (ad p)), some (.int (fI ((k : Int) + 1))), o5] [] := by
    intro m
    induction m with
    | zero =>
      intro k hk y hf hzz o5
      have hf3 := hf.2.2.1
      obtain rfl : k = 40 := by omega
      refine v_iload C dXG_compare_8 rfl ?_
      refine v_bipush C dXG_compare_10 (by decide +kernel) ?_
      refine v_icmp_gt (tgt := 69) C dXG_compare_12 (by decide) (by omega) (by omega) (fun hc1 => ?_) (fun hc1 => ?_)
      · exact v_vret C hRt hLk dXG_compare_69 ⟨hf, hzz⟩
      · exfalso; omega
    | succ m ih =>
      intro k hk y hf hzz o5
      have hf3 := hf.2.2.1
      refine v_iload C dXG_compare_8 rfl ?_
      refine v_bipush C dXG_compare_10 (by decide +kernel) ?_
      refine v_icmp_gt (tgt := 69) C dXG_compare_12 (by decide) (by omega) (by omega) (fun hc2 => ?_) (fun hc2 => ?_)
      · exfalso; omega
      · refine v_aload_n C dXG_compare_15 rfl rfl ?_
        refine v_iload C dXG_compare_16 rfl ?_
        refine v_aload_n C dXG_compare_18 rfl rfl ?_
        refine v_aload_n C dXG_compare_19 rfl rfl ?_
        refine v_aload_n C dXG_compare_20 rfl rfl ?_
        refine v_cVI (k := 380) (n := 4) C (xE_ok _) hEz hR (kX_XG_kindOf3 _ D cA ad hJ y ((k : Int) + 1) (by omega) r hr hY0 hY1 hY2 p hp hZ0 hZ1 hZ2 fb fn (by rw [hf.1 9 (by omega) (by omega)]; exact hfb) (by rw [hf.2.1 8 1 (by omega)]; exact hfn) hn0 hb9 (fun i => by rw [hf.1 (r + 1) (by omega) (by omega)]; exact hbr i) (fun i => by rw [hf.1 (r + 2) (by omega) (by omega)]; exact hlr i) (fun i => by rw [hf.1 (p + 1) (by omega) (by omega)]; exact hbp i) (fun i => by rw [hf.1 (p + 2) (by omega) (by omega)]; exact hlp i)) dXG_compare_21 (by show (380 : Nat) < 383; decide) rfl rfl gXG_22 (by decide +kernel) (by decide) (by decide) rfl (Nat.le_of_ble_eq_true rfl) rfl ⟨rfl, rfl⟩ (fun rk σk hpk => ?_)
        obtain ⟨⟨ek, ek2⟩, fk⟩ := hpk
        subst σk
        refine v_istore C dXG_compare_24 (by decide) ?_
        refine v_iload C dXG_compare_26 rfl ?_
        refine v_if_eq (tgt := 63) C dXG_compare_28 (by decide) (by omega) (fun hc3 => ?_) (fun hc3 => ?_)
        · refine v_iinc C dXG_compare_63 rfl (by decide) ?_
          refine v_goto (tgt := 8) C dXG_compare_66 (by decide) ?_
          first | exact v_lv rfl (ih (k + 1) (by omega) _ (x_frD_n hf) (x_zz_n hzz (x_sm_cg hr8 hp8 hf.1 (ek2 (by omega)))) _) | exact v_lv rfl (ih (k + 1) (by omega) _ (x_frD_s hf (by omega) (by omega)) (x_zz_s hf3.1) _)
        · refine v_aload_n C dXG_compare_31 rfl rfl ?_
          refine v_getR (k := 380) (q := 0) C dXG_compare_32 (by show (380 : Nat) < 383; decide) rfl rfl (by decide) rfl inXG lXG_9 rfl ?_
          refine v_aload_n C dXG_compare_35 rfl rfl ?_
          refine v_getI (k := 380) (q := 2) (v := y.1 380 2) C dXG_compare_36 (by show (380 : Nat) < 383; decide) rfl rfl (by decide) rfl inXG lXG_18 rfl rfl ?_
          refine v_iload C dXG_compare_39 rfl ?_
          refine v_iast (k := 381) C dXG_compare_41 (by show (381 : Nat) < 383; decide) rfl rfl (by omega) (by decide) ?_
          refine v_aload_n C dXG_compare_42 rfl rfl ?_
          refine v_getR (k := 380) (q := 1) C dXG_compare_43 (by show (380 : Nat) < 383; decide) rfl rfl (by decide) rfl inXG lXG_15 rfl ?_
          refine v_aload_n C dXG_compare_46 rfl rfl ?_
          refine v_getI (k := 380) (q := 2) (v := y.1 380 2) C dXG_compare_47 (by show (380 : Nat) < 383; decide) rfl rfl (by decide) rfl inXG lXG_18 rfl rfl ?_
          refine v_iload C dXG_compare_50 rfl ?_
          refine v_iast (k := 382) C dXG_compare_52 (by show (382 : Nat) < 383; decide) rfl rfl (by omega) (by decide) ?_
          refine v_aload_n C dXG_compare_53 rfl rfl ?_
          refine v_dup C dXG_compare_54 rfl ?_
          refine v_getI (k := 380) (q := 2) (v := y.1 380 2) C dXG_compare_55 (by show (380 : Nat) < 383; decide) rfl rfl (by decide) rfl inXG lXG_18 rfl rfl ?_
          refine v_iconst C dXG_compare_58 ?_
          refine v_iadd C dXG_compare_59 ?_
          refine v_putI (k := 380) (q := 2) C dXG_compare_60 (by show (380 : Nat) < 383; decide) rfl rfl (by decide) rfl inXG tyXG_ok nmXG lXG_18 rfl rfl rfl rfl rfl ?_
          refine v_iinc C dXG_compare_63 rfl (by decide) ?_
          refine v_goto (tgt := 8) C dXG_compare_66 (by decide) ?_
          first | exact v_lv rfl (ih (k + 1) (by omega) _ (x_frD_n hf) (x_zz_n hzz (x_sm_cg hr8 hp8 hf.1 (ek2 (by omega)))) _) | exact v_lv rfl (ih (k + 1) (by omega) _ (x_frD_s hf (by omega) (by omega)) (x_zz_s hf3.1) _)
  refine v_aload_n C dXG_compare_0 rfl rfl ?_
  refine v_iconst C dXG_compare_1 ?_
  refine v_putI (k := 380) (q := 2) C dXG_compare_2 (by show (380 : Nat) < 383; decide) rfl rfl (by decide) rfl inXG tyXG_ok nmXG lXG_18 rfl rfl rfl rfl rfl ?_
  refine v_iconst C dXG_compare_5 ?_
  refine v_istore C dXG_compare_6 (by decide) ?_
  exact v_lv rfl (L 40 0 (by omega) _ (x_frD_0 σ) (x_zz_0 σ _ r p fb fn) none)
set_option maxRecDepth 100000 in
set_option maxHeartbeats 4000000 in
/-- differ -/
theorem kX_XA_differ3 (l : Launch) (D : va_G) (cA : Nat → ClassId) (ad : Nat → Nat) (hJ : f_J (xG D cA ad)) (σ : fS) (a b : Int) (hI : x_I σ) (hga : 0 ≤ a ∧ a < σ.1 10 1) (hgb : 0 ≤ b ∧ b < σ.1 10 1) : f_M l (xG D cA ad) (xE (xG D cA ad)) yXA_differ (Cond.code yXA_differ cXA_differ 3 (some .int) :: A9) 5 σ [.ref (ad 0), .int (fI a), .int (fI b)] (f_QI (fun v σ1 => (x_frD σ 40 σ1 ∧ x_zz σ (12 + 3 * a.toNat) (12 + 3 * b.toNat) (σ.2 9) (σ.1 8 1) 40 σ1) ∧ v = σ1.1 380 2) (xG D cA ad)) := by
  refine f_enter (by decide +kernel) hJ rfl (Nat.le_of_ble_eq_true rfl) ?_
  intro z hzl hR C hRt hLk hEz
  subst hzl
  have hRR : 5 ≤ z.2.2.2.1.frames ∧ 40 * 5 ≤ z.2.2.2.1.locals ∧ 0 ≤ z.2.2.2.1.cells ∧ 0 ≤ z.2.2.2.1.slots := by rw [hR]; exact ⟨Nat.le_refl _, Nat.le_refl _, Nat.zero_le _, Nat.zero_le _⟩
  have h10 : 0 ≤ σ.1 10 1 ∧ σ.1 10 1 ≤ 60 := hI.1 10 1
  refine v_aload_n C dXA_differ_0 rfl rfl ?_
  refine v_getR (k := 0) (q := 2) C dXA_differ_1 (by show (0 : Nat) < 383; decide) rfl rfl (by decide) rfl inXA lXA_26 rfl ?_
  refine v_iload_n C dXA_differ_4 rfl rfl ?_
  refine v_cVI (k := 10) (n := 1) C (xE_ok _) hEz hR (kX_XH_has _ D cA ad hJ σ a (by omega) (hI.1 10 1)) dXA_differ_5 (by show (10 : Nat) < 383; decide) rfl rfl gXA_168 (by decide +kernel) (by decide) (by decide) rfl (Nat.le_of_ble_eq_true rfl) rfl ⟨rfl, rfl⟩ (fun rha σha hpha => ?_)
  obtain ⟨eha, fha⟩ := hpha
  subst σha
  rw [if_pos hga] at eha
  subst rha
  refine v_if_eq (tgt := 22) C dXA_differ_8 (by decide) (by omega) (fun hc1 => ?_) (fun hc1 => ?_)
  · exfalso; omega
  · refine v_aload_n C dXA_differ_11 rfl rfl ?_
    refine v_getR (k := 0) (q := 2) C dXA_differ_12 (by show (0 : Nat) < 383; decide) rfl rfl (by decide) rfl inXA lXA_26 rfl ?_
    refine v_iload_n C dXA_differ_15 rfl rfl ?_
    refine v_cVI (k := 10) (n := 1) C (xE_ok _) hEz hR (kX_XH_has _ D cA ad hJ σ b (by omega) (hI.1 10 1)) dXA_differ_16 (by show (10 : Nat) < 383; decide) rfl rfl gXA_168 (by decide +kernel) (by decide) (by decide) rfl (Nat.le_of_ble_eq_true rfl) rfl ⟨rfl, rfl⟩ (fun rhb σhb hphb => ?_)
    obtain ⟨ehb, fhb⟩ := hphb
    subst σhb
    rw [if_pos hgb] at ehb
    subst rhb
    refine v_if_ne (tgt := 32) C dXA_differ_19 (by decide) (by omega) (fun hc2 => ?_) (fun hc2 => ?_)
    · refine v_aload_n C dXA_differ_32 rfl rfl ?_
      refine v_getR (k := 0) (q := 5) C dXA_differ_33 (by show (0 : Nat) < 383; decide) rfl rfl (by decide) rfl inXA lXA_51 rfl ?_
      refine v_aload_n C dXA_differ_36 rfl rfl ?_
      refine v_getR (k := 0) (q := 1) C dXA_differ_37 (by show (0 : Nat) < 383; decide) rfl rfl (by decide) rfl inXA lXA_19 rfl ?_
      refine v_aload_n C dXA_differ_40 rfl rfl ?_
      refine v_getR (k := 0) (q := 2) C dXA_differ_41 (by show (0 : Nat) < 383; decide) rfl rfl (by decide) rfl inXA lXA_26 rfl ?_
      refine v_getR (k := 10) (q := 0) C dXA_differ_44 (by show (10 : Nat) < 383; decide) rfl rfl (by decide) rfl inXH lXA_171 rfl ?_
      refine v_iload_n C dXA_differ_47 rfl rfl ?_
      refine v_aald (k := 11) C dXA_differ_48 (by show (11 : Nat) < 383; decide) rfl rfl (by omega) (by decide) ?_
      refine v_aload_n C dXA_differ_49 rfl rfl ?_
      refine v_getR (k := 0) (q := 2) C dXA_differ_50 (by show (0 : Nat) < 383; decide) rfl rfl (by decide) rfl inXA lXA_26 rfl ?_
      refine v_getR (k := 10) (q := 0) C dXA_differ_53 (by show (10 : Nat) < 383; decide) rfl rfl (by decide) rfl inXH lXA_171 rfl ?_
      refine v_iload_n C dXA_differ_56 rfl rfl ?_
      refine v_aald (k := 11) C dXA_differ_57 (by show (11 : Nat) < 383; decide) rfl rfl (by omega) (by decide) ?_
      refine v_cVV (k := 380) (n := 3) C (xE_ok _) hEz hR (kX_XG_compare3 _ D cA ad hJ σ (12 + 3 * a.toNat) (by omega) (xY_h0 a.toNat (by omega)) (xY_h1 a.toNat (by omega)) (xY_h2 a.toNat (by omega)) (by omega) (12 + 3 * b.toNat) (by omega) (xY_h0 b.toNat (by omega)) (xY_h1 b.toNat (by omega)) (xY_h2 b.toNat (by omega)) (by omega) (σ.2 9) (σ.1 8 1) rfl rfl (hI.1 8 1) (fun q => hI.2 9 q) (fun q => (x_okA_hp a.toNat (by omega) _).mp (hI.2 _ _)) (fun q => (x_okA_hl a.toNat (by omega) _).mp (hI.2 _ _)) (fun q => (x_okA_hp b.toNat (by omega) _).mp (hI.2 _ _)) (fun q => (x_okA_hl b.toNat (by omega) _).mp (hI.2 _ _))) dXA_differ_58 (by show (380 : Nat) < 383; decide) rfl rfl gXA_194 (by decide +kernel) (by decide) (by decide) rfl (Nat.le_of_ble_eq_true rfl) rfl ⟨rfl, rfl⟩ (fun σ1 hp1 => ?_)
      refine v_aload_n C dXA_differ_61 rfl rfl ?_
      refine v_getR (k := 0) (q := 5) C dXA_differ_62 (by show (0 : Nat) < 383; decide) rfl rfl (by decide) rfl inXA lXA_51 rfl ?_
      refine v_getI (k := 380) (q := 2) (v := σ1.1 380 2) C dXA_differ_65 (by show (380 : Nat) < 383; decide) rfl rfl (by decide) rfl inXG lXA_198 rfl rfl ?_
      exact v_iret C hRt hLk dXA_differ_68 ⟨hp1, rfl⟩
    · exfalso; omega
def y_differ3 (σ : fS) (b c : Int) (k v : Int) (σ1 : fS) : Prop := (¬ ((0 ≤ b ∧ b < σ.1 10 1) ∧ 0 ≤ c ∧ c < σ.1 10 1) ∧ k = 1 ∧ σ1 = σ) ∨ (((0 ≤ b ∧ b < σ.1 10 1) ∧ 0 ≤ c ∧ c < σ.1 10 1) ∧ k = 0 ∧ (x_frD σ 40 σ1 ∧ x_zz σ (12 + 3 * b.toNat) (12 + 3 * c.toNat) (σ.2 9) (σ.1 8 1) 40 σ1) ∧ v = σ1.1 380 2)
theorem y_differ_of {σ σ1 : fS} {b c k v : Int} (h : y_differ3 σ b c k v σ1) : y_differ σ b c k v σ1 := by
  rcases h with h | ⟨h1, h2, h3, h4⟩
  · exact Or.inl h
  · exact Or.inr ⟨h1, h2, h3.1, h4⟩
set_option maxRecDepth 100000 in
set_option maxHeartbeats 4000000 in
theorem kG_differ3 (l : Launch) (D : va_G) (cA : Nat → ClassId) (ad : Nat → Nat) (hJ : f_J (xG D cA ad)) (hst : l.stackTraces = false) (a : Nat) (hoff : h_off (xG D cA ad) a) (v0 : Int) (σ : fS) (hI : x_I σ) (b c : Int) (hb : -2147483648 ≤ b ∧ b ≤ 2147483647) (hc : -2147483648 ≤ c ∧ c ≤ 2147483647) : h_M l (xG D cA ad) (cA 4) a yL_differ (Cond.codeWith yL_differ cL_differ 5 (some .int) [(0, 10, 13, 13)] :: A9) 9 1 6 σ v0 [.ref (ad 0), .int (fI b), .int (fI c), .ref a] (fun k v σ1 => y_differ3 σ b c k v σ1) := by
  refine h_enter (by decide +kernel) hJ rfl (Nat.le_of_ble_eq_true rfl) ?_
  intro z hzl hR C htab hRt hLk hEz ho
  subst hzl
  have hR1 : 8 ≤ z.2.2.2.1.frames ∧ 40 * 8 ≤ z.2.2.2.1.locals ∧ 0 ≤ z.2.2.2.1.cells ∧ 0 ≤ z.2.2.2.1.slots := by rw [hR]; exact ⟨by decide, by decide, Nat.zero_le _, Nat.zero_le _⟩
  have hR2 : 8 ≤ z.2.2.2.1.frames ∧ 40 * 8 ≤ z.2.2.2.1.locals ∧ 0 + 1 ≤ z.2.2.2.1.cells ∧ 0 + 6 ≤ z.2.2.2.1.slots := by rw [hR]; exact ⟨by decide, by decide, by decide, by decide⟩
  have h81 : 0 ≤ σ.1 8 1 ∧ σ.1 8 1 ≤ 12000 := hI.1 8 1
  have h101 : 0 ≤ σ.1 10 1 ∧ σ.1 10 1 ≤ 60 := hI.1 10 1
  have h82 : 0 ≤ σ.1 8 2 ∧ σ.1 8 2 ≤ 1 := hI.1 8 2
  have h380 : 0 ≤ σ.1 380 2 ∧ σ.1 380 2 ≤ 40 := hI.1 380 2
  refine v_aload_n C dL_differ_0 rfl rfl ?_
  refine v_iconst C dL_differ_1 ?_
  refine v_aload_n C dL_differ_2 rfl rfl ?_
  refine v_iload_n C dL_differ_3 rfl rfl ?_
  refine v_iload_n C dL_differ_4 rfl rfl ?_
  by_cases hg0 : ¬ ((0 ≤ b ∧ b < σ.1 10 1) ∧ 0 ≤ c ∧ c < σ.1 10 1)
  · refine u_cVX (k := 0) (np := 2) (dd := 8) (hpc := 13) C (xE_ok _) hEz hR2 (tX_differ _ D cA ad hJ hst σ b c hb hc h101 hg0) dL_differ_5 (by show (0 : Nat) < 383; decide) rfl rfl gL_66 (by decide +kernel) (by decide) (by decide) rfl (Nat.le_of_ble_eq_true rfl) rfl (fun hpl cX hcX => by rw [htab]; exact h_fc hpl C.2.2.2.1 (by decide) (by decide) (C.2.2.2.2.1 _ qL_13) (hEz.2.2.2.2.1 _ (by decide +kernel)) hcX) (fun τ q hp => ?_)
    refine v_astore C dL_differ_13 (by decide) ?_
    refine v_iconst C dL_differ_15 ?_
    exact h_ret C ho hoff hRt hLk dL_differ_16 ⟨by decide, by decide⟩ (Or.inl ⟨hg0, rfl, hp⟩)
  refine u_cVI (k := 0) (n := 2) (dd := 8) C (xE_ok _) hEz hR1 (kX_XA_differ3 _ D cA ad hJ σ b c hI (by omega) (by omega)) dL_differ_5 (by show (0 : Nat) < 383; decide) rfl rfl gL_66 (by decide +kernel) (by decide) (by decide) rfl (Nat.le_of_ble_eq_true rfl) rfl (fun r τ hp => ?_)
  obtain ⟨e1, e2⟩ := hp
  have e3 := e1.1.2.2.1
  refine v_i2l C dL_differ_8 (by omega) ?_
  exact h_end (v := r) C ho hoff hRt hLk rfl rfl dL_differ_9 dL_differ_10 (by decide) dL_differ_17 dL_differ_18 ⟨by decide, by decide⟩ (Or.inr ⟨by omega, rfl, e1, e2⟩)
