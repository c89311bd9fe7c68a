/-! readFile -/
def x_adF (S : fS) (c : Nat) : Nat → fS
  | 0 => f_p1 S 10 1 0
  | t + 1 => x_ad (x_adF S c t) (194 + 3 * (c - 1 - t)) t
theorem x_adF_I {S : fS} {c : Nat} (h : x_I S) (hc : c ≤ 60) (hg : ∀ t, t < c → x_good S (194 + 3 * t)) : ∀ t, t ≤ c → x_I (x_adF S c t) ∧ (x_adF S c t).1 10 1 = (t : Int) ∧ (∀ a, ¬ (12 ≤ a ∧ a < 192) → (x_adF S c t).2 a = S.2 a) ∧ (∀ a b, a ≠ 10 → ¬ (12 ≤ a ∧ a < 192) → (x_adF S c t).1 a b = S.1 a b) := by
  intro t
  induction t with
  | zero => intro _; exact ⟨x_I_p1 h (show (0 : Int) ≤ 0 ∧ (0 : Int) ≤ 60 by omega), rfl, fun _ _ => rfl, fun a b g _ => by show (f_p1 S 10 1 0).1 a b = _; rw [p1_1, if_neg (by omega)]⟩
  | succ t ih =>
    intro ht
    obtain ⟨i1, i2, i3, i4⟩ := ih (by omega)
    refine ⟨?_, ?_, fun a g => ?_, fun a b g g2 => ?_⟩
    · refine x_I_ad i1 (by omega) (by omega) (fun b _ _ => ?_) (fun b h1 h2 h3 => ?_) ?_ ?_
      · exact (x_okA_cp (c - 1 - t) (by omega) _).mp (i1.2 _ _)
      · rw [i3 (194 + 3 * (c - 1 - t) + 1) (by omega)] at h3
        rw [i3 (194 + 3 * (c - 1 - t) + 2) (by omega)]
        exact hg (c - 1 - t) (by omega) b h1 h2 h3
      · exact (x_okF_c (c - 1 - t) (by omega) 2 (Or.inl rfl) _).mp (i1.1 _ _)
      · exact (x_okF_c (c - 1 - t) (by omega) 3 (Or.inr rfl) _).mp (i1.1 _ _)
    · show (x_ad _ _ t).1 10 1 = _
      rw [x_ad_1, if_pos ⟨rfl, rfl⟩]; push_cast; rfl
    · funext b
      show (x_ad _ _ t).2 a b = _
      rw [x_ad_o _ _ _ _ _ (by omega), i3 a g]
    · show (x_ad _ _ t).1 a b = _
      rw [x_ad_1, if_neg (by omega), if_neg (by omega), if_neg (by omega), i4 a b g g2]
def x_rd (fb : Nat → Int) (fn : Int) (σ : fS) (v : Int) (σ1 : fS) : Prop := ∃ (w : Int) (S : fS), x_ff fb fn σ w S ∧ ((w ≠ -1 ∧ v = -1 - w ∧ σ1 = S) ∨ (w = -1 ∧ ∃ c : Nat, S.1 192 2 = (c : Int) ∧ 1 ≤ c ∧ c ≤ 60 ∧ v = (c : Int) ∧ σ1 = f_p1 (x_ldd fb fn (x_adF S c c) (12 + 3 * (c - 1))) 8 2 0))
theorem x_rd_I {fb : Nat → Int} {fn v : Int} {σ σ1 : fS} (hfn : 0 ≤ fn ∧ fn ≤ 12000) (hI : x_I σ) (h : x_rd fb fn σ v σ1) : x_I σ1 := by
  obtain ⟨w, S, hf, h⟩ := h
  obtain ⟨f1, f2, f3, f4⟩ := x_ff_I hfn hI hf
  rcases h with ⟨-, -, rfl⟩ | ⟨hw, c, hc, h1, h60, -, rfl⟩
  · exact f1
  · obtain ⟨c2, e1, e2, e3, e4⟩ := f4 hw
    have e : c2 = c := by omega
    subst e
    obtain ⟨i1, -, -, -⟩ := x_adF_I f1 h60 e4 c2 (Nat.le_refl _)
    exact x_I_p1 (x_I_sav (x_I_ld i1 (by omega) 40)) (show (0 : Int) ≤ 0 ∧ (0 : Int) ≤ 1 by omega)
/-- take cuts the file at a revision's end -/
def x_tkn (σ : fS) (k : Nat) : Int := if σ.1 (12 + 3 * k) 3 < σ.1 8 1 then σ.1 (12 + 3 * k) 3 else σ.1 8 1
def x_tk (σ : fS) (k : Nat) : fS := f_p1 (f_p1 σ 8 1 (x_tkn σ k)) 8 2 1
theorem x_tk_I {σ : fS} {k : Nat} (h : x_I σ) (hk : k < 60) : x_I (x_tk σ k) := by
  refine x_I_p1 (x_I_p1 h ?_) (show (0 : Int) ≤ 1 ∧ (1 : Int) ≤ 1 by omega)
  have h1 := (x_okF_h k hk 3 (Or.inr rfl) _).mp (h.1 (12 + 3 * k) 3)
  have h2 : 0 ≤ σ.1 8 1 ∧ σ.1 8 1 ≤ 12000 := h.1 8 1
  show 0 ≤ x_tkn σ k ∧ x_tkn σ k ≤ 12000
  unfold x_tkn
  split <;> omega
set_option maxRecDepth 100000 in
set_option maxHeartbeats 4000000 in
/-- readFile -/
theorem kX_XA_readFile (l : Launch) (D : va_G) (cA : Nat → ClassId) (ad : Nat → Nat) (hJ : f_J (xG D cA ad)) (σ : fS) (fb : Nat → Int) (fn : Int) (hfb : σ.2 9 = fb) (hfn : σ.1 8 1 = fn) (hn0 : 0 ≤ fn ∧ fn ≤ 12000) (hb9 : ∀ i, -128 ≤ fb i ∧ fb i ≤ 127) (hI : x_I σ) : f_M l (xG D cA ad) (xE (xG D cA ad)) yXA_readFile (Cond.code yXA_readFile cXA_readFile 3 (some .int) :: A9) 6 σ [.ref (ad 0)] (f_QI (fun v σ1 => x_rd fb fn σ v σ1) (xG D cA ad)) := by
  refine f_enter (by decide +kernel) hJ rfl (Nat.le_of_ble_eq_true rfl) ?_
  intro z hzl hR C hRt hLk hEz
  subst hzl
  have hRR : 6 ≤ z.2.2.2.1.frames ∧ 40 * 6 ≤ z.2.2.2.1.locals ∧ 0 ≤ z.2.2.2.1.cells ∧ 0 ≤ z.2.2.2.1.slots := by rw [hR]; exact ⟨Nat.le_refl _, Nat.le_refl _, Nat.zero_le _, Nat.zero_le _⟩
  have L : ∀ (w : Int) (S : fS), x_ff fb fn σ w S → w = -1 → ∀ c : Nat, S.1 192 2 = (c : Int) → 1 ≤ c → c ≤ 60 → (∀ t, t < c → x_good S (194 + 3 * t)) → ∀ (m t : Nat), m + t = c → fv z (xG D cA ad) 3 (f_R z (xG D cA ad) (f_QI (fun v σ1 => x_rd fb fn σ v σ1) (xG D cA ad))) 0 0 (x_adF S c t) 35 [some (.ref (ad 0)), some (.int (fI w)), some (.int (fI ((c : Int) - 1 - (t : Int))))] [] := by
    intro w S hff hw c hc h1 h60 hg m
    obtain ⟨f1, f2, f3, -⟩ := x_ff_I hn0 hI hff
    induction m with
    | zero =>
      intro t ht
      obtain ⟨i1, i2, i3, i4⟩ := x_adF_I f1 h60 hg t (by omega)
      refine v_iload_n C dXA_readFile_35 rfl rfl ?_
      refine v_if_lt (tgt := 61) C dXA_readFile_36 (by decide) (by omega) (fun hc1 => ?_) (fun hc1 => ?_)
      · obtain rfl : t = c := by omega
        obtain ⟨A, hA⟩ : ∃ s, s = x_adF S t t := ⟨_, rfl⟩
        rw [← hA] at i1 i2 i3 i4
        refine v_st hA.symm ?_
        have hAI := i1
        have hA10 := i2
        have hAb : A.2 9 = fb := by rw [i3 9 (by omega), f2.1 9 (by omega)]; exact hfb
        have hAn : A.1 8 1 = fn := by rw [i4 8 1 (by omega) (by omega), f2.2 8 1 (by omega) (by omega)]; exact hfn
        refine v_aload_n C dXA_readFile_61 rfl rfl ?_
        refine v_getR (k := 0) (q := 2) C dXA_readFile_62 (by show (0 : Nat) < 383; decide) rfl rfl (by decide) rfl inXA lXA_26 rfl ?_
        refine v_getI (k := 10) (q := 1) (v := (t : Int)) C dXA_readFile_65 (by show (10 : Nat) < 383; decide) rfl rfl (by decide) rfl inXH lXA_125 rfl hA10 ?_
        refine v_if_le (tgt := 99) C dXA_readFile_68 (by decide) (by omega) (fun hc2 => ?_) (fun hc2 => ?_)
        · exfalso; omega
        · refine v_aload_n C dXA_readFile_71 rfl rfl ?_
          refine v_getR (k := 0) (q := 0) C dXA_readFile_72 (by show (0 : Nat) < 383; decide) rfl rfl (by decide) rfl inXA lXA_10 rfl ?_
          refine v_aload_n C dXA_readFile_75 rfl rfl ?_
          refine v_getR (k := 0) (q := 1) C dXA_readFile_76 (by show (0 : Nat) < 383; decide) rfl rfl (by decide) rfl inXA lXA_19 rfl ?_
          refine v_aload_n C dXA_readFile_79 rfl rfl ?_
          refine v_getR (k := 0) (q := 2) C dXA_readFile_80 (by show (0 : Nat) < 383; decide) rfl rfl (by decide) rfl inXA lXA_26 rfl ?_
          refine v_getR (k := 10) (q := 0) C dXA_readFile_83 (by show (10 : Nat) < 383; decide) rfl rfl (by decide) rfl inXH lXA_171 rfl ?_
          refine v_aload_n C dXA_readFile_86 rfl rfl ?_
          refine v_getR (k := 0) (q := 2) C dXA_readFile_87 (by show (0 : Nat) < 383; decide) rfl rfl (by decide) rfl inXA lXA_26 rfl ?_
          refine v_getI (k := 10) (q := 1) (v := (t : Int)) C dXA_readFile_90 (by show (10 : Nat) < 383; decide) rfl rfl (by decide) rfl inXH lXA_125 rfl hA10 ?_
          refine v_iconst C dXA_readFile_93 ?_
          refine v_isub C dXA_readFile_94 ?_
          refine v_top (b := ((t - 1 : Nat) : Int)) (by omega) ?_
          refine v_aald (k := 11) C dXA_readFile_95 (by show (11 : Nat) < 383; decide) rfl rfl (by omega) (by decide) ?_
          refine v_cVV (k := 1) (n := 2) C (xE_ok _) hEz hR (kX_XS_load _ D cA ad hJ A (12 + 3 * (t - 1)) (by omega) (xY_h0 (t - 1) (by omega)) (xY_h1 (t - 1) (by omega)) (xY_h2 (t - 1) (by omega)) (by omega) fb fn hAb hAn hn0 hb9 (fun q => (x_okA_hp (t - 1) (by omega) _).mp (hAI.2 _ _)) (fun q => (x_okA_hl (t - 1) (by omega) _).mp (hAI.2 _ _)) (fun k => x_I_ld hAI (by omega) k)) dXA_readFile_96 (by show (1 : Nat) < 383; decide) rfl rfl gXA_232 (by decide +kernel) (by decide) (by decide) rfl (Nat.le_of_ble_eq_true rfl) rfl ⟨rfl, rfl⟩ (fun σ1 hp1 => ?_)
          obtain ⟨Z, hZ⟩ : ∃ s, s = x_ldd fb fn A (12 + 3 * (t - 1)) := ⟨_, rfl⟩
          subst σ1
          refine v_st hZ.symm ?_
          have hZ10 : Z.1 10 1 = (t : Int) := by rw [hZ]; show (x_ldF _ _ _ _ 40).1 10 1 = _; rw [(x_ldF_o _ _ _ _ 40).1]; exact hA10
          refine v_aload_n C dXA_readFile_99 rfl rfl ?_
          refine v_getR (k := 0) (q := 1) C dXA_readFile_100 (by show (0 : Nat) < 383; decide) rfl rfl (by decide) rfl inXA lXA_19 rfl ?_
          refine v_iconst C dXA_readFile_103 ?_
          refine v_putI (k := 8) (q := 2) C dXA_readFile_104 (by show (8 : Nat) < 383; decide) rfl rfl (by decide) rfl inXF tyXF_ok nmXF lXA_132 rfl rfl rfl (fN_bool (by omega)) (fF_bool (by omega)) ?_
          refine v_aload_n C dXA_readFile_107 rfl rfl ?_
          refine v_getR (k := 0) (q := 2) C dXA_readFile_108 (by show (0 : Nat) < 383; decide) rfl rfl (by decide) rfl inXA lXA_26 rfl ?_
          refine v_getI (k := 10) (q := 1) (v := (t : Int)) C dXA_readFile_111 (by show (10 : Nat) < 383; decide) rfl rfl (by decide) rfl inXH lXA_125 rfl hZ10 ?_
          exact v_iret C hRt hLk dXA_readFile_114 ⟨w, S, hff, Or.inr ⟨by omega, _, hc, by omega, by omega, rfl, by rw [hZ, hA]⟩⟩
      · exfalso; omega
    | succ m ih =>
      intro t ht
      obtain ⟨i1, i2, i3, i4⟩ := x_adF_I f1 h60 hg t (by omega)
      refine v_iload_n C dXA_readFile_35 rfl rfl ?_
      refine v_if_lt (tgt := 61) C dXA_readFile_36 (by decide) (by omega) (fun hc3 => ?_) (fun hc3 => ?_)
      · exfalso; omega
      · refine v_aload_n C dXA_readFile_39 rfl rfl ?_
        refine v_getR (k := 0) (q := 2) C dXA_readFile_40 (by show (0 : Nat) < 383; decide) rfl rfl (by decide) rfl inXA lXA_26 rfl ?_
        refine v_aload_n C dXA_readFile_43 rfl rfl ?_
        refine v_getR (k := 0) (q := 3) C dXA_readFile_44 (by show (0 : Nat) < 383; decide) rfl rfl (by decide) rfl inXA lXA_35 rfl ?_
        refine v_getR (k := 192) (q := 1) C dXA_readFile_47 (by show (192 : Nat) < 383; decide) rfl rfl (by decide) rfl inXC lXA_229 rfl ?_
        refine v_iload_n C dXA_readFile_50 rfl rfl ?_
        refine v_top (b := ((c - 1 - t : Nat) : Int)) (by omega) ?_
        refine v_aald (k := 193) C dXA_readFile_51 (by show (193 : Nat) < 383; decide) rfl rfl (by omega) (by decide) ?_
        refine v_cVV (k := 10) (n := 1) C (xE_ok _) hEz hR (kX_XH_add _ D cA ad hJ (x_adF S c t) t i2 (by omega) (194 + 3 * (c - 1 - t)) (by omega) (xY_c0 (c - 1 - t) (by omega)) (xY_c1 (c - 1 - t) (by omega)) (xY_c2 (c - 1 - t) (by omega)) (by omega) (fun b => (x_okA_cp (c - 1 - t) (by omega) _).mp (i1.2 _ _))) dXA_readFile_52 (by show (10 : Nat) < 383; decide) rfl rfl gXA_218 (by decide +kernel) (by decide) (by decide) rfl (Nat.le_of_ble_eq_true rfl) rfl ⟨rfl, rfl⟩ (fun σ1 hp1 => ?_)
        subst σ1
        refine v_iinc C dXA_readFile_55 rfl (by decide) ?_
        refine v_goto (tgt := 35) C dXA_readFile_58 (by decide) ?_
        exact v_st rfl (v_lv (by rw [show (c : Int) - 1 - (t : Int) + -1 = (c : Int) - 1 - ((t + 1 : Nat) : Int) by omega]; rfl) (ih (t + 1) (by omega)))
  refine v_aload_n C dXA_readFile_0 rfl rfl ?_
  refine v_getR (k := 0) (q := 3) C dXA_readFile_1 (by show (0 : Nat) < 383; decide) rfl rfl (by decide) rfl inXA lXA_35 rfl ?_
  refine v_cVI (k := 192) (n := 0) C (xE_ok _) hEz hR (kX_XC_findFault _ D cA ad hJ σ fb fn hfb hfn hn0 hb9 hI) dXA_readFile_4 (by show (192 : Nat) < 383; decide) rfl rfl gXA_225 (by decide +kernel) (by decide) (by decide) rfl (Nat.le_of_ble_eq_true rfl) rfl ⟨rfl, rfl⟩ (fun w S hff => ?_)
  obtain ⟨f1, f2, f3, f4⟩ := x_ff_I hn0 hI hff
  refine v_istore_n C dXA_readFile_7 rfl (by decide) ?_
  refine v_iload_n C dXA_readFile_8 rfl rfl ?_
  refine v_iconst C dXA_readFile_9 ?_
  refine v_icmp_eq (tgt := 17) C dXA_readFile_10 (by decide) (by omega) (by omega) (fun hc4 => ?_) (fun hc4 => ?_)
  · obtain ⟨c, hcc, hc1, hc60, hcg⟩ := f4 (by omega)
    refine v_aload_n C dXA_readFile_17 rfl rfl ?_
    refine v_getR (k := 0) (q := 2) C dXA_readFile_18 (by show (0 : Nat) < 383; decide) rfl rfl (by decide) rfl inXA lXA_26 rfl ?_
    refine v_iconst C dXA_readFile_21 ?_
    refine v_putI (k := 10) (q := 1) C dXA_readFile_22 (by show (10 : Nat) < 383; decide) rfl rfl (by decide) rfl inXH tyXH_ok nmXH lXA_125 rfl rfl rfl rfl rfl ?_
    obtain ⟨A0, hA0⟩ : ∃ s, s = f_p1 S 10 1 0 := ⟨_, rfl⟩
    refine v_st hA0.symm ?_
    have hA0c : A0.1 192 2 = (c : Int) := by rw [hA0]; exact hcc
    refine v_aload_n C dXA_readFile_25 rfl rfl ?_
    refine v_getR (k := 0) (q := 3) C dXA_readFile_26 (by show (0 : Nat) < 383; decide) rfl rfl (by decide) rfl inXA lXA_35 rfl ?_
    refine v_getI (k := 192) (q := 2) (v := (c : Int)) C dXA_readFile_29 (by show (192 : Nat) < 383; decide) rfl rfl (by decide) rfl inXC lXA_228 rfl hA0c ?_
    refine v_iconst C dXA_readFile_32 ?_
    refine v_isub C dXA_readFile_33 ?_
    refine v_istore_n C dXA_readFile_34 rfl (by decide) ?_
    exact v_st hA0 (v_lv (by simp) (L w S hff (by omega) c hcc hc1 hc60 hcg c 0 (by omega)))
  · refine v_iconst C dXA_readFile_13 ?_
    refine v_iload_n C dXA_readFile_14 rfl rfl ?_
    refine v_isub C dXA_readFile_15 ?_
    exact v_iret C hRt hLk dXA_readFile_16 ⟨w, S, hff, Or.inl ⟨by omega, rfl, rfl⟩⟩
set_option maxRecDepth 100000 in
set_option maxHeartbeats 4000000 in
/-- read -/
theorem kX_XA_read (l : Launch) (D : va_G) (cA : Nat → ClassId) (ad : Nat → Nat) (hJ : f_J (xG D cA ad)) (σ : fS) (fb : Nat → Int) (fn : Int) (hfb : σ.2 9 = fb) (hfn : σ.1 8 1 = fn) (hn0 : 0 ≤ fn ∧ fn ≤ 12000) (hb9 : ∀ i, -128 ≤ fb i ∧ fb i ≤ 127) (hI : x_I σ) : f_M l (xG D cA ad) (xE (xG D cA ad)) yXA_read (Cond.code yXA_read cXA_read 1 (some .int) :: A9) 7 σ [.ref (ad 0)] (f_QI (fun v σ1 => x_rd fb fn σ v σ1) (xG D cA ad)) := by
  refine f_enter (by decide +kernel) hJ rfl (Nat.le_of_ble_eq_true rfl) ?_
  intro z hzl hR C hRt hLk hEz
  subst hzl
  have hRR : 7 ≤ z.2.2.2.1.frames ∧ 40 * 7 ≤ z.2.2.2.1.locals ∧ 0 ≤ z.2.2.2.1.cells ∧ 0 ≤ z.2.2.2.1.slots := by rw [hR]; exact ⟨Nat.le_refl _, Nat.le_refl _, Nat.zero_le _, Nat.zero_le _⟩
  refine v_aload_n C dXA_read_0 rfl rfl ?_
  refine v_cVI (k := 0) (n := 0) C (xE_ok _) hEz hR (kX_XA_readFile _ D cA ad hJ σ fb fn hfb hfn hn0 hb9 hI) dXA_read_1 (by show (0 : Nat) < 383; decide) rfl rfl gXA_156 (by decide +kernel) (by decide) (by decide) rfl (Nat.le_of_ble_eq_true rfl) rfl ⟨rfl, rfl⟩ (fun r1 σ1 hp1 => ?_)
  exact v_iret C hRt hLk dXA_read_4 hp1
set_option maxRecDepth 100000 in
set_option maxHeartbeats 4000000 in
/-- take -/
theorem kX_XA_take (l : Launch) (D : va_G) (cA : Nat → ClassId) (ad : Nat → Nat) (hJ : f_J (xG D cA ad)) (σ : fS) (i : Int) (hI : x_I σ) (hg : 0 ≤ i ∧ i < σ.1 10 1) : f_M l (xG D cA ad) (xE (xG D cA ad)) yXA_take (Cond.code yXA_take cXA_take 2 (some .int) :: A9) 7 σ [.ref (ad 0), .int (fI i)] (f_QI (fun v σ1 => x_rd (σ.2 9) (x_tkn σ i.toNat) (x_tk σ i.toNat) v σ1) (xG D cA ad)) := by
  refine f_enter (by decide +kernel) hJ rfl (Nat.le_of_ble_eq_true rfl) ?_
  intro z hzl hR C hRt hLk hEz
  subst hzl
  have hRR : 7 ≤ z.2.2.2.1.frames ∧ 40 * 7 ≤ z.2.2.2.1.locals ∧ 0 ≤ z.2.2.2.1.cells ∧ 0 ≤ z.2.2.2.1.slots := by rw [hR]; exact ⟨Nat.le_refl _, Nat.le_refl _, Nat.zero_le _, Nat.zero_le _⟩
  have h10 : 0 ≤ σ.1 10 1 ∧ σ.1 10 1 ≤ 60 := hI.1 10 1
  have h8 : 0 ≤ σ.1 8 1 ∧ σ.1 8 1 ≤ 12000 := hI.1 8 1
  refine v_aload_n C dXA_take_0 rfl rfl ?_
  refine v_getR (k := 0) (q := 2) C dXA_take_1 (by show (0 : Nat) < 383; decide) rfl rfl (by decide) rfl inXA lXA_26 rfl ?_
  refine v_iload_n C dXA_take_4 rfl rfl ?_
  refine v_cVI (k := 10) (n := 1) C (xE_ok _) hEz hR (kX_XH_has _ D cA ad hJ σ i (by omega) (hI.1 10 1)) dXA_take_5 (by show (10 : Nat) < 383; decide) rfl rfl gXA_168 (by decide +kernel) (by decide) (by decide) rfl (Nat.le_of_ble_eq_true rfl) rfl ⟨rfl, rfl⟩ (fun rh σh hph => ?_)
  obtain ⟨eh, fh⟩ := hph
  subst σh
  rw [if_pos hg] at eh
  subst rh
  refine v_if_ne (tgt := 21) C dXA_take_8 (by decide) (by omega) (fun hc1 => ?_) (fun hc1 => ?_)
  · refine v_aload_n C dXA_take_21 rfl rfl ?_
    refine v_getR (k := 0) (q := 1) C dXA_take_22 (by show (0 : Nat) < 383; decide) rfl rfl (by decide) rfl inXA lXA_19 rfl ?_
    refine v_aload_n C dXA_take_25 rfl rfl ?_
    refine v_getR (k := 0) (q := 1) C dXA_take_26 (by show (0 : Nat) < 383; decide) rfl rfl (by decide) rfl inXA lXA_19 rfl ?_
    refine v_getI (k := 8) (q := 1) (v := σ.1 8 1) C dXA_take_29 (by show (8 : Nat) < 383; decide) rfl rfl (by decide) rfl inXF lXA_131 rfl rfl ?_
    refine v_aload_n C dXA_take_32 rfl rfl ?_
    refine v_getR (k := 0) (q := 2) C dXA_take_33 (by show (0 : Nat) < 383; decide) rfl rfl (by decide) rfl inXA lXA_26 rfl ?_
    refine v_getR (k := 10) (q := 0) C dXA_take_36 (by show (10 : Nat) < 383; decide) rfl rfl (by decide) rfl inXH lXA_171 rfl ?_
    refine v_iload_n C dXA_take_39 rfl rfl ?_
    refine v_aald (k := 11) C dXA_take_40 (by show (11 : Nat) < 383; decide) rfl rfl (by omega) (by decide) ?_
    refine v_getI (k := (12 + 3 * i.toNat)) (q := 3) (v := σ.1 (12 + 3 * i.toNat) 3) C dXA_take_41 (by show ((12 + 3 * i.toNat) : Nat) < 383; omega) (xY_h0 i.toNat (by omega)) rfl (by decide) rfl inXT lXA_114 rfl rfl ?_
    have hen := (x_okF_h i.toNat (by omega) 3 (Or.inr rfl) _).mp (hI.1 (12 + 3 * i.toNat) 3)
    refine v_mmin (a := σ.1 8 1) (b := σ.1 (12 + 3 * i.toNat) 3) C (in9 (by decide +kernel) rfl) (in9 (by decide +kernel) rfl) (in9 (by decide +kernel) rfl) (in9 (by decide +kernel) rfl) (by omega) (by omega) (by rw [hR]; exact ⟨by decide, (show 1 + 0 + 13 ≤ 40 * 7 by decide), by decide, by decide⟩) dXA_take_44 ?_
    refine v_putI (k := 8) (q := 1) C dXA_take_47 (by show (8 : Nat) < 383; decide) rfl rfl (by decide) rfl inXF tyXF_ok nmXF lXA_131 rfl rfl rfl rfl rfl ?_
    refine v_aload_n C dXA_take_50 rfl rfl ?_
    refine v_getR (k := 0) (q := 1) C dXA_take_51 (by show (0 : Nat) < 383; decide) rfl rfl (by decide) rfl inXA lXA_19 rfl ?_
    refine v_iconst C dXA_take_54 ?_
    refine v_putI (k := 8) (q := 2) C dXA_take_55 (by show (8 : Nat) < 383; decide) rfl rfl (by decide) rfl inXF tyXF_ok nmXF lXA_132 rfl rfl rfl (fN_bool (by omega)) (fF_bool (by omega)) ?_
    refine v_aload_n C dXA_take_58 rfl rfl ?_
    obtain ⟨T, hT⟩ : ∃ s, s = x_tk σ i.toNat := ⟨_, rfl⟩
    refine v_st hT.symm ?_
    have hTn : T.1 8 1 = x_tkn σ i.toNat := by rw [hT]; rfl
    have hTI : x_I T := by rw [hT]; exact x_tk_I hI (by omega)
    have hTr : 0 ≤ x_tkn σ i.toNat ∧ x_tkn σ i.toNat ≤ 12000 := by rw [← hTn]; exact hTI.1 8 1
    have hT9 : T.2 9 = σ.2 9 := by rw [hT]; rfl
    refine v_cVI (k := 0) (n := 0) C (xE_ok _) hEz hR (kX_XA_readFile _ D cA ad hJ T (σ.2 9) (x_tkn σ i.toNat) hT9 hTn hTr (fun q => hI.2 9 q) hTI) dXA_take_59 (by show (0 : Nat) < 383; decide) rfl rfl gXA_156 (by decide +kernel) (by decide) (by decide) rfl (Nat.le_of_ble_eq_true rfl) rfl ⟨rfl, rfl⟩ (fun r1 σ1 hp1 => ?_)
    rw [hT] at hp1
    exact v_iret C hRt hLk dXA_take_62 hp1
  · exfalso; omega
