section
/-! write and append -/
theorem x_I_fr {σ σ1 : fS} (h : x_I σ) (h1 : ∀ a b, σ1.1 a b = σ.1 a b ∨ x_okF a b (σ1.1 a b)) (h2 : ∀ a b, σ1.2 a b = σ.2 a b ∨ x_okA a (σ1.2 a b)) : x_I σ1 :=
  ⟨fun a b => (h1 a b).elim (fun e => e ▸ h.1 a b) id, fun a b => (h2 a b).elim (fun e => e ▸ h.2 a b) id⟩
theorem x_I_puts {σ : fS} {L : List Int} (h : x_I σ) (hL : x_byR L) : x_I (x_puts σ L) := by
  refine x_I_fr h (fun a b => ?_) (fun a b => ?_)
  · by_cases g : a = 374
    · subst g; right; exact x_okF_n _ _ _ (by omega)
    · left; rw [x_puts_1, if_neg (by omega)]
  · by_cases g : a = 375
    · subst g; right; exact x_puts_375 L σ hL (fun i => h.2 375 i) b
    · left; exact x_puts_2 _ _ _ _ g
theorem x_I_beg {σ : fS} (h : x_I σ) (p : Int) : x_I (x_beg σ p) := x_I_reset (x_I_p1 (x_I_p1 (x_I_p1 h (x_okF_n _ _ _ (by omega))) (x_okF_n _ _ _ (by omega))) (x_okF_n _ _ _ (by omega))) (show (-2 : Int) ≤ -2 ∧ (-2 : Int) ≤ 99999 by omega) (show (0 : Int) ≤ 0 ∧ (0 : Int) ≤ 120 by omega)
theorem x_I_chI {σ C : fS} {k : Nat} (h : x_I σ) (hC : x_chI σ k C) : x_I C := by
  refine x_I_fr h (fun a b => ?_) (fun a b => ?_)
  · by_cases g : a = 374
    · subst g; right; exact x_okF_n _ _ _ (by omega)
    · left; exact hC.2.1 a b (by omega)
  · by_cases g : a = 376
    · subst g; right; trivial
    · left; exact hC.2.2.1 a b g
theorem x_I_ccI {σ C : fS} {k : Nat} (h : x_I σ) (hC : x_ccI σ k C) : x_I C := by
  refine x_I_fr h (fun a b => ?_) (fun a b => ?_)
  · by_cases g : a = 374
    · subst g; right; exact x_okF_n _ _ _ (by omega)
    · left; exact hC.2.1 a b (by omega)
  · by_cases g : a = 376
    · subst g; right; trivial
    · by_cases g8 : a = 378
      · subst g8
        rcases hC.2.2.2.2 b with e | e
        · left; exact e
        · right; rw [e]; show (-2 : Int) ≤ -1 ∧ (-1 : Int) ≤ 99999; omega
      · left; exact hC.2.2.1 a b g g8
/-- what a draft must be before it is finished -/
def x_rdy (C : fS) : Prop := x_I C ∧ (0 ≤ C.1 374 4 ∧ C.1 374 4 ≤ 40) ∧ (∀ j : Nat, (j : Int) < C.1 374 4 → 1 ≤ C.2 376 j ∧ C.2 376 j ≤ 40) ∧ (0 ≤ C.1 374 5 ∧ C.1 374 5 ≤ 12000) ∧ (0 ≤ C.1 374 6 ∧ C.1 374 6 ≤ 100)
theorem x_I_recs {C : fS} (h : x_rdy C) (k : Nat) (hk : (k : Int) ≤ C.1 374 4) : x_I (x_recs C k) := by
  obtain ⟨hI, hc, ho, hb, hu⟩ := h
  obtain ⟨i1, i2, i3, i4⟩ := x_recs_I (fun i => hI.2 4 i) ho k hk
  obtain ⟨j1, j2, j3⟩ := x_recs_J (fun i => hI.2 4 i) (fun i => hI.2 5 i) ho hc.2 hb hu (fun i => hI.2 375 i) (fun i => hI.2 378 i) (fun i => hI.2 379 i) k hk
  refine x_I_fr hI (fun a b => ?_) (fun a b => ?_)
  · by_cases g : a = 374
    · subst g; right; exact x_okF_n _ _ _ (by omega)
    · left; exact i2 a b (by omega)
  · by_cases g1 : a = 375
    · subst g1; right; exact j1 b
    · by_cases g2 : a = 378
      · subst g2; right; exact j2 b
      · by_cases g3 : a = 379
        · subst g3; right; exact j3 b
        · left; exact i1 a b g1 g2 g3
theorem x_I_fin {C : fS} (h : x_rdy C) (q : Int) : x_I (x_fin C q) := by
  refine x_I_p1 (x_I_puts (x_I_p1 (x_I_recs h _ (by have := h.2.1; omega)) (x_okF_n _ _ _ (by omega))) (x_ftl_byR _ _)) (x_okF_n _ _ _ (by omega))
theorem x_fin_o {C : fS} (h : x_rdy C) (q : Int) (a b : Nat) (g : ¬ (a = 374 ∧ b = 6) ∧ ¬ (a = 377 ∧ (b = 2 ∨ b = 3))) : (x_fin C q).1 a b = C.1 a b := by
  obtain ⟨hI, hc, ho, hb, hu⟩ := h
  obtain ⟨i1, i2, i3, i4⟩ := x_recs_I (fun i => hI.2 4 i) ho (C.1 374 4).toNat (by omega)
  unfold x_fin x_finx
  rw [p1_1, if_neg (by omega), x_puts_1, if_neg g.1, p1_1, if_neg (by omega)]
  exact i2 a b g.1
theorem x_fin_n {C : fS} (h : x_rdy C) (q : Int) : (x_fin C q).1 377 3 = (x_fin C q).1 374 5 + (x_fin C q).1 374 6 ∧ (C.1 374 6 ≤ (x_fin C q).1 374 6 ∧ (x_fin C q).1 374 6 ≤ C.1 374 6 + 5584) ∧ 0 ≤ (x_fin C q).1 377 2 ∧ (x_fin C q).1 377 2 ≤ (x_fin C q).1 377 3 := by
  have h5 := x_fin_o h q 374 5 (by omega)
  obtain ⟨hI, hc, ho, hb, hu⟩ := h
  obtain ⟨i1, i2, i3, i4⟩ := x_recs_I (fun i => hI.2 4 i) ho (C.1 374 4).toNat (by omega)
  have hl := x_ftl_len (x_recs C (C.1 374 4).toNat) q
  have e5 : (x_recs C (C.1 374 4).toNat).1 374 5 = C.1 374 5 := i2 374 5 (by omega)
  have e3 : (x_fin C q).1 377 3 = (x_recs C (C.1 374 4).toNat).1 374 5 + (x_recs C (C.1 374 4).toNat).1 374 6 + (x_ftl (x_recs C (C.1 374 4).toNat) q).length := by
    unfold x_fin x_finx
    rw [p1_1, if_pos ⟨rfl, rfl⟩]
  have e6 : (x_fin C q).1 374 6 = (x_recs C (C.1 374 4).toNat).1 374 6 + (x_ftl (x_recs C (C.1 374 4).toNat) q).length := by
    unfold x_fin x_finx
    rw [p1_1, if_neg (by omega), x_puts_u, p1_1, if_neg (by omega)]
  have e2 : (x_fin C q).1 377 2 = (x_recs C (C.1 374 4).toNat).1 374 5 + (x_recs C (C.1 374 4).toNat).1 374 6 := by
    unfold x_fin x_finx
    rw [p1_1, if_neg (by omega), x_puts_1, if_neg (by omega), p1_1, if_pos ⟨rfl, rfl⟩]
  refine ⟨by omega, by omega, by omega, by omega⟩
theorem x_I_kept {σ : fS} {c : Nat} (h : x_I σ) (hc : c < 60) (hb : 0 ≤ σ.1 374 5 + σ.1 374 6 ∧ σ.1 374 5 + σ.1 374 6 ≤ 12000) (hx : 0 ≤ σ.1 377 2 ∧ σ.1 377 2 ≤ 12000) (he : 0 ≤ σ.1 377 3 ∧ σ.1 377 3 ≤ 12000) : x_I (x_kept σ c) := by
  refine x_I_sav (x_I_ad (x_I_p1 (x_I_behind h hb) (show (0 : Int) ≤ 0 ∧ (0 : Int) ≤ 1 by omega)) hc (by omega) (fun b _ _ => ?_) (fun b _ _ _ => ?_) hx he)
  · show -2 ≤ (x_behind σ (σ.1 374 5) (σ.1 374 6)).2 378 b ∧ (x_behind σ (σ.1 374 5) (σ.1 374 6)).2 378 b ≤ 99999
    rw [x_behind_2 _ _ _ _ _ (by decide)]; exact h.2 378 b
  · show 0 ≤ (x_behind σ (σ.1 374 5) (σ.1 374 6)).2 379 b ∧ (x_behind σ (σ.1 374 5) (σ.1 374 6)).2 379 b ≤ 120
    rw [x_behind_2 _ _ _ _ _ (by decide)]; exact h.2 379 b
theorem x_kept_1 (σ : fS) (c a b : Nat) (g : ¬ (a = 8 ∧ (b = 1 ∨ b = 2)) ∧ ¬ (a = 10 ∧ b = 1) ∧ ¬ (a = 12 + 3 * c ∧ (b = 2 ∨ b = 3))) : (x_kept σ c).1 a b = σ.1 a b := by
  show (x_ad _ 377 c).1 a b = _
  rw [x_ad_1, if_neg (by omega), if_neg (by omega), if_neg (by omega), p1_1, if_neg (by omega)]
  unfold x_behind
  rw [p1_1, if_neg (by omega)]
  rfl
theorem x_kept_81 (σ : fS) (c : Nat) : (x_kept σ c).1 8 1 = σ.1 374 5 + σ.1 374 6 := by
  show (x_ad _ 377 c).1 8 1 = _
  rw [x_ad_1, if_neg (by omega), if_neg (by omega), if_neg (by omega), p1_1, if_neg (by omega)]
  unfold x_behind
  rw [p1_1, if_pos ⟨rfl, rfl⟩]
theorem x_rdy_w {σ C : fS} {how : Int} (h : x_I σ) (hC : x_chR (x_puts (x_beg σ 0) [37, 70, 49, 10]) how 40 C) : x_rdy C := by
  have hF : x_I (x_puts (x_beg σ 0) [37, 70, 49, 10]) := x_I_puts (x_I_beg h 0) (fun x hx => by simp only [List.mem_cons, List.not_mem_nil, or_false] at hx; omega)
  obtain ⟨b5, b6, b4⟩ := x_beg_1 σ 0
  have f4 : (x_puts (x_beg σ 0) [37, 70, 49, 10]).1 374 4 = 0 := by rw [x_puts_1, if_neg (by omega)]; exact b4
  have f5 : (x_puts (x_beg σ 0) [37, 70, 49, 10]).1 374 5 = 0 := by rw [x_puts_1, if_neg (by omega)]; exact b5
  have f6 : (x_puts (x_beg σ 0) [37, 70, 49, 10]).1 374 6 = 4 := by rw [x_puts_u, b6]; rfl
  have hI := x_chR_I f4 40 C (by omega) hC
  have e5 := hI.2.1 374 5 (by omega)
  have e6 := hI.2.1 374 6 (by omega)
  exact ⟨x_I_chI hF hI, hI.1, hI.2.2.2, by omega, by omega⟩
theorem x_rdy_a {σ C : fS} (h : x_I σ) (hC : x_ccR (x_beg σ (σ.1 8 1)) 40 C) : x_rdy C := by
  obtain ⟨b5, b6, b4⟩ := x_beg_1 σ (σ.1 8 1)
  have hI := x_ccR_I b4 40 C (by omega) hC
  have e5 := hI.2.1 374 5 (by omega)
  have e6 := hI.2.1 374 6 (by omega)
  have h8 : 0 ≤ σ.1 8 1 ∧ σ.1 8 1 ≤ 12000 := h.1 8 1
  exact ⟨x_I_ccI (x_I_beg h _) hI, hI.1, hI.2.2.2.1, by omega, by omega⟩
/-- chooseChanged as a function -/
def x_ccF (σ : fS) : Nat → fS
  | 0 => σ
  | k + 1 => if x_ch σ (k + 1) = 1 then (if σ.2 2 (k + 1) = 1 then x_insd (x_ccF σ k) ((x_ccF σ k).1 374 4).toNat ((k : Int) + 1) else f_p2 (x_ccF σ k) 378 (k + 1) (-1)) else x_ccF σ k
theorem x_ins0 {σ σ1 : fS} {n : Int} (hc : 0 ≤ σ.1 374 4) (h : x_insP σ n 0 σ1) : σ1 = x_insd σ (σ.1 374 4).toNat n := by
  obtain ⟨t, ht, rfl, h1, -⟩ := h
  by_cases g : (t : Int) < σ.1 374 4
  · have := h1 t (Nat.le_refl _) g
    unfold x_gb at this
    rw [if_neg (by decide), if_neg (by omega)] at this
    omega
  · rw [show (σ.1 374 4).toNat = t by omega]
theorem x_ccR_F {σ : fS} (h0 : σ.1 374 4 = 0) : ∀ (k : Nat) (C : fS), k ≤ 40 → x_ccR σ k C → C = x_ccF σ k := by
  intro k
  induction k with
  | zero => intro C _ h; exact h
  | succ k ih =>
    intro C hk h
    obtain ⟨y, hy, h⟩ := h
    have e := ih y (by omega) hy
    have hi := (x_ccR_I h0 k y (by omega) hy).1
    show C = if x_ch σ (k + 1) = 1 then (if σ.2 2 (k + 1) = 1 then x_insd (x_ccF σ k) ((x_ccF σ k).1 374 4).toNat ((k : Int) + 1) else f_p2 (x_ccF σ k) 378 (k + 1) (-1)) else x_ccF σ k
    rw [← e]
    rcases h with ⟨h1, h2⟩ | ⟨h1, h2, h3⟩ | ⟨h1, h2, h3⟩
    · rw [if_neg (by omega)]; exact h2
    · rw [if_pos h1, if_pos h2]; exact x_ins0 hi.1 h3
    · rw [if_pos h1, if_neg (by omega)]; exact h3
/-- the draft of an append, finished; the state behind a write -/
def x_lx (σ : fS) (c : Nat) : Int := if c = 0 then 0 else σ.1 (12 + 3 * (c - 1)) 2
def x_apd (σ : fS) (c : Nat) : fS := x_fin (x_ccF (x_beg σ (σ.1 8 1)) 40) (x_lx σ c)
def x_wrt (σ : fS) (how : Int) (σ1 : fS) : Prop := ∃ C, x_chR (x_puts (x_beg σ 0) [37, 70, 49, 10]) how 40 C ∧ σ1 = x_kept (f_p1 (x_fin C 0) 10 1 0) 0
theorem x_I_wrt {σ σ1 : fS} {how : Int} (h : x_I σ) (hw : x_wrt σ how σ1) : x_I σ1 := by
  obtain ⟨C, hC, rfl⟩ := hw
  have hr := x_rdy_w h hC
  obtain ⟨n1, n2, n3, n4⟩ := x_fin_n hr 0
  have n5 := x_fin_o hr 0 374 5 (by omega)
  obtain ⟨-, -, -, r4, r5⟩ := hr
  have hb5 : C.1 374 5 = 0 := by
    have f4 : (x_puts (x_beg σ 0) [37, 70, 49, 10]).1 374 4 = 0 := by rw [x_puts_1, if_neg (by omega)]; exact (x_beg_1 σ 0).2.2
    rw [(x_chR_I f4 40 C (by omega) hC).2.1 374 5 (by omega), x_puts_1, if_neg (by omega)]
    exact (x_beg_1 σ 0).1
  have eK : ∀ a b, a ≠ 10 → (f_p1 (x_fin C 0) 10 1 0).1 a b = (x_fin C 0).1 a b := fun a b g => by rw [p1_1, if_neg (by omega)]
  refine x_I_kept (x_I_p1 (x_I_fin (x_rdy_w h hC) 0) (show (0 : Int) ≤ 0 ∧ (0 : Int) ≤ 60 by omega)) (by omega) ?_ ?_ ?_
  · rw [eK 374 5 (by decide), eK 374 6 (by decide)]
    omega
  · rw [eK 377 2 (by decide)]
    omega
  · rw [eK 377 3 (by decide)]
    omega
theorem x_I_apd {σ : fS} {c : Nat} (h : x_I σ) (hC : x_ccR (x_beg σ (σ.1 8 1)) 40 (x_ccF (x_beg σ (σ.1 8 1)) 40)) (hc : c < 60) : x_I (x_apd σ c) ∧ ((x_apd σ c).1 377 3 ≤ 12000 → x_I (x_kept (x_apd σ c) c)) := by
  have hr := x_rdy_a h hC
  refine ⟨x_I_fin hr _, fun he => ?_⟩
  have n := x_fin_n hr (x_lx σ c)
  have n5 := x_fin_o hr (x_lx σ c) 374 5 (by omega)
  obtain ⟨-, -, -, r4, r5⟩ := hr
  have e : x_apd σ c = x_fin (x_ccF (x_beg σ (σ.1 8 1)) 40) (x_lx σ c) := rfl
  rw [← e] at n n5
  exact x_I_kept (by rw [e]; exact x_I_fin (x_rdy_a h hC) _) hc (by omega) (by omega) (by omega)
set_option maxRecDepth 100000 in
set_option maxHeartbeats 4000000 in
/-- write -/
theorem kX_XA_write (l : Launch) (D : va_G) (cA : Nat → ClassId) (ad : Nat → Nat) (hJ : f_J (xG D cA ad)) (σ : fS) (how : Int) (hw : 0 ≤ how ∧ how ≤ 2) (hI : x_I σ) : f_M l (xG D cA ad) (xE (xG D cA ad)) yXA_write (Cond.code yXA_write cXA_write 2 (some .int) :: A9) 4 σ [.ref (ad 0), .int (fI how)] (f_QI (fun r σ1 => x_wrt σ how σ1 ∧ r = σ1.1 8 1) (xG D cA ad)) := by
  refine f_enter (by decide +kernel) hJ rfl (Nat.le_of_ble_eq_true rfl) ?_
  intro z hzl hR C hRt hLk hEz
  subst hzl
  have hRR : 4 ≤ z.2.2.2.1.frames ∧ 40 * 4 ≤ z.2.2.2.1.locals ∧ 0 ≤ z.2.2.2.1.cells ∧ 0 ≤ z.2.2.2.1.slots := by rw [hR]; exact ⟨Nat.le_refl _, Nat.le_refl _, Nat.zero_le _, Nat.zero_le _⟩
  obtain ⟨B, hB⟩ : ∃ s, s = x_beg σ 0 := ⟨_, rfl⟩
  obtain ⟨F, hF⟩ : ∃ s, s = x_puts B [37, 70, 49, 10] := ⟨_, rfl⟩
  have hB1 := x_beg_1 σ 0
  rw [← hB] at hB1
  obtain ⟨hB5, hB6, hB4⟩ := hB1
  have hFI : x_I F := by rw [hF, hB]; exact x_I_puts (x_I_beg hI 0) (fun x hx => by simp only [List.mem_cons, List.not_mem_nil, or_false] at hx; omega)
  have hF4 : F.1 374 4 = 0 := by rw [hF, x_puts_1, if_neg (by decide)]; exact hB4
  refine v_iload_n C dXA_write_0 rfl rfl ?_
  refine v_if_lt (tgt := 9) C dXA_write_1 (by decide) (by omega) (fun hc1 => ?_) (fun hc1 => ?_)
  · exfalso; omega
  · refine v_iload_n C dXA_write_4 rfl rfl ?_
    refine v_iconst C dXA_write_5 ?_
    refine v_icmp_le (tgt := 19) C dXA_write_6 (by decide) (by omega) (by omega) (fun hc2 => ?_) (fun hc2 => ?_)
    · refine v_aload_n C dXA_write_19 rfl rfl ?_
      refine v_getR (k := 0) (q := 4) C dXA_write_20 (by show (0 : Nat) < 383; decide) rfl rfl (by decide) rfl inXA lXA_44 rfl ?_
      refine v_iconst C dXA_write_23 ?_
      refine v_cVV (k := 374) (n := 1) C (xE_ok _) hEz hR (kX_XD_begin _ D cA ad hJ σ 0 (by omega)) dXA_write_24 (by show (374 : Nat) < 383; decide) rfl rfl gXA_97 (by decide +kernel) (by decide) (by decide) rfl (Nat.le_of_ble_eq_true rfl) rfl ⟨rfl, rfl⟩ (fun σ1 hp1 => ?_)
      subst σ1
      refine v_st hB.symm ?_
      refine v_aload_n C dXA_write_27 rfl rfl ?_
      refine v_getR (k := 0) (q := 4) C dXA_write_28 (by show (0 : Nat) < 383; decide) rfl rfl (by decide) rfl inXA lXA_44 rfl ?_
      refine v_cVV (k := 374) (n := 0) C (xE_ok _) hEz hR (kX_XD_putFirstLine _ D cA ad hJ B (by omega)) dXA_write_31 (by show (374 : Nat) < 383; decide) rfl rfl gXA_101 (by decide +kernel) (by decide) (by decide) rfl (Nat.le_of_ble_eq_true rfl) rfl ⟨rfl, rfl⟩ (fun σ1 hp1 => ?_)
      subst σ1
      refine v_st hF.symm ?_
      refine v_aload_n C dXA_write_34 rfl rfl ?_
      refine v_getR (k := 0) (q := 4) C dXA_write_35 (by show (0 : Nat) < 383; decide) rfl rfl (by decide) rfl inXA lXA_44 rfl ?_
      refine v_iload_n C dXA_write_38 rfl rfl ?_
      refine v_cVV (k := 374) (n := 1) C (xE_ok _) hEz hR (kX_XD_chooseThere _ D cA ad hJ F how (by omega) hF4 (fun i => hFI.2 2 i) (fun i => hFI.2 3 i) (fun i => hFI.2 4 i)) dXA_write_39 (by show (374 : Nat) < 383; decide) rfl rfl gXA_104 (by decide +kernel) (by decide) (by decide) rfl (Nat.le_of_ble_eq_true rfl) rfl ⟨rfl, rfl⟩ (fun σ1 hp1 => ?_)
      obtain ⟨Cs, hCe⟩ : ∃ s, s = σ1 := ⟨_, rfl⟩
      refine v_st hCe.symm ?_
      rw [← hCe] at hp1
      have hC := hp1
      have hrd : x_rdy Cs := x_rdy_w hI (by rw [← hB, ← hF]; exact hC)
      refine v_aload_n C dXA_write_42 rfl rfl ?_
      refine v_getR (k := 0) (q := 4) C dXA_write_43 (by show (0 : Nat) < 383; decide) rfl rfl (by decide) rfl inXA lXA_44 rfl ?_
      refine v_iconst C dXA_write_46 ?_
      refine v_cVV (k := 374) (n := 1) C (xE_ok _) hEz hR (kX_XD_finish _ D cA ad hJ Cs 0 (by omega) hrd.2.1 hrd.2.2.1 hrd.2.2.2.1 hrd.2.2.2.2 (fun i => hrd.1.2 4 i) (fun i => hrd.1.2 5 i) (fun i => hrd.1.2 375 i) (fun i => hrd.1.2 378 i) (fun i => hrd.1.2 379 i)) dXA_write_47 (by show (374 : Nat) < 383; decide) rfl rfl gXA_107 (by decide +kernel) (by decide) (by decide) rfl (Nat.le_of_ble_eq_true rfl) rfl ⟨rfl, rfl⟩ (fun σ1 hp1 => ?_)
      subst σ1
      obtain ⟨E, hE⟩ : ∃ s, s = x_fin Cs 0 := ⟨_, rfl⟩
      refine v_st hE.symm ?_
      have n0 := x_fin_n hrd 0
      have n5 := x_fin_o hrd 0 374 5 (by omega)
      rw [← hE] at n0 n5
      have hCb : Cs.1 374 5 = 0 := by rw [(x_chR_I hF4 40 Cs (by omega) hC).2.1 374 5 (by omega), hF, x_puts_1, if_neg (by omega)]; exact hB5
      have hCu := hrd.2.2.2.2
      have hCu6 : Cs.1 374 6 = 4 := by rw [(x_chR_I hF4 40 Cs (by omega) hC).2.1 374 6 (by omega), hF, x_puts_u, hB6]; rfl
      refine v_aload_n C dXA_write_50 rfl rfl ?_
      refine v_getR (k := 0) (q := 4) C dXA_write_51 (by show (0 : Nat) < 383; decide) rfl rfl (by decide) rfl inXA lXA_44 rfl ?_
      refine v_getR (k := 374) (q := 3) C dXA_write_54 (by show (374 : Nat) < 383; decide) rfl rfl (by decide) rfl inXD lXA_110 rfl ?_
      refine v_getI (k := 377) (q := 3) (v := E.1 377 3) C dXA_write_57 (by show (377 : Nat) < 383; decide) rfl rfl (by decide) rfl inXT lXA_114 rfl rfl ?_
      refine v_sipush C dXA_write_60 (by decide +kernel) ?_
      refine v_icmp_le (tgt := 76) C dXA_write_63 (by decide) (by omega) (by omega) (fun hc3 => ?_) (fun hc3 => ?_)
      · refine v_aload_n C dXA_write_76 rfl rfl ?_
        refine v_getR (k := 0) (q := 2) C dXA_write_77 (by show (0 : Nat) < 383; decide) rfl rfl (by decide) rfl inXA lXA_26 rfl ?_
        refine v_iconst C dXA_write_80 ?_
        refine v_putI (k := 10) (q := 1) C dXA_write_81 (by show (10 : Nat) < 383; decide) rfl rfl (by decide) rfl inXH tyXH_ok nmXH lXA_125 rfl rfl rfl rfl rfl ?_
        obtain ⟨K, hK⟩ : ∃ s, s = f_p1 E 10 1 0 := ⟨_, rfl⟩
        refine v_st hK.symm ?_
        have hKI : x_I K := by rw [hK, hE]; exact x_I_p1 (x_I_fin hrd 0) (show (0 : Int) ≤ 0 ∧ (0 : Int) ≤ 60 by omega)
        have hK5 : K.1 374 5 = E.1 374 5 := by rw [hK]; rfl
        have hK6 : K.1 374 6 = E.1 374 6 := by rw [hK]; rfl
        have hK0 : K.1 10 1 = ((0 : Nat) : Int) := by rw [hK, p1_1, if_pos ⟨rfl, rfl⟩]; rfl
        refine v_aload_n C dXA_write_84 rfl rfl ?_
        refine v_cVV (k := 0) (n := 0) C (xE_ok _) hEz hR (kX_XA_keepDraft _ D cA ad hJ K 0 hK0 (by omega) hKI (by omega) (by omega) (by omega)) dXA_write_85 (by show (0 : Nat) < 383; decide) rfl rfl gXA_128 (by decide +kernel) (by decide) (by decide) rfl (Nat.le_of_ble_eq_true rfl) rfl ⟨rfl, rfl⟩ (fun σ1 hp1 => ?_)
        obtain ⟨T, hT⟩ : ∃ s, s = x_kept K 0 := ⟨_, rfl⟩
        subst σ1
        refine v_st hT.symm ?_
        have hEK : T = x_kept (f_p1 (x_fin Cs 0) 10 1 0) 0 := by rw [hT, hK, hE]
        refine v_aload_n C dXA_write_88 rfl rfl ?_
        refine v_getR (k := 0) (q := 1) C dXA_write_89 (by show (0 : Nat) < 383; decide) rfl rfl (by decide) rfl inXA lXA_19 rfl ?_
        refine v_getI (k := 8) (q := 1) (v := T.1 8 1) C dXA_write_92 (by show (8 : Nat) < 383; decide) rfl rfl (by decide) rfl inXF lXA_131 rfl rfl ?_
        exact v_iret C hRt hLk dXA_write_95 ⟨⟨Cs, by rw [← hB, ← hF]; exact hC, hEK⟩, rfl⟩
      · exfalso; omega
    · exfalso; omega
set_option maxRecDepth 100000 in
set_option maxHeartbeats 4000000 in
/-- append -/
theorem kX_XA_appendZ (l : Launch) (D : va_G) (cA : Nat → ClassId) (ad : Nat → Nat) (hJ : f_J (xG D cA ad)) (σ : fS) (c : Nat) (hc : σ.1 10 1 = (c : Int)) (hI : x_I σ) (hf : σ.1 8 1 ≠ 0) (ha : σ.1 8 2 = 0) (hz : m_cnt (x_ch σ) 40 = 0) : f_M l (xG D cA ad) (xE (xG D cA ad)) yXA_append (Cond.code yXA_append cXA_append 1 (some .int) :: A9) 4 σ [.ref (ad 0)] (f_QI (fun r σ1 => r = 0 ∧ σ1 = σ) (xG D cA ad)) := by
  refine f_enter (by decide +kernel) hJ rfl (Nat.le_of_ble_eq_true rfl) ?_
  intro z hzl hR C hRt hLk hEz
  subst hzl
  have hRR : 4 ≤ z.2.2.2.1.frames ∧ 40 * 4 ≤ z.2.2.2.1.locals ∧ 0 ≤ z.2.2.2.1.cells ∧ 0 ≤ z.2.2.2.1.slots := by rw [hR]; exact ⟨Nat.le_refl _, Nat.le_refl _, Nat.zero_le _, Nat.zero_le _⟩
  obtain ⟨B, hB⟩ : ∃ s, s = x_beg σ (σ.1 8 1) := ⟨_, rfl⟩
  have hB1 := x_beg_1 σ (σ.1 8 1)
  rw [← hB] at hB1
  obtain ⟨hB5, hB6, hB4⟩ := hB1
  have hBI : x_I B := by rw [hB]; exact x_I_beg hI _
  have h8 : 0 ≤ σ.1 8 1 ∧ σ.1 8 1 ≤ 12000 := hI.1 8 1
  have h82 : 0 ≤ σ.1 8 2 ∧ σ.1 8 2 ≤ 1 := hI.1 8 2
  have h10 : 0 ≤ σ.1 10 1 ∧ σ.1 10 1 ≤ 60 := hI.1 10 1
  have hcl := m_cnt_le (x_ch σ) 40
  refine v_aload_n C dXA_append_0 rfl rfl ?_
  refine v_getR (k := 0) (q := 1) C dXA_append_1 (by show (0 : Nat) < 383; decide) rfl rfl (by decide) rfl inXA lXA_19 rfl ?_
  refine v_getI (k := 8) (q := 1) (v := σ.1 8 1) C dXA_append_4 (by show (8 : Nat) < 383; decide) rfl rfl (by decide) rfl inXF lXA_131 rfl rfl ?_
  refine v_if_eq (tgt := 20) C dXA_append_7 (by decide) (by omega) (fun hc1 => ?_) (fun hc1 => ?_)
  · exfalso; omega
  · refine v_aload_n C dXA_append_10 rfl rfl ?_
    refine v_getR (k := 0) (q := 1) C dXA_append_11 (by show (0 : Nat) < 383; decide) rfl rfl (by decide) rfl inXA lXA_19 rfl ?_
    refine v_getI (k := 8) (q := 2) (v := σ.1 8 2) C dXA_append_14 (by show (8 : Nat) < 383; decide) rfl rfl (by decide) rfl inXF lXA_132 rfl rfl ?_
    refine v_if_eq (tgt := 30) C dXA_append_17 (by decide) (by omega) (fun hc2 => ?_) (fun hc2 => ?_)
    · refine v_aload_n C dXA_append_30 rfl rfl ?_
      refine v_getR (k := 0) (q := 0) C dXA_append_31 (by show (0 : Nat) < 383; decide) rfl rfl (by decide) rfl inXA lXA_10 rfl ?_
      refine v_cVI (k := 1) (n := 0) C (xE_ok _) hEz hR (kX_XS_countChanged _ D cA ad hJ σ (fun i => hI.2 2 i) (fun i => hI.2 6 i) (fun i => hI.2 7 i)) dXA_append_34 (by show (1 : Nat) < 383; decide) rfl rfl gXA_141 (by decide +kernel) (by decide) (by decide) rfl (Nat.le_of_ble_eq_true rfl) rfl ⟨rfl, rfl⟩ (fun r1 σ1 hp1 => ?_)
      obtain ⟨e1, e2⟩ := hp1
      subst σ1
      subst r1
      refine v_if_ne (tgt := 42) C dXA_append_37 (by decide) (by omega) (fun hc3 => ?_) (fun hc3 => ?_)
      · exfalso; omega
      · refine v_iconst C dXA_append_40 ?_
        exact v_iret C hRt hLk dXA_append_41 ⟨rfl, rfl⟩
    · exfalso; omega
set_option maxRecDepth 100000 in
set_option maxHeartbeats 4000000 in
/-- append -/
theorem kX_XA_append (l : Launch) (D : va_G) (cA : Nat → ClassId) (ad : Nat → Nat) (hJ : f_J (xG D cA ad)) (σ : fS) (c : Nat) (hc : σ.1 10 1 = (c : Int)) (hI : x_I σ) (hf : σ.1 8 1 ≠ 0) (ha : σ.1 8 2 = 0) (hz : m_cnt (x_ch σ) 40 ≠ 0) (h60 : c < 60) (he : (x_apd σ c).1 377 3 ≤ 12000) : f_M l (xG D cA ad) (xE (xG D cA ad)) yXA_append (Cond.code yXA_append cXA_append 1 (some .int) :: A9) 4 σ [.ref (ad 0)] (f_QI (fun r σ1 => x_ccR (x_beg σ (σ.1 8 1)) 40 (x_ccF (x_beg σ (σ.1 8 1)) 40) ∧ σ1 = x_kept (x_apd σ c) c ∧ r = (x_apd σ c).1 374 6) (xG D cA ad)) := by
  refine f_enter (by decide +kernel) hJ rfl (Nat.le_of_ble_eq_true rfl) ?_
  intro z hzl hR C hRt hLk hEz
  subst hzl
  have hRR : 4 ≤ z.2.2.2.1.frames ∧ 40 * 4 ≤ z.2.2.2.1.locals ∧ 0 ≤ z.2.2.2.1.cells ∧ 0 ≤ z.2.2.2.1.slots := by rw [hR]; exact ⟨Nat.le_refl _, Nat.le_refl _, Nat.zero_le _, Nat.zero_le _⟩
  obtain ⟨B, hB⟩ : ∃ s, s = x_beg σ (σ.1 8 1) := ⟨_, rfl⟩
  have hB1 := x_beg_1 σ (σ.1 8 1)
  rw [← hB] at hB1
  obtain ⟨hB5, hB6, hB4⟩ := hB1
  have hBI : x_I B := by rw [hB]; exact x_I_beg hI _
  have h8 : 0 ≤ σ.1 8 1 ∧ σ.1 8 1 ≤ 12000 := hI.1 8 1
  have h82 : 0 ≤ σ.1 8 2 ∧ σ.1 8 2 ≤ 1 := hI.1 8 2
  have h10 : 0 ≤ σ.1 10 1 ∧ σ.1 10 1 ≤ 60 := hI.1 10 1
  have hcl := m_cnt_le (x_ch σ) 40
  refine v_aload_n C dXA_append_0 rfl rfl ?_
  refine v_getR (k := 0) (q := 1) C dXA_append_1 (by show (0 : Nat) < 383; decide) rfl rfl (by decide) rfl inXA lXA_19 rfl ?_
  refine v_getI (k := 8) (q := 1) (v := σ.1 8 1) C dXA_append_4 (by show (8 : Nat) < 383; decide) rfl rfl (by decide) rfl inXF lXA_131 rfl rfl ?_
  refine v_if_eq (tgt := 20) C dXA_append_7 (by decide) (by omega) (fun hc1 => ?_) (fun hc1 => ?_)
  · exfalso; omega
  · refine v_aload_n C dXA_append_10 rfl rfl ?_
    refine v_getR (k := 0) (q := 1) C dXA_append_11 (by show (0 : Nat) < 383; decide) rfl rfl (by decide) rfl inXA lXA_19 rfl ?_
    refine v_getI (k := 8) (q := 2) (v := σ.1 8 2) C dXA_append_14 (by show (8 : Nat) < 383; decide) rfl rfl (by decide) rfl inXF lXA_132 rfl rfl ?_
    refine v_if_eq (tgt := 30) C dXA_append_17 (by decide) (by omega) (fun hc2 => ?_) (fun hc2 => ?_)
    · refine v_aload_n C dXA_append_30 rfl rfl ?_
      refine v_getR (k := 0) (q := 0) C dXA_append_31 (by show (0 : Nat) < 383; decide) rfl rfl (by decide) rfl inXA lXA_10 rfl ?_
      refine v_cVI (k := 1) (n := 0) C (xE_ok _) hEz hR (kX_XS_countChanged _ D cA ad hJ σ (fun i => hI.2 2 i) (fun i => hI.2 6 i) (fun i => hI.2 7 i)) dXA_append_34 (by show (1 : Nat) < 383; decide) rfl rfl gXA_141 (by decide +kernel) (by decide) (by decide) rfl (Nat.le_of_ble_eq_true rfl) rfl ⟨rfl, rfl⟩ (fun r1 σ1 hp1 => ?_)
      obtain ⟨e1, e2⟩ := hp1
      subst σ1
      subst r1
      refine v_if_ne (tgt := 42) C dXA_append_37 (by decide) (by omega) (fun hc3 => ?_) (fun hc3 => ?_)
      · refine v_aload_n C dXA_append_42 rfl rfl ?_
        refine v_getR (k := 0) (q := 2) C dXA_append_43 (by show (0 : Nat) < 383; decide) rfl rfl (by decide) rfl inXA lXA_26 rfl ?_
        refine v_getI (k := 10) (q := 1) (v := (c : Int)) C dXA_append_46 (by show (10 : Nat) < 383; decide) rfl rfl (by decide) rfl inXH lXA_125 rfl hc ?_
        refine v_bipush C dXA_append_49 (by decide +kernel) ?_
        refine v_icmp_lt (tgt := 64) C dXA_append_51 (by decide) (by omega) (by omega) (fun hc4 => ?_) (fun hc4 => ?_)
        · refine v_aload_n C dXA_append_64 rfl rfl ?_
          refine v_getR (k := 0) (q := 4) C dXA_append_65 (by show (0 : Nat) < 383; decide) rfl rfl (by decide) rfl inXA lXA_44 rfl ?_
          refine v_aload_n C dXA_append_68 rfl rfl ?_
          refine v_getR (k := 0) (q := 1) C dXA_append_69 (by show (0 : Nat) < 383; decide) rfl rfl (by decide) rfl inXA lXA_19 rfl ?_
          refine v_getI (k := 8) (q := 1) (v := σ.1 8 1) C dXA_append_72 (by show (8 : Nat) < 383; decide) rfl rfl (by decide) rfl inXF lXA_131 rfl rfl ?_
          refine v_cVV (k := 374) (n := 1) C (xE_ok _) hEz hR (kX_XD_begin _ D cA ad hJ σ (σ.1 8 1) (by omega)) dXA_append_75 (by show (374 : Nat) < 383; decide) rfl rfl gXA_97 (by decide +kernel) (by decide) (by decide) rfl (Nat.le_of_ble_eq_true rfl) rfl ⟨rfl, rfl⟩ (fun σ1 hp1 => ?_)
          subst σ1
          refine v_st hB.symm ?_
          refine v_aload_n C dXA_append_78 rfl rfl ?_
          refine v_getR (k := 0) (q := 4) C dXA_append_79 (by show (0 : Nat) < 383; decide) rfl rfl (by decide) rfl inXA lXA_44 rfl ?_
          refine v_cVV (k := 374) (n := 0) C (xE_ok _) hEz hR (kX_XD_chooseChanged _ D cA ad hJ B hB4 (fun i => hBI.2 2 i) (fun i => hBI.2 3 i) (fun i => hBI.2 4 i) (fun i => hBI.2 6 i) (fun i => hBI.2 7 i)) dXA_append_82 (by show (374 : Nat) < 383; decide) rfl rfl gXA_147 (by decide +kernel) (by decide) (by decide) rfl (Nat.le_of_ble_eq_true rfl) rfl ⟨rfl, rfl⟩ (fun σ1 hp1 => ?_)
          obtain ⟨Cs, hCe⟩ : ∃ s, s = σ1 := ⟨_, rfl⟩
          refine v_st hCe.symm ?_
          rw [← hCe] at hp1
          have hC := hp1
          have hCF : Cs = x_ccF (x_beg σ (σ.1 8 1)) 40 := by rw [← hB]; exact x_ccR_F hB4 40 Cs (by omega) hC
          have hCI := x_ccR_I hB4 40 Cs (by omega) hC
          have hCR : x_ccR (x_beg σ (σ.1 8 1)) 40 (x_ccF (x_beg σ (σ.1 8 1)) 40) := by rw [← hCF, ← hB]; exact hC
          have hrd : x_rdy Cs := x_rdy_a hI (by rw [← hB]; exact hC)
          have hCc : Cs.1 10 1 = (c : Int) := by rw [hCI.2.1 10 1 (by omega), hB]; exact hc
          have hCx : ∀ a b, a ≠ 374 → Cs.1 a b = σ.1 a b := fun a b g => by rw [hCI.2.1 a b (by omega), hB]; show (f_p1 (f_p1 (f_p1 σ 374 5 _) 374 6 0) 374 4 0).1 a b = _; rw [p1_1, if_neg (by omega), p1_1, if_neg (by omega), p1_1, if_neg (by omega)]
          refine v_aload_n C dXA_append_85 rfl rfl ?_
          refine v_getR (k := 0) (q := 4) C dXA_append_86 (by show (0 : Nat) < 383; decide) rfl rfl (by decide) rfl inXA lXA_44 rfl ?_
          refine v_aload_n C dXA_append_89 rfl rfl ?_
          refine v_getR (k := 0) (q := 2) C dXA_append_90 (by show (0 : Nat) < 383; decide) rfl rfl (by decide) rfl inXA lXA_26 rfl ?_
          refine v_cVI (k := 10) (n := 0) C (xE_ok _) hEz hR (kX_XH_latestX _ D cA ad hJ Cs c hCc (by omega)) dXA_append_93 (by show (10 : Nat) < 383; decide) rfl rfl gXA_150 (by decide +kernel) (by decide) (by decide) rfl (Nat.le_of_ble_eq_true rfl) rfl ⟨rfl, rfl⟩ (fun r1 σ1 hp1 => ?_)
          obtain ⟨e1, e2⟩ := hp1
          subst σ1
          have e3 : r1 = x_lx σ c := by rw [e1]; unfold x_lx; split; (· rfl); (· exact hCx _ _ (by omega))
          subst e3
          have hlx : 0 ≤ x_lx σ c ∧ x_lx σ c ≤ 12000 := by unfold x_lx; split; (· omega); (· exact (x_okF_h (c - 1) (by omega) 2 (Or.inl rfl) _).mp (hI.1 _ _))
          refine v_cVV (k := 374) (n := 1) C (xE_ok _) hEz hR (kX_XD_finish _ D cA ad hJ Cs (x_lx σ c) (by omega) hrd.2.1 hrd.2.2.1 hrd.2.2.2.1 hrd.2.2.2.2 (fun i => hrd.1.2 4 i) (fun i => hrd.1.2 5 i) (fun i => hrd.1.2 375 i) (fun i => hrd.1.2 378 i) (fun i => hrd.1.2 379 i)) dXA_append_96 (by show (374 : Nat) < 383; decide) rfl rfl gXA_107 (by decide +kernel) (by decide) (by decide) rfl (Nat.le_of_ble_eq_true rfl) rfl ⟨rfl, rfl⟩ (fun σ1 hp1 => ?_)
          subst σ1
          obtain ⟨E, hE⟩ : ∃ s, s = x_fin Cs (x_lx σ c) := ⟨_, rfl⟩
          refine v_st hE.symm ?_
          have n0 := x_fin_n hrd (x_lx σ c)
          have n5 := x_fin_o hrd (x_lx σ c) 374 5 (by omega)
          have hEc : E.1 10 1 = (c : Int) := by rw [hE, x_fin_o hrd (x_lx σ c) 10 1 (by omega)]; exact hCc
          rw [← hE] at n0 n5
          have hEa : E = x_apd σ c := by rw [hE, hCF]; rfl
          have hEI : x_I E := by rw [hE]; exact x_I_fin hrd _
          have hEe : E.1 377 3 = (x_apd σ c).1 377 3 := by rw [hEa]
          have hCb := hrd.2.2.2.1
          have hCu := hrd.2.2.2.2
          have hBu : Cs.1 374 6 = 0 := by rw [hCI.2.1 374 6 (by omega)]; exact hB6
          refine v_aload_n C dXA_append_99 rfl rfl ?_
          refine v_getR (k := 0) (q := 4) C dXA_append_100 (by show (0 : Nat) < 383; decide) rfl rfl (by decide) rfl inXA lXA_44 rfl ?_
          refine v_getR (k := 374) (q := 3) C dXA_append_103 (by show (374 : Nat) < 383; decide) rfl rfl (by decide) rfl inXD lXA_110 rfl ?_
          refine v_getI (k := 377) (q := 3) (v := E.1 377 3) C dXA_append_106 (by show (377 : Nat) < 383; decide) rfl rfl (by decide) rfl inXT lXA_114 rfl rfl ?_
          refine v_sipush C dXA_append_109 (by decide +kernel) ?_
          refine v_icmp_le (tgt := 125) C dXA_append_112 (by decide) (by omega) (by omega) (fun hc5 => ?_) (fun hc5 => ?_)
          · refine v_aload_n C dXA_append_125 rfl rfl ?_
            refine v_cVV (k := 0) (n := 0) C (xE_ok _) hEz hR (kX_XA_keepDraft _ D cA ad hJ E c hEc (by omega) hEI (by omega) (by omega) (by omega)) dXA_append_126 (by show (0 : Nat) < 383; decide) rfl rfl gXA_128 (by decide +kernel) (by decide) (by decide) rfl (Nat.le_of_ble_eq_true rfl) rfl ⟨rfl, rfl⟩ (fun σ1 hp1 => ?_)
            obtain ⟨T, hT⟩ : ∃ s, s = x_kept E c := ⟨_, rfl⟩
            subst σ1
            refine v_st hT.symm ?_
            have hT6 : T.1 374 6 = (x_apd σ c).1 374 6 := by rw [hT, x_kept_1 _ _ _ _ (by omega), hEa]
            refine v_aload_n C dXA_append_129 rfl rfl ?_
            refine v_getR (k := 0) (q := 4) C dXA_append_130 (by show (0 : Nat) < 383; decide) rfl rfl (by decide) rfl inXA lXA_44 rfl ?_
            refine v_getI (k := 374) (q := 6) (v := T.1 374 6) C dXA_append_133 (by show (374 : Nat) < 383; decide) rfl rfl (by decide) rfl inXD lXA_153 rfl rfl ?_
            exact v_iret C hRt hLk dXA_append_136 ⟨hCR, by rw [hT, hEa], hT6⟩
          · exfalso; omega
        · exfalso; omega
      · exfalso; omega
    · exfalso; omega
set_option maxRecDepth 100000 in
set_option maxHeartbeats 4000000 in
/-- append throws UnsupportedOperationException -/
theorem tX_appendU (l : Launch) (D : va_G) (cA : Nat → ClassId) (ad : Nat → Nat) (hJ : f_J (xG D cA ad)) (hst : l.stackTraces = false) (σ : fS) (c : Nat) (hc : σ.1 10 1 = (c : Int)) (hI : x_I σ) (hf : σ.1 8 1 ≠ 0) (ha : σ.1 8 2 = 0) (hz : m_cnt (x_ch σ) 40 ≠ 0) (h60 : c = 60) : tx_M l (xG D cA ad) (xE (xG D cA ad)) yXA_append (Cond.code yXA_append cXA_append 1 (some .int) :: A9) 6 1 6 σ [.ref (ad 0)] "java/lang/UnsupportedOperationException" (fun σ1 => σ1 = σ) := by
  refine tx_enter (by decide +kernel) hJ rfl (Nat.le_of_ble_eq_true rfl) ?_
  intro z hzl hR C htab hLk hEz
  subst hzl
  have hRR : 6 ≤ z.2.2.2.1.frames ∧ 40 * 6 ≤ z.2.2.2.1.locals ∧ 0 ≤ z.2.2.2.1.cells ∧ 0 ≤ z.2.2.2.1.slots := by rw [hR]; exact ⟨Nat.le_refl _, Nat.le_refl _, Nat.zero_le _, Nat.zero_le _⟩
  obtain ⟨B, hB⟩ : ∃ s, s = x_beg σ (σ.1 8 1) := ⟨_, rfl⟩
  have hB1 := x_beg_1 σ (σ.1 8 1)
  rw [← hB] at hB1
  obtain ⟨hB5, hB6, hB4⟩ := hB1
  have hBI : x_I B := by rw [hB]; exact x_I_beg hI _
  have h8 : 0 ≤ σ.1 8 1 ∧ σ.1 8 1 ≤ 12000 := hI.1 8 1
  have h82 : 0 ≤ σ.1 8 2 ∧ σ.1 8 2 ≤ 1 := hI.1 8 2
  have h10 : 0 ≤ σ.1 10 1 ∧ σ.1 10 1 ≤ 60 := hI.1 10 1
  have hcl := m_cnt_le (x_ch σ) 40
  refine v_aload_n C dXA_append_0 rfl rfl ?_
  refine v_getR (k := 0) (q := 1) C dXA_append_1 (by show (0 : Nat) < 383; decide) rfl rfl (by decide) rfl inXA lXA_19 rfl ?_
  refine v_getI (k := 8) (q := 1) (v := σ.1 8 1) C dXA_append_4 (by show (8 : Nat) < 383; decide) rfl rfl (by decide) rfl inXF lXA_131 rfl rfl ?_
  refine v_if_eq (tgt := 20) C dXA_append_7 (by decide) (by omega) (fun hc1 => ?_) (fun hc1 => ?_)
  · exfalso; omega
  · refine v_aload_n C dXA_append_10 rfl rfl ?_
    refine v_getR (k := 0) (q := 1) C dXA_append_11 (by show (0 : Nat) < 383; decide) rfl rfl (by decide) rfl inXA lXA_19 rfl ?_
    refine v_getI (k := 8) (q := 2) (v := σ.1 8 2) C dXA_append_14 (by show (8 : Nat) < 383; decide) rfl rfl (by decide) rfl inXF lXA_132 rfl rfl ?_
    refine v_if_eq (tgt := 30) C dXA_append_17 (by decide) (by omega) (fun hc2 => ?_) (fun hc2 => ?_)
    · refine v_aload_n C dXA_append_30 rfl rfl ?_
      refine v_getR (k := 0) (q := 0) C dXA_append_31 (by show (0 : Nat) < 383; decide) rfl rfl (by decide) rfl inXA lXA_10 rfl ?_
      refine u_cVI (k := 1) (n := 0) C (xE_ok _) hEz hRR (kX_XS_countChanged _ D cA ad hJ σ (fun i => hI.2 2 i) (fun i => hI.2 6 i) (fun i => hI.2 7 i)) dXA_append_34 (by show (1 : Nat) < 383; decide) rfl rfl gXA_141 (by decide +kernel) (by decide) (by decide) rfl (Nat.le_of_ble_eq_true rfl) rfl (fun r1 σ1 hp1 => ?_)
      obtain ⟨e1, e2⟩ := hp1
      subst σ1
      subst r1
      refine v_if_ne (tgt := 42) C dXA_append_37 (by decide) (by omega) (fun hc3 => ?_) (fun hc3 => ?_)
      · refine v_aload_n C dXA_append_42 rfl rfl ?_
        refine v_getR (k := 0) (q := 2) C dXA_append_43 (by show (0 : Nat) < 383; decide) rfl rfl (by decide) rfl inXA lXA_26 rfl ?_
        refine v_getI (k := 10) (q := 1) (v := (c : Int)) C dXA_append_46 (by show (10 : Nat) < 383; decide) rfl rfl (by decide) rfl inXH lXA_125 rfl hc ?_
        refine v_bipush C dXA_append_49 (by decide +kernel) ?_
        refine v_icmp_lt (tgt := 64) C dXA_append_51 (by decide) (by omega) (by omega) (fun hc4 => ?_) (fun hc4 => ?_)
        · exfalso; omega
        · exact x_throw (is := 145) (text := "a file has at most 60 parts") C hEz hst htab hLk (by decide +kernel) (by decide +kernel) x_wU (by decide +kernel) dXA_append_54 dXA_append_57 dXA_append_58 dXA_append_60 dXA_append_63 (by rw [hR]; exact ⟨by decide, by decide, by decide, by decide⟩) ⟨by decide, by decide⟩ rfl
      · exfalso; omega
    · exfalso; omega
set_option maxRecDepth 100000 in
set_option maxHeartbeats 4000000 in
/-- append throws UnsupportedOperationException -/
theorem tX_appendV (l : Launch) (D : va_G) (cA : Nat → ClassId) (ad : Nat → Nat) (hJ : f_J (xG D cA ad)) (hst : l.stackTraces = false) (σ : fS) (c : Nat) (hc : σ.1 10 1 = (c : Int)) (hI : x_I σ) (hf : σ.1 8 1 ≠ 0) (ha : σ.1 8 2 = 0) (hz : m_cnt (x_ch σ) 40 ≠ 0) (h60 : c < 60) (he : ¬ (x_apd σ c).1 377 3 ≤ 12000) : tx_M l (xG D cA ad) (xE (xG D cA ad)) yXA_append (Cond.code yXA_append cXA_append 1 (some .int) :: A9) 6 1 6 σ [.ref (ad 0)] "java/lang/UnsupportedOperationException" (fun σ1 => x_ccR (x_beg σ (σ.1 8 1)) 40 (x_ccF (x_beg σ (σ.1 8 1)) 40) ∧ σ1 = x_apd σ c) := by
  refine tx_enter (by decide +kernel) hJ rfl (Nat.le_of_ble_eq_true rfl) ?_
  intro z hzl hR C htab hLk hEz
  subst hzl
  have hRR : 6 ≤ z.2.2.2.1.frames ∧ 40 * 6 ≤ z.2.2.2.1.locals ∧ 0 ≤ z.2.2.2.1.cells ∧ 0 ≤ z.2.2.2.1.slots := by rw [hR]; exact ⟨Nat.le_refl _, Nat.le_refl _, Nat.zero_le _, Nat.zero_le _⟩
  obtain ⟨B, hB⟩ : ∃ s, s = x_beg σ (σ.1 8 1) := ⟨_, rfl⟩
  have hB1 := x_beg_1 σ (σ.1 8 1)
  rw [← hB] at hB1
  obtain ⟨hB5, hB6, hB4⟩ := hB1
  have hBI : x_I B := by rw [hB]; exact x_I_beg hI _
  have h8 : 0 ≤ σ.1 8 1 ∧ σ.1 8 1 ≤ 12000 := hI.1 8 1
  have h82 : 0 ≤ σ.1 8 2 ∧ σ.1 8 2 ≤ 1 := hI.1 8 2
  have h10 : 0 ≤ σ.1 10 1 ∧ σ.1 10 1 ≤ 60 := hI.1 10 1
  have hcl := m_cnt_le (x_ch σ) 40
  refine v_aload_n C dXA_append_0 rfl rfl ?_
  refine v_getR (k := 0) (q := 1) C dXA_append_1 (by show (0 : Nat) < 383; decide) rfl rfl (by decide) rfl inXA lXA_19 rfl ?_
  refine v_getI (k := 8) (q := 1) (v := σ.1 8 1) C dXA_append_4 (by show (8 : Nat) < 383; decide) rfl rfl (by decide) rfl inXF lXA_131 rfl rfl ?_
  refine v_if_eq (tgt := 20) C dXA_append_7 (by decide) (by omega) (fun hc1 => ?_) (fun hc1 => ?_)
  · exfalso; omega
  · refine v_aload_n C dXA_append_10 rfl rfl ?_
    refine v_getR (k := 0) (q := 1) C dXA_append_11 (by show (0 : Nat) < 383; decide) rfl rfl (by decide) rfl inXA lXA_19 rfl ?_
    refine v_getI (k := 8) (q := 2) (v := σ.1 8 2) C dXA_append_14 (by show (8 : Nat) < 383; decide) rfl rfl (by decide) rfl inXF lXA_132 rfl rfl ?_
    refine v_if_eq (tgt := 30) C dXA_append_17 (by decide) (by omega) (fun hc2 => ?_) (fun hc2 => ?_)
    · refine v_aload_n C dXA_append_30 rfl rfl ?_
      refine v_getR (k := 0) (q := 0) C dXA_append_31 (by show (0 : Nat) < 383; decide) rfl rfl (by decide) rfl inXA lXA_10 rfl ?_
      refine u_cVI (k := 1) (n := 0) C (xE_ok _) hEz hRR (kX_XS_countChanged _ D cA ad hJ σ (fun i => hI.2 2 i) (fun i => hI.2 6 i) (fun i => hI.2 7 i)) dXA_append_34 (by show (1 : Nat) < 383; decide) rfl rfl gXA_141 (by decide +kernel) (by decide) (by decide) rfl (Nat.le_of_ble_eq_true rfl) rfl (fun r1 σ1 hp1 => ?_)
      obtain ⟨e1, e2⟩ := hp1
      subst σ1
      subst r1
      refine v_if_ne (tgt := 42) C dXA_append_37 (by decide) (by omega) (fun hc3 => ?_) (fun hc3 => ?_)
      · refine v_aload_n C dXA_append_42 rfl rfl ?_
        refine v_getR (k := 0) (q := 2) C dXA_append_43 (by show (0 : Nat) < 383; decide) rfl rfl (by decide) rfl inXA lXA_26 rfl ?_
        refine v_getI (k := 10) (q := 1) (v := (c : Int)) C dXA_append_46 (by show (10 : Nat) < 383; decide) rfl rfl (by decide) rfl inXH lXA_125 rfl hc ?_
        refine v_bipush C dXA_append_49 (by decide +kernel) ?_
        refine v_icmp_lt (tgt := 64) C dXA_append_51 (by decide) (by omega) (by omega) (fun hc4 => ?_) (fun hc4 => ?_)
        · refine v_aload_n C dXA_append_64 rfl rfl ?_
          refine v_getR (k := 0) (q := 4) C dXA_append_65 (by show (0 : Nat) < 383; decide) rfl rfl (by decide) rfl inXA lXA_44 rfl ?_
          refine v_aload_n C dXA_append_68 rfl rfl ?_
          refine v_getR (k := 0) (q := 1) C dXA_append_69 (by show (0 : Nat) < 383; decide) rfl rfl (by decide) rfl inXA lXA_19 rfl ?_
          refine v_getI (k := 8) (q := 1) (v := σ.1 8 1) C dXA_append_72 (by show (8 : Nat) < 383; decide) rfl rfl (by decide) rfl inXF lXA_131 rfl rfl ?_
          refine u_cVV (k := 374) (n := 1) C (xE_ok _) hEz hRR (kX_XD_begin _ D cA ad hJ σ (σ.1 8 1) (by omega)) dXA_append_75 (by show (374 : Nat) < 383; decide) rfl rfl gXA_97 (by decide +kernel) (by decide) (by decide) rfl (Nat.le_of_ble_eq_true rfl) rfl (fun σ1 hp1 => ?_)
          subst σ1
          refine v_st hB.symm ?_
          refine v_aload_n C dXA_append_78 rfl rfl ?_
          refine v_getR (k := 0) (q := 4) C dXA_append_79 (by show (0 : Nat) < 383; decide) rfl rfl (by decide) rfl inXA lXA_44 rfl ?_
          refine u_cVV (k := 374) (n := 0) C (xE_ok _) hEz hRR (kX_XD_chooseChanged _ D cA ad hJ B hB4 (fun i => hBI.2 2 i) (fun i => hBI.2 3 i) (fun i => hBI.2 4 i) (fun i => hBI.2 6 i) (fun i => hBI.2 7 i)) dXA_append_82 (by show (374 : Nat) < 383; decide) rfl rfl gXA_147 (by decide +kernel) (by decide) (by decide) rfl (Nat.le_of_ble_eq_true rfl) rfl (fun σ1 hp1 => ?_)
          obtain ⟨Cs, hCe⟩ : ∃ s, s = σ1 := ⟨_, rfl⟩
          refine v_st hCe.symm ?_
          rw [← hCe] at hp1
          have hC := hp1
          have hCF : Cs = x_ccF (x_beg σ (σ.1 8 1)) 40 := by rw [← hB]; exact x_ccR_F hB4 40 Cs (by omega) hC
          have hCI := x_ccR_I hB4 40 Cs (by omega) hC
          have hCR : x_ccR (x_beg σ (σ.1 8 1)) 40 (x_ccF (x_beg σ (σ.1 8 1)) 40) := by rw [← hCF, ← hB]; exact hC
          have hrd : x_rdy Cs := x_rdy_a hI (by rw [← hB]; exact hC)
          have hCc : Cs.1 10 1 = (c : Int) := by rw [hCI.2.1 10 1 (by omega), hB]; exact hc
          have hCx : ∀ a b, a ≠ 374 → Cs.1 a b = σ.1 a b := fun a b g => by rw [hCI.2.1 a b (by omega), hB]; show (f_p1 (f_p1 (f_p1 σ 374 5 _) 374 6 0) 374 4 0).1 a b = _; rw [p1_1, if_neg (by omega), p1_1, if_neg (by omega), p1_1, if_neg (by omega)]
          refine v_aload_n C dXA_append_85 rfl rfl ?_
          refine v_getR (k := 0) (q := 4) C dXA_append_86 (by show (0 : Nat) < 383; decide) rfl rfl (by decide) rfl inXA lXA_44 rfl ?_
          refine v_aload_n C dXA_append_89 rfl rfl ?_
          refine v_getR (k := 0) (q := 2) C dXA_append_90 (by show (0 : Nat) < 383; decide) rfl rfl (by decide) rfl inXA lXA_26 rfl ?_
          refine u_cVI (k := 10) (n := 0) C (xE_ok _) hEz hRR (kX_XH_latestX _ D cA ad hJ Cs c hCc (by omega)) dXA_append_93 (by show (10 : Nat) < 383; decide) rfl rfl gXA_150 (by decide +kernel) (by decide) (by decide) rfl (Nat.le_of_ble_eq_true rfl) rfl (fun r1 σ1 hp1 => ?_)
          obtain ⟨e1, e2⟩ := hp1
          subst σ1
          have e3 : r1 = x_lx σ c := by rw [e1]; unfold x_lx; split; (· rfl); (· exact hCx _ _ (by omega))
          subst e3
          have hlx : 0 ≤ x_lx σ c ∧ x_lx σ c ≤ 12000 := by unfold x_lx; split; (· omega); (· exact (x_okF_h (c - 1) (by omega) 2 (Or.inl rfl) _).mp (hI.1 _ _))
          refine u_cVV (k := 374) (n := 1) C (xE_ok _) hEz hRR (kX_XD_finish _ D cA ad hJ Cs (x_lx σ c) (by omega) hrd.2.1 hrd.2.2.1 hrd.2.2.2.1 hrd.2.2.2.2 (fun i => hrd.1.2 4 i) (fun i => hrd.1.2 5 i) (fun i => hrd.1.2 375 i) (fun i => hrd.1.2 378 i) (fun i => hrd.1.2 379 i)) dXA_append_96 (by show (374 : Nat) < 383; decide) rfl rfl gXA_107 (by decide +kernel) (by decide) (by decide) rfl (Nat.le_of_ble_eq_true rfl) rfl (fun σ1 hp1 => ?_)
          subst σ1
          obtain ⟨E, hE⟩ : ∃ s, s = x_fin Cs (x_lx σ c) := ⟨_, rfl⟩
          refine v_st hE.symm ?_
          have n0 := x_fin_n hrd (x_lx σ c)
          have n5 := x_fin_o hrd (x_lx σ c) 374 5 (by omega)
          have hEc : E.1 10 1 = (c : Int) := by rw [hE, x_fin_o hrd (x_lx σ c) 10 1 (by omega)]; exact hCc
          rw [← hE] at n0 n5
          have hEa : E = x_apd σ c := by rw [hE, hCF]; rfl
          have hEI : x_I E := by rw [hE]; exact x_I_fin hrd _
          have hEe : E.1 377 3 = (x_apd σ c).1 377 3 := by rw [hEa]
          have hCb := hrd.2.2.2.1
          have hCu := hrd.2.2.2.2
          have hBu : Cs.1 374 6 = 0 := by rw [hCI.2.1 374 6 (by omega)]; exact hB6
          refine v_aload_n C dXA_append_99 rfl rfl ?_
          refine v_getR (k := 0) (q := 4) C dXA_append_100 (by show (0 : Nat) < 383; decide) rfl rfl (by decide) rfl inXA lXA_44 rfl ?_
          refine v_getR (k := 374) (q := 3) C dXA_append_103 (by show (374 : Nat) < 383; decide) rfl rfl (by decide) rfl inXD lXA_110 rfl ?_
          refine v_getI (k := 377) (q := 3) (v := E.1 377 3) C dXA_append_106 (by show (377 : Nat) < 383; decide) rfl rfl (by decide) rfl inXT lXA_114 rfl rfl ?_
          refine v_sipush C dXA_append_109 (by decide +kernel) ?_
          refine v_icmp_le (tgt := 125) C dXA_append_112 (by decide) (by omega) (by omega) (fun hc5 => ?_) (fun hc5 => ?_)
          · exfalso; omega
          · exact x_throw (is := 122) (text := "a file has at most 12000 bytes") C hEz hst htab hLk (by decide +kernel) (by decide +kernel) x_wU (by decide +kernel) dXA_append_115 dXA_append_118 dXA_append_119 dXA_append_121 dXA_append_124 (by rw [hR]; exact ⟨by decide, by decide, by decide, by decide⟩) ⟨by decide, by decide⟩ ⟨hCR, hEa⟩
        · exfalso; omega
      · exfalso; omega
    · exfalso; omega
end
section
/-! READING: pure -/
def q_va (fb : Nat → Int) (fn i : Int) : Int := if 0 ≤ i ∧ i < fn then fb i.toNat else 256
theorem q_va_r {fb : Nat → Int} (hb : ∀ i, -128 ≤ fb i ∧ fb i ≤ 127) (fn i : Int) : -128 ≤ q_va fb fn i ∧ q_va fb fn i ≤ 256 := by
  unfold q_va
  split
  · have := hb i.toNat; omega
  · omega
theorem q_va_in {fb : Nat → Int} {fn i : Int} (h : q_va fb fn i ≠ 256) : 0 ≤ i ∧ i < fn := by
  unfold q_va at h
  split at h
  · assumption
  · exact absurd rfl h
def q_nl (fb : Nat → Int) (fn : Int) : Nat → Int → Int → Int × Int
  | 0, p, v => (v, p)
  | k + 1, p, v => if 48 ≤ q_va fb fn p ∧ q_va fb fn p ≤ 57 then q_nl fb fn k (p + 1) (v * 10 + q_va fb fn p - 48) else (v, p)
/-- behind a number -/
def q_np (fb : Nat → Int) (fn p : Int) : Int := (q_nl fb fn 6 p 0).2
/-- its value, or -1 -/
def q_nr (fb : Nat → Int) (fn p : Int) : Int := if q_np fb fn p - p < 1 ∨ 5 < q_np fb fn p - p ∨ (1 < q_np fb fn p - p ∧ q_va fb fn p = 48) then -1 else (q_nl fb fn 6 p 0).1
theorem q_nl_r (fb : Nat → Int) (fn : Int) : ∀ (k : Nat) (p v : Int), 0 ≤ v → ∃ j : Nat, j ≤ k ∧ (q_nl fb fn k p v).2 = p + j ∧ (0 < j → p + j ≤ fn ∧ 0 ≤ p) ∧ 0 ≤ (q_nl fb fn k p v).1 ∧ (q_nl fb fn k p v).1 + 1 ≤ (v + 1) * 10 ^ j := by
  intro k
  induction k with
  | zero => intro p v hv; exact ⟨0, Nat.le_refl _, by show p = p + 0; omega, fun h => absurd h (by omega), hv, by show v + 1 ≤ (v + 1) * 1; omega⟩
  | succ k ih =>
    intro p v hv
    by_cases g : 48 ≤ q_va fb fn p ∧ q_va fb fn p ≤ 57
    · obtain ⟨j, h1, h2, h3, h4, h5⟩ := ih (p + 1) (v * 10 + q_va fb fn p - 48) (by omega)
      have e : q_nl fb fn (k + 1) p v = q_nl fb fn k (p + 1) (v * 10 + q_va fb fn p - 48) := by show (if _ then _ else _) = _; rw [if_pos g]
      have hin := q_va_in (fb := fb) (fn := fn) (i := p) (by omega)
      rw [e]
      refine ⟨j + 1, by omega, by rw [h2]; push_cast; omega, fun _ => ⟨?_, hin.1⟩, h4, ?_⟩
      · by_cases hj : 0 < j
        · have := h3 hj; push_cast; omega
        · have : j = 0 := by omega
          subst this; push_cast; omega
      · have h6 : (v * 10 + q_va fb fn p - 48 + 1) * 10 ^ j ≤ ((v + 1) * 10) * 10 ^ j := Int.mul_le_mul_of_nonneg_right (by omega) (Int.le_of_lt (Int.pow_pos (by omega)))
        have h7 : (v + 1) * 10 ^ (j + 1) = ((v + 1) * 10) * 10 ^ j := by rw [Int.pow_succ, Int.mul_comm (10 ^ j) 10, Int.mul_assoc]
        omega
    · have e : q_nl fb fn (k + 1) p v = (v, p) := by show (if _ then _ else _) = _; rw [if_neg g]
      rw [e]
      exact ⟨0, by omega, by show p = p + 0; omega, fun h => absurd h (by omega), hv, by show v + 1 ≤ (v + 1) * 1; omega⟩
theorem q_np_r (fb : Nat → Int) (fn p : Int) : (p ≤ q_np fb fn p ∧ q_np fb fn p ≤ p + 6) ∧ (p < q_np fb fn p → q_np fb fn p ≤ fn ∧ 0 ≤ p) ∧ (-1 ≤ q_nr fb fn p ∧ q_nr fb fn p ≤ 99999) ∧ (q_nr fb fn p ≠ -1 → p < q_np fb fn p) := by
  obtain ⟨j, h1, h2, h3, h4, h5⟩ := q_nl_r fb fn 6 p 0 (by omega)
  have e : q_np fb fn p = p + j := h2
  refine ⟨by omega, fun h => ?_, ?_, ?_⟩
  · have := h3 (by omega); omega
  · unfold q_nr
    split
    · omega
    · rename_i g
      refine ⟨by omega, ?_⟩
      have hj : j ≤ 5 := by omega
      have h8 : (10 : Int) ^ j ≤ 100000 := by
        rcases (show j = 0 ∨ j = 1 ∨ j = 2 ∨ j = 3 ∨ j = 4 ∨ j = 5 by omega) with rfl | rfl | rfl | rfl | rfl | rfl <;> decide
      omega
  · intro h
    unfold q_nr at h
    split at h
    · exact absurd rfl h
    · omega
/-- the line of a letter and a number at p -/
def q_tg (fb : Nat → Int) (fn p c : Int) : Prop := q_va fb fn p = c ∧ q_va fb fn (p + 1) = 32 ∧ q_nr fb fn (p + 2) ≠ -1 ∧ q_va fb fn (q_np fb fn (p + 2)) = 10
/-- the record of object n at p: where its length begins, its length, where its bytes begin -/
def q_la (fb : Nat → Int) (fn p : Int) : Int := q_np fb fn (p + 2) + 1
def q_len (fb : Nat → Int) (fn p : Int) : Int := q_nr fb fn (q_la fb fn p)
def q_by (fb : Nat → Int) (fn p : Int) : Int := q_np fb fn (q_la fb fn p) + 1
def q_rec (fb : Nat → Int) (fn n p x : Int) : Prop := q_va fb fn p = 111 ∧ q_va fb fn (p + 1) = 32 ∧ q_nr fb fn (p + 2) = n ∧ q_va fb fn (q_np fb fn (p + 2)) = 32 ∧ (q_len fb fn p ≠ -1 ∧ q_len fb fn p ≤ 120) ∧ q_va fb fn (q_np fb fn (q_la fb fn p)) = 10 ∧ q_by fb fn p + q_len fb fn p < x ∧ q_va fb fn (q_by fb fn p + q_len fb fn p) = 10
def q_fl (fb : Nat → Int) (fn : Int) : Prop := q_va fb fn 0 = 37 ∧ q_va fb fn 1 = 70 ∧ q_va fb fn 2 = 49 ∧ q_va fb fn 3 = 10
def q_ll (fb : Nat → Int) (fn : Int) : Nat → Int → Int
  | 0, p => p
  | k + 1, p => if q_va fb fn (p - 1) = 10 then p else q_ll fb fn k (p - 1)
theorem q_ll_r (fb : Nat → Int) (fn : Int) : ∀ (k : Nat) (p : Int), p - k ≤ q_ll fb fn k p ∧ q_ll fb fn k p ≤ p := by
  intro k
  induction k with
  | zero => intro p; show p - 0 ≤ p ∧ p ≤ p; omega
  | succ k ih =>
    intro p
    show p - ((k + 1 : Nat) : Int) ≤ (if _ then _ else _) ∧ (if _ then _ else _) ≤ p
    split
    · omega
    · have := ih (p - 1); push_cast; omega
/-- the next place of the scan -/
def x_nx (σ : fS) (v : Int) : fS := f_p1 σ 192 3 v
theorem x_nx_nx (σ : fS) (a b : Int) : f_p1 (x_nx σ a) 192 3 b = x_nx σ b := by
  refine fS_ext (fun x y => ?_) (fun _ _ => rfl)
  unfold x_nx
  rw [p1_1, p1_1, p1_1]
  split <;> rfl
theorem x_nx_self (σ : fS) {v : Int} (h : σ.1 192 3 = v) : σ = x_nx σ v := by
  refine fS_ext (fun x y => ?_) (fun _ _ => rfl)
  unfold x_nx
  rw [p1_1]
  split
  · rename_i g; rw [g.1, g.2]; exact h
  · rfl
theorem kX_XF_valueAtF (l : Launch) (D : va_G) (cA : Nat → ClassId) (ad : Nat → Nat) (hJ : f_J (xG D cA ad)) (σ : fS) (i : Int) (hi : -2147483648 ≤ i ∧ i ≤ 2147483647) (fb : Nat → Int) (fn : Int) (hfb : σ.2 9 = fb) (hfn : σ.1 8 1 = fn) (hn0 : 0 ≤ fn ∧ fn ≤ 12000) (hb9 : ∀ i, -128 ≤ fb i ∧ fb i ≤ 127) : f_M l (xG D cA ad) (xE (xG D cA ad)) yXF_valueAt (Cond.code yXF_valueAt cXF_valueAt 2 (some .int) :: A9) 0 σ [.ref (ad 8), .int (fI i)] (f_QI (fun r σ1 => r = q_va fb fn i ∧ σ1 = σ) (xG D cA ad)) :=
  f_weakI (kX_XF_valueAt l D cA ad hJ σ i hi (by rw [hfn]; exact hn0) (by rw [hfb]; exact hb9)) (fun r σ1 h => by rw [hfb, hfn] at h; exact h)
set_option maxRecDepth 100000 in
set_option maxHeartbeats 4000000 in
/-- isDigit -/
theorem kX_XC_isDigit (l : Launch) (D : va_G) (cA : Nat → ClassId) (ad : Nat → Nat) (hJ : f_J (xG D cA ad)) (σ : fS) (v : Int) (hv : -2147483648 ≤ v ∧ v ≤ 2147483647) : f_M l (xG D cA ad) (xE (xG D cA ad)) yXC_isDigit (Cond.code yXC_isDigit cXC_isDigit 1 (some .boolean) :: A9) 0 σ [.int (fI v)] (f_QI (fun r σ1 => ((48 ≤ v ∧ v ≤ 57) ∧ r = 1 ∧ σ1 = σ) ∨ (¬ (48 ≤ v ∧ v ≤ 57) ∧ r = 0 ∧ σ1 = σ)) (xG D cA ad)) := by
  refine f_enter (by decide +kernel) hJ rfl (Nat.le_of_ble_eq_true rfl) ?_
  intro z hzl hR C hRt hLk hEz
  subst hzl
  have hRR : 0 ≤ z.2.2.2.1.frames ∧ 40 * 0 ≤ z.2.2.2.1.locals ∧ 0 ≤ z.2.2.2.1.cells ∧ 0 ≤ z.2.2.2.1.slots := by rw [hR]; exact ⟨Nat.le_refl _, Nat.le_refl _, Nat.zero_le _, Nat.zero_le _⟩
  refine v_iload_n C dXC_isDigit_0 rfl rfl ?_
  refine v_bipush C dXC_isDigit_1 (by decide +kernel) ?_
  refine v_icmp_lt (tgt := 16) C dXC_isDigit_3 (by decide) (by omega) (by omega) (fun hc1 => ?_) (fun hc1 => ?_)
  · refine v_iconst C dXC_isDigit_16 ?_
    exact v_zret C hRt hLk dXC_isDigit_17 (fN_bool (by omega)) (by first | exact Or.inl ⟨by omega, rfl, rfl⟩ | exact Or.inr ⟨by omega, rfl, rfl⟩)
  · refine v_iload_n C dXC_isDigit_6 rfl rfl ?_
    refine v_bipush C dXC_isDigit_7 (by decide +kernel) ?_
    refine v_icmp_gt (tgt := 16) C dXC_isDigit_9 (by decide) (by omega) (by omega) (fun hc2 => ?_) (fun hc2 => ?_)
    · refine v_iconst C dXC_isDigit_16 ?_
      exact v_zret C hRt hLk dXC_isDigit_17 (fN_bool (by omega)) (by first | exact Or.inl ⟨by omega, rfl, rfl⟩ | exact Or.inr ⟨by omega, rfl, rfl⟩)
    · refine v_iconst C dXC_isDigit_12 ?_
      refine v_goto (tgt := 17) C dXC_isDigit_13 (by decide) ?_
      exact v_zret C hRt hLk dXC_isDigit_17 (fN_bool (by omega)) (by first | exact Or.inl ⟨by omega, rfl, rfl⟩ | exact Or.inr ⟨by omega, rfl, rfl⟩)
set_option maxRecDepth 100000 in
set_option maxHeartbeats 4000000 in
/-- accept -/
theorem kX_XC_accept (l : Launch) (D : va_G) (cA : Nat → ClassId) (ad : Nat → Nat) (hJ : f_J (xG D cA ad)) (σ : fS) (c : Int) (hc : -2147483648 ≤ c ∧ c ≤ 2147483647 ∧ c ≠ 256) (hp : -2147483648 ≤ σ.1 192 3 ∧ σ.1 192 3 ≤ 2147483647) (fb : Nat → Int) (fn : Int) (hfb : σ.2 9 = fb) (hfn : σ.1 8 1 = fn) (hn0 : 0 ≤ fn ∧ fn ≤ 12000) (hb9 : ∀ i, -128 ≤ fb i ∧ fb i ≤ 127) : f_M l (xG D cA ad) (xE (xG D cA ad)) yXC_accept (Cond.code yXC_accept cXC_accept 2 (some .boolean) :: A9) 0 σ [.ref (ad 192), .int (fI c)] (f_QI (fun r σ1 => (q_va fb fn (σ.1 192 3) = c ∧ r = 1 ∧ σ1 = f_p1 σ 192 3 (σ.1 192 3 + 1)) ∨ (¬ q_va fb fn (σ.1 192 3) = c ∧ r = 0 ∧ σ1 = σ)) (xG D cA ad)) := by
  refine f_enter (by decide +kernel) hJ rfl (Nat.le_of_ble_eq_true rfl) ?_
  intro z hzl hR C hRt hLk hEz
  subst hzl
  have hRR : 0 ≤ z.2.2.2.1.frames ∧ 40 * 0 ≤ z.2.2.2.1.locals ∧ 0 ≤ z.2.2.2.1.cells ∧ 0 ≤ z.2.2.2.1.slots := by rw [hR]; exact ⟨Nat.le_refl _, Nat.le_refl _, Nat.zero_le _, Nat.zero_le _⟩
  have hb9p := hb9 (σ.1 192 3).toNat
  refine v_aload_n C dXC_accept_0 rfl rfl ?_
  refine v_getI (k := 192) (q := 3) (v := σ.1 192 3) C dXC_accept_1 (by show (192 : Nat) < 383; decide) rfl rfl (by decide) rfl inXC lXC_73 rfl rfl ?_
  refine v_if_lt (tgt := 37) C dXC_accept_4 (by decide) (by omega) (fun hc1 => ?_) (fun hc1 => ?_)
  · refine v_iconst C dXC_accept_37 ?_
    exact v_zret C hRt hLk dXC_accept_38 (fN_bool (by omega)) (by unfold q_va; first | exact Or.inl ⟨by rw [if_pos (by omega)]; omega, rfl, rfl⟩ | exact Or.inr ⟨by rw [if_neg (by omega)]; omega, rfl, rfl⟩ | exact Or.inr ⟨by rw [if_pos (by omega)]; omega, rfl, rfl⟩)
  · refine v_aload_n C dXC_accept_7 rfl rfl ?_
    refine v_getI (k := 192) (q := 3) (v := σ.1 192 3) C dXC_accept_8 (by show (192 : Nat) < 383; decide) rfl rfl (by decide) rfl inXC lXC_73 rfl rfl ?_
    refine v_aload_n C dXC_accept_11 rfl rfl ?_
    refine v_getR (k := 192) (q := 0) C dXC_accept_12 (by show (192 : Nat) < 383; decide) rfl rfl (by decide) rfl inXC lXC_17 rfl ?_
    refine v_getI (k := 8) (q := 1) (v := fn) C dXC_accept_15 (by show (8 : Nat) < 383; decide) rfl rfl (by decide) rfl inXF lXC_30 rfl hfn ?_
    refine v_icmp_ge (tgt := 37) C dXC_accept_18 (by decide) (by omega) (by omega) (fun hc2 => ?_) (fun hc2 => ?_)
    · refine v_iconst C dXC_accept_37 ?_
      exact v_zret C hRt hLk dXC_accept_38 (fN_bool (by omega)) (by unfold q_va; first | exact Or.inl ⟨by rw [if_pos (by omega)]; omega, rfl, rfl⟩ | exact Or.inr ⟨by rw [if_neg (by omega)]; omega, rfl, rfl⟩ | exact Or.inr ⟨by rw [if_pos (by omega)]; omega, rfl, rfl⟩)
    · refine v_aload_n C dXC_accept_21 rfl rfl ?_
      refine v_getR (k := 192) (q := 0) C dXC_accept_22 (by show (192 : Nat) < 383; decide) rfl rfl (by decide) rfl inXC lXC_17 rfl ?_
      refine v_getR (k := 8) (q := 0) C dXC_accept_25 (by show (8 : Nat) < 383; decide) rfl rfl (by decide) rfl inXF lXC_100 rfl ?_
      refine v_aload_n C dXC_accept_28 rfl rfl ?_
      refine v_getI (k := 192) (q := 3) (v := σ.1 192 3) C dXC_accept_29 (by show (192 : Nat) < 383; decide) rfl rfl (by decide) rfl inXC lXC_73 rfl rfl ?_
      refine v_bald (k := 9) (v := fb (σ.1 192 3).toNat) C dXC_accept_32 (by show (9 : Nat) < 383; decide) rfl rfl (by omega) (by decide) (congrFun hfb _) ?_
      refine v_iload_n C dXC_accept_33 rfl rfl ?_
      refine v_icmp_eq (tgt := 39) C dXC_accept_34 (by decide) (by omega) (by omega) (fun hc3 => ?_) (fun hc3 => ?_)
      · refine v_aload_n C dXC_accept_39 rfl rfl ?_
        refine v_dup C dXC_accept_40 rfl ?_
        refine v_getI (k := 192) (q := 3) (v := σ.1 192 3) C dXC_accept_41 (by show (192 : Nat) < 383; decide) rfl rfl (by decide) rfl inXC lXC_73 rfl rfl ?_
        refine v_iconst C dXC_accept_44 ?_
        refine v_iadd C dXC_accept_45 ?_
        refine v_putI (k := 192) (q := 3) C dXC_accept_46 (by show (192 : Nat) < 383; decide) rfl rfl (by decide) rfl inXC tyXC_ok nmXC lXC_73 rfl rfl rfl rfl rfl ?_
        refine v_iconst C dXC_accept_49 ?_
        exact v_zret C hRt hLk dXC_accept_50 (fN_bool (by omega)) (by unfold q_va; first | exact Or.inl ⟨by rw [if_pos (by omega)]; omega, rfl, rfl⟩ | exact Or.inr ⟨by rw [if_neg (by omega)]; omega, rfl, rfl⟩ | exact Or.inr ⟨by rw [if_pos (by omega)]; omega, rfl, rfl⟩)
      · refine v_iconst C dXC_accept_37 ?_
        exact v_zret C hRt hLk dXC_accept_38 (fN_bool (by omega)) (by unfold q_va; first | exact Or.inl ⟨by rw [if_pos (by omega)]; omega, rfl, rfl⟩ | exact Or.inr ⟨by rw [if_neg (by omega)]; omega, rfl, rfl⟩ | exact Or.inr ⟨by rw [if_pos (by omega)]; omega, rfl, rfl⟩)
set_option maxRecDepth 100000 in
set_option maxHeartbeats 4000000 in
/-- number -/
theorem kX_XC_number (l : Launch) (D : va_G) (cA : Nat → ClassId) (ad : Nat → Nat) (hJ : f_J (xG D cA ad)) (σ : fS) (p : Int) (hpp : -10 ≤ p ∧ p ≤ 200000) (hp0 : σ.1 192 3 = p) (fb : Nat → Int) (fn : Int) (hfb : σ.2 9 = fb) (hfn : σ.1 8 1 = fn) (hn0 : 0 ≤ fn ∧ fn ≤ 12000) (hb9 : ∀ i, -128 ≤ fb i ∧ fb i ≤ 127) : f_M l (xG D cA ad) (xE (xG D cA ad)) yXC_number (Cond.code yXC_number cXC_number 5 (some .int) :: A9) 1 σ [.ref (ad 192)] (f_QI (fun r σ1 => r = q_nr fb fn p ∧ σ1 = f_p1 σ 192 3 (q_np fb fn p)) (xG D cA ad)) := by
  refine f_enter (by decide +kernel) hJ rfl (Nat.le_of_ble_eq_true rfl) ?_
  intro z hzl hR C hRt hLk hEz
  subst hzl
  have hRR : 1 ≤ z.2.2.2.1.frames ∧ 40 * 1 ≤ z.2.2.2.1.locals ∧ 0 ≤ z.2.2.2.1.cells ∧ 0 ≤ z.2.2.2.1.slots := by rw [hR]; exact ⟨Nat.le_refl _, Nat.le_refl _, Nat.zero_le _, Nat.zero_le _⟩
  have hpr := q_np_r fb fn p
  have hvr := q_va_r hb9 fn p
  have L9 : ∀ v : Int, (q_nl fb fn 6 p 0).1 = v → fv z (xG D cA ad) 5 (f_R z (xG D cA ad) (f_QI (fun r σ1 => r = q_nr fb fn p ∧ σ1 = f_p1 σ 192 3 (q_np fb fn p)) (xG D cA ad))) 0 0 (x_nx σ (q_np fb fn p)) 67 [some (.ref (ad 192)), some (.int (fI p)), some (.int (fI v)), none, none] [] := by
    intro v hv
    refine v_aload_n C dXC_number_67 rfl rfl ?_
    refine v_getI (k := 192) (q := 3) (v := q_np fb fn p) C dXC_number_68 (by show (192 : Nat) < 383; decide) rfl rfl (by decide) rfl inXC lXC_73 rfl rfl ?_
    refine v_iload_n C dXC_number_71 rfl rfl ?_
    refine v_isub C dXC_number_72 ?_
    refine v_istore_n C dXC_number_73 rfl (by decide) ?_
    refine v_iload_n C dXC_number_74 rfl rfl ?_
    refine v_iconst C dXC_number_75 ?_
    refine v_icmp_le (tgt := 96) C dXC_number_76 (by decide) (by omega) (by omega) (fun hc1 => ?_) (fun hc1 => ?_)
    · refine v_iconst C dXC_number_96 ?_
      refine v_istore C dXC_number_97 (by decide) ?_
      refine v_iload_n C dXC_number_99 rfl rfl ?_
      refine v_iconst C dXC_number_100 ?_
      refine v_icmp_lt (tgt := 114) C dXC_number_101 (by decide) (by omega) (by omega) (fun hc2 => ?_) (fun hc2 => ?_)
      · refine v_iconst C dXC_number_114 ?_
        refine v_goto (tgt := 119) C dXC_number_115 (by decide) ?_
        exact v_iret C hRt hLk dXC_number_119 ⟨by unfold q_nr; first | rw [if_pos (by omega)] | (rw [if_neg (by omega)]; exact hv.symm), rfl⟩
      · refine v_iload_n C dXC_number_104 rfl rfl ?_
        refine v_iconst C dXC_number_105 ?_
        refine v_icmp_gt (tgt := 114) C dXC_number_106 (by decide) (by omega) (by omega) (fun hc3 => ?_) (fun hc3 => ?_)
        · refine v_iconst C dXC_number_114 ?_
          refine v_goto (tgt := 119) C dXC_number_115 (by decide) ?_
          exact v_iret C hRt hLk dXC_number_119 ⟨by unfold q_nr; first | rw [if_pos (by omega)] | (rw [if_neg (by omega)]; exact hv.symm), rfl⟩
        · refine v_iload C dXC_number_109 rfl ?_
          refine v_if_eq (tgt := 118) C dXC_number_111 (by decide) (by omega) (fun hc4 => ?_) (fun hc4 => ?_)
          · refine v_iload_n C dXC_number_118 rfl rfl ?_
            exact v_iret C hRt hLk dXC_number_119 ⟨by unfold q_nr; first | rw [if_pos (by omega)] | (rw [if_neg (by omega)]; exact hv.symm), rfl⟩
          · exfalso; omega
    · refine v_aload_n C dXC_number_79 rfl rfl ?_
      refine v_getR (k := 192) (q := 0) C dXC_number_80 (by show (192 : Nat) < 383; decide) rfl rfl (by decide) rfl inXC lXC_17 rfl ?_
      refine v_iload_n C dXC_number_83 rfl rfl ?_
      refine v_cVI (k := 8) (n := 1) C (xE_ok _) hEz hR (kX_XF_valueAtF _ D cA ad hJ (x_nx σ (q_np fb fn p)) (p) (by omega) fb fn hfb hfn hn0 hb9) dXC_number_84 (by show (8 : Nat) < 383; decide) rfl rfl gXC_33 (by decide +kernel) (by decide) (by decide) rfl (Nat.le_of_ble_eq_true rfl) rfl ⟨rfl, rfl⟩ (fun rv5 σv5 hpv5 => ?_)
      obtain ⟨e1v5, e2v5⟩ := hpv5
      subst σv5
      subst e1v5
      have hrv5 := q_va_r hb9 fn (p)
      have hiv5 := @q_va_in fb fn (p)
      refine v_bipush C dXC_number_87 (by decide +kernel) ?_
      refine v_icmp_ne (tgt := 96) C dXC_number_89 (by decide) (by omega) (by omega) (fun hc6 => ?_) (fun hc6 => ?_)
      · refine v_iconst C dXC_number_96 ?_
        refine v_istore C dXC_number_97 (by decide) ?_
        refine v_iload_n C dXC_number_99 rfl rfl ?_
        refine v_iconst C dXC_number_100 ?_
        refine v_icmp_lt (tgt := 114) C dXC_number_101 (by decide) (by omega) (by omega) (fun hc7 => ?_) (fun hc7 => ?_)
        · refine v_iconst C dXC_number_114 ?_
          refine v_goto (tgt := 119) C dXC_number_115 (by decide) ?_
          exact v_iret C hRt hLk dXC_number_119 ⟨by unfold q_nr; first | rw [if_pos (by omega)] | (rw [if_neg (by omega)]; exact hv.symm), rfl⟩
        · refine v_iload_n C dXC_number_104 rfl rfl ?_
          refine v_iconst C dXC_number_105 ?_
          refine v_icmp_gt (tgt := 114) C dXC_number_106 (by decide) (by omega) (by omega) (fun hc8 => ?_) (fun hc8 => ?_)
          · refine v_iconst C dXC_number_114 ?_
            refine v_goto (tgt := 119) C dXC_number_115 (by decide) ?_
            exact v_iret C hRt hLk dXC_number_119 ⟨by unfold q_nr; first | rw [if_pos (by omega)] | (rw [if_neg (by omega)]; exact hv.symm), rfl⟩
          · refine v_iload C dXC_number_109 rfl ?_
            refine v_if_eq (tgt := 118) C dXC_number_111 (by decide) (by omega) (fun hc9 => ?_) (fun hc9 => ?_)
            · refine v_iload_n C dXC_number_118 rfl rfl ?_
              exact v_iret C hRt hLk dXC_number_119 ⟨by unfold q_nr; first | rw [if_pos (by omega)] | (rw [if_neg (by omega)]; exact hv.symm), rfl⟩
            · exfalso; omega
      · refine v_iconst C dXC_number_92 ?_
        refine v_goto (tgt := 97) C dXC_number_93 (by decide) ?_
        refine v_istore C dXC_number_97 (by decide) ?_
        refine v_iload_n C dXC_number_99 rfl rfl ?_
        refine v_iconst C dXC_number_100 ?_
        refine v_icmp_lt (tgt := 114) C dXC_number_101 (by decide) (by omega) (by omega) (fun hc10 => ?_) (fun hc10 => ?_)
        · refine v_iconst C dXC_number_114 ?_
          refine v_goto (tgt := 119) C dXC_number_115 (by decide) ?_
          exact v_iret C hRt hLk dXC_number_119 ⟨by unfold q_nr; first | rw [if_pos (by omega)] | (rw [if_neg (by omega)]; exact hv.symm), rfl⟩
        · refine v_iload_n C dXC_number_104 rfl rfl ?_
          refine v_iconst C dXC_number_105 ?_
          refine v_icmp_gt (tgt := 114) C dXC_number_106 (by decide) (by omega) (by omega) (fun hc11 => ?_) (fun hc11 => ?_)
          · refine v_iconst C dXC_number_114 ?_
            refine v_goto (tgt := 119) C dXC_number_115 (by decide) ?_
            exact v_iret C hRt hLk dXC_number_119 ⟨by unfold q_nr; first | rw [if_pos (by omega)] | (rw [if_neg (by omega)]; exact hv.symm), rfl⟩
          · refine v_iload C dXC_number_109 rfl ?_
            refine v_if_eq (tgt := 118) C dXC_number_111 (by decide) (by omega) (fun hc12 => ?_) (fun hc12 => ?_)
            · exfalso; omega
            · refine v_iconst C dXC_number_114 ?_
              refine v_goto (tgt := 119) C dXC_number_115 (by decide) ?_
              exact v_iret C hRt hLk dXC_number_119 ⟨by unfold q_nr; first | rw [if_pos (by omega)] | (rw [if_neg (by omega)]; exact hv.symm), rfl⟩
  have L : ∀ (m j : Nat) (v : Int), m + j = 6 → q_nl fb fn m (p + j) v = q_nl fb fn 6 p 0 → fv z (xG D cA ad) 5 (f_R z (xG D cA ad) (f_QI (fun r σ1 => r = q_nr fb fn p ∧ σ1 = f_p1 σ 192 3 (q_np fb fn p)) (xG D cA ad))) 0 0 (x_nx σ (p + j)) 7 [some (.ref (ad 192)), some (.int (fI p)), some (.int (fI v)), none, none] [] := by
    intro m
    induction m with
    | zero =>
      intro j v hj hq
      have hqv : (q_nl fb fn 6 p 0).1 = v := by rw [← hq]; rfl
      have hqp : q_np fb fn p = p + j := by show (q_nl fb fn 6 p 0).2 = _; rw [← hq]; rfl
      refine v_aload_n C dXC_number_7 rfl rfl ?_
      refine v_getI (k := 192) (q := 3) (v := p + (j : Int)) C dXC_number_8 (by show (192 : Nat) < 383; decide) rfl rfl (by decide) rfl inXC lXC_73 rfl rfl ?_
      refine v_iload_n C dXC_number_11 rfl rfl ?_
      refine v_isub C dXC_number_12 ?_
      refine v_iconst C dXC_number_13 ?_
      refine v_icmp_gt (tgt := 67) C dXC_number_14 (by decide) (by omega) (by omega) (fun hc13 => ?_) (fun hc13 => ?_)
      · exact v_st (by rw [hqp]) (L9 v hqv)
      · exfalso; omega
    | succ m ih =>
      intro j v hj hq
      have hq2 : q_nl fb fn (m + 1) (p + j) v = if 48 ≤ q_va fb fn (p + j) ∧ q_va fb fn (p + j) ≤ 57 then q_nl fb fn m (p + j + 1) (v * 10 + q_va fb fn (p + j) - 48) else (v, p + j) := rfl
      rw [hq2] at hq
      refine v_aload_n C dXC_number_7 rfl rfl ?_
      refine v_getI (k := 192) (q := 3) (v := p + (j : Int)) C dXC_number_8 (by show (192 : Nat) < 383; decide) rfl rfl (by decide) rfl inXC lXC_73 rfl rfl ?_
      refine v_iload_n C dXC_number_11 rfl rfl ?_
      refine v_isub C dXC_number_12 ?_
      refine v_iconst C dXC_number_13 ?_
      refine v_icmp_gt (tgt := 67) C dXC_number_14 (by decide) (by omega) (by omega) (fun hc14 => ?_) (fun hc14 => ?_)
      · exfalso; omega
      · refine v_aload_n C dXC_number_17 rfl rfl ?_
        refine v_getR (k := 192) (q := 0) C dXC_number_18 (by show (192 : Nat) < 383; decide) rfl rfl (by decide) rfl inXC lXC_17 rfl ?_
        refine v_aload_n C dXC_number_21 rfl rfl ?_
        refine v_getI (k := 192) (q := 3) (v := p + (j : Int)) C dXC_number_22 (by show (192 : Nat) < 383; decide) rfl rfl (by decide) rfl inXC lXC_73 rfl rfl ?_
        refine v_cVI (k := 8) (n := 1) C (xE_ok _) hEz hR (kX_XF_valueAtF _ D cA ad hJ (x_nx σ (p + (j : Int))) (p + (j : Int)) (by omega) fb fn hfb hfn hn0 hb9) dXC_number_25 (by show (8 : Nat) < 383; decide) rfl rfl gXC_33 (by decide +kernel) (by decide) (by decide) rfl (Nat.le_of_ble_eq_true rfl) rfl ⟨rfl, rfl⟩ (fun rv15 σv15 hpv15 => ?_)
        obtain ⟨e1v15, e2v15⟩ := hpv15
        subst σv15
        subst e1v15
        have hrv15 := q_va_r hb9 fn (p + (j : Int))
        have hiv15 := @q_va_in fb fn (p + (j : Int))
        refine v_cSI (n := 1) C (xE_ok _) hEz hR (kX_XC_isDigit _ D cA ad hJ (x_nx σ (p + (j : Int))) ((q_va fb fn (p + (j : Int)))) (by omega)) dXC_number_28 gXC_97 (by decide +kernel) (by decide) (by decide) rfl (Nat.le_of_ble_eq_true rfl) rfl ⟨rfl, rfl⟩ (fun rd16 σd16 hpd16 => ?_)
        obtain ⟨hd16, rfl, rfl⟩ | ⟨hd16, rfl, rfl⟩ := hpd16
        · refine v_if_eq (tgt := 67) C dXC_number_31 (by decide) (by omega) (fun hc17 => ?_) (fun hc17 => ?_)
          · exfalso; omega
          · refine v_iload_n C dXC_number_34 rfl rfl ?_
            refine v_bipush C dXC_number_35 (by decide +kernel) ?_
            refine v_imul C dXC_number_37 ?_
            refine v_aload_n C dXC_number_38 rfl rfl ?_
            refine v_getR (k := 192) (q := 0) C dXC_number_39 (by show (192 : Nat) < 383; decide) rfl rfl (by decide) rfl inXC lXC_17 rfl ?_
            refine v_aload_n C dXC_number_42 rfl rfl ?_
            refine v_getI (k := 192) (q := 3) (v := p + (j : Int)) C dXC_number_43 (by show (192 : Nat) < 383; decide) rfl rfl (by decide) rfl inXC lXC_73 rfl rfl ?_
            refine v_cVI (k := 8) (n := 1) C (xE_ok _) hEz hR (kX_XF_valueAtF _ D cA ad hJ (x_nx σ (p + (j : Int))) (p + (j : Int)) (by omega) fb fn hfb hfn hn0 hb9) dXC_number_46 (by show (8 : Nat) < 383; decide) rfl rfl gXC_33 (by decide +kernel) (by decide) (by decide) rfl (Nat.le_of_ble_eq_true rfl) rfl ⟨rfl, rfl⟩ (fun rv18 σv18 hpv18 => ?_)
            obtain ⟨e1v18, e2v18⟩ := hpv18
            subst σv18
            subst e1v18
            have hrv18 := q_va_r hb9 fn (p + (j : Int))
            have hiv18 := @q_va_in fb fn (p + (j : Int))
            refine v_iadd C dXC_number_49 ?_
            refine v_bipush C dXC_number_50 (by decide +kernel) ?_
            refine v_isub C dXC_number_52 ?_
            refine v_istore_n C dXC_number_53 rfl (by decide) ?_
            refine v_aload_n C dXC_number_54 rfl rfl ?_
            refine v_dup C dXC_number_55 rfl ?_
            refine v_getI (k := 192) (q := 3) (v := p + (j : Int)) C dXC_number_56 (by show (192 : Nat) < 383; decide) rfl rfl (by decide) rfl inXC lXC_73 rfl rfl ?_
            refine v_iconst C dXC_number_59 ?_
            refine v_iadd C dXC_number_60 ?_
            refine v_putI (k := 192) (q := 3) C dXC_number_61 (by show (192 : Nat) < 383; decide) rfl rfl (by decide) rfl inXC tyXC_ok nmXC lXC_73 rfl rfl rfl rfl rfl ?_
            refine v_goto (tgt := 7) C dXC_number_64 (by decide) ?_
            exact v_st (by rw [x_nx_nx]; push_cast; rw [← Int.add_assoc]) (ih (j + 1) _ (by omega) (by push_cast; rw [← Int.add_assoc]; rw [if_pos (by omega)] at hq; exact hq))
        · refine v_if_eq (tgt := 67) C dXC_number_31 (by decide) (by omega) (fun hc19 => ?_) (fun hc19 => ?_)
          · exact v_st (by rw [if_neg (by omega)] at hq; show _ = x_nx σ (q_nl fb fn 6 p 0).2; rw [← hq]) (L9 v (by rw [if_neg (by omega)] at hq; rw [← hq]))
          · exfalso; omega
  refine v_aload_n C dXC_number_0 rfl rfl ?_
  refine v_getI (k := 192) (q := 3) (v := p) C dXC_number_1 (by show (192 : Nat) < 383; decide) rfl rfl (by decide) rfl inXC lXC_73 rfl hp0 ?_
  refine v_istore_n C dXC_number_4 rfl (by decide) ?_
  refine v_iconst C dXC_number_5 ?_
  refine v_istore_n C dXC_number_6 rfl (by decide) ?_
  exact v_st ((x_nx_self σ hp0).trans (by simp)) (L 6 0 0 (by omega) (by simp))
set_option maxRecDepth 100000 in
set_option maxHeartbeats 4000000 in
/-- tagged -/
theorem kX_XC_tagged (l : Launch) (D : va_G) (cA : Nat → ClassId) (ad : Nat → Nat) (hJ : f_J (xG D cA ad)) (σ : fS) (p c : Int) (hp : -10 ≤ p ∧ p ≤ 150000) (hc : 33 ≤ c ∧ c ≤ 127) (fb : Nat → Int) (fn : Int) (hfb : σ.2 9 = fb) (hfn : σ.1 8 1 = fn) (hn0 : 0 ≤ fn ∧ fn ≤ 12000) (hb9 : ∀ i, -128 ≤ fb i ∧ fb i ≤ 127) : f_M l (xG D cA ad) (xE (xG D cA ad)) yXC_tagged (Cond.code yXC_tagged cXC_tagged 4 (some .int) :: A9) 2 σ [.ref (ad 192), .int (fI p), .int (fI c)] (f_QI (fun r σ1 => ∃ y, σ1 = x_nx σ y ∧ ((q_tg fb fn p c ∧ r = q_nr fb fn (p + 2) ∧ y = q_np fb fn (p + 2) + 1) ∨ (¬ q_tg fb fn p c ∧ r = -1))) (xG D cA ad)) := by
  refine f_enter (by decide +kernel) hJ rfl (Nat.le_of_ble_eq_true rfl) ?_
  intro z hzl hR C hRt hLk hEz
  subst hzl
  have hRR : 2 ≤ z.2.2.2.1.frames ∧ 40 * 2 ≤ z.2.2.2.1.locals ∧ 0 ≤ z.2.2.2.1.cells ∧ 0 ≤ z.2.2.2.1.slots := by rw [hR]; exact ⟨Nat.le_refl _, Nat.le_refl _, Nat.zero_le _, Nat.zero_le _⟩
  refine v_aload_n C dXC_tagged_0 rfl rfl ?_
  refine v_iload_n C dXC_tagged_1 rfl rfl ?_
  refine v_putI (k := 192) (q := 3) C dXC_tagged_2 (by show (192 : Nat) < 383; decide) rfl rfl (by decide) rfl inXC tyXC_ok nmXC lXC_73 rfl rfl rfl rfl rfl ?_
  refine v_st (σ1 := x_nx σ p) rfl ?_
  refine v_aload_n C dXC_tagged_5 rfl rfl ?_
  refine v_iload_n C dXC_tagged_6 rfl rfl ?_
  refine v_cVI (k := 192) (n := 1) C (xE_ok _) hEz hR (kX_XC_accept _ D cA ad hJ (x_nx σ (p)) (c) (by omega) (by show -2147483648 ≤ p ∧ p ≤ 2147483647; omega) fb fn hfb hfn hn0 hb9) dXC_tagged_7 (by show (192 : Nat) < 383; decide) rfl rfl gXC_79 (by decide +kernel) (by decide) (by decide) rfl (Nat.le_of_ble_eq_true rfl) rfl ⟨rfl, rfl⟩ (fun ra1 σa1 hpa1 => ?_)
  obtain ⟨ha1, rfl, rfl⟩ | ⟨ha1, rfl, rfl⟩ := hpa1
  · have ha1q : q_va fb fn (p) = c := ha1
    have ha1i := q_va_in (fb := fb) (fn := fn) (i := p) (by omega)
    refine v_st (x_nx_nx _ _ _) ?_
    refine v_if_eq (tgt := 22) C dXC_tagged_10 (by decide) (by omega) (fun hc2 => ?_) (fun hc2 => ?_)
    · exfalso; omega
    · refine v_aload_n C dXC_tagged_13 rfl rfl ?_
      refine v_bipush C dXC_tagged_14 (by decide +kernel) ?_
      refine v_cVI (k := 192) (n := 1) C (xE_ok _) hEz hR (kX_XC_accept _ D cA ad hJ (x_nx σ (p + 1)) (32) (by omega) (by show -2147483648 ≤ p + 1 ∧ p + 1 ≤ 2147483647; omega) fb fn hfb hfn hn0 hb9) dXC_tagged_16 (by show (192 : Nat) < 383; decide) rfl rfl gXC_79 (by decide +kernel) (by decide) (by decide) rfl (Nat.le_of_ble_eq_true rfl) rfl ⟨rfl, rfl⟩ (fun ra3 σa3 hpa3 => ?_)
      obtain ⟨ha3, rfl, rfl⟩ | ⟨ha3, rfl, rfl⟩ := hpa3
      · have ha3q : q_va fb fn (p + 1) = 32 := ha3
        have ha3i := q_va_in (fb := fb) (fn := fn) (i := p + 1) (by omega)
        refine v_st (x_nx_nx _ _ _) ?_
        refine v_if_ne (tgt := 24) C dXC_tagged_19 (by decide) (by omega) (fun hc4 => ?_) (fun hc4 => ?_)
        · refine v_st (σ1 := x_nx σ (p + 2)) (by show x_nx σ (p + 1 + 1) = x_nx σ (p + 2); rw [Int.add_assoc]; rfl) ?_
          refine v_aload_n C dXC_tagged_24 rfl rfl ?_
          refine v_cVI (k := 192) (n := 0) C (xE_ok _) hEz hR (kX_XC_number _ D cA ad hJ (x_nx σ (p + 2)) (p + 2) (by omega) rfl fb fn hfb hfn hn0 hb9) dXC_tagged_25 (by show (192 : Nat) < 383; decide) rfl rfl gXC_76 (by decide +kernel) (by decide) (by decide) rfl (Nat.le_of_ble_eq_true rfl) rfl ⟨rfl, rfl⟩ (fun rn5 σn5 hpn5 => ?_)
          obtain ⟨e1n5, e2n5⟩ := hpn5
          subst σn5
          subst e1n5
          have hn5 := q_np_r fb fn (p + 2)
          refine v_st (x_nx_nx _ _ _) ?_
          refine v_istore_n C dXC_tagged_28 rfl (by decide) ?_
          refine v_aload_n C dXC_tagged_29 rfl rfl ?_
          refine v_bipush C dXC_tagged_30 (by decide +kernel) ?_
          refine v_cVI (k := 192) (n := 1) C (xE_ok _) hEz hR (kX_XC_accept _ D cA ad hJ (x_nx σ (q_np fb fn (p + 2))) (10) (by omega) (by show -2147483648 ≤ q_np fb fn (p + 2) ∧ q_np fb fn (p + 2) ≤ 2147483647; omega) fb fn hfb hfn hn0 hb9) dXC_tagged_32 (by show (192 : Nat) < 383; decide) rfl rfl gXC_79 (by decide +kernel) (by decide) (by decide) rfl (Nat.le_of_ble_eq_true rfl) rfl ⟨rfl, rfl⟩ (fun ra6 σa6 hpa6 => ?_)
          obtain ⟨ha6, rfl, rfl⟩ | ⟨ha6, rfl, rfl⟩ := hpa6
          · have ha6q : q_va fb fn (q_np fb fn (p + 2)) = 10 := ha6
            have ha6i := q_va_in (fb := fb) (fn := fn) (i := q_np fb fn (p + 2)) (by omega)
            refine v_st (x_nx_nx _ _ _) ?_
            refine v_if_eq (tgt := 42) C dXC_tagged_35 (by decide) (by omega) (fun hc7 => ?_) (fun hc7 => ?_)
            · exfalso; omega
            · refine v_iload_n C dXC_tagged_38 rfl rfl ?_
              refine v_goto (tgt := 43) C dXC_tagged_39 (by decide) ?_
              exact v_iret C hRt hLk dXC_tagged_43 (by by_cases g : q_nr fb fn (p + 2) = -1; (· exact ⟨_, rfl, Or.inr ⟨fun h => by unfold q_tg at h; omega, g⟩⟩); (· exact ⟨_, rfl, Or.inl ⟨⟨by assumption, by assumption, by omega, by assumption⟩, rfl, rfl⟩⟩))
          · have ha6q : ¬ q_va fb fn (q_np fb fn (p + 2)) = 10 := ha6
            refine v_if_eq (tgt := 42) C dXC_tagged_35 (by decide) (by omega) (fun hc8 => ?_) (fun hc8 => ?_)
            · refine v_iconst C dXC_tagged_42 ?_
              exact v_iret C hRt hLk dXC_tagged_43 (by exact ⟨_, rfl, Or.inr ⟨fun h => by unfold q_tg at h; omega, rfl⟩⟩)
            · exfalso; omega
        · exfalso; omega
      · have ha3q : ¬ q_va fb fn (p + 1) = 32 := ha3
        refine v_if_ne (tgt := 24) C dXC_tagged_19 (by decide) (by omega) (fun hc9 => ?_) (fun hc9 => ?_)
        · exfalso; omega
        · refine v_iconst C dXC_tagged_22 ?_
          exact v_iret C hRt hLk dXC_tagged_23 (by exact ⟨_, rfl, Or.inr ⟨fun h => by unfold q_tg at h; omega, rfl⟩⟩)
  · have ha1q : ¬ q_va fb fn (p) = c := ha1
    refine v_if_eq (tgt := 22) C dXC_tagged_10 (by decide) (by omega) (fun hc10 => ?_) (fun hc10 => ?_)
    · refine v_iconst C dXC_tagged_22 ?_
      exact v_iret C hRt hLk dXC_tagged_23 (by exact ⟨_, rfl, Or.inr ⟨fun h => by unfold q_tg at h; omega, rfl⟩⟩)
    · exfalso; omega
set_option maxRecDepth 100000 in
set_option maxHeartbeats 4000000 in
/-- recordLength -/
theorem kX_XC_recordLength (l : Launch) (D : va_G) (cA : Nat → ClassId) (ad : Nat → Nat) (hJ : f_J (xG D cA ad)) (σ : fS) (n p x : Int) (hn : 1 ≤ n ∧ n ≤ 40) (hp : -10 ≤ p ∧ p ≤ 150000) (hx : -2147483648 ≤ x ∧ x ≤ 2147483647) (fb : Nat → Int) (fn : Int) (hfb : σ.2 9 = fb) (hfn : σ.1 8 1 = fn) (hn0 : 0 ≤ fn ∧ fn ≤ 12000) (hb9 : ∀ i, -128 ≤ fb i ∧ fb i ≤ 127) : f_M l (xG D cA ad) (xE (xG D cA ad)) yXC_recordLength (Cond.code yXC_recordLength cXC_recordLength 6 (some .int) :: A9) 2 σ [.ref (ad 192), .int (fI n), .int (fI p), .int (fI x)] (f_QI (fun r σ1 => ∃ y, σ1 = x_nx σ y ∧ ((q_rec fb fn n p x ∧ r = q_len fb fn p) ∨ (¬ q_rec fb fn n p x ∧ r = -1))) (xG D cA ad)) := by
  refine f_enter (by decide +kernel) hJ rfl (Nat.le_of_ble_eq_true rfl) ?_
  intro z hzl hR C hRt hLk hEz
  subst hzl
  have hRR : 2 ≤ z.2.2.2.1.frames ∧ 40 * 2 ≤ z.2.2.2.1.locals ∧ 0 ≤ z.2.2.2.1.cells ∧ 0 ≤ z.2.2.2.1.slots := by rw [hR]; exact ⟨Nat.le_refl _, Nat.le_refl _, Nat.zero_le _, Nat.zero_le _⟩
  refine v_aload_n C dXC_recordLength_0 rfl rfl ?_
  refine v_iload_n C dXC_recordLength_1 rfl rfl ?_
  refine v_putI (k := 192) (q := 3) C dXC_recordLength_2 (by show (192 : Nat) < 383; decide) rfl rfl (by decide) rfl inXC tyXC_ok nmXC lXC_73 rfl rfl rfl rfl rfl ?_
  refine v_st (σ1 := x_nx σ p) rfl ?_
  refine v_aload_n C dXC_recordLength_5 rfl rfl ?_
  refine v_bipush C dXC_recordLength_6 (by decide +kernel) ?_
  refine v_cVI (k := 192) (n := 1) C (xE_ok _) hEz hR (kX_XC_accept _ D cA ad hJ (x_nx σ (p)) (111) (by omega) (by show -2147483648 ≤ p ∧ p ≤ 2147483647; omega) fb fn hfb hfn hn0 hb9) dXC_recordLength_8 (by show (192 : Nat) < 383; decide) rfl rfl gXC_79 (by decide +kernel) (by decide) (by decide) rfl (Nat.le_of_ble_eq_true rfl) rfl ⟨rfl, rfl⟩ (fun ra1 σa1 hpa1 => ?_)
  obtain ⟨ha1, rfl, rfl⟩ | ⟨ha1, rfl, rfl⟩ := hpa1
  · have ha1q : q_va fb fn (p) = 111 := ha1
    have ha1i := q_va_in (fb := fb) (fn := fn) (i := p) (by omega)
    refine v_st (x_nx_nx _ _ _) ?_
    refine v_if_eq (tgt := 40) C dXC_recordLength_11 (by decide) (by omega) (fun hc2 => ?_) (fun hc2 => ?_)
    · exfalso; omega
    · refine v_aload_n C dXC_recordLength_14 rfl rfl ?_
      refine v_bipush C dXC_recordLength_15 (by decide +kernel) ?_
      refine v_cVI (k := 192) (n := 1) C (xE_ok _) hEz hR (kX_XC_accept _ D cA ad hJ (x_nx σ (p + 1)) (32) (by omega) (by show -2147483648 ≤ p + 1 ∧ p + 1 ≤ 2147483647; omega) fb fn hfb hfn hn0 hb9) dXC_recordLength_17 (by show (192 : Nat) < 383; decide) rfl rfl gXC_79 (by decide +kernel) (by decide) (by decide) rfl (Nat.le_of_ble_eq_true rfl) rfl ⟨rfl, rfl⟩ (fun ra3 σa3 hpa3 => ?_)
      obtain ⟨ha3, rfl, rfl⟩ | ⟨ha3, rfl, rfl⟩ := hpa3
      · have ha3q : q_va fb fn (p + 1) = 32 := ha3
        have ha3i := q_va_in (fb := fb) (fn := fn) (i := p + 1) (by omega)
        refine v_st (x_nx_nx _ _ _) ?_
        refine v_if_eq (tgt := 40) C dXC_recordLength_20 (by decide) (by omega) (fun hc4 => ?_) (fun hc4 => ?_)
        · exfalso; omega
        · refine v_st (σ1 := x_nx σ (p + 2)) (by show x_nx σ (p + 1 + 1) = x_nx σ (p + 2); rw [Int.add_assoc]; rfl) ?_
          refine v_aload_n C dXC_recordLength_23 rfl rfl ?_
          refine v_cVI (k := 192) (n := 0) C (xE_ok _) hEz hR (kX_XC_number _ D cA ad hJ (x_nx σ (p + 2)) (p + 2) (by omega) rfl fb fn hfb hfn hn0 hb9) dXC_recordLength_24 (by show (192 : Nat) < 383; decide) rfl rfl gXC_76 (by decide +kernel) (by decide) (by decide) rfl (Nat.le_of_ble_eq_true rfl) rfl ⟨rfl, rfl⟩ (fun rn5 σn5 hpn5 => ?_)
          obtain ⟨e1n5, e2n5⟩ := hpn5
          subst σn5
          subst e1n5
          have hn5 := q_np_r fb fn (p + 2)
          refine v_st (x_nx_nx _ _ _) ?_
          refine v_iload_n C dXC_recordLength_27 rfl rfl ?_
          refine v_icmp_ne (tgt := 40) C dXC_recordLength_28 (by decide) (by omega) (by omega) (fun hc6 => ?_) (fun hc6 => ?_)
          · refine v_iconst C dXC_recordLength_40 ?_
            exact v_iret C hRt hLk dXC_recordLength_41 (by first | exact ⟨_, rfl, Or.inl ⟨⟨by assumption, by assumption, by omega, by assumption, by omega, by assumption, by omega, by omega⟩, rfl⟩⟩ | exact ⟨_, rfl, Or.inr ⟨fun h => by unfold q_rec at h; omega, rfl⟩⟩)
          · refine v_aload_n C dXC_recordLength_31 rfl rfl ?_
            refine v_bipush C dXC_recordLength_32 (by decide +kernel) ?_
            refine v_cVI (k := 192) (n := 1) C (xE_ok _) hEz hR (kX_XC_accept _ D cA ad hJ (x_nx σ (q_np fb fn (p + 2))) (32) (by omega) (by show -2147483648 ≤ q_np fb fn (p + 2) ∧ q_np fb fn (p + 2) ≤ 2147483647; omega) fb fn hfb hfn hn0 hb9) dXC_recordLength_34 (by show (192 : Nat) < 383; decide) rfl rfl gXC_79 (by decide +kernel) (by decide) (by decide) rfl (Nat.le_of_ble_eq_true rfl) rfl ⟨rfl, rfl⟩ (fun ra7 σa7 hpa7 => ?_)
            obtain ⟨ha7, rfl, rfl⟩ | ⟨ha7, rfl, rfl⟩ := hpa7
            · have ha7q : q_va fb fn (q_np fb fn (p + 2)) = 32 := ha7
              have ha7i := q_va_in (fb := fb) (fn := fn) (i := q_np fb fn (p + 2)) (by omega)
              refine v_st (x_nx_nx _ _ _) ?_
              refine v_if_ne (tgt := 42) C dXC_recordLength_37 (by decide) (by omega) (fun hc8 => ?_) (fun hc8 => ?_)
              · refine v_st (σ1 := x_nx σ (q_la fb fn p)) rfl ?_
                have hla : q_la fb fn p = q_np fb fn (p + 2) + 1 := rfl
                have hlr := q_np_r fb fn (q_la fb fn p)
                have hle : q_len fb fn p = q_nr fb fn (q_la fb fn p) := rfl
                refine v_aload_n C dXC_recordLength_42 rfl rfl ?_
                refine v_cVI (k := 192) (n := 0) C (xE_ok _) hEz hR (kX_XC_number _ D cA ad hJ (x_nx σ (q_la fb fn p)) (q_la fb fn p) (by omega) rfl fb fn hfb hfn hn0 hb9) dXC_recordLength_43 (by show (192 : Nat) < 383; decide) rfl rfl gXC_76 (by decide +kernel) (by decide) (by decide) rfl (Nat.le_of_ble_eq_true rfl) rfl ⟨rfl, rfl⟩ (fun rn9 σn9 hpn9 => ?_)
                obtain ⟨e1n9, e2n9⟩ := hpn9
                subst σn9
                subst e1n9
                have hn9 := q_np_r fb fn (q_la fb fn p)
                refine v_st (x_nx_nx _ _ _) ?_
                refine v_top (b := (q_len fb fn p)) rfl ?_
                refine v_istore C dXC_recordLength_46 (by decide) ?_
                refine v_iload C dXC_recordLength_48 rfl ?_
                refine v_iconst C dXC_recordLength_50 ?_
                refine v_icmp_eq (tgt := 70) C dXC_recordLength_51 (by decide) (by omega) (by omega) (fun hc10 => ?_) (fun hc10 => ?_)
                · refine v_iconst C dXC_recordLength_70 ?_
                  exact v_iret C hRt hLk dXC_recordLength_71 (by first | exact ⟨_, rfl, Or.inl ⟨⟨by assumption, by assumption, by omega, by assumption, by omega, by assumption, by omega, by omega⟩, rfl⟩⟩ | exact ⟨_, rfl, Or.inr ⟨fun h => by unfold q_rec at h; omega, rfl⟩⟩)
                · refine v_iload C dXC_recordLength_54 rfl ?_
                  refine v_bipush C dXC_recordLength_56 (by decide +kernel) ?_
                  refine v_icmp_gt (tgt := 70) C dXC_recordLength_58 (by decide) (by omega) (by omega) (fun hc11 => ?_) (fun hc11 => ?_)
                  · refine v_iconst C dXC_recordLength_70 ?_
                    exact v_iret C hRt hLk dXC_recordLength_71 (by first | exact ⟨_, rfl, Or.inl ⟨⟨by assumption, by assumption, by omega, by assumption, by omega, by assumption, by omega, by omega⟩, rfl⟩⟩ | exact ⟨_, rfl, Or.inr ⟨fun h => by unfold q_rec at h; omega, rfl⟩⟩)
                  · refine v_aload_n C dXC_recordLength_61 rfl rfl ?_
                    refine v_bipush C dXC_recordLength_62 (by decide +kernel) ?_
                    refine v_cVI (k := 192) (n := 1) C (xE_ok _) hEz hR (kX_XC_accept _ D cA ad hJ (x_nx σ (q_np fb fn (q_la fb fn p))) (10) (by omega) (by show -2147483648 ≤ q_np fb fn (q_la fb fn p) ∧ q_np fb fn (q_la fb fn p) ≤ 2147483647; omega) fb fn hfb hfn hn0 hb9) dXC_recordLength_64 (by show (192 : Nat) < 383; decide) rfl rfl gXC_79 (by decide +kernel) (by decide) (by decide) rfl (Nat.le_of_ble_eq_true rfl) rfl ⟨rfl, rfl⟩ (fun ra12 σa12 hpa12 => ?_)
                    obtain ⟨ha12, rfl, rfl⟩ | ⟨ha12, rfl, rfl⟩ := hpa12
                    · have ha12q : q_va fb fn (q_np fb fn (q_la fb fn p)) = 10 := ha12
                      have ha12i := q_va_in (fb := fb) (fn := fn) (i := q_np fb fn (q_la fb fn p)) (by omega)
                      refine v_st (x_nx_nx _ _ _) ?_
                      refine v_if_ne (tgt := 72) C dXC_recordLength_67 (by decide) (by omega) (fun hc13 => ?_) (fun hc13 => ?_)
                      · refine v_st (σ1 := x_nx σ (q_by fb fn p)) rfl ?_
                        have hby : q_by fb fn p = q_np fb fn (q_la fb fn p) + 1 := rfl
                        refine v_aload_n C dXC_recordLength_72 rfl rfl ?_
                        refine v_getI (k := 192) (q := 3) (v := q_by fb fn p) C dXC_recordLength_73 (by show (192 : Nat) < 383; decide) rfl rfl (by decide) rfl inXC lXC_73 rfl rfl ?_
                        refine v_iload C dXC_recordLength_76 rfl ?_
                        refine v_iadd C dXC_recordLength_78 ?_
                        refine v_istore C dXC_recordLength_79 (by decide) ?_
                        refine v_iload C dXC_recordLength_81 rfl ?_
                        refine v_iload_n C dXC_recordLength_83 rfl rfl ?_
                        refine v_icmp_ge (tgt := 106) C dXC_recordLength_84 (by decide) (by omega) (by omega) (fun hc14 => ?_) (fun hc14 => ?_)
                        · refine v_iconst C dXC_recordLength_106 ?_
                          exact v_iret C hRt hLk dXC_recordLength_107 (by first | exact ⟨_, rfl, Or.inl ⟨⟨by assumption, by assumption, by omega, by assumption, by omega, by assumption, by omega, by omega⟩, rfl⟩⟩ | exact ⟨_, rfl, Or.inr ⟨fun h => by unfold q_rec at h; omega, rfl⟩⟩)
                        · refine v_aload_n C dXC_recordLength_87 rfl rfl ?_
                          refine v_getR (k := 192) (q := 0) C dXC_recordLength_88 (by show (192 : Nat) < 383; decide) rfl rfl (by decide) rfl inXC lXC_17 rfl ?_
                          refine v_iload C dXC_recordLength_91 rfl ?_
                          refine v_cVI (k := 8) (n := 1) C (xE_ok _) hEz hR (kX_XF_valueAtF _ D cA ad hJ (x_nx σ (q_by fb fn p)) ((q_by fb fn p + (q_len fb fn p))) (by omega) fb fn hfb hfn hn0 hb9) dXC_recordLength_93 (by show (8 : Nat) < 383; decide) rfl rfl gXC_33 (by decide +kernel) (by decide) (by decide) rfl (Nat.le_of_ble_eq_true rfl) rfl ⟨rfl, rfl⟩ (fun rv15 σv15 hpv15 => ?_)
                          obtain ⟨e1v15, e2v15⟩ := hpv15
                          subst σv15
                          subst e1v15
                          have hrv15 := q_va_r hb9 fn ((q_by fb fn p + (q_len fb fn p)))
                          have hiv15 := @q_va_in fb fn ((q_by fb fn p + (q_len fb fn p)))
                          refine v_bipush C dXC_recordLength_96 (by decide +kernel) ?_
                          refine v_icmp_ne (tgt := 106) C dXC_recordLength_98 (by decide) (by omega) (by omega) (fun hc16 => ?_) (fun hc16 => ?_)
                          · refine v_iconst C dXC_recordLength_106 ?_
                            exact v_iret C hRt hLk dXC_recordLength_107 (by first | exact ⟨_, rfl, Or.inl ⟨⟨by assumption, by assumption, by omega, by assumption, by omega, by assumption, by omega, by omega⟩, rfl⟩⟩ | exact ⟨_, rfl, Or.inr ⟨fun h => by unfold q_rec at h; omega, rfl⟩⟩)
                          · refine v_iload C dXC_recordLength_101 rfl ?_
                            refine v_goto (tgt := 107) C dXC_recordLength_103 (by decide) ?_
                            exact v_iret C hRt hLk dXC_recordLength_107 (by first | exact ⟨_, rfl, Or.inl ⟨⟨by assumption, by assumption, by omega, by assumption, by omega, by assumption, by omega, by omega⟩, rfl⟩⟩ | exact ⟨_, rfl, Or.inr ⟨fun h => by unfold q_rec at h; omega, rfl⟩⟩)
                      · exfalso; omega
                    · have ha12q : ¬ q_va fb fn (q_np fb fn (q_la fb fn p)) = 10 := ha12
                      refine v_if_ne (tgt := 72) C dXC_recordLength_67 (by decide) (by omega) (fun hc17 => ?_) (fun hc17 => ?_)
                      · exfalso; omega
                      · refine v_iconst C dXC_recordLength_70 ?_
                        exact v_iret C hRt hLk dXC_recordLength_71 (by first | exact ⟨_, rfl, Or.inl ⟨⟨by assumption, by assumption, by omega, by assumption, by omega, by assumption, by omega, by omega⟩, rfl⟩⟩ | exact ⟨_, rfl, Or.inr ⟨fun h => by unfold q_rec at h; omega, rfl⟩⟩)
              · exfalso; omega
            · have ha7q : ¬ q_va fb fn (q_np fb fn (p + 2)) = 32 := ha7
              refine v_if_ne (tgt := 42) C dXC_recordLength_37 (by decide) (by omega) (fun hc18 => ?_) (fun hc18 => ?_)
              · exfalso; omega
              · refine v_iconst C dXC_recordLength_40 ?_
                exact v_iret C hRt hLk dXC_recordLength_41 (by first | exact ⟨_, rfl, Or.inl ⟨⟨by assumption, by assumption, by omega, by assumption, by omega, by assumption, by omega, by omega⟩, rfl⟩⟩ | exact ⟨_, rfl, Or.inr ⟨fun h => by unfold q_rec at h; omega, rfl⟩⟩)
      · have ha3q : ¬ q_va fb fn (p + 1) = 32 := ha3
        refine v_if_eq (tgt := 40) C dXC_recordLength_20 (by decide) (by omega) (fun hc19 => ?_) (fun hc19 => ?_)
        · refine v_iconst C dXC_recordLength_40 ?_
          exact v_iret C hRt hLk dXC_recordLength_41 (by first | exact ⟨_, rfl, Or.inl ⟨⟨by assumption, by assumption, by omega, by assumption, by omega, by assumption, by omega, by omega⟩, rfl⟩⟩ | exact ⟨_, rfl, Or.inr ⟨fun h => by unfold q_rec at h; omega, rfl⟩⟩)
        · exfalso; omega
  · have ha1q : ¬ q_va fb fn (p) = 111 := ha1
    refine v_if_eq (tgt := 40) C dXC_recordLength_11 (by decide) (by omega) (fun hc20 => ?_) (fun hc20 => ?_)
    · refine v_iconst C dXC_recordLength_40 ?_
      exact v_iret C hRt hLk dXC_recordLength_41 (by first | exact ⟨_, rfl, Or.inl ⟨⟨by assumption, by assumption, by omega, by assumption, by omega, by assumption, by omega, by omega⟩, rfl⟩⟩ | exact ⟨_, rfl, Or.inr ⟨fun h => by unfold q_rec at h; omega, rfl⟩⟩)
    · exfalso; omega
set_option maxRecDepth 100000 in
set_option maxHeartbeats 4000000 in
/-- hasFirstLine -/
theorem kX_XC_hasFirstLine (l : Launch) (D : va_G) (cA : Nat → ClassId) (ad : Nat → Nat) (hJ : f_J (xG D cA ad)) (σ : fS) (fb : Nat → Int) (fn : Int) (hfb : σ.2 9 = fb) (hfn : σ.1 8 1 = fn) (hn0 : 0 ≤ fn ∧ fn ≤ 12000) (hb9 : ∀ i, -128 ≤ fb i ∧ fb i ≤ 127) : f_M l (xG D cA ad) (xE (xG D cA ad)) yXC_hasFirstLine (Cond.code yXC_hasFirstLine cXC_hasFirstLine 2 (some .boolean) :: A9) 1 σ [.ref (ad 192)] (f_QI (fun r σ1 => (q_fl fb fn ∧ r = 1 ∧ σ1 = σ) ∨ (¬ q_fl fb fn ∧ r = 0 ∧ σ1 = σ)) (xG D cA ad)) := by
  refine f_enter (by decide +kernel) hJ rfl (Nat.le_of_ble_eq_true rfl) ?_
  intro z hzl hR C hRt hLk hEz
  subst hzl
  have hRR : 1 ≤ z.2.2.2.1.frames ∧ 40 * 1 ≤ z.2.2.2.1.locals ∧ 0 ≤ z.2.2.2.1.cells ∧ 0 ≤ z.2.2.2.1.slots := by rw [hR]; exact ⟨Nat.le_refl _, Nat.le_refl _, Nat.zero_le _, Nat.zero_le _⟩
  have L4 : q_va fb fn 0 = 37 → q_va fb fn 1 = 70 → q_va fb fn 2 = 49 → q_va fb fn 3 = 10 → fv z (xG D cA ad) 2 (f_R z (xG D cA ad) (f_QI (fun r σ1 => (q_fl fb fn ∧ r = 1 ∧ σ1 = σ) ∨ (¬ q_fl fb fn ∧ r = 0 ∧ σ1 = σ)) (xG D cA ad))) 0 0 σ 2 [some (.ref (ad 192)), some (.int (fI 4))] [] := by
    intro g0 g1 g2 g3
    refine v_iload_n C dXC_hasFirstLine_2 rfl rfl ?_
    refine v_fl C hEz (by decide +kernel) dXC_hasFirstLine_3 (fun t1 hTt1 => ?_)
    refine v_fln C hTt1 dXC_hasFirstLine_6 ?_
    refine v_icmp_ge (tgt := 34) C dXC_hasFirstLine_7 (by decide) (by omega) (by omega) (fun hc2 => ?_) (fun hc2 => ?_)
    · refine v_iconst C dXC_hasFirstLine_34 ?_
      exact v_zret C hRt hLk dXC_hasFirstLine_35 (fN_bool (by omega)) (by first | exact Or.inl ⟨⟨g0, g1, g2, g3⟩, rfl, rfl⟩ | exact Or.inr ⟨fun h => by unfold q_fl at h; omega, rfl, rfl⟩)
    · exfalso; omega
  have L3 : q_va fb fn 0 = 37 → q_va fb fn 1 = 70 → q_va fb fn 2 = 49 → fv z (xG D cA ad) 2 (f_R z (xG D cA ad) (f_QI (fun r σ1 => (q_fl fb fn ∧ r = 1 ∧ σ1 = σ) ∨ (¬ q_fl fb fn ∧ r = 0 ∧ σ1 = σ)) (xG D cA ad))) 0 0 σ 2 [some (.ref (ad 192)), some (.int (fI 3))] [] := by
    intro g0 g1 g2
    refine v_iload_n C dXC_hasFirstLine_2 rfl rfl ?_
    refine v_fl C hEz (by decide +kernel) dXC_hasFirstLine_3 (fun t3 hTt3 => ?_)
    refine v_fln C hTt3 dXC_hasFirstLine_6 ?_
    refine v_icmp_ge (tgt := 34) C dXC_hasFirstLine_7 (by decide) (by omega) (by omega) (fun hc4 => ?_) (fun hc4 => ?_)
    · exfalso; omega
    · refine v_aload_n C dXC_hasFirstLine_10 rfl rfl ?_
      refine v_getR (k := 192) (q := 0) C dXC_hasFirstLine_11 (by show (192 : Nat) < 383; decide) rfl rfl (by decide) rfl inXC lXC_17 rfl ?_
      refine v_iload_n C dXC_hasFirstLine_14 rfl rfl ?_
      refine v_cVI (k := 8) (n := 1) C (xE_ok _) hEz hR (kX_XF_valueAtF _ D cA ad hJ σ (3) (by omega) fb fn hfb hfn hn0 hb9) dXC_hasFirstLine_15 (by show (8 : Nat) < 383; decide) rfl rfl gXC_33 (by decide +kernel) (by decide) (by decide) rfl (Nat.le_of_ble_eq_true rfl) rfl ⟨rfl, rfl⟩ (fun rv5 σv5 hpv5 => ?_)
      obtain ⟨e1v5, e2v5⟩ := hpv5
      subst σv5
      subst e1v5
      have hrv5 := q_va_r hb9 fn (3)
      have hiv5 := @q_va_in fb fn (3)
      refine v_fl C hEz (by decide +kernel) dXC_hasFirstLine_18 (fun t6 hTt6 => ?_)
      refine v_iload_n C dXC_hasFirstLine_21 rfl rfl ?_
      refine v_flb (i := 3) C hTt6 (by decide) dXC_hasFirstLine_22 ?_
      refine v_top (b := 10) (by decide +kernel) ?_
      refine v_icmp_eq (tgt := 28) C dXC_hasFirstLine_23 (by decide) (by omega) (by omega) (fun hc7 => ?_) (fun hc7 => ?_)
      · refine v_iinc C dXC_hasFirstLine_28 rfl (by decide) ?_
        refine v_goto (tgt := 2) C dXC_hasFirstLine_31 (by decide) ?_
        exact v_lv rfl (L4 g0 g1 g2 (by omega))
      · refine v_iconst C dXC_hasFirstLine_26 ?_
        exact v_zret C hRt hLk dXC_hasFirstLine_27 (fN_bool (by omega)) (by first | exact Or.inl ⟨⟨g0, g1, g2, g3⟩, rfl, rfl⟩ | exact Or.inr ⟨fun h => by unfold q_fl at h; omega, rfl, rfl⟩)
  have L2 : q_va fb fn 0 = 37 → q_va fb fn 1 = 70 → fv z (xG D cA ad) 2 (f_R z (xG D cA ad) (f_QI (fun r σ1 => (q_fl fb fn ∧ r = 1 ∧ σ1 = σ) ∨ (¬ q_fl fb fn ∧ r = 0 ∧ σ1 = σ)) (xG D cA ad))) 0 0 σ 2 [some (.ref (ad 192)), some (.int (fI 2))] [] := by
    intro g0 g1
    refine v_iload_n C dXC_hasFirstLine_2 rfl rfl ?_
    refine v_fl C hEz (by decide +kernel) dXC_hasFirstLine_3 (fun t8 hTt8 => ?_)
    refine v_fln C hTt8 dXC_hasFirstLine_6 ?_
    refine v_icmp_ge (tgt := 34) C dXC_hasFirstLine_7 (by decide) (by omega) (by omega) (fun hc9 => ?_) (fun hc9 => ?_)
    · exfalso; omega
    · refine v_aload_n C dXC_hasFirstLine_10 rfl rfl ?_
      refine v_getR (k := 192) (q := 0) C dXC_hasFirstLine_11 (by show (192 : Nat) < 383; decide) rfl rfl (by decide) rfl inXC lXC_17 rfl ?_
      refine v_iload_n C dXC_hasFirstLine_14 rfl rfl ?_
      refine v_cVI (k := 8) (n := 1) C (xE_ok _) hEz hR (kX_XF_valueAtF _ D cA ad hJ σ (2) (by omega) fb fn hfb hfn hn0 hb9) dXC_hasFirstLine_15 (by show (8 : Nat) < 383; decide) rfl rfl gXC_33 (by decide +kernel) (by decide) (by decide) rfl (Nat.le_of_ble_eq_true rfl) rfl ⟨rfl, rfl⟩ (fun rv10 σv10 hpv10 => ?_)
      obtain ⟨e1v10, e2v10⟩ := hpv10
      subst σv10
      subst e1v10
      have hrv10 := q_va_r hb9 fn (2)
      have hiv10 := @q_va_in fb fn (2)
      refine v_fl C hEz (by decide +kernel) dXC_hasFirstLine_18 (fun t11 hTt11 => ?_)
      refine v_iload_n C dXC_hasFirstLine_21 rfl rfl ?_
      refine v_flb (i := 2) C hTt11 (by decide) dXC_hasFirstLine_22 ?_
      refine v_top (b := 49) (by decide +kernel) ?_
      refine v_icmp_eq (tgt := 28) C dXC_hasFirstLine_23 (by decide) (by omega) (by omega) (fun hc12 => ?_) (fun hc12 => ?_)
      · refine v_iinc C dXC_hasFirstLine_28 rfl (by decide) ?_
        refine v_goto (tgt := 2) C dXC_hasFirstLine_31 (by decide) ?_
        exact v_lv rfl (L3 g0 g1 (by omega))
      · refine v_iconst C dXC_hasFirstLine_26 ?_
        exact v_zret C hRt hLk dXC_hasFirstLine_27 (fN_bool (by omega)) (by first | exact Or.inl ⟨⟨g0, g1, g2, g3⟩, rfl, rfl⟩ | exact Or.inr ⟨fun h => by unfold q_fl at h; omega, rfl, rfl⟩)
  have L1 : q_va fb fn 0 = 37 → fv z (xG D cA ad) 2 (f_R z (xG D cA ad) (f_QI (fun r σ1 => (q_fl fb fn ∧ r = 1 ∧ σ1 = σ) ∨ (¬ q_fl fb fn ∧ r = 0 ∧ σ1 = σ)) (xG D cA ad))) 0 0 σ 2 [some (.ref (ad 192)), some (.int (fI 1))] [] := by
    intro g0
    refine v_iload_n C dXC_hasFirstLine_2 rfl rfl ?_
    refine v_fl C hEz (by decide +kernel) dXC_hasFirstLine_3 (fun t13 hTt13 => ?_)
    refine v_fln C hTt13 dXC_hasFirstLine_6 ?_
    refine v_icmp_ge (tgt := 34) C dXC_hasFirstLine_7 (by decide) (by omega) (by omega) (fun hc14 => ?_) (fun hc14 => ?_)
    · exfalso; omega
    · refine v_aload_n C dXC_hasFirstLine_10 rfl rfl ?_
      refine v_getR (k := 192) (q := 0) C dXC_hasFirstLine_11 (by show (192 : Nat) < 383; decide) rfl rfl (by decide) rfl inXC lXC_17 rfl ?_
      refine v_iload_n C dXC_hasFirstLine_14 rfl rfl ?_
      refine v_cVI (k := 8) (n := 1) C (xE_ok _) hEz hR (kX_XF_valueAtF _ D cA ad hJ σ (1) (by omega) fb fn hfb hfn hn0 hb9) dXC_hasFirstLine_15 (by show (8 : Nat) < 383; decide) rfl rfl gXC_33 (by decide +kernel) (by decide) (by decide) rfl (Nat.le_of_ble_eq_true rfl) rfl ⟨rfl, rfl⟩ (fun rv15 σv15 hpv15 => ?_)
      obtain ⟨e1v15, e2v15⟩ := hpv15
      subst σv15
      subst e1v15
      have hrv15 := q_va_r hb9 fn (1)
      have hiv15 := @q_va_in fb fn (1)
      refine v_fl C hEz (by decide +kernel) dXC_hasFirstLine_18 (fun t16 hTt16 => ?_)
      refine v_iload_n C dXC_hasFirstLine_21 rfl rfl ?_
      refine v_flb (i := 1) C hTt16 (by decide) dXC_hasFirstLine_22 ?_
      refine v_top (b := 70) (by decide +kernel) ?_
      refine v_icmp_eq (tgt := 28) C dXC_hasFirstLine_23 (by decide) (by omega) (by omega) (fun hc17 => ?_) (fun hc17 => ?_)
      · refine v_iinc C dXC_hasFirstLine_28 rfl (by decide) ?_
        refine v_goto (tgt := 2) C dXC_hasFirstLine_31 (by decide) ?_
        exact v_lv rfl (L2 g0 (by omega))
      · refine v_iconst C dXC_hasFirstLine_26 ?_
        exact v_zret C hRt hLk dXC_hasFirstLine_27 (fN_bool (by omega)) (by first | exact Or.inl ⟨⟨g0, g1, g2, g3⟩, rfl, rfl⟩ | exact Or.inr ⟨fun h => by unfold q_fl at h; omega, rfl, rfl⟩)
  have L0 : fv z (xG D cA ad) 2 (f_R z (xG D cA ad) (f_QI (fun r σ1 => (q_fl fb fn ∧ r = 1 ∧ σ1 = σ) ∨ (¬ q_fl fb fn ∧ r = 0 ∧ σ1 = σ)) (xG D cA ad))) 0 0 σ 2 [some (.ref (ad 192)), some (.int (fI 0))] [] := by
    refine v_iload_n C dXC_hasFirstLine_2 rfl rfl ?_
    refine v_fl C hEz (by decide +kernel) dXC_hasFirstLine_3 (fun t18 hTt18 => ?_)
    refine v_fln C hTt18 dXC_hasFirstLine_6 ?_
    refine v_icmp_ge (tgt := 34) C dXC_hasFirstLine_7 (by decide) (by omega) (by omega) (fun hc19 => ?_) (fun hc19 => ?_)
    · exfalso; omega
    · refine v_aload_n C dXC_hasFirstLine_10 rfl rfl ?_
      refine v_getR (k := 192) (q := 0) C dXC_hasFirstLine_11 (by show (192 : Nat) < 383; decide) rfl rfl (by decide) rfl inXC lXC_17 rfl ?_
      refine v_iload_n C dXC_hasFirstLine_14 rfl rfl ?_
      refine v_cVI (k := 8) (n := 1) C (xE_ok _) hEz hR (kX_XF_valueAtF _ D cA ad hJ σ (0) (by omega) fb fn hfb hfn hn0 hb9) dXC_hasFirstLine_15 (by show (8 : Nat) < 383; decide) rfl rfl gXC_33 (by decide +kernel) (by decide) (by decide) rfl (Nat.le_of_ble_eq_true rfl) rfl ⟨rfl, rfl⟩ (fun rv20 σv20 hpv20 => ?_)
      obtain ⟨e1v20, e2v20⟩ := hpv20
      subst σv20
      subst e1v20
      have hrv20 := q_va_r hb9 fn (0)
      have hiv20 := @q_va_in fb fn (0)
      refine v_fl C hEz (by decide +kernel) dXC_hasFirstLine_18 (fun t21 hTt21 => ?_)
      refine v_iload_n C dXC_hasFirstLine_21 rfl rfl ?_
      refine v_flb (i := 0) C hTt21 (by decide) dXC_hasFirstLine_22 ?_
      refine v_top (b := 37) (by decide +kernel) ?_
      refine v_icmp_eq (tgt := 28) C dXC_hasFirstLine_23 (by decide) (by omega) (by omega) (fun hc22 => ?_) (fun hc22 => ?_)
      · refine v_iinc C dXC_hasFirstLine_28 rfl (by decide) ?_
        refine v_goto (tgt := 2) C dXC_hasFirstLine_31 (by decide) ?_
        exact v_lv rfl (L1  (by omega))
      · refine v_iconst C dXC_hasFirstLine_26 ?_
        exact v_zret C hRt hLk dXC_hasFirstLine_27 (fN_bool (by omega)) (by first | exact Or.inl ⟨⟨g0, g1, g2, g3⟩, rfl, rfl⟩ | exact Or.inr ⟨fun h => by unfold q_fl at h; omega, rfl, rfl⟩)
  refine v_iconst C dXC_hasFirstLine_0 ?_
  refine v_istore_n C dXC_hasFirstLine_1 rfl (by decide) ?_
  exact L0
set_option maxRecDepth 100000 in
set_option maxHeartbeats 4000000 in
/-- lastLine -/
theorem kX_XC_lastLine (l : Launch) (D : va_G) (cA : Nat → ClassId) (ad : Nat → Nat) (hJ : f_J (xG D cA ad)) (σ : fS) (fb : Nat → Int) (fn : Int) (hfb : σ.2 9 = fb) (hfn : σ.1 8 1 = fn) (hn0 : 0 ≤ fn ∧ fn ≤ 12000) (hb9 : ∀ i, -128 ≤ fb i ∧ fb i ≤ 127) (hn1 : 1 ≤ fn) : f_M l (xG D cA ad) (xE (xG D cA ad)) yXC_lastLine (Cond.code yXC_lastLine cXC_lastLine 2 (some .int) :: A9) 1 σ [.ref (ad 192)] (f_QI (fun r σ1 => r = q_ll fb fn (fn - 1).toNat (fn - 1) ∧ σ1 = σ) (xG D cA ad)) := by
  refine f_enter (by decide +kernel) hJ rfl (Nat.le_of_ble_eq_true rfl) ?_
  intro z hzl hR C hRt hLk hEz
  subst hzl
  have hRR : 1 ≤ z.2.2.2.1.frames ∧ 40 * 1 ≤ z.2.2.2.1.locals ∧ 0 ≤ z.2.2.2.1.cells ∧ 0 ≤ z.2.2.2.1.slots := by rw [hR]; exact ⟨Nat.le_refl _, Nat.le_refl _, Nat.zero_le _, Nat.zero_le _⟩
  have L : ∀ (m : Nat) (p : Int), (m : Int) = p → p ≤ fn → q_ll fb fn m p = q_ll fb fn (fn - 1).toNat (fn - 1) → fv z (xG D cA ad) 2 (f_R z (xG D cA ad) (f_QI (fun r σ1 => r = q_ll fb fn (fn - 1).toNat (fn - 1) ∧ σ1 = σ) (xG D cA ad))) 0 0 σ 10 [some (.ref (ad 192)), some (.int (fI p))] [] := by
    intro m
    induction m with
    | zero =>
      intro p hm hpf hq
      have hq0 : q_ll fb fn 0 p = p := rfl
      refine v_iload_n C dXC_lastLine_10 rfl rfl ?_
      refine v_if_le (tgt := 35) C dXC_lastLine_11 (by decide) (by omega) (fun hc1 => ?_) (fun hc1 => ?_)
      · refine v_iload_n C dXC_lastLine_35 rfl rfl ?_
        exact v_iret C hRt hLk dXC_lastLine_36 ⟨by first | (rw [if_pos (by omega)] at hq; exact hq) | exact hq0.symm.trans hq, rfl⟩
      · exfalso; omega
    | succ m ih =>
      intro p hm hpf hq
      have hq2 : q_ll fb fn (m + 1) p = if q_va fb fn (p - 1) = 10 then p else q_ll fb fn m (p - 1) := rfl
      rw [hq2] at hq
      refine v_iload_n C dXC_lastLine_10 rfl rfl ?_
      refine v_if_le (tgt := 35) C dXC_lastLine_11 (by decide) (by omega) (fun hc2 => ?_) (fun hc2 => ?_)
      · exfalso; omega
      · refine v_aload_n C dXC_lastLine_14 rfl rfl ?_
        refine v_getR (k := 192) (q := 0) C dXC_lastLine_15 (by show (192 : Nat) < 383; decide) rfl rfl (by decide) rfl inXC lXC_17 rfl ?_
        refine v_iload_n C dXC_lastLine_18 rfl rfl ?_
        refine v_iconst C dXC_lastLine_19 ?_
        refine v_isub C dXC_lastLine_20 ?_
        refine v_cVI (k := 8) (n := 1) C (xE_ok _) hEz hR (kX_XF_valueAtF _ D cA ad hJ σ ((p - 1)) (by omega) fb fn hfb hfn hn0 hb9) dXC_lastLine_21 (by show (8 : Nat) < 383; decide) rfl rfl gXC_33 (by decide +kernel) (by decide) (by decide) rfl (Nat.le_of_ble_eq_true rfl) rfl ⟨rfl, rfl⟩ (fun rv3 σv3 hpv3 => ?_)
        obtain ⟨e1v3, e2v3⟩ := hpv3
        subst σv3
        subst e1v3
        have hrv3 := q_va_r hb9 fn ((p - 1))
        have hiv3 := @q_va_in fb fn ((p - 1))
        refine v_bipush C dXC_lastLine_24 (by decide +kernel) ?_
        refine v_icmp_eq (tgt := 35) C dXC_lastLine_26 (by decide) (by omega) (by omega) (fun hc4 => ?_) (fun hc4 => ?_)
        · refine v_iload_n C dXC_lastLine_35 rfl rfl ?_
          exact v_iret C hRt hLk dXC_lastLine_36 ⟨by first | (rw [if_pos (by omega)] at hq; exact hq) | exact hq0.symm.trans hq, rfl⟩
        · refine v_iinc C dXC_lastLine_29 rfl (by decide) ?_
          refine v_goto (tgt := 10) C dXC_lastLine_32 (by decide) ?_
          exact v_lv rfl (ih (p + -1) (by omega) (by omega) (by rw [if_neg (by omega)] at hq; exact hq))
  refine v_aload_n C dXC_lastLine_0 rfl rfl ?_
  refine v_getR (k := 192) (q := 0) C dXC_lastLine_1 (by show (192 : Nat) < 383; decide) rfl rfl (by decide) rfl inXC lXC_17 rfl ?_
  refine v_getI (k := 8) (q := 1) (v := fn) C dXC_lastLine_4 (by show (8 : Nat) < 383; decide) rfl rfl (by decide) rfl inXF lXC_30 rfl hfn ?_
  refine v_iconst C dXC_lastLine_7 ?_
  refine v_isub C dXC_lastLine_8 ?_
  refine v_istore_n C dXC_lastLine_9 rfl (by decide) ?_
  exact L (fn - 1).toNat (fn - 1) (by omega) (by omega) rfl
end
section
/-! rows, one behind the other -/
/-- what a row at p tells, and where it ends -/
def q_pl (fb : Nat → Int) (fn p : Int) : Int := if q_va fb fn (q_np fb fn p + 1) = 45 then -1 else q_nr fb fn (q_np fb fn p + 1)
def q_re (fb : Nat → Int) (fn p : Int) : Int := if q_va fb fn (q_np fb fn p + 1) = 45 then q_np fb fn p + 2 else q_np fb fn (q_np fb fn p + 1)
def q_rw (fb : Nat → Int) (fn x ab p : Int) : Prop := (ab < q_nr fb fn p ∧ q_nr fb fn p ≤ 40) ∧ q_va fb fn (q_np fb fn p) = 32 ∧ (q_va fb fn (q_np fb fn p + 1) = 45 ∨ (q_nr fb fn (q_np fb fn p + 1) ≠ -1 ∧ q_nr fb fn (q_np fb fn p + 1) < x)) ∧ q_va fb fn (q_re fb fn p) = 10
def q_rat (fb : Nat → Int) (fn p : Int) : Nat → Int
  | 0 => p
  | i + 1 => q_re fb fn (q_rat fb fn p i) + 1
def q_ab (fb : Nat → Int) (fn p : Int) : Nat → Int
  | 0 => 0
  | i + 1 => q_nr fb fn (q_rat fb fn p i)
def q_rwi (fb : Nat → Int) (fn x p : Int) (i : Nat) : Prop := q_rw fb fn x (q_ab fb fn p i) (q_rat fb fn p i)
theorem q_rw_r {fb : Nat → Int} {fn x ab p : Int} (h : q_rw fb fn x ab p) (h0 : 0 ≤ p) : (-1 ≤ q_pl fb fn p ∧ q_pl fb fn p ≤ 99999) ∧ (q_pl fb fn p = -1 ∨ q_pl fb fn p < x) ∧ p < q_re fb fn p + 1 ∧ q_re fb fn p + 1 ≤ fn := by
  obtain ⟨-, h2, h3, h4⟩ := h
  have a := q_np_r fb fn p
  have b := q_np_r fb fn (q_np fb fn p + 1)
  have c := q_va_in (fb := fb) (fn := fn) (i := q_re fb fn p) (by omega)
  have d : q_re fb fn p = if q_va fb fn (q_np fb fn p + 1) = 45 then q_np fb fn p + 2 else q_np fb fn (q_np fb fn p + 1) := rfl
  unfold q_pl
  split at d
  · rename_i g
    rw [if_pos g]
    exact ⟨by omega, Or.inl rfl, by omega, by omega⟩
  · rename_i g
    rw [if_neg g]
    rcases h3 with h3 | h3
    · exact absurd h3 g
    · exact ⟨by omega, Or.inr h3.2, by omega, by omega⟩
theorem q_rat_r {fb : Nat → Int} {fn x p : Int} (h0 : 0 ≤ p ∧ p ≤ fn) : ∀ j : Nat, (∀ i, i < j → q_rwi fb fn x p i) → (0 ≤ q_rat fb fn p j ∧ q_rat fb fn p j ≤ fn) ∧ (0 ≤ q_ab fb fn p j ∧ q_ab fb fn p j ≤ 40) := by
  intro j
  induction j with
  | zero => intro _; exact ⟨h0, show (0 : Int) ≤ 0 ∧ (0 : Int) ≤ 40 by omega⟩
  | succ j ih =>
    intro h
    obtain ⟨i1, i2⟩ := ih (fun i hi => h i (by omega))
    have hj := h j (by omega)
    have hr := q_rw_r hj i1.1
    refine ⟨?_, ?_⟩
    · show 0 ≤ q_re fb fn (q_rat fb fn p j) + 1 ∧ q_re fb fn (q_rat fb fn p j) + 1 ≤ fn
      omega
    · show 0 ≤ q_nr fb fn (q_rat fb fn p j) ∧ q_nr fb fn (q_rat fb fn p j) ≤ 40
      have := hj.1
      omega
/-- the rows are laid into a table -/
def x_rwF (fb : Nat → Int) (fn : Int) (σ : fS) (r : Nat) (p : Int) : Nat → fS
  | 0 => σ
  | i + 1 => f_p2 (x_rwF fb fn σ r p i) (r + 1) (q_nr fb fn (q_rat fb fn p i)).toNat (q_pl fb fn (q_rat fb fn p i))
theorem x_rwF_1 (fb : Nat → Int) (fn : Int) (σ : fS) (r : Nat) (p : Int) : ∀ j, (x_rwF fb fn σ r p j).1 = σ.1 := by
  intro j
  induction j with
  | zero => rfl
  | succ j ih => exact ih
theorem x_rwF_2 (fb : Nat → Int) (fn : Int) (σ : fS) (r : Nat) (p : Int) (a : Nat) (h : a ≠ r + 1) : ∀ j, (x_rwF fb fn σ r p j).2 a = σ.2 a := by
  intro j
  induction j with
  | zero => rfl
  | succ j ih =>
    show (f_p2 _ _ _ _).2 a = _
    rw [← ih]
    funext b
    rw [p2_2, if_neg (by omega)]
theorem x_rwF_r {fb : Nat → Int} {fn x p : Int} {σ : fS} {r : Nat} (h0 : 0 ≤ p ∧ p ≤ fn) (hb : ∀ i, -2 ≤ σ.2 (r + 1) i ∧ σ.2 (r + 1) i ≤ 99999) : ∀ j : Nat, (∀ i, i < j → q_rwi fb fn x p i) → ∀ i, -2 ≤ (x_rwF fb fn σ r p j).2 (r + 1) i ∧ (x_rwF fb fn σ r p j).2 (r + 1) i ≤ 99999 := by
  intro j
  induction j with
  | zero => intro _; exact hb
  | succ j ih =>
    intro h i
    have e := ih (fun i hi => h i (by omega)) i
    have hr := q_rw_r (h j (by omega)) (q_rat_r h0 j (fun i hi => h i (by omega))).1.1
    show -2 ≤ (f_p2 _ _ _ _).2 (r + 1) i ∧ (f_p2 _ _ _ _).2 (r + 1) i ≤ 99999
    rw [p2_2]
    split
    · omega
    · exact e
/-- a table's places changed within their range, and the next place -/
def x_scp (σ : fS) (r : Nat) (σ1 : fS) : Prop := (∀ a b, ¬ (a = 192 ∧ b = 3) → σ1.1 a b = σ.1 a b) ∧ (∀ a, a ≠ r + 1 → σ1.2 a = σ.2 a) ∧ ∀ i, -2 ≤ σ1.2 (r + 1) i ∧ σ1.2 (r + 1) i ≤ 99999
def q_rf (fb : Nat → Int) (fn : Int) (σ : fS) (r : Nat) (p w : Int) (v : Int) (σ1 : fS) : Prop :=
  (∃ j : Nat, (j : Int) < w ∧ (∀ i, i < j → q_rwi fb fn (σ.1 r 2) p i) ∧ ¬ q_rwi fb fn (σ.1 r 2) p j ∧ v = q_rat fb fn p j ∧ x_scp σ r σ1) ∨
  ((∀ i : Nat, (i : Int) < w → q_rwi fb fn (σ.1 r 2) p i) ∧ v = -1 ∧ σ1 = x_nx (x_rwF fb fn σ r p w.toNat) (q_rat fb fn p w.toNat))
theorem x_scp_nx {σ B : fS} {r : Nat} (h : x_scp σ r B) (y : Int) : x_scp σ r (x_nx B y) := ⟨fun a b g => by unfold x_nx; rw [p1_1, if_neg g]; exact h.1 a b g, h.2.1, h.2.2⟩
theorem x_scp_p2 {σ B : fS} {r : Nat} (h : x_scp σ r B) (q : Nat) {v : Int} (hv : -2 ≤ v ∧ v ≤ 99999) : x_scp σ r (f_p2 B (r + 1) q v) := ⟨h.1, fun a g => (by funext b; rw [p2_2, if_neg (by omega), h.2.1 a g]), fun i => by
  rw [p2_2]
  split
  · exact hv
  · exact h.2.2 i⟩
set_option maxRecDepth 100000 in
set_option maxHeartbeats 4000000 in
/-- rowsFault -/
theorem kX_XC_rowsFault (l : Launch) (D : va_G) (cA : Nat → ClassId) (ad : Nat → Nat) (hJ : f_J (xG D cA ad)) (σ : fS) (r : Nat) (hr : r + 2 < 383) (hY0 : xY r = .inl (4, 4, fXT r)) (hY1 : xY (r + 1) = .inr (.inl (0, 41))) (hY2 : xY (r + 2) = .inr (.inl (0, 41))) (hr2 : 193 < r) (w p : Int) (hw : 0 ≤ w ∧ w ≤ 99999) (fb : Nat → Int) (fn : Int) (hfb : σ.2 9 = fb) (hfn : σ.1 8 1 = fn) (hn0 : 0 ≤ fn ∧ fn ≤ 12000) (hb9 : ∀ i, -128 ≤ fb i ∧ fb i ≤ 127) (hp : 0 ≤ p ∧ p ≤ fn) (hp0 : σ.1 192 3 = p) (hx : 0 ≤ σ.1 r 2 ∧ σ.1 r 2 ≤ 12000) (hbp : ∀ i, -2 ≤ σ.2 (r + 1) i ∧ σ.2 (r + 1) i ≤ 99999) : f_M l (xG D cA ad) (xE (xG D cA ad)) yXC_rowsFault (Cond.code yXC_rowsFault cXC_rowsFault 8 (some .int) :: A9) 2 σ [.ref (ad 192), .ref (ad (r)), .int (fI w)] (f_QI (fun v σ1 => q_rf fb fn σ r p w v σ1) (xG D cA ad)) := by
  refine f_enter (by decide +kernel) hJ rfl (Nat.le_of_ble_eq_true rfl) ?_
  intro z hzl hR C hRt hLk hEz
  subst hzl
  have hRR : 2 ≤ z.2.2.2.1.frames ∧ 40 * 2 ≤ z.2.2.2.1.locals ∧ 0 ≤ z.2.2.2.1.cells ∧ 0 ≤ z.2.2.2.1.slots := by rw [hR]; exact ⟨Nat.le_refl _, Nat.le_refl _, Nat.zero_le _, Nat.zero_le _⟩
  have L : ∀ (m j : Nat), m + j = w.toNat → (∀ i, i < j → q_rwi fb fn (σ.1 r 2) p i) → ∀ o5 o6 o7 : Option Value, fv z (xG D cA ad) 8 (f_R z (xG D cA ad) (f_QI (fun v σ1 => q_rf fb fn σ r p w v σ1) (xG D cA ad))) 0 0 (x_nx (x_rwF fb fn σ r p j) (q_rat fb fn p j)) 5 [some (.ref (ad 192)), some (.ref (ad r)), some (.int (fI w)), some (.int (fI (q_ab fb fn p j))), some (.int (fI (j : Int))), o5, o6, o7] [] := by
    intro m
    induction m with
    | zero =>
      intro j hj hall o5 o6 o7
      obtain ⟨P, hP⟩ : ∃ v, v = q_rat fb fn p j := ⟨_, rfl⟩
      obtain ⟨A, hA⟩ : ∃ v, v = q_ab fb fn p j := ⟨_, rfl⟩
      obtain ⟨B, hB⟩ : ∃ s, s = x_rwF fb fn σ r p j := ⟨_, rfl⟩
      have hPA := q_rat_r hp j hall
      rw [← hP, ← hA] at hPA ⊢
      rw [← hB]
      have hB1 : B.1 = σ.1 := by rw [hB]; exact x_rwF_1 _ _ _ _ _ _
      have hBb : B.2 9 = fb := by rw [hB, x_rwF_2 _ _ _ _ _ 9 (by omega)]; exact hfb
      have hBn : B.1 8 1 = fn := by rw [hB1]; exact hfn
      have hBr : ∀ q, B.1 r q = σ.1 r q := fun q => by rw [hB1]
      have hSB : x_scp σ r B := ⟨fun a b _ => by rw [hB1], fun a g => by rw [hB]; exact x_rwF_2 _ _ _ _ _ a g _, by rw [hB]; exact x_rwF_r hp hbp j hall⟩
      refine v_iload C dXC_rowsFault_5 rfl ?_
      refine v_iload_n C dXC_rowsFault_7 rfl rfl ?_
      refine v_icmp_ge (tgt := 122) C dXC_rowsFault_8 (by decide) (by omega) (by omega) (fun hc1 => ?_) (fun hc1 => ?_)
      · refine v_iconst C dXC_rowsFault_122 ?_
        exact v_iret C hRt hLk dXC_rowsFault_123 (by subst hP hA hB; exact Or.inr ⟨fun i hi => hall i (by omega), rfl, by rw [show w.toNat = j by omega]⟩)
      · exfalso; omega
    | succ m ih =>
      intro j hj hall o5 o6 o7
      obtain ⟨P, hP⟩ : ∃ v, v = q_rat fb fn p j := ⟨_, rfl⟩
      obtain ⟨A, hA⟩ : ∃ v, v = q_ab fb fn p j := ⟨_, rfl⟩
      obtain ⟨B, hB⟩ : ∃ s, s = x_rwF fb fn σ r p j := ⟨_, rfl⟩
      have hPA := q_rat_r hp j hall
      rw [← hP, ← hA] at hPA ⊢
      rw [← hB]
      have hB1 : B.1 = σ.1 := by rw [hB]; exact x_rwF_1 _ _ _ _ _ _
      have hBb : B.2 9 = fb := by rw [hB, x_rwF_2 _ _ _ _ _ 9 (by omega)]; exact hfb
      have hBn : B.1 8 1 = fn := by rw [hB1]; exact hfn
      have hBr : ∀ q, B.1 r q = σ.1 r q := fun q => by rw [hB1]
      have hSB : x_scp σ r B := ⟨fun a b _ => by rw [hB1], fun a g => by rw [hB]; exact x_rwF_2 _ _ _ _ _ a g _, by rw [hB]; exact x_rwF_r hp hbp j hall⟩
      have hnp := q_np_r fb fn P
      have hnp2 := q_np_r fb fn (q_np fb fn P + 1)
      have hpld : q_pl fb fn P = if q_va fb fn (q_np fb fn P + 1) = 45 then -1 else q_nr fb fn (q_np fb fn P + 1) := rfl
      have hred : q_re fb fn P = if q_va fb fn (q_np fb fn P + 1) = 45 then q_np fb fn P + 2 else q_np fb fn (q_np fb fn P + 1) := rfl
      refine v_iload C dXC_rowsFault_5 rfl ?_
      refine v_iload_n C dXC_rowsFault_7 rfl rfl ?_
      refine v_icmp_ge (tgt := 122) C dXC_rowsFault_8 (by decide) (by omega) (by omega) (fun hc2 => ?_) (fun hc2 => ?_)
      · exfalso; omega
      · refine v_aload_n C dXC_rowsFault_11 rfl rfl ?_
        refine v_getI (k := 192) (q := 3) (v := P) C dXC_rowsFault_12 (by show (192 : Nat) < 383; decide) rfl rfl (by decide) rfl inXC lXC_73 rfl rfl ?_
        refine v_istore C dXC_rowsFault_15 (by decide) ?_
        refine v_aload_n C dXC_rowsFault_17 rfl rfl ?_
        refine v_cVI (k := 192) (n := 0) C (xE_ok _) hEz hR (kX_XC_number _ D cA ad hJ (x_nx B (P)) (P) (by omega) rfl fb fn hBb hBn hn0 hb9) dXC_rowsFault_18 (by show (192 : Nat) < 383; decide) rfl rfl gXC_76 (by decide +kernel) (by decide) (by decide) rfl (Nat.le_of_ble_eq_true rfl) rfl ⟨rfl, rfl⟩ (fun rn3 σn3 hpn3 => ?_)
        obtain ⟨e1n3, e2n3⟩ := hpn3
        subst σn3
        subst e1n3
        have hn3 := q_np_r fb fn (P)
        refine v_st (x_nx_nx _ _ _) ?_
        refine v_istore C dXC_rowsFault_21 (by decide) ?_
        refine v_iload C dXC_rowsFault_23 rfl ?_
        refine v_iload_n C dXC_rowsFault_25 rfl rfl ?_
        refine v_icmp_le (tgt := 45) C dXC_rowsFault_26 (by decide) (by omega) (by omega) (fun hc4 => ?_) (fun hc4 => ?_)
        · refine v_iload C dXC_rowsFault_45 rfl ?_
          exact v_iret C hRt hLk dXC_rowsFault_47 (Or.inl ⟨j, by omega, hall, fun h => by have h9 : q_rw fb fn (σ.1 r 2) A P := (by rw [hA, hP]; exact h); unfold q_rw at h9; omega, hP, by first | exact x_scp_nx hSB _ | exact x_scp_nx hSB2 _⟩)
        · refine v_iload C dXC_rowsFault_29 rfl ?_
          refine v_bipush C dXC_rowsFault_31 (by decide +kernel) ?_
          refine v_icmp_gt (tgt := 45) C dXC_rowsFault_33 (by decide) (by omega) (by omega) (fun hc5 => ?_) (fun hc5 => ?_)
          · refine v_iload C dXC_rowsFault_45 rfl ?_
            exact v_iret C hRt hLk dXC_rowsFault_47 (Or.inl ⟨j, by omega, hall, fun h => by have h9 : q_rw fb fn (σ.1 r 2) A P := (by rw [hA, hP]; exact h); unfold q_rw at h9; omega, hP, by first | exact x_scp_nx hSB _ | exact x_scp_nx hSB2 _⟩)
          · refine v_aload_n C dXC_rowsFault_36 rfl rfl ?_
            refine v_bipush C dXC_rowsFault_37 (by decide +kernel) ?_
            refine v_cVI (k := 192) (n := 1) C (xE_ok _) hEz hR (kX_XC_accept _ D cA ad hJ (x_nx B (q_np fb fn (P))) (32) (by omega) (by show -2147483648 ≤ q_np fb fn (P) ∧ q_np fb fn (P) ≤ 2147483647; omega) fb fn hBb hBn hn0 hb9) dXC_rowsFault_39 (by show (192 : Nat) < 383; decide) rfl rfl gXC_79 (by decide +kernel) (by decide) (by decide) rfl (Nat.le_of_ble_eq_true rfl) rfl ⟨rfl, rfl⟩ (fun ra6 σa6 hpa6 => ?_)
            obtain ⟨ha6, rfl, rfl⟩ | ⟨ha6, rfl, rfl⟩ := hpa6
            · have ha6q : q_va fb fn (q_np fb fn (P)) = 32 := ha6
              have ha6i := q_va_in (fb := fb) (fn := fn) (i := q_np fb fn (P)) (by omega)
              refine v_st (x_nx_nx _ _ _) ?_
              refine v_if_ne (tgt := 48) C dXC_rowsFault_42 (by decide) (by omega) (fun hc7 => ?_) (fun hc7 => ?_)
              · refine v_aload_n C dXC_rowsFault_48 rfl rfl ?_
                refine v_bipush C dXC_rowsFault_49 (by decide +kernel) ?_
                refine v_cVI (k := 192) (n := 1) C (xE_ok _) hEz hR (kX_XC_accept _ D cA ad hJ (x_nx B (q_np fb fn (P) + 1)) (45) (by omega) (by show -2147483648 ≤ q_np fb fn (P) + 1 ∧ q_np fb fn (P) + 1 ≤ 2147483647; omega) fb fn hBb hBn hn0 hb9) dXC_rowsFault_51 (by show (192 : Nat) < 383; decide) rfl rfl gXC_79 (by decide +kernel) (by decide) (by decide) rfl (Nat.le_of_ble_eq_true rfl) rfl ⟨rfl, rfl⟩ (fun ra8 σa8 hpa8 => ?_)
                obtain ⟨ha8, rfl, rfl⟩ | ⟨ha8, rfl, rfl⟩ := hpa8
                · have ha8q : q_va fb fn (q_np fb fn (P) + 1) = 45 := ha8
                  have ha8i := q_va_in (fb := fb) (fn := fn) (i := q_np fb fn (P) + 1) (by omega)
                  refine v_st (σ1 := x_nx B (q_np fb fn (P) + 2)) ((x_nx_nx _ _ _).trans (by show x_nx B (q_np fb fn (P) + 1 + 1) = x_nx B (q_np fb fn (P) + 2); congr 1; omega)) ?_
                  refine v_if_eq (tgt := 68) C dXC_rowsFault_54 (by decide) (by omega) (fun hc9 => ?_) (fun hc9 => ?_)
                  · exfalso; omega
                  · refine v_aload_n C dXC_rowsFault_57 rfl rfl ?_
                    refine v_getR (k := r) (q := 0) C dXC_rowsFault_58 (by show (r : Nat) < 383; omega) (hY0) rfl (by decide) rfl inXT lXC_83 rfl ?_
                    refine v_iload C dXC_rowsFault_61 rfl ?_
                    refine v_iconst C dXC_rowsFault_63 ?_
                    refine v_iast (k := (r + 1)) C dXC_rowsFault_64 (by show ((r + 1) : Nat) < 383; omega) (hY1) rfl (by omega) (by decide) ?_
                    refine v_goto (tgt := 101) C dXC_rowsFault_65 (by decide) ?_
                    rw [if_pos (by omega)] at hpld hred
                    obtain ⟨B2, hB2⟩ : ∃ s, s = f_p2 B (r + 1) (q_nr fb fn P).toNat (q_pl fb fn P) := ⟨_, rfl⟩
                    have hSB2 : x_scp σ r B2 := by rw [hB2]; exact x_scp_p2 hSB _ (by omega)
                    have hBb2 : B2.2 9 = fb := by rw [hSB2.2.1 9 (by omega)]; exact hfb
                    have hBn2 : B2.1 8 1 = fn := by rw [hSB2.1 8 1 (by omega)]; exact hfn
                    refine v_st (σ1 := x_nx B2 (q_re fb fn P)) (by rw [hB2, hpld, hred]; rfl) ?_
                    refine v_aload_n C dXC_rowsFault_101 rfl rfl ?_
                    refine v_bipush C dXC_rowsFault_102 (by decide +kernel) ?_
                    refine v_cVI (k := 192) (n := 1) C (xE_ok _) hEz hR (kX_XC_accept _ D cA ad hJ (x_nx B2 (q_re fb fn P)) (10) (by omega) (by show -2147483648 ≤ q_re fb fn P ∧ q_re fb fn P ≤ 2147483647; omega) fb fn hBb2 hBn2 hn0 hb9) dXC_rowsFault_104 (by show (192 : Nat) < 383; decide) rfl rfl gXC_79 (by decide +kernel) (by decide) (by decide) rfl (Nat.le_of_ble_eq_true rfl) rfl ⟨rfl, rfl⟩ (fun ra10 σa10 hpa10 => ?_)
                    obtain ⟨ha10, rfl, rfl⟩ | ⟨ha10, rfl, rfl⟩ := hpa10
                    · have ha10q : q_va fb fn (q_re fb fn P) = 10 := ha10
                      have ha10i := q_va_in (fb := fb) (fn := fn) (i := q_re fb fn P) (by omega)
                      refine v_st (x_nx_nx _ _ _) ?_
                      refine v_if_ne (tgt := 113) C dXC_rowsFault_107 (by decide) (by omega) (fun hc11 => ?_) (fun hc11 => ?_)
                      · refine v_iload C dXC_rowsFault_113 rfl ?_
                        refine v_istore_n C dXC_rowsFault_115 rfl (by decide) ?_
                        refine v_iinc C dXC_rowsFault_116 rfl (by decide) ?_
                        refine v_goto (tgt := 5) C dXC_rowsFault_119 (by decide) ?_
                        exact v_st (by rw [hB2, hB]; show x_nx _ (q_re fb fn P + 1) = x_nx (f_p2 _ _ _ _) (q_re fb fn (q_rat fb fn p j) + 1); rw [← hP]) (v_lv (by show _ = [_, _, _, some (Value.int (fI (q_nr fb fn (q_rat fb fn p j)))), _, _, _, _]; rw [← hP]; rfl) (ih (j + 1) (by omega) (fun i hi => by rcases (show i < j ∨ i = j by omega) with h | h; (· exact hall i h); (· rw [h]; show q_rw _ _ _ (q_ab fb fn p j) (q_rat fb fn p j); rw [← hA, ← hP]; exact ⟨by omega, by assumption, by omega, by assumption⟩)) _ _ _))
                      · exfalso; omega
                    · have ha10q : ¬ q_va fb fn (q_re fb fn P) = 10 := ha10
                      refine v_if_ne (tgt := 113) C dXC_rowsFault_107 (by decide) (by omega) (fun hc12 => ?_) (fun hc12 => ?_)
                      · exfalso; omega
                      · refine v_iload C dXC_rowsFault_110 rfl ?_
                        exact v_iret C hRt hLk dXC_rowsFault_112 (Or.inl ⟨j, by omega, hall, fun h => by have h9 : q_rw fb fn (σ.1 r 2) A P := (by rw [hA, hP]; exact h); unfold q_rw at h9; omega, hP, by first | exact x_scp_nx hSB _ | exact x_scp_nx hSB2 _⟩)
                · have ha8q : ¬ q_va fb fn (q_np fb fn (P) + 1) = 45 := ha8
                  refine v_if_eq (tgt := 68) C dXC_rowsFault_54 (by decide) (by omega) (fun hc13 => ?_) (fun hc13 => ?_)
                  · refine v_aload_n C dXC_rowsFault_68 rfl rfl ?_
                    refine v_cVI (k := 192) (n := 0) C (xE_ok _) hEz hR (kX_XC_number _ D cA ad hJ (x_nx B (q_np fb fn (P) + 1)) (q_np fb fn (P) + 1) (by omega) rfl fb fn hBb hBn hn0 hb9) dXC_rowsFault_69 (by show (192 : Nat) < 383; decide) rfl rfl gXC_76 (by decide +kernel) (by decide) (by decide) rfl (Nat.le_of_ble_eq_true rfl) rfl ⟨rfl, rfl⟩ (fun rn14 σn14 hpn14 => ?_)
                    obtain ⟨e1n14, e2n14⟩ := hpn14
                    subst σn14
                    subst e1n14
                    have hn14 := q_np_r fb fn (q_np fb fn (P) + 1)
                    refine v_st (x_nx_nx _ _ _) ?_
                    refine v_istore C dXC_rowsFault_72 (by decide) ?_
                    refine v_iload C dXC_rowsFault_74 rfl ?_
                    refine v_iconst C dXC_rowsFault_76 ?_
                    refine v_icmp_eq (tgt := 89) C dXC_rowsFault_77 (by decide) (by omega) (by omega) (fun hc15 => ?_) (fun hc15 => ?_)
                    · refine v_iload C dXC_rowsFault_89 rfl ?_
                      exact v_iret C hRt hLk dXC_rowsFault_91 (Or.inl ⟨j, by omega, hall, fun h => by have h9 : q_rw fb fn (σ.1 r 2) A P := (by rw [hA, hP]; exact h); unfold q_rw at h9; omega, hP, by first | exact x_scp_nx hSB _ | exact x_scp_nx hSB2 _⟩)
                    · refine v_iload C dXC_rowsFault_80 rfl ?_
                      refine v_aload_n C dXC_rowsFault_82 rfl rfl ?_
                      refine v_getI (k := r) (q := 2) (v := σ.1 r 2) C dXC_rowsFault_83 (by show (r : Nat) < 383; omega) (hY0) rfl (by decide) rfl inXT lXC_60 rfl (by show (x_nx B _).1 r 2 = _; unfold x_nx; rw [p1_1, if_neg (by omega)]; exact hBr 2) ?_
                      refine v_icmp_lt (tgt := 92) C dXC_rowsFault_86 (by decide) (by omega) (by omega) (fun hc16 => ?_) (fun hc16 => ?_)
                      · refine v_aload_n C dXC_rowsFault_92 rfl rfl ?_
                        refine v_getR (k := r) (q := 0) C dXC_rowsFault_93 (by show (r : Nat) < 383; omega) (hY0) rfl (by decide) rfl inXT lXC_83 rfl ?_
                        refine v_iload C dXC_rowsFault_96 rfl ?_
                        refine v_iload C dXC_rowsFault_98 rfl ?_
                        refine v_iast (k := (r + 1)) C dXC_rowsFault_100 (by show ((r + 1) : Nat) < 383; omega) (hY1) rfl (by omega) (by decide) ?_
                        rw [if_neg (by omega)] at hpld hred
                        obtain ⟨B2, hB2⟩ : ∃ s, s = f_p2 B (r + 1) (q_nr fb fn P).toNat (q_pl fb fn P) := ⟨_, rfl⟩
                        have hSB2 : x_scp σ r B2 := by rw [hB2]; exact x_scp_p2 hSB _ (by omega)
                        have hBb2 : B2.2 9 = fb := by rw [hSB2.2.1 9 (by omega)]; exact hfb
                        have hBn2 : B2.1 8 1 = fn := by rw [hSB2.1 8 1 (by omega)]; exact hfn
                        refine v_st (σ1 := x_nx B2 (q_re fb fn P)) (by rw [hB2, hpld, hred]; rfl) ?_
                        refine v_aload_n C dXC_rowsFault_101 rfl rfl ?_
                        refine v_bipush C dXC_rowsFault_102 (by decide +kernel) ?_
                        refine v_cVI (k := 192) (n := 1) C (xE_ok _) hEz hR (kX_XC_accept _ D cA ad hJ (x_nx B2 (q_re fb fn P)) (10) (by omega) (by show -2147483648 ≤ q_re fb fn P ∧ q_re fb fn P ≤ 2147483647; omega) fb fn hBb2 hBn2 hn0 hb9) dXC_rowsFault_104 (by show (192 : Nat) < 383; decide) rfl rfl gXC_79 (by decide +kernel) (by decide) (by decide) rfl (Nat.le_of_ble_eq_true rfl) rfl ⟨rfl, rfl⟩ (fun ra17 σa17 hpa17 => ?_)
                        obtain ⟨ha17, rfl, rfl⟩ | ⟨ha17, rfl, rfl⟩ := hpa17
                        · have ha17q : q_va fb fn (q_re fb fn P) = 10 := ha17
                          have ha17i := q_va_in (fb := fb) (fn := fn) (i := q_re fb fn P) (by omega)
                          refine v_st (x_nx_nx _ _ _) ?_
                          refine v_if_ne (tgt := 113) C dXC_rowsFault_107 (by decide) (by omega) (fun hc18 => ?_) (fun hc18 => ?_)
                          · refine v_iload C dXC_rowsFault_113 rfl ?_
                            refine v_istore_n C dXC_rowsFault_115 rfl (by decide) ?_
                            refine v_iinc C dXC_rowsFault_116 rfl (by decide) ?_
                            refine v_goto (tgt := 5) C dXC_rowsFault_119 (by decide) ?_
                            exact v_st (by rw [hB2, hB]; show x_nx _ (q_re fb fn P + 1) = x_nx (f_p2 _ _ _ _) (q_re fb fn (q_rat fb fn p j) + 1); rw [← hP]) (v_lv (by show _ = [_, _, _, some (Value.int (fI (q_nr fb fn (q_rat fb fn p j)))), _, _, _, _]; rw [← hP]; rfl) (ih (j + 1) (by omega) (fun i hi => by rcases (show i < j ∨ i = j by omega) with h | h; (· exact hall i h); (· rw [h]; show q_rw _ _ _ (q_ab fb fn p j) (q_rat fb fn p j); rw [← hA, ← hP]; exact ⟨by omega, by assumption, by omega, by assumption⟩)) _ _ _))
                          · exfalso; omega
                        · have ha17q : ¬ q_va fb fn (q_re fb fn P) = 10 := ha17
                          refine v_if_ne (tgt := 113) C dXC_rowsFault_107 (by decide) (by omega) (fun hc19 => ?_) (fun hc19 => ?_)
                          · exfalso; omega
                          · refine v_iload C dXC_rowsFault_110 rfl ?_
                            exact v_iret C hRt hLk dXC_rowsFault_112 (Or.inl ⟨j, by omega, hall, fun h => by have h9 : q_rw fb fn (σ.1 r 2) A P := (by rw [hA, hP]; exact h); unfold q_rw at h9; omega, hP, by first | exact x_scp_nx hSB _ | exact x_scp_nx hSB2 _⟩)
                      · refine v_iload C dXC_rowsFault_89 rfl ?_
                        exact v_iret C hRt hLk dXC_rowsFault_91 (Or.inl ⟨j, by omega, hall, fun h => by have h9 : q_rw fb fn (σ.1 r 2) A P := (by rw [hA, hP]; exact h); unfold q_rw at h9; omega, hP, by first | exact x_scp_nx hSB _ | exact x_scp_nx hSB2 _⟩)
                  · exfalso; omega
              · exfalso; omega
            · have ha6q : ¬ q_va fb fn (q_np fb fn (P)) = 32 := ha6
              refine v_if_ne (tgt := 48) C dXC_rowsFault_42 (by decide) (by omega) (fun hc20 => ?_) (fun hc20 => ?_)
              · exfalso; omega
              · refine v_iload C dXC_rowsFault_45 rfl ?_
                exact v_iret C hRt hLk dXC_rowsFault_47 (Or.inl ⟨j, by omega, hall, fun h => by have h9 : q_rw fb fn (σ.1 r 2) A P := (by rw [hA, hP]; exact h); unfold q_rw at h9; omega, hP, by first | exact x_scp_nx hSB _ | exact x_scp_nx hSB2 _⟩)
  refine v_iconst C dXC_rowsFault_0 ?_
  refine v_istore_n C dXC_rowsFault_1 rfl (by decide) ?_
  refine v_iconst C dXC_rowsFault_2 ?_
  refine v_istore C dXC_rowsFault_3 (by decide) ?_
  exact v_st (x_nx_self σ hp0) (v_lv rfl (L w.toNat 0 (by omega) (fun i hi => absurd hi (by omega)) none none none))
end
section
/-! the records of a part, its end -/
def q_rci (fb : Nat → Int) (fn : Int) (σ : fS) (r i : Nat) : Prop := 0 ≤ σ.2 (r + 1) (i + 1) → q_rec fb fn ((i : Int) + 1) (σ.2 (r + 1) (i + 1)) (σ.1 r 2)
def x_rlF (fb : Nat → Int) (fn : Int) (σ : fS) (r : Nat) : Nat → fS
  | 0 => σ
  | k + 1 => if 0 ≤ σ.2 (r + 1) (k + 1) then f_p2 (x_rlF fb fn σ r k) (r + 2) (k + 1) (q_len fb fn (σ.2 (r + 1) (k + 1))) else x_rlF fb fn σ r k
theorem q_rec_r {fb : Nat → Int} {fn n p x : Int} (h : q_rec fb fn n p x) : (0 ≤ q_len fb fn p ∧ q_len fb fn p ≤ 120) ∧ 0 ≤ p ∧ p < fn ∧ 0 ≤ q_by fb fn p ∧ q_by fb fn p + q_len fb fn p < x ∧ q_by fb fn p + q_len fb fn p < fn := by
  obtain ⟨h1, h2, h3, h4, h5, h6, h7, h8⟩ := h
  have a := q_np_r fb fn (q_la fb fn p)
  have b := q_np_r fb fn (p + 2)
  have e : q_len fb fn p = q_nr fb fn (q_la fb fn p) := rfl
  have e2 : q_la fb fn p = q_np fb fn (p + 2) + 1 := rfl
  have e3 : q_by fb fn p = q_np fb fn (q_la fb fn p) + 1 := rfl
  have i1 := q_va_in (fb := fb) (fn := fn) (i := p) (by omega)
  have i2 := q_va_in (fb := fb) (fn := fn) (i := q_by fb fn p + q_len fb fn p) (by omega)
  refine ⟨by omega, by omega, by omega, by omega, by omega, by omega⟩
theorem x_rlF_1 (fb : Nat → Int) (fn : Int) (σ : fS) (r : Nat) : ∀ k, (x_rlF fb fn σ r k).1 = σ.1 := by
  intro k
  induction k with
  | zero => rfl
  | succ k ih =>
    show (if _ then _ else _ : fS).1 = _
    split
    · exact ih
    · exact ih
theorem x_rlF_2 (fb : Nat → Int) (fn : Int) (σ : fS) (r a : Nat) (h : a ≠ r + 2) : ∀ k, (x_rlF fb fn σ r k).2 a = σ.2 a := by
  intro k
  induction k with
  | zero => rfl
  | succ k ih =>
    show (if _ then _ else _ : fS).2 a = _
    split
    · rw [← ih]; funext b; rw [p2_2, if_neg (by omega)]
    · exact ih
theorem x_rlF_r {fb : Nat → Int} {fn : Int} {σ : fS} {r : Nat} (hb : ∀ i, -1 ≤ σ.2 (r + 2) i ∧ σ.2 (r + 2) i ≤ 120) : ∀ k : Nat, (∀ i, i < k → q_rci fb fn σ r i) → ∀ i, -1 ≤ (x_rlF fb fn σ r k).2 (r + 2) i ∧ (x_rlF fb fn σ r k).2 (r + 2) i ≤ 120 := by
  intro k
  induction k with
  | zero => intro _; exact hb
  | succ k ih =>
    intro h i
    have e := ih (fun i hi => h i (by omega)) i
    show -1 ≤ (if _ then _ else _ : fS).2 (r + 2) i ∧ (if _ then _ else _ : fS).2 (r + 2) i ≤ 120
    split
    · rename_i g
      have := (q_rec_r (h k (by omega) g)).1
      rw [p2_2]
      split
      · omega
      · exact e
    · exact e
/-- a table's lengths changed within their range, and the next place -/
def x_scl (σ : fS) (r : Nat) (σ1 : fS) : Prop := (∀ a b, ¬ (a = 192 ∧ b = 3) → σ1.1 a b = σ.1 a b) ∧ (∀ a, a ≠ r + 2 → σ1.2 a = σ.2 a) ∧ ∀ i, -1 ≤ σ1.2 (r + 2) i ∧ σ1.2 (r + 2) i ≤ 120
theorem x_scl_nx {σ B : fS} {r : Nat} (h : x_scl σ r B) (y : Int) : x_scl σ r (x_nx B y) := ⟨fun a b g => by unfold x_nx; rw [p1_1, if_neg g]; exact h.1 a b g, h.2.1, h.2.2⟩
theorem x_scl_p2 {σ B : fS} {r : Nat} (h : x_scl σ r B) (q : Nat) {v : Int} (hv : -1 ≤ v ∧ v ≤ 120) : x_scl σ r (f_p2 B (r + 2) q v) := ⟨h.1, fun a g => (by funext b; rw [p2_2, if_neg (by omega), h.2.1 a g]), fun i => by
  rw [p2_2]
  split
  · exact hv
  · exact h.2.2 i⟩
def q_cf (fb : Nat → Int) (fn : Int) (σ : fS) (r : Nat) (v : Int) (σ1 : fS) : Prop :=
  (∃ j : Nat, j < 40 ∧ (∀ i, i < j → q_rci fb fn σ r i) ∧ ¬ q_rci fb fn σ r j ∧ v = σ.2 (r + 1) (j + 1) ∧ x_scl σ r σ1) ∨
  ((∀ i : Nat, i < 40 → q_rci fb fn σ r i) ∧ v = -1 ∧ ∃ y, σ1 = x_nx (x_rlF fb fn σ r 40) y)
/-- the rows p and e of a part -/
def q_okP (fb : Nat → Int) (fn x ct p : Int) : Prop := q_tg fb fn p 112 ∧ q_nr fb fn (p + 2) < x ∧ ¬ (q_nr fb fn (p + 2) ≠ 0 ∧ 60 ≤ ct + 1)
def q_okE (fb : Nat → Int) (fn x p : Int) : Prop := q_tg fb fn p 101 ∧ q_nr fb fn (p + 2) = x
def q_eat (fb : Nat → Int) (fn p : Int) : Int := q_np fb fn (p + 2) + 1
def q_ef (fb : Nat → Int) (fn : Int) (σ : fS) (r : Nat) (p v : Int) (σ1 : fS) : Prop :=
  (σ1.2 = σ.2 ∧ (∀ a b, ¬ (a = 192 ∧ (b = 3 ∨ b = 4)) → ¬ (a = r ∧ b = 3) → σ1.1 a b = σ.1 a b) ∧ (σ1.1 r 3 = σ.1 r 3 ∨ (0 ≤ σ1.1 r 3 ∧ σ1.1 r 3 ≤ fn))) ∧
  ((¬ q_okP fb fn (σ.1 r 2) (σ.1 192 2) p ∧ v = p) ∨ (q_okP fb fn (σ.1 r 2) (σ.1 192 2) p ∧ ((¬ q_okE fb fn (σ.1 r 2) (q_eat fb fn p) ∧ v = q_eat fb fn p) ∨
   (q_okE fb fn (σ.1 r 2) (q_eat fb fn p) ∧ σ1.1 192 4 = q_nr fb fn (p + 2) ∧ σ1.1 r 3 = q_eat fb fn (q_eat fb fn p) ∧ ((σ.1 192 2 = 0 ∧ q_eat fb fn (q_eat fb fn p) ≠ fn ∧ v = q_eat fb fn (q_eat fb fn p)) ∨ (¬ (σ.1 192 2 = 0 ∧ q_eat fb fn (q_eat fb fn p) ≠ fn) ∧ v = -1))))))
set_option maxRecDepth 100000 in
set_option maxHeartbeats 4000000 in
/-- recordsFault -/
theorem kX_XC_recordsFault (l : Launch) (D : va_G) (cA : Nat → ClassId) (ad : Nat → Nat) (hJ : f_J (xG D cA ad)) (σ : fS) (r : Nat) (hr : r + 2 < 383) (hY0 : xY r = .inl (4, 4, fXT r)) (hY1 : xY (r + 1) = .inr (.inl (0, 41))) (hY2 : xY (r + 2) = .inr (.inl (0, 41))) (hr2 : 193 < r) (fb : Nat → Int) (fn : Int) (hfb : σ.2 9 = fb) (hfn : σ.1 8 1 = fn) (hn0 : 0 ≤ fn ∧ fn ≤ 12000) (hb9 : ∀ i, -128 ≤ fb i ∧ fb i ≤ 127) (hx : 0 ≤ σ.1 r 2 ∧ σ.1 r 2 ≤ 12000) (hbp : ∀ i, -2 ≤ σ.2 (r + 1) i ∧ σ.2 (r + 1) i ≤ 99999) (hbl : ∀ i, -1 ≤ σ.2 (r + 2) i ∧ σ.2 (r + 2) i ≤ 120) : f_M l (xG D cA ad) (xE (xG D cA ad)) yXC_recordsFault (Cond.code yXC_recordsFault cXC_recordsFault 4 (some .int) :: A9) 3 σ [.ref (ad 192), .ref (ad (r))] (f_QI (fun v σ1 => q_cf fb fn σ r v σ1) (xG D cA ad)) := by
  refine f_enter (by decide +kernel) hJ rfl (Nat.le_of_ble_eq_true rfl) ?_
  intro z hzl hR C hRt hLk hEz
  subst hzl
  have hRR : 3 ≤ z.2.2.2.1.frames ∧ 40 * 3 ≤ z.2.2.2.1.locals ∧ 0 ≤ z.2.2.2.1.cells ∧ 0 ≤ z.2.2.2.1.slots := by rw [hR]; exact ⟨Nat.le_refl _, Nat.le_refl _, Nat.zero_le _, Nat.zero_le _⟩
  have L : ∀ (m k : Nat), m + k = 40 → (∀ i, i < k → q_rci fb fn σ r i) → ∀ (y : Int) (o3 : Option Value), fv z (xG D cA ad) 4 (f_R z (xG D cA ad) (f_QI (fun v σ1 => q_cf fb fn σ r v σ1) (xG D cA ad))) 0 0 (x_nx (x_rlF fb fn σ r k) y) 2 [some (.ref (ad 192)), some (.ref (ad r)), some (.int (fI ((k : Int) + 1))), o3] [] := by
    intro m
    induction m with
    | zero =>
      intro k hk hall y o3
      obtain ⟨B, hB⟩ : ∃ s, s = x_rlF fb fn σ r k := ⟨_, rfl⟩
      rw [← hB]
      have hB1 : B.1 = σ.1 := by rw [hB]; exact x_rlF_1 _ _ _ _ _
      have hB2 : ∀ a, a ≠ r + 2 → B.2 a = σ.2 a := fun a g => by rw [hB]; exact x_rlF_2 _ _ _ _ a g _
      have hBb : B.2 9 = fb := by rw [hB2 9 (by omega)]; exact hfb
      have hBn : B.1 8 1 = fn := by rw [hB1]; exact hfn
      have hBr : ∀ q, B.1 r q = σ.1 r q := fun q => by rw [hB1]
      have hSB : x_scl σ r B := ⟨fun a b _ => by rw [hB1], fun a g => hB2 a g, by rw [hB]; exact x_rlF_r hbl k hall⟩
      obtain rfl : k = 40 := by omega
      refine v_iload_n C dXC_recordsFault_2 rfl rfl ?_
      refine v_bipush C dXC_recordsFault_3 (by decide +kernel) ?_
      refine v_icmp_gt (tgt := 56) C dXC_recordsFault_5 (by decide) (by omega) (by omega) (fun hc1 => ?_) (fun hc1 => ?_)
      · refine v_iconst C dXC_recordsFault_56 ?_
        exact v_iret C hRt hLk dXC_recordsFault_57 (by subst hB; exact Or.inr ⟨fun i hi => hall i hi, rfl, y, rfl⟩)
      · exfalso; omega
    | succ m ih =>
      intro k hk hall y o3
      obtain ⟨B, hB⟩ : ∃ s, s = x_rlF fb fn σ r k := ⟨_, rfl⟩
      rw [← hB]
      have hB1 : B.1 = σ.1 := by rw [hB]; exact x_rlF_1 _ _ _ _ _
      have hB2 : ∀ a, a ≠ r + 2 → B.2 a = σ.2 a := fun a g => by rw [hB]; exact x_rlF_2 _ _ _ _ a g _
      have hBb : B.2 9 = fb := by rw [hB2 9 (by omega)]; exact hfb
      have hBn : B.1 8 1 = fn := by rw [hB1]; exact hfn
      have hBr : ∀ q, B.1 r q = σ.1 r q := fun q => by rw [hB1]
      have hSB : x_scl σ r B := ⟨fun a b _ => by rw [hB1], fun a g => hB2 a g, by rw [hB]; exact x_rlF_r hbl k hall⟩
      have hkt : ((k : Int) + 1).toNat = k + 1 := by omega
      have hpl : (x_nx B y).2 (r + 1) ((k : Int) + 1).toNat = σ.2 (r + 1) (k + 1) := by rw [hkt]; show B.2 (r + 1) (k + 1) = _; rw [hB2 (r + 1) (by omega)]
      have hpr := hbp (k + 1)
      have hbk : B = x_rlF fb fn σ r k := hB
      refine v_iload_n C dXC_recordsFault_2 rfl rfl ?_
      refine v_bipush C dXC_recordsFault_3 (by decide +kernel) ?_
      refine v_icmp_gt (tgt := 56) C dXC_recordsFault_5 (by decide) (by omega) (by omega) (fun hc2 => ?_) (fun hc2 => ?_)
      · exfalso; omega
      · refine v_aload_n C dXC_recordsFault_8 rfl rfl ?_
        refine v_getR (k := r) (q := 0) C dXC_recordsFault_9 (by show (r : Nat) < 383; omega) (hY0) rfl (by decide) rfl inXT lXC_83 rfl ?_
        refine v_iload_n C dXC_recordsFault_12 rfl rfl ?_
        refine v_iald (k := (r + 1)) (v := σ.2 (r + 1) (k + 1)) C dXC_recordsFault_13 (by show ((r + 1) : Nat) < 383; omega) (hY1) rfl (by omega) (by decide) (hpl) ?_
        refine v_istore_n C dXC_recordsFault_14 rfl (by decide) ?_
        refine v_iload_n C dXC_recordsFault_15 rfl rfl ?_
        refine v_if_ge (tgt := 22) C dXC_recordsFault_16 (by decide) (by omega) (fun hc3 => ?_) (fun hc3 => ?_)
        · refine v_aload_n C dXC_recordsFault_22 rfl rfl ?_
          refine v_getR (k := r) (q := 1) C dXC_recordsFault_23 (by show (r : Nat) < 383; omega) (hY0) rfl (by decide) rfl inXT lXC_90 rfl ?_
          refine v_iload_n C dXC_recordsFault_26 rfl rfl ?_
          refine v_aload_n C dXC_recordsFault_27 rfl rfl ?_
          refine v_iload_n C dXC_recordsFault_28 rfl rfl ?_
          refine v_iload_n C dXC_recordsFault_29 rfl rfl ?_
          refine v_aload_n C dXC_recordsFault_30 rfl rfl ?_
          refine v_getI (k := r) (q := 2) (v := σ.1 r 2) C dXC_recordsFault_31 (by show (r : Nat) < 383; omega) (hY0) rfl (by decide) rfl inXT lXC_60 rfl (by show (x_nx B _).1 r 2 = _; unfold x_nx; rw [p1_1, if_neg (by omega)]; exact hBr 2) ?_
          refine v_cVI (k := 192) (n := 3) C (xE_ok _) hEz hR (kX_XC_recordLength _ D cA ad hJ (x_nx B y) ((k : Int) + 1) (σ.2 (r + 1) (k + 1)) (σ.1 r 2) (by omega) (by omega) (by omega) fb fn hBb hBn hn0 hb9) dXC_recordsFault_34 (by show (192 : Nat) < 383; decide) rfl rfl gXC_93 (by decide +kernel) (by decide) (by decide) rfl (Nat.le_of_ble_eq_true rfl) rfl ⟨rfl, rfl⟩ (fun rv σv hpv => ?_)
          obtain ⟨y1, rfl, ⟨hrc, rfl⟩ | ⟨hrc, rfl⟩⟩ := hpv
          · have hrr := q_rec_r hrc
            refine v_st (x_nx_nx B y y1) ?_
            refine v_iast (k := (r + 2)) C dXC_recordsFault_37 (by show ((r + 2) : Nat) < 383; omega) (hY2) rfl (by omega) (by decide) ?_
            refine v_aload_n C dXC_recordsFault_38 rfl rfl ?_
            refine v_getR (k := r) (q := 1) C dXC_recordsFault_39 (by show (r : Nat) < 383; omega) (hY0) rfl (by decide) rfl inXT lXC_90 rfl ?_
            refine v_iload_n C dXC_recordsFault_42 rfl rfl ?_
            refine v_iald (k := (r + 2)) (v := (q_len fb fn (σ.2 (r + 1) (k + 1)))) C dXC_recordsFault_43 (by show ((r + 2) : Nat) < 383; omega) (hY2) rfl (by omega) (by decide) (by rw [p2_2, if_pos ⟨rfl, rfl⟩]) ?_
            refine v_iconst C dXC_recordsFault_44 ?_
            refine v_icmp_ne (tgt := 50) C dXC_recordsFault_45 (by decide) (by omega) (by omega) (fun hc4 => ?_) (fun hc4 => ?_)
            · refine v_iinc C dXC_recordsFault_50 rfl (by decide) ?_
              refine v_goto (tgt := 2) C dXC_recordsFault_53 (by decide) ?_
              exact v_st (by rw [hkt]; show x_nx (f_p2 B (r + 2) (k + 1) _) y1 = x_nx (if _ then _ else _) y1; rw [if_pos (by omega), hB]) (ih (k + 1) (by omega) (fun i hi => by rcases (show i < k ∨ i = k by omega) with h | h; (· exact hall i h); (· rw [h]; exact fun _ => hrc)) _ _)
            · refine v_iload_n C dXC_recordsFault_48 rfl rfl ?_
              exact v_iret C hRt hLk dXC_recordsFault_49 (Or.inl ⟨k, by omega, hall, fun h => by have h9 := h (by omega); first | exact hrc h9 | omega, rfl, x_scl_p2 (x_scl_nx hSB _) _ (by omega)⟩)
          · refine v_st (x_nx_nx B y y1) ?_
            refine v_iast (k := (r + 2)) C dXC_recordsFault_37 (by show ((r + 2) : Nat) < 383; omega) (hY2) rfl (by omega) (by decide) ?_
            refine v_aload_n C dXC_recordsFault_38 rfl rfl ?_
            refine v_getR (k := r) (q := 1) C dXC_recordsFault_39 (by show (r : Nat) < 383; omega) (hY0) rfl (by decide) rfl inXT lXC_90 rfl ?_
            refine v_iload_n C dXC_recordsFault_42 rfl rfl ?_
            refine v_iald (k := (r + 2)) (v := (-1)) C dXC_recordsFault_43 (by show ((r + 2) : Nat) < 383; omega) (hY2) rfl (by omega) (by decide) (by rw [p2_2, if_pos ⟨rfl, rfl⟩]) ?_
            refine v_iconst C dXC_recordsFault_44 ?_
            refine v_icmp_ne (tgt := 50) C dXC_recordsFault_45 (by decide) (by omega) (by omega) (fun hc5 => ?_) (fun hc5 => ?_)
            · exfalso; omega
            · refine v_iload_n C dXC_recordsFault_48 rfl rfl ?_
              exact v_iret C hRt hLk dXC_recordsFault_49 (Or.inl ⟨k, by omega, hall, fun h => by have h9 := h (by omega); first | exact hrc h9 | omega, rfl, x_scl_p2 (x_scl_nx hSB _) _ (by omega)⟩)
        · refine v_goto (tgt := 50) C dXC_recordsFault_19 (by decide) ?_
          refine v_iinc C dXC_recordsFault_50 rfl (by decide) ?_
          refine v_goto (tgt := 2) C dXC_recordsFault_53 (by decide) ?_
          exact v_st (by show _ = x_nx (if _ then _ else _) y; rw [if_neg (by omega), hB]) (ih (k + 1) (by omega) (fun i hi => by rcases (show i < k ∨ i = k by omega) with h | h; (· exact hall i h); (· rw [h]; exact fun g => absurd g (by omega))) _ _)
  refine v_iconst C dXC_recordsFault_0 ?_
  refine v_istore_n C dXC_recordsFault_1 rfl (by decide) ?_
  exact v_st (x_nx_self σ rfl) (v_lv rfl (L 40 0 (by omega) (fun i hi => absurd hi (by omega)) _ none))
set_option maxRecDepth 100000 in
set_option maxHeartbeats 4000000 in
/-- endFault -/
theorem kX_XC_endFault (l : Launch) (D : va_G) (cA : Nat → ClassId) (ad : Nat → Nat) (hJ : f_J (xG D cA ad)) (σ : fS) (r : Nat) (hr : r + 2 < 383) (hY0 : xY r = .inl (4, 4, fXT r)) (hY1 : xY (r + 1) = .inr (.inl (0, 41))) (hY2 : xY (r + 2) = .inr (.inl (0, 41))) (hr2 : 193 < r) (p : Int) (fb : Nat → Int) (fn : Int) (hfb : σ.2 9 = fb) (hfn : σ.1 8 1 = fn) (hn0 : 0 ≤ fn ∧ fn ≤ 12000) (hb9 : ∀ i, -128 ≤ fb i ∧ fb i ≤ 127) (hp : 0 ≤ p ∧ p ≤ fn) (hp0 : σ.1 192 3 = p) (hx : 0 ≤ σ.1 r 2 ∧ σ.1 r 2 ≤ 12000) (hct : 0 ≤ σ.1 192 2 ∧ σ.1 192 2 ≤ 60) : f_M l (xG D cA ad) (xE (xG D cA ad)) yXC_endFault (Cond.code yXC_endFault cXC_endFault 4 (some .int) :: A9) 3 σ [.ref (ad 192), .ref (ad (r))] (f_QI (fun v σ1 => q_ef fb fn σ r p v σ1) (xG D cA ad)) := by
  refine f_enter (by decide +kernel) hJ rfl (Nat.le_of_ble_eq_true rfl) ?_
  intro z hzl hR C hRt hLk hEz
  subst hzl
  have hRR : 3 ≤ z.2.2.2.1.frames ∧ 40 * 3 ≤ z.2.2.2.1.locals ∧ 0 ≤ z.2.2.2.1.cells ∧ 0 ≤ z.2.2.2.1.slots := by rw [hR]; exact ⟨Nat.le_refl _, Nat.le_refl _, Nat.zero_le _, Nat.zero_le _⟩
  refine v_aload_n C dXC_endFault_0 rfl rfl ?_
  refine v_getI (k := 192) (q := 3) (v := p) C dXC_endFault_1 (by show (192 : Nat) < 383; decide) rfl rfl (by decide) rfl inXC lXC_73 rfl hp0 ?_
  refine v_istore_n C dXC_endFault_4 rfl (by decide) ?_
  refine v_aload_n C dXC_endFault_5 rfl rfl ?_
  refine v_aload_n C dXC_endFault_6 rfl rfl ?_
  refine v_iload_n C dXC_endFault_7 rfl rfl ?_
  refine v_bipush C dXC_endFault_8 (by decide +kernel) ?_
  refine v_cVI (k := 192) (n := 2) C (xE_ok _) hEz hR (kX_XC_tagged _ D cA ad hJ σ (p) (112) (by omega) (by omega) fb fn hfb hfn hn0 hb9) dXC_endFault_10 (by show (192 : Nat) < 383; decide) rfl rfl gXC_41 (by decide +kernel) (by decide) (by decide) rfl (Nat.le_of_ble_eq_true rfl) rfl ⟨rfl, rfl⟩ (fun rv σv hpv => ?_)
  obtain ⟨y1, rfl, ⟨ht1, rfl, hy1⟩ | ⟨ht1, rfl⟩⟩ := hpv
  · have hn1 := q_np_r fb fn (p + 2)
    have ht1q := ht1
    unfold q_tg at ht1
    have hi1 := q_va_in (fb := fb) (fn := fn) (i := q_np fb fn (p + 2)) (by omega)
    refine v_putI (k := 192) (q := 4) C dXC_endFault_13 (by show (192 : Nat) < 383; decide) rfl rfl (by decide) rfl inXC tyXC_ok nmXC lXC_49 rfl rfl rfl rfl rfl ?_
    obtain ⟨S1, hS1⟩ : ∃ s, s = f_p1 (x_nx σ y1) 192 4 (q_nr fb fn (p + 2)) := ⟨_, rfl⟩
    refine v_st hS1.symm ?_
    have hS1b : S1.2 9 = fb := by rw [hS1]; exact hfb
    have hS1n : S1.1 8 1 = fn := by rw [hS1]; exact hfn
    have hS14 : S1.1 192 4 = (q_nr fb fn (p + 2)) := by rw [hS1]; rfl
    have hS12 : S1.1 192 2 = σ.1 192 2 := by rw [hS1]; rfl
    have hS1y : S1.1 192 3 = y1 := by rw [hS1]; rfl
    have hS1r : ∀ q, S1.1 r q = σ.1 r q := fun q => by rw [hS1, p1_1, if_neg (by omega)]; unfold x_nx; rw [p1_1, if_neg (by omega)]
    have hS1a : S1.2 = σ.2 := by rw [hS1]; rfl
    have hS1f : ∀ a b, ¬ (a = 192 ∧ (b = 3 ∨ b = 4)) → S1.1 a b = σ.1 a b := fun a b g => by rw [hS1, p1_1, if_neg (by omega)]; unfold x_nx; rw [p1_1, if_neg (by omega)]
    refine v_aload_n C dXC_endFault_16 rfl rfl ?_
    refine v_getI (k := 192) (q := 4) (v := (q_nr fb fn (p + 2))) C dXC_endFault_17 (by show (192 : Nat) < 383; decide) rfl rfl (by decide) rfl inXC lXC_49 rfl hS14 ?_
    refine v_if_eq (tgt := 38) C dXC_endFault_20 (by decide) (by omega) (fun hc1 => ?_) (fun hc1 => ?_)
    · refine v_iconst C dXC_endFault_38 ?_
      refine v_istore_n C dXC_endFault_39 rfl (by decide) ?_
      refine v_aload_n C dXC_endFault_40 rfl rfl ?_
      refine v_getI (k := 192) (q := 4) (v := (q_nr fb fn (p + 2))) C dXC_endFault_41 (by show (192 : Nat) < 383; decide) rfl rfl (by decide) rfl inXC lXC_49 rfl hS14 ?_
      refine v_iconst C dXC_endFault_44 ?_
      refine v_icmp_eq (tgt := 63) C dXC_endFault_45 (by decide) (by omega) (by omega) (fun hc2 => ?_) (fun hc2 => ?_)
      · refine v_iload_n C dXC_endFault_63 rfl rfl ?_
        exact v_iret C hRt hLk dXC_endFault_64 ⟨⟨hS1a, fun a b g g2 => hS1f a b g, Or.inl (hS1r 3)⟩, Or.inl ⟨fun h => by obtain ⟨g1, g2, g3⟩ := h; first | exact ht1q g1 | omega, rfl⟩⟩
      · refine v_aload_n C dXC_endFault_48 rfl rfl ?_
        refine v_getI (k := 192) (q := 4) (v := (q_nr fb fn (p + 2))) C dXC_endFault_49 (by show (192 : Nat) < 383; decide) rfl rfl (by decide) rfl inXC lXC_49 rfl hS14 ?_
        refine v_aload_n C dXC_endFault_52 rfl rfl ?_
        refine v_getI (k := r) (q := 2) (v := σ.1 r 2) C dXC_endFault_53 (by show (r : Nat) < 383; omega) (hY0) rfl (by decide) rfl inXT lXC_60 rfl (hS1r 2) ?_
        refine v_icmp_ge (tgt := 63) C dXC_endFault_56 (by decide) (by omega) (by omega) (fun hc3 => ?_) (fun hc3 => ?_)
        · refine v_iload_n C dXC_endFault_63 rfl rfl ?_
          exact v_iret C hRt hLk dXC_endFault_64 ⟨⟨hS1a, fun a b g g2 => hS1f a b g, Or.inl (hS1r 3)⟩, Or.inl ⟨fun h => by obtain ⟨g1, g2, g3⟩ := h; first | exact ht1q g1 | omega, rfl⟩⟩
        · refine v_iload_n C dXC_endFault_59 rfl rfl ?_
          refine v_if_eq (tgt := 65) C dXC_endFault_60 (by decide) (by omega) (fun hc4 => ?_) (fun hc4 => ?_)
          · have hS13 : S1.1 192 3 = q_eat fb fn p := by rw [hS1y]; first | exact hy1 | (exfalso; omega)
            have hee : q_eat fb fn p = q_np fb fn (p + 2) + 1 := rfl
            refine v_aload_n C dXC_endFault_65 rfl rfl ?_
            refine v_getI (k := 192) (q := 3) (v := q_eat fb fn p) C dXC_endFault_66 (by show (192 : Nat) < 383; decide) rfl rfl (by decide) rfl inXC lXC_73 rfl hS13 ?_
            refine v_istore_n C dXC_endFault_69 rfl (by decide) ?_
            refine v_aload_n C dXC_endFault_70 rfl rfl ?_
            refine v_iload_n C dXC_endFault_71 rfl rfl ?_
            refine v_bipush C dXC_endFault_72 (by decide +kernel) ?_
            refine v_cVI (k := 192) (n := 2) C (xE_ok _) hEz hR (kX_XC_tagged _ D cA ad hJ S1 (q_eat fb fn p) (101) (by omega) (by omega) fb fn hS1b hS1n hn0 hb9) dXC_endFault_74 (by show (192 : Nat) < 383; decide) rfl rfl gXC_41 (by decide +kernel) (by decide) (by decide) rfl (Nat.le_of_ble_eq_true rfl) rfl ⟨rfl, rfl⟩ (fun rw σw hpw => ?_)
            obtain ⟨y2, rfl, ⟨ht2, rfl, hy2⟩ | ⟨ht2, rfl⟩⟩ := hpw
            · have hn2 := q_np_r fb fn (q_eat fb fn p + 2)
              have ht2q := ht2
              unfold q_tg at ht2
              have hi2 := q_va_in (fb := fb) (fn := fn) (i := q_np fb fn (q_eat fb fn p + 2)) (by omega)
              have hy2e : y2 = q_eat fb fn (q_eat fb fn p) := hy2
              refine v_aload_n C dXC_endFault_77 rfl rfl ?_
              refine v_getI (k := r) (q := 2) (v := σ.1 r 2) C dXC_endFault_78 (by show (r : Nat) < 383; omega) (hY0) rfl (by decide) rfl inXT lXC_60 rfl (by unfold x_nx; rw [p1_1, if_neg (by omega)]; exact hS1r 2) ?_
              refine v_icmp_eq (tgt := 86) C dXC_endFault_81 (by decide) (by omega) (by omega) (fun hc5 => ?_) (fun hc5 => ?_)
              · refine v_aload_n C dXC_endFault_86 rfl rfl ?_
                refine v_aload_n C dXC_endFault_87 rfl rfl ?_
                refine v_getI (k := 192) (q := 3) (v := y2) C dXC_endFault_88 (by show (192 : Nat) < 383; decide) rfl rfl (by decide) rfl inXC lXC_73 rfl rfl ?_
                refine v_putI (k := r) (q := 3) C dXC_endFault_91 (by show (r : Nat) < 383; omega) (hY0) rfl (by decide) rfl inXT tyXT_ok nmXT lXC_87 rfl rfl rfl rfl rfl ?_
                obtain ⟨S3, hS3⟩ : ∃ s, s = f_p1 (x_nx S1 y2) r 3 y2 := ⟨_, rfl⟩
                refine v_st hS3.symm ?_
                have hee2 : q_eat fb fn (q_eat fb fn p) = q_np fb fn (q_eat fb fn p + 2) + 1 := rfl
                have hS3f : ∀ a b, ¬ (a = 192 ∧ b = 3) → ¬ (a = r ∧ b = 3) → S3.1 a b = S1.1 a b := fun a b g g2 => by rw [hS3, p1_1, if_neg g2]; unfold x_nx; rw [p1_1, if_neg g]
                have hS33 : S3.1 192 3 = y2 := by rw [hS3, p1_1, if_neg (by omega)]; rfl
                have hS32 : S3.1 192 2 = σ.1 192 2 := by rw [hS3f 192 2 (by omega) (by omega)]; exact hS12
                have hS3n : S3.1 8 1 = fn := by rw [hS3f 8 1 (by omega) (by omega)]; exact hS1n
                have hS3e : S3.1 r 3 = y2 := by rw [hS3, p1_1, if_pos ⟨rfl, rfl⟩]
                have hS3a : S3.2 = σ.2 := by rw [hS3]; exact hS1a
                have hS34 : S3.1 192 4 = q_nr fb fn (p + 2) := by rw [hS3f 192 4 (by omega) (by omega)]; exact hS14
                refine v_aload_n C dXC_endFault_94 rfl rfl ?_
                refine v_getI (k := 192) (q := 2) (v := σ.1 192 2) C dXC_endFault_95 (by show (192 : Nat) < 383; decide) rfl rfl (by decide) rfl inXC lXC_22 rfl hS32 ?_
                refine v_if_ne (tgt := 122) C dXC_endFault_98 (by decide) (by omega) (fun hc6 => ?_) (fun hc6 => ?_)
                · refine v_iconst C dXC_endFault_122 ?_
                  exact v_iret C hRt hLk dXC_endFault_123 ⟨⟨hS3a, fun a b g g2 => by rw [hS3f a b (by omega) g2]; exact hS1f a b g, Or.inr (by rw [hS3e]; omega)⟩, Or.inr ⟨⟨ht1q, by omega, by omega⟩, Or.inr ⟨⟨ht2q, by omega⟩, hS34, by rw [hS3e]; exact hy2e, by first | exact Or.inl ⟨by omega, by omega, by omega⟩ | exact Or.inr ⟨by omega, rfl⟩⟩⟩⟩
                · refine v_aload_n C dXC_endFault_101 rfl rfl ?_
                  refine v_getI (k := 192) (q := 3) (v := y2) C dXC_endFault_102 (by show (192 : Nat) < 383; decide) rfl rfl (by decide) rfl inXC lXC_73 rfl hS33 ?_
                  refine v_aload_n C dXC_endFault_105 rfl rfl ?_
                  refine v_getR (k := 192) (q := 0) C dXC_endFault_106 (by show (192 : Nat) < 383; decide) rfl rfl (by decide) rfl inXC lXC_17 rfl ?_
                  refine v_getI (k := 8) (q := 1) (v := fn) C dXC_endFault_109 (by show (8 : Nat) < 383; decide) rfl rfl (by decide) rfl inXF lXC_30 rfl hS3n ?_
                  refine v_icmp_eq (tgt := 122) C dXC_endFault_112 (by decide) (by omega) (by omega) (fun hc7 => ?_) (fun hc7 => ?_)
                  · refine v_iconst C dXC_endFault_122 ?_
                    exact v_iret C hRt hLk dXC_endFault_123 ⟨⟨hS3a, fun a b g g2 => by rw [hS3f a b (by omega) g2]; exact hS1f a b g, Or.inr (by rw [hS3e]; omega)⟩, Or.inr ⟨⟨ht1q, by omega, by omega⟩, Or.inr ⟨⟨ht2q, by omega⟩, hS34, by rw [hS3e]; exact hy2e, by first | exact Or.inl ⟨by omega, by omega, by omega⟩ | exact Or.inr ⟨by omega, rfl⟩⟩⟩⟩
                  · refine v_aload_n C dXC_endFault_115 rfl rfl ?_
                    refine v_getI (k := 192) (q := 3) (v := y2) C dXC_endFault_116 (by show (192 : Nat) < 383; decide) rfl rfl (by decide) rfl inXC lXC_73 rfl hS33 ?_
                    refine v_goto (tgt := 123) C dXC_endFault_119 (by decide) ?_
                    exact v_iret C hRt hLk dXC_endFault_123 ⟨⟨hS3a, fun a b g g2 => by rw [hS3f a b (by omega) g2]; exact hS1f a b g, Or.inr (by rw [hS3e]; omega)⟩, Or.inr ⟨⟨ht1q, by omega, by omega⟩, Or.inr ⟨⟨ht2q, by omega⟩, hS34, by rw [hS3e]; exact hy2e, by first | exact Or.inl ⟨by omega, by omega, by omega⟩ | exact Or.inr ⟨by omega, rfl⟩⟩⟩⟩
              · refine v_iload_n C dXC_endFault_84 rfl rfl ?_
                exact v_iret C hRt hLk dXC_endFault_85 ⟨⟨hS1a, fun a b g g2 => by unfold x_nx; rw [p1_1, if_neg (by omega)]; exact hS1f a b g, Or.inl (by unfold x_nx; rw [p1_1, if_neg (by omega)]; exact hS1r 3)⟩, Or.inr ⟨⟨ht1q, by omega, by omega⟩, Or.inl ⟨fun h => by obtain ⟨g1, g2⟩ := h; first | exact ht2q g1 | omega, rfl⟩⟩⟩
            · have ht2q := ht2
              refine v_aload_n C dXC_endFault_77 rfl rfl ?_
              refine v_getI (k := r) (q := 2) (v := σ.1 r 2) C dXC_endFault_78 (by show (r : Nat) < 383; omega) (hY0) rfl (by decide) rfl inXT lXC_60 rfl (by unfold x_nx; rw [p1_1, if_neg (by omega)]; exact hS1r 2) ?_
              refine v_icmp_eq (tgt := 86) C dXC_endFault_81 (by decide) (by omega) (by omega) (fun hc8 => ?_) (fun hc8 => ?_)
              · exfalso; omega
              · refine v_iload_n C dXC_endFault_84 rfl rfl ?_
                exact v_iret C hRt hLk dXC_endFault_85 ⟨⟨hS1a, fun a b g g2 => by unfold x_nx; rw [p1_1, if_neg (by omega)]; exact hS1f a b g, Or.inl (by unfold x_nx; rw [p1_1, if_neg (by omega)]; exact hS1r 3)⟩, Or.inr ⟨⟨ht1q, by omega, by omega⟩, Or.inl ⟨fun h => by obtain ⟨g1, g2⟩ := h; first | exact ht2q g1 | omega, rfl⟩⟩⟩
          · exfalso; omega
    · refine v_aload_n C dXC_endFault_23 rfl rfl ?_
      refine v_getI (k := 192) (q := 2) (v := σ.1 192 2) C dXC_endFault_24 (by show (192 : Nat) < 383; decide) rfl rfl (by decide) rfl inXC lXC_22 rfl hS12 ?_
      refine v_iconst C dXC_endFault_27 ?_
      refine v_iadd C dXC_endFault_28 ?_
      refine v_bipush C dXC_endFault_29 (by decide +kernel) ?_
      refine v_icmp_lt (tgt := 38) C dXC_endFault_31 (by decide) (by omega) (by omega) (fun hc9 => ?_) (fun hc9 => ?_)
      · refine v_iconst C dXC_endFault_38 ?_
        refine v_istore_n C dXC_endFault_39 rfl (by decide) ?_
        refine v_aload_n C dXC_endFault_40 rfl rfl ?_
        refine v_getI (k := 192) (q := 4) (v := (q_nr fb fn (p + 2))) C dXC_endFault_41 (by show (192 : Nat) < 383; decide) rfl rfl (by decide) rfl inXC lXC_49 rfl hS14 ?_
        refine v_iconst C dXC_endFault_44 ?_
        refine v_icmp_eq (tgt := 63) C dXC_endFault_45 (by decide) (by omega) (by omega) (fun hc10 => ?_) (fun hc10 => ?_)
        · refine v_iload_n C dXC_endFault_63 rfl rfl ?_
          exact v_iret C hRt hLk dXC_endFault_64 ⟨⟨hS1a, fun a b g g2 => hS1f a b g, Or.inl (hS1r 3)⟩, Or.inl ⟨fun h => by obtain ⟨g1, g2, g3⟩ := h; first | exact ht1q g1 | omega, rfl⟩⟩
        · refine v_aload_n C dXC_endFault_48 rfl rfl ?_
          refine v_getI (k := 192) (q := 4) (v := (q_nr fb fn (p + 2))) C dXC_endFault_49 (by show (192 : Nat) < 383; decide) rfl rfl (by decide) rfl inXC lXC_49 rfl hS14 ?_
          refine v_aload_n C dXC_endFault_52 rfl rfl ?_
          refine v_getI (k := r) (q := 2) (v := σ.1 r 2) C dXC_endFault_53 (by show (r : Nat) < 383; omega) (hY0) rfl (by decide) rfl inXT lXC_60 rfl (hS1r 2) ?_
          refine v_icmp_ge (tgt := 63) C dXC_endFault_56 (by decide) (by omega) (by omega) (fun hc11 => ?_) (fun hc11 => ?_)
          · refine v_iload_n C dXC_endFault_63 rfl rfl ?_
            exact v_iret C hRt hLk dXC_endFault_64 ⟨⟨hS1a, fun a b g g2 => hS1f a b g, Or.inl (hS1r 3)⟩, Or.inl ⟨fun h => by obtain ⟨g1, g2, g3⟩ := h; first | exact ht1q g1 | omega, rfl⟩⟩
          · refine v_iload_n C dXC_endFault_59 rfl rfl ?_
            refine v_if_eq (tgt := 65) C dXC_endFault_60 (by decide) (by omega) (fun hc12 => ?_) (fun hc12 => ?_)
            · have hS13 : S1.1 192 3 = q_eat fb fn p := by rw [hS1y]; first | exact hy1 | (exfalso; omega)
              have hee : q_eat fb fn p = q_np fb fn (p + 2) + 1 := rfl
              refine v_aload_n C dXC_endFault_65 rfl rfl ?_
              refine v_getI (k := 192) (q := 3) (v := q_eat fb fn p) C dXC_endFault_66 (by show (192 : Nat) < 383; decide) rfl rfl (by decide) rfl inXC lXC_73 rfl hS13 ?_
              refine v_istore_n C dXC_endFault_69 rfl (by decide) ?_
              refine v_aload_n C dXC_endFault_70 rfl rfl ?_
              refine v_iload_n C dXC_endFault_71 rfl rfl ?_
              refine v_bipush C dXC_endFault_72 (by decide +kernel) ?_
              refine v_cVI (k := 192) (n := 2) C (xE_ok _) hEz hR (kX_XC_tagged _ D cA ad hJ S1 (q_eat fb fn p) (101) (by omega) (by omega) fb fn hS1b hS1n hn0 hb9) dXC_endFault_74 (by show (192 : Nat) < 383; decide) rfl rfl gXC_41 (by decide +kernel) (by decide) (by decide) rfl (Nat.le_of_ble_eq_true rfl) rfl ⟨rfl, rfl⟩ (fun rw σw hpw => ?_)
              obtain ⟨y2, rfl, ⟨ht2, rfl, hy2⟩ | ⟨ht2, rfl⟩⟩ := hpw
              · have hn2 := q_np_r fb fn (q_eat fb fn p + 2)
                have ht2q := ht2
                unfold q_tg at ht2
                have hi2 := q_va_in (fb := fb) (fn := fn) (i := q_np fb fn (q_eat fb fn p + 2)) (by omega)
                have hy2e : y2 = q_eat fb fn (q_eat fb fn p) := hy2
                refine v_aload_n C dXC_endFault_77 rfl rfl ?_
                refine v_getI (k := r) (q := 2) (v := σ.1 r 2) C dXC_endFault_78 (by show (r : Nat) < 383; omega) (hY0) rfl (by decide) rfl inXT lXC_60 rfl (by unfold x_nx; rw [p1_1, if_neg (by omega)]; exact hS1r 2) ?_
                refine v_icmp_eq (tgt := 86) C dXC_endFault_81 (by decide) (by omega) (by omega) (fun hc13 => ?_) (fun hc13 => ?_)
                · refine v_aload_n C dXC_endFault_86 rfl rfl ?_
                  refine v_aload_n C dXC_endFault_87 rfl rfl ?_
                  refine v_getI (k := 192) (q := 3) (v := y2) C dXC_endFault_88 (by show (192 : Nat) < 383; decide) rfl rfl (by decide) rfl inXC lXC_73 rfl rfl ?_
                  refine v_putI (k := r) (q := 3) C dXC_endFault_91 (by show (r : Nat) < 383; omega) (hY0) rfl (by decide) rfl inXT tyXT_ok nmXT lXC_87 rfl rfl rfl rfl rfl ?_
                  obtain ⟨S3, hS3⟩ : ∃ s, s = f_p1 (x_nx S1 y2) r 3 y2 := ⟨_, rfl⟩
                  refine v_st hS3.symm ?_
                  have hee2 : q_eat fb fn (q_eat fb fn p) = q_np fb fn (q_eat fb fn p + 2) + 1 := rfl
                  have hS3f : ∀ a b, ¬ (a = 192 ∧ b = 3) → ¬ (a = r ∧ b = 3) → S3.1 a b = S1.1 a b := fun a b g g2 => by rw [hS3, p1_1, if_neg g2]; unfold x_nx; rw [p1_1, if_neg g]
                  have hS33 : S3.1 192 3 = y2 := by rw [hS3, p1_1, if_neg (by omega)]; rfl
                  have hS32 : S3.1 192 2 = σ.1 192 2 := by rw [hS3f 192 2 (by omega) (by omega)]; exact hS12
                  have hS3n : S3.1 8 1 = fn := by rw [hS3f 8 1 (by omega) (by omega)]; exact hS1n
                  have hS3e : S3.1 r 3 = y2 := by rw [hS3, p1_1, if_pos ⟨rfl, rfl⟩]
                  have hS3a : S3.2 = σ.2 := by rw [hS3]; exact hS1a
                  have hS34 : S3.1 192 4 = q_nr fb fn (p + 2) := by rw [hS3f 192 4 (by omega) (by omega)]; exact hS14
                  refine v_aload_n C dXC_endFault_94 rfl rfl ?_
                  refine v_getI (k := 192) (q := 2) (v := σ.1 192 2) C dXC_endFault_95 (by show (192 : Nat) < 383; decide) rfl rfl (by decide) rfl inXC lXC_22 rfl hS32 ?_
                  refine v_if_ne (tgt := 122) C dXC_endFault_98 (by decide) (by omega) (fun hc14 => ?_) (fun hc14 => ?_)
                  · refine v_iconst C dXC_endFault_122 ?_
                    exact v_iret C hRt hLk dXC_endFault_123 ⟨⟨hS3a, fun a b g g2 => by rw [hS3f a b (by omega) g2]; exact hS1f a b g, Or.inr (by rw [hS3e]; omega)⟩, Or.inr ⟨⟨ht1q, by omega, by omega⟩, Or.inr ⟨⟨ht2q, by omega⟩, hS34, by rw [hS3e]; exact hy2e, by first | exact Or.inl ⟨by omega, by omega, by omega⟩ | exact Or.inr ⟨by omega, rfl⟩⟩⟩⟩
                  · refine v_aload_n C dXC_endFault_101 rfl rfl ?_
                    refine v_getI (k := 192) (q := 3) (v := y2) C dXC_endFault_102 (by show (192 : Nat) < 383; decide) rfl rfl (by decide) rfl inXC lXC_73 rfl hS33 ?_
                    refine v_aload_n C dXC_endFault_105 rfl rfl ?_
                    refine v_getR (k := 192) (q := 0) C dXC_endFault_106 (by show (192 : Nat) < 383; decide) rfl rfl (by decide) rfl inXC lXC_17 rfl ?_
                    refine v_getI (k := 8) (q := 1) (v := fn) C dXC_endFault_109 (by show (8 : Nat) < 383; decide) rfl rfl (by decide) rfl inXF lXC_30 rfl hS3n ?_
                    refine v_icmp_eq (tgt := 122) C dXC_endFault_112 (by decide) (by omega) (by omega) (fun hc15 => ?_) (fun hc15 => ?_)
                    · refine v_iconst C dXC_endFault_122 ?_
                      exact v_iret C hRt hLk dXC_endFault_123 ⟨⟨hS3a, fun a b g g2 => by rw [hS3f a b (by omega) g2]; exact hS1f a b g, Or.inr (by rw [hS3e]; omega)⟩, Or.inr ⟨⟨ht1q, by omega, by omega⟩, Or.inr ⟨⟨ht2q, by omega⟩, hS34, by rw [hS3e]; exact hy2e, by first | exact Or.inl ⟨by omega, by omega, by omega⟩ | exact Or.inr ⟨by omega, rfl⟩⟩⟩⟩
                    · refine v_aload_n C dXC_endFault_115 rfl rfl ?_
                      refine v_getI (k := 192) (q := 3) (v := y2) C dXC_endFault_116 (by show (192 : Nat) < 383; decide) rfl rfl (by decide) rfl inXC lXC_73 rfl hS33 ?_
                      refine v_goto (tgt := 123) C dXC_endFault_119 (by decide) ?_
                      exact v_iret C hRt hLk dXC_endFault_123 ⟨⟨hS3a, fun a b g g2 => by rw [hS3f a b (by omega) g2]; exact hS1f a b g, Or.inr (by rw [hS3e]; omega)⟩, Or.inr ⟨⟨ht1q, by omega, by omega⟩, Or.inr ⟨⟨ht2q, by omega⟩, hS34, by rw [hS3e]; exact hy2e, by first | exact Or.inl ⟨by omega, by omega, by omega⟩ | exact Or.inr ⟨by omega, rfl⟩⟩⟩⟩
                · refine v_iload_n C dXC_endFault_84 rfl rfl ?_
                  exact v_iret C hRt hLk dXC_endFault_85 ⟨⟨hS1a, fun a b g g2 => by unfold x_nx; rw [p1_1, if_neg (by omega)]; exact hS1f a b g, Or.inl (by unfold x_nx; rw [p1_1, if_neg (by omega)]; exact hS1r 3)⟩, Or.inr ⟨⟨ht1q, by omega, by omega⟩, Or.inl ⟨fun h => by obtain ⟨g1, g2⟩ := h; first | exact ht2q g1 | omega, rfl⟩⟩⟩
              · have ht2q := ht2
                refine v_aload_n C dXC_endFault_77 rfl rfl ?_
                refine v_getI (k := r) (q := 2) (v := σ.1 r 2) C dXC_endFault_78 (by show (r : Nat) < 383; omega) (hY0) rfl (by decide) rfl inXT lXC_60 rfl (by unfold x_nx; rw [p1_1, if_neg (by omega)]; exact hS1r 2) ?_
                refine v_icmp_eq (tgt := 86) C dXC_endFault_81 (by decide) (by omega) (by omega) (fun hc16 => ?_) (fun hc16 => ?_)
                · exfalso; omega
                · refine v_iload_n C dXC_endFault_84 rfl rfl ?_
                  exact v_iret C hRt hLk dXC_endFault_85 ⟨⟨hS1a, fun a b g g2 => by unfold x_nx; rw [p1_1, if_neg (by omega)]; exact hS1f a b g, Or.inl (by unfold x_nx; rw [p1_1, if_neg (by omega)]; exact hS1r 3)⟩, Or.inr ⟨⟨ht1q, by omega, by omega⟩, Or.inl ⟨fun h => by obtain ⟨g1, g2⟩ := h; first | exact ht2q g1 | omega, rfl⟩⟩⟩
            · exfalso; omega
      · refine v_iconst C dXC_endFault_34 ?_
        refine v_goto (tgt := 39) C dXC_endFault_35 (by decide) ?_
        refine v_istore_n C dXC_endFault_39 rfl (by decide) ?_
        refine v_aload_n C dXC_endFault_40 rfl rfl ?_
        refine v_getI (k := 192) (q := 4) (v := (q_nr fb fn (p + 2))) C dXC_endFault_41 (by show (192 : Nat) < 383; decide) rfl rfl (by decide) rfl inXC lXC_49 rfl hS14 ?_
        refine v_iconst C dXC_endFault_44 ?_
        refine v_icmp_eq (tgt := 63) C dXC_endFault_45 (by decide) (by omega) (by omega) (fun hc17 => ?_) (fun hc17 => ?_)
        · refine v_iload_n C dXC_endFault_63 rfl rfl ?_
          exact v_iret C hRt hLk dXC_endFault_64 ⟨⟨hS1a, fun a b g g2 => hS1f a b g, Or.inl (hS1r 3)⟩, Or.inl ⟨fun h => by obtain ⟨g1, g2, g3⟩ := h; first | exact ht1q g1 | omega, rfl⟩⟩
        · refine v_aload_n C dXC_endFault_48 rfl rfl ?_
          refine v_getI (k := 192) (q := 4) (v := (q_nr fb fn (p + 2))) C dXC_endFault_49 (by show (192 : Nat) < 383; decide) rfl rfl (by decide) rfl inXC lXC_49 rfl hS14 ?_
          refine v_aload_n C dXC_endFault_52 rfl rfl ?_
          refine v_getI (k := r) (q := 2) (v := σ.1 r 2) C dXC_endFault_53 (by show (r : Nat) < 383; omega) (hY0) rfl (by decide) rfl inXT lXC_60 rfl (hS1r 2) ?_
          refine v_icmp_ge (tgt := 63) C dXC_endFault_56 (by decide) (by omega) (by omega) (fun hc18 => ?_) (fun hc18 => ?_)
          · refine v_iload_n C dXC_endFault_63 rfl rfl ?_
            exact v_iret C hRt hLk dXC_endFault_64 ⟨⟨hS1a, fun a b g g2 => hS1f a b g, Or.inl (hS1r 3)⟩, Or.inl ⟨fun h => by obtain ⟨g1, g2, g3⟩ := h; first | exact ht1q g1 | omega, rfl⟩⟩
          · refine v_iload_n C dXC_endFault_59 rfl rfl ?_
            refine v_if_eq (tgt := 65) C dXC_endFault_60 (by decide) (by omega) (fun hc19 => ?_) (fun hc19 => ?_)
            · exfalso; omega
            · refine v_iload_n C dXC_endFault_63 rfl rfl ?_
              exact v_iret C hRt hLk dXC_endFault_64 ⟨⟨hS1a, fun a b g g2 => hS1f a b g, Or.inl (hS1r 3)⟩, Or.inl ⟨fun h => by obtain ⟨g1, g2, g3⟩ := h; first | exact ht1q g1 | omega, rfl⟩⟩
  · have ht1q := ht1
    refine v_putI (k := 192) (q := 4) C dXC_endFault_13 (by show (192 : Nat) < 383; decide) rfl rfl (by decide) rfl inXC tyXC_ok nmXC lXC_49 rfl rfl rfl rfl rfl ?_
    obtain ⟨S1, hS1⟩ : ∃ s, s = f_p1 (x_nx σ y1) 192 4 (-1) := ⟨_, rfl⟩
    refine v_st hS1.symm ?_
    have hS1b : S1.2 9 = fb := by rw [hS1]; exact hfb
    have hS1n : S1.1 8 1 = fn := by rw [hS1]; exact hfn
    have hS14 : S1.1 192 4 = (-1) := by rw [hS1]; rfl
    have hS12 : S1.1 192 2 = σ.1 192 2 := by rw [hS1]; rfl
    have hS1y : S1.1 192 3 = y1 := by rw [hS1]; rfl
    have hS1r : ∀ q, S1.1 r q = σ.1 r q := fun q => by rw [hS1, p1_1, if_neg (by omega)]; unfold x_nx; rw [p1_1, if_neg (by omega)]
    have hS1a : S1.2 = σ.2 := by rw [hS1]; rfl
    have hS1f : ∀ a b, ¬ (a = 192 ∧ (b = 3 ∨ b = 4)) → S1.1 a b = σ.1 a b := fun a b g => by rw [hS1, p1_1, if_neg (by omega)]; unfold x_nx; rw [p1_1, if_neg (by omega)]
    refine v_aload_n C dXC_endFault_16 rfl rfl ?_
    refine v_getI (k := 192) (q := 4) (v := (-1)) C dXC_endFault_17 (by show (192 : Nat) < 383; decide) rfl rfl (by decide) rfl inXC lXC_49 rfl hS14 ?_
    refine v_if_eq (tgt := 38) C dXC_endFault_20 (by decide) (by omega) (fun hc20 => ?_) (fun hc20 => ?_)
    · exfalso; omega
    · refine v_aload_n C dXC_endFault_23 rfl rfl ?_
      refine v_getI (k := 192) (q := 2) (v := σ.1 192 2) C dXC_endFault_24 (by show (192 : Nat) < 383; decide) rfl rfl (by decide) rfl inXC lXC_22 rfl hS12 ?_
      refine v_iconst C dXC_endFault_27 ?_
      refine v_iadd C dXC_endFault_28 ?_
      refine v_bipush C dXC_endFault_29 (by decide +kernel) ?_
      refine v_icmp_lt (tgt := 38) C dXC_endFault_31 (by decide) (by omega) (by omega) (fun hc21 => ?_) (fun hc21 => ?_)
      · refine v_iconst C dXC_endFault_38 ?_
        refine v_istore_n C dXC_endFault_39 rfl (by decide) ?_
        refine v_aload_n C dXC_endFault_40 rfl rfl ?_
        refine v_getI (k := 192) (q := 4) (v := (-1)) C dXC_endFault_41 (by show (192 : Nat) < 383; decide) rfl rfl (by decide) rfl inXC lXC_49 rfl hS14 ?_
        refine v_iconst C dXC_endFault_44 ?_
        refine v_icmp_eq (tgt := 63) C dXC_endFault_45 (by decide) (by omega) (by omega) (fun hc22 => ?_) (fun hc22 => ?_)
        · refine v_iload_n C dXC_endFault_63 rfl rfl ?_
          exact v_iret C hRt hLk dXC_endFault_64 ⟨⟨hS1a, fun a b g g2 => hS1f a b g, Or.inl (hS1r 3)⟩, Or.inl ⟨fun h => by obtain ⟨g1, g2, g3⟩ := h; first | exact ht1q g1 | omega, rfl⟩⟩
        · exfalso; omega
      · refine v_iconst C dXC_endFault_34 ?_
        refine v_goto (tgt := 39) C dXC_endFault_35 (by decide) ?_
        refine v_istore_n C dXC_endFault_39 rfl (by decide) ?_
        refine v_aload_n C dXC_endFault_40 rfl rfl ?_
        refine v_getI (k := 192) (q := 4) (v := (-1)) C dXC_endFault_41 (by show (192 : Nat) < 383; decide) rfl rfl (by decide) rfl inXC lXC_49 rfl hS14 ?_
        refine v_iconst C dXC_endFault_44 ?_
        refine v_icmp_eq (tgt := 63) C dXC_endFault_45 (by decide) (by omega) (by omega) (fun hc23 => ?_) (fun hc23 => ?_)
        · refine v_iload_n C dXC_endFault_63 rfl rfl ?_
          exact v_iret C hRt hLk dXC_endFault_64 ⟨⟨hS1a, fun a b g g2 => hS1f a b g, Or.inl (hS1r 3)⟩, Or.inl ⟨fun h => by obtain ⟨g1, g2, g3⟩ := h; first | exact ht1q g1 | omega, rfl⟩⟩
        · exfalso; omega
end
