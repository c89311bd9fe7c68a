/-! write and append -/
theorem x_I_fr {σ σ1 : fS} (h : x_I σ) (h1 : ∀ a b, σ1.1 a b = σ.1 a b ∨ x_okF a b (σ1.1 a b)) (h2 : ∀ a b, σ1.2 a b = σ.2 a b ∨ x_okA a (σ1.2 a b)) : x_I σ1 :=
  ⟨fun a b => (h1 a b).elim (fun e => e ▸ h.1 a b) id, fun a b => (h2 a b).elim (fun e => e ▸ h.2 a b) id⟩
theorem x_I_puts {σ : fS} {L : List Int} (h : x_I σ) (hL : x_byR L) : x_I (x_puts σ L) := by
  refine x_I_fr h (fun a b => ?_) (fun a b => ?_)
  · by_cases g : a = 374
    · subst g; right; exact x_okF_n _ _ _ (by omega)
    · left; rw [x_puts_1, if_neg (by omega)]
  · by_cases g : a = 375
    · subst g; right; exact x_puts_375 L σ hL (fun i => h.2 375 i) b
    · left; exact x_puts_2 _ _ _ _ g
theorem x_I_beg {σ : fS} (h : x_I σ) (p : Int) : x_I (x_beg σ p) := x_I_reset (x_I_p1 (x_I_p1 (x_I_p1 h (x_okF_n _ _ _ (by omega))) (x_okF_n _ _ _ (by omega))) (x_okF_n _ _ _ (by omega))) (show (-2 : Int) ≤ -2 ∧ (-2 : Int) ≤ 99999 by omega) (show (0 : Int) ≤ 0 ∧ (0 : Int) ≤ 120 by omega)
theorem x_I_chI {σ C : fS} {k : Nat} (h : x_I σ) (hC : x_chI σ k C) : x_I C := by
  refine x_I_fr h (fun a b => ?_) (fun a b => ?_)
  · by_cases g : a = 374
    · subst g; right; exact x_okF_n _ _ _ (by omega)
    · left; exact hC.2.1 a b (by omega)
  · by_cases g : a = 376
    · subst g; right; trivial
    · left; exact hC.2.2.1 a b g
theorem x_I_ccI {σ C : fS} {k : Nat} (h : x_I σ) (hC : x_ccI σ k C) : x_I C := by
  refine x_I_fr h (fun a b => ?_) (fun a b => ?_)
  · by_cases g : a = 374
    · subst g; right; exact x_okF_n _ _ _ (by omega)
    · left; exact hC.2.1 a b (by omega)
  · by_cases g : a = 376
    · subst g; right; trivial
    · by_cases g8 : a = 378
      · subst g8
        rcases hC.2.2.2.2 b with e | e
        · left; exact e
        · right; rw [e]; show (-2 : Int) ≤ -1 ∧ (-1 : Int) ≤ 99999; omega
      · left; exact hC.2.2.1 a b g g8
/-- what a draft must be before it is finished -/
def x_rdy (C : fS) : Prop := x_I C ∧ (0 ≤ C.1 374 4 ∧ C.1 374 4 ≤ 40) ∧ (∀ j : Nat, (j : Int) < C.1 374 4 → 1 ≤ C.2 376 j ∧ C.2 376 j ≤ 40) ∧ (0 ≤ C.1 374 5 ∧ C.1 374 5 ≤ 12000) ∧ (0 ≤ C.1 374 6 ∧ C.1 374 6 ≤ 100)
theorem x_I_recs {C : fS} (h : x_rdy C) (k : Nat) (hk : (k : Int) ≤ C.1 374 4) : x_I (x_recs C k) := by
  obtain ⟨hI, hc, ho, hb, hu⟩ := h
  obtain ⟨i1, i2, i3, i4⟩ := x_recs_I (fun i => hI.2 4 i) ho k hk
  obtain ⟨j1, j2, j3⟩ := x_recs_J (fun i => hI.2 4 i) (fun i => hI.2 5 i) ho hc.2 hb hu (fun i => hI.2 375 i) (fun i => hI.2 378 i) (fun i => hI.2 379 i) k hk
  refine x_I_fr hI (fun a b => ?_) (fun a b => ?_)
  · by_cases g : a = 374
    · subst g; right; exact x_okF_n _ _ _ (by omega)
    · left; exact i2 a b (by omega)
  · by_cases g1 : a = 375
    · subst g1; right; exact j1 b
    · by_cases g2 : a = 378
      · subst g2; right; exact j2 b
      · by_cases g3 : a = 379
        · subst g3; right; exact j3 b
        · left; exact i1 a b g1 g2 g3
theorem x_I_fin {C : fS} (h : x_rdy C) (q : Int) : x_I (x_fin C q) := by
  refine x_I_p1 (x_I_puts (x_I_p1 (x_I_recs h _ (by have := h.2.1; omega)) (x_okF_n _ _ _ (by omega))) (x_ftl_byR _ _)) (x_okF_n _ _ _ (by omega))
theorem x_fin_o {C : fS} (h : x_rdy C) (q : Int) (a b : Nat) (g : ¬ (a = 374 ∧ b = 6) ∧ ¬ (a = 377 ∧ (b = 2 ∨ b = 3))) : (x_fin C q).1 a b = C.1 a b := by
  obtain ⟨hI, hc, ho, hb, hu⟩ := h
  obtain ⟨i1, i2, i3, i4⟩ := x_recs_I (fun i => hI.2 4 i) ho (C.1 374 4).toNat (by omega)
  unfold x_fin x_finx
  rw [p1_1, if_neg (by omega), x_puts_1, if_neg g.1, p1_1, if_neg (by omega)]
  exact i2 a b g.1
theorem x_fin_n {C : fS} (h : x_rdy C) (q : Int) : (x_fin C q).1 377 3 = (x_fin C q).1 374 5 + (x_fin C q).1 374 6 ∧ (C.1 374 6 ≤ (x_fin C q).1 374 6 ∧ (x_fin C q).1 374 6 ≤ C.1 374 6 + 5584) ∧ 0 ≤ (x_fin C q).1 377 2 ∧ (x_fin C q).1 377 2 ≤ (x_fin C q).1 377 3 := by
  have h5 := x_fin_o h q 374 5 (by omega)
  obtain ⟨hI, hc, ho, hb, hu⟩ := h
  obtain ⟨i1, i2, i3, i4⟩ := x_recs_I (fun i => hI.2 4 i) ho (C.1 374 4).toNat (by omega)
  have hl := x_ftl_len (x_recs C (C.1 374 4).toNat) q
  have e5 : (x_recs C (C.1 374 4).toNat).1 374 5 = C.1 374 5 := i2 374 5 (by omega)
  have e3 : (x_fin C q).1 377 3 = (x_recs C (C.1 374 4).toNat).1 374 5 + (x_recs C (C.1 374 4).toNat).1 374 6 + (x_ftl (x_recs C (C.1 374 4).toNat) q).length := by
    unfold x_fin x_finx
    rw [p1_1, if_pos ⟨rfl, rfl⟩]
  have e6 : (x_fin C q).1 374 6 = (x_recs C (C.1 374 4).toNat).1 374 6 + (x_ftl (x_recs C (C.1 374 4).toNat) q).length := by
    unfold x_fin x_finx
    rw [p1_1, if_neg (by omega), x_puts_u, p1_1, if_neg (by omega)]
  have e2 : (x_fin C q).1 377 2 = (x_recs C (C.1 374 4).toNat).1 374 5 + (x_recs C (C.1 374 4).toNat).1 374 6 := by
    unfold x_fin x_finx
    rw [p1_1, if_neg (by omega), x_puts_1, if_neg (by omega), p1_1, if_pos ⟨rfl, rfl⟩]
  refine ⟨by omega, by omega, by omega, by omega⟩
theorem x_I_kept {σ : fS} {c : Nat} (h : x_I σ) (hc : c < 60) (hb : 0 ≤ σ.1 374 5 + σ.1 374 6 ∧ σ.1 374 5 + σ.1 374 6 ≤ 12000) (hx : 0 ≤ σ.1 377 2 ∧ σ.1 377 2 ≤ 12000) (he : 0 ≤ σ.1 377 3 ∧ σ.1 377 3 ≤ 12000) : x_I (x_kept σ c) := by
  refine x_I_sav (x_I_ad (x_I_p1 (x_I_behind h hb) (show (0 : Int) ≤ 0 ∧ (0 : Int) ≤ 1 by omega)) hc (by omega) (fun b _ _ => ?_) (fun b _ _ _ => ?_) hx he)
  · show -2 ≤ (x_behind σ (σ.1 374 5) (σ.1 374 6)).2 378 b ∧ (x_behind σ (σ.1 374 5) (σ.1 374 6)).2 378 b ≤ 99999
    rw [x_behind_2 _ _ _ _ _ (by decide)]; exact h.2 378 b
  · show 0 ≤ (x_behind σ (σ.1 374 5) (σ.1 374 6)).2 379 b ∧ (x_behind σ (σ.1 374 5) (σ.1 374 6)).2 379 b ≤ 120
    rw [x_behind_2 _ _ _ _ _ (by decide)]; exact h.2 379 b
theorem x_kept_1 (σ : fS) (c a b : Nat) (g : ¬ (a = 8 ∧ (b = 1 ∨ b = 2)) ∧ ¬ (a = 10 ∧ b = 1) ∧ ¬ (a = 12 + 3 * c ∧ (b = 2 ∨ b = 3))) : (x_kept σ c).1 a b = σ.1 a b := by
  show (x_ad _ 377 c).1 a b = _
  rw [x_ad_1, if_neg (by omega), if_neg (by omega), if_neg (by omega), p1_1, if_neg (by omega)]
  unfold x_behind
  rw [p1_1, if_neg (by omega)]
  rfl
theorem x_kept_81 (σ : fS) (c : Nat) : (x_kept σ c).1 8 1 = σ.1 374 5 + σ.1 374 6 := by
  show (x_ad _ 377 c).1 8 1 = _
  rw [x_ad_1, if_neg (by omega), if_neg (by omega), if_neg (by omega), p1_1, if_neg (by omega)]
  unfold x_behind
  rw [p1_1, if_pos ⟨rfl, rfl⟩]
theorem x_rdy_w {σ C : fS} {how : Int} (h : x_I σ) (hC : x_chR (x_puts (x_beg σ 0) [37, 70, 49, 10]) how 40 C) : x_rdy C := by
  have hF : x_I (x_puts (x_beg σ 0) [37, 70, 49, 10]) := x_I_puts (x_I_beg h 0) (fun x hx => by simp only [List.mem_cons, List.not_mem_nil, or_false] at hx; omega)
  obtain ⟨b5, b6, b4⟩ := x_beg_1 σ 0
  have f4 : (x_puts (x_beg σ 0) [37, 70, 49, 10]).1 374 4 = 0 := by rw [x_puts_1, if_neg (by omega)]; exact b4
  have f5 : (x_puts (x_beg σ 0) [37, 70, 49, 10]).1 374 5 = 0 := by rw [x_puts_1, if_neg (by omega)]; exact b5
  have f6 : (x_puts (x_beg σ 0) [37, 70, 49, 10]).1 374 6 = 4 := by rw [x_puts_u, b6]; rfl
  have hI := x_chR_I f4 40 C (by omega) hC
  have e5 := hI.2.1 374 5 (by omega)
  have e6 := hI.2.1 374 6 (by omega)
  exact ⟨x_I_chI hF hI, hI.1, hI.2.2.2, by omega, by omega⟩
theorem x_rdy_a {σ C : fS} (h : x_I σ) (hC : x_ccR (x_beg σ (σ.1 8 1)) 40 C) : x_rdy C := by
  obtain ⟨b5, b6, b4⟩ := x_beg_1 σ (σ.1 8 1)
  have hI := x_ccR_I b4 40 C (by omega) hC
  have e5 := hI.2.1 374 5 (by omega)
  have e6 := hI.2.1 374 6 (by omega)
  have h8 : 0 ≤ σ.1 8 1 ∧ σ.1 8 1 ≤ 12000 := h.1 8 1
  exact ⟨x_I_ccI (x_I_beg h _) hI, hI.1, hI.2.2.2.1, by omega, by omega⟩
/-- chooseChanged as a function -/
def x_ccF (σ : fS) : Nat → fS
  | 0 => σ
  | k + 1 => if x_ch σ (k + 1) = 1 then (if σ.2 2 (k + 1) = 1 then x_insd (x_ccF σ k) ((x_ccF σ k).1 374 4).toNat ((k : Int) + 1) else f_p2 (x_ccF σ k) 378 (k + 1) (-1)) else x_ccF σ k
theorem x_ins0 {σ σ1 : fS} {n : Int} (hc : 0 ≤ σ.1 374 4) (h : x_insP σ n 0 σ1) : σ1 = x_insd σ (σ.1 374 4).toNat n := by
  obtain ⟨t, ht, rfl, h1, -⟩ := h
  by_cases g : (t : Int) < σ.1 374 4
  · have := h1 t (Nat.le_refl _) g
    unfold x_gb at this
    rw [if_neg (by decide), if_neg (by omega)] at this
    omega
  · rw [show (σ.1 374 4).toNat = t by omega]
theorem x_ccR_F {σ : fS} (h0 : σ.1 374 4 = 0) : ∀ (k : Nat) (C : fS), k ≤ 40 → x_ccR σ k C → C = x_ccF σ k := by
  intro k
  induction k with
  | zero => intro C _ h; exact h
  | succ k ih =>
    intro C hk h
    obtain ⟨y, hy, h⟩ := h
    have e := ih y (by omega) hy
    have hi := (x_ccR_I h0 k y (by omega) hy).1
    show C = if x_ch σ (k + 1) = 1 then (if σ.2 2 (k + 1) = 1 then x_insd (x_ccF σ k) ((x_ccF σ k).1 374 4).toNat ((k : Int) + 1) else f_p2 (x_ccF σ k) 378 (k + 1) (-1)) else x_ccF σ k
    rw [← e]
    rcases h with ⟨h1, h2⟩ | ⟨h1, h2, h3⟩ | ⟨h1, h2, h3⟩
    · rw [if_neg (by omega)]; exact h2
    · rw [if_pos h1, if_pos h2]; exact x_ins0 hi.1 h3
    · rw [if_pos h1, if_neg (by omega)]; exact h3
/-- the draft of an append, finished; the state behind a write -/
def x_lx (σ : fS) (c : Nat) : Int := if c = 0 then 0 else σ.1 (12 + 3 * (c - 1)) 2
def x_apd (σ : fS) (c : Nat) : fS := x_fin (x_ccF (x_beg σ (σ.1 8 1)) 40) (x_lx σ c)
def x_wrt (σ : fS) (how : Int) (σ1 : fS) : Prop := ∃ C, x_chR (x_puts (x_beg σ 0) [37, 70, 49, 10]) how 40 C ∧ σ1 = x_kept (f_p1 (x_fin C 0) 10 1 0) 0
theorem x_I_wrt {σ σ1 : fS} {how : Int} (h : x_I σ) (hw : x_wrt σ how σ1) : x_I σ1 := by
  obtain ⟨C, hC, rfl⟩ := hw
  have hr := x_rdy_w h hC
  obtain ⟨n1, n2, n3, n4⟩ := x_fin_n hr 0
  have n5 := x_fin_o hr 0 374 5 (by omega)
  obtain ⟨-, -, -, r4, r5⟩ := hr
  have hb5 : C.1 374 5 = 0 := by
    have f4 : (x_puts (x_beg σ 0) [37, 70, 49, 10]).1 374 4 = 0 := by rw [x_puts_1, if_neg (by omega)]; exact (x_beg_1 σ 0).2.2
    rw [(x_chR_I f4 40 C (by omega) hC).2.1 374 5 (by omega), x_puts_1, if_neg (by omega)]
    exact (x_beg_1 σ 0).1
  have eK : ∀ a b, a ≠ 10 → (f_p1 (x_fin C 0) 10 1 0).1 a b = (x_fin C 0).1 a b := fun a b g => by rw [p1_1, if_neg (by omega)]
  refine x_I_kept (x_I_p1 (x_I_fin (x_rdy_w h hC) 0) (show (0 : Int) ≤ 0 ∧ (0 : Int) ≤ 60 by omega)) (by omega) ?_ ?_ ?_
  · rw [eK 374 5 (by decide), eK 374 6 (by decide)]
    omega
  · rw [eK 377 2 (by decide)]
    omega
  · rw [eK 377 3 (by decide)]
    omega
theorem x_I_apd {σ : fS} {c : Nat} (h : x_I σ) (hC : x_ccR (x_beg σ (σ.1 8 1)) 40 (x_ccF (x_beg σ (σ.1 8 1)) 40)) (hc : c < 60) : x_I (x_apd σ c) ∧ ((x_apd σ c).1 377 3 ≤ 12000 → x_I (x_kept (x_apd σ c) c)) := by
  have hr := x_rdy_a h hC
  refine ⟨x_I_fin hr _, fun he => ?_⟩
  have n := x_fin_n hr (x_lx σ c)
  have n5 := x_fin_o hr (x_lx σ c) 374 5 (by omega)
  obtain ⟨-, -, -, r4, r5⟩ := hr
  have e : x_apd σ c = x_fin (x_ccF (x_beg σ (σ.1 8 1)) 40) (x_lx σ c) := rfl
  rw [← e] at n n5
  exact x_I_kept (by rw [e]; exact x_I_fin (x_rdy_a h hC) _) hc (by omega) (by omega) (by omega)
set_option maxRecDepth 100000 in
set_option maxHeartbeats 4000000 in
/-- write -/
theorem kX_XA_write (l : Launch) (D : va_G) (cA : Nat → ClassId) (ad : Nat → Nat) (hJ : f_J (xG D cA ad)) (σ : fS) (how : Int) (hw : 0 ≤ how ∧ how ≤ 2) (hI : x_I σ) : f_M l (xG D cA ad) (xE (xG D cA ad)) yXA_write (Cond.code yXA_write cXA_write 2 (some .int) :: A9) 4 σ [.ref (ad 0), .int (fI how)] (f_QI (fun r σ1 => x_wrt σ how σ1 ∧ r = σ1.1 8 1) (xG D cA ad)) := by
  refine f_enter (by decide +kernel) hJ rfl (Nat.le_of_ble_eq_true rfl) ?_
  intro z hzl hR C hRt hLk hEz
  subst hzl
  have hRR : 4 ≤ z.2.2.2.1.frames ∧ 40 * 4 ≤ z.2.2.2.1.locals ∧ 0 ≤ z.2.2.2.1.cells ∧ 0 ≤ z.2.2.2.1.slots := by rw [hR]; exact ⟨Nat.le_refl _, Nat.le_refl _, Nat.zero_le _, Nat.zero_le _⟩
  obtain ⟨B, hB⟩ : ∃ s, s = x_beg σ 0 := ⟨_, rfl⟩
  obtain ⟨F, hF⟩ : ∃ s, s = x_puts B [37, 70, 49, 10] := ⟨_, rfl⟩
  have hB1 := x_beg_1 σ 0
  rw [← hB] at hB1
  obtain ⟨hB5, hB6, hB4⟩ := hB1
  have hFI : x_I F := by rw [hF, hB]; exact x_I_puts (x_I_beg hI 0) (fun x hx => by simp only [List.mem_cons, List.not_mem_nil, or_false] at hx; omega)
  have hF4 : F.1 374 4 = 0 := by rw [hF, x_puts_1, if_neg (by decide)]; exact hB4
  refine v_iload_n C dXA_write_0 rfl rfl ?_
  refine v_if_lt (tgt := 9) C dXA_write_1 (by decide) (by omega) (fun hc1 => ?_) (fun hc1 => ?_)
  · exfalso; omega
  · refine v_iload_n C dXA_write_4 rfl rfl ?_
    refine v_iconst C dXA_write_5 ?_
    refine v_icmp_le (tgt := 19) C dXA_write_6 (by decide) (by omega) (by omega) (fun hc2 => ?_) (fun hc2 => ?_)
    · refine v_aload_n C dXA_write_19 rfl rfl ?_
      refine v_getR (k := 0) (q := 4) C dXA_write_20 (by show (0 : Nat) < 383; decide) rfl rfl (by decide) rfl inXA lXA_44 rfl ?_
      refine v_iconst C dXA_write_23 ?_
      refine v_cVV (k := 374) (n := 1) C (xE_ok _) hEz hR (kX_XD_begin _ D cA ad hJ σ 0 (by omega)) dXA_write_24 (by show (374 : Nat) < 383; decide) rfl rfl gXA_97 (by decide +kernel) (by decide) (by decide) rfl (Nat.le_of_ble_eq_true rfl) rfl ⟨rfl, rfl⟩ (fun σ1 hp1 => ?_)
      subst σ1
      refine v_st hB.symm ?_
      refine v_aload_n C dXA_write_27 rfl rfl ?_
      refine v_getR (k := 0) (q := 4) C dXA_write_28 (by show (0 : Nat) < 383; decide) rfl rfl (by decide) rfl inXA lXA_44 rfl ?_
      refine v_cVV (k := 374) (n := 0) C (xE_ok _) hEz hR (kX_XD_putFirstLine _ D cA ad hJ B (by omega)) dXA_write_31 (by show (374 : Nat) < 383; decide) rfl rfl gXA_101 (by decide +kernel) (by decide) (by decide) rfl (Nat.le_of_ble_eq_true rfl) rfl ⟨rfl, rfl⟩ (fun σ1 hp1 => ?_)
      subst σ1
      refine v_st hF.symm ?_
      refine v_aload_n C dXA_write_34 rfl rfl ?_
      refine v_getR (k := 0) (q := 4) C dXA_write_35 (by show (0 : Nat) < 383; decide) rfl rfl (by decide) rfl inXA lXA_44 rfl ?_
      refine v_iload_n C dXA_write_38 rfl rfl ?_
      refine v_cVV (k := 374) (n := 1) C (xE_ok _) hEz hR (kX_XD_chooseThere _ D cA ad hJ F how (by omega) hF4 (fun i => hFI.2 2 i) (fun i => hFI.2 3 i) (fun i => hFI.2 4 i)) dXA_write_39 (by show (374 : Nat) < 383; decide) rfl rfl gXA_104 (by decide +kernel) (by decide) (by decide) rfl (Nat.le_of_ble_eq_true rfl) rfl ⟨rfl, rfl⟩ (fun σ1 hp1 => ?_)
      obtain ⟨Cs, hCe⟩ : ∃ s, s = σ1 := ⟨_, rfl⟩
      refine v_st hCe.symm ?_
      rw [← hCe] at hp1
      have hC := hp1
      have hrd : x_rdy Cs := x_rdy_w hI (by rw [← hB, ← hF]; exact hC)
      refine v_aload_n C dXA_write_42 rfl rfl ?_
      refine v_getR (k := 0) (q := 4) C dXA_write_43 (by show (0 : Nat) < 383; decide) rfl rfl (by decide) rfl inXA lXA_44 rfl ?_
      refine v_iconst C dXA_write_46 ?_
      refine v_cVV (k := 374) (n := 1) C (xE_ok _) hEz hR (kX_XD_finish _ D cA ad hJ Cs 0 (by omega) hrd.2.1 hrd.2.2.1 hrd.2.2.2.1 hrd.2.2.2.2 (fun i => hrd.1.2 4 i) (fun i => hrd.1.2 5 i) (fun i => hrd.1.2 375 i) (fun i => hrd.1.2 378 i) (fun i => hrd.1.2 379 i)) dXA_write_47 (by show (374 : Nat) < 383; decide) rfl rfl gXA_107 (by decide +kernel) (by decide) (by decide) rfl (Nat.le_of_ble_eq_true rfl) rfl ⟨rfl, rfl⟩ (fun σ1 hp1 => ?_)
      subst σ1
      obtain ⟨E, hE⟩ : ∃ s, s = x_fin Cs 0 := ⟨_, rfl⟩
      refine v_st hE.symm ?_
      have n0 := x_fin_n hrd 0
      have n5 := x_fin_o hrd 0 374 5 (by omega)
      rw [← hE] at n0 n5
      have hCb : Cs.1 374 5 = 0 := by rw [(x_chR_I hF4 40 Cs (by omega) hC).2.1 374 5 (by omega), hF, x_puts_1, if_neg (by omega)]; exact hB5
      have hCu := hrd.2.2.2.2
      have hCu6 : Cs.1 374 6 = 4 := by rw [(x_chR_I hF4 40 Cs (by omega) hC).2.1 374 6 (by omega), hF, x_puts_u, hB6]; rfl
      refine v_aload_n C dXA_write_50 rfl rfl ?_
      refine v_getR (k := 0) (q := 4) C dXA_write_51 (by show (0 : Nat) < 383; decide) rfl rfl (by decide) rfl inXA lXA_44 rfl ?_
      refine v_getR (k := 374) (q := 3) C dXA_write_54 (by show (374 : Nat) < 383; decide) rfl rfl (by decide) rfl inXD lXA_110 rfl ?_
      refine v_getI (k := 377) (q := 3) (v := E.1 377 3) C dXA_write_57 (by show (377 : Nat) < 383; decide) rfl rfl (by decide) rfl inXT lXA_114 rfl rfl ?_
      refine v_sipush C dXA_write_60 (by decide +kernel) ?_
      refine v_icmp_le (tgt := 76) C dXA_write_63 (by decide) (by omega) (by omega) (fun hc3 => ?_) (fun hc3 => ?_)
      · refine v_aload_n C dXA_write_76 rfl rfl ?_
        refine v_getR (k := 0) (q := 2) C dXA_write_77 (by show (0 : Nat) < 383; decide) rfl rfl (by decide) rfl inXA lXA_26 rfl ?_
        refine v_iconst C dXA_write_80 ?_
        refine v_putI (k := 10) (q := 1) C dXA_write_81 (by show (10 : Nat) < 383; decide) rfl rfl (by decide) rfl inXH tyXH_ok nmXH lXA_125 rfl rfl rfl rfl rfl ?_
        obtain ⟨K, hK⟩ : ∃ s, s = f_p1 E 10 1 0 := ⟨_, rfl⟩
        refine v_st hK.symm ?_
        have hKI : x_I K := by rw [hK, hE]; exact x_I_p1 (x_I_fin hrd 0) (show (0 : Int) ≤ 0 ∧ (0 : Int) ≤ 60 by omega)
        have hK5 : K.1 374 5 = E.1 374 5 := by rw [hK]; rfl
        have hK6 : K.1 374 6 = E.1 374 6 := by rw [hK]; rfl
        have hK0 : K.1 10 1 = ((0 : Nat) : Int) := by rw [hK, p1_1, if_pos ⟨rfl, rfl⟩]; rfl
        refine v_aload_n C dXA_write_84 rfl rfl ?_
        refine v_cVV (k := 0) (n := 0) C (xE_ok _) hEz hR (kX_XA_keepDraft _ D cA ad hJ K 0 hK0 (by omega) hKI (by omega) (by omega) (by omega)) dXA_write_85 (by show (0 : Nat) < 383; decide) rfl rfl gXA_128 (by decide +kernel) (by decide) (by decide) rfl (Nat.le_of_ble_eq_true rfl) rfl ⟨rfl, rfl⟩ (fun σ1 hp1 => ?_)
        obtain ⟨T, hT⟩ : ∃ s, s = x_kept K 0 := ⟨_, rfl⟩
        subst σ1
        refine v_st hT.symm ?_
        have hEK : T = x_kept (f_p1 (x_fin Cs 0) 10 1 0) 0 := by rw [hT, hK, hE]
        refine v_aload_n C dXA_write_88 rfl rfl ?_
        refine v_getR (k := 0) (q := 1) C dXA_write_89 (by show (0 : Nat) < 383; decide) rfl rfl (by decide) rfl inXA lXA_19 rfl ?_
        refine v_getI (k := 8) (q := 1) (v := T.1 8 1) C dXA_write_92 (by show (8 : Nat) < 383; decide) rfl rfl (by decide) rfl inXF lXA_131 rfl rfl ?_
        exact v_iret C hRt hLk dXA_write_95 ⟨⟨Cs, by rw [← hB, ← hF]; exact hC, hEK⟩, rfl⟩
      · exfalso; omega
    · exfalso; omega
set_option maxRecDepth 100000 in
set_option maxHeartbeats 4000000 in
/-- append -/
theorem kX_XA_appendZ (l : Launch) (D : va_G) (cA : Nat → ClassId) (ad : Nat → Nat) (hJ : f_J (xG D cA ad)) (σ : fS) (c : Nat) (hc : σ.1 10 1 = (c : Int)) (hI : x_I σ) (hf : σ.1 8 1 ≠ 0) (ha : σ.1 8 2 = 0) (hz : m_cnt (x_ch σ) 40 = 0) : f_M l (xG D cA ad) (xE (xG D cA ad)) yXA_append (Cond.code yXA_append cXA_append 1 (some .int) :: A9) 4 σ [.ref (ad 0)] (f_QI (fun r σ1 => r = 0 ∧ σ1 = σ) (xG D cA ad)) := by
  refine f_enter (by decide +kernel) hJ rfl (Nat.le_of_ble_eq_true rfl) ?_
  intro z hzl hR C hRt hLk hEz
  subst hzl
  have hRR : 4 ≤ z.2.2.2.1.frames ∧ 40 * 4 ≤ z.2.2.2.1.locals ∧ 0 ≤ z.2.2.2.1.cells ∧ 0 ≤ z.2.2.2.1.slots := by rw [hR]; exact ⟨Nat.le_refl _, Nat.le_refl _, Nat.zero_le _, Nat.zero_le _⟩
  obtain ⟨B, hB⟩ : ∃ s, s = x_beg σ (σ.1 8 1) := ⟨_, rfl⟩
  have hB1 := x_beg_1 σ (σ.1 8 1)
  rw [← hB] at hB1
  obtain ⟨hB5, hB6, hB4⟩ := hB1
  have hBI : x_I B := by rw [hB]; exact x_I_beg hI _
  have h8 : 0 ≤ σ.1 8 1 ∧ σ.1 8 1 ≤ 12000 := hI.1 8 1
  have h82 : 0 ≤ σ.1 8 2 ∧ σ.1 8 2 ≤ 1 := hI.1 8 2
  have h10 : 0 ≤ σ.1 10 1 ∧ σ.1 10 1 ≤ 60 := hI.1 10 1
  have hcl := m_cnt_le (x_ch σ) 40
  refine v_aload_n C dXA_append_0 rfl rfl ?_
  refine v_getR (k := 0) (q := 1) C dXA_append_1 (by show (0 : Nat) < 383; decide) rfl rfl (by decide) rfl inXA lXA_19 rfl ?_
  refine v_getI (k := 8) (q := 1) (v := σ.1 8 1) C dXA_append_4 (by show (8 : Nat) < 383; decide) rfl rfl (by decide) rfl inXF lXA_131 rfl rfl ?_
  refine v_if_eq (tgt := 20) C dXA_append_7 (by decide) (by omega) (fun hc1 => ?_) (fun hc1 => ?_)
  · exfalso; omega
  · refine v_aload_n C dXA_append_10 rfl rfl ?_
    refine v_getR (k := 0) (q := 1) C dXA_append_11 (by show (0 : Nat) < 383; decide) rfl rfl (by decide) rfl inXA lXA_19 rfl ?_
    refine v_getI (k := 8) (q := 2) (v := σ.1 8 2) C dXA_append_14 (by show (8 : Nat) < 383; decide) rfl rfl (by decide) rfl inXF lXA_132 rfl rfl ?_
    refine v_if_eq (tgt := 30) C dXA_append_17 (by decide) (by omega) (fun hc2 => ?_) (fun hc2 => ?_)
    · refine v_aload_n C dXA_append_30 rfl rfl ?_
      refine v_getR (k := 0) (q := 0) C dXA_append_31 (by show (0 : Nat) < 383; decide) rfl rfl (by decide) rfl inXA lXA_10 rfl ?_
      refine v_cVI (k := 1) (n := 0) C (xE_ok _) hEz hR (kX_XS_countChanged _ D cA ad hJ σ (fun i => hI.2 2 i) (fun i => hI.2 6 i) (fun i => hI.2 7 i)) dXA_append_34 (by show (1 : Nat) < 383; decide) rfl rfl gXA_141 (by decide +kernel) (by decide) (by decide) rfl (Nat.le_of_ble_eq_true rfl) rfl ⟨rfl, rfl⟩ (fun r1 σ1 hp1 => ?_)
      obtain ⟨e1, e2⟩ := hp1
      subst σ1
      subst r1
      refine v_if_ne (tgt := 42) C dXA_append_37 (by decide) (by omega) (fun hc3 => ?_) (fun hc3 => ?_)
      · exfalso; omega
      · refine v_iconst C dXA_append_40 ?_
        exact v_iret C hRt hLk dXA_append_41 ⟨rfl, rfl⟩
    · exfalso; omega
set_option maxRecDepth 100000 in
set_option maxHeartbeats 4000000 in
/-- append -/
theorem kX_XA_append (l : Launch) (D : va_G) (cA : Nat → ClassId) (ad : Nat → Nat) (hJ : f_J (xG D cA ad)) (σ : fS) (c : Nat) (hc : σ.1 10 1 = (c : Int)) (hI : x_I σ) (hf : σ.1 8 1 ≠ 0) (ha : σ.1 8 2 = 0) (hz : m_cnt (x_ch σ) 40 ≠ 0) (h60 : c < 60) (he : (x_apd σ c).1 377 3 ≤ 12000) : f_M l (xG D cA ad) (xE (xG D cA ad)) yXA_append (Cond.code yXA_append cXA_append 1 (some .int) :: A9) 4 σ [.ref (ad 0)] (f_QI (fun r σ1 => x_ccR (x_beg σ (σ.1 8 1)) 40 (x_ccF (x_beg σ (σ.1 8 1)) 40) ∧ σ1 = x_kept (x_apd σ c) c ∧ r = (x_apd σ c).1 374 6) (xG D cA ad)) := by
  refine f_enter (by decide +kernel) hJ rfl (Nat.le_of_ble_eq_true rfl) ?_
  intro z hzl hR C hRt hLk hEz
  subst hzl
  have hRR : 4 ≤ z.2.2.2.1.frames ∧ 40 * 4 ≤ z.2.2.2.1.locals ∧ 0 ≤ z.2.2.2.1.cells ∧ 0 ≤ z.2.2.2.1.slots := by rw [hR]; exact ⟨Nat.le_refl _, Nat.le_refl _, Nat.zero_le _, Nat.zero_le _⟩
  obtain ⟨B, hB⟩ : ∃ s, s = x_beg σ (σ.1 8 1) := ⟨_, rfl⟩
  have hB1 := x_beg_1 σ (σ.1 8 1)
  rw [← hB] at hB1
  obtain ⟨hB5, hB6, hB4⟩ := hB1
  have hBI : x_I B := by rw [hB]; exact x_I_beg hI _
  have h8 : 0 ≤ σ.1 8 1 ∧ σ.1 8 1 ≤ 12000 := hI.1 8 1
  have h82 : 0 ≤ σ.1 8 2 ∧ σ.1 8 2 ≤ 1 := hI.1 8 2
  have h10 : 0 ≤ σ.1 10 1 ∧ σ.1 10 1 ≤ 60 := hI.1 10 1
  have hcl := m_cnt_le (x_ch σ) 40
  refine v_aload_n C dXA_append_0 rfl rfl ?_
  refine v_getR (k := 0) (q := 1) C dXA_append_1 (by show (0 : Nat) < 383; decide) rfl rfl (by decide) rfl inXA lXA_19 rfl ?_
  refine v_getI (k := 8) (q := 1) (v := σ.1 8 1) C dXA_append_4 (by show (8 : Nat) < 383; decide) rfl rfl (by decide) rfl inXF lXA_131 rfl rfl ?_
  refine v_if_eq (tgt := 20) C dXA_append_7 (by decide) (by omega) (fun hc1 => ?_) (fun hc1 => ?_)
  · exfalso; omega
  · refine v_aload_n C dXA_append_10 rfl rfl ?_
    refine v_getR (k := 0) (q := 1) C dXA_append_11 (by show (0 : Nat) < 383; decide) rfl rfl (by decide) rfl inXA lXA_19 rfl ?_
    refine v_getI (k := 8) (q := 2) (v := σ.1 8 2) C dXA_append_14 (by show (8 : Nat) < 383; decide) rfl rfl (by decide) rfl inXF lXA_132 rfl rfl ?_
    refine v_if_eq (tgt := 30) C dXA_append_17 (by decide) (by omega) (fun hc2 => ?_) (fun hc2 => ?_)
    · refine v_aload_n C dXA_append_30 rfl rfl ?_
      refine v_getR (k := 0) (q := 0) C dXA_append_31 (by show (0 : Nat) < 383; decide) rfl rfl (by decide) rfl inXA lXA_10 rfl ?_
      refine v_cVI (k := 1) (n := 0) C (xE_ok _) hEz hR (kX_XS_countChanged _ D cA ad hJ σ (fun i => hI.2 2 i) (fun i => hI.2 6 i) (fun i => hI.2 7 i)) dXA_append_34 (by show (1 : Nat) < 383; decide) rfl rfl gXA_141 (by decide +kernel) (by decide) (by decide) rfl (Nat.le_of_ble_eq_true rfl) rfl ⟨rfl, rfl⟩ (fun r1 σ1 hp1 => ?_)
      obtain ⟨e1, e2⟩ := hp1
      subst σ1
      subst r1
      refine v_if_ne (tgt := 42) C dXA_append_37 (by decide) (by omega) (fun hc3 => ?_) (fun hc3 => ?_)
      · refine v_aload_n C dXA_append_42 rfl rfl ?_
        refine v_getR (k := 0) (q := 2) C dXA_append_43 (by show (0 : Nat) < 383; decide) rfl rfl (by decide) rfl inXA lXA_26 rfl ?_
        refine v_getI (k := 10) (q := 1) (v := (c : Int)) C dXA_append_46 (by show (10 : Nat) < 383; decide) rfl rfl (by decide) rfl inXH lXA_125 rfl hc ?_
        refine v_bipush C dXA_append_49 (by decide +kernel) ?_
        refine v_icmp_lt (tgt := 64) C dXA_append_51 (by decide) (by omega) (by omega) (fun hc4 => ?_) (fun hc4 => ?_)
        · refine v_aload_n C dXA_append_64 rfl rfl ?_
          refine v_getR (k := 0) (q := 4) C dXA_append_65 (by show (0 : Nat) < 383; decide) rfl rfl (by decide) rfl inXA lXA_44 rfl ?_
          refine v_aload_n C dXA_append_68 rfl rfl ?_
          refine v_getR (k := 0) (q := 1) C dXA_append_69 (by show (0 : Nat) < 383; decide) rfl rfl (by decide) rfl inXA lXA_19 rfl ?_
          refine v_getI (k := 8) (q := 1) (v := σ.1 8 1) C dXA_append_72 (by show (8 : Nat) < 383; decide) rfl rfl (by decide) rfl inXF lXA_131 rfl rfl ?_
          refine v_cVV (k := 374) (n := 1) C (xE_ok _) hEz hR (kX_XD_begin _ D cA ad hJ σ (σ.1 8 1) (by omega)) dXA_append_75 (by show (374 : Nat) < 383; decide) rfl rfl gXA_97 (by decide +kernel) (by decide) (by decide) rfl (Nat.le_of_ble_eq_true rfl) rfl ⟨rfl, rfl⟩ (fun σ1 hp1 => ?_)
          subst σ1
          refine v_st hB.symm ?_
          refine v_aload_n C dXA_append_78 rfl rfl ?_
          refine v_getR (k := 0) (q := 4) C dXA_append_79 (by show (0 : Nat) < 383; decide) rfl rfl (by decide) rfl inXA lXA_44 rfl ?_
          refine v_cVV (k := 374) (n := 0) C (xE_ok _) hEz hR (kX_XD_chooseChanged _ D cA ad hJ B hB4 (fun i => hBI.2 2 i) (fun i => hBI.2 3 i) (fun i => hBI.2 4 i) (fun i => hBI.2 6 i) (fun i => hBI.2 7 i)) dXA_append_82 (by show (374 : Nat) < 383; decide) rfl rfl gXA_147 (by decide +kernel) (by decide) (by decide) rfl (Nat.le_of_ble_eq_true rfl) rfl ⟨rfl, rfl⟩ (fun σ1 hp1 => ?_)
          obtain ⟨Cs, hCe⟩ : ∃ s, s = σ1 := ⟨_, rfl⟩
          refine v_st hCe.symm ?_
          rw [← hCe] at hp1
          have hC := hp1
          have hCF : Cs = x_ccF (x_beg σ (σ.1 8 1)) 40 := by rw [← hB]; exact x_ccR_F hB4 40 Cs (by omega) hC
          have hCI := x_ccR_I hB4 40 Cs (by omega) hC
          have hCR : x_ccR (x_beg σ (σ.1 8 1)) 40 (x_ccF (x_beg σ (σ.1 8 1)) 40) := by rw [← hCF, ← hB]; exact hC
          have hrd : x_rdy Cs := x_rdy_a hI (by rw [← hB]; exact hC)
          have hCc : Cs.1 10 1 = (c : Int) := by rw [hCI.2.1 10 1 (by omega), hB]; exact hc
          have hCx : ∀ a b, a ≠ 374 → Cs.1 a b = σ.1 a b := fun a b g => by rw [hCI.2.1 a b (by omega), hB]; show (f_p1 (f_p1 (f_p1 σ 374 5 _) 374 6 0) 374 4 0).1 a b = _; rw [p1_1, if_neg (by omega), p1_1, if_neg (by omega), p1_1, if_neg (by omega)]
          refine v_aload_n C dXA_append_85 rfl rfl ?_
          refine v_getR (k := 0) (q := 4) C dXA_append_86 (by show (0 : Nat) < 383; decide) rfl rfl (by decide) rfl inXA lXA_44 rfl ?_
          refine v_aload_n C dXA_append_89 rfl rfl ?_
          refine v_getR (k := 0) (q := 2) C dXA_append_90 (by show (0 : Nat) < 383; decide) rfl rfl (by decide) rfl inXA lXA_26 rfl ?_
          refine v_cVI (k := 10) (n := 0) C (xE_ok _) hEz hR (kX_XH_latestX _ D cA ad hJ Cs c hCc (by omega)) dXA_append_93 (by show (10 : Nat) < 383; decide) rfl rfl gXA_150 (by decide +kernel) (by decide) (by decide) rfl (Nat.le_of_ble_eq_true rfl) rfl ⟨rfl, rfl⟩ (fun r1 σ1 hp1 => ?_)
          obtain ⟨e1, e2⟩ := hp1
          subst σ1
          have e3 : r1 = x_lx σ c := by rw [e1]; unfold x_lx; split; (· rfl); (· exact hCx _ _ (by omega))
          subst e3
          have hlx : 0 ≤ x_lx σ c ∧ x_lx σ c ≤ 12000 := by unfold x_lx; split; (· omega); (· exact (x_okF_h (c - 1) (by omega) 2 (Or.inl rfl) _).mp (hI.1 _ _))
          refine v_cVV (k := 374) (n := 1) C (xE_ok _) hEz hR (kX_XD_finish _ D cA ad hJ Cs (x_lx σ c) (by omega) hrd.2.1 hrd.2.2.1 hrd.2.2.2.1 hrd.2.2.2.2 (fun i => hrd.1.2 4 i) (fun i => hrd.1.2 5 i) (fun i => hrd.1.2 375 i) (fun i => hrd.1.2 378 i) (fun i => hrd.1.2 379 i)) dXA_append_96 (by show (374 : Nat) < 383; decide) rfl rfl gXA_107 (by decide +kernel) (by decide) (by decide) rfl (Nat.le_of_ble_eq_true rfl) rfl ⟨rfl, rfl⟩ (fun σ1 hp1 => ?_)
          subst σ1
          obtain ⟨E, hE⟩ : ∃ s, s = x_fin Cs (x_lx σ c) := ⟨_, rfl⟩
          refine v_st hE.symm ?_
          have n0 := x_fin_n hrd (x_lx σ c)
          have n5 := x_fin_o hrd (x_lx σ c) 374 5 (by omega)
          have hEc : E.1 10 1 = (c : Int) := by rw [hE, x_fin_o hrd (x_lx σ c) 10 1 (by omega)]; exact hCc
          rw [← hE] at n0 n5
          have hEa : E = x_apd σ c := by rw [hE, hCF]; rfl
          have hEI : x_I E := by rw [hE]; exact x_I_fin hrd _
          have hEe : E.1 377 3 = (x_apd σ c).1 377 3 := by rw [hEa]
          have hCb := hrd.2.2.2.1
          have hCu := hrd.2.2.2.2
          have hBu : Cs.1 374 6 = 0 := by rw [hCI.2.1 374 6 (by omega)]; exact hB6
          refine v_aload_n C dXA_append_99 rfl rfl ?_
          refine v_getR (k := 0) (q := 4) C dXA_append_100 (by show (0 : Nat) < 383; decide) rfl rfl (by decide) rfl inXA lXA_44 rfl ?_
          refine v_getR (k := 374) (q := 3) C dXA_append_103 (by show (374 : Nat) < 383; decide) rfl rfl (by decide) rfl inXD lXA_110 rfl ?_
          refine v_getI (k := 377) (q := 3) (v := E.1 377 3) C dXA_append_106 (by show (377 : Nat) < 383; decide) rfl rfl (by decide) rfl inXT lXA_114 rfl rfl ?_
          refine v_sipush C dXA_append_109 (by decide +kernel) ?_
          refine v_icmp_le (tgt := 125) C dXA_append_112 (by decide) (by omega) (by omega) (fun hc5 => ?_) (fun hc5 => ?_)
          · refine v_aload_n C dXA_append_125 rfl rfl ?_
            refine v_cVV (k := 0) (n := 0) C (xE_ok _) hEz hR (kX_XA_keepDraft _ D cA ad hJ E c hEc (by omega) hEI (by omega) (by omega) (by omega)) dXA_append_126 (by show (0 : Nat) < 383; decide) rfl rfl gXA_128 (by decide +kernel) (by decide) (by decide) rfl (Nat.le_of_ble_eq_true rfl) rfl ⟨rfl, rfl⟩ (fun σ1 hp1 => ?_)
            obtain ⟨T, hT⟩ : ∃ s, s = x_kept E c := ⟨_, rfl⟩
            subst σ1
            refine v_st hT.symm ?_
            have hT6 : T.1 374 6 = (x_apd σ c).1 374 6 := by rw [hT, x_kept_1 _ _ _ _ (by omega), hEa]
            refine v_aload_n C dXA_append_129 rfl rfl ?_
            refine v_getR (k := 0) (q := 4) C dXA_append_130 (by show (0 : Nat) < 383; decide) rfl rfl (by decide) rfl inXA lXA_44 rfl ?_
            refine v_getI (k := 374) (q := 6) (v := T.1 374 6) C dXA_append_133 (by show (374 : Nat) < 383; decide) rfl rfl (by decide) rfl inXD lXA_153 rfl rfl ?_
            exact v_iret C hRt hLk dXA_append_136 ⟨hCR, by rw [hT, hEa], hT6⟩
          · exfalso; omega
        · exfalso; omega
      · exfalso; omega
    · exfalso; omega
set_option maxRecDepth 100000 in
set_option maxHeartbeats 4000000 in
/-- append throws UnsupportedOperationException -/
theorem tX_appendU (l : Launch) (D : va_G) (cA : Nat → ClassId) (ad : Nat → Nat) (hJ : f_J (xG D cA ad)) (hst : l.stackTraces = false) (σ : fS) (c : Nat) (hc : σ.1 10 1 = (c : Int)) (hI : x_I σ) (hf : σ.1 8 1 ≠ 0) (ha : σ.1 8 2 = 0) (hz : m_cnt (x_ch σ) 40 ≠ 0) (h60 : c = 60) : tx_M l (xG D cA ad) (xE (xG D cA ad)) yXA_append (Cond.code yXA_append cXA_append 1 (some .int) :: A9) 6 1 6 σ [.ref (ad 0)] "java/lang/UnsupportedOperationException" (fun σ1 => σ1 = σ) := by
  refine tx_enter (by decide +kernel) hJ rfl (Nat.le_of_ble_eq_true rfl) ?_
  intro z hzl hR C htab hLk hEz
  subst hzl
  have hRR : 6 ≤ z.2.2.2.1.frames ∧ 40 * 6 ≤ z.2.2.2.1.locals ∧ 0 ≤ z.2.2.2.1.cells ∧ 0 ≤ z.2.2.2.1.slots := by rw [hR]; exact ⟨Nat.le_refl _, Nat.le_refl _, Nat.zero_le _, Nat.zero_le _⟩
  obtain ⟨B, hB⟩ : ∃ s, s = x_beg σ (σ.1 8 1) := ⟨_, rfl⟩
  have hB1 := x_beg_1 σ (σ.1 8 1)
  rw [← hB] at hB1
  obtain ⟨hB5, hB6, hB4⟩ := hB1
  have hBI : x_I B := by rw [hB]; exact x_I_beg hI _
  have h8 : 0 ≤ σ.1 8 1 ∧ σ.1 8 1 ≤ 12000 := hI.1 8 1
  have h82 : 0 ≤ σ.1 8 2 ∧ σ.1 8 2 ≤ 1 := hI.1 8 2
  have h10 : 0 ≤ σ.1 10 1 ∧ σ.1 10 1 ≤ 60 := hI.1 10 1
  have hcl := m_cnt_le (x_ch σ) 40
  refine v_aload_n C dXA_append_0 rfl rfl ?_
  refine v_getR (k := 0) (q := 1) C dXA_append_1 (by show (0 : Nat) < 383; decide) rfl rfl (by decide) rfl inXA lXA_19 rfl ?_
  refine v_getI (k := 8) (q := 1) (v := σ.1 8 1) C dXA_append_4 (by show (8 : Nat) < 383; decide) rfl rfl (by decide) rfl inXF lXA_131 rfl rfl ?_
  refine v_if_eq (tgt := 20) C dXA_append_7 (by decide) (by omega) (fun hc1 => ?_) (fun hc1 => ?_)
  · exfalso; omega
  · refine v_aload_n C dXA_append_10 rfl rfl ?_
    refine v_getR (k := 0) (q := 1) C dXA_append_11 (by show (0 : Nat) < 383; decide) rfl rfl (by decide) rfl inXA lXA_19 rfl ?_
    refine v_getI (k := 8) (q := 2) (v := σ.1 8 2) C dXA_append_14 (by show (8 : Nat) < 383; decide) rfl rfl (by decide) rfl inXF lXA_132 rfl rfl ?_
    refine v_if_eq (tgt := 30) C dXA_append_17 (by decide) (by omega) (fun hc2 => ?_) (fun hc2 => ?_)
    · refine v_aload_n C dXA_append_30 rfl rfl ?_
      refine v_getR (k := 0) (q := 0) C dXA_append_31 (by show (0 : Nat) < 383; decide) rfl rfl (by decide) rfl inXA lXA_10 rfl ?_
      refine u_cVI (k := 1) (n := 0) C (xE_ok _) hEz hRR (kX_XS_countChanged _ D cA ad hJ σ (fun i => hI.2 2 i) (fun i => hI.2 6 i) (fun i => hI.2 7 i)) dXA_append_34 (by show (1 : Nat) < 383; decide) rfl rfl gXA_141 (by decide +kernel) (by decide) (by decide) rfl (Nat.le_of_ble_eq_true rfl) rfl (fun r1 σ1 hp1 => ?_)
      obtain ⟨e1, e2⟩ := hp1
      subst σ1
      subst r1
      refine v_if_ne (tgt := 42) C dXA_append_37 (by decide) (by omega) (fun hc3 => ?_) (fun hc3 => ?_)
      · refine v_aload_n C dXA_append_42 rfl rfl ?_
        refine v_getR (k := 0) (q := 2) C dXA_append_43 (by show (0 : Nat) < 383; decide) rfl rfl (by decide) rfl inXA lXA_26 rfl ?_
        refine v_getI (k := 10) (q := 1) (v := (c : Int)) C dXA_append_46 (by show (10 : Nat) < 383; decide) rfl rfl (by decide) rfl inXH lXA_125 rfl hc ?_
        refine v_bipush C dXA_append_49 (by decide +kernel) ?_
        refine v_icmp_lt (tgt := 64) C dXA_append_51 (by decide) (by omega) (by omega) (fun hc4 => ?_) (fun hc4 => ?_)
        · exfalso; omega
        · exact x_throw (is := 145) (text := "a file has at most 60 parts") C hEz hst htab hLk (by decide +kernel) (by decide +kernel) x_wU (by decide +kernel) dXA_append_54 dXA_append_57 dXA_append_58 dXA_append_60 dXA_append_63 (by rw [hR]; exact ⟨by decide, by decide, by decide, by decide⟩) ⟨by decide, by decide⟩ rfl
      · exfalso; omega
    · exfalso; omega
set_option maxRecDepth 100000 in
set_option maxHeartbeats 4000000 in
/-- append throws UnsupportedOperationException -/
theorem tX_appendV (l : Launch) (D : va_G) (cA : Nat → ClassId) (ad : Nat → Nat) (hJ : f_J (xG D cA ad)) (hst : l.stackTraces = false) (σ : fS) (c : Nat) (hc : σ.1 10 1 = (c : Int)) (hI : x_I σ) (hf : σ.1 8 1 ≠ 0) (ha : σ.1 8 2 = 0) (hz : m_cnt (x_ch σ) 40 ≠ 0) (h60 : c < 60) (he : ¬ (x_apd σ c).1 377 3 ≤ 12000) : tx_M l (xG D cA ad) (xE (xG D cA ad)) yXA_append (Cond.code yXA_append cXA_append 1 (some .int) :: A9) 6 1 6 σ [.ref (ad 0)] "java/lang/UnsupportedOperationException" (fun σ1 => x_ccR (x_beg σ (σ.1 8 1)) 40 (x_ccF (x_beg σ (σ.1 8 1)) 40) ∧ σ1 = x_apd σ c) := by
  refine tx_enter (by decide +kernel) hJ rfl (Nat.le_of_ble_eq_true rfl) ?_
  intro z hzl hR C htab hLk hEz
  subst hzl
  have hRR : 6 ≤ z.2.2.2.1.frames ∧ 40 * 6 ≤ z.2.2.2.1.locals ∧ 0 ≤ z.2.2.2.1.cells ∧ 0 ≤ z.2.2.2.1.slots := by rw [hR]; exact ⟨Nat.le_refl _, Nat.le_refl _, Nat.zero_le _, Nat.zero_le _⟩
  obtain ⟨B, hB⟩ : ∃ s, s = x_beg σ (σ.1 8 1) := ⟨_, rfl⟩
  have hB1 := x_beg_1 σ (σ.1 8 1)
  rw [← hB] at hB1
  obtain ⟨hB5, hB6, hB4⟩ := hB1
  have hBI : x_I B := by rw [hB]; exact x_I_beg hI _
  have h8 : 0 ≤ σ.1 8 1 ∧ σ.1 8 1 ≤ 12000 := hI.1 8 1
  have h82 : 0 ≤ σ.1 8 2 ∧ σ.1 8 2 ≤ 1 := hI.1 8 2
  have h10 : 0 ≤ σ.1 10 1 ∧ σ.1 10 1 ≤ 60 := hI.1 10 1
  have hcl := m_cnt_le (x_ch σ) 40
  refine v_aload_n C dXA_append_0 rfl rfl ?_
  refine v_getR (k := 0) (q := 1) C dXA_append_1 (by show (0 : Nat) < 383; decide) rfl rfl (by decide) rfl inXA lXA_19 rfl ?_
  refine v_getI (k := 8) (q := 1) (v := σ.1 8 1) C dXA_append_4 (by show (8 : Nat) < 383; decide) rfl rfl (by decide) rfl inXF lXA_131 rfl rfl ?_
  refine v_if_eq (tgt := 20) C dXA_append_7 (by decide) (by omega) (fun hc1 => ?_) (fun hc1 => ?_)
  · exfalso; omega
  · refine v_aload_n C dXA_append_10 rfl rfl ?_
    refine v_getR (k := 0) (q := 1) C dXA_append_11 (by show (0 : Nat) < 383; decide) rfl rfl (by decide) rfl inXA lXA_19 rfl ?_
    refine v_getI (k := 8) (q := 2) (v := σ.1 8 2) C dXA_append_14 (by show (8 : Nat) < 383; decide) rfl rfl (by decide) rfl inXF lXA_132 rfl rfl ?_
    refine v_if_eq (tgt := 30) C dXA_append_17 (by decide) (by omega) (fun hc2 => ?_) (fun hc2 => ?_)
    · refine v_aload_n C dXA_append_30 rfl rfl ?_
      refine v_getR (k := 0) (q := 0) C dXA_append_31 (by show (0 : Nat) < 383; decide) rfl rfl (by decide) rfl inXA lXA_10 rfl ?_
      refine u_cVI (k := 1) (n := 0) C (xE_ok _) hEz hRR (kX_XS_countChanged _ D cA ad hJ σ (fun i => hI.2 2 i) (fun i => hI.2 6 i) (fun i => hI.2 7 i)) dXA_append_34 (by show (1 : Nat) < 383; decide) rfl rfl gXA_141 (by decide +kernel) (by decide) (by decide) rfl (Nat.le_of_ble_eq_true rfl) rfl (fun r1 σ1 hp1 => ?_)
      obtain ⟨e1, e2⟩ := hp1
      subst σ1
      subst r1
      refine v_if_ne (tgt := 42) C dXA_append_37 (by decide) (by omega) (fun hc3 => ?_) (fun hc3 => ?_)
      · refine v_aload_n C dXA_append_42 rfl rfl ?_
        refine v_getR (k := 0) (q := 2) C dXA_append_43 (by show (0 : Nat) < 383; decide) rfl rfl (by decide) rfl inXA lXA_26 rfl ?_
        refine v_getI (k := 10) (q := 1) (v := (c : Int)) C dXA_append_46 (by show (10 : Nat) < 383; decide) rfl rfl (by decide) rfl inXH lXA_125 rfl hc ?_
        refine v_bipush C dXA_append_49 (by decide +kernel) ?_
        refine v_icmp_lt (tgt := 64) C dXA_append_51 (by decide) (by omega) (by omega) (fun hc4 => ?_) (fun hc4 => ?_)
        · refine v_aload_n C dXA_append_64 rfl rfl ?_
          refine v_getR (k := 0) (q := 4) C dXA_append_65 (by show (0 : Nat) < 383; decide) rfl rfl (by decide) rfl inXA lXA_44 rfl ?_
          refine v_aload_n C dXA_append_68 rfl rfl ?_
          refine v_getR (k := 0) (q := 1) C dXA_append_69 (by show (0 : Nat) < 383; decide) rfl rfl (by decide) rfl inXA lXA_19 rfl ?_
          refine v_getI (k := 8) (q := 1) (v := σ.1 8 1) C dXA_append_72 (by show (8 : Nat) < 383; decide) rfl rfl (by decide) rfl inXF lXA_131 rfl rfl ?_
          refine u_cVV (k := 374) (n := 1) C (xE_ok _) hEz hRR (kX_XD_begin _ D cA ad hJ σ (σ.1 8 1) (by omega)) dXA_append_75 (by show (374 : Nat) < 383; decide) rfl rfl gXA_97 (by decide +kernel) (by decide) (by decide) rfl (Nat.le_of_ble_eq_true rfl) rfl (fun σ1 hp1 => ?_)
          subst σ1
          refine v_st hB.symm ?_
          refine v_aload_n C dXA_append_78 rfl rfl ?_
          refine v_getR (k := 0) (q := 4) C dXA_append_79 (by show (0 : Nat) < 383; decide) rfl rfl (by decide) rfl inXA lXA_44 rfl ?_
          refine u_cVV (k := 374) (n := 0) C (xE_ok _) hEz hRR (kX_XD_chooseChanged _ D cA ad hJ B hB4 (fun i => hBI.2 2 i) (fun i => hBI.2 3 i) (fun i => hBI.2 4 i) (fun i => hBI.2 6 i) (fun i => hBI.2 7 i)) dXA_append_82 (by show (374 : Nat) < 383; decide) rfl rfl gXA_147 (by decide +kernel) (by decide) (by decide) rfl (Nat.le_of_ble_eq_true rfl) rfl (fun σ1 hp1 => ?_)
          obtain ⟨Cs, hCe⟩ : ∃ s, s = σ1 := ⟨_, rfl⟩
          refine v_st hCe.symm ?_
          rw [← hCe] at hp1
          have hC := hp1
          have hCF : Cs = x_ccF (x_beg σ (σ.1 8 1)) 40 := by rw [← hB]; exact x_ccR_F hB4 40 Cs (by omega) hC
          have hCI := x_ccR_I hB4 40 Cs (by omega) hC
          have hCR : x_ccR (x_beg σ (σ.1 8 1)) 40 (x_ccF (x_beg σ (σ.1 8 1)) 40) := by rw [← hCF, ← hB]; exact hC
          have hrd : x_rdy Cs := x_rdy_a hI (by rw [← hB]; exact hC)
          have hCc : Cs.1 10 1 = (c : Int) := by rw [hCI.2.1 10 1 (by omega), hB]; exact hc
          have hCx : ∀ a b, a ≠ 374 → Cs.1 a b = σ.1 a b := fun a b g => by rw [hCI.2.1 a b (by omega), hB]; show (f_p1 (f_p1 (f_p1 σ 374 5 _) 374 6 0) 374 4 0).1 a b = _; rw [p1_1, if_neg (by omega), p1_1, if_neg (by omega), p1_1, if_neg (by omega)]
          refine v_aload_n C dXA_append_85 rfl rfl ?_
          refine v_getR (k := 0) (q := 4) C dXA_append_86 (by show (0 : Nat) < 383; decide) rfl rfl (by decide) rfl inXA lXA_44 rfl ?_
          refine v_aload_n C dXA_append_89 rfl rfl ?_
          refine v_getR (k := 0) (q := 2) C dXA_append_90 (by show (0 : Nat) < 383; decide) rfl rfl (by decide) rfl inXA lXA_26 rfl ?_
          refine u_cVI (k := 10) (n := 0) C (xE_ok _) hEz hRR (kX_XH_latestX _ D cA ad hJ Cs c hCc (by omega)) dXA_append_93 (by show (10 : Nat) < 383; decide) rfl rfl gXA_150 (by decide +kernel) (by decide) (by decide) rfl (Nat.le_of_ble_eq_true rfl) rfl (fun r1 σ1 hp1 => ?_)
          obtain ⟨e1, e2⟩ := hp1
          subst σ1
          have e3 : r1 = x_lx σ c := by rw [e1]; unfold x_lx; split; (· rfl); (· exact hCx _ _ (by omega))
          subst e3
          have hlx : 0 ≤ x_lx σ c ∧ x_lx σ c ≤ 12000 := by unfold x_lx; split; (· omega); (· exact (x_okF_h (c - 1) (by omega) 2 (Or.inl rfl) _).mp (hI.1 _ _))
          refine u_cVV (k := 374) (n := 1) C (xE_ok _) hEz hRR (kX_XD_finish _ D cA ad hJ Cs (x_lx σ c) (by omega) hrd.2.1 hrd.2.2.1 hrd.2.2.2.1 hrd.2.2.2.2 (fun i => hrd.1.2 4 i) (fun i => hrd.1.2 5 i) (fun i => hrd.1.2 375 i) (fun i => hrd.1.2 378 i) (fun i => hrd.1.2 379 i)) dXA_append_96 (by show (374 : Nat) < 383; decide) rfl rfl gXA_107 (by decide +kernel) (by decide) (by decide) rfl (Nat.le_of_ble_eq_true rfl) rfl (fun σ1 hp1 => ?_)
          subst σ1
          obtain ⟨E, hE⟩ : ∃ s, s = x_fin Cs (x_lx σ c) := ⟨_, rfl⟩
          refine v_st hE.symm ?_
          have n0 := x_fin_n hrd (x_lx σ c)
          have n5 := x_fin_o hrd (x_lx σ c) 374 5 (by omega)
          have hEc : E.1 10 1 = (c : Int) := by rw [hE, x_fin_o hrd (x_lx σ c) 10 1 (by omega)]; exact hCc
          rw [← hE] at n0 n5
          have hEa : E = x_apd σ c := by rw [hE, hCF]; rfl
          have hEI : x_I E := by rw [hE]; exact x_I_fin hrd _
          have hEe : E.1 377 3 = (x_apd σ c).1 377 3 := by rw [hEa]
          have hCb := hrd.2.2.2.1
          have hCu := hrd.2.2.2.2
          have hBu : Cs.1 374 6 = 0 := by rw [hCI.2.1 374 6 (by omega)]; exact hB6
          refine v_aload_n C dXA_append_99 rfl rfl ?_
          refine v_getR (k := 0) (q := 4) C dXA_append_100 (by show (0 : Nat) < 383; decide) rfl rfl (by decide) rfl inXA lXA_44 rfl ?_
          refine v_getR (k := 374) (q := 3) C dXA_append_103 (by show (374 : Nat) < 383; decide) rfl rfl (by decide) rfl inXD lXA_110 rfl ?_
          refine v_getI (k := 377) (q := 3) (v := E.1 377 3) C dXA_append_106 (by show (377 : Nat) < 383; decide) rfl rfl (by decide) rfl inXT lXA_114 rfl rfl ?_
          refine v_sipush C dXA_append_109 (by decide +kernel) ?_
          refine v_icmp_le (tgt := 125) C dXA_append_112 (by decide) (by omega) (by omega) (fun hc5 => ?_) (fun hc5 => ?_)
          · exfalso; omega
          · exact x_throw (is := 122) (text := "a file has at most 12000 bytes") C hEz hst htab hLk (by decide +kernel) (by decide +kernel) x_wU (by decide +kernel) dXA_append_115 dXA_append_118 dXA_append_119 dXA_append_121 dXA_append_124 (by rw [hR]; exact ⟨by decide, by decide, by decide, by decide⟩) ⟨by decide, by decide⟩ ⟨hCR, hEa⟩
        · exfalso; omega
      · exfalso; omega
    · exfalso; omega
