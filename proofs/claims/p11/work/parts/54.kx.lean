/-- the changed objects up to k are chosen, or told to be gone -/
def x_ccR (σ : fS) : Nat → fS → Prop
  | 0, σ1 => σ1 = σ
  | k + 1, σ1 => ∃ y : fS, x_ccR σ k y ∧ ((x_ch σ (k + 1) = 0 ∧ σ1 = y) ∨ (x_ch σ (k + 1) = 1 ∧ σ.2 2 (k + 1) = 1 ∧ x_insP y ((k : Int) + 1) 0 σ1) ∨ (x_ch σ (k + 1) = 1 ∧ σ.2 2 (k + 1) = 0 ∧ σ1 = f_p2 y 378 (k + 1) (-1)))
def x_ccI (σ : fS) (k : Nat) (σ1 : fS) : Prop := (0 ≤ σ1.1 374 4 ∧ σ1.1 374 4 ≤ k) ∧ (∀ a b, ¬ (a = 374 ∧ b = 4) → σ1.1 a b = σ.1 a b) ∧ (∀ a b, a ≠ 376 → a ≠ 378 → σ1.2 a b = σ.2 a b) ∧ (∀ j : Nat, (j : Int) < σ1.1 374 4 → 1 ≤ σ1.2 376 j ∧ σ1.2 376 j ≤ 40) ∧ ∀ b : Nat, σ1.2 378 b = σ.2 378 b ∨ σ1.2 378 b = -1
theorem x_ccR_I {σ : fS} (h0 : σ.1 374 4 = 0) : ∀ (k : Nat) (σ1 : fS), k ≤ 40 → x_ccR σ k σ1 → x_ccI σ k σ1 := by
  intro k
  induction k with
  | zero =>
    intro σ1 _ h
    have e : σ1 = σ := h
    subst e
    exact ⟨by omega, fun _ _ _ => rfl, fun _ _ _ _ => rfl, fun j hj => by omega, fun _ => Or.inl rfl⟩
  | succ k ih =>
    intro σ1 hk h
    obtain ⟨y, hy, h⟩ := h
    obtain ⟨i1, i2, i3, i4, i5⟩ := ih y (by omega) hy
    rcases h with ⟨-, rfl⟩ | ⟨-, -, h⟩ | ⟨-, -, rfl⟩
    · exact ⟨by omega, i2, i3, i4, i5⟩
    · obtain ⟨j1, j2, j3, j4⟩ := x_insP_inv i1.1 h
      refine ⟨by omega, fun a b g => (j2 a b g).trans (i2 a b g), fun a b g g2 => (j3 a b g).trans (i3 a b g g2), fun j hj => ?_, fun b => by rw [j3 378 b (by decide)]; exact i5 b⟩
      rcases j4 j hj with e | ⟨i, hi, e⟩
      · rw [e]; omega
      · rw [e]; exact i4 i hi
    · refine ⟨⟨i1.1, by show y.1 374 4 ≤ _; omega⟩, i2, fun a b g g2 => by rw [p2_2, if_neg (by omega)]; exact i3 a b g g2, fun j hj => by rw [p2_2, if_neg (by omega)]; exact i4 j hj, fun b => ?_⟩
      rw [p2_2]
      split
      · exact Or.inr rfl
      · exact i5 b
theorem x_ch_eq {σ y : fS} (h : ∀ a b, a ≠ 376 → a ≠ 378 → y.2 a b = σ.2 a b) (n : Nat) : x_ch y n = x_ch σ n := by
  unfold x_ch
  rw [h 2 n (by decide) (by decide), h 6 n (by decide) (by decide), h 7 n (by decide) (by decide)]
set_option maxRecDepth 100000 in
set_option maxHeartbeats 4000000 in
/-- chooseChanged -/
theorem kX_XD_chooseChanged (l : Launch) (D : va_G) (cA : Nat → ClassId) (ad : Nat → Nat) (hJ : f_J (xG D cA ad)) (σ : fS) (h0 : σ.1 374 4 = 0) (h2 : ∀ i, 0 ≤ σ.2 2 i ∧ σ.2 2 i ≤ 1) (h3 : ∀ i, 0 ≤ σ.2 3 i ∧ σ.2 3 i ≤ 1) (h4 : ∀ i, 0 ≤ σ.2 4 i ∧ σ.2 4 i ≤ 120) (h6 : ∀ i, 0 ≤ σ.2 6 i ∧ σ.2 6 i ≤ 1) (h7 : ∀ i, 0 ≤ σ.2 7 i ∧ σ.2 7 i ≤ 1) : f_M l (xG D cA ad) (xE (xG D cA ad)) yXD_chooseChanged (Cond.code yXD_chooseChanged cXD_chooseChanged 2 none :: A9) 2 σ [.ref (ad 374)] (f_QV (fun σ1 => x_ccR σ 40 σ1) (xG D cA ad)) := by
  refine f_enter (by decide +kernel) hJ rfl (Nat.le_of_ble_eq_true rfl) ?_
  intro z hzl hR C hRt hLk hEz
  subst hzl
  have hRR : 2 ≤ z.2.2.2.1.frames ∧ 40 * 2 ≤ z.2.2.2.1.locals ∧ 0 ≤ z.2.2.2.1.cells ∧ 0 ≤ z.2.2.2.1.slots := by rw [hR]; exact ⟨Nat.le_refl _, Nat.le_refl _, Nat.zero_le _, Nat.zero_le _⟩
  have L : ∀ (m k : Nat), m + k = 40 → ∀ y : fS, x_ccR σ k y → fv z (xG D cA ad) 2 (f_R z (xG D cA ad) (f_QV (fun σ1 => x_ccR σ 40 σ1) (xG D cA ad))) 0 0 y 2 [some (.ref (ad 374)), some (.int (fI ((k : Int) + 1)))] [] := by
    intro m
    induction m with
    | zero =>
      intro k hk y hy
      obtain rfl : k = 40 := by omega
      refine v_iload_n C dXD_chooseChanged_2 rfl rfl ?_
      refine v_bipush C dXD_chooseChanged_3 (by decide +kernel) ?_
      refine v_icmp_gt (tgt := 59) C dXD_chooseChanged_5 (by decide) (by omega) (by omega) (fun hc1 => ?_) (fun hc1 => ?_)
      · exact v_vret C hRt hLk dXD_chooseChanged_59 hy
      · exfalso; omega
    | succ m ih =>
      intro k hk y hy
      obtain ⟨hi1, hi2, hi3, hi4, hi5⟩ := x_ccR_I h0 k y (by omega) hy
      have hkt : ((k : Int) + 1).toNat = k + 1 := by omega
      have hb2 : 0 ≤ y.2 2 ((k : Int) + 1).toNat ∧ y.2 2 ((k : Int) + 1).toNat ≤ 1 := by rw [hi3 2 _ (by decide) (by decide)]; exact h2 _
      have hbe : y.2 2 ((k : Int) + 1).toNat = σ.2 2 (k + 1) := by rw [hkt]; exact hi3 2 _ (by decide) (by decide)
      refine v_iload_n C dXD_chooseChanged_2 rfl rfl ?_
      refine v_bipush C dXD_chooseChanged_3 (by decide +kernel) ?_
      refine v_icmp_gt (tgt := 59) C dXD_chooseChanged_5 (by decide) (by omega) (by omega) (fun hc2 => ?_) (fun hc2 => ?_)
      · exfalso; omega
      · refine v_aload_n C dXD_chooseChanged_8 rfl rfl ?_
        refine v_getR (k := 374) (q := 0) C dXD_chooseChanged_9 (by show (374 : Nat) < 383; decide) rfl rfl (by decide) rfl inXD lXD_26 rfl ?_
        refine v_iload_n C dXD_chooseChanged_12 rfl rfl ?_
        refine v_cVI (k := 1) (n := 1) C (xE_ok _) hEz hR (kX_XS_isChanged _ D cA ad hJ y ((k : Int) + 1) (by omega) (fun i => by rw [hi3 2 i (by decide) (by decide)]; exact h2 i) (fun i => by rw [hi3 6 i (by decide) (by decide)]; exact h6 i) (fun i => by rw [hi3 7 i (by decide) (by decide)]; exact h7 i)) dXD_chooseChanged_13 (by show (1 : Nat) < 383; decide) rfl rfl gXD_54 (by decide +kernel) (by decide) (by decide) rfl (Nat.le_of_ble_eq_true rfl) rfl ⟨rfl, rfl⟩ (fun r1 σ1 hp1 => ?_)
        obtain ⟨e1, e2⟩ := hp1
        subst σ1
        rw [hkt, x_ch_eq hi3] at e1
        have hx01 : 0 ≤ x_ch σ (k + 1) ∧ x_ch σ (k + 1) ≤ 1 := by
          unfold x_ch
          split
          · exact h6 _
          · exact h7 _
        subst r1
        refine v_if_ne (tgt := 22) C dXD_chooseChanged_16 (by decide) (by omega) (fun hc3 => ?_) (fun hc3 => ?_)
        · refine v_aload_n C dXD_chooseChanged_22 rfl rfl ?_
          refine v_getR (k := 374) (q := 0) C dXD_chooseChanged_23 (by show (374 : Nat) < 383; decide) rfl rfl (by decide) rfl inXD lXD_26 rfl ?_
          refine v_getR (k := 1) (q := 0) C dXD_chooseChanged_26 (by show (1 : Nat) < 383; decide) rfl rfl (by decide) rfl inXS lXD_44 rfl ?_
          refine v_iload_n C dXD_chooseChanged_29 rfl rfl ?_
          refine v_zald (k := 2) (v := y.2 2 (((k : Int) + 1)).toNat) C dXD_chooseChanged_30 (by show (2 : Nat) < 383; decide) rfl rfl (by omega) (by decide) rfl ?_
          refine v_if_eq (tgt := 43) C dXD_chooseChanged_31 (by decide) (by omega) (fun hc4 => ?_) (fun hc4 => ?_)
          · refine v_aload_n C dXD_chooseChanged_43 rfl rfl ?_
            refine v_getR (k := 374) (q := 3) C dXD_chooseChanged_44 (by show (374 : Nat) < 383; decide) rfl rfl (by decide) rfl inXD lXD_22 rfl ?_
            refine v_getR (k := 377) (q := 0) C dXD_chooseChanged_47 (by show (377 : Nat) < 383; decide) rfl rfl (by decide) rfl inXT lXD_58 rfl ?_
            refine v_iload_n C dXD_chooseChanged_50 rfl rfl ?_
            refine v_iconst C dXD_chooseChanged_51 ?_
            refine v_iast (k := 378) C dXD_chooseChanged_52 (by show (378 : Nat) < 383; decide) rfl rfl (by omega) (by decide) ?_
            refine v_iinc C dXD_chooseChanged_53 rfl (by decide) ?_
            refine v_goto (tgt := 2) C dXD_chooseChanged_56 (by decide) ?_
            exact ih (k + 1) (by omega) _ (by first | exact ⟨y, hy, Or.inl ⟨by omega, rfl⟩⟩ | exact ⟨y, hy, Or.inr (Or.inl ⟨by omega, by omega, hp1⟩)⟩ | exact ⟨y, hy, Or.inr (Or.inl ⟨by omega, by omega, hp2⟩)⟩ | exact ⟨y, hy, Or.inr (Or.inr ⟨by omega, by omega, by rw [hkt]⟩)⟩)
          · refine v_aload_n C dXD_chooseChanged_34 rfl rfl ?_
            refine v_iload_n C dXD_chooseChanged_35 rfl rfl ?_
            refine v_iconst C dXD_chooseChanged_36 ?_
            refine v_cVV (k := 374) (n := 2) C (xE_ok _) hEz hR (kX_XD_insert _ D cA ad hJ y ((k : Int) + 1) 0 (by omega) (by omega) (by omega) hi4 (fun i => by rw [hi3 3 i (by decide) (by decide)]; exact h3 i) (fun i => by rw [hi3 4 i (by decide) (by decide)]; exact h4 i)) dXD_chooseChanged_37 (by show (374 : Nat) < 383; decide) rfl rfl gXD_50 (by decide +kernel) (by decide) (by decide) rfl (Nat.le_of_ble_eq_true rfl) rfl ⟨rfl, rfl⟩ (fun σ1 hp1 => ?_)
            refine v_goto (tgt := 53) C dXD_chooseChanged_40 (by decide) ?_
            refine v_iinc C dXD_chooseChanged_53 rfl (by decide) ?_
            refine v_goto (tgt := 2) C dXD_chooseChanged_56 (by decide) ?_
            exact ih (k + 1) (by omega) _ (by first | exact ⟨y, hy, Or.inl ⟨by omega, rfl⟩⟩ | exact ⟨y, hy, Or.inr (Or.inl ⟨by omega, by omega, hp1⟩)⟩ | exact ⟨y, hy, Or.inr (Or.inl ⟨by omega, by omega, hp2⟩)⟩ | exact ⟨y, hy, Or.inr (Or.inr ⟨by omega, by omega, by rw [hkt]⟩)⟩)
        · refine v_goto (tgt := 53) C dXD_chooseChanged_19 (by decide) ?_
          refine v_iinc C dXD_chooseChanged_53 rfl (by decide) ?_
          refine v_goto (tgt := 2) C dXD_chooseChanged_56 (by decide) ?_
          exact ih (k + 1) (by omega) _ (by first | exact ⟨y, hy, Or.inl ⟨by omega, rfl⟩⟩ | exact ⟨y, hy, Or.inr (Or.inl ⟨by omega, by omega, hp1⟩)⟩ | exact ⟨y, hy, Or.inr (Or.inl ⟨by omega, by omega, hp2⟩)⟩ | exact ⟨y, hy, Or.inr (Or.inr ⟨by omega, by omega, by rw [hkt]⟩)⟩)
  refine v_iconst C dXD_chooseChanged_0 ?_
  refine v_istore_n C dXD_chooseChanged_1 rfl (by decide) ?_
  exact v_lv rfl (L 40 0 (by omega) σ rfl)
