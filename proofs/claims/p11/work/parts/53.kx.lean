theorem x_insP_inv {σ σ1 : fS} {n how : Int} (hc : 0 ≤ σ.1 374 4) (h : x_insP σ n how σ1) : σ1.1 374 4 = σ.1 374 4 + 1 ∧ (∀ a b, ¬ (a = 374 ∧ b = 4) → σ1.1 a b = σ.1 a b) ∧ (∀ a b, a ≠ 376 → σ1.2 a b = σ.2 a b) ∧ ∀ j : Nat, (j : Int) < σ1.1 374 4 → σ1.2 376 j = n ∨ ∃ i : Nat, (i : Int) < σ.1 374 4 ∧ σ1.2 376 j = σ.2 376 i := by
  obtain ⟨t, ht, rfl, -, -⟩ := h
  unfold x_insd
  refine ⟨by rw [p1_1, if_pos ⟨rfl, rfl⟩], fun a b h => by rw [p1_1, if_neg h]; rfl, fun a b h => by rw [p1_2, p2_2, if_neg (by omega)]; exact x_sh_2 _ _ _ _ _ h, fun j hj => ?_⟩
  rw [p1_1, if_pos ⟨rfl, rfl⟩] at hj
  rw [p1_2, p2_2]
  by_cases h1 : j = t
  · left; rw [if_pos ⟨rfl, h1⟩]
  · right
    rw [if_neg (by omega)]
    by_cases h2 : t < j
    · refine ⟨j - 1, by omega, ?_⟩
      show (if 376 = 376 ∧ t < j ∧ j ≤ (σ.1 374 4).toNat then σ.2 376 (j - 1) else σ.2 376 j) = _
      rw [if_pos (by omega)]
    · exact ⟨j, by omega, x_sh_lo _ _ _ _ (by omega)⟩
/-- the objects up to k are chosen, one after the other -/
def x_chR (σ : fS) (how : Int) : Nat → fS → Prop
  | 0, σ1 => σ1 = σ
  | k + 1, σ1 => ∃ y : fS, x_chR σ how k y ∧ ((σ.2 2 (k + 1) = 1 ∧ x_insP y ((k : Int) + 1) how σ1) ∨ (σ.2 2 (k + 1) = 0 ∧ σ1 = y))
def x_chI (σ : fS) (k : Nat) (σ1 : fS) : Prop := (0 ≤ σ1.1 374 4 ∧ σ1.1 374 4 ≤ k) ∧ (∀ a b, ¬ (a = 374 ∧ b = 4) → σ1.1 a b = σ.1 a b) ∧ (∀ a b, a ≠ 376 → σ1.2 a b = σ.2 a b) ∧ ∀ j : Nat, (j : Int) < σ1.1 374 4 → 1 ≤ σ1.2 376 j ∧ σ1.2 376 j ≤ 40
theorem x_chR_I {σ : fS} {how : Int} (h0 : σ.1 374 4 = 0) : ∀ (k : Nat) (σ1 : fS), k ≤ 40 → x_chR σ how k σ1 → x_chI σ k σ1 := by
  intro k
  induction k with
  | zero =>
    intro σ1 _ h
    have e : σ1 = σ := h
    subst e
    exact ⟨by omega, fun _ _ _ => rfl, fun _ _ _ => rfl, fun j hj => by omega⟩
  | succ k ih =>
    intro σ1 hk h
    obtain ⟨y, hy, h⟩ := h
    obtain ⟨i1, i2, i3, i4⟩ := ih y (by omega) hy
    rcases h with ⟨-, h⟩ | ⟨-, rfl⟩
    · obtain ⟨j1, j2, j3, j4⟩ := x_insP_inv i1.1 h
      refine ⟨by omega, fun a b g => (j2 a b g).trans (i2 a b g), fun a b g => (j3 a b g).trans (i3 a b g), fun j hj => ?_⟩
      rcases j4 j hj with e | ⟨i, hi, e⟩
      · rw [e]; omega
      · rw [e]; exact i4 i hi
    · exact ⟨by omega, i2, i3, i4⟩
set_option maxRecDepth 100000 in
set_option maxHeartbeats 4000000 in
/-- chooseThere -/
theorem kX_XD_chooseThere (l : Launch) (D : va_G) (cA : Nat → ClassId) (ad : Nat → Nat) (hJ : f_J (xG D cA ad)) (σ : fS) (how : Int) (hh : -2147483648 ≤ how ∧ how ≤ 2147483647) (h0 : σ.1 374 4 = 0) (h2 : ∀ i, 0 ≤ σ.2 2 i ∧ σ.2 2 i ≤ 1) (h3 : ∀ i, 0 ≤ σ.2 3 i ∧ σ.2 3 i ≤ 1) (h4 : ∀ i, 0 ≤ σ.2 4 i ∧ σ.2 4 i ≤ 120) : f_M l (xG D cA ad) (xE (xG D cA ad)) yXD_chooseThere (Cond.code yXD_chooseThere cXD_chooseThere 3 none :: A9) 2 σ [.ref (ad 374), .int (fI how)] (f_QV (fun σ1 => x_chR σ how 40 σ1) (xG D cA ad)) := by
  refine f_enter (by decide +kernel) hJ rfl (Nat.le_of_ble_eq_true rfl) ?_
  intro z hzl hR C hRt hLk hEz
  subst hzl
  have hRR : 2 ≤ z.2.2.2.1.frames ∧ 40 * 2 ≤ z.2.2.2.1.locals ∧ 0 ≤ z.2.2.2.1.cells ∧ 0 ≤ z.2.2.2.1.slots := by rw [hR]; exact ⟨Nat.le_refl _, Nat.le_refl _, Nat.zero_le _, Nat.zero_le _⟩
  have L : ∀ (m k : Nat), m + k = 40 → ∀ y : fS, x_chR σ how k y → fv z (xG D cA ad) 3 (f_R z (xG D cA ad) (f_QV (fun σ1 => x_chR σ how 40 σ1) (xG D cA ad))) 0 0 y 2 [some (.ref (ad 374)), some (.int (fI how)), some (.int (fI ((k : Int) + 1)))] [] := by
    intro m
    induction m with
    | zero =>
      intro k hk y hy
      obtain rfl : k = 40 := by omega
      refine v_iload_n C dXD_chooseThere_2 rfl rfl ?_
      refine v_bipush C dXD_chooseThere_3 (by decide +kernel) ?_
      refine v_icmp_gt (tgt := 32) C dXD_chooseThere_5 (by decide) (by omega) (by omega) (fun hc1 => ?_) (fun hc1 => ?_)
      · exact v_vret C hRt hLk dXD_chooseThere_32 hy
      · exfalso; omega
    | succ m ih =>
      intro k hk y hy
      obtain ⟨hi1, hi2, hi3, hi4⟩ := x_chR_I h0 k y (by omega) hy
      have hkt : ((k : Int) + 1).toNat = k + 1 := by omega
      have hb2 : 0 ≤ y.2 2 ((k : Int) + 1).toNat ∧ y.2 2 ((k : Int) + 1).toNat ≤ 1 := by rw [hi3 2 _ (by decide)]; exact h2 _
      have hbe : y.2 2 ((k : Int) + 1).toNat = σ.2 2 (k + 1) := by rw [hkt]; exact hi3 2 _ (by decide)
      refine v_iload_n C dXD_chooseThere_2 rfl rfl ?_
      refine v_bipush C dXD_chooseThere_3 (by decide +kernel) ?_
      refine v_icmp_gt (tgt := 32) C dXD_chooseThere_5 (by decide) (by omega) (by omega) (fun hc2 => ?_) (fun hc2 => ?_)
      · exfalso; omega
      · refine v_aload_n C dXD_chooseThere_8 rfl rfl ?_
        refine v_getR (k := 374) (q := 0) C dXD_chooseThere_9 (by show (374 : Nat) < 383; decide) rfl rfl (by decide) rfl inXD lXD_26 rfl ?_
        refine v_getR (k := 1) (q := 0) C dXD_chooseThere_12 (by show (1 : Nat) < 383; decide) rfl rfl (by decide) rfl inXS lXD_44 rfl ?_
        refine v_iload_n C dXD_chooseThere_15 rfl rfl ?_
        refine v_zald (k := 2) (v := y.2 2 (((k : Int) + 1)).toNat) C dXD_chooseThere_16 (by show (2 : Nat) < 383; decide) rfl rfl (by omega) (by decide) rfl ?_
        refine v_if_eq (tgt := 26) C dXD_chooseThere_17 (by decide) (by omega) (fun hc3 => ?_) (fun hc3 => ?_)
        · refine v_iinc C dXD_chooseThere_26 rfl (by decide) ?_
          refine v_goto (tgt := 2) C dXD_chooseThere_29 (by decide) ?_
          exact ih (k + 1) (by omega) _ (by first | exact ⟨y, hy, Or.inl ⟨by omega, hp1⟩⟩ | exact ⟨y, hy, Or.inr ⟨by omega, rfl⟩⟩)
        · refine v_aload_n C dXD_chooseThere_20 rfl rfl ?_
          refine v_iload_n C dXD_chooseThere_21 rfl rfl ?_
          refine v_iload_n C dXD_chooseThere_22 rfl rfl ?_
          refine v_cVV (k := 374) (n := 2) C (xE_ok _) hEz hR (kX_XD_insert _ D cA ad hJ y ((k : Int) + 1) how (by omega) hh (by omega) hi4 (fun i => by rw [hi3 3 i (by decide)]; exact h3 i) (fun i => by rw [hi3 4 i (by decide)]; exact h4 i)) dXD_chooseThere_23 (by show (374 : Nat) < 383; decide) rfl rfl gXD_50 (by decide +kernel) (by decide) (by decide) rfl (Nat.le_of_ble_eq_true rfl) rfl ⟨rfl, rfl⟩ (fun σ1 hp1 => ?_)
          refine v_iinc C dXD_chooseThere_26 rfl (by decide) ?_
          refine v_goto (tgt := 2) C dXD_chooseThere_29 (by decide) ?_
          exact ih (k + 1) (by omega) _ (by first | exact ⟨y, hy, Or.inl ⟨by omega, hp1⟩⟩ | exact ⟨y, hy, Or.inr ⟨by omega, rfl⟩⟩)
  refine v_iconst C dXD_chooseThere_0 ?_
  refine v_istore_n C dXD_chooseThere_1 rfl (by decide) ?_
  exact v_lv rfl (L 40 0 (by omega) σ rfl)
