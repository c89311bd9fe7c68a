/-! rows, one behind the other -/
/-- what a row at p tells, and where it ends -/
def q_pl (fb : Nat → Int) (fn p : Int) : Int := if q_va fb fn (q_np fb fn p + 1) = 45 then -1 else q_nr fb fn (q_np fb fn p + 1)
def q_re (fb : Nat → Int) (fn p : Int) : Int := if q_va fb fn (q_np fb fn p + 1) = 45 then q_np fb fn p + 2 else q_np fb fn (q_np fb fn p + 1)
def q_rw (fb : Nat → Int) (fn x ab p : Int) : Prop := (ab < q_nr fb fn p ∧ q_nr fb fn p ≤ 40) ∧ q_va fb fn (q_np fb fn p) = 32 ∧ (q_va fb fn (q_np fb fn p + 1) = 45 ∨ (q_nr fb fn (q_np fb fn p + 1) ≠ -1 ∧ q_nr fb fn (q_np fb fn p + 1) < x)) ∧ q_va fb fn (q_re fb fn p) = 10
def q_rat (fb : Nat → Int) (fn p : Int) : Nat → Int
  | 0 => p
  | i + 1 => q_re fb fn (q_rat fb fn p i) + 1
def q_ab (fb : Nat → Int) (fn p : Int) : Nat → Int
  | 0 => 0
  | i + 1 => q_nr fb fn (q_rat fb fn p i)
def q_rwi (fb : Nat → Int) (fn x p : Int) (i : Nat) : Prop := q_rw fb fn x (q_ab fb fn p i) (q_rat fb fn p i)
theorem q_rw_r {fb : Nat → Int} {fn x ab p : Int} (h : q_rw fb fn x ab p) (h0 : 0 ≤ p) : (-1 ≤ q_pl fb fn p ∧ q_pl fb fn p ≤ 99999) ∧ (q_pl fb fn p = -1 ∨ q_pl fb fn p < x) ∧ p < q_re fb fn p + 1 ∧ q_re fb fn p + 1 ≤ fn := by
  obtain ⟨-, h2, h3, h4⟩ := h
  have a := q_np_r fb fn p
  have b := q_np_r fb fn (q_np fb fn p + 1)
  have c := q_va_in (fb := fb) (fn := fn) (i := q_re fb fn p) (by omega)
  have d : q_re fb fn p = if q_va fb fn (q_np fb fn p + 1) = 45 then q_np fb fn p + 2 else q_np fb fn (q_np fb fn p + 1) := rfl
  unfold q_pl
  split at d
  · rename_i g
    rw [if_pos g]
    exact ⟨by omega, Or.inl rfl, by omega, by omega⟩
  · rename_i g
    rw [if_neg g]
    rcases h3 with h3 | h3
    · exact absurd h3 g
    · exact ⟨by omega, Or.inr h3.2, by omega, by omega⟩
theorem q_rat_r {fb : Nat → Int} {fn x p : Int} (h0 : 0 ≤ p ∧ p ≤ fn) : ∀ j : Nat, (∀ i, i < j → q_rwi fb fn x p i) → (0 ≤ q_rat fb fn p j ∧ q_rat fb fn p j ≤ fn) ∧ (0 ≤ q_ab fb fn p j ∧ q_ab fb fn p j ≤ 40) := by
  intro j
  induction j with
  | zero => intro _; exact ⟨h0, show (0 : Int) ≤ 0 ∧ (0 : Int) ≤ 40 by omega⟩
  | succ j ih =>
    intro h
    obtain ⟨i1, i2⟩ := ih (fun i hi => h i (by omega))
    have hj := h j (by omega)
    have hr := q_rw_r hj i1.1
    refine ⟨?_, ?_⟩
    · show 0 ≤ q_re fb fn (q_rat fb fn p j) + 1 ∧ q_re fb fn (q_rat fb fn p j) + 1 ≤ fn
      omega
    · show 0 ≤ q_nr fb fn (q_rat fb fn p j) ∧ q_nr fb fn (q_rat fb fn p j) ≤ 40
      have := hj.1
      omega
/-- the rows are laid into a table -/
def x_rwF (fb : Nat → Int) (fn : Int) (σ : fS) (r : Nat) (p : Int) : Nat → fS
  | 0 => σ
  | i + 1 => f_p2 (x_rwF fb fn σ r p i) (r + 1) (q_nr fb fn (q_rat fb fn p i)).toNat (q_pl fb fn (q_rat fb fn p i))
theorem x_rwF_1 (fb : Nat → Int) (fn : Int) (σ : fS) (r : Nat) (p : Int) : ∀ j, (x_rwF fb fn σ r p j).1 = σ.1 := by
  intro j
  induction j with
  | zero => rfl
  | succ j ih => exact ih
theorem x_rwF_2 (fb : Nat → Int) (fn : Int) (σ : fS) (r : Nat) (p : Int) (a : Nat) (h : a ≠ r + 1) : ∀ j, (x_rwF fb fn σ r p j).2 a = σ.2 a := by
  intro j
  induction j with
  | zero => rfl
  | succ j ih =>
    show (f_p2 _ _ _ _).2 a = _
    rw [← ih]
    funext b
    rw [p2_2, if_neg (by omega)]
theorem x_rwF_r {fb : Nat → Int} {fn x p : Int} {σ : fS} {r : Nat} (h0 : 0 ≤ p ∧ p ≤ fn) (hb : ∀ i, -2 ≤ σ.2 (r + 1) i ∧ σ.2 (r + 1) i ≤ 99999) : ∀ j : Nat, (∀ i, i < j → q_rwi fb fn x p i) → ∀ i, -2 ≤ (x_rwF fb fn σ r p j).2 (r + 1) i ∧ (x_rwF fb fn σ r p j).2 (r + 1) i ≤ 99999 := by
  intro j
  induction j with
  | zero => intro _; exact hb
  | succ j ih =>
    intro h i
    have e := ih (fun i hi => h i (by omega)) i
    have hr := q_rw_r (h j (by omega)) (q_rat_r h0 j (fun i hi => h i (by omega))).1.1
    show -2 ≤ (f_p2 _ _ _ _).2 (r + 1) i ∧ (f_p2 _ _ _ _).2 (r + 1) i ≤ 99999
    rw [p2_2]
    split
    · omega
    · exact e
/-- a table's places changed within their range, and the next place -/
def x_scp (σ : fS) (r : Nat) (σ1 : fS) : Prop := (∀ a b, ¬ (a = 192 ∧ b = 3) → σ1.1 a b = σ.1 a b) ∧ (∀ a, a ≠ r + 1 → σ1.2 a = σ.2 a) ∧ ∀ i, -2 ≤ σ1.2 (r + 1) i ∧ σ1.2 (r + 1) i ≤ 99999
def q_rf (fb : Nat → Int) (fn : Int) (σ : fS) (r : Nat) (p w : Int) (v : Int) (σ1 : fS) : Prop :=
  (∃ j : Nat, (j : Int) < w ∧ (∀ i, i < j → q_rwi fb fn (σ.1 r 2) p i) ∧ ¬ q_rwi fb fn (σ.1 r 2) p j ∧ v = q_rat fb fn p j ∧ x_scp σ r σ1) ∨
  ((∀ i : Nat, (i : Int) < w → q_rwi fb fn (σ.1 r 2) p i) ∧ v = -1 ∧ σ1 = x_nx (x_rwF fb fn σ r p w.toNat) (q_rat fb fn p w.toNat))
theorem x_scp_nx {σ B : fS} {r : Nat} (h : x_scp σ r B) (y : Int) : x_scp σ r (x_nx B y) := ⟨fun a b g => by unfold x_nx; rw [p1_1, if_neg g]; exact h.1 a b g, h.2.1, h.2.2⟩
theorem x_scp_p2 {σ B : fS} {r : Nat} (h : x_scp σ r B) (q : Nat) {v : Int} (hv : -2 ≤ v ∧ v ≤ 99999) : x_scp σ r (f_p2 B (r + 1) q v) := ⟨h.1, fun a g => (by funext b; rw [p2_2, if_neg (by omega), h.2.1 a g]), fun i => by
  rw [p2_2]
  split
  · exact hv
  · exact h.2.2 i⟩
theorem x_scp_nx2 {σ B : fS} {r q : Nat} {a b v : Int} (h : x_scp σ r B) (hv : -2 ≤ v ∧ v ≤ 99999) : x_scp σ r (x_nx (f_p2 (x_nx B a) (r + 1) q v) b) := x_scp_nx (x_scp_p2 (x_scp_nx h a) q hv) b
theorem x_nx_p2 (B : fS) (r q : Nat) (a v : Int) : f_p2 (x_nx B a) (r + 1) q v = x_nx (f_p2 B (r + 1) q v) a := rfl
set_option maxRecDepth 100000 in
set_option maxHeartbeats 4000000 in
/-- rowsFault -/
theorem kX_XC_rowsFault (l : Launch) (D : va_G) (cA : Nat → ClassId) (ad : Nat → Nat) (hJ : f_J (xG D cA ad)) (σ : fS) (r : Nat) (hr : r + 2 < 383) (hY0 : xY r = .inl (4, 4, fXT r)) (hY1 : xY (r + 1) = .inr (.inl (0, 41))) (hY2 : xY (r + 2) = .inr (.inl (0, 41))) (hr2 : 193 < r) (w p : Int) (hw : 0 ≤ w ∧ w ≤ 99999) (fb : Nat → Int) (fn : Int) (hfb : σ.2 9 = fb) (hfn : σ.1 8 1 = fn) (hn0 : 0 ≤ fn ∧ fn ≤ 12000) (hb9 : ∀ i, -128 ≤ fb i ∧ fb i ≤ 127) (hp : 0 ≤ p ∧ p ≤ fn) (hp0 : σ.1 192 3 = p) (hx : 0 ≤ σ.1 r 2 ∧ σ.1 r 2 ≤ 12000) (hbp : ∀ i, -2 ≤ σ.2 (r + 1) i ∧ σ.2 (r + 1) i ≤ 99999) : f_M l (xG D cA ad) (xE (xG D cA ad)) yXC_rowsFault (Cond.code yXC_rowsFault cXC_rowsFault 8 (some .int) :: A9) 2 σ [.ref (ad 192), .ref (ad (r)), .int (fI w)] (f_QI (fun v σ1 => q_rf fb fn σ r p w v σ1) (xG D cA ad)) := by
  refine f_enter (by decide +kernel) hJ rfl (Nat.le_of_ble_eq_true rfl) ?_
  intro z hzl hR C hRt hLk hEz
  subst hzl
  have hRR : 2 ≤ z.2.2.2.1.frames ∧ 40 * 2 ≤ z.2.2.2.1.locals ∧ 0 ≤ z.2.2.2.1.cells ∧ 0 ≤ z.2.2.2.1.slots := by rw [hR]; exact ⟨Nat.le_refl _, Nat.le_refl _, Nat.zero_le _, Nat.zero_le _⟩
  have L : ∀ (m j : Nat), m + j = w.toNat → (∀ i, i < j → q_rwi fb fn (σ.1 r 2) p i) → ∀ o5 o6 o7 : Option Value, fv z (xG D cA ad) 8 (f_R z (xG D cA ad) (f_QI (fun v σ1 => q_rf fb fn σ r p w v σ1) (xG D cA ad))) 0 0 (x_nx (x_rwF fb fn σ r p j) (q_rat fb fn p j)) 5 [some (.ref (ad 192)), some (.ref (ad r)), some (.int (fI w)), some (.int (fI (q_ab fb fn p j))), some (.int (fI (j : Int))), o5, o6, o7] [] := by
    intro m
    induction m with
    | zero =>
      intro j hj hall o5 o6 o7
      obtain ⟨P, hP⟩ : ∃ v, v = q_rat fb fn p j := ⟨_, rfl⟩
      obtain ⟨A, hA⟩ : ∃ v, v = q_ab fb fn p j := ⟨_, rfl⟩
      obtain ⟨B, hB⟩ : ∃ s, s = x_rwF fb fn σ r p j := ⟨_, rfl⟩
      have hPA := q_rat_r hp j hall
      rw [← hP, ← hA] at hPA ⊢
      rw [← hB]
      have hB1 : B.1 = σ.1 := by rw [hB]; exact x_rwF_1 _ _ _ _ _ _
      have hBb : B.2 9 = fb := by rw [hB, x_rwF_2 _ _ _ _ _ 9 (by omega)]; exact hfb
      have hBn : B.1 8 1 = fn := by rw [hB1]; exact hfn
      have hBr : ∀ q, B.1 r q = σ.1 r q := fun q => by rw [hB1]
      have hSB : x_scp σ r B := ⟨fun a b _ => by rw [hB1], fun a g => by rw [hB]; exact x_rwF_2 _ _ _ _ _ a g _, by rw [hB]; exact x_rwF_r hp hbp j hall⟩
      refine v_iload C dXC_rowsFault_5 rfl ?_
      refine v_iload_n C dXC_rowsFault_7 rfl rfl ?_
      refine v_icmp_ge (tgt := 122) C dXC_rowsFault_8 (by decide) (by omega) (by omega) (fun hc1 => ?_) (fun hc1 => ?_)
      · refine v_iconst C dXC_rowsFault_122 ?_
        exact v_iret C hRt hLk dXC_rowsFault_123 (by subst hP hA hB; exact Or.inr ⟨fun i hi => hall i (by omega), rfl, by rw [show w.toNat = j by omega]⟩)
      · exfalso; omega
    | succ m ih =>
      intro j hj hall o5 o6 o7
      obtain ⟨P, hP⟩ : ∃ v, v = q_rat fb fn p j := ⟨_, rfl⟩
      obtain ⟨A, hA⟩ : ∃ v, v = q_ab fb fn p j := ⟨_, rfl⟩
      obtain ⟨B, hB⟩ : ∃ s, s = x_rwF fb fn σ r p j := ⟨_, rfl⟩
      have hPA := q_rat_r hp j hall
      rw [← hP, ← hA] at hPA ⊢
      rw [← hB]
      have hB1 : B.1 = σ.1 := by rw [hB]; exact x_rwF_1 _ _ _ _ _ _
      have hBb : B.2 9 = fb := by rw [hB, x_rwF_2 _ _ _ _ _ 9 (by omega)]; exact hfb
      have hBn : B.1 8 1 = fn := by rw [hB1]; exact hfn
      have hBr : ∀ q, B.1 r q = σ.1 r q := fun q => by rw [hB1]
      have hSB : x_scp σ r B := ⟨fun a b _ => by rw [hB1], fun a g => by rw [hB]; exact x_rwF_2 _ _ _ _ _ a g _, by rw [hB]; exact x_rwF_r hp hbp j hall⟩
      have hnp := q_np_r fb fn P
      have hnp2 := q_np_r fb fn (q_np fb fn P + 1)
      have hpld : q_pl fb fn P = if q_va fb fn (q_np fb fn P + 1) = 45 then -1 else q_nr fb fn (q_np fb fn P + 1) := rfl
      have hred : q_re fb fn P = if q_va fb fn (q_np fb fn P + 1) = 45 then q_np fb fn P + 2 else q_np fb fn (q_np fb fn P + 1) := rfl
      refine v_iload C dXC_rowsFault_5 rfl ?_
      refine v_iload_n C dXC_rowsFault_7 rfl rfl ?_
      refine v_icmp_ge (tgt := 122) C dXC_rowsFault_8 (by decide) (by omega) (by omega) (fun hc2 => ?_) (fun hc2 => ?_)
      · exfalso; omega
      · refine v_aload_n C dXC_rowsFault_11 rfl rfl ?_
        refine v_getI (k := 192) (q := 3) (v := P) C dXC_rowsFault_12 (by show (192 : Nat) < 383; decide) rfl rfl (by decide) rfl inXC lXC_73 rfl rfl ?_
        refine v_istore C dXC_rowsFault_15 (by decide) ?_
        refine v_aload_n C dXC_rowsFault_17 rfl rfl ?_
        refine v_cVI (k := 192) (n := 0) C (xE_ok _) hEz hR (kX_XC_number _ D cA ad hJ (x_nx B (P)) (P) (by omega) rfl fb fn hBb hBn hn0 hb9) dXC_rowsFault_18 (by show (192 : Nat) < 383; decide) rfl rfl gXC_76 (by decide +kernel) (by decide) (by decide) rfl (Nat.le_of_ble_eq_true rfl) rfl ⟨rfl, rfl⟩ (fun rn3 σn3 hpn3 => ?_)
        obtain ⟨e1n3, e2n3⟩ := hpn3
        subst σn3
        subst e1n3
        have hn3 := q_np_r fb fn (P)
        refine v_st (x_nx_nx _ _ _) ?_
        refine v_istore C dXC_rowsFault_21 (by decide) ?_
        refine v_iload C dXC_rowsFault_23 rfl ?_
        refine v_iload_n C dXC_rowsFault_25 rfl rfl ?_
        refine v_icmp_le (tgt := 45) C dXC_rowsFault_26 (by decide) (by omega) (by omega) (fun hc4 => ?_) (fun hc4 => ?_)
        · refine v_iload C dXC_rowsFault_45 rfl ?_
          exact v_iret C hRt hLk dXC_rowsFault_47 (Or.inl ⟨j, by omega, hall, fun h => by have h9 : q_rw fb fn (σ.1 r 2) A P := (by rw [hA, hP]; exact h); unfold q_rw at h9; omega, hP, by first | exact x_scp_nx hSB _ | exact x_scp_nx hSB2 _⟩)
        · refine v_iload C dXC_rowsFault_29 rfl ?_
          refine v_bipush C dXC_rowsFault_31 (by decide +kernel) ?_
          refine v_icmp_gt (tgt := 45) C dXC_rowsFault_33 (by decide) (by omega) (by omega) (fun hc5 => ?_) (fun hc5 => ?_)
          · refine v_iload C dXC_rowsFault_45 rfl ?_
            exact v_iret C hRt hLk dXC_rowsFault_47 (Or.inl ⟨j, by omega, hall, fun h => by have h9 : q_rw fb fn (σ.1 r 2) A P := (by rw [hA, hP]; exact h); unfold q_rw at h9; omega, hP, by first | exact x_scp_nx hSB _ | exact x_scp_nx hSB2 _⟩)
          · refine v_aload_n C dXC_rowsFault_36 rfl rfl ?_
            refine v_bipush C dXC_rowsFault_37 (by decide +kernel) ?_
            refine v_cVI (k := 192) (n := 1) C (xE_ok _) hEz hR (kX_XC_accept _ D cA ad hJ (x_nx B (q_np fb fn (P))) (32) (by omega) (by show -2147483648 ≤ q_np fb fn (P) ∧ q_np fb fn (P) ≤ 2147483647; omega) fb fn hBb hBn hn0 hb9) dXC_rowsFault_39 (by show (192 : Nat) < 383; decide) rfl rfl gXC_79 (by decide +kernel) (by decide) (by decide) rfl (Nat.le_of_ble_eq_true rfl) rfl ⟨rfl, rfl⟩ (fun ra6 σa6 hpa6 => ?_)
            obtain ⟨ha6, rfl, rfl⟩ | ⟨ha6, rfl, rfl⟩ := hpa6
            · have ha6q : q_va fb fn (q_np fb fn (P)) = 32 := ha6
              have ha6i := q_va_in (fb := fb) (fn := fn) (i := q_np fb fn (P)) (by omega)
              refine v_st (x_nx_nx _ _ _) ?_
              refine v_if_ne (tgt := 48) C dXC_rowsFault_42 (by decide) (by omega) (fun hc7 => ?_) (fun hc7 => ?_)
              · refine v_aload_n C dXC_rowsFault_48 rfl rfl ?_
                refine v_bipush C dXC_rowsFault_49 (by decide +kernel) ?_
                refine v_cVI (k := 192) (n := 1) C (xE_ok _) hEz hR (kX_XC_accept _ D cA ad hJ (x_nx B (q_np fb fn (P) + 1)) (45) (by omega) (by show -2147483648 ≤ q_np fb fn (P) + 1 ∧ q_np fb fn (P) + 1 ≤ 2147483647; omega) fb fn hBb hBn hn0 hb9) dXC_rowsFault_51 (by show (192 : Nat) < 383; decide) rfl rfl gXC_79 (by decide +kernel) (by decide) (by decide) rfl (Nat.le_of_ble_eq_true rfl) rfl ⟨rfl, rfl⟩ (fun ra8 σa8 hpa8 => ?_)
                obtain ⟨ha8, rfl, rfl⟩ | ⟨ha8, rfl, rfl⟩ := hpa8
                · have ha8q : q_va fb fn (q_np fb fn (P) + 1) = 45 := ha8
                  have ha8i := q_va_in (fb := fb) (fn := fn) (i := q_np fb fn (P) + 1) (by omega)
                  refine v_st (σ1 := x_nx B (q_np fb fn (P) + 2)) ((x_nx_nx _ _ _).trans (by show x_nx B (q_np fb fn (P) + 1 + 1) = x_nx B (q_np fb fn (P) + 2); congr 1; omega)) ?_
                  refine v_if_eq (tgt := 68) C dXC_rowsFault_54 (by decide) (by omega) (fun hc9 => ?_) (fun hc9 => ?_)
                  · exfalso; omega
                  · refine v_aload_n C dXC_rowsFault_57 rfl rfl ?_
                    refine v_getR (k := r) (q := 0) C dXC_rowsFault_58 (by show (r : Nat) < 383; omega) (hY0) rfl (by decide) rfl inXT lXC_83 rfl ?_
                    refine v_iload C dXC_rowsFault_61 rfl ?_
                    refine v_iconst C dXC_rowsFault_63 ?_
                    refine v_iast (k := (r + 1)) C dXC_rowsFault_64 (by show ((r + 1) : Nat) < 383; omega) (hY1) rfl (by omega) (by decide) ?_
                    refine v_goto (tgt := 101) C dXC_rowsFault_65 (by decide) ?_
                    rw [if_pos (by omega)] at hpld hred
                    obtain ⟨B2, hB2⟩ : ∃ s, s = f_p2 B (r + 1) (q_nr fb fn P).toNat (q_pl fb fn P) := ⟨_, rfl⟩
                    have hSB2 : x_scp σ r B2 := by rw [hB2]; exact x_scp_p2 hSB _ (by omega)
                    have hBb2 : B2.2 9 = fb := by rw [hSB2.2.1 9 (by omega)]; exact hfb
                    have hBn2 : B2.1 8 1 = fn := by rw [hSB2.1 8 1 (by omega)]; exact hfn
                    refine v_st (σ1 := x_nx B2 (q_re fb fn P)) (by rw [hB2, hpld, hred]; rfl) ?_
                    refine v_aload_n C dXC_rowsFault_101 rfl rfl ?_
                    refine v_bipush C dXC_rowsFault_102 (by decide +kernel) ?_
                    refine v_cVI (k := 192) (n := 1) C (xE_ok _) hEz hR (kX_XC_accept _ D cA ad hJ (x_nx B2 (q_re fb fn P)) (10) (by omega) (by show -2147483648 ≤ q_re fb fn P ∧ q_re fb fn P ≤ 2147483647; omega) fb fn hBb2 hBn2 hn0 hb9) dXC_rowsFault_104 (by show (192 : Nat) < 383; decide) rfl rfl gXC_79 (by decide +kernel) (by decide) (by decide) rfl (Nat.le_of_ble_eq_true rfl) rfl ⟨rfl, rfl⟩ (fun ra10 σa10 hpa10 => ?_)
                    obtain ⟨ha10, rfl, rfl⟩ | ⟨ha10, rfl, rfl⟩ := hpa10
                    · have ha10q : q_va fb fn (q_re fb fn P) = 10 := ha10
                      have ha10i := q_va_in (fb := fb) (fn := fn) (i := q_re fb fn P) (by omega)
                      refine v_st (x_nx_nx _ _ _) ?_
                      refine v_if_ne (tgt := 113) C dXC_rowsFault_107 (by decide) (by omega) (fun hc11 => ?_) (fun hc11 => ?_)
                      · refine v_iload C dXC_rowsFault_113 rfl ?_
                        refine v_istore_n C dXC_rowsFault_115 rfl (by decide) ?_
                        refine v_iinc C dXC_rowsFault_116 rfl (by decide) ?_
                        refine v_goto (tgt := 5) C dXC_rowsFault_119 (by decide) ?_
                        exact v_st (by rw [hB2, hB]; show x_nx _ (q_re fb fn P + 1) = x_nx (f_p2 _ _ _ _) (q_re fb fn (q_rat fb fn p j) + 1); rw [← hP]) (v_lv (by show _ = [_, _, _, some (Value.int (fI (q_nr fb fn (q_rat fb fn p j)))), _, _, _, _]; rw [← hP]; rfl) (ih (j + 1) (by omega) (fun i hi => by rcases (show i < j ∨ i = j by omega) with h | h; (· exact hall i h); (· rw [h]; show q_rw _ _ _ (q_ab fb fn p j) (q_rat fb fn p j); rw [← hA, ← hP]; exact ⟨by omega, by assumption, by omega, by assumption⟩)) _ _ _))
                      · exfalso; omega
                    · have ha10q : ¬ q_va fb fn (q_re fb fn P) = 10 := ha10
                      refine v_if_ne (tgt := 113) C dXC_rowsFault_107 (by decide) (by omega) (fun hc12 => ?_) (fun hc12 => ?_)
                      · exfalso; omega
                      · refine v_iload C dXC_rowsFault_110 rfl ?_
                        exact v_iret C hRt hLk dXC_rowsFault_112 (Or.inl ⟨j, by omega, hall, fun h => by have h9 : q_rw fb fn (σ.1 r 2) A P := (by rw [hA, hP]; exact h); unfold q_rw at h9; omega, hP, by first | exact x_scp_nx hSB _ | exact x_scp_nx hSB2 _⟩)
                · have ha8q : ¬ q_va fb fn (q_np fb fn (P) + 1) = 45 := ha8
                  refine v_if_eq (tgt := 68) C dXC_rowsFault_54 (by decide) (by omega) (fun hc13 => ?_) (fun hc13 => ?_)
                  · refine v_aload_n C dXC_rowsFault_68 rfl rfl ?_
                    refine v_cVI (k := 192) (n := 0) C (xE_ok _) hEz hR (kX_XC_number _ D cA ad hJ (x_nx B (q_np fb fn (P) + 1)) (q_np fb fn (P) + 1) (by omega) rfl fb fn hBb hBn hn0 hb9) dXC_rowsFault_69 (by show (192 : Nat) < 383; decide) rfl rfl gXC_76 (by decide +kernel) (by decide) (by decide) rfl (Nat.le_of_ble_eq_true rfl) rfl ⟨rfl, rfl⟩ (fun rn14 σn14 hpn14 => ?_)
                    obtain ⟨e1n14, e2n14⟩ := hpn14
                    subst σn14
                    subst e1n14
                    have hn14 := q_np_r fb fn (q_np fb fn (P) + 1)
                    refine v_st (x_nx_nx _ _ _) ?_
                    refine v_istore C dXC_rowsFault_72 (by decide) ?_
                    refine v_iload C dXC_rowsFault_74 rfl ?_
                    refine v_iconst C dXC_rowsFault_76 ?_
                    refine v_icmp_eq (tgt := 89) C dXC_rowsFault_77 (by decide) (by omega) (by omega) (fun hc15 => ?_) (fun hc15 => ?_)
                    · refine v_iload C dXC_rowsFault_89 rfl ?_
                      exact v_iret C hRt hLk dXC_rowsFault_91 (Or.inl ⟨j, by omega, hall, fun h => by have h9 : q_rw fb fn (σ.1 r 2) A P := (by rw [hA, hP]; exact h); unfold q_rw at h9; omega, hP, by first | exact x_scp_nx hSB _ | exact x_scp_nx hSB2 _⟩)
                    · refine v_iload C dXC_rowsFault_80 rfl ?_
                      refine v_aload_n C dXC_rowsFault_82 rfl rfl ?_
                      refine v_getI (k := r) (q := 2) (v := σ.1 r 2) C dXC_rowsFault_83 (by show (r : Nat) < 383; omega) (hY0) rfl (by decide) rfl inXT lXC_60 rfl (by show (x_nx B _).1 r 2 = _; unfold x_nx; rw [p1_1, if_neg (by omega)]; exact hBr 2) ?_
                      refine v_icmp_lt (tgt := 92) C dXC_rowsFault_86 (by decide) (by omega) (by omega) (fun hc16 => ?_) (fun hc16 => ?_)
                      · refine v_aload_n C dXC_rowsFault_92 rfl rfl ?_
                        refine v_getR (k := r) (q := 0) C dXC_rowsFault_93 (by show (r : Nat) < 383; omega) (hY0) rfl (by decide) rfl inXT lXC_83 rfl ?_
                        refine v_iload C dXC_rowsFault_96 rfl ?_
                        refine v_iload C dXC_rowsFault_98 rfl ?_
                        refine v_iast (k := (r + 1)) C dXC_rowsFault_100 (by show ((r + 1) : Nat) < 383; omega) (hY1) rfl (by omega) (by decide) ?_
                        rw [if_neg (by omega)] at hpld hred
                        obtain ⟨B2, hB2⟩ : ∃ s, s = f_p2 B (r + 1) (q_nr fb fn P).toNat (q_pl fb fn P) := ⟨_, rfl⟩
                        have hSB2 : x_scp σ r B2 := by rw [hB2]; exact x_scp_p2 hSB _ (by omega)
                        have hBb2 : B2.2 9 = fb := by rw [hSB2.2.1 9 (by omega)]; exact hfb
                        have hBn2 : B2.1 8 1 = fn := by rw [hSB2.1 8 1 (by omega)]; exact hfn
                        refine v_st (σ1 := x_nx B2 (q_re fb fn P)) (by rw [hB2, hpld, hred]; rfl) ?_
                        refine v_aload_n C dXC_rowsFault_101 rfl rfl ?_
                        refine v_bipush C dXC_rowsFault_102 (by decide +kernel) ?_
                        refine v_cVI (k := 192) (n := 1) C (xE_ok _) hEz hR (kX_XC_accept _ D cA ad hJ (x_nx B2 (q_re fb fn P)) (10) (by omega) (by show -2147483648 ≤ q_re fb fn P ∧ q_re fb fn P ≤ 2147483647; omega) fb fn hBb2 hBn2 hn0 hb9) dXC_rowsFault_104 (by show (192 : Nat) < 383; decide) rfl rfl gXC_79 (by decide +kernel) (by decide) (by decide) rfl (Nat.le_of_ble_eq_true rfl) rfl ⟨rfl, rfl⟩ (fun ra17 σa17 hpa17 => ?_)
                        obtain ⟨ha17, rfl, rfl⟩ | ⟨ha17, rfl, rfl⟩ := hpa17
                        · have ha17q : q_va fb fn (q_re fb fn P) = 10 := ha17
                          have ha17i := q_va_in (fb := fb) (fn := fn) (i := q_re fb fn P) (by omega)
                          refine v_st (x_nx_nx _ _ _) ?_
                          refine v_if_ne (tgt := 113) C dXC_rowsFault_107 (by decide) (by omega) (fun hc18 => ?_) (fun hc18 => ?_)
                          · refine v_iload C dXC_rowsFault_113 rfl ?_
                            refine v_istore_n C dXC_rowsFault_115 rfl (by decide) ?_
                            refine v_iinc C dXC_rowsFault_116 rfl (by decide) ?_
                            refine v_goto (tgt := 5) C dXC_rowsFault_119 (by decide) ?_
                            exact v_st (by rw [hB2, hB]; show x_nx _ (q_re fb fn P + 1) = x_nx (f_p2 _ _ _ _) (q_re fb fn (q_rat fb fn p j) + 1); rw [← hP]) (v_lv (by show _ = [_, _, _, some (Value.int (fI (q_nr fb fn (q_rat fb fn p j)))), _, _, _, _]; rw [← hP]; rfl) (ih (j + 1) (by omega) (fun i hi => by rcases (show i < j ∨ i = j by omega) with h | h; (· exact hall i h); (· rw [h]; show q_rw _ _ _ (q_ab fb fn p j) (q_rat fb fn p j); rw [← hA, ← hP]; exact ⟨by omega, by assumption, by omega, by assumption⟩)) _ _ _))
                          · exfalso; omega
                        · have ha17q : ¬ q_va fb fn (q_re fb fn P) = 10 := ha17
                          refine v_if_ne (tgt := 113) C dXC_rowsFault_107 (by decide) (by omega) (fun hc19 => ?_) (fun hc19 => ?_)
                          · exfalso; omega
                          · refine v_iload C dXC_rowsFault_110 rfl ?_
                            exact v_iret C hRt hLk dXC_rowsFault_112 (Or.inl ⟨j, by omega, hall, fun h => by have h9 : q_rw fb fn (σ.1 r 2) A P := (by rw [hA, hP]; exact h); unfold q_rw at h9; omega, hP, by first | exact x_scp_nx hSB _ | exact x_scp_nx hSB2 _⟩)
                      · refine v_iload C dXC_rowsFault_89 rfl ?_
                        exact v_iret C hRt hLk dXC_rowsFault_91 (Or.inl ⟨j, by omega, hall, fun h => by have h9 : q_rw fb fn (σ.1 r 2) A P := (by rw [hA, hP]; exact h); unfold q_rw at h9; omega, hP, by first | exact x_scp_nx hSB _ | exact x_scp_nx hSB2 _⟩)
                  · exfalso; omega
              · exfalso; omega
            · have ha6q : ¬ q_va fb fn (q_np fb fn (P)) = 32 := ha6
              refine v_if_ne (tgt := 48) C dXC_rowsFault_42 (by decide) (by omega) (fun hc20 => ?_) (fun hc20 => ?_)
              · exfalso; omega
              · refine v_iload C dXC_rowsFault_45 rfl ?_
                exact v_iret C hRt hLk dXC_rowsFault_47 (Or.inl ⟨j, by omega, hall, fun h => by have h9 : q_rw fb fn (σ.1 r 2) A P := (by rw [hA, hP]; exact h); unfold q_rw at h9; omega, hP, by first | exact x_scp_nx hSB _ | exact x_scp_nx hSB2 _⟩)
  refine v_iconst C dXC_rowsFault_0 ?_
  refine v_istore_n C dXC_rowsFault_1 rfl (by decide) ?_
  refine v_iconst C dXC_rowsFault_2 ?_
  refine v_istore C dXC_rowsFault_3 (by decide) ?_
  exact v_st (x_nx_self σ hp0) (v_lv rfl (L w.toNat 0 (by omega) (fun i hi => absurd hi (by omega)) none none none))
