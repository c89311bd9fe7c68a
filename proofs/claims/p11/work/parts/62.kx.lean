/-! the records of a part, its end -/
def q_rci (fb : Nat → Int) (fn : Int) (σ : fS) (r i : Nat) : Prop := 0 ≤ σ.2 (r + 1) (i + 1) → q_rec fb fn ((i : Int) + 1) (σ.2 (r + 1) (i + 1)) (σ.1 r 2)
def x_rlF (fb : Nat → Int) (fn : Int) (σ : fS) (r : Nat) : Nat → fS
  | 0 => σ
  | k + 1 => if 0 ≤ σ.2 (r + 1) (k + 1) then f_p2 (x_rlF fb fn σ r k) (r + 2) (k + 1) (q_len fb fn (σ.2 (r + 1) (k + 1))) else x_rlF fb fn σ r k
theorem q_rec_r {fb : Nat → Int} {fn n p x : Int} (h : q_rec fb fn n p x) : (0 ≤ q_len fb fn p ∧ q_len fb fn p ≤ 120) ∧ 0 ≤ p ∧ p < fn ∧ 0 ≤ q_by fb fn p ∧ q_by fb fn p + q_len fb fn p < x ∧ q_by fb fn p + q_len fb fn p < fn := by
  obtain ⟨h1, h2, h3, h4, h5, h6, h7, h8⟩ := h
  have a := q_np_r fb fn (q_la fb fn p)
  have b := q_np_r fb fn (p + 2)
  have e : q_len fb fn p = q_nr fb fn (q_la fb fn p) := rfl
  have e2 : q_la fb fn p = q_np fb fn (p + 2) + 1 := rfl
  have e3 : q_by fb fn p = q_np fb fn (q_la fb fn p) + 1 := rfl
  have i1 := q_va_in (fb := fb) (fn := fn) (i := p) (by omega)
  have i2 := q_va_in (fb := fb) (fn := fn) (i := q_by fb fn p + q_len fb fn p) (by omega)
  refine ⟨by omega, by omega, by omega, by omega, by omega, by omega⟩
theorem x_rlF_1 (fb : Nat → Int) (fn : Int) (σ : fS) (r : Nat) : ∀ k, (x_rlF fb fn σ r k).1 = σ.1 := by
  intro k
  induction k with
  | zero => rfl
  | succ k ih =>
    show (if _ then _ else _ : fS).1 = _
    split
    · exact ih
    · exact ih
theorem x_rlF_2 (fb : Nat → Int) (fn : Int) (σ : fS) (r a : Nat) (h : a ≠ r + 2) : ∀ k, (x_rlF fb fn σ r k).2 a = σ.2 a := by
  intro k
  induction k with
  | zero => rfl
  | succ k ih =>
    show (if _ then _ else _ : fS).2 a = _
    split
    · rw [← ih]; funext b; rw [p2_2, if_neg (by omega)]
    · exact ih
theorem x_rlF_r {fb : Nat → Int} {fn : Int} {σ : fS} {r : Nat} (hb : ∀ i, -1 ≤ σ.2 (r + 2) i ∧ σ.2 (r + 2) i ≤ 120) : ∀ k : Nat, (∀ i, i < k → q_rci fb fn σ r i) → ∀ i, -1 ≤ (x_rlF fb fn σ r k).2 (r + 2) i ∧ (x_rlF fb fn σ r k).2 (r + 2) i ≤ 120 := by
  intro k
  induction k with
  | zero => intro _; exact hb
  | succ k ih =>
    intro h i
    have e := ih (fun i hi => h i (by omega)) i
    show -1 ≤ (if _ then _ else _ : fS).2 (r + 2) i ∧ (if _ then _ else _ : fS).2 (r + 2) i ≤ 120
    split
    · rename_i g
      have := (q_rec_r (h k (by omega) g)).1
      rw [p2_2]
      split
      · omega
      · exact e
    · exact e
/-- a table's lengths changed within their range, and the next place -/
def x_scl (σ : fS) (r : Nat) (σ1 : fS) : Prop := (∀ a b, ¬ (a = 192 ∧ b = 3) → σ1.1 a b = σ.1 a b) ∧ (∀ a, a ≠ r + 2 → σ1.2 a = σ.2 a) ∧ ∀ i, -1 ≤ σ1.2 (r + 2) i ∧ σ1.2 (r + 2) i ≤ 120
theorem x_scl_nx {σ B : fS} {r : Nat} (h : x_scl σ r B) (y : Int) : x_scl σ r (x_nx B y) := ⟨fun a b g => by unfold x_nx; rw [p1_1, if_neg g]; exact h.1 a b g, h.2.1, h.2.2⟩
theorem x_scl_p2 {σ B : fS} {r : Nat} (h : x_scl σ r B) (q : Nat) {v : Int} (hv : -1 ≤ v ∧ v ≤ 120) : x_scl σ r (f_p2 B (r + 2) q v) := ⟨h.1, fun a g => (by funext b; rw [p2_2, if_neg (by omega), h.2.1 a g]), fun i => by
  rw [p2_2]
  split
  · exact hv
  · exact h.2.2 i⟩
def q_cf (fb : Nat → Int) (fn : Int) (σ : fS) (r : Nat) (v : Int) (σ1 : fS) : Prop :=
  (∃ j : Nat, j < 40 ∧ (∀ i, i < j → q_rci fb fn σ r i) ∧ ¬ q_rci fb fn σ r j ∧ v = σ.2 (r + 1) (j + 1) ∧ x_scl σ r σ1) ∨
  ((∀ i : Nat, i < 40 → q_rci fb fn σ r i) ∧ v = -1 ∧ ∃ y, σ1 = x_nx (x_rlF fb fn σ r 40) y)
/-- the rows p and e of a part -/
def q_okP (fb : Nat → Int) (fn x ct p : Int) : Prop := q_tg fb fn p 112 ∧ q_nr fb fn (p + 2) < x ∧ ¬ (q_nr fb fn (p + 2) ≠ 0 ∧ 60 ≤ ct + 1)
def q_okE (fb : Nat → Int) (fn x p : Int) : Prop := q_tg fb fn p 101 ∧ q_nr fb fn (p + 2) = x
def q_eat (fb : Nat → Int) (fn p : Int) : Int := q_np fb fn (p + 2) + 1
def q_ef (fb : Nat → Int) (fn : Int) (σ : fS) (r : Nat) (p v : Int) (σ1 : fS) : Prop :=
  (σ1.2 = σ.2 ∧ (∀ a b, ¬ (a = 192 ∧ (b = 3 ∨ b = 4)) → ¬ (a = r ∧ b = 3) → σ1.1 a b = σ.1 a b) ∧ (σ1.1 r 3 = σ.1 r 3 ∨ (0 ≤ σ1.1 r 3 ∧ σ1.1 r 3 ≤ fn))) ∧
  ((¬ q_okP fb fn (σ.1 r 2) (σ.1 192 2) p ∧ v = p) ∨ (q_okP fb fn (σ.1 r 2) (σ.1 192 2) p ∧ ((¬ q_okE fb fn (σ.1 r 2) (q_eat fb fn p) ∧ v = q_eat fb fn p) ∨
   (q_okE fb fn (σ.1 r 2) (q_eat fb fn p) ∧ σ1.1 192 4 = q_nr fb fn (p + 2) ∧ σ1.1 r 3 = q_eat fb fn (q_eat fb fn p) ∧ ((σ.1 192 2 = 0 ∧ q_eat fb fn (q_eat fb fn p) ≠ fn ∧ v = q_eat fb fn (q_eat fb fn p)) ∨ (¬ (σ.1 192 2 = 0 ∧ q_eat fb fn (q_eat fb fn p) ≠ fn) ∧ v = -1))))))
set_option maxRecDepth 100000 in
set_option maxHeartbeats 4000000 in
/-- recordsFault -/
theorem kX_XC_recordsFault (l : Launch) (D : va_G) (cA : Nat → ClassId) (ad : Nat → Nat) (hJ : f_J (xG D cA ad)) (σ : fS) (r : Nat) (hr : r + 2 < 383) (hY0 : xY r = .inl (4, 4, fXT r)) (hY1 : xY (r + 1) = .inr (.inl (0, 41))) (hY2 : xY (r + 2) = .inr (.inl (0, 41))) (hr2 : 193 < r) (fb : Nat → Int) (fn : Int) (hfb : σ.2 9 = fb) (hfn : σ.1 8 1 = fn) (hn0 : 0 ≤ fn ∧ fn ≤ 12000) (hb9 : ∀ i, -128 ≤ fb i ∧ fb i ≤ 127) (hx : 0 ≤ σ.1 r 2 ∧ σ.1 r 2 ≤ 12000) (hbp : ∀ i, -2 ≤ σ.2 (r + 1) i ∧ σ.2 (r + 1) i ≤ 99999) (hbl : ∀ i, -1 ≤ σ.2 (r + 2) i ∧ σ.2 (r + 2) i ≤ 120) : f_M l (xG D cA ad) (xE (xG D cA ad)) yXC_recordsFault (Cond.code yXC_recordsFault cXC_recordsFault 4 (some .int) :: A9) 3 σ [.ref (ad 192), .ref (ad (r))] (f_QI (fun v σ1 => q_cf fb fn σ r v σ1) (xG D cA ad)) := by
  refine f_enter (by decide +kernel) hJ rfl (Nat.le_of_ble_eq_true rfl) ?_
  intro z hzl hR C hRt hLk hEz
  subst hzl
  have hRR : 3 ≤ z.2.2.2.1.frames ∧ 40 * 3 ≤ z.2.2.2.1.locals ∧ 0 ≤ z.2.2.2.1.cells ∧ 0 ≤ z.2.2.2.1.slots := by rw [hR]; exact ⟨Nat.le_refl _, Nat.le_refl _, Nat.zero_le _, Nat.zero_le _⟩
  have L : ∀ (m k : Nat), m + k = 40 → (∀ i, i < k → q_rci fb fn σ r i) → ∀ (y : Int) (o3 : Option Value), fv z (xG D cA ad) 4 (f_R z (xG D cA ad) (f_QI (fun v σ1 => q_cf fb fn σ r v σ1) (xG D cA ad))) 0 0 (x_nx (x_rlF fb fn σ r k) y) 2 [some (.ref (ad 192)), some (.ref (ad r)), some (.int (fI ((k : Int) + 1))), o3] [] := by
    intro m
    induction m with
    | zero =>
      intro k hk hall y o3
      obtain ⟨B, hB⟩ : ∃ s, s = x_rlF fb fn σ r k := ⟨_, rfl⟩
      rw [← hB]
      have hB1 : B.1 = σ.1 := by rw [hB]; exact x_rlF_1 _ _ _ _ _
      have hB2 : ∀ a, a ≠ r + 2 → B.2 a = σ.2 a := fun a g => by rw [hB]; exact x_rlF_2 _ _ _ _ a g _
      have hBb : B.2 9 = fb := by rw [hB2 9 (by omega)]; exact hfb
      have hBn : B.1 8 1 = fn := by rw [hB1]; exact hfn
      have hBr : ∀ q, B.1 r q = σ.1 r q := fun q => by rw [hB1]
      have hSB : x_scl σ r B := ⟨fun a b _ => by rw [hB1], fun a g => hB2 a g, by rw [hB]; exact x_rlF_r hbl k hall⟩
      obtain rfl : k = 40 := by omega
      refine v_iload_n C dXC_recordsFault_2 rfl rfl ?_
      refine v_bipush C dXC_recordsFault_3 (by decide +kernel) ?_
      refine v_icmp_gt (tgt := 56) C dXC_recordsFault_5 (by decide) (by omega) (by omega) (fun hc1 => ?_) (fun hc1 => ?_)
      · refine v_iconst C dXC_recordsFault_56 ?_
        exact v_iret C hRt hLk dXC_recordsFault_57 (by subst hB; exact Or.inr ⟨fun i hi => hall i hi, rfl, y, rfl⟩)
      · exfalso; omega
    | succ m ih =>
      intro k hk hall y o3
      obtain ⟨B, hB⟩ : ∃ s, s = x_rlF fb fn σ r k := ⟨_, rfl⟩
      rw [← hB]
      have hB1 : B.1 = σ.1 := by rw [hB]; exact x_rlF_1 _ _ _ _ _
      have hB2 : ∀ a, a ≠ r + 2 → B.2 a = σ.2 a := fun a g => by rw [hB]; exact x_rlF_2 _ _ _ _ a g _
      have hBb : B.2 9 = fb := by rw [hB2 9 (by omega)]; exact hfb
      have hBn : B.1 8 1 = fn := by rw [hB1]; exact hfn
      have hBr : ∀ q, B.1 r q = σ.1 r q := fun q => by rw [hB1]
      have hSB : x_scl σ r B := ⟨fun a b _ => by rw [hB1], fun a g => hB2 a g, by rw [hB]; exact x_rlF_r hbl k hall⟩
      have hkt : ((k : Int) + 1).toNat = k + 1 := by omega
      have hpl : (x_nx B y).2 (r + 1) ((k : Int) + 1).toNat = σ.2 (r + 1) (k + 1) := by rw [hkt]; show B.2 (r + 1) (k + 1) = _; rw [hB2 (r + 1) (by omega)]
      have hpr := hbp (k + 1)
      have hbk : B = x_rlF fb fn σ r k := hB
      refine v_iload_n C dXC_recordsFault_2 rfl rfl ?_
      refine v_bipush C dXC_recordsFault_3 (by decide +kernel) ?_
      refine v_icmp_gt (tgt := 56) C dXC_recordsFault_5 (by decide) (by omega) (by omega) (fun hc2 => ?_) (fun hc2 => ?_)
      · exfalso; omega
      · refine v_aload_n C dXC_recordsFault_8 rfl rfl ?_
        refine v_getR (k := r) (q := 0) C dXC_recordsFault_9 (by show (r : Nat) < 383; omega) (hY0) rfl (by decide) rfl inXT lXC_83 rfl ?_
        refine v_iload_n C dXC_recordsFault_12 rfl rfl ?_
        refine v_iald (k := (r + 1)) (v := σ.2 (r + 1) (k + 1)) C dXC_recordsFault_13 (by show ((r + 1) : Nat) < 383; omega) (hY1) rfl (by omega) (by decide) (hpl) ?_
        refine v_istore_n C dXC_recordsFault_14 rfl (by decide) ?_
        refine v_iload_n C dXC_recordsFault_15 rfl rfl ?_
        refine v_if_ge (tgt := 22) C dXC_recordsFault_16 (by decide) (by omega) (fun hc3 => ?_) (fun hc3 => ?_)
        · refine v_aload_n C dXC_recordsFault_22 rfl rfl ?_
          refine v_getR (k := r) (q := 1) C dXC_recordsFault_23 (by show (r : Nat) < 383; omega) (hY0) rfl (by decide) rfl inXT lXC_90 rfl ?_
          refine v_iload_n C dXC_recordsFault_26 rfl rfl ?_
          refine v_aload_n C dXC_recordsFault_27 rfl rfl ?_
          refine v_iload_n C dXC_recordsFault_28 rfl rfl ?_
          refine v_iload_n C dXC_recordsFault_29 rfl rfl ?_
          refine v_aload_n C dXC_recordsFault_30 rfl rfl ?_
          refine v_getI (k := r) (q := 2) (v := σ.1 r 2) C dXC_recordsFault_31 (by show (r : Nat) < 383; omega) (hY0) rfl (by decide) rfl inXT lXC_60 rfl (by show (x_nx B _).1 r 2 = _; unfold x_nx; rw [p1_1, if_neg (by omega)]; exact hBr 2) ?_
          refine v_cVI (k := 192) (n := 3) C (xE_ok _) hEz hR (kX_XC_recordLength _ D cA ad hJ (x_nx B y) ((k : Int) + 1) (σ.2 (r + 1) (k + 1)) (σ.1 r 2) (by omega) (by omega) (by omega) fb fn hBb hBn hn0 hb9) dXC_recordsFault_34 (by show (192 : Nat) < 383; decide) rfl rfl gXC_93 (by decide +kernel) (by decide) (by decide) rfl (Nat.le_of_ble_eq_true rfl) rfl ⟨rfl, rfl⟩ (fun rv σv hpv => ?_)
          obtain ⟨y1, rfl, ⟨hrc, rfl⟩ | ⟨hrc, rfl⟩⟩ := hpv
          · have hrr := q_rec_r hrc
            refine v_st (x_nx_nx B y y1) ?_
            refine v_iast (k := (r + 2)) C dXC_recordsFault_37 (by show ((r + 2) : Nat) < 383; omega) (hY2) rfl (by omega) (by decide) ?_
            refine v_aload_n C dXC_recordsFault_38 rfl rfl ?_
            refine v_getR (k := r) (q := 1) C dXC_recordsFault_39 (by show (r : Nat) < 383; omega) (hY0) rfl (by decide) rfl inXT lXC_90 rfl ?_
            refine v_iload_n C dXC_recordsFault_42 rfl rfl ?_
            refine v_iald (k := (r + 2)) (v := (q_len fb fn (σ.2 (r + 1) (k + 1)))) C dXC_recordsFault_43 (by show ((r + 2) : Nat) < 383; omega) (hY2) rfl (by omega) (by decide) (by rw [p2_2, if_pos ⟨rfl, rfl⟩]) ?_
            refine v_iconst C dXC_recordsFault_44 ?_
            refine v_icmp_ne (tgt := 50) C dXC_recordsFault_45 (by decide) (by omega) (by omega) (fun hc4 => ?_) (fun hc4 => ?_)
            · refine v_iinc C dXC_recordsFault_50 rfl (by decide) ?_
              refine v_goto (tgt := 2) C dXC_recordsFault_53 (by decide) ?_
              exact v_st (by rw [hkt]; show x_nx (f_p2 B (r + 2) (k + 1) _) y1 = x_nx (if _ then _ else _) y1; rw [if_pos (by omega), hB]) (ih (k + 1) (by omega) (fun i hi => by rcases (show i < k ∨ i = k by omega) with h | h; (· exact hall i h); (· rw [h]; exact fun _ => hrc)) _ _)
            · refine v_iload_n C dXC_recordsFault_48 rfl rfl ?_
              exact v_iret C hRt hLk dXC_recordsFault_49 (Or.inl ⟨k, by omega, hall, fun h => by have h9 := h (by omega); first | exact hrc h9 | omega, rfl, x_scl_p2 (x_scl_nx hSB _) _ (by omega)⟩)
          · refine v_st (x_nx_nx B y y1) ?_
            refine v_iast (k := (r + 2)) C dXC_recordsFault_37 (by show ((r + 2) : Nat) < 383; omega) (hY2) rfl (by omega) (by decide) ?_
            refine v_aload_n C dXC_recordsFault_38 rfl rfl ?_
            refine v_getR (k := r) (q := 1) C dXC_recordsFault_39 (by show (r : Nat) < 383; omega) (hY0) rfl (by decide) rfl inXT lXC_90 rfl ?_
            refine v_iload_n C dXC_recordsFault_42 rfl rfl ?_
            refine v_iald (k := (r + 2)) (v := (-1)) C dXC_recordsFault_43 (by show ((r + 2) : Nat) < 383; omega) (hY2) rfl (by omega) (by decide) (by rw [p2_2, if_pos ⟨rfl, rfl⟩]) ?_
            refine v_iconst C dXC_recordsFault_44 ?_
            refine v_icmp_ne (tgt := 50) C dXC_recordsFault_45 (by decide) (by omega) (by omega) (fun hc5 => ?_) (fun hc5 => ?_)
            · exfalso; omega
            · refine v_iload_n C dXC_recordsFault_48 rfl rfl ?_
              exact v_iret C hRt hLk dXC_recordsFault_49 (Or.inl ⟨k, by omega, hall, fun h => by have h9 := h (by omega); first | exact hrc h9 | omega, rfl, x_scl_p2 (x_scl_nx hSB _) _ (by omega)⟩)
        · refine v_goto (tgt := 50) C dXC_recordsFault_19 (by decide) ?_
          refine v_iinc C dXC_recordsFault_50 rfl (by decide) ?_
          refine v_goto (tgt := 2) C dXC_recordsFault_53 (by decide) ?_
          exact v_st (by show _ = x_nx (if _ then _ else _) y; rw [if_neg (by omega), hB]) (ih (k + 1) (by omega) (fun i hi => by rcases (show i < k ∨ i = k by omega) with h | h; (· exact hall i h); (· rw [h]; exact fun g => absurd g (by omega))) _ _)
  refine v_iconst C dXC_recordsFault_0 ?_
  refine v_istore_n C dXC_recordsFault_1 rfl (by decide) ?_
  exact v_st (x_nx_self σ rfl) (v_lv rfl (L 40 0 (by omega) (fun i hi => absurd hi (by omega)) _ none))
set_option maxRecDepth 100000 in
set_option maxHeartbeats 4000000 in
/-- endFault -/
theorem kX_XC_endFault (l : Launch) (D : va_G) (cA : Nat → ClassId) (ad : Nat → Nat) (hJ : f_J (xG D cA ad)) (σ : fS) (r : Nat) (hr : r + 2 < 383) (hY0 : xY r = .inl (4, 4, fXT r)) (hY1 : xY (r + 1) = .inr (.inl (0, 41))) (hY2 : xY (r + 2) = .inr (.inl (0, 41))) (hr2 : 193 < r) (p : Int) (fb : Nat → Int) (fn : Int) (hfb : σ.2 9 = fb) (hfn : σ.1 8 1 = fn) (hn0 : 0 ≤ fn ∧ fn ≤ 12000) (hb9 : ∀ i, -128 ≤ fb i ∧ fb i ≤ 127) (hp : 0 ≤ p ∧ p ≤ fn) (hp0 : σ.1 192 3 = p) (hx : 0 ≤ σ.1 r 2 ∧ σ.1 r 2 ≤ 12000) (hct : 0 ≤ σ.1 192 2 ∧ σ.1 192 2 ≤ 60) : f_M l (xG D cA ad) (xE (xG D cA ad)) yXC_endFault (Cond.code yXC_endFault cXC_endFault 4 (some .int) :: A9) 3 σ [.ref (ad 192), .ref (ad (r))] (f_QI (fun v σ1 => q_ef fb fn σ r p v σ1) (xG D cA ad)) := by
  refine f_enter (by decide +kernel) hJ rfl (Nat.le_of_ble_eq_true rfl) ?_
  intro z hzl hR C hRt hLk hEz
  subst hzl
  have hRR : 3 ≤ z.2.2.2.1.frames ∧ 40 * 3 ≤ z.2.2.2.1.locals ∧ 0 ≤ z.2.2.2.1.cells ∧ 0 ≤ z.2.2.2.1.slots := by rw [hR]; exact ⟨Nat.le_refl _, Nat.le_refl _, Nat.zero_le _, Nat.zero_le _⟩
  refine v_aload_n C dXC_endFault_0 rfl rfl ?_
  refine v_getI (k := 192) (q := 3) (v := p) C dXC_endFault_1 (by show (192 : Nat) < 383; decide) rfl rfl (by decide) rfl inXC lXC_73 rfl hp0 ?_
  refine v_istore_n C dXC_endFault_4 rfl (by decide) ?_
  refine v_aload_n C dXC_endFault_5 rfl rfl ?_
  refine v_aload_n C dXC_endFault_6 rfl rfl ?_
  refine v_iload_n C dXC_endFault_7 rfl rfl ?_
  refine v_bipush C dXC_endFault_8 (by decide +kernel) ?_
  refine v_cVI (k := 192) (n := 2) C (xE_ok _) hEz hR (kX_XC_tagged _ D cA ad hJ σ (p) (112) (by omega) (by omega) fb fn hfb hfn hn0 hb9) dXC_endFault_10 (by show (192 : Nat) < 383; decide) rfl rfl gXC_41 (by decide +kernel) (by decide) (by decide) rfl (Nat.le_of_ble_eq_true rfl) rfl ⟨rfl, rfl⟩ (fun rv σv hpv => ?_)
  obtain ⟨y1, rfl, ⟨ht1, rfl, hy1⟩ | ⟨ht1, rfl⟩⟩ := hpv
  · have hn1 := q_np_r fb fn (p + 2)
    have ht1q := ht1
    unfold q_tg at ht1
    have hi1 := q_va_in (fb := fb) (fn := fn) (i := q_np fb fn (p + 2)) (by omega)
    refine v_putI (k := 192) (q := 4) C dXC_endFault_13 (by show (192 : Nat) < 383; decide) rfl rfl (by decide) rfl inXC tyXC_ok nmXC lXC_49 rfl rfl rfl rfl rfl ?_
    obtain ⟨S1, hS1⟩ : ∃ s, s = f_p1 (x_nx σ y1) 192 4 (q_nr fb fn (p + 2)) := ⟨_, rfl⟩
    refine v_st hS1.symm ?_
    have hS1b : S1.2 9 = fb := by rw [hS1]; exact hfb
    have hS1n : S1.1 8 1 = fn := by rw [hS1]; exact hfn
    have hS14 : S1.1 192 4 = (q_nr fb fn (p + 2)) := by rw [hS1]; rfl
    have hS12 : S1.1 192 2 = σ.1 192 2 := by rw [hS1]; rfl
    have hS1y : S1.1 192 3 = y1 := by rw [hS1]; rfl
    have hS1r : ∀ q, S1.1 r q = σ.1 r q := fun q => by rw [hS1, p1_1, if_neg (by omega)]; unfold x_nx; rw [p1_1, if_neg (by omega)]
    have hS1a : S1.2 = σ.2 := by rw [hS1]; rfl
    have hS1f : ∀ a b, ¬ (a = 192 ∧ (b = 3 ∨ b = 4)) → S1.1 a b = σ.1 a b := fun a b g => by rw [hS1, p1_1, if_neg (by omega)]; unfold x_nx; rw [p1_1, if_neg (by omega)]
    refine v_aload_n C dXC_endFault_16 rfl rfl ?_
    refine v_getI (k := 192) (q := 4) (v := (q_nr fb fn (p + 2))) C dXC_endFault_17 (by show (192 : Nat) < 383; decide) rfl rfl (by decide) rfl inXC lXC_49 rfl hS14 ?_
    refine v_if_eq (tgt := 38) C dXC_endFault_20 (by decide) (by omega) (fun hc1 => ?_) (fun hc1 => ?_)
    · refine v_iconst C dXC_endFault_38 ?_
      refine v_istore_n C dXC_endFault_39 rfl (by decide) ?_
      refine v_aload_n C dXC_endFault_40 rfl rfl ?_
      refine v_getI (k := 192) (q := 4) (v := (q_nr fb fn (p + 2))) C dXC_endFault_41 (by show (192 : Nat) < 383; decide) rfl rfl (by decide) rfl inXC lXC_49 rfl hS14 ?_
      refine v_iconst C dXC_endFault_44 ?_
      refine v_icmp_eq (tgt := 63) C dXC_endFault_45 (by decide) (by omega) (by omega) (fun hc2 => ?_) (fun hc2 => ?_)
      · refine v_iload_n C dXC_endFault_63 rfl rfl ?_
        exact v_iret C hRt hLk dXC_endFault_64 ⟨⟨hS1a, fun a b g g2 => hS1f a b g, Or.inl (hS1r 3)⟩, Or.inl ⟨fun h => by obtain ⟨g1, g2, g3⟩ := h; first | exact ht1q g1 | omega, rfl⟩⟩
      · refine v_aload_n C dXC_endFault_48 rfl rfl ?_
        refine v_getI (k := 192) (q := 4) (v := (q_nr fb fn (p + 2))) C dXC_endFault_49 (by show (192 : Nat) < 383; decide) rfl rfl (by decide) rfl inXC lXC_49 rfl hS14 ?_
        refine v_aload_n C dXC_endFault_52 rfl rfl ?_
        refine v_getI (k := r) (q := 2) (v := σ.1 r 2) C dXC_endFault_53 (by show (r : Nat) < 383; omega) (hY0) rfl (by decide) rfl inXT lXC_60 rfl (hS1r 2) ?_
        refine v_icmp_ge (tgt := 63) C dXC_endFault_56 (by decide) (by omega) (by omega) (fun hc3 => ?_) (fun hc3 => ?_)
        · refine v_iload_n C dXC_endFault_63 rfl rfl ?_
          exact v_iret C hRt hLk dXC_endFault_64 ⟨⟨hS1a, fun a b g g2 => hS1f a b g, Or.inl (hS1r 3)⟩, Or.inl ⟨fun h => by obtain ⟨g1, g2, g3⟩ := h; first | exact ht1q g1 | omega, rfl⟩⟩
        · refine v_iload_n C dXC_endFault_59 rfl rfl ?_
          refine v_if_eq (tgt := 65) C dXC_endFault_60 (by decide) (by omega) (fun hc4 => ?_) (fun hc4 => ?_)
          · have hS13 : S1.1 192 3 = q_eat fb fn p := by rw [hS1y]; first | exact hy1 | (exfalso; omega)
            have hee : q_eat fb fn p = q_np fb fn (p + 2) + 1 := rfl
            refine v_aload_n C dXC_endFault_65 rfl rfl ?_
            refine v_getI (k := 192) (q := 3) (v := q_eat fb fn p) C dXC_endFault_66 (by show (192 : Nat) < 383; decide) rfl rfl (by decide) rfl inXC lXC_73 rfl hS13 ?_
            refine v_istore_n C dXC_endFault_69 rfl (by decide) ?_
            refine v_aload_n C dXC_endFault_70 rfl rfl ?_
            refine v_iload_n C dXC_endFault_71 rfl rfl ?_
            refine v_bipush C dXC_endFault_72 (by decide +kernel) ?_
            refine v_cVI (k := 192) (n := 2) C (xE_ok _) hEz hR (kX_XC_tagged _ D cA ad hJ S1 (q_eat fb fn p) (101) (by omega) (by omega) fb fn hS1b hS1n hn0 hb9) dXC_endFault_74 (by show (192 : Nat) < 383; decide) rfl rfl gXC_41 (by decide +kernel) (by decide) (by decide) rfl (Nat.le_of_ble_eq_true rfl) rfl ⟨rfl, rfl⟩ (fun rw σw hpw => ?_)
            obtain ⟨y2, rfl, ⟨ht2, rfl, hy2⟩ | ⟨ht2, rfl⟩⟩ := hpw
            · have hn2 := q_np_r fb fn (q_eat fb fn p + 2)
              have ht2q := ht2
              unfold q_tg at ht2
              have hi2 := q_va_in (fb := fb) (fn := fn) (i := q_np fb fn (q_eat fb fn p + 2)) (by omega)
              have hy2e : y2 = q_eat fb fn (q_eat fb fn p) := hy2
              refine v_aload_n C dXC_endFault_77 rfl rfl ?_
              refine v_getI (k := r) (q := 2) (v := σ.1 r 2) C dXC_endFault_78 (by show (r : Nat) < 383; omega) (hY0) rfl (by decide) rfl inXT lXC_60 rfl (by unfold x_nx; rw [p1_1, if_neg (by omega)]; exact hS1r 2) ?_
              refine v_icmp_eq (tgt := 86) C dXC_endFault_81 (by decide) (by omega) (by omega) (fun hc5 => ?_) (fun hc5 => ?_)
              · refine v_aload_n C dXC_endFault_86 rfl rfl ?_
                refine v_aload_n C dXC_endFault_87 rfl rfl ?_
                refine v_getI (k := 192) (q := 3) (v := y2) C dXC_endFault_88 (by show (192 : Nat) < 383; decide) rfl rfl (by decide) rfl inXC lXC_73 rfl rfl ?_
                refine v_putI (k := r) (q := 3) C dXC_endFault_91 (by show (r : Nat) < 383; omega) (hY0) rfl (by decide) rfl inXT tyXT_ok nmXT lXC_87 rfl rfl rfl rfl rfl ?_
                obtain ⟨S3, hS3⟩ : ∃ s, s = f_p1 (x_nx S1 y2) r 3 y2 := ⟨_, rfl⟩
                refine v_st hS3.symm ?_
                have hee2 : q_eat fb fn (q_eat fb fn p) = q_np fb fn (q_eat fb fn p + 2) + 1 := rfl
                have hS3f : ∀ a b, ¬ (a = 192 ∧ b = 3) → ¬ (a = r ∧ b = 3) → S3.1 a b = S1.1 a b := fun a b g g2 => by rw [hS3, p1_1, if_neg g2]; unfold x_nx; rw [p1_1, if_neg g]
                have hS33 : S3.1 192 3 = y2 := by rw [hS3, p1_1, if_neg (by omega)]; rfl
                have hS32 : S3.1 192 2 = σ.1 192 2 := by rw [hS3f 192 2 (by omega) (by omega)]; exact hS12
                have hS3n : S3.1 8 1 = fn := by rw [hS3f 8 1 (by omega) (by omega)]; exact hS1n
                have hS3e : S3.1 r 3 = y2 := by rw [hS3, p1_1, if_pos ⟨rfl, rfl⟩]
                have hS3a : S3.2 = σ.2 := by rw [hS3]; exact hS1a
                have hS34 : S3.1 192 4 = q_nr fb fn (p + 2) := by rw [hS3f 192 4 (by omega) (by omega)]; exact hS14
                refine v_aload_n C dXC_endFault_94 rfl rfl ?_
                refine v_getI (k := 192) (q := 2) (v := σ.1 192 2) C dXC_endFault_95 (by show (192 : Nat) < 383; decide) rfl rfl (by decide) rfl inXC lXC_22 rfl hS32 ?_
                refine v_if_ne (tgt := 122) C dXC_endFault_98 (by decide) (by omega) (fun hc6 => ?_) (fun hc6 => ?_)
                · refine v_iconst C dXC_endFault_122 ?_
                  exact v_iret C hRt hLk dXC_endFault_123 ⟨⟨hS3a, fun a b g g2 => by rw [hS3f a b (by omega) g2]; exact hS1f a b g, Or.inr (by rw [hS3e]; omega)⟩, Or.inr ⟨⟨ht1q, by omega, by omega⟩, Or.inr ⟨⟨ht2q, by omega⟩, hS34, by rw [hS3e]; exact hy2e, by first | exact Or.inl ⟨by omega, by omega, by omega⟩ | exact Or.inr ⟨by omega, rfl⟩⟩⟩⟩
                · refine v_aload_n C dXC_endFault_101 rfl rfl ?_
                  refine v_getI (k := 192) (q := 3) (v := y2) C dXC_endFault_102 (by show (192 : Nat) < 383; decide) rfl rfl (by decide) rfl inXC lXC_73 rfl hS33 ?_
                  refine v_aload_n C dXC_endFault_105 rfl rfl ?_
                  refine v_getR (k := 192) (q := 0) C dXC_endFault_106 (by show (192 : Nat) < 383; decide) rfl rfl (by decide) rfl inXC lXC_17 rfl ?_
                  refine v_getI (k := 8) (q := 1) (v := fn) C dXC_endFault_109 (by show (8 : Nat) < 383; decide) rfl rfl (by decide) rfl inXF lXC_30 rfl hS3n ?_
                  refine v_icmp_eq (tgt := 122) C dXC_endFault_112 (by decide) (by omega) (by omega) (fun hc7 => ?_) (fun hc7 => ?_)
                  · refine v_iconst C dXC_endFault_122 ?_
                    exact v_iret C hRt hLk dXC_endFault_123 ⟨⟨hS3a, fun a b g g2 => by rw [hS3f a b (by omega) g2]; exact hS1f a b g, Or.inr (by rw [hS3e]; omega)⟩, Or.inr ⟨⟨ht1q, by omega, by omega⟩, Or.inr ⟨⟨ht2q, by omega⟩, hS34, by rw [hS3e]; exact hy2e, by first | exact Or.inl ⟨by omega, by omega, by omega⟩ | exact Or.inr ⟨by omega, rfl⟩⟩⟩⟩
                  · refine v_aload_n C dXC_endFault_115 rfl rfl ?_
                    refine v_getI (k := 192) (q := 3) (v := y2) C dXC_endFault_116 (by show (192 : Nat) < 383; decide) rfl rfl (by decide) rfl inXC lXC_73 rfl hS33 ?_
                    refine v_goto (tgt := 123) C dXC_endFault_119 (by decide) ?_
                    exact v_iret C hRt hLk dXC_endFault_123 ⟨⟨hS3a, fun a b g g2 => by rw [hS3f a b (by omega) g2]; exact hS1f a b g, Or.inr (by rw [hS3e]; omega)⟩, Or.inr ⟨⟨ht1q, by omega, by omega⟩, Or.inr ⟨⟨ht2q, by omega⟩, hS34, by rw [hS3e]; exact hy2e, by first | exact Or.inl ⟨by omega, by omega, by omega⟩ | exact Or.inr ⟨by omega, rfl⟩⟩⟩⟩
              · refine v_iload_n C dXC_endFault_84 rfl rfl ?_
                exact v_iret C hRt hLk dXC_endFault_85 ⟨⟨hS1a, fun a b g g2 => by unfold x_nx; rw [p1_1, if_neg (by omega)]; exact hS1f a b g, Or.inl (by unfold x_nx; rw [p1_1, if_neg (by omega)]; exact hS1r 3)⟩, Or.inr ⟨⟨ht1q, by omega, by omega⟩, Or.inl ⟨fun h => by obtain ⟨g1, g2⟩ := h; first | exact ht2q g1 | omega, rfl⟩⟩⟩
            · have ht2q := ht2
              refine v_aload_n C dXC_endFault_77 rfl rfl ?_
              refine v_getI (k := r) (q := 2) (v := σ.1 r 2) C dXC_endFault_78 (by show (r : Nat) < 383; omega) (hY0) rfl (by decide) rfl inXT lXC_60 rfl (by unfold x_nx; rw [p1_1, if_neg (by omega)]; exact hS1r 2) ?_
              refine v_icmp_eq (tgt := 86) C dXC_endFault_81 (by decide) (by omega) (by omega) (fun hc8 => ?_) (fun hc8 => ?_)
              · exfalso; omega
              · refine v_iload_n C dXC_endFault_84 rfl rfl ?_
                exact v_iret C hRt hLk dXC_endFault_85 ⟨⟨hS1a, fun a b g g2 => by unfold x_nx; rw [p1_1, if_neg (by omega)]; exact hS1f a b g, Or.inl (by unfold x_nx; rw [p1_1, if_neg (by omega)]; exact hS1r 3)⟩, Or.inr ⟨⟨ht1q, by omega, by omega⟩, Or.inl ⟨fun h => by obtain ⟨g1, g2⟩ := h; first | exact ht2q g1 | omega, rfl⟩⟩⟩
          · exfalso; omega
    · refine v_aload_n C dXC_endFault_23 rfl rfl ?_
      refine v_getI (k := 192) (q := 2) (v := σ.1 192 2) C dXC_endFault_24 (by show (192 : Nat) < 383; decide) rfl rfl (by decide) rfl inXC lXC_22 rfl hS12 ?_
      refine v_iconst C dXC_endFault_27 ?_
      refine v_iadd C dXC_endFault_28 ?_
      refine v_bipush C dXC_endFault_29 (by decide +kernel) ?_
      refine v_icmp_lt (tgt := 38) C dXC_endFault_31 (by decide) (by omega) (by omega) (fun hc9 => ?_) (fun hc9 => ?_)
      · refine v_iconst C dXC_endFault_38 ?_
        refine v_istore_n C dXC_endFault_39 rfl (by decide) ?_
        refine v_aload_n C dXC_endFault_40 rfl rfl ?_
        refine v_getI (k := 192) (q := 4) (v := (q_nr fb fn (p + 2))) C dXC_endFault_41 (by show (192 : Nat) < 383; decide) rfl rfl (by decide) rfl inXC lXC_49 rfl hS14 ?_
        refine v_iconst C dXC_endFault_44 ?_
        refine v_icmp_eq (tgt := 63) C dXC_endFault_45 (by decide) (by omega) (by omega) (fun hc10 => ?_) (fun hc10 => ?_)
        · refine v_iload_n C dXC_endFault_63 rfl rfl ?_
          exact v_iret C hRt hLk dXC_endFault_64 ⟨⟨hS1a, fun a b g g2 => hS1f a b g, Or.inl (hS1r 3)⟩, Or.inl ⟨fun h => by obtain ⟨g1, g2, g3⟩ := h; first | exact ht1q g1 | omega, rfl⟩⟩
        · refine v_aload_n C dXC_endFault_48 rfl rfl ?_
          refine v_getI (k := 192) (q := 4) (v := (q_nr fb fn (p + 2))) C dXC_endFault_49 (by show (192 : Nat) < 383; decide) rfl rfl (by decide) rfl inXC lXC_49 rfl hS14 ?_
          refine v_aload_n C dXC_endFault_52 rfl rfl ?_
          refine v_getI (k := r) (q := 2) (v := σ.1 r 2) C dXC_endFault_53 (by show (r : Nat) < 383; omega) (hY0) rfl (by decide) rfl inXT lXC_60 rfl (hS1r 2) ?_
          refine v_icmp_ge (tgt := 63) C dXC_endFault_56 (by decide) (by omega) (by omega) (fun hc11 => ?_) (fun hc11 => ?_)
          · refine v_iload_n C dXC_endFault_63 rfl rfl ?_
            exact v_iret C hRt hLk dXC_endFault_64 ⟨⟨hS1a, fun a b g g2 => hS1f a b g, Or.inl (hS1r 3)⟩, Or.inl ⟨fun h => by obtain ⟨g1, g2, g3⟩ := h; first | exact ht1q g1 | omega, rfl⟩⟩
          · refine v_iload_n C dXC_endFault_59 rfl rfl ?_
            refine v_if_eq (tgt := 65) C dXC_endFault_60 (by decide) (by omega) (fun hc12 => ?_) (fun hc12 => ?_)
            · have hS13 : S1.1 192 3 = q_eat fb fn p := by rw [hS1y]; first | exact hy1 | (exfalso; omega)
              have hee : q_eat fb fn p = q_np fb fn (p + 2) + 1 := rfl
              refine v_aload_n C dXC_endFault_65 rfl rfl ?_
              refine v_getI (k := 192) (q := 3) (v := q_eat fb fn p) C dXC_endFault_66 (by show (192 : Nat) < 383; decide) rfl rfl (by decide) rfl inXC lXC_73 rfl hS13 ?_
              refine v_istore_n C dXC_endFault_69 rfl (by decide) ?_
              refine v_aload_n C dXC_endFault_70 rfl rfl ?_
              refine v_iload_n C dXC_endFault_71 rfl rfl ?_
              refine v_bipush C dXC_endFault_72 (by decide +kernel) ?_
              refine v_cVI (k := 192) (n := 2) C (xE_ok _) hEz hR (kX_XC_tagged _ D cA ad hJ S1 (q_eat fb fn p) (101) (by omega) (by omega) fb fn hS1b hS1n hn0 hb9) dXC_endFault_74 (by show (192 : Nat) < 383; decide) rfl rfl gXC_41 (by decide +kernel) (by decide) (by decide) rfl (Nat.le_of_ble_eq_true rfl) rfl ⟨rfl, rfl⟩ (fun rw σw hpw => ?_)
              obtain ⟨y2, rfl, ⟨ht2, rfl, hy2⟩ | ⟨ht2, rfl⟩⟩ := hpw
              · have hn2 := q_np_r fb fn (q_eat fb fn p + 2)
                have ht2q := ht2
                unfold q_tg at ht2
                have hi2 := q_va_in (fb := fb) (fn := fn) (i := q_np fb fn (q_eat fb fn p + 2)) (by omega)
                have hy2e : y2 = q_eat fb fn (q_eat fb fn p) := hy2
                refine v_aload_n C dXC_endFault_77 rfl rfl ?_
                refine v_getI (k := r) (q := 2) (v := σ.1 r 2) C dXC_endFault_78 (by show (r : Nat) < 383; omega) (hY0) rfl (by decide) rfl inXT lXC_60 rfl (by unfold x_nx; rw [p1_1, if_neg (by omega)]; exact hS1r 2) ?_
                refine v_icmp_eq (tgt := 86) C dXC_endFault_81 (by decide) (by omega) (by omega) (fun hc13 => ?_) (fun hc13 => ?_)
                · refine v_aload_n C dXC_endFault_86 rfl rfl ?_
                  refine v_aload_n C dXC_endFault_87 rfl rfl ?_
                  refine v_getI (k := 192) (q := 3) (v := y2) C dXC_endFault_88 (by show (192 : Nat) < 383; decide) rfl rfl (by decide) rfl inXC lXC_73 rfl rfl ?_
                  refine v_putI (k := r) (q := 3) C dXC_endFault_91 (by show (r : Nat) < 383; omega) (hY0) rfl (by decide) rfl inXT tyXT_ok nmXT lXC_87 rfl rfl rfl rfl rfl ?_
                  obtain ⟨S3, hS3⟩ : ∃ s, s = f_p1 (x_nx S1 y2) r 3 y2 := ⟨_, rfl⟩
                  refine v_st hS3.symm ?_
                  have hee2 : q_eat fb fn (q_eat fb fn p) = q_np fb fn (q_eat fb fn p + 2) + 1 := rfl
                  have hS3f : ∀ a b, ¬ (a = 192 ∧ b = 3) → ¬ (a = r ∧ b = 3) → S3.1 a b = S1.1 a b := fun a b g g2 => by rw [hS3, p1_1, if_neg g2]; unfold x_nx; rw [p1_1, if_neg g]
                  have hS33 : S3.1 192 3 = y2 := by rw [hS3, p1_1, if_neg (by omega)]; rfl
                  have hS32 : S3.1 192 2 = σ.1 192 2 := by rw [hS3f 192 2 (by omega) (by omega)]; exact hS12
                  have hS3n : S3.1 8 1 = fn := by rw [hS3f 8 1 (by omega) (by omega)]; exact hS1n
                  have hS3e : S3.1 r 3 = y2 := by rw [hS3, p1_1, if_pos ⟨rfl, rfl⟩]
                  have hS3a : S3.2 = σ.2 := by rw [hS3]; exact hS1a
                  have hS34 : S3.1 192 4 = q_nr fb fn (p + 2) := by rw [hS3f 192 4 (by omega) (by omega)]; exact hS14
                  refine v_aload_n C dXC_endFault_94 rfl rfl ?_
                  refine v_getI (k := 192) (q := 2) (v := σ.1 192 2) C dXC_endFault_95 (by show (192 : Nat) < 383; decide) rfl rfl (by decide) rfl inXC lXC_22 rfl hS32 ?_
                  refine v_if_ne (tgt := 122) C dXC_endFault_98 (by decide) (by omega) (fun hc14 => ?_) (fun hc14 => ?_)
                  · refine v_iconst C dXC_endFault_122 ?_
                    exact v_iret C hRt hLk dXC_endFault_123 ⟨⟨hS3a, fun a b g g2 => by rw [hS3f a b (by omega) g2]; exact hS1f a b g, Or.inr (by rw [hS3e]; omega)⟩, Or.inr ⟨⟨ht1q, by omega, by omega⟩, Or.inr ⟨⟨ht2q, by omega⟩, hS34, by rw [hS3e]; exact hy2e, by first | exact Or.inl ⟨by omega, by omega, by omega⟩ | exact Or.inr ⟨by omega, rfl⟩⟩⟩⟩
                  · refine v_aload_n C dXC_endFault_101 rfl rfl ?_
                    refine v_getI (k := 192) (q := 3) (v := y2) C dXC_endFault_102 (by show (192 : Nat) < 383; decide) rfl rfl (by decide) rfl inXC lXC_73 rfl hS33 ?_
                    refine v_aload_n C dXC_endFault_105 rfl rfl ?_
                    refine v_getR (k := 192) (q := 0) C dXC_endFault_106 (by show (192 : Nat) < 383; decide) rfl rfl (by decide) rfl inXC lXC_17 rfl ?_
                    refine v_getI (k := 8) (q := 1) (v := fn) C dXC_endFault_109 (by show (8 : Nat) < 383; decide) rfl rfl (by decide) rfl inXF lXC_30 rfl hS3n ?_
                    refine v_icmp_eq (tgt := 122) C dXC_endFault_112 (by decide) (by omega) (by omega) (fun hc15 => ?_) (fun hc15 => ?_)
                    · refine v_iconst C dXC_endFault_122 ?_
                      exact v_iret C hRt hLk dXC_endFault_123 ⟨⟨hS3a, fun a b g g2 => by rw [hS3f a b (by omega) g2]; exact hS1f a b g, Or.inr (by rw [hS3e]; omega)⟩, Or.inr ⟨⟨ht1q, by omega, by omega⟩, Or.inr ⟨⟨ht2q, by omega⟩, hS34, by rw [hS3e]; exact hy2e, by first | exact Or.inl ⟨by omega, by omega, by omega⟩ | exact Or.inr ⟨by omega, rfl⟩⟩⟩⟩
                    · refine v_aload_n C dXC_endFault_115 rfl rfl ?_
                      refine v_getI (k := 192) (q := 3) (v := y2) C dXC_endFault_116 (by show (192 : Nat) < 383; decide) rfl rfl (by decide) rfl inXC lXC_73 rfl hS33 ?_
                      refine v_goto (tgt := 123) C dXC_endFault_119 (by decide) ?_
                      exact v_iret C hRt hLk dXC_endFault_123 ⟨⟨hS3a, fun a b g g2 => by rw [hS3f a b (by omega) g2]; exact hS1f a b g, Or.inr (by rw [hS3e]; omega)⟩, Or.inr ⟨⟨ht1q, by omega, by omega⟩, Or.inr ⟨⟨ht2q, by omega⟩, hS34, by rw [hS3e]; exact hy2e, by first | exact Or.inl ⟨by omega, by omega, by omega⟩ | exact Or.inr ⟨by omega, rfl⟩⟩⟩⟩
                · refine v_iload_n C dXC_endFault_84 rfl rfl ?_
                  exact v_iret C hRt hLk dXC_endFault_85 ⟨⟨hS1a, fun a b g g2 => by unfold x_nx; rw [p1_1, if_neg (by omega)]; exact hS1f a b g, Or.inl (by unfold x_nx; rw [p1_1, if_neg (by omega)]; exact hS1r 3)⟩, Or.inr ⟨⟨ht1q, by omega, by omega⟩, Or.inl ⟨fun h => by obtain ⟨g1, g2⟩ := h; first | exact ht2q g1 | omega, rfl⟩⟩⟩
              · have ht2q := ht2
                refine v_aload_n C dXC_endFault_77 rfl rfl ?_
                refine v_getI (k := r) (q := 2) (v := σ.1 r 2) C dXC_endFault_78 (by show (r : Nat) < 383; omega) (hY0) rfl (by decide) rfl inXT lXC_60 rfl (by unfold x_nx; rw [p1_1, if_neg (by omega)]; exact hS1r 2) ?_
                refine v_icmp_eq (tgt := 86) C dXC_endFault_81 (by decide) (by omega) (by omega) (fun hc16 => ?_) (fun hc16 => ?_)
                · exfalso; omega
                · refine v_iload_n C dXC_endFault_84 rfl rfl ?_
                  exact v_iret C hRt hLk dXC_endFault_85 ⟨⟨hS1a, fun a b g g2 => by unfold x_nx; rw [p1_1, if_neg (by omega)]; exact hS1f a b g, Or.inl (by unfold x_nx; rw [p1_1, if_neg (by omega)]; exact hS1r 3)⟩, Or.inr ⟨⟨ht1q, by omega, by omega⟩, Or.inl ⟨fun h => by obtain ⟨g1, g2⟩ := h; first | exact ht2q g1 | omega, rfl⟩⟩⟩
            · exfalso; omega
      · refine v_iconst C dXC_endFault_34 ?_
        refine v_goto (tgt := 39) C dXC_endFault_35 (by decide) ?_
        refine v_istore_n C dXC_endFault_39 rfl (by decide) ?_
        refine v_aload_n C dXC_endFault_40 rfl rfl ?_
        refine v_getI (k := 192) (q := 4) (v := (q_nr fb fn (p + 2))) C dXC_endFault_41 (by show (192 : Nat) < 383; decide) rfl rfl (by decide) rfl inXC lXC_49 rfl hS14 ?_
        refine v_iconst C dXC_endFault_44 ?_
        refine v_icmp_eq (tgt := 63) C dXC_endFault_45 (by decide) (by omega) (by omega) (fun hc17 => ?_) (fun hc17 => ?_)
        · refine v_iload_n C dXC_endFault_63 rfl rfl ?_
          exact v_iret C hRt hLk dXC_endFault_64 ⟨⟨hS1a, fun a b g g2 => hS1f a b g, Or.inl (hS1r 3)⟩, Or.inl ⟨fun h => by obtain ⟨g1, g2, g3⟩ := h; first | exact ht1q g1 | omega, rfl⟩⟩
        · refine v_aload_n C dXC_endFault_48 rfl rfl ?_
          refine v_getI (k := 192) (q := 4) (v := (q_nr fb fn (p + 2))) C dXC_endFault_49 (by show (192 : Nat) < 383; decide) rfl rfl (by decide) rfl inXC lXC_49 rfl hS14 ?_
          refine v_aload_n C dXC_endFault_52 rfl rfl ?_
          refine v_getI (k := r) (q := 2) (v := σ.1 r 2) C dXC_endFault_53 (by show (r : Nat) < 383; omega) (hY0) rfl (by decide) rfl inXT lXC_60 rfl (hS1r 2) ?_
          refine v_icmp_ge (tgt := 63) C dXC_endFault_56 (by decide) (by omega) (by omega) (fun hc18 => ?_) (fun hc18 => ?_)
          · refine v_iload_n C dXC_endFault_63 rfl rfl ?_
            exact v_iret C hRt hLk dXC_endFault_64 ⟨⟨hS1a, fun a b g g2 => hS1f a b g, Or.inl (hS1r 3)⟩, Or.inl ⟨fun h => by obtain ⟨g1, g2, g3⟩ := h; first | exact ht1q g1 | omega, rfl⟩⟩
          · refine v_iload_n C dXC_endFault_59 rfl rfl ?_
            refine v_if_eq (tgt := 65) C dXC_endFault_60 (by decide) (by omega) (fun hc19 => ?_) (fun hc19 => ?_)
            · exfalso; omega
            · refine v_iload_n C dXC_endFault_63 rfl rfl ?_
              exact v_iret C hRt hLk dXC_endFault_64 ⟨⟨hS1a, fun a b g g2 => hS1f a b g, Or.inl (hS1r 3)⟩, Or.inl ⟨fun h => by obtain ⟨g1, g2, g3⟩ := h; first | exact ht1q g1 | omega, rfl⟩⟩
  · have ht1q := ht1
    refine v_putI (k := 192) (q := 4) C dXC_endFault_13 (by show (192 : Nat) < 383; decide) rfl rfl (by decide) rfl inXC tyXC_ok nmXC lXC_49 rfl rfl rfl rfl rfl ?_
    obtain ⟨S1, hS1⟩ : ∃ s, s = f_p1 (x_nx σ y1) 192 4 (-1) := ⟨_, rfl⟩
    refine v_st hS1.symm ?_
    have hS1b : S1.2 9 = fb := by rw [hS1]; exact hfb
    have hS1n : S1.1 8 1 = fn := by rw [hS1]; exact hfn
    have hS14 : S1.1 192 4 = (-1) := by rw [hS1]; rfl
    have hS12 : S1.1 192 2 = σ.1 192 2 := by rw [hS1]; rfl
    have hS1y : S1.1 192 3 = y1 := by rw [hS1]; rfl
    have hS1r : ∀ q, S1.1 r q = σ.1 r q := fun q => by rw [hS1, p1_1, if_neg (by omega)]; unfold x_nx; rw [p1_1, if_neg (by omega)]
    have hS1a : S1.2 = σ.2 := by rw [hS1]; rfl
    have hS1f : ∀ a b, ¬ (a = 192 ∧ (b = 3 ∨ b = 4)) → S1.1 a b = σ.1 a b := fun a b g => by rw [hS1, p1_1, if_neg (by omega)]; unfold x_nx; rw [p1_1, if_neg (by omega)]
    refine v_aload_n C dXC_endFault_16 rfl rfl ?_
    refine v_getI (k := 192) (q := 4) (v := (-1)) C dXC_endFault_17 (by show (192 : Nat) < 383; decide) rfl rfl (by decide) rfl inXC lXC_49 rfl hS14 ?_
    refine v_if_eq (tgt := 38) C dXC_endFault_20 (by decide) (by omega) (fun hc20 => ?_) (fun hc20 => ?_)
    · exfalso; omega
    · refine v_aload_n C dXC_endFault_23 rfl rfl ?_
      refine v_getI (k := 192) (q := 2) (v := σ.1 192 2) C dXC_endFault_24 (by show (192 : Nat) < 383; decide) rfl rfl (by decide) rfl inXC lXC_22 rfl hS12 ?_
      refine v_iconst C dXC_endFault_27 ?_
      refine v_iadd C dXC_endFault_28 ?_
      refine v_bipush C dXC_endFault_29 (by decide +kernel) ?_
      refine v_icmp_lt (tgt := 38) C dXC_endFault_31 (by decide) (by omega) (by omega) (fun hc21 => ?_) (fun hc21 => ?_)
      · refine v_iconst C dXC_endFault_38 ?_
        refine v_istore_n C dXC_endFault_39 rfl (by decide) ?_
        refine v_aload_n C dXC_endFault_40 rfl rfl ?_
        refine v_getI (k := 192) (q := 4) (v := (-1)) C dXC_endFault_41 (by show (192 : Nat) < 383; decide) rfl rfl (by decide) rfl inXC lXC_49 rfl hS14 ?_
        refine v_iconst C dXC_endFault_44 ?_
        refine v_icmp_eq (tgt := 63) C dXC_endFault_45 (by decide) (by omega) (by omega) (fun hc22 => ?_) (fun hc22 => ?_)
        · refine v_iload_n C dXC_endFault_63 rfl rfl ?_
          exact v_iret C hRt hLk dXC_endFault_64 ⟨⟨hS1a, fun a b g g2 => hS1f a b g, Or.inl (hS1r 3)⟩, Or.inl ⟨fun h => by obtain ⟨g1, g2, g3⟩ := h; first | exact ht1q g1 | omega, rfl⟩⟩
        · exfalso; omega
      · refine v_iconst C dXC_endFault_34 ?_
        refine v_goto (tgt := 39) C dXC_endFault_35 (by decide) ?_
        refine v_istore_n C dXC_endFault_39 rfl (by decide) ?_
        refine v_aload_n C dXC_endFault_40 rfl rfl ?_
        refine v_getI (k := 192) (q := 4) (v := (-1)) C dXC_endFault_41 (by show (192 : Nat) < 383; decide) rfl rfl (by decide) rfl inXC lXC_49 rfl hS14 ?_
        refine v_iconst C dXC_endFault_44 ?_
        refine v_icmp_eq (tgt := 63) C dXC_endFault_45 (by decide) (by omega) (by omega) (fun hc23 => ?_) (fun hc23 => ?_)
        · refine v_iload_n C dXC_endFault_63 rfl rfl ?_
          exact v_iret C hRt hLk dXC_endFault_64 ⟨⟨hS1a, fun a b g g2 => hS1f a b g, Or.inl (hS1r 3)⟩, Or.inl ⟨fun h => by obtain ⟨g1, g2, g3⟩ := h; first | exact ht1q g1 | omega, rfl⟩⟩
        · exfalso; omega
