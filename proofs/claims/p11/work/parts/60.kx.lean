/-! READING: pure -/
def q_va (fb : Nat → Int) (fn i : Int) : Int := if 0 ≤ i ∧ i < fn then fb i.toNat else 256
theorem q_va_r {fb : Nat → Int} (hb : ∀ i, -128 ≤ fb i ∧ fb i ≤ 127) (fn i : Int) : -128 ≤ q_va fb fn i ∧ q_va fb fn i ≤ 256 := by
  unfold q_va
  split
  · have := hb i.toNat; omega
  · omega
theorem q_va_in {fb : Nat → Int} {fn i : Int} (h : q_va fb fn i ≠ 256) : 0 ≤ i ∧ i < fn := by
  unfold q_va at h
  split at h
  · assumption
  · exact absurd rfl h
def q_nl (fb : Nat → Int) (fn : Int) : Nat → Int → Int → Int × Int
  | 0, p, v => (v, p)
  | k + 1, p, v => if 48 ≤ q_va fb fn p ∧ q_va fb fn p ≤ 57 then q_nl fb fn k (p + 1) (v * 10 + q_va fb fn p - 48) else (v, p)
/-- behind a number -/
def q_np (fb : Nat → Int) (fn p : Int) : Int := (q_nl fb fn 6 p 0).2
/-- its value, or -1 -/
def q_nr (fb : Nat → Int) (fn p : Int) : Int := if q_np fb fn p - p < 1 ∨ 5 < q_np fb fn p - p ∨ (1 < q_np fb fn p - p ∧ q_va fb fn p = 48) then -1 else (q_nl fb fn 6 p 0).1
theorem q_nl_r (fb : Nat → Int) (fn : Int) : ∀ (k : Nat) (p v : Int), 0 ≤ v → ∃ j : Nat, j ≤ k ∧ (q_nl fb fn k p v).2 = p + j ∧ (0 < j → p + j ≤ fn ∧ 0 ≤ p) ∧ 0 ≤ (q_nl fb fn k p v).1 ∧ (q_nl fb fn k p v).1 + 1 ≤ (v + 1) * 10 ^ j := by
  intro k
  induction k with
  | zero => intro p v hv; exact ⟨0, Nat.le_refl _, by show p = p + 0; omega, fun h => absurd h (by omega), hv, by show v + 1 ≤ (v + 1) * 1; omega⟩
  | succ k ih =>
    intro p v hv
    by_cases g : 48 ≤ q_va fb fn p ∧ q_va fb fn p ≤ 57
    · obtain ⟨j, h1, h2, h3, h4, h5⟩ := ih (p + 1) (v * 10 + q_va fb fn p - 48) (by omega)
      have e : q_nl fb fn (k + 1) p v = q_nl fb fn k (p + 1) (v * 10 + q_va fb fn p - 48) := by show (if _ then _ else _) = _; rw [if_pos g]
      have hin := q_va_in (fb := fb) (fn := fn) (i := p) (by omega)
      rw [e]
      refine ⟨j + 1, by omega, by rw [h2]; push_cast; omega, fun _ => ⟨?_, hin.1⟩, h4, ?_⟩
      · by_cases hj : 0 < j
        · have := h3 hj; push_cast; omega
        · have : j = 0 := by omega
          subst this; push_cast; omega
      · have h6 : (v * 10 + q_va fb fn p - 48 + 1) * 10 ^ j ≤ ((v + 1) * 10) * 10 ^ j := Int.mul_le_mul_of_nonneg_right (by omega) (Int.le_of_lt (Int.pow_pos (by omega)))
        have h7 : (v + 1) * 10 ^ (j + 1) = ((v + 1) * 10) * 10 ^ j := by rw [Int.pow_succ, Int.mul_comm (10 ^ j) 10, Int.mul_assoc]
        omega
    · have e : q_nl fb fn (k + 1) p v = (v, p) := by show (if _ then _ else _) = _; rw [if_neg g]
      rw [e]
      exact ⟨0, by omega, by show p = p + 0; omega, fun h => absurd h (by omega), hv, by show v + 1 ≤ (v + 1) * 1; omega⟩
theorem q_np_r (fb : Nat → Int) (fn p : Int) : (p ≤ q_np fb fn p ∧ q_np fb fn p ≤ p + 6) ∧ (p < q_np fb fn p → q_np fb fn p ≤ fn ∧ 0 ≤ p) ∧ (-1 ≤ q_nr fb fn p ∧ q_nr fb fn p ≤ 99999) ∧ (q_nr fb fn p ≠ -1 → p < q_np fb fn p) := by
  obtain ⟨j, h1, h2, h3, h4, h5⟩ := q_nl_r fb fn 6 p 0 (by omega)
  have e : q_np fb fn p = p + j := h2
  refine ⟨by omega, fun h => ?_, ?_, ?_⟩
  · have := h3 (by omega); omega
  · unfold q_nr
    split
    · omega
    · rename_i g
      refine ⟨by omega, ?_⟩
      have hj : j ≤ 5 := by omega
      have h8 : (10 : Int) ^ j ≤ 100000 := by
        rcases (show j = 0 ∨ j = 1 ∨ j = 2 ∨ j = 3 ∨ j = 4 ∨ j = 5 by omega) with rfl | rfl | rfl | rfl | rfl | rfl <;> decide
      omega
  · intro h
    unfold q_nr at h
    split at h
    · exact absurd rfl h
    · omega
/-- the line of a letter and a number at p -/
def q_tg (fb : Nat → Int) (fn p c : Int) : Prop := q_va fb fn p = c ∧ q_va fb fn (p + 1) = 32 ∧ q_nr fb fn (p + 2) ≠ -1 ∧ q_va fb fn (q_np fb fn (p + 2)) = 10
/-- the record of object n at p: where its length begins, its length, where its bytes begin -/
def q_la (fb : Nat → Int) (fn p : Int) : Int := q_np fb fn (p + 2) + 1
def q_len (fb : Nat → Int) (fn p : Int) : Int := q_nr fb fn (q_la fb fn p)
def q_by (fb : Nat → Int) (fn p : Int) : Int := q_np fb fn (q_la fb fn p) + 1
def q_rec (fb : Nat → Int) (fn n p x : Int) : Prop := q_va fb fn p = 111 ∧ q_va fb fn (p + 1) = 32 ∧ q_nr fb fn (p + 2) = n ∧ q_va fb fn (q_np fb fn (p + 2)) = 32 ∧ (q_len fb fn p ≠ -1 ∧ q_len fb fn p ≤ 120) ∧ q_va fb fn (q_np fb fn (q_la fb fn p)) = 10 ∧ q_by fb fn p + q_len fb fn p < x ∧ q_va fb fn (q_by fb fn p + q_len fb fn p) = 10
def q_fl (fb : Nat → Int) (fn : Int) : Prop := q_va fb fn 0 = 37 ∧ q_va fb fn 1 = 70 ∧ q_va fb fn 2 = 49 ∧ q_va fb fn 3 = 10
def q_ll (fb : Nat → Int) (fn : Int) : Nat → Int → Int
  | 0, p => p
  | k + 1, p => if q_va fb fn (p - 1) = 10 then p else q_ll fb fn k (p - 1)
theorem q_ll_r (fb : Nat → Int) (fn : Int) : ∀ (k : Nat) (p : Int), p - k ≤ q_ll fb fn k p ∧ q_ll fb fn k p ≤ p := by
  intro k
  induction k with
  | zero => intro p; show p - 0 ≤ p ∧ p ≤ p; omega
  | succ k ih =>
    intro p
    show p - ((k + 1 : Nat) : Int) ≤ (if _ then _ else _) ∧ (if _ then _ else _) ≤ p
    split
    · omega
    · have := ih (p - 1); push_cast; omega
/-- the next place of the scan -/
def x_nx (σ : fS) (v : Int) : fS := f_p1 σ 192 3 v
theorem x_nx_nx (σ : fS) (a b : Int) : f_p1 (x_nx σ a) 192 3 b = x_nx σ b := by
  refine fS_ext (fun x y => ?_) (fun _ _ => rfl)
  unfold x_nx
  rw [p1_1, p1_1, p1_1]
  split <;> rfl
theorem x_nx_self (σ : fS) {v : Int} (h : σ.1 192 3 = v) : σ = x_nx σ v := by
  refine fS_ext (fun x y => ?_) (fun _ _ => rfl)
  unfold x_nx
  rw [p1_1]
  split
  · rename_i g; rw [g.1, g.2]; exact h
  · rfl
theorem x_I_nx {σ : fS} (h : x_I σ) (v : Int) : x_I (x_nx σ v) := x_I_p1 h (x_okF_n _ _ _ (by omega))
theorem kX_XF_valueAtF (l : Launch) (D : va_G) (cA : Nat → ClassId) (ad : Nat → Nat) (hJ : f_J (xG D cA ad)) (σ : fS) (i : Int) (hi : -2147483648 ≤ i ∧ i ≤ 2147483647) (fb : Nat → Int) (fn : Int) (hfb : σ.2 9 = fb) (hfn : σ.1 8 1 = fn) (hn0 : 0 ≤ fn ∧ fn ≤ 12000) (hb9 : ∀ i, -128 ≤ fb i ∧ fb i ≤ 127) : f_M l (xG D cA ad) (xE (xG D cA ad)) yXF_valueAt (Cond.code yXF_valueAt cXF_valueAt 2 (some .int) :: A9) 0 σ [.ref (ad 8), .int (fI i)] (f_QI (fun r σ1 => r = q_va fb fn i ∧ σ1 = σ) (xG D cA ad)) :=
  f_weakI (kX_XF_valueAt l D cA ad hJ σ i hi (by rw [hfn]; exact hn0) (by rw [hfb]; exact hb9)) (fun r σ1 h => by rw [hfb, hfn] at h; exact h)
set_option maxRecDepth 100000 in
set_option maxHeartbeats 4000000 in
/-- isDigit -/
theorem kX_XC_isDigit (l : Launch) (D : va_G) (cA : Nat → ClassId) (ad : Nat → Nat) (hJ : f_J (xG D cA ad)) (σ : fS) (v : Int) (hv : -2147483648 ≤ v ∧ v ≤ 2147483647) : f_M l (xG D cA ad) (xE (xG D cA ad)) yXC_isDigit (Cond.code yXC_isDigit cXC_isDigit 1 (some .boolean) :: A9) 0 σ [.int (fI v)] (f_QI (fun r σ1 => ((48 ≤ v ∧ v ≤ 57) ∧ r = 1 ∧ σ1 = σ) ∨ (¬ (48 ≤ v ∧ v ≤ 57) ∧ r = 0 ∧ σ1 = σ)) (xG D cA ad)) := by
  refine f_enter (by decide +kernel) hJ rfl (Nat.le_of_ble_eq_true rfl) ?_
  intro z hzl hR C hRt hLk hEz
  subst hzl
  have hRR : 0 ≤ z.2.2.2.1.frames ∧ 40 * 0 ≤ z.2.2.2.1.locals ∧ 0 ≤ z.2.2.2.1.cells ∧ 0 ≤ z.2.2.2.1.slots := by rw [hR]; exact ⟨Nat.le_refl _, Nat.le_refl _, Nat.zero_le _, Nat.zero_le _⟩
  refine v_iload_n C dXC_isDigit_0 rfl rfl ?_
  refine v_bipush C dXC_isDigit_1 (by decide +kernel) ?_
  refine v_icmp_lt (tgt := 16) C dXC_isDigit_3 (by decide) (by omega) (by omega) (fun hc1 => ?_) (fun hc1 => ?_)
  · refine v_iconst C dXC_isDigit_16 ?_
    exact v_zret C hRt hLk dXC_isDigit_17 (fN_bool (by omega)) (by first | exact Or.inl ⟨by omega, rfl, rfl⟩ | exact Or.inr ⟨by omega, rfl, rfl⟩)
  · refine v_iload_n C dXC_isDigit_6 rfl rfl ?_
    refine v_bipush C dXC_isDigit_7 (by decide +kernel) ?_
    refine v_icmp_gt (tgt := 16) C dXC_isDigit_9 (by decide) (by omega) (by omega) (fun hc2 => ?_) (fun hc2 => ?_)
    · refine v_iconst C dXC_isDigit_16 ?_
      exact v_zret C hRt hLk dXC_isDigit_17 (fN_bool (by omega)) (by first | exact Or.inl ⟨by omega, rfl, rfl⟩ | exact Or.inr ⟨by omega, rfl, rfl⟩)
    · refine v_iconst C dXC_isDigit_12 ?_
      refine v_goto (tgt := 17) C dXC_isDigit_13 (by decide) ?_
      exact v_zret C hRt hLk dXC_isDigit_17 (fN_bool (by omega)) (by first | exact Or.inl ⟨by omega, rfl, rfl⟩ | exact Or.inr ⟨by omega, rfl, rfl⟩)
set_option maxRecDepth 100000 in
set_option maxHeartbeats 4000000 in
/-- accept -/
theorem kX_XC_accept (l : Launch) (D : va_G) (cA : Nat → ClassId) (ad : Nat → Nat) (hJ : f_J (xG D cA ad)) (σ : fS) (c : Int) (hc : -2147483648 ≤ c ∧ c ≤ 2147483647 ∧ c ≠ 256) (hp : -2147483648 ≤ σ.1 192 3 ∧ σ.1 192 3 ≤ 2147483647) (fb : Nat → Int) (fn : Int) (hfb : σ.2 9 = fb) (hfn : σ.1 8 1 = fn) (hn0 : 0 ≤ fn ∧ fn ≤ 12000) (hb9 : ∀ i, -128 ≤ fb i ∧ fb i ≤ 127) : f_M l (xG D cA ad) (xE (xG D cA ad)) yXC_accept (Cond.code yXC_accept cXC_accept 2 (some .boolean) :: A9) 0 σ [.ref (ad 192), .int (fI c)] (f_QI (fun r σ1 => (q_va fb fn (σ.1 192 3) = c ∧ r = 1 ∧ σ1 = f_p1 σ 192 3 (σ.1 192 3 + 1)) ∨ (¬ q_va fb fn (σ.1 192 3) = c ∧ r = 0 ∧ σ1 = σ)) (xG D cA ad)) := by
  refine f_enter (by decide +kernel) hJ rfl (Nat.le_of_ble_eq_true rfl) ?_
  intro z hzl hR C hRt hLk hEz
  subst hzl
  have hRR : 0 ≤ z.2.2.2.1.frames ∧ 40 * 0 ≤ z.2.2.2.1.locals ∧ 0 ≤ z.2.2.2.1.cells ∧ 0 ≤ z.2.2.2.1.slots := by rw [hR]; exact ⟨Nat.le_refl _, Nat.le_refl _, Nat.zero_le _, Nat.zero_le _⟩
  have hb9p := hb9 (σ.1 192 3).toNat
  refine v_aload_n C dXC_accept_0 rfl rfl ?_
  refine v_getI (k := 192) (q := 3) (v := σ.1 192 3) C dXC_accept_1 (by show (192 : Nat) < 383; decide) rfl rfl (by decide) rfl inXC lXC_73 rfl rfl ?_
  refine v_if_lt (tgt := 37) C dXC_accept_4 (by decide) (by omega) (fun hc1 => ?_) (fun hc1 => ?_)
  · refine v_iconst C dXC_accept_37 ?_
    exact v_zret C hRt hLk dXC_accept_38 (fN_bool (by omega)) (by unfold q_va; first | exact Or.inl ⟨by rw [if_pos (by omega)]; omega, rfl, rfl⟩ | exact Or.inr ⟨by rw [if_neg (by omega)]; omega, rfl, rfl⟩ | exact Or.inr ⟨by rw [if_pos (by omega)]; omega, rfl, rfl⟩)
  · refine v_aload_n C dXC_accept_7 rfl rfl ?_
    refine v_getI (k := 192) (q := 3) (v := σ.1 192 3) C dXC_accept_8 (by show (192 : Nat) < 383; decide) rfl rfl (by decide) rfl inXC lXC_73 rfl rfl ?_
    refine v_aload_n C dXC_accept_11 rfl rfl ?_
    refine v_getR (k := 192) (q := 0) C dXC_accept_12 (by show (192 : Nat) < 383; decide) rfl rfl (by decide) rfl inXC lXC_17 rfl ?_
    refine v_getI (k := 8) (q := 1) (v := fn) C dXC_accept_15 (by show (8 : Nat) < 383; decide) rfl rfl (by decide) rfl inXF lXC_30 rfl hfn ?_
    refine v_icmp_ge (tgt := 37) C dXC_accept_18 (by decide) (by omega) (by omega) (fun hc2 => ?_) (fun hc2 => ?_)
    · refine v_iconst C dXC_accept_37 ?_
      exact v_zret C hRt hLk dXC_accept_38 (fN_bool (by omega)) (by unfold q_va; first | exact Or.inl ⟨by rw [if_pos (by omega)]; omega, rfl, rfl⟩ | exact Or.inr ⟨by rw [if_neg (by omega)]; omega, rfl, rfl⟩ | exact Or.inr ⟨by rw [if_pos (by omega)]; omega, rfl, rfl⟩)
    · refine v_aload_n C dXC_accept_21 rfl rfl ?_
      refine v_getR (k := 192) (q := 0) C dXC_accept_22 (by show (192 : Nat) < 383; decide) rfl rfl (by decide) rfl inXC lXC_17 rfl ?_
      refine v_getR (k := 8) (q := 0) C dXC_accept_25 (by show (8 : Nat) < 383; decide) rfl rfl (by decide) rfl inXF lXC_100 rfl ?_
      refine v_aload_n C dXC_accept_28 rfl rfl ?_
      refine v_getI (k := 192) (q := 3) (v := σ.1 192 3) C dXC_accept_29 (by show (192 : Nat) < 383; decide) rfl rfl (by decide) rfl inXC lXC_73 rfl rfl ?_
      refine v_bald (k := 9) (v := fb (σ.1 192 3).toNat) C dXC_accept_32 (by show (9 : Nat) < 383; decide) rfl rfl (by omega) (by decide) (congrFun hfb _) ?_
      refine v_iload_n C dXC_accept_33 rfl rfl ?_
      refine v_icmp_eq (tgt := 39) C dXC_accept_34 (by decide) (by omega) (by omega) (fun hc3 => ?_) (fun hc3 => ?_)
      · refine v_aload_n C dXC_accept_39 rfl rfl ?_
        refine v_dup C dXC_accept_40 rfl ?_
        refine v_getI (k := 192) (q := 3) (v := σ.1 192 3) C dXC_accept_41 (by show (192 : Nat) < 383; decide) rfl rfl (by decide) rfl inXC lXC_73 rfl rfl ?_
        refine v_iconst C dXC_accept_44 ?_
        refine v_iadd C dXC_accept_45 ?_
        refine v_putI (k := 192) (q := 3) C dXC_accept_46 (by show (192 : Nat) < 383; decide) rfl rfl (by decide) rfl inXC tyXC_ok nmXC lXC_73 rfl rfl rfl rfl rfl ?_
        refine v_iconst C dXC_accept_49 ?_
        exact v_zret C hRt hLk dXC_accept_50 (fN_bool (by omega)) (by unfold q_va; first | exact Or.inl ⟨by rw [if_pos (by omega)]; omega, rfl, rfl⟩ | exact Or.inr ⟨by rw [if_neg (by omega)]; omega, rfl, rfl⟩ | exact Or.inr ⟨by rw [if_pos (by omega)]; omega, rfl, rfl⟩)
      · refine v_iconst C dXC_accept_37 ?_
        exact v_zret C hRt hLk dXC_accept_38 (fN_bool (by omega)) (by unfold q_va; first | exact Or.inl ⟨by rw [if_pos (by omega)]; omega, rfl, rfl⟩ | exact Or.inr ⟨by rw [if_neg (by omega)]; omega, rfl, rfl⟩ | exact Or.inr ⟨by rw [if_pos (by omega)]; omega, rfl, rfl⟩)
set_option maxRecDepth 100000 in
set_option maxHeartbeats 4000000 in
/-- number -/
theorem kX_XC_number (l : Launch) (D : va_G) (cA : Nat → ClassId) (ad : Nat → Nat) (hJ : f_J (xG D cA ad)) (σ : fS) (p : Int) (hpp : -10 ≤ p ∧ p ≤ 200000) (hp0 : σ.1 192 3 = p) (fb : Nat → Int) (fn : Int) (hfb : σ.2 9 = fb) (hfn : σ.1 8 1 = fn) (hn0 : 0 ≤ fn ∧ fn ≤ 12000) (hb9 : ∀ i, -128 ≤ fb i ∧ fb i ≤ 127) : f_M l (xG D cA ad) (xE (xG D cA ad)) yXC_number (Cond.code yXC_number cXC_number 5 (some .int) :: A9) 1 σ [.ref (ad 192)] (f_QI (fun r σ1 => r = q_nr fb fn p ∧ σ1 = f_p1 σ 192 3 (q_np fb fn p)) (xG D cA ad)) := by
  refine f_enter (by decide +kernel) hJ rfl (Nat.le_of_ble_eq_true rfl) ?_
  intro z hzl hR C hRt hLk hEz
  subst hzl
  have hRR : 1 ≤ z.2.2.2.1.frames ∧ 40 * 1 ≤ z.2.2.2.1.locals ∧ 0 ≤ z.2.2.2.1.cells ∧ 0 ≤ z.2.2.2.1.slots := by rw [hR]; exact ⟨Nat.le_refl _, Nat.le_refl _, Nat.zero_le _, Nat.zero_le _⟩
  have hpr := q_np_r fb fn p
  have hvr := q_va_r hb9 fn p
  have L9 : ∀ v : Int, (q_nl fb fn 6 p 0).1 = v → fv z (xG D cA ad) 5 (f_R z (xG D cA ad) (f_QI (fun r σ1 => r = q_nr fb fn p ∧ σ1 = f_p1 σ 192 3 (q_np fb fn p)) (xG D cA ad))) 0 0 (x_nx σ (q_np fb fn p)) 67 [some (.ref (ad 192)), some (.int (fI p)), some (.int (fI v)), none, none] [] := by
    intro v hv
    refine v_aload_n C dXC_number_67 rfl rfl ?_
    refine v_getI (k := 192) (q := 3) (v := q_np fb fn p) C dXC_number_68 (by show (192 : Nat) < 383; decide) rfl rfl (by decide) rfl inXC lXC_73 rfl rfl ?_
    refine v_iload_n C dXC_number_71 rfl rfl ?_
    refine v_isub C dXC_number_72 ?_
    refine v_istore_n C dXC_number_73 rfl (by decide) ?_
    refine v_iload_n C dXC_number_74 rfl rfl ?_
    refine v_iconst C dXC_number_75 ?_
    refine v_icmp_le (tgt := 96) C dXC_number_76 (by decide) (by omega) (by omega) (fun hc1 => ?_) (fun hc1 => ?_)
    · refine v_iconst C dXC_number_96 ?_
      refine v_istore C dXC_number_97 (by decide) ?_
      refine v_iload_n C dXC_number_99 rfl rfl ?_
      refine v_iconst C dXC_number_100 ?_
      refine v_icmp_lt (tgt := 114) C dXC_number_101 (by decide) (by omega) (by omega) (fun hc2 => ?_) (fun hc2 => ?_)
      · refine v_iconst C dXC_number_114 ?_
        refine v_goto (tgt := 119) C dXC_number_115 (by decide) ?_
        exact v_iret C hRt hLk dXC_number_119 ⟨by unfold q_nr; first | rw [if_pos (by omega)] | (rw [if_neg (by omega)]; exact hv.symm), rfl⟩
      · refine v_iload_n C dXC_number_104 rfl rfl ?_
        refine v_iconst C dXC_number_105 ?_
        refine v_icmp_gt (tgt := 114) C dXC_number_106 (by decide) (by omega) (by omega) (fun hc3 => ?_) (fun hc3 => ?_)
        · refine v_iconst C dXC_number_114 ?_
          refine v_goto (tgt := 119) C dXC_number_115 (by decide) ?_
          exact v_iret C hRt hLk dXC_number_119 ⟨by unfold q_nr; first | rw [if_pos (by omega)] | (rw [if_neg (by omega)]; exact hv.symm), rfl⟩
        · refine v_iload C dXC_number_109 rfl ?_
          refine v_if_eq (tgt := 118) C dXC_number_111 (by decide) (by omega) (fun hc4 => ?_) (fun hc4 => ?_)
          · refine v_iload_n C dXC_number_118 rfl rfl ?_
            exact v_iret C hRt hLk dXC_number_119 ⟨by unfold q_nr; first | rw [if_pos (by omega)] | (rw [if_neg (by omega)]; exact hv.symm), rfl⟩
          · exfalso; omega
    · refine v_aload_n C dXC_number_79 rfl rfl ?_
      refine v_getR (k := 192) (q := 0) C dXC_number_80 (by show (192 : Nat) < 383; decide) rfl rfl (by decide) rfl inXC lXC_17 rfl ?_
      refine v_iload_n C dXC_number_83 rfl rfl ?_
      refine v_cVI (k := 8) (n := 1) C (xE_ok _) hEz hR (kX_XF_valueAtF _ D cA ad hJ (x_nx σ (q_np fb fn p)) (p) (by omega) fb fn hfb hfn hn0 hb9) dXC_number_84 (by show (8 : Nat) < 383; decide) rfl rfl gXC_33 (by decide +kernel) (by decide) (by decide) rfl (Nat.le_of_ble_eq_true rfl) rfl ⟨rfl, rfl⟩ (fun rv5 σv5 hpv5 => ?_)
      obtain ⟨e1v5, e2v5⟩ := hpv5
      subst σv5
      subst e1v5
      have hrv5 := q_va_r hb9 fn (p)
      have hiv5 := @q_va_in fb fn (p)
      refine v_bipush C dXC_number_87 (by decide +kernel) ?_
      refine v_icmp_ne (tgt := 96) C dXC_number_89 (by decide) (by omega) (by omega) (fun hc6 => ?_) (fun hc6 => ?_)
      · refine v_iconst C dXC_number_96 ?_
        refine v_istore C dXC_number_97 (by decide) ?_
        refine v_iload_n C dXC_number_99 rfl rfl ?_
        refine v_iconst C dXC_number_100 ?_
        refine v_icmp_lt (tgt := 114) C dXC_number_101 (by decide) (by omega) (by omega) (fun hc7 => ?_) (fun hc7 => ?_)
        · refine v_iconst C dXC_number_114 ?_
          refine v_goto (tgt := 119) C dXC_number_115 (by decide) ?_
          exact v_iret C hRt hLk dXC_number_119 ⟨by unfold q_nr; first | rw [if_pos (by omega)] | (rw [if_neg (by omega)]; exact hv.symm), rfl⟩
        · refine v_iload_n C dXC_number_104 rfl rfl ?_
          refine v_iconst C dXC_number_105 ?_
          refine v_icmp_gt (tgt := 114) C dXC_number_106 (by decide) (by omega) (by omega) (fun hc8 => ?_) (fun hc8 => ?_)
          · refine v_iconst C dXC_number_114 ?_
            refine v_goto (tgt := 119) C dXC_number_115 (by decide) ?_
            exact v_iret C hRt hLk dXC_number_119 ⟨by unfold q_nr; first | rw [if_pos (by omega)] | (rw [if_neg (by omega)]; exact hv.symm), rfl⟩
          · refine v_iload C dXC_number_109 rfl ?_
            refine v_if_eq (tgt := 118) C dXC_number_111 (by decide) (by omega) (fun hc9 => ?_) (fun hc9 => ?_)
            · refine v_iload_n C dXC_number_118 rfl rfl ?_
              exact v_iret C hRt hLk dXC_number_119 ⟨by unfold q_nr; first | rw [if_pos (by omega)] | (rw [if_neg (by omega)]; exact hv.symm), rfl⟩
            · exfalso; omega
      · refine v_iconst C dXC_number_92 ?_
        refine v_goto (tgt := 97) C dXC_number_93 (by decide) ?_
        refine v_istore C dXC_number_97 (by decide) ?_
        refine v_iload_n C dXC_number_99 rfl rfl ?_
        refine v_iconst C dXC_number_100 ?_
        refine v_icmp_lt (tgt := 114) C dXC_number_101 (by decide) (by omega) (by omega) (fun hc10 => ?_) (fun hc10 => ?_)
        · refine v_iconst C dXC_number_114 ?_
          refine v_goto (tgt := 119) C dXC_number_115 (by decide) ?_
          exact v_iret C hRt hLk dXC_number_119 ⟨by unfold q_nr; first | rw [if_pos (by omega)] | (rw [if_neg (by omega)]; exact hv.symm), rfl⟩
        · refine v_iload_n C dXC_number_104 rfl rfl ?_
          refine v_iconst C dXC_number_105 ?_
          refine v_icmp_gt (tgt := 114) C dXC_number_106 (by decide) (by omega) (by omega) (fun hc11 => ?_) (fun hc11 => ?_)
          · refine v_iconst C dXC_number_114 ?_
            refine v_goto (tgt := 119) C dXC_number_115 (by decide) ?_
            exact v_iret C hRt hLk dXC_number_119 ⟨by unfold q_nr; first | rw [if_pos (by omega)] | (rw [if_neg (by omega)]; exact hv.symm), rfl⟩
          · refine v_iload C dXC_number_109 rfl ?_
            refine v_if_eq (tgt := 118) C dXC_number_111 (by decide) (by omega) (fun hc12 => ?_) (fun hc12 => ?_)
            · exfalso; omega
            · refine v_iconst C dXC_number_114 ?_
              refine v_goto (tgt := 119) C dXC_number_115 (by decide) ?_
              exact v_iret C hRt hLk dXC_number_119 ⟨by unfold q_nr; first | rw [if_pos (by omega)] | (rw [if_neg (by omega)]; exact hv.symm), rfl⟩
  have L : ∀ (m j : Nat) (v : Int), m + j = 6 → q_nl fb fn m (p + j) v = q_nl fb fn 6 p 0 → fv z (xG D cA ad) 5 (f_R z (xG D cA ad) (f_QI (fun r σ1 => r = q_nr fb fn p ∧ σ1 = f_p1 σ 192 3 (q_np fb fn p)) (xG D cA ad))) 0 0 (x_nx σ (p + j)) 7 [some (.ref (ad 192)), some (.int (fI p)), some (.int (fI v)), none, none] [] := by
    intro m
    induction m with
    | zero =>
      intro j v hj hq
      have hqv : (q_nl fb fn 6 p 0).1 = v := by rw [← hq]; rfl
      have hqp : q_np fb fn p = p + j := by show (q_nl fb fn 6 p 0).2 = _; rw [← hq]; rfl
      refine v_aload_n C dXC_number_7 rfl rfl ?_
      refine v_getI (k := 192) (q := 3) (v := p + (j : Int)) C dXC_number_8 (by show (192 : Nat) < 383; decide) rfl rfl (by decide) rfl inXC lXC_73 rfl rfl ?_
      refine v_iload_n C dXC_number_11 rfl rfl ?_
      refine v_isub C dXC_number_12 ?_
      refine v_iconst C dXC_number_13 ?_
      refine v_icmp_gt (tgt := 67) C dXC_number_14 (by decide) (by omega) (by omega) (fun hc13 => ?_) (fun hc13 => ?_)
      · exact v_st (by rw [hqp]) (L9 v hqv)
      · exfalso; omega
    | succ m ih =>
      intro j v hj hq
      have hq2 : q_nl fb fn (m + 1) (p + j) v = if 48 ≤ q_va fb fn (p + j) ∧ q_va fb fn (p + j) ≤ 57 then q_nl fb fn m (p + j + 1) (v * 10 + q_va fb fn (p + j) - 48) else (v, p + j) := rfl
      rw [hq2] at hq
      refine v_aload_n C dXC_number_7 rfl rfl ?_
      refine v_getI (k := 192) (q := 3) (v := p + (j : Int)) C dXC_number_8 (by show (192 : Nat) < 383; decide) rfl rfl (by decide) rfl inXC lXC_73 rfl rfl ?_
      refine v_iload_n C dXC_number_11 rfl rfl ?_
      refine v_isub C dXC_number_12 ?_
      refine v_iconst C dXC_number_13 ?_
      refine v_icmp_gt (tgt := 67) C dXC_number_14 (by decide) (by omega) (by omega) (fun hc14 => ?_) (fun hc14 => ?_)
      · exfalso; omega
      · refine v_aload_n C dXC_number_17 rfl rfl ?_
        refine v_getR (k := 192) (q := 0) C dXC_number_18 (by show (192 : Nat) < 383; decide) rfl rfl (by decide) rfl inXC lXC_17 rfl ?_
        refine v_aload_n C dXC_number_21 rfl rfl ?_
        refine v_getI (k := 192) (q := 3) (v := p + (j : Int)) C dXC_number_22 (by show (192 : Nat) < 383; decide) rfl rfl (by decide) rfl inXC lXC_73 rfl rfl ?_
        refine v_cVI (k := 8) (n := 1) C (xE_ok _) hEz hR (kX_XF_valueAtF _ D cA ad hJ (x_nx σ (p + (j : Int))) (p + (j : Int)) (by omega) fb fn hfb hfn hn0 hb9) dXC_number_25 (by show (8 : Nat) < 383; decide) rfl rfl gXC_33 (by decide +kernel) (by decide) (by decide) rfl (Nat.le_of_ble_eq_true rfl) rfl ⟨rfl, rfl⟩ (fun rv15 σv15 hpv15 => ?_)
        obtain ⟨e1v15, e2v15⟩ := hpv15
        subst σv15
        subst e1v15
        have hrv15 := q_va_r hb9 fn (p + (j : Int))
        have hiv15 := @q_va_in fb fn (p + (j : Int))
        refine v_cSI (n := 1) C (xE_ok _) hEz hR (kX_XC_isDigit _ D cA ad hJ (x_nx σ (p + (j : Int))) ((q_va fb fn (p + (j : Int)))) (by omega)) dXC_number_28 gXC_97 (by decide +kernel) (by decide) (by decide) rfl (Nat.le_of_ble_eq_true rfl) rfl ⟨rfl, rfl⟩ (fun rd16 σd16 hpd16 => ?_)
        obtain ⟨hd16, rfl, rfl⟩ | ⟨hd16, rfl, rfl⟩ := hpd16
        · refine v_if_eq (tgt := 67) C dXC_number_31 (by decide) (by omega) (fun hc17 => ?_) (fun hc17 => ?_)
          · exfalso; omega
          · refine v_iload_n C dXC_number_34 rfl rfl ?_
            refine v_bipush C dXC_number_35 (by decide +kernel) ?_
            refine v_imul C dXC_number_37 ?_
            refine v_aload_n C dXC_number_38 rfl rfl ?_
            refine v_getR (k := 192) (q := 0) C dXC_number_39 (by show (192 : Nat) < 383; decide) rfl rfl (by decide) rfl inXC lXC_17 rfl ?_
            refine v_aload_n C dXC_number_42 rfl rfl ?_
            refine v_getI (k := 192) (q := 3) (v := p + (j : Int)) C dXC_number_43 (by show (192 : Nat) < 383; decide) rfl rfl (by decide) rfl inXC lXC_73 rfl rfl ?_
            refine v_cVI (k := 8) (n := 1) C (xE_ok _) hEz hR (kX_XF_valueAtF _ D cA ad hJ (x_nx σ (p + (j : Int))) (p + (j : Int)) (by omega) fb fn hfb hfn hn0 hb9) dXC_number_46 (by show (8 : Nat) < 383; decide) rfl rfl gXC_33 (by decide +kernel) (by decide) (by decide) rfl (Nat.le_of_ble_eq_true rfl) rfl ⟨rfl, rfl⟩ (fun rv18 σv18 hpv18 => ?_)
            obtain ⟨e1v18, e2v18⟩ := hpv18
            subst σv18
            subst e1v18
            have hrv18 := q_va_r hb9 fn (p + (j : Int))
            have hiv18 := @q_va_in fb fn (p + (j : Int))
            refine v_iadd C dXC_number_49 ?_
            refine v_bipush C dXC_number_50 (by decide +kernel) ?_
            refine v_isub C dXC_number_52 ?_
            refine v_istore_n C dXC_number_53 rfl (by decide) ?_
            refine v_aload_n C dXC_number_54 rfl rfl ?_
            refine v_dup C dXC_number_55 rfl ?_
            refine v_getI (k := 192) (q := 3) (v := p + (j : Int)) C dXC_number_56 (by show (192 : Nat) < 383; decide) rfl rfl (by decide) rfl inXC lXC_73 rfl rfl ?_
            refine v_iconst C dXC_number_59 ?_
            refine v_iadd C dXC_number_60 ?_
            refine v_putI (k := 192) (q := 3) C dXC_number_61 (by show (192 : Nat) < 383; decide) rfl rfl (by decide) rfl inXC tyXC_ok nmXC lXC_73 rfl rfl rfl rfl rfl ?_
            refine v_goto (tgt := 7) C dXC_number_64 (by decide) ?_
            exact v_st (by rw [x_nx_nx]; push_cast; rw [← Int.add_assoc]) (ih (j + 1) _ (by omega) (by push_cast; rw [← Int.add_assoc]; rw [if_pos (by omega)] at hq; exact hq))
        · refine v_if_eq (tgt := 67) C dXC_number_31 (by decide) (by omega) (fun hc19 => ?_) (fun hc19 => ?_)
          · exact v_st (by rw [if_neg (by omega)] at hq; show _ = x_nx σ (q_nl fb fn 6 p 0).2; rw [← hq]) (L9 v (by rw [if_neg (by omega)] at hq; rw [← hq]))
          · exfalso; omega
  refine v_aload_n C dXC_number_0 rfl rfl ?_
  refine v_getI (k := 192) (q := 3) (v := p) C dXC_number_1 (by show (192 : Nat) < 383; decide) rfl rfl (by decide) rfl inXC lXC_73 rfl hp0 ?_
  refine v_istore_n C dXC_number_4 rfl (by decide) ?_
  refine v_iconst C dXC_number_5 ?_
  refine v_istore_n C dXC_number_6 rfl (by decide) ?_
  exact v_st ((x_nx_self σ hp0).trans (by simp)) (L 6 0 0 (by omega) (by simp))
set_option maxRecDepth 100000 in
set_option maxHeartbeats 4000000 in
/-- tagged -/
theorem kX_XC_tagged (l : Launch) (D : va_G) (cA : Nat → ClassId) (ad : Nat → Nat) (hJ : f_J (xG D cA ad)) (σ : fS) (p c : Int) (hp : -10 ≤ p ∧ p ≤ 150000) (hc : 33 ≤ c ∧ c ≤ 127) (fb : Nat → Int) (fn : Int) (hfb : σ.2 9 = fb) (hfn : σ.1 8 1 = fn) (hn0 : 0 ≤ fn ∧ fn ≤ 12000) (hb9 : ∀ i, -128 ≤ fb i ∧ fb i ≤ 127) : f_M l (xG D cA ad) (xE (xG D cA ad)) yXC_tagged (Cond.code yXC_tagged cXC_tagged 4 (some .int) :: A9) 2 σ [.ref (ad 192), .int (fI p), .int (fI c)] (f_QI (fun r σ1 => ∃ y, σ1 = x_nx σ y ∧ ((q_tg fb fn p c ∧ r = q_nr fb fn (p + 2) ∧ y = q_np fb fn (p + 2) + 1) ∨ (¬ q_tg fb fn p c ∧ r = -1))) (xG D cA ad)) := by
  refine f_enter (by decide +kernel) hJ rfl (Nat.le_of_ble_eq_true rfl) ?_
  intro z hzl hR C hRt hLk hEz
  subst hzl
  have hRR : 2 ≤ z.2.2.2.1.frames ∧ 40 * 2 ≤ z.2.2.2.1.locals ∧ 0 ≤ z.2.2.2.1.cells ∧ 0 ≤ z.2.2.2.1.slots := by rw [hR]; exact ⟨Nat.le_refl _, Nat.le_refl _, Nat.zero_le _, Nat.zero_le _⟩
  refine v_aload_n C dXC_tagged_0 rfl rfl ?_
  refine v_iload_n C dXC_tagged_1 rfl rfl ?_
  refine v_putI (k := 192) (q := 3) C dXC_tagged_2 (by show (192 : Nat) < 383; decide) rfl rfl (by decide) rfl inXC tyXC_ok nmXC lXC_73 rfl rfl rfl rfl rfl ?_
  refine v_st (σ1 := x_nx σ p) rfl ?_
  refine v_aload_n C dXC_tagged_5 rfl rfl ?_
  refine v_iload_n C dXC_tagged_6 rfl rfl ?_
  refine v_cVI (k := 192) (n := 1) C (xE_ok _) hEz hR (kX_XC_accept _ D cA ad hJ (x_nx σ (p)) (c) (by omega) (by show -2147483648 ≤ p ∧ p ≤ 2147483647; omega) fb fn hfb hfn hn0 hb9) dXC_tagged_7 (by show (192 : Nat) < 383; decide) rfl rfl gXC_79 (by decide +kernel) (by decide) (by decide) rfl (Nat.le_of_ble_eq_true rfl) rfl ⟨rfl, rfl⟩ (fun ra1 σa1 hpa1 => ?_)
  obtain ⟨ha1, rfl, rfl⟩ | ⟨ha1, rfl, rfl⟩ := hpa1
  · have ha1q : q_va fb fn (p) = c := ha1
    have ha1i := q_va_in (fb := fb) (fn := fn) (i := p) (by omega)
    refine v_st (x_nx_nx _ _ _) ?_
    refine v_if_eq (tgt := 22) C dXC_tagged_10 (by decide) (by omega) (fun hc2 => ?_) (fun hc2 => ?_)
    · exfalso; omega
    · refine v_aload_n C dXC_tagged_13 rfl rfl ?_
      refine v_bipush C dXC_tagged_14 (by decide +kernel) ?_
      refine v_cVI (k := 192) (n := 1) C (xE_ok _) hEz hR (kX_XC_accept _ D cA ad hJ (x_nx σ (p + 1)) (32) (by omega) (by show -2147483648 ≤ p + 1 ∧ p + 1 ≤ 2147483647; omega) fb fn hfb hfn hn0 hb9) dXC_tagged_16 (by show (192 : Nat) < 383; decide) rfl rfl gXC_79 (by decide +kernel) (by decide) (by decide) rfl (Nat.le_of_ble_eq_true rfl) rfl ⟨rfl, rfl⟩ (fun ra3 σa3 hpa3 => ?_)
      obtain ⟨ha3, rfl, rfl⟩ | ⟨ha3, rfl, rfl⟩ := hpa3
      · have ha3q : q_va fb fn (p + 1) = 32 := ha3
        have ha3i := q_va_in (fb := fb) (fn := fn) (i := p + 1) (by omega)
        refine v_st (x_nx_nx _ _ _) ?_
        refine v_if_ne (tgt := 24) C dXC_tagged_19 (by decide) (by omega) (fun hc4 => ?_) (fun hc4 => ?_)
        · refine v_st (σ1 := x_nx σ (p + 2)) (by show x_nx σ (p + 1 + 1) = x_nx σ (p + 2); rw [Int.add_assoc]; rfl) ?_
          refine v_aload_n C dXC_tagged_24 rfl rfl ?_
          refine v_cVI (k := 192) (n := 0) C (xE_ok _) hEz hR (kX_XC_number _ D cA ad hJ (x_nx σ (p + 2)) (p + 2) (by omega) rfl fb fn hfb hfn hn0 hb9) dXC_tagged_25 (by show (192 : Nat) < 383; decide) rfl rfl gXC_76 (by decide +kernel) (by decide) (by decide) rfl (Nat.le_of_ble_eq_true rfl) rfl ⟨rfl, rfl⟩ (fun rn5 σn5 hpn5 => ?_)
          obtain ⟨e1n5, e2n5⟩ := hpn5
          subst σn5
          subst e1n5
          have hn5 := q_np_r fb fn (p + 2)
          refine v_st (x_nx_nx _ _ _) ?_
          refine v_istore_n C dXC_tagged_28 rfl (by decide) ?_
          refine v_aload_n C dXC_tagged_29 rfl rfl ?_
          refine v_bipush C dXC_tagged_30 (by decide +kernel) ?_
          refine v_cVI (k := 192) (n := 1) C (xE_ok _) hEz hR (kX_XC_accept _ D cA ad hJ (x_nx σ (q_np fb fn (p + 2))) (10) (by omega) (by show -2147483648 ≤ q_np fb fn (p + 2) ∧ q_np fb fn (p + 2) ≤ 2147483647; omega) fb fn hfb hfn hn0 hb9) dXC_tagged_32 (by show (192 : Nat) < 383; decide) rfl rfl gXC_79 (by decide +kernel) (by decide) (by decide) rfl (Nat.le_of_ble_eq_true rfl) rfl ⟨rfl, rfl⟩ (fun ra6 σa6 hpa6 => ?_)
          obtain ⟨ha6, rfl, rfl⟩ | ⟨ha6, rfl, rfl⟩ := hpa6
          · have ha6q : q_va fb fn (q_np fb fn (p + 2)) = 10 := ha6
            have ha6i := q_va_in (fb := fb) (fn := fn) (i := q_np fb fn (p + 2)) (by omega)
            refine v_st (x_nx_nx _ _ _) ?_
            refine v_if_eq (tgt := 42) C dXC_tagged_35 (by decide) (by omega) (fun hc7 => ?_) (fun hc7 => ?_)
            · exfalso; omega
            · refine v_iload_n C dXC_tagged_38 rfl rfl ?_
              refine v_goto (tgt := 43) C dXC_tagged_39 (by decide) ?_
              exact v_iret C hRt hLk dXC_tagged_43 (by by_cases g : q_nr fb fn (p + 2) = -1; (· exact ⟨_, rfl, Or.inr ⟨fun h => by unfold q_tg at h; omega, g⟩⟩); (· exact ⟨_, rfl, Or.inl ⟨⟨by assumption, by assumption, by omega, by assumption⟩, rfl, rfl⟩⟩))
          · have ha6q : ¬ q_va fb fn (q_np fb fn (p + 2)) = 10 := ha6
            refine v_if_eq (tgt := 42) C dXC_tagged_35 (by decide) (by omega) (fun hc8 => ?_) (fun hc8 => ?_)
            · refine v_iconst C dXC_tagged_42 ?_
              exact v_iret C hRt hLk dXC_tagged_43 (by exact ⟨_, rfl, Or.inr ⟨fun h => by unfold q_tg at h; omega, rfl⟩⟩)
            · exfalso; omega
        · exfalso; omega
      · have ha3q : ¬ q_va fb fn (p + 1) = 32 := ha3
        refine v_if_ne (tgt := 24) C dXC_tagged_19 (by decide) (by omega) (fun hc9 => ?_) (fun hc9 => ?_)
        · exfalso; omega
        · refine v_iconst C dXC_tagged_22 ?_
          exact v_iret C hRt hLk dXC_tagged_23 (by exact ⟨_, rfl, Or.inr ⟨fun h => by unfold q_tg at h; omega, rfl⟩⟩)
  · have ha1q : ¬ q_va fb fn (p) = c := ha1
    refine v_if_eq (tgt := 22) C dXC_tagged_10 (by decide) (by omega) (fun hc10 => ?_) (fun hc10 => ?_)
    · refine v_iconst C dXC_tagged_22 ?_
      exact v_iret C hRt hLk dXC_tagged_23 (by exact ⟨_, rfl, Or.inr ⟨fun h => by unfold q_tg at h; omega, rfl⟩⟩)
    · exfalso; omega
set_option maxRecDepth 100000 in
set_option maxHeartbeats 4000000 in
/-- recordLength -/
theorem kX_XC_recordLength (l : Launch) (D : va_G) (cA : Nat → ClassId) (ad : Nat → Nat) (hJ : f_J (xG D cA ad)) (σ : fS) (n p x : Int) (hn : 1 ≤ n ∧ n ≤ 40) (hp : -10 ≤ p ∧ p ≤ 150000) (hx : -2147483648 ≤ x ∧ x ≤ 2147483647) (fb : Nat → Int) (fn : Int) (hfb : σ.2 9 = fb) (hfn : σ.1 8 1 = fn) (hn0 : 0 ≤ fn ∧ fn ≤ 12000) (hb9 : ∀ i, -128 ≤ fb i ∧ fb i ≤ 127) : f_M l (xG D cA ad) (xE (xG D cA ad)) yXC_recordLength (Cond.code yXC_recordLength cXC_recordLength 6 (some .int) :: A9) 2 σ [.ref (ad 192), .int (fI n), .int (fI p), .int (fI x)] (f_QI (fun r σ1 => ∃ y, σ1 = x_nx σ y ∧ ((q_rec fb fn n p x ∧ r = q_len fb fn p) ∨ (¬ q_rec fb fn n p x ∧ r = -1))) (xG D cA ad)) := by
  refine f_enter (by decide +kernel) hJ rfl (Nat.le_of_ble_eq_true rfl) ?_
  intro z hzl hR C hRt hLk hEz
  subst hzl
  have hRR : 2 ≤ z.2.2.2.1.frames ∧ 40 * 2 ≤ z.2.2.2.1.locals ∧ 0 ≤ z.2.2.2.1.cells ∧ 0 ≤ z.2.2.2.1.slots := by rw [hR]; exact ⟨Nat.le_refl _, Nat.le_refl _, Nat.zero_le _, Nat.zero_le _⟩
  refine v_aload_n C dXC_recordLength_0 rfl rfl ?_
  refine v_iload_n C dXC_recordLength_1 rfl rfl ?_
  refine v_putI (k := 192) (q := 3) C dXC_recordLength_2 (by show (192 : Nat) < 383; decide) rfl rfl (by decide) rfl inXC tyXC_ok nmXC lXC_73 rfl rfl rfl rfl rfl ?_
  refine v_st (σ1 := x_nx σ p) rfl ?_
  refine v_aload_n C dXC_recordLength_5 rfl rfl ?_
  refine v_bipush C dXC_recordLength_6 (by decide +kernel) ?_
  refine v_cVI (k := 192) (n := 1) C (xE_ok _) hEz hR (kX_XC_accept _ D cA ad hJ (x_nx σ (p)) (111) (by omega) (by show -2147483648 ≤ p ∧ p ≤ 2147483647; omega) fb fn hfb hfn hn0 hb9) dXC_recordLength_8 (by show (192 : Nat) < 383; decide) rfl rfl gXC_79 (by decide +kernel) (by decide) (by decide) rfl (Nat.le_of_ble_eq_true rfl) rfl ⟨rfl, rfl⟩ (fun ra1 σa1 hpa1 => ?_)
  obtain ⟨ha1, rfl, rfl⟩ | ⟨ha1, rfl, rfl⟩ := hpa1
  · have ha1q : q_va fb fn (p) = 111 := ha1
    have ha1i := q_va_in (fb := fb) (fn := fn) (i := p) (by omega)
    refine v_st (x_nx_nx _ _ _) ?_
    refine v_if_eq (tgt := 40) C dXC_recordLength_11 (by decide) (by omega) (fun hc2 => ?_) (fun hc2 => ?_)
    · exfalso; omega
    · refine v_aload_n C dXC_recordLength_14 rfl rfl ?_
      refine v_bipush C dXC_recordLength_15 (by decide +kernel) ?_
      refine v_cVI (k := 192) (n := 1) C (xE_ok _) hEz hR (kX_XC_accept _ D cA ad hJ (x_nx σ (p + 1)) (32) (by omega) (by show -2147483648 ≤ p + 1 ∧ p + 1 ≤ 2147483647; omega) fb fn hfb hfn hn0 hb9) dXC_recordLength_17 (by show (192 : Nat) < 383; decide) rfl rfl gXC_79 (by decide +kernel) (by decide) (by decide) rfl (Nat.le_of_ble_eq_true rfl) rfl ⟨rfl, rfl⟩ (fun ra3 σa3 hpa3 => ?_)
      obtain ⟨ha3, rfl, rfl⟩ | ⟨ha3, rfl, rfl⟩ := hpa3
      · have ha3q : q_va fb fn (p + 1) = 32 := ha3
        have ha3i := q_va_in (fb := fb) (fn := fn) (i := p + 1) (by omega)
        refine v_st (x_nx_nx _ _ _) ?_
        refine v_if_eq (tgt := 40) C dXC_recordLength_20 (by decide) (by omega) (fun hc4 => ?_) (fun hc4 => ?_)
        · exfalso; omega
        · refine v_st (σ1 := x_nx σ (p + 2)) (by show x_nx σ (p + 1 + 1) = x_nx σ (p + 2); rw [Int.add_assoc]; rfl) ?_
          refine v_aload_n C dXC_recordLength_23 rfl rfl ?_
          refine v_cVI (k := 192) (n := 0) C (xE_ok _) hEz hR (kX_XC_number _ D cA ad hJ (x_nx σ (p + 2)) (p + 2) (by omega) rfl fb fn hfb hfn hn0 hb9) dXC_recordLength_24 (by show (192 : Nat) < 383; decide) rfl rfl gXC_76 (by decide +kernel) (by decide) (by decide) rfl (Nat.le_of_ble_eq_true rfl) rfl ⟨rfl, rfl⟩ (fun rn5 σn5 hpn5 => ?_)
          obtain ⟨e1n5, e2n5⟩ := hpn5
          subst σn5
          subst e1n5
          have hn5 := q_np_r fb fn (p + 2)
          refine v_st (x_nx_nx _ _ _) ?_
          refine v_iload_n C dXC_recordLength_27 rfl rfl ?_
          refine v_icmp_ne (tgt := 40) C dXC_recordLength_28 (by decide) (by omega) (by omega) (fun hc6 => ?_) (fun hc6 => ?_)
          · refine v_iconst C dXC_recordLength_40 ?_
            exact v_iret C hRt hLk dXC_recordLength_41 (by first | exact ⟨_, rfl, Or.inl ⟨⟨by assumption, by assumption, by omega, by assumption, by omega, by assumption, by omega, by omega⟩, rfl⟩⟩ | exact ⟨_, rfl, Or.inr ⟨fun h => by unfold q_rec at h; omega, rfl⟩⟩)
          · refine v_aload_n C dXC_recordLength_31 rfl rfl ?_
            refine v_bipush C dXC_recordLength_32 (by decide +kernel) ?_
            refine v_cVI (k := 192) (n := 1) C (xE_ok _) hEz hR (kX_XC_accept _ D cA ad hJ (x_nx σ (q_np fb fn (p + 2))) (32) (by omega) (by show -2147483648 ≤ q_np fb fn (p + 2) ∧ q_np fb fn (p + 2) ≤ 2147483647; omega) fb fn hfb hfn hn0 hb9) dXC_recordLength_34 (by show (192 : Nat) < 383; decide) rfl rfl gXC_79 (by decide +kernel) (by decide) (by decide) rfl (Nat.le_of_ble_eq_true rfl) rfl ⟨rfl, rfl⟩ (fun ra7 σa7 hpa7 => ?_)
            obtain ⟨ha7, rfl, rfl⟩ | ⟨ha7, rfl, rfl⟩ := hpa7
            · have ha7q : q_va fb fn (q_np fb fn (p + 2)) = 32 := ha7
              have ha7i := q_va_in (fb := fb) (fn := fn) (i := q_np fb fn (p + 2)) (by omega)
              refine v_st (x_nx_nx _ _ _) ?_
              refine v_if_ne (tgt := 42) C dXC_recordLength_37 (by decide) (by omega) (fun hc8 => ?_) (fun hc8 => ?_)
              · refine v_st (σ1 := x_nx σ (q_la fb fn p)) rfl ?_
                have hla : q_la fb fn p = q_np fb fn (p + 2) + 1 := rfl
                have hlr := q_np_r fb fn (q_la fb fn p)
                have hle : q_len fb fn p = q_nr fb fn (q_la fb fn p) := rfl
                refine v_aload_n C dXC_recordLength_42 rfl rfl ?_
                refine v_cVI (k := 192) (n := 0) C (xE_ok _) hEz hR (kX_XC_number _ D cA ad hJ (x_nx σ (q_la fb fn p)) (q_la fb fn p) (by omega) rfl fb fn hfb hfn hn0 hb9) dXC_recordLength_43 (by show (192 : Nat) < 383; decide) rfl rfl gXC_76 (by decide +kernel) (by decide) (by decide) rfl (Nat.le_of_ble_eq_true rfl) rfl ⟨rfl, rfl⟩ (fun rn9 σn9 hpn9 => ?_)
                obtain ⟨e1n9, e2n9⟩ := hpn9
                subst σn9
                subst e1n9
                have hn9 := q_np_r fb fn (q_la fb fn p)
                refine v_st (x_nx_nx _ _ _) ?_
                refine v_top (b := (q_len fb fn p)) rfl ?_
                refine v_istore C dXC_recordLength_46 (by decide) ?_
                refine v_iload C dXC_recordLength_48 rfl ?_
                refine v_iconst C dXC_recordLength_50 ?_
                refine v_icmp_eq (tgt := 70) C dXC_recordLength_51 (by decide) (by omega) (by omega) (fun hc10 => ?_) (fun hc10 => ?_)
                · refine v_iconst C dXC_recordLength_70 ?_
                  exact v_iret C hRt hLk dXC_recordLength_71 (by first | exact ⟨_, rfl, Or.inl ⟨⟨by assumption, by assumption, by omega, by assumption, by omega, by assumption, by omega, by omega⟩, rfl⟩⟩ | exact ⟨_, rfl, Or.inr ⟨fun h => by unfold q_rec at h; omega, rfl⟩⟩)
                · refine v_iload C dXC_recordLength_54 rfl ?_
                  refine v_bipush C dXC_recordLength_56 (by decide +kernel) ?_
                  refine v_icmp_gt (tgt := 70) C dXC_recordLength_58 (by decide) (by omega) (by omega) (fun hc11 => ?_) (fun hc11 => ?_)
                  · refine v_iconst C dXC_recordLength_70 ?_
                    exact v_iret C hRt hLk dXC_recordLength_71 (by first | exact ⟨_, rfl, Or.inl ⟨⟨by assumption, by assumption, by omega, by assumption, by omega, by assumption, by omega, by omega⟩, rfl⟩⟩ | exact ⟨_, rfl, Or.inr ⟨fun h => by unfold q_rec at h; omega, rfl⟩⟩)
                  · refine v_aload_n C dXC_recordLength_61 rfl rfl ?_
                    refine v_bipush C dXC_recordLength_62 (by decide +kernel) ?_
                    refine v_cVI (k := 192) (n := 1) C (xE_ok _) hEz hR (kX_XC_accept _ D cA ad hJ (x_nx σ (q_np fb fn (q_la fb fn p))) (10) (by omega) (by show -2147483648 ≤ q_np fb fn (q_la fb fn p) ∧ q_np fb fn (q_la fb fn p) ≤ 2147483647; omega) fb fn hfb hfn hn0 hb9) dXC_recordLength_64 (by show (192 : Nat) < 383; decide) rfl rfl gXC_79 (by decide +kernel) (by decide) (by decide) rfl (Nat.le_of_ble_eq_true rfl) rfl ⟨rfl, rfl⟩ (fun ra12 σa12 hpa12 => ?_)
                    obtain ⟨ha12, rfl, rfl⟩ | ⟨ha12, rfl, rfl⟩ := hpa12
                    · have ha12q : q_va fb fn (q_np fb fn (q_la fb fn p)) = 10 := ha12
                      have ha12i := q_va_in (fb := fb) (fn := fn) (i := q_np fb fn (q_la fb fn p)) (by omega)
                      refine v_st (x_nx_nx _ _ _) ?_
                      refine v_if_ne (tgt := 72) C dXC_recordLength_67 (by decide) (by omega) (fun hc13 => ?_) (fun hc13 => ?_)
                      · refine v_st (σ1 := x_nx σ (q_by fb fn p)) rfl ?_
                        have hby : q_by fb fn p = q_np fb fn (q_la fb fn p) + 1 := rfl
                        refine v_aload_n C dXC_recordLength_72 rfl rfl ?_
                        refine v_getI (k := 192) (q := 3) (v := q_by fb fn p) C dXC_recordLength_73 (by show (192 : Nat) < 383; decide) rfl rfl (by decide) rfl inXC lXC_73 rfl rfl ?_
                        refine v_iload C dXC_recordLength_76 rfl ?_
                        refine v_iadd C dXC_recordLength_78 ?_
                        refine v_istore C dXC_recordLength_79 (by decide) ?_
                        refine v_iload C dXC_recordLength_81 rfl ?_
                        refine v_iload_n C dXC_recordLength_83 rfl rfl ?_
                        refine v_icmp_ge (tgt := 106) C dXC_recordLength_84 (by decide) (by omega) (by omega) (fun hc14 => ?_) (fun hc14 => ?_)
                        · refine v_iconst C dXC_recordLength_106 ?_
                          exact v_iret C hRt hLk dXC_recordLength_107 (by first | exact ⟨_, rfl, Or.inl ⟨⟨by assumption, by assumption, by omega, by assumption, by omega, by assumption, by omega, by omega⟩, rfl⟩⟩ | exact ⟨_, rfl, Or.inr ⟨fun h => by unfold q_rec at h; omega, rfl⟩⟩)
                        · refine v_aload_n C dXC_recordLength_87 rfl rfl ?_
                          refine v_getR (k := 192) (q := 0) C dXC_recordLength_88 (by show (192 : Nat) < 383; decide) rfl rfl (by decide) rfl inXC lXC_17 rfl ?_
                          refine v_iload C dXC_recordLength_91 rfl ?_
                          refine v_cVI (k := 8) (n := 1) C (xE_ok _) hEz hR (kX_XF_valueAtF _ D cA ad hJ (x_nx σ (q_by fb fn p)) ((q_by fb fn p + (q_len fb fn p))) (by omega) fb fn hfb hfn hn0 hb9) dXC_recordLength_93 (by show (8 : Nat) < 383; decide) rfl rfl gXC_33 (by decide +kernel) (by decide) (by decide) rfl (Nat.le_of_ble_eq_true rfl) rfl ⟨rfl, rfl⟩ (fun rv15 σv15 hpv15 => ?_)
                          obtain ⟨e1v15, e2v15⟩ := hpv15
                          subst σv15
                          subst e1v15
                          have hrv15 := q_va_r hb9 fn ((q_by fb fn p + (q_len fb fn p)))
                          have hiv15 := @q_va_in fb fn ((q_by fb fn p + (q_len fb fn p)))
                          refine v_bipush C dXC_recordLength_96 (by decide +kernel) ?_
                          refine v_icmp_ne (tgt := 106) C dXC_recordLength_98 (by decide) (by omega) (by omega) (fun hc16 => ?_) (fun hc16 => ?_)
                          · refine v_iconst C dXC_recordLength_106 ?_
                            exact v_iret C hRt hLk dXC_recordLength_107 (by first | exact ⟨_, rfl, Or.inl ⟨⟨by assumption, by assumption, by omega, by assumption, by omega, by assumption, by omega, by omega⟩, rfl⟩⟩ | exact ⟨_, rfl, Or.inr ⟨fun h => by unfold q_rec at h; omega, rfl⟩⟩)
                          · refine v_iload C dXC_recordLength_101 rfl ?_
                            refine v_goto (tgt := 107) C dXC_recordLength_103 (by decide) ?_
                            exact v_iret C hRt hLk dXC_recordLength_107 (by first | exact ⟨_, rfl, Or.inl ⟨⟨by assumption, by assumption, by omega, by assumption, by omega, by assumption, by omega, by omega⟩, rfl⟩⟩ | exact ⟨_, rfl, Or.inr ⟨fun h => by unfold q_rec at h; omega, rfl⟩⟩)
                      · exfalso; omega
                    · have ha12q : ¬ q_va fb fn (q_np fb fn (q_la fb fn p)) = 10 := ha12
                      refine v_if_ne (tgt := 72) C dXC_recordLength_67 (by decide) (by omega) (fun hc17 => ?_) (fun hc17 => ?_)
                      · exfalso; omega
                      · refine v_iconst C dXC_recordLength_70 ?_
                        exact v_iret C hRt hLk dXC_recordLength_71 (by first | exact ⟨_, rfl, Or.inl ⟨⟨by assumption, by assumption, by omega, by assumption, by omega, by assumption, by omega, by omega⟩, rfl⟩⟩ | exact ⟨_, rfl, Or.inr ⟨fun h => by unfold q_rec at h; omega, rfl⟩⟩)
              · exfalso; omega
            · have ha7q : ¬ q_va fb fn (q_np fb fn (p + 2)) = 32 := ha7
              refine v_if_ne (tgt := 42) C dXC_recordLength_37 (by decide) (by omega) (fun hc18 => ?_) (fun hc18 => ?_)
              · exfalso; omega
              · refine v_iconst C dXC_recordLength_40 ?_
                exact v_iret C hRt hLk dXC_recordLength_41 (by first | exact ⟨_, rfl, Or.inl ⟨⟨by assumption, by assumption, by omega, by assumption, by omega, by assumption, by omega, by omega⟩, rfl⟩⟩ | exact ⟨_, rfl, Or.inr ⟨fun h => by unfold q_rec at h; omega, rfl⟩⟩)
      · have ha3q : ¬ q_va fb fn (p + 1) = 32 := ha3
        refine v_if_eq (tgt := 40) C dXC_recordLength_20 (by decide) (by omega) (fun hc19 => ?_) (fun hc19 => ?_)
        · refine v_iconst C dXC_recordLength_40 ?_
          exact v_iret C hRt hLk dXC_recordLength_41 (by first | exact ⟨_, rfl, Or.inl ⟨⟨by assumption, by assumption, by omega, by assumption, by omega, by assumption, by omega, by omega⟩, rfl⟩⟩ | exact ⟨_, rfl, Or.inr ⟨fun h => by unfold q_rec at h; omega, rfl⟩⟩)
        · exfalso; omega
  · have ha1q : ¬ q_va fb fn (p) = 111 := ha1
    refine v_if_eq (tgt := 40) C dXC_recordLength_11 (by decide) (by omega) (fun hc20 => ?_) (fun hc20 => ?_)
    · refine v_iconst C dXC_recordLength_40 ?_
      exact v_iret C hRt hLk dXC_recordLength_41 (by first | exact ⟨_, rfl, Or.inl ⟨⟨by assumption, by assumption, by omega, by assumption, by omega, by assumption, by omega, by omega⟩, rfl⟩⟩ | exact ⟨_, rfl, Or.inr ⟨fun h => by unfold q_rec at h; omega, rfl⟩⟩)
    · exfalso; omega
set_option maxRecDepth 100000 in
set_option maxHeartbeats 4000000 in
/-- hasFirstLine -/
theorem kX_XC_hasFirstLine (l : Launch) (D : va_G) (cA : Nat → ClassId) (ad : Nat → Nat) (hJ : f_J (xG D cA ad)) (σ : fS) (fb : Nat → Int) (fn : Int) (hfb : σ.2 9 = fb) (hfn : σ.1 8 1 = fn) (hn0 : 0 ≤ fn ∧ fn ≤ 12000) (hb9 : ∀ i, -128 ≤ fb i ∧ fb i ≤ 127) : f_M l (xG D cA ad) (xE (xG D cA ad)) yXC_hasFirstLine (Cond.code yXC_hasFirstLine cXC_hasFirstLine 2 (some .boolean) :: A9) 1 σ [.ref (ad 192)] (f_QI (fun r σ1 => (q_fl fb fn ∧ r = 1 ∧ σ1 = σ) ∨ (¬ q_fl fb fn ∧ r = 0 ∧ σ1 = σ)) (xG D cA ad)) := by
  refine f_enter (by decide +kernel) hJ rfl (Nat.le_of_ble_eq_true rfl) ?_
  intro z hzl hR C hRt hLk hEz
  subst hzl
  have hRR : 1 ≤ z.2.2.2.1.frames ∧ 40 * 1 ≤ z.2.2.2.1.locals ∧ 0 ≤ z.2.2.2.1.cells ∧ 0 ≤ z.2.2.2.1.slots := by rw [hR]; exact ⟨Nat.le_refl _, Nat.le_refl _, Nat.zero_le _, Nat.zero_le _⟩
  have L4 : q_va fb fn 0 = 37 → q_va fb fn 1 = 70 → q_va fb fn 2 = 49 → q_va fb fn 3 = 10 → fv z (xG D cA ad) 2 (f_R z (xG D cA ad) (f_QI (fun r σ1 => (q_fl fb fn ∧ r = 1 ∧ σ1 = σ) ∨ (¬ q_fl fb fn ∧ r = 0 ∧ σ1 = σ)) (xG D cA ad))) 0 0 σ 2 [some (.ref (ad 192)), some (.int (fI 4))] [] := by
    intro g0 g1 g2 g3
    refine v_iload_n C dXC_hasFirstLine_2 rfl rfl ?_
    refine v_fl C hEz (by decide +kernel) dXC_hasFirstLine_3 (fun t1 hTt1 => ?_)
    refine v_fln C hTt1 dXC_hasFirstLine_6 ?_
    refine v_icmp_ge (tgt := 34) C dXC_hasFirstLine_7 (by decide) (by omega) (by omega) (fun hc2 => ?_) (fun hc2 => ?_)
    · refine v_iconst C dXC_hasFirstLine_34 ?_
      exact v_zret C hRt hLk dXC_hasFirstLine_35 (fN_bool (by omega)) (by first | exact Or.inl ⟨⟨g0, g1, g2, g3⟩, rfl, rfl⟩ | exact Or.inr ⟨fun h => by unfold q_fl at h; omega, rfl, rfl⟩)
    · exfalso; omega
  have L3 : q_va fb fn 0 = 37 → q_va fb fn 1 = 70 → q_va fb fn 2 = 49 → fv z (xG D cA ad) 2 (f_R z (xG D cA ad) (f_QI (fun r σ1 => (q_fl fb fn ∧ r = 1 ∧ σ1 = σ) ∨ (¬ q_fl fb fn ∧ r = 0 ∧ σ1 = σ)) (xG D cA ad))) 0 0 σ 2 [some (.ref (ad 192)), some (.int (fI 3))] [] := by
    intro g0 g1 g2
    refine v_iload_n C dXC_hasFirstLine_2 rfl rfl ?_
    refine v_fl C hEz (by decide +kernel) dXC_hasFirstLine_3 (fun t3 hTt3 => ?_)
    refine v_fln C hTt3 dXC_hasFirstLine_6 ?_
    refine v_icmp_ge (tgt := 34) C dXC_hasFirstLine_7 (by decide) (by omega) (by omega) (fun hc4 => ?_) (fun hc4 => ?_)
    · exfalso; omega
    · refine v_aload_n C dXC_hasFirstLine_10 rfl rfl ?_
      refine v_getR (k := 192) (q := 0) C dXC_hasFirstLine_11 (by show (192 : Nat) < 383; decide) rfl rfl (by decide) rfl inXC lXC_17 rfl ?_
      refine v_iload_n C dXC_hasFirstLine_14 rfl rfl ?_
      refine v_cVI (k := 8) (n := 1) C (xE_ok _) hEz hR (kX_XF_valueAtF _ D cA ad hJ σ (3) (by omega) fb fn hfb hfn hn0 hb9) dXC_hasFirstLine_15 (by show (8 : Nat) < 383; decide) rfl rfl gXC_33 (by decide +kernel) (by decide) (by decide) rfl (Nat.le_of_ble_eq_true rfl) rfl ⟨rfl, rfl⟩ (fun rv5 σv5 hpv5 => ?_)
      obtain ⟨e1v5, e2v5⟩ := hpv5
      subst σv5
      subst e1v5
      have hrv5 := q_va_r hb9 fn (3)
      have hiv5 := @q_va_in fb fn (3)
      refine v_fl C hEz (by decide +kernel) dXC_hasFirstLine_18 (fun t6 hTt6 => ?_)
      refine v_iload_n C dXC_hasFirstLine_21 rfl rfl ?_
      refine v_flb (i := 3) C hTt6 (by decide) dXC_hasFirstLine_22 ?_
      refine v_top (b := 10) (by decide +kernel) ?_
      refine v_icmp_eq (tgt := 28) C dXC_hasFirstLine_23 (by decide) (by omega) (by omega) (fun hc7 => ?_) (fun hc7 => ?_)
      · refine v_iinc C dXC_hasFirstLine_28 rfl (by decide) ?_
        refine v_goto (tgt := 2) C dXC_hasFirstLine_31 (by decide) ?_
        exact v_lv rfl (L4 g0 g1 g2 (by omega))
      · refine v_iconst C dXC_hasFirstLine_26 ?_
        exact v_zret C hRt hLk dXC_hasFirstLine_27 (fN_bool (by omega)) (by first | exact Or.inl ⟨⟨g0, g1, g2, g3⟩, rfl, rfl⟩ | exact Or.inr ⟨fun h => by unfold q_fl at h; omega, rfl, rfl⟩)
  have L2 : q_va fb fn 0 = 37 → q_va fb fn 1 = 70 → fv z (xG D cA ad) 2 (f_R z (xG D cA ad) (f_QI (fun r σ1 => (q_fl fb fn ∧ r = 1 ∧ σ1 = σ) ∨ (¬ q_fl fb fn ∧ r = 0 ∧ σ1 = σ)) (xG D cA ad))) 0 0 σ 2 [some (.ref (ad 192)), some (.int (fI 2))] [] := by
    intro g0 g1
    refine v_iload_n C dXC_hasFirstLine_2 rfl rfl ?_
    refine v_fl C hEz (by decide +kernel) dXC_hasFirstLine_3 (fun t8 hTt8 => ?_)
    refine v_fln C hTt8 dXC_hasFirstLine_6 ?_
    refine v_icmp_ge (tgt := 34) C dXC_hasFirstLine_7 (by decide) (by omega) (by omega) (fun hc9 => ?_) (fun hc9 => ?_)
    · exfalso; omega
    · refine v_aload_n C dXC_hasFirstLine_10 rfl rfl ?_
      refine v_getR (k := 192) (q := 0) C dXC_hasFirstLine_11 (by show (192 : Nat) < 383; decide) rfl rfl (by decide) rfl inXC lXC_17 rfl ?_
      refine v_iload_n C dXC_hasFirstLine_14 rfl rfl ?_
      refine v_cVI (k := 8) (n := 1) C (xE_ok _) hEz hR (kX_XF_valueAtF _ D cA ad hJ σ (2) (by omega) fb fn hfb hfn hn0 hb9) dXC_hasFirstLine_15 (by show (8 : Nat) < 383; decide) rfl rfl gXC_33 (by decide +kernel) (by decide) (by decide) rfl (Nat.le_of_ble_eq_true rfl) rfl ⟨rfl, rfl⟩ (fun rv10 σv10 hpv10 => ?_)
      obtain ⟨e1v10, e2v10⟩ := hpv10
      subst σv10
      subst e1v10
      have hrv10 := q_va_r hb9 fn (2)
      have hiv10 := @q_va_in fb fn (2)
      refine v_fl C hEz (by decide +kernel) dXC_hasFirstLine_18 (fun t11 hTt11 => ?_)
      refine v_iload_n C dXC_hasFirstLine_21 rfl rfl ?_
      refine v_flb (i := 2) C hTt11 (by decide) dXC_hasFirstLine_22 ?_
      refine v_top (b := 49) (by decide +kernel) ?_
      refine v_icmp_eq (tgt := 28) C dXC_hasFirstLine_23 (by decide) (by omega) (by omega) (fun hc12 => ?_) (fun hc12 => ?_)
      · refine v_iinc C dXC_hasFirstLine_28 rfl (by decide) ?_
        refine v_goto (tgt := 2) C dXC_hasFirstLine_31 (by decide) ?_
        exact v_lv rfl (L3 g0 g1 (by omega))
      · refine v_iconst C dXC_hasFirstLine_26 ?_
        exact v_zret C hRt hLk dXC_hasFirstLine_27 (fN_bool (by omega)) (by first | exact Or.inl ⟨⟨g0, g1, g2, g3⟩, rfl, rfl⟩ | exact Or.inr ⟨fun h => by unfold q_fl at h; omega, rfl, rfl⟩)
  have L1 : q_va fb fn 0 = 37 → fv z (xG D cA ad) 2 (f_R z (xG D cA ad) (f_QI (fun r σ1 => (q_fl fb fn ∧ r = 1 ∧ σ1 = σ) ∨ (¬ q_fl fb fn ∧ r = 0 ∧ σ1 = σ)) (xG D cA ad))) 0 0 σ 2 [some (.ref (ad 192)), some (.int (fI 1))] [] := by
    intro g0
    refine v_iload_n C dXC_hasFirstLine_2 rfl rfl ?_
    refine v_fl C hEz (by decide +kernel) dXC_hasFirstLine_3 (fun t13 hTt13 => ?_)
    refine v_fln C hTt13 dXC_hasFirstLine_6 ?_
    refine v_icmp_ge (tgt := 34) C dXC_hasFirstLine_7 (by decide) (by omega) (by omega) (fun hc14 => ?_) (fun hc14 => ?_)
    · exfalso; omega
    · refine v_aload_n C dXC_hasFirstLine_10 rfl rfl ?_
      refine v_getR (k := 192) (q := 0) C dXC_hasFirstLine_11 (by show (192 : Nat) < 383; decide) rfl rfl (by decide) rfl inXC lXC_17 rfl ?_
      refine v_iload_n C dXC_hasFirstLine_14 rfl rfl ?_
      refine v_cVI (k := 8) (n := 1) C (xE_ok _) hEz hR (kX_XF_valueAtF _ D cA ad hJ σ (1) (by omega) fb fn hfb hfn hn0 hb9) dXC_hasFirstLine_15 (by show (8 : Nat) < 383; decide) rfl rfl gXC_33 (by decide +kernel) (by decide) (by decide) rfl (Nat.le_of_ble_eq_true rfl) rfl ⟨rfl, rfl⟩ (fun rv15 σv15 hpv15 => ?_)
      obtain ⟨e1v15, e2v15⟩ := hpv15
      subst σv15
      subst e1v15
      have hrv15 := q_va_r hb9 fn (1)
      have hiv15 := @q_va_in fb fn (1)
      refine v_fl C hEz (by decide +kernel) dXC_hasFirstLine_18 (fun t16 hTt16 => ?_)
      refine v_iload_n C dXC_hasFirstLine_21 rfl rfl ?_
      refine v_flb (i := 1) C hTt16 (by decide) dXC_hasFirstLine_22 ?_
      refine v_top (b := 70) (by decide +kernel) ?_
      refine v_icmp_eq (tgt := 28) C dXC_hasFirstLine_23 (by decide) (by omega) (by omega) (fun hc17 => ?_) (fun hc17 => ?_)
      · refine v_iinc C dXC_hasFirstLine_28 rfl (by decide) ?_
        refine v_goto (tgt := 2) C dXC_hasFirstLine_31 (by decide) ?_
        exact v_lv rfl (L2 g0 (by omega))
      · refine v_iconst C dXC_hasFirstLine_26 ?_
        exact v_zret C hRt hLk dXC_hasFirstLine_27 (fN_bool (by omega)) (by first | exact Or.inl ⟨⟨g0, g1, g2, g3⟩, rfl, rfl⟩ | exact Or.inr ⟨fun h => by unfold q_fl at h; omega, rfl, rfl⟩)
  have L0 : fv z (xG D cA ad) 2 (f_R z (xG D cA ad) (f_QI (fun r σ1 => (q_fl fb fn ∧ r = 1 ∧ σ1 = σ) ∨ (¬ q_fl fb fn ∧ r = 0 ∧ σ1 = σ)) (xG D cA ad))) 0 0 σ 2 [some (.ref (ad 192)), some (.int (fI 0))] [] := by
    refine v_iload_n C dXC_hasFirstLine_2 rfl rfl ?_
    refine v_fl C hEz (by decide +kernel) dXC_hasFirstLine_3 (fun t18 hTt18 => ?_)
    refine v_fln C hTt18 dXC_hasFirstLine_6 ?_
    refine v_icmp_ge (tgt := 34) C dXC_hasFirstLine_7 (by decide) (by omega) (by omega) (fun hc19 => ?_) (fun hc19 => ?_)
    · exfalso; omega
    · refine v_aload_n C dXC_hasFirstLine_10 rfl rfl ?_
      refine v_getR (k := 192) (q := 0) C dXC_hasFirstLine_11 (by show (192 : Nat) < 383; decide) rfl rfl (by decide) rfl inXC lXC_17 rfl ?_
      refine v_iload_n C dXC_hasFirstLine_14 rfl rfl ?_
      refine v_cVI (k := 8) (n := 1) C (xE_ok _) hEz hR (kX_XF_valueAtF _ D cA ad hJ σ (0) (by omega) fb fn hfb hfn hn0 hb9) dXC_hasFirstLine_15 (by show (8 : Nat) < 383; decide) rfl rfl gXC_33 (by decide +kernel) (by decide) (by decide) rfl (Nat.le_of_ble_eq_true rfl) rfl ⟨rfl, rfl⟩ (fun rv20 σv20 hpv20 => ?_)
      obtain ⟨e1v20, e2v20⟩ := hpv20
      subst σv20
      subst e1v20
      have hrv20 := q_va_r hb9 fn (0)
      have hiv20 := @q_va_in fb fn (0)
      refine v_fl C hEz (by decide +kernel) dXC_hasFirstLine_18 (fun t21 hTt21 => ?_)
      refine v_iload_n C dXC_hasFirstLine_21 rfl rfl ?_
      refine v_flb (i := 0) C hTt21 (by decide) dXC_hasFirstLine_22 ?_
      refine v_top (b := 37) (by decide +kernel) ?_
      refine v_icmp_eq (tgt := 28) C dXC_hasFirstLine_23 (by decide) (by omega) (by omega) (fun hc22 => ?_) (fun hc22 => ?_)
      · refine v_iinc C dXC_hasFirstLine_28 rfl (by decide) ?_
        refine v_goto (tgt := 2) C dXC_hasFirstLine_31 (by decide) ?_
        exact v_lv rfl (L1  (by omega))
      · refine v_iconst C dXC_hasFirstLine_26 ?_
        exact v_zret C hRt hLk dXC_hasFirstLine_27 (fN_bool (by omega)) (by first | exact Or.inl ⟨⟨g0, g1, g2, g3⟩, rfl, rfl⟩ | exact Or.inr ⟨fun h => by unfold q_fl at h; omega, rfl, rfl⟩)
  refine v_iconst C dXC_hasFirstLine_0 ?_
  refine v_istore_n C dXC_hasFirstLine_1 rfl (by decide) ?_
  exact L0
set_option maxRecDepth 100000 in
set_option maxHeartbeats 4000000 in
/-- lastLine -/
theorem kX_XC_lastLine (l : Launch) (D : va_G) (cA : Nat → ClassId) (ad : Nat → Nat) (hJ : f_J (xG D cA ad)) (σ : fS) (fb : Nat → Int) (fn : Int) (hfb : σ.2 9 = fb) (hfn : σ.1 8 1 = fn) (hn0 : 0 ≤ fn ∧ fn ≤ 12000) (hb9 : ∀ i, -128 ≤ fb i ∧ fb i ≤ 127) (hn1 : 1 ≤ fn) : f_M l (xG D cA ad) (xE (xG D cA ad)) yXC_lastLine (Cond.code yXC_lastLine cXC_lastLine 2 (some .int) :: A9) 1 σ [.ref (ad 192)] (f_QI (fun r σ1 => r = q_ll fb fn (fn - 1).toNat (fn - 1) ∧ σ1 = σ) (xG D cA ad)) := by
  refine f_enter (by decide +kernel) hJ rfl (Nat.le_of_ble_eq_true rfl) ?_
  intro z hzl hR C hRt hLk hEz
  subst hzl
  have hRR : 1 ≤ z.2.2.2.1.frames ∧ 40 * 1 ≤ z.2.2.2.1.locals ∧ 0 ≤ z.2.2.2.1.cells ∧ 0 ≤ z.2.2.2.1.slots := by rw [hR]; exact ⟨Nat.le_refl _, Nat.le_refl _, Nat.zero_le _, Nat.zero_le _⟩
  have L : ∀ (m : Nat) (p : Int), (m : Int) = p → p ≤ fn → q_ll fb fn m p = q_ll fb fn (fn - 1).toNat (fn - 1) → fv z (xG D cA ad) 2 (f_R z (xG D cA ad) (f_QI (fun r σ1 => r = q_ll fb fn (fn - 1).toNat (fn - 1) ∧ σ1 = σ) (xG D cA ad))) 0 0 σ 10 [some (.ref (ad 192)), some (.int (fI p))] [] := by
    intro m
    induction m with
    | zero =>
      intro p hm hpf hq
      have hq0 : q_ll fb fn 0 p = p := rfl
      refine v_iload_n C dXC_lastLine_10 rfl rfl ?_
      refine v_if_le (tgt := 35) C dXC_lastLine_11 (by decide) (by omega) (fun hc1 => ?_) (fun hc1 => ?_)
      · refine v_iload_n C dXC_lastLine_35 rfl rfl ?_
        exact v_iret C hRt hLk dXC_lastLine_36 ⟨by first | (rw [if_pos (by omega)] at hq; exact hq) | exact hq0.symm.trans hq, rfl⟩
      · exfalso; omega
    | succ m ih =>
      intro p hm hpf hq
      have hq2 : q_ll fb fn (m + 1) p = if q_va fb fn (p - 1) = 10 then p else q_ll fb fn m (p - 1) := rfl
      rw [hq2] at hq
      refine v_iload_n C dXC_lastLine_10 rfl rfl ?_
      refine v_if_le (tgt := 35) C dXC_lastLine_11 (by decide) (by omega) (fun hc2 => ?_) (fun hc2 => ?_)
      · exfalso; omega
      · refine v_aload_n C dXC_lastLine_14 rfl rfl ?_
        refine v_getR (k := 192) (q := 0) C dXC_lastLine_15 (by show (192 : Nat) < 383; decide) rfl rfl (by decide) rfl inXC lXC_17 rfl ?_
        refine v_iload_n C dXC_lastLine_18 rfl rfl ?_
        refine v_iconst C dXC_lastLine_19 ?_
        refine v_isub C dXC_lastLine_20 ?_
        refine v_cVI (k := 8) (n := 1) C (xE_ok _) hEz hR (kX_XF_valueAtF _ D cA ad hJ σ ((p - 1)) (by omega) fb fn hfb hfn hn0 hb9) dXC_lastLine_21 (by show (8 : Nat) < 383; decide) rfl rfl gXC_33 (by decide +kernel) (by decide) (by decide) rfl (Nat.le_of_ble_eq_true rfl) rfl ⟨rfl, rfl⟩ (fun rv3 σv3 hpv3 => ?_)
        obtain ⟨e1v3, e2v3⟩ := hpv3
        subst σv3
        subst e1v3
        have hrv3 := q_va_r hb9 fn ((p - 1))
        have hiv3 := @q_va_in fb fn ((p - 1))
        refine v_bipush C dXC_lastLine_24 (by decide +kernel) ?_
        refine v_icmp_eq (tgt := 35) C dXC_lastLine_26 (by decide) (by omega) (by omega) (fun hc4 => ?_) (fun hc4 => ?_)
        · refine v_iload_n C dXC_lastLine_35 rfl rfl ?_
          exact v_iret C hRt hLk dXC_lastLine_36 ⟨by first | (rw [if_pos (by omega)] at hq; exact hq) | exact hq0.symm.trans hq, rfl⟩
        · refine v_iinc C dXC_lastLine_29 rfl (by decide) ?_
          refine v_goto (tgt := 10) C dXC_lastLine_32 (by decide) ?_
          exact v_lv rfl (ih (p + -1) (by omega) (by omega) (by rw [if_neg (by omega)] at hq; exact hq))
  refine v_aload_n C dXC_lastLine_0 rfl rfl ?_
  refine v_getR (k := 192) (q := 0) C dXC_lastLine_1 (by show (192 : Nat) < 383; decide) rfl rfl (by decide) rfl inXC lXC_17 rfl ?_
  refine v_getI (k := 8) (q := 1) (v := fn) C dXC_lastLine_4 (by show (8 : Nat) < 383; decide) rfl rfl (by decide) rfl inXF lXC_30 rfl hfn ?_
  refine v_iconst C dXC_lastLine_7 ?_
  refine v_isub C dXC_lastLine_8 ?_
  refine v_istore_n C dXC_lastLine_9 rfl (by decide) ?_
  exact L (fn - 1).toNat (fn - 1) (by omega) (by omega) rfl
