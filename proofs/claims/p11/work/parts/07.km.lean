/-- all are saved, up to object k - 1 -/
def m_save (σ : fS) (k : Nat) : fS := (σ.1, fun a b => if a = 3 ∧ 1 ≤ b ∧ b < k then 0 else if a = 4 ∧ 1 ≤ b ∧ b < k then σ.2 1 b else σ.2 a b)
theorem m_save_0 (σ : fS) : σ = m_save σ 1 := fS_ext (fun _ _ => rfl) (fun a b => by
  show σ.2 a b = if a = 3 ∧ 1 ≤ b ∧ b < 1 then 0 else if a = 4 ∧ 1 ≤ b ∧ b < 1 then σ.2 1 b else σ.2 a b
  rw [if_neg (by omega), if_neg (by omega)])
theorem m_save_s (σ : fS) (n : Int) (hn : 1 ≤ n) : f_p2 (f_p2 (m_save σ n.toNat) 3 n.toNat 0) 4 n.toNat (σ.2 1 n.toNat) = m_save σ (n + 1).toNat := by
  refine fS_ext (fun a b => rfl) (fun a b => ?_)
  rw [p2_2, p2_2, show (n + 1).toNat = n.toNat + 1 by omega]
  have h1 : 1 ≤ n.toNat := by omega
  generalize n.toNat = k at *
  show (if a = 4 ∧ b = k then σ.2 1 k else if a = 3 ∧ b = k then 0 else if a = 3 ∧ 1 ≤ b ∧ b < k then 0 else if a = 4 ∧ 1 ≤ b ∧ b < k then σ.2 1 b else σ.2 a b) = if a = 3 ∧ 1 ≤ b ∧ b < k + 1 then 0 else if a = 4 ∧ 1 ≤ b ∧ b < k + 1 then σ.2 1 b else σ.2 a b
  grind
/-- how many of 1 .. k are 1 -/
def m_cnt (f : Nat → Int) : Nat → Int
  | 0 => 0
  | k + 1 => m_cnt f k + (if f (k + 1) = 1 then 1 else 0)
theorem m_cnt_s (f : Nat → Int) (n : Int) (hn : 1 ≤ n) : m_cnt f n.toNat = m_cnt f (n - 1).toNat + (if f n.toNat = 1 then 1 else 0) := by
  have h : n.toNat = (n - 1).toNat + 1 := by omega
  rw [h]
  rfl
/-- zeros in the row of object n, up to place k -/
def m_zero (σ : fS) (n : Int) (k : Nat) : fS := (σ.1, fun a b => if a = 6 ∧ (120 * n).toNat ≤ b ∧ b < (120 * n).toNat + k then 0 else σ.2 a b)
theorem m_zero_0 (σ : fS) (n : Int) : σ = m_zero σ n 0 := fS_ext (fun _ _ => rfl) (fun a b => by
  show σ.2 a b = if a = 6 ∧ (120 * n).toNat ≤ b ∧ b < (120 * n).toNat + 0 then 0 else σ.2 a b
  rw [if_neg (by omega)])
theorem m_zero_s (σ : fS) (n k : Int) (hn : 0 ≤ n) (hk : 0 ≤ k) : f_p2 (m_zero σ n k.toNat) 6 (120 * n + k).toNat 0 = m_zero σ n (k + 1).toNat := by
  refine fS_ext (fun a b => rfl) (fun a b => ?_)
  rw [p2_2, show (120 * n + k).toNat = (120 * n).toNat + k.toNat by omega, show (k + 1).toNat = k.toNat + 1 by omega]
  simp only [m_zero]
  generalize k.toNat = j
  generalize (120 * n).toNat = q
  show (if a = 6 ∧ b = q + j then 0 else if a = 6 ∧ q ≤ b ∧ b < q + j then 0 else σ.2 a b) = if a = 6 ∧ q ≤ b ∧ b < q + (j + 1) then 0 else σ.2 a b
  grind
/-- where the line that begins at p ends -/
def eolF (f : Nat → Int) : Nat → Int → Int
  | 0, p => p
  | k + 1, p => if f p.toNat = 10 then p else eolF f k (p + 1)
def m_eol (σ : fS) (p : Int) : Int := eolF (σ.2 7) (σ.1 0 7 - p).toNat p
theorem eolF_le (f : Nat → Int) : ∀ (k : Nat) (p : Int), p ≤ eolF f k p ∧ eolF f k p ≤ p + k := by
  intro k
  induction k with
  | zero => intro p; show p ≤ p ∧ p ≤ p + 0; omega
  | succ k ih =>
    intro p
    have h := ih (p + 1)
    unfold eolF
    split <;> omega
/-- digits read from p, of a value v so far -/
def numF (f : Nat → Int) (le : Int) : Nat → Int → Int → Int × Int
  | 0, p, v => (v, p)
  | k + 1, p, v => if p < le ∧ 48 ≤ f p.toNat ∧ f p.toNat ≤ 57 then numF f le k (p + 1) (10 * v + f p.toNat - 48) else (v, p)
/-- the fields number and cursor -/
def m_nc (σ : fS) (v p : Int) : fS := f_p1 (f_p1 σ 0 22 v) 0 21 p
theorem m_nc_s (σ : fS) (v p v1 p1 : Int) : f_p1 (f_p1 (m_nc σ v p) 0 22 v1) 0 21 p1 = m_nc σ v1 p1 := by
  refine fS_ext (fun a b => ?_) (fun _ _ => rfl)
  unfold m_nc
  rw [p1_1, p1_1, p1_1, p1_1, p1_1, p1_1]
  grind
theorem m_nc_0 (σ : fS) : f_p1 σ 0 22 0 = m_nc σ 0 (σ.1 0 21) := by
  refine fS_ext (fun a b => ?_) (fun _ _ => rfl)
  unfold m_nc
  rw [p1_1, p1_1, p1_1]
  grind
theorem p1_same (σ : fS) (k q : Nat) : f_p1 σ k q (σ.1 k q) = σ := fS_ext (fun a b => by
  rw [p1_1]
  split
  · rename_i h; rw [h.1, h.2]
  · rfl) (fun _ _ => rfl)
/-- the fields cursor and lineEnd -/
def m_cl (σ : fS) (p e : Int) : fS := f_p1 (f_p1 σ 0 21 p) 0 20 e
theorem m_cl_s (σ : fS) (p e e1 : Int) : f_p1 (m_cl σ p e) 0 20 e1 = m_cl σ p e1 := by
  refine fS_ext (fun a b => ?_) (fun _ _ => rfl)
  unfold m_cl
  rw [p1_1, p1_1, p1_1, p1_1, p1_1]
  grind
/-- object n comes, with m bytes -/
def m_bring (σ : fS) (n m : Int) : fS := f_p2 (f_p2 (f_p2 (f_p2 (f_p1 σ 0 0 0) 1 n.toNat 1) 2 n.toNat 0) 3 n.toNat 1) 5 n.toNat m
set_option maxRecDepth 100000 in
set_option maxHeartbeats 4000000 in
/-- save() -/
theorem kM_save (l : Launch) (xCl : List vw_C) (D : va_G) (cA : Nat → ClassId) (ad : Nat → Nat) (hJ : f_J (mG xCl D cA ad)) (σ : fS) (h1 : ∀ i, 0 ≤ σ.2 1 i ∧ σ.2 1 i ≤ 1) : f_M l (mG xCl D cA ad) mE yM_save (Cond.code yM_save cM_save 2 none :: A9) 0 σ [.ref (ad 0)] (f_QV (fun σ1 => σ1 = m_save σ 41) (mG xCl D cA ad)) := by
  refine f_enter (by decide +kernel) hJ rfl (Nat.le_of_ble_eq_true rfl) ?_
  intro z hzl hR C hRt hLk hEz
  subst hzl
  have L : ∀ (k : Nat) (n : Int), n + k = 41 → 1 ≤ n → fv z (mG xCl D cA ad) 2 (f_R z (mG xCl D cA ad) (f_QV (fun σ1 => σ1 = m_save σ 41) (mG xCl D cA ad))) 0 0 (m_save σ n.toNat) 2 [some (.ref (ad 0)), some (.int (fI n))] [] := by
    intro k
    induction k with
    | zero =>
      intro n hk hn
      have hb := h1 n.toNat
      refine v_iload_n C dM_save_2 rfl rfl ?_
      refine v_bipush C dM_save_3 (by decide +kernel) ?_
      refine v_icmp_gt (tgt := 33) C dM_save_5 (by decide) (by omega) (by omega) (fun hc1 => ?_) (fun hc1 => ?_)
      · exact v_vret C hRt hLk dM_save_33 (by rw [show n.toNat = 41 by omega])
      · exfalso; omega
    | succ k ih =>
      intro n hk hn
      have hb := h1 n.toNat
      refine v_iload_n C dM_save_2 rfl rfl ?_
      refine v_bipush C dM_save_3 (by decide +kernel) ?_
      refine v_icmp_gt (tgt := 33) C dM_save_5 (by decide) (by omega) (by omega) (fun hc2 => ?_) (fun hc2 => ?_)
      · exfalso; omega
      · refine v_aload_n C dM_save_8 rfl rfl ?_
        refine v_getR (k := 0) (q := 3) C dM_save_9 (by show (0 : Nat) < 18; decide) rfl rfl (by decide) rfl inM lM_16 rfl ?_
        refine v_iload_n C dM_save_12 rfl rfl ?_
        refine v_iconst C dM_save_13 ?_
        refine v_zast (k := 3) C dM_save_14 (by show (3 : Nat) < 18; decide) rfl rfl (by omega) (by decide) (by omega) ?_
        refine v_aload_n C dM_save_15 rfl rfl ?_
        refine v_getR (k := 0) (q := 4) C dM_save_16 (by show (0 : Nat) < 18; decide) rfl rfl (by decide) rfl inM lM_19 rfl ?_
        refine v_iload_n C dM_save_19 rfl rfl ?_
        refine v_aload_n C dM_save_20 rfl rfl ?_
        refine v_getR (k := 0) (q := 1) C dM_save_21 (by show (0 : Nat) < 18; decide) rfl rfl (by decide) rfl inM lM_7 rfl ?_
        refine v_iload_n C dM_save_24 rfl rfl ?_
        refine v_zald (k := 1) (v := σ.2 1 (n).toNat) C dM_save_25 (by show (1 : Nat) < 18; decide) rfl rfl (by omega) (by decide) (by simp [m_save, p2_2]) ?_
        refine v_zast (k := 4) C dM_save_26 (by show (4 : Nat) < 18; decide) rfl rfl (by omega) (by decide) (by omega) ?_
        refine v_iinc C dM_save_27 rfl (by decide) ?_
        refine v_goto (tgt := 2) C dM_save_30 (by decide) ?_
        exact v_st (m_save_s σ n hn) (ih (n + 1) (by omega) (by omega))
  refine v_iconst C dM_save_0 ?_
  refine v_istore_n C dM_save_1 rfl (by decide) ?_
  exact v_st (m_save_0 σ) (L 40 1 (by omega) (by omega))
set_option maxRecDepth 100000 in
set_option maxHeartbeats 4000000 in
/-- changed() -/
theorem kM_changed (l : Launch) (xCl : List vw_C) (D : va_G) (cA : Nat → ClassId) (ad : Nat → Nat) (hJ : f_J (mG xCl D cA ad)) (σ : fS) (h3 : ∀ i, 0 ≤ σ.2 3 i ∧ σ.2 3 i ≤ 1) : f_M l (mG xCl D cA ad) mE yM_changed (Cond.code yM_changed cM_changed 3 (some .int) :: A9) 0 σ [.ref (ad 0)] (f_QI (fun r σ1 => r = m_cnt (σ.2 3) 40 ∧ σ1 = σ) (mG xCl D cA ad)) := by
  refine f_enter (by decide +kernel) hJ rfl (Nat.le_of_ble_eq_true rfl) ?_
  intro z hzl hR C hRt hLk hEz
  subst hzl
  have L : ∀ (k : Nat) (n c : Int), n + k = 41 → 1 ≤ n → c = m_cnt (σ.2 3) (n - 1).toNat → fv z (mG xCl D cA ad) 3 (f_R z (mG xCl D cA ad) (f_QI (fun r σ1 => r = m_cnt (σ.2 3) 40 ∧ σ1 = σ) (mG xCl D cA ad))) 0 0 σ 4 [some (.ref (ad 0)), some (.int (fI c)), some (.int (fI n))] [] := by
    intro k
    induction k with
    | zero =>
      intro n c hk hn hc
      have hb := h3 n.toNat
      have hs := m_cnt_s (σ.2 3) n hn
      refine v_iload_n C dM_changed_4 rfl rfl ?_
      refine v_bipush C dM_changed_5 (by decide +kernel) ?_
      refine v_icmp_gt (tgt := 33) C dM_changed_7 (by decide) (by omega) (by omega) (fun hc1 => ?_) (fun hc1 => ?_)
      · refine v_iload_n C dM_changed_33 rfl rfl ?_
        exact v_iret C hRt hLk dM_changed_34 ⟨by rw [hc, show (n - 1).toNat = 40 by omega], rfl⟩
      · exfalso; omega
    | succ k ih =>
      intro n c hk hn hc
      have hb := h3 n.toNat
      have hs := m_cnt_s (σ.2 3) n hn
      refine v_iload_n C dM_changed_4 rfl rfl ?_
      refine v_bipush C dM_changed_5 (by decide +kernel) ?_
      refine v_icmp_gt (tgt := 33) C dM_changed_7 (by decide) (by omega) (by omega) (fun hc2 => ?_) (fun hc2 => ?_)
      · exfalso; omega
      · refine v_aload_n C dM_changed_10 rfl rfl ?_
        refine v_getR (k := 0) (q := 3) C dM_changed_11 (by show (0 : Nat) < 18; decide) rfl rfl (by decide) rfl inM lM_16 rfl ?_
        refine v_iload_n C dM_changed_14 rfl rfl ?_
        refine v_zald (k := 3) (v := σ.2 3 (n).toNat) C dM_changed_15 (by show (3 : Nat) < 18; decide) rfl rfl (by omega) (by decide) rfl ?_
        refine v_if_eq (tgt := 25) C dM_changed_16 (by decide) (by omega) (fun hc3 => ?_) (fun hc3 => ?_)
        · refine v_iload_n C dM_changed_25 rfl rfl ?_
          refine v_istore_n C dM_changed_26 rfl (by decide) ?_
          refine v_iinc C dM_changed_27 rfl (by decide) ?_
          refine v_goto (tgt := 4) C dM_changed_30 (by decide) ?_
          exact ih (n + 1) (c) (by omega) (by omega) (by rw [show (n + 1 - 1).toNat = n.toNat by omega, hs, hc]; first | (rw [if_pos (by omega)]; done) | (rw [if_neg (by omega)]; omega))
        · refine v_iload_n C dM_changed_19 rfl rfl ?_
          refine v_iconst C dM_changed_20 ?_
          refine v_iadd C dM_changed_21 ?_
          refine v_goto (tgt := 26) C dM_changed_22 (by decide) ?_
          refine v_istore_n C dM_changed_26 rfl (by decide) ?_
          refine v_iinc C dM_changed_27 rfl (by decide) ?_
          refine v_goto (tgt := 4) C dM_changed_30 (by decide) ?_
          exact ih (n + 1) ((c + 1)) (by omega) (by omega) (by rw [show (n + 1 - 1).toNat = n.toNat by omega, hs, hc]; first | (rw [if_pos (by omega)]; done) | (rw [if_neg (by omega)]; omega))
  refine v_iconst C dM_changed_0 ?_
  refine v_istore_n C dM_changed_1 rfl (by decide) ?_
  refine v_iconst C dM_changed_2 ?_
  refine v_istore_n C dM_changed_3 rfl (by decide) ?_
  exact L 40 1 0 (by omega) (by omega) rfl
set_option maxRecDepth 100000 in
set_option maxHeartbeats 4000000 in
/-- object(n, length) -/
theorem kM_object (l : Launch) (xCl : List vw_C) (D : va_G) (cA : Nat → ClassId) (ad : Nat → Nat) (hJ : f_J (mG xCl D cA ad)) (σ : fS) (n m : Int) (hn : -2147483648 ≤ n ∧ n ≤ 2147483647) (hm : -2147483648 ≤ m ∧ m ≤ 2147483647) : f_M l (mG xCl D cA ad) mE yM_object (Cond.code yM_object cM_object 4 none :: A9) 1 σ [.ref (ad 0), .int (fI n), .int (fI m)] (f_QV (fun σ1 => (¬ (1 ≤ n ∧ n ≤ 40) ∧ σ1 = f_p1 σ 0 0 1) ∨ ((1 ≤ n ∧ n ≤ 40) ∧ ¬ (0 ≤ m ∧ m ≤ 120) ∧ σ1 = f_p1 σ 0 0 2) ∨ ((1 ≤ n ∧ n ≤ 40) ∧ (0 ≤ m ∧ m ≤ 120) ∧ σ1 = m_zero (m_bring σ n m) n 120)) (mG xCl D cA ad)) := by
  refine f_enter (by decide +kernel) hJ rfl (Nat.le_of_ble_eq_true rfl) ?_
  intro z hzl hR C hRt hLk hEz
  subst hzl
  have L : (1 ≤ n ∧ n ≤ 40) → (0 ≤ m ∧ m ≤ 120) → ∀ (k : Nat) (j : Int), j + k = 120 → 0 ≤ j → fv z (mG xCl D cA ad) 4 (f_R z (mG xCl D cA ad) (f_QV (fun σ1 => (¬ (1 ≤ n ∧ n ≤ 40) ∧ σ1 = f_p1 σ 0 0 1) ∨ ((1 ≤ n ∧ n ≤ 40) ∧ ¬ (0 ≤ m ∧ m ≤ 120) ∧ σ1 = f_p1 σ 0 0 2) ∨ ((1 ≤ n ∧ n ≤ 40) ∧ (0 ≤ m ∧ m ≤ 120) ∧ σ1 = m_zero (m_bring σ n m) n 120)) (mG xCl D cA ad))) 0 0 (m_zero (m_bring σ n m) n j.toNat) 68 [some (.ref (ad 0)), some (.int (fI n)), some (.int (fI m)), some (.int (fI j))] [] := by
    intro hn1 hm1 k
    induction k with
    | zero =>
      intro j hk hj
      refine v_iload_n C dM_object_68 rfl rfl ?_
      refine v_bipush C dM_object_69 (by decide +kernel) ?_
      refine v_icmp_ge (tgt := 92) C dM_object_71 (by decide) (by omega) (by omega) (fun hc1 => ?_) (fun hc1 => ?_)
      · exact v_vret C hRt hLk dM_object_92 (by first | exact Or.inl ⟨by omega, rfl⟩ | exact Or.inr (Or.inl ⟨by omega, by omega, rfl⟩) | exact Or.inr (Or.inr ⟨by omega, by omega, by rw [show j.toNat = 120 by omega]⟩))
      · exfalso; omega
    | succ k ih =>
      intro j hk hj
      refine v_iload_n C dM_object_68 rfl rfl ?_
      refine v_bipush C dM_object_69 (by decide +kernel) ?_
      refine v_icmp_ge (tgt := 92) C dM_object_71 (by decide) (by omega) (by omega) (fun hc2 => ?_) (fun hc2 => ?_)
      · exfalso; omega
      · refine v_aload_n C dM_object_74 rfl rfl ?_
        refine v_getR (k := 0) (q := 6) C dM_object_75 (by show (0 : Nat) < 18; decide) rfl rfl (by decide) rfl inM lM_26 rfl ?_
        refine v_bipush C dM_object_78 (by decide +kernel) ?_
        refine v_iload_n C dM_object_80 rfl rfl ?_
        refine v_imul C dM_object_81 ?_
        refine v_iload_n C dM_object_82 rfl rfl ?_
        refine v_iadd C dM_object_83 ?_
        refine v_iconst C dM_object_84 ?_
        refine v_bast (k := 6) C dM_object_85 (by show (6 : Nat) < 18; decide) rfl rfl (by omega) (by decide) (by omega) ?_
        refine v_iinc C dM_object_86 rfl (by decide) ?_
        refine v_goto (tgt := 68) C dM_object_89 (by decide) ?_
        exact v_st (m_zero_s _ n j (by omega) hj) (ih (j + 1) (by omega) (by omega))
  refine v_aload_n C dM_object_0 rfl rfl ?_
  refine v_iload_n C dM_object_1 rfl rfl ?_
  refine v_cSI (n := 1) C (mE_ok _) trivial hR (kM_isObject2 _ xCl D cA ad hJ _ (n) (by omega)) dM_object_2 gM_67 (by decide +kernel) (by decide) (by decide) rfl (Nat.le_of_ble_eq_true rfl) rfl ⟨rfl, rfl⟩ (fun r1 σ1 hp1 => ?_)
  rcases hp1 with ⟨hq, rfl, e2⟩ | ⟨hq, rfl, e2⟩
  · subst σ1
    refine v_if_ne (tgt := 12) C dM_object_5 (by decide) (by omega) (fun hc3 => ?_) (fun hc3 => ?_)
    · refine v_iload_n C dM_object_12 rfl rfl ?_
      refine v_if_lt (tgt := 22) C dM_object_13 (by decide) (by omega) (fun hc4 => ?_) (fun hc4 => ?_)
      · refine v_iconst C dM_object_22 ?_
        refine v_goto (tgt := 27) C dM_object_23 (by decide) ?_
        refine v_putI (k := 0) (q := 0) C dM_object_27 (by show (0 : Nat) < 18; decide) rfl rfl (by decide) rfl inM tyM_ok nmM lM_63 rfl rfl rfl rfl rfl ?_
        refine v_aload_n C dM_object_30 rfl rfl ?_
        refine v_getI (k := 0) (q := 0) (v := 2) C dM_object_31 (by show (0 : Nat) < 18; decide) rfl rfl (by decide) rfl inM lM_63 rfl rfl ?_
        refine v_if_le (tgt := 38) C dM_object_34 (by decide) (by omega) (fun hc5 => ?_) (fun hc5 => ?_)
        · exfalso; omega
        · exact v_vret C hRt hLk dM_object_37 (by first | exact Or.inl ⟨by omega, rfl⟩ | exact Or.inr (Or.inl ⟨by omega, by omega, rfl⟩) | exact Or.inr (Or.inr ⟨by omega, by omega, by rw [show j.toNat = 120 by omega]⟩))
      · refine v_iload_n C dM_object_16 rfl rfl ?_
        refine v_bipush C dM_object_17 (by decide +kernel) ?_
        refine v_icmp_le (tgt := 26) C dM_object_19 (by decide) (by omega) (by omega) (fun hc6 => ?_) (fun hc6 => ?_)
        · refine v_iconst C dM_object_26 ?_
          refine v_putI (k := 0) (q := 0) C dM_object_27 (by show (0 : Nat) < 18; decide) rfl rfl (by decide) rfl inM tyM_ok nmM lM_63 rfl rfl rfl rfl rfl ?_
          refine v_aload_n C dM_object_30 rfl rfl ?_
          refine v_getI (k := 0) (q := 0) (v := 0) C dM_object_31 (by show (0 : Nat) < 18; decide) rfl rfl (by decide) rfl inM lM_63 rfl rfl ?_
          refine v_if_le (tgt := 38) C dM_object_34 (by decide) (by omega) (fun hc7 => ?_) (fun hc7 => ?_)
          · refine v_aload_n C dM_object_38 rfl rfl ?_
            refine v_getR (k := 0) (q := 1) C dM_object_39 (by show (0 : Nat) < 18; decide) rfl rfl (by decide) rfl inM lM_7 rfl ?_
            refine v_iload_n C dM_object_42 rfl rfl ?_
            refine v_iconst C dM_object_43 ?_
            refine v_zast (k := 1) C dM_object_44 (by show (1 : Nat) < 18; decide) rfl rfl (by omega) (by decide) (by omega) ?_
            refine v_aload_n C dM_object_45 rfl rfl ?_
            refine v_getR (k := 0) (q := 2) C dM_object_46 (by show (0 : Nat) < 18; decide) rfl rfl (by decide) rfl inM lM_13 rfl ?_
            refine v_iload_n C dM_object_49 rfl rfl ?_
            refine v_iconst C dM_object_50 ?_
            refine v_zast (k := 2) C dM_object_51 (by show (2 : Nat) < 18; decide) rfl rfl (by omega) (by decide) (by omega) ?_
            refine v_aload_n C dM_object_52 rfl rfl ?_
            refine v_getR (k := 0) (q := 3) C dM_object_53 (by show (0 : Nat) < 18; decide) rfl rfl (by decide) rfl inM lM_16 rfl ?_
            refine v_iload_n C dM_object_56 rfl rfl ?_
            refine v_iconst C dM_object_57 ?_
            refine v_zast (k := 3) C dM_object_58 (by show (3 : Nat) < 18; decide) rfl rfl (by omega) (by decide) (by omega) ?_
            refine v_aload_n C dM_object_59 rfl rfl ?_
            refine v_getR (k := 0) (q := 5) C dM_object_60 (by show (0 : Nat) < 18; decide) rfl rfl (by decide) rfl inM lM_22 rfl ?_
            refine v_iload_n C dM_object_63 rfl rfl ?_
            refine v_iload_n C dM_object_64 rfl rfl ?_
            refine v_iast (k := 5) C dM_object_65 (by show (5 : Nat) < 18; decide) rfl rfl (by omega) (by decide) ?_
            refine v_iconst C dM_object_66 ?_
            refine v_istore_n C dM_object_67 rfl (by decide) ?_
            exact v_st (m_zero_0 _ n) (L (by omega) (by omega) 120 0 (by omega) (by omega))
          · exfalso; omega
        · refine v_iconst C dM_object_22 ?_
          refine v_goto (tgt := 27) C dM_object_23 (by decide) ?_
          refine v_putI (k := 0) (q := 0) C dM_object_27 (by show (0 : Nat) < 18; decide) rfl rfl (by decide) rfl inM tyM_ok nmM lM_63 rfl rfl rfl rfl rfl ?_
          refine v_aload_n C dM_object_30 rfl rfl ?_
          refine v_getI (k := 0) (q := 0) (v := 2) C dM_object_31 (by show (0 : Nat) < 18; decide) rfl rfl (by decide) rfl inM lM_63 rfl rfl ?_
          refine v_if_le (tgt := 38) C dM_object_34 (by decide) (by omega) (fun hc8 => ?_) (fun hc8 => ?_)
          · exfalso; omega
          · exact v_vret C hRt hLk dM_object_37 (by first | exact Or.inl ⟨by omega, rfl⟩ | exact Or.inr (Or.inl ⟨by omega, by omega, rfl⟩) | exact Or.inr (Or.inr ⟨by omega, by omega, by rw [show j.toNat = 120 by omega]⟩))
    · exfalso; omega
  · subst σ1
    refine v_if_ne (tgt := 12) C dM_object_5 (by decide) (by omega) (fun hc9 => ?_) (fun hc9 => ?_)
    · exfalso; omega
    · refine v_iconst C dM_object_8 ?_
      refine v_goto (tgt := 27) C dM_object_9 (by decide) ?_
      refine v_putI (k := 0) (q := 0) C dM_object_27 (by show (0 : Nat) < 18; decide) rfl rfl (by decide) rfl inM tyM_ok nmM lM_63 rfl rfl rfl rfl rfl ?_
      refine v_aload_n C dM_object_30 rfl rfl ?_
      refine v_getI (k := 0) (q := 0) (v := 1) C dM_object_31 (by show (0 : Nat) < 18; decide) rfl rfl (by decide) rfl inM lM_63 rfl rfl ?_
      refine v_if_le (tgt := 38) C dM_object_34 (by decide) (by omega) (fun hc10 => ?_) (fun hc10 => ?_)
      · exfalso; omega
      · exact v_vret C hRt hLk dM_object_37 (by first | exact Or.inl ⟨by omega, rfl⟩ | exact Or.inr (Or.inl ⟨by omega, by omega, rfl⟩) | exact Or.inr (Or.inr ⟨by omega, by omega, by rw [show j.toNat = 120 by omega]⟩))
set_option maxRecDepth 100000 in
set_option maxHeartbeats 4000000 in
/-- octet(n, i, b) -/
theorem kM_octet (l : Launch) (xCl : List vw_C) (D : va_G) (cA : Nat → ClassId) (ad : Nat → Nat) (hJ : f_J (mG xCl D cA ad)) (σ : fS) (n i b : Int) (hn : -2147483648 ≤ n ∧ n ≤ 2147483647) (hi : -2147483648 ≤ i ∧ i ≤ 2147483647) (hb : -128 ≤ b ∧ b ≤ 127) (h1 : ∀ i, 0 ≤ σ.2 1 i ∧ σ.2 1 i ≤ 1) (h3 : ∀ i, 0 ≤ σ.2 3 i ∧ σ.2 3 i ≤ 1) (h5 : ∀ i, 0 ≤ σ.2 5 i ∧ σ.2 5 i ≤ 120) (h6 : ∀ i, -128 ≤ σ.2 6 i ∧ σ.2 6 i ≤ 127) : f_M l (mG xCl D cA ad) mE yM_octet (Cond.code yM_octet cM_octet 5 (some .byte) :: A9) 3 σ [.ref (ad 0), .int (fI n), .int (fI i), .int (fI b)] (f_QI (fun r σ1 => (m_isB σ n i ∧ r = σ.2 6 (120 * n + i).toNat ∧ ((σ.2 3 n.toNat = 1 ∨ σ.2 6 (120 * n + i).toNat ≠ b) ∧ σ1 = f_p2 (f_p2 (f_p1 σ 0 0 0) 6 (120 * n + i).toNat b) 3 n.toNat 1 ∨ (σ.2 3 n.toNat = 0 ∧ σ.2 6 (120 * n + i).toNat = b) ∧ σ1 = f_p2 (f_p2 (f_p1 σ 0 0 0) 6 (120 * n + i).toNat b) 3 n.toNat 0)) ∨ (¬ m_isB σ n i ∧ r = 0 ∧ σ1 = f_p1 σ 0 0 1)) (mG xCl D cA ad)) := by
  refine f_enter (by decide +kernel) hJ rfl (Nat.le_of_ble_eq_true rfl) ?_
  intro z hzl hR C hRt hLk hEz
  subst hzl
  refine v_aload_n C dM_octet_0 rfl rfl ?_
  refine v_iload_n C dM_octet_1 rfl rfl ?_
  refine v_iload_n C dM_octet_2 rfl rfl ?_
  refine v_cVI (k := 0) (n := 2) C (mE_ok _) trivial hR (kM_isByte _ xCl D cA ad hJ σ n i (by omega) (by omega) h1 h5) dM_octet_3 (by show (0 : Nat) < 18; decide) rfl rfl gM_74 (by decide +kernel) (by decide) (by decide) rfl (Nat.le_of_ble_eq_true rfl) rfl ⟨rfl, rfl⟩ (fun r1 σ1 hp1 => ?_)
  rcases hp1 with ⟨hq, rfl, e2⟩ | ⟨hq, rfl, e2⟩
  · subst σ1
    have hq0 := hq
    unfold m_isB at hq0
    have h55 := h5 n.toNat
    refine v_if_ne (tgt := 11) C dM_octet_6 (by decide) (by omega) (fun hc1 => ?_) (fun hc1 => ?_)
    · refine v_aload_n C dM_octet_11 rfl rfl ?_
      refine v_getR (k := 0) (q := 6) C dM_octet_12 (by show (0 : Nat) < 18; decide) rfl rfl (by decide) rfl inM lM_26 rfl ?_
      refine v_bipush C dM_octet_15 (by decide +kernel) ?_
      refine v_iload_n C dM_octet_17 rfl rfl ?_
      refine v_imul C dM_octet_18 ?_
      refine v_iload_n C dM_octet_19 rfl rfl ?_
      refine v_iadd C dM_octet_20 ?_
      have hb2 := h6 (((120 * n) + i)).toNat
      refine v_bald (k := 6) (v := σ.2 6 (((120 * n) + i)).toNat) C dM_octet_21 (by show (6 : Nat) < 18; decide) rfl rfl (by omega) (by decide) rfl ?_
      refine v_istore C dM_octet_22 (by decide) ?_
      refine v_aload_n C dM_octet_24 rfl rfl ?_
      refine v_getR (k := 0) (q := 6) C dM_octet_25 (by show (0 : Nat) < 18; decide) rfl rfl (by decide) rfl inM lM_26 rfl ?_
      refine v_bipush C dM_octet_28 (by decide +kernel) ?_
      refine v_iload_n C dM_octet_30 rfl rfl ?_
      refine v_imul C dM_octet_31 ?_
      refine v_iload_n C dM_octet_32 rfl rfl ?_
      refine v_iadd C dM_octet_33 ?_
      refine v_iload_n C dM_octet_34 rfl rfl ?_
      refine v_bast (k := 6) C dM_octet_35 (by show (6 : Nat) < 18; decide) rfl rfl (by omega) (by decide) (by omega) ?_
      refine v_aload_n C dM_octet_36 rfl rfl ?_
      refine v_getR (k := 0) (q := 3) C dM_octet_37 (by show (0 : Nat) < 18; decide) rfl rfl (by decide) rfl inM lM_16 rfl ?_
      refine v_iload_n C dM_octet_40 rfl rfl ?_
      refine v_aload_n C dM_octet_41 rfl rfl ?_
      refine v_getR (k := 0) (q := 3) C dM_octet_42 (by show (0 : Nat) < 18; decide) rfl rfl (by decide) rfl inM lM_16 rfl ?_
      refine v_iload_n C dM_octet_45 rfl rfl ?_
      have hb3 := h3 (n).toNat
      refine v_zald (k := 3) (v := σ.2 3 (n).toNat) C dM_octet_46 (by show (3 : Nat) < 18; decide) rfl rfl (by omega) (by decide) rfl ?_
      refine v_if_ne (tgt := 56) C dM_octet_47 (by decide) (by omega) (fun hc4 => ?_) (fun hc4 => ?_)
      · refine v_iconst C dM_octet_56 ?_
        refine v_goto (tgt := 61) C dM_octet_57 (by decide) ?_
        refine v_zast (k := 3) C dM_octet_61 (by show (3 : Nat) < 18; decide) rfl rfl (by omega) (by decide) (by omega) ?_
        refine v_iload C dM_octet_62 rfl ?_
        exact v_zret C hRt hLk dM_octet_64 (fN_byte (by omega) (by omega)) (by first | exact Or.inl ⟨hq, rfl, Or.inl ⟨by omega, rfl⟩⟩ | exact Or.inl ⟨hq, rfl, Or.inr ⟨by omega, rfl⟩⟩ | exact Or.inr ⟨hq, rfl, rfl⟩)
      · refine v_iload C dM_octet_50 rfl ?_
        refine v_iload_n C dM_octet_52 rfl rfl ?_
        refine v_icmp_eq (tgt := 60) C dM_octet_53 (by decide) (by omega) (by omega) (fun hc5 => ?_) (fun hc5 => ?_)
        · refine v_iconst C dM_octet_60 ?_
          refine v_zast (k := 3) C dM_octet_61 (by show (3 : Nat) < 18; decide) rfl rfl (by omega) (by decide) (by omega) ?_
          refine v_iload C dM_octet_62 rfl ?_
          exact v_zret C hRt hLk dM_octet_64 (fN_byte (by omega) (by omega)) (by first | exact Or.inl ⟨hq, rfl, Or.inl ⟨by omega, rfl⟩⟩ | exact Or.inl ⟨hq, rfl, Or.inr ⟨by omega, rfl⟩⟩ | exact Or.inr ⟨hq, rfl, rfl⟩)
        · refine v_iconst C dM_octet_56 ?_
          refine v_goto (tgt := 61) C dM_octet_57 (by decide) ?_
          refine v_zast (k := 3) C dM_octet_61 (by show (3 : Nat) < 18; decide) rfl rfl (by omega) (by decide) (by omega) ?_
          refine v_iload C dM_octet_62 rfl ?_
          exact v_zret C hRt hLk dM_octet_64 (fN_byte (by omega) (by omega)) (by first | exact Or.inl ⟨hq, rfl, Or.inl ⟨by omega, rfl⟩⟩ | exact Or.inl ⟨hq, rfl, Or.inr ⟨by omega, rfl⟩⟩ | exact Or.inr ⟨hq, rfl, rfl⟩)
    · exfalso; omega
  · subst σ1
    refine v_if_ne (tgt := 11) C dM_octet_6 (by decide) (by omega) (fun hc6 => ?_) (fun hc6 => ?_)
    · exfalso; omega
    · refine v_iconst C dM_octet_9 ?_
      exact v_zret C hRt hLk dM_octet_10 (fN_byte (by omega) (by omega)) (by first | exact Or.inl ⟨hq, rfl, Or.inl ⟨by omega, rfl⟩⟩ | exact Or.inl ⟨hq, rfl, Or.inr ⟨by omega, rfl⟩⟩ | exact Or.inr ⟨hq, rfl, rfl⟩)
set_option maxRecDepth 100000 in
set_option maxHeartbeats 4000000 in
/-- takes(c) -/
theorem kM_takes (l : Launch) (xCl : List vw_C) (D : va_G) (cA : Nat → ClassId) (ad : Nat → Nat) (hJ : f_J (mG xCl D cA ad)) (σ : fS) (c : Int) (hc : -128 ≤ c ∧ c ≤ 127) (hu : 0 ≤ σ.1 0 21 ∧ σ.1 0 21 ≤ 100000) (he : σ.1 0 20 ≤ 12000 ∨ σ.1 0 20 ≤ σ.1 0 21) (hl : -2147483648 ≤ σ.1 0 20 ∧ σ.1 0 20 ≤ 2147483647) (h7 : ∀ i, -128 ≤ σ.2 7 i ∧ σ.2 7 i ≤ 127) : f_M l (mG xCl D cA ad) mE yM_takes (Cond.code yM_takes cM_takes 3 (some .boolean) :: A9) 0 σ [.ref (ad 0), .int (fI c)] (f_QI (fun r σ1 => ((σ.1 0 21 < σ.1 0 20 ∧ σ.2 7 (σ.1 0 21).toNat = c) ∧ r = 1 ∧ σ1 = f_p1 σ 0 21 (σ.1 0 21 + 1)) ∨ (¬ (σ.1 0 21 < σ.1 0 20 ∧ σ.2 7 (σ.1 0 21).toNat = c) ∧ r = 0 ∧ σ1 = σ)) (mG xCl D cA ad)) := by
  refine f_enter (by decide +kernel) hJ rfl (Nat.le_of_ble_eq_true rfl) ?_
  intro z hzl hR C hRt hLk hEz
  subst hzl
  refine v_aload_n C dM_takes_0 rfl rfl ?_
  refine v_getI (k := 0) (q := 21) (v := σ.1 0 21) C dM_takes_1 (by show (0 : Nat) < 18; decide) rfl rfl (by decide) rfl inM lM_141 rfl rfl ?_
  refine v_aload_n C dM_takes_4 rfl rfl ?_
  refine v_getI (k := 0) (q := 20) (v := σ.1 0 20) C dM_takes_5 (by show (0 : Nat) < 18; decide) rfl rfl (by decide) rfl inM lM_144 rfl rfl ?_
  refine v_icmp_ge (tgt := 28) C dM_takes_8 (by decide) (by omega) (by omega) (fun hc1 => ?_) (fun hc1 => ?_)
  · refine v_iconst C dM_takes_28 ?_
    refine v_istore_n C dM_takes_29 rfl (by decide) ?_
    refine v_aload_n C dM_takes_30 rfl rfl ?_
    refine v_iload_n C dM_takes_31 rfl rfl ?_
    refine v_if_eq (tgt := 44) C dM_takes_32 (by decide) (by omega) (fun hc2 => ?_) (fun hc2 => ?_)
    · refine v_aload_n C dM_takes_44 rfl rfl ?_
      refine v_getI (k := 0) (q := 21) (v := σ.1 0 21) C dM_takes_45 (by show (0 : Nat) < 18; decide) rfl rfl (by decide) rfl inM lM_141 rfl rfl ?_
      refine v_putI (k := 0) (q := 21) C dM_takes_48 (by show (0 : Nat) < 18; decide) rfl rfl (by decide) rfl inM tyM_ok nmM lM_141 rfl rfl rfl rfl rfl ?_
      refine v_iload_n C dM_takes_51 rfl rfl ?_
      exact v_zret C hRt hLk dM_takes_52 (fN_bool (by omega)) (by first | exact Or.inl ⟨by omega, rfl, rfl⟩ | exact Or.inr ⟨by omega, rfl, p1_same _ _ _⟩)
    · exfalso; omega
  · refine v_aload_n C dM_takes_11 rfl rfl ?_
    refine v_getR (k := 0) (q := 8) C dM_takes_12 (by show (0 : Nat) < 18; decide) rfl rfl (by decide) rfl inM lM_30 rfl ?_
    refine v_aload_n C dM_takes_15 rfl rfl ?_
    refine v_getI (k := 0) (q := 21) (v := σ.1 0 21) C dM_takes_16 (by show (0 : Nat) < 18; decide) rfl rfl (by decide) rfl inM lM_141 rfl rfl ?_
    have hb3 := h7 (σ.1 0 21).toNat
    refine v_bald (k := 7) (v := σ.2 7 (σ.1 0 21).toNat) C dM_takes_19 (by show (7 : Nat) < 18; decide) rfl rfl (by omega) (by decide) rfl ?_
    refine v_iload_n C dM_takes_20 rfl rfl ?_
    refine v_icmp_ne (tgt := 28) C dM_takes_21 (by decide) (by omega) (by omega) (fun hc4 => ?_) (fun hc4 => ?_)
    · refine v_iconst C dM_takes_28 ?_
      refine v_istore_n C dM_takes_29 rfl (by decide) ?_
      refine v_aload_n C dM_takes_30 rfl rfl ?_
      refine v_iload_n C dM_takes_31 rfl rfl ?_
      refine v_if_eq (tgt := 44) C dM_takes_32 (by decide) (by omega) (fun hc5 => ?_) (fun hc5 => ?_)
      · refine v_aload_n C dM_takes_44 rfl rfl ?_
        refine v_getI (k := 0) (q := 21) (v := σ.1 0 21) C dM_takes_45 (by show (0 : Nat) < 18; decide) rfl rfl (by decide) rfl inM lM_141 rfl rfl ?_
        refine v_putI (k := 0) (q := 21) C dM_takes_48 (by show (0 : Nat) < 18; decide) rfl rfl (by decide) rfl inM tyM_ok nmM lM_141 rfl rfl rfl rfl rfl ?_
        refine v_iload_n C dM_takes_51 rfl rfl ?_
        exact v_zret C hRt hLk dM_takes_52 (fN_bool (by omega)) (by first | exact Or.inl ⟨by omega, rfl, rfl⟩ | exact Or.inr ⟨by omega, rfl, p1_same _ _ _⟩)
      · exfalso; omega
    · refine v_iconst C dM_takes_24 ?_
      refine v_goto (tgt := 29) C dM_takes_25 (by decide) ?_
      refine v_istore_n C dM_takes_29 rfl (by decide) ?_
      refine v_aload_n C dM_takes_30 rfl rfl ?_
      refine v_iload_n C dM_takes_31 rfl rfl ?_
      refine v_if_eq (tgt := 44) C dM_takes_32 (by decide) (by omega) (fun hc6 => ?_) (fun hc6 => ?_)
      · exfalso; omega
      · refine v_aload_n C dM_takes_35 rfl rfl ?_
        refine v_getI (k := 0) (q := 21) (v := σ.1 0 21) C dM_takes_36 (by show (0 : Nat) < 18; decide) rfl rfl (by decide) rfl inM lM_141 rfl rfl ?_
        refine v_iconst C dM_takes_39 ?_
        refine v_iadd C dM_takes_40 ?_
        refine v_goto (tgt := 48) C dM_takes_41 (by decide) ?_
        refine v_putI (k := 0) (q := 21) C dM_takes_48 (by show (0 : Nat) < 18; decide) rfl rfl (by decide) rfl inM tyM_ok nmM lM_141 rfl rfl rfl rfl rfl ?_
        refine v_iload_n C dM_takes_51 rfl rfl ?_
        exact v_zret C hRt hLk dM_takes_52 (fN_bool (by omega)) (by first | exact Or.inl ⟨by omega, rfl, rfl⟩ | exact Or.inr ⟨by omega, rfl, p1_same _ _ _⟩)
set_option maxRecDepth 100000 in
set_option maxHeartbeats 4000000 in
/-- line(from) -/
theorem kM_line (l : Launch) (xCl : List vw_C) (D : va_G) (cA : Nat → ClassId) (ad : Nat → Nat) (hJ : f_J (mG xCl D cA ad)) (σ : fS) (a : Int) (ha : 0 ≤ a ∧ a ≤ 100000) (hz : 0 ≤ σ.1 0 7 ∧ σ.1 0 7 ≤ 12000) (h7 : ∀ i, -128 ≤ σ.2 7 i ∧ σ.2 7 i ≤ 127) : f_M l (mG xCl D cA ad) mE yM_line (Cond.code yM_line cM_line 2 (some .boolean) :: A9) 0 σ [.ref (ad 0), .int (fI a)] (f_QI (fun r σ1 => (m_eol σ a < σ.1 0 7 ∧ r = 1 ∧ σ1 = m_cl σ a (m_eol σ a)) ∨ (¬ m_eol σ a < σ.1 0 7 ∧ r = 0 ∧ σ1 = m_cl σ a (m_eol σ a))) (mG xCl D cA ad)) := by
  refine f_enter (by decide +kernel) hJ rfl (Nat.le_of_ble_eq_true rfl) ?_
  intro z hzl hR C hRt hLk hEz
  subst hzl
  have hbe := eolF_le (σ.2 7) (σ.1 0 7 - a).toNat a
  change a ≤ m_eol σ a ∧ m_eol σ a ≤ a + ((σ.1 0 7 - a).toNat : Int) at hbe
  have L : ∀ (k : Nat) (p : Int), a ≤ p → (σ.1 0 7 - p).toNat = k → eolF (σ.2 7) k p = m_eol σ a → fv z (mG xCl D cA ad) 2 (f_R z (mG xCl D cA ad) (f_QI (fun r σ1 => (m_eol σ a < σ.1 0 7 ∧ r = 1 ∧ σ1 = m_cl σ a (m_eol σ a)) ∨ (¬ m_eol σ a < σ.1 0 7 ∧ r = 0 ∧ σ1 = m_cl σ a (m_eol σ a))) (mG xCl D cA ad))) 0 0 (m_cl σ a p) 10 [some (.ref (ad 0)), some (.int (fI a))] [] := by
    intro k
    induction k with
    | zero =>
      intro p hp hk hE
      have hb := h7 p.toNat
      have hE1 : p = m_eol σ a := hE
      refine v_aload_n C dM_line_10 rfl rfl ?_
      refine v_getI (k := 0) (q := 20) (v := p) C dM_line_11 (by show (0 : Nat) < 18; decide) rfl rfl (by decide) rfl inM lM_144 rfl rfl ?_
      refine v_aload_n C dM_line_14 rfl rfl ?_
      refine v_getI (k := 0) (q := 7) (v := σ.1 0 7) C dM_line_15 (by show (0 : Nat) < 18; decide) rfl rfl (by decide) rfl inM lM_116 rfl rfl ?_
      refine v_icmp_ge (tgt := 48) C dM_line_18 (by decide) (by omega) (by omega) (fun hc1 => ?_) (fun hc1 => ?_)
      · have hpe : p = m_eol σ a := by first | exact hE1 | exact hE2.elim (fun h => h.2) (fun h => absurd (by omega) h.1)
        refine v_aload_n C dM_line_48 rfl rfl ?_
        refine v_getI (k := 0) (q := 20) (v := p) C dM_line_49 (by show (0 : Nat) < 18; decide) rfl rfl (by decide) rfl inM lM_144 rfl rfl ?_
        refine v_aload_n C dM_line_52 rfl rfl ?_
        refine v_getI (k := 0) (q := 7) (v := σ.1 0 7) C dM_line_53 (by show (0 : Nat) < 18; decide) rfl rfl (by decide) rfl inM lM_116 rfl rfl ?_
        refine v_icmp_ge (tgt := 63) C dM_line_56 (by decide) (by omega) (by omega) (fun hc2 => ?_) (fun hc2 => ?_)
        · refine v_iconst C dM_line_63 ?_
          exact v_zret C hRt hLk dM_line_64 (fN_bool (by omega)) (by first | exact Or.inl ⟨by omega, rfl, by rw [← hpe]⟩ | exact Or.inr ⟨by omega, rfl, by rw [← hpe]⟩)
        · refine v_iconst C dM_line_59 ?_
          refine v_goto (tgt := 64) C dM_line_60 (by decide) ?_
          exact v_zret C hRt hLk dM_line_64 (fN_bool (by omega)) (by first | exact Or.inl ⟨by omega, rfl, by rw [← hpe]⟩ | exact Or.inr ⟨by omega, rfl, by rw [← hpe]⟩)
      · exfalso; omega
    | succ k ih =>
      intro p hp hk hE
      have hb := h7 p.toNat
      unfold eolF at hE
      have hE2 : (σ.2 7 p.toNat = 10 ∧ p = m_eol σ a) ∨ (¬ σ.2 7 p.toNat = 10 ∧ eolF (σ.2 7) k (p + 1) = m_eol σ a) := by
        by_cases h9 : σ.2 7 p.toNat = 10
        · rw [if_pos h9] at hE; exact Or.inl ⟨h9, hE⟩
        · rw [if_neg h9] at hE; exact Or.inr ⟨h9, hE⟩
      have hle := eolF_le (σ.2 7) k (p + 1)
      refine v_aload_n C dM_line_10 rfl rfl ?_
      refine v_getI (k := 0) (q := 20) (v := p) C dM_line_11 (by show (0 : Nat) < 18; decide) rfl rfl (by decide) rfl inM lM_144 rfl rfl ?_
      refine v_aload_n C dM_line_14 rfl rfl ?_
      refine v_getI (k := 0) (q := 7) (v := σ.1 0 7) C dM_line_15 (by show (0 : Nat) < 18; decide) rfl rfl (by decide) rfl inM lM_116 rfl rfl ?_
      refine v_icmp_ge (tgt := 48) C dM_line_18 (by decide) (by omega) (by omega) (fun hc3 => ?_) (fun hc3 => ?_)
      · exfalso; omega
      · refine v_aload_n C dM_line_21 rfl rfl ?_
        refine v_getR (k := 0) (q := 8) C dM_line_22 (by show (0 : Nat) < 18; decide) rfl rfl (by decide) rfl inM lM_30 rfl ?_
        refine v_aload_n C dM_line_25 rfl rfl ?_
        refine v_getI (k := 0) (q := 20) (v := p) C dM_line_26 (by show (0 : Nat) < 18; decide) rfl rfl (by decide) rfl inM lM_144 rfl rfl ?_
        have hb4 := h7 (p).toNat
        refine v_bald (k := 7) (v := σ.2 7 (p).toNat) C dM_line_29 (by show (7 : Nat) < 18; decide) rfl rfl (by omega) (by decide) rfl ?_
        refine v_bipush C dM_line_30 (by decide +kernel) ?_
        refine v_icmp_eq (tgt := 48) C dM_line_32 (by decide) (by omega) (by omega) (fun hc5 => ?_) (fun hc5 => ?_)
        · have hpe : p = m_eol σ a := by first | exact hE1 | exact hE2.elim (fun h => h.2) (fun h => absurd (by omega) h.1)
          refine v_aload_n C dM_line_48 rfl rfl ?_
          refine v_getI (k := 0) (q := 20) (v := p) C dM_line_49 (by show (0 : Nat) < 18; decide) rfl rfl (by decide) rfl inM lM_144 rfl rfl ?_
          refine v_aload_n C dM_line_52 rfl rfl ?_
          refine v_getI (k := 0) (q := 7) (v := σ.1 0 7) C dM_line_53 (by show (0 : Nat) < 18; decide) rfl rfl (by decide) rfl inM lM_116 rfl rfl ?_
          refine v_icmp_ge (tgt := 63) C dM_line_56 (by decide) (by omega) (by omega) (fun hc6 => ?_) (fun hc6 => ?_)
          · refine v_iconst C dM_line_63 ?_
            exact v_zret C hRt hLk dM_line_64 (fN_bool (by omega)) (by first | exact Or.inl ⟨by omega, rfl, by rw [← hpe]⟩ | exact Or.inr ⟨by omega, rfl, by rw [← hpe]⟩)
          · refine v_iconst C dM_line_59 ?_
            refine v_goto (tgt := 64) C dM_line_60 (by decide) ?_
            exact v_zret C hRt hLk dM_line_64 (fN_bool (by omega)) (by first | exact Or.inl ⟨by omega, rfl, by rw [← hpe]⟩ | exact Or.inr ⟨by omega, rfl, by rw [← hpe]⟩)
        · refine v_aload_n C dM_line_35 rfl rfl ?_
          refine v_dup C dM_line_36 rfl ?_
          refine v_getI (k := 0) (q := 20) (v := p) C dM_line_37 (by show (0 : Nat) < 18; decide) rfl rfl (by decide) rfl inM lM_144 rfl rfl ?_
          refine v_iconst C dM_line_40 ?_
          refine v_iadd C dM_line_41 ?_
          refine v_putI (k := 0) (q := 20) C dM_line_42 (by show (0 : Nat) < 18; decide) rfl rfl (by decide) rfl inM tyM_ok nmM lM_144 rfl rfl rfl rfl rfl ?_
          refine v_goto (tgt := 10) C dM_line_45 (by decide) ?_
          exact v_st (m_cl_s σ a p (p + 1)) (ih (p + 1) (by omega) (by omega) (hE2.elim (fun h => absurd h.1 (by omega)) (fun h => h.2)))
  refine v_aload_n C dM_line_0 rfl rfl ?_
  refine v_iload_n C dM_line_1 rfl rfl ?_
  refine v_putI (k := 0) (q := 21) C dM_line_2 (by show (0 : Nat) < 18; decide) rfl rfl (by decide) rfl inM tyM_ok nmM lM_141 rfl rfl rfl rfl rfl ?_
  refine v_aload_n C dM_line_5 rfl rfl ?_
  refine v_iload_n C dM_line_6 rfl rfl ?_
  refine v_putI (k := 0) (q := 20) C dM_line_7 (by show (0 : Nat) < 18; decide) rfl rfl (by decide) rfl inM tyM_ok nmM lM_144 rfl rfl rfl rfl rfl ?_
  exact L (σ.1 0 7 - a).toNat a (by omega) rfl rfl
