/-- an object comes -/
def x_bring (σ : fS) (n len : Int) : fS := x_fill (f_p2 (f_p2 (f_p2 (f_p2 σ 2 n.toNat 1) 3 n.toNat 0) 6 n.toNat 1) 4 n.toNat len) 5 (n * 120) (n * 120 + len) 0
def x_exch (σ : fS) (n i b : Int) : fS := if σ.2 5 (n * 120 + i).toNat = b then f_p2 σ 5 (n * 120 + i).toNat b else f_p2 (f_p2 σ 5 (n * 120 + i).toNat b) 6 n.toNat 1
/-- whether object n is changed -/
def x_ch (σ : fS) (n : Nat) : Int := if σ.2 2 n = 1 then σ.2 6 n else σ.2 7 n
/-- all objects below k are saved -/
def x_sav (σ : fS) (k : Nat) : fS := (σ.1, fun a b => if 1 ≤ b ∧ b < k then (if a = 6 then 0 else if a = 7 then σ.2 2 b else σ.2 a b) else σ.2 a b)
theorem x_sav_2 (σ : fS) (k b : Nat) : (x_sav σ k).2 2 b = σ.2 2 b := by
  show (if 1 ≤ b ∧ b < k then (if 2 = 6 then 0 else if 2 = 7 then σ.2 2 b else σ.2 2 b) else σ.2 2 b) = _
  split <;> rfl
theorem x_sav_1 (σ : fS) : σ = x_sav σ 1 := fS_ext (fun _ _ => rfl) (fun a b => by show _ = if 1 ≤ b ∧ b < 1 then _ else σ.2 a b; rw [if_neg (by omega)])
theorem x_sav_s (σ : fS) (k : Nat) (hk : 1 ≤ k) : f_p2 (f_p2 (x_sav σ k) 6 k 0) 7 k (σ.2 2 k) = x_sav σ (k + 1) := by
  refine fS_ext (fun _ _ => rfl) (fun a b => ?_)
  rw [p2_2, p2_2]
  show _ = if 1 ≤ b ∧ b < k + 1 then (if a = 6 then 0 else if a = 7 then σ.2 2 b else σ.2 a b) else σ.2 a b
  by_cases hb : b = k
  · subst hb
    rw [if_pos (show 1 ≤ b ∧ b < b + 1 by omega)]
    by_cases g1 : a = 7
    · subst g1; simp
    · by_cases g2 : a = 6
      · subst g2; simp
      · simp only [g1, g2, false_and, if_false]
        show (if 1 ≤ b ∧ b < b then _ else σ.2 a b) = _
        rw [if_neg (by omega)]
  · rw [if_neg (by omega), if_neg (by omega)]
    show (if 1 ≤ b ∧ b < k then (if a = 6 then 0 else if a = 7 then σ.2 2 b else σ.2 a b) else σ.2 a b) = _
    by_cases h : 1 ≤ b ∧ b < k
    · rw [if_pos h, if_pos (show 1 ≤ b ∧ b < k + 1 by omega)]
    · rw [if_neg h, if_neg (show ¬ (1 ≤ b ∧ b < k + 1) by omega)]
set_option maxRecDepth 100000 in
set_option maxHeartbeats 4000000 in
/-- byteAt -/
theorem kX_XS_byteAt (l : Launch) (D : va_G) (cA : Nat → ClassId) (ad : Nat → Nat) (hJ : f_J (xG D cA ad)) (σ : fS) (n i : Int) (hn : 1 ≤ n ∧ n ≤ 40) (hi : 0 ≤ i ∧ i < 120) (h5 : ∀ i, -128 ≤ σ.2 5 i ∧ σ.2 5 i ≤ 127) : f_M l (xG D cA ad) (xE (xG D cA ad)) yXS_byteAt (Cond.code yXS_byteAt cXS_byteAt 3 (some .byte) :: A9) 0 σ [.ref (ad 1), .int (fI n), .int (fI i)] (f_QI (fun r σ1 => r = σ.2 5 (n * 120 + i).toNat ∧ σ1 = σ) (xG D cA ad)) := by
  refine f_enter (by decide +kernel) hJ rfl (Nat.le_of_ble_eq_true rfl) ?_
  intro z hzl hR C hRt hLk hEz
  subst hzl
  have hRR : 0 ≤ z.2.2.2.1.frames ∧ 40 * 0 ≤ z.2.2.2.1.locals ∧ 0 ≤ z.2.2.2.1.cells ∧ 0 ≤ z.2.2.2.1.slots := by rw [hR]; exact ⟨Nat.le_refl _, Nat.le_refl _, Nat.zero_le _, Nat.zero_le _⟩
  refine v_aload_n C dXS_byteAt_0 rfl rfl ?_
  refine v_getR (k := 1) (q := 3) C dXS_byteAt_1 (by show (1 : Nat) < 383; decide) rfl rfl (by decide) rfl inXS lXS_22 rfl ?_
  refine v_iload_n C dXS_byteAt_4 rfl rfl ?_
  refine v_bipush C dXS_byteAt_5 (by decide +kernel) ?_
  refine v_imul C dXS_byteAt_7 ?_
  refine v_iload_n C dXS_byteAt_8 rfl rfl ?_
  refine v_iadd C dXS_byteAt_9 ?_
  have hb1 := h5 (((n * 120) + i)).toNat
  refine v_bald (k := 5) (v := σ.2 5 (((n * 120) + i)).toNat) C dXS_byteAt_10 (by show (5 : Nat) < 383; decide) rfl rfl (by omega) (by decide) rfl ?_
  exact v_zret C hRt hLk dXS_byteAt_11 (fN_byte (by omega) (by omega)) ⟨rfl, rfl⟩
set_option maxRecDepth 100000 in
set_option maxHeartbeats 4000000 in
/-- bring -/
theorem kX_XS_bring (l : Launch) (D : va_G) (cA : Nat → ClassId) (ad : Nat → Nat) (hJ : f_J (xG D cA ad)) (σ : fS) (n len : Int) (hn : 1 ≤ n ∧ n ≤ 40) (hl : 0 ≤ len ∧ len ≤ 120) : f_M l (xG D cA ad) (xE (xG D cA ad)) yXS_bring (Cond.code yXS_bring cXS_bring 4 none :: A9) 2 σ [.ref (ad 1), .int (fI n), .int (fI len)] (f_QV (fun σ1 => σ1 = x_bring σ n len) (xG D cA ad)) := by
  refine f_enter (by decide +kernel) hJ rfl (Nat.le_of_ble_eq_true rfl) ?_
  intro z hzl hR C hRt hLk hEz
  subst hzl
  have hRR : 2 ≤ z.2.2.2.1.frames ∧ 40 * 2 ≤ z.2.2.2.1.locals ∧ 0 ≤ z.2.2.2.1.cells ∧ 0 ≤ z.2.2.2.1.slots := by rw [hR]; exact ⟨Nat.le_refl _, Nat.le_refl _, Nat.zero_le _, Nat.zero_le _⟩
  refine v_aload_n C dXS_bring_0 rfl rfl ?_
  refine v_getR (k := 1) (q := 0) C dXS_bring_1 (by show (1 : Nat) < 383; decide) rfl rfl (by decide) rfl inXS lXS_9 rfl ?_
  refine v_iload_n C dXS_bring_4 rfl rfl ?_
  refine v_iconst C dXS_bring_5 ?_
  refine v_zast (k := 2) C dXS_bring_6 (by show (2 : Nat) < 383; decide) rfl rfl (by omega) (by decide) (by omega) ?_
  refine v_aload_n C dXS_bring_7 rfl rfl ?_
  refine v_getR (k := 1) (q := 1) C dXS_bring_8 (by show (1 : Nat) < 383; decide) rfl rfl (by decide) rfl inXS lXS_15 rfl ?_
  refine v_iload_n C dXS_bring_11 rfl rfl ?_
  refine v_iconst C dXS_bring_12 ?_
  refine v_zast (k := 3) C dXS_bring_13 (by show (3 : Nat) < 383; decide) rfl rfl (by omega) (by decide) (by omega) ?_
  refine v_aload_n C dXS_bring_14 rfl rfl ?_
  refine v_getR (k := 1) (q := 4) C dXS_bring_15 (by show (1 : Nat) < 383; decide) rfl rfl (by decide) rfl inXS lXS_26 rfl ?_
  refine v_iload_n C dXS_bring_18 rfl rfl ?_
  refine v_iconst C dXS_bring_19 ?_
  refine v_zast (k := 6) C dXS_bring_20 (by show (6 : Nat) < 383; decide) rfl rfl (by omega) (by decide) (by omega) ?_
  refine v_aload_n C dXS_bring_21 rfl rfl ?_
  refine v_getR (k := 1) (q := 2) C dXS_bring_22 (by show (1 : Nat) < 383; decide) rfl rfl (by decide) rfl inXS lXS_18 rfl ?_
  refine v_iload_n C dXS_bring_25 rfl rfl ?_
  refine v_iload_n C dXS_bring_26 rfl rfl ?_
  refine v_iast (k := 4) C dXS_bring_27 (by show (4 : Nat) < 383; decide) rfl rfl (by omega) (by decide) ?_
  refine v_iload_n C dXS_bring_28 rfl rfl ?_
  refine v_bipush C dXS_bring_29 (by decide +kernel) ?_
  refine v_imul C dXS_bring_31 ?_
  refine v_istore_n C dXS_bring_32 rfl (by decide) ?_
  refine v_aload_n C dXS_bring_33 rfl rfl ?_
  refine v_getR (k := 1) (q := 3) C dXS_bring_34 (by show (1 : Nat) < 383; decide) rfl rfl (by decide) rfl inXS lXS_22 rfl ?_
  refine v_iload_n C dXS_bring_37 rfl rfl ?_
  refine v_iload_n C dXS_bring_38 rfl rfl ?_
  refine v_iload_n C dXS_bring_39 rfl rfl ?_
  refine v_iadd C dXS_bring_40 ?_
  refine v_iconst C dXS_bring_41 ?_
  refine v_cSV (n := 4) C (xE_ok _) hEz hR (kX_XJ_fillB _ D cA ad hJ _ 5 4920 ((n * 120)) (((n * 120) + len)) 0 (by decide) rfl (by decide) (by omega) (by omega)) dXS_bring_42 gXS_39 (by decide +kernel) (by decide) (by decide) rfl (Nat.le_of_ble_eq_true rfl) rfl ⟨rfl, rfl⟩ (fun σ1 hp1 => ?_)
  subst σ1
  exact v_vret C hRt hLk dXS_bring_45 rfl
set_option maxRecDepth 100000 in
set_option maxHeartbeats 4000000 in
/-- exchange -/
theorem kX_XS_exchange (l : Launch) (D : va_G) (cA : Nat → ClassId) (ad : Nat → Nat) (hJ : f_J (xG D cA ad)) (σ : fS) (n i b : Int) (hn : 1 ≤ n ∧ n ≤ 40) (hi : 0 ≤ i ∧ i < 120) (hb : -128 ≤ b ∧ b ≤ 127) (h5 : ∀ i, -128 ≤ σ.2 5 i ∧ σ.2 5 i ≤ 127) : f_M l (xG D cA ad) (xE (xG D cA ad)) yXS_exchange (Cond.code yXS_exchange cXS_exchange 6 (some .byte) :: A9) 0 σ [.ref (ad 1), .int (fI n), .int (fI i), .int (fI b)] (f_QI (fun r σ1 => r = σ.2 5 (n * 120 + i).toNat ∧ σ1 = x_exch σ n i b) (xG D cA ad)) := by
  refine f_enter (by decide +kernel) hJ rfl (Nat.le_of_ble_eq_true rfl) ?_
  intro z hzl hR C hRt hLk hEz
  subst hzl
  have hRR : 0 ≤ z.2.2.2.1.frames ∧ 40 * 0 ≤ z.2.2.2.1.locals ∧ 0 ≤ z.2.2.2.1.cells ∧ 0 ≤ z.2.2.2.1.slots := by rw [hR]; exact ⟨Nat.le_refl _, Nat.le_refl _, Nat.zero_le _, Nat.zero_le _⟩
  refine v_iload_n C dXS_exchange_0 rfl rfl ?_
  refine v_bipush C dXS_exchange_1 (by decide +kernel) ?_
  refine v_imul C dXS_exchange_3 ?_
  refine v_iload_n C dXS_exchange_4 rfl rfl ?_
  refine v_iadd C dXS_exchange_5 ?_
  refine v_istore C dXS_exchange_6 (by decide) ?_
  refine v_aload_n C dXS_exchange_8 rfl rfl ?_
  refine v_getR (k := 1) (q := 3) C dXS_exchange_9 (by show (1 : Nat) < 383; decide) rfl rfl (by decide) rfl inXS lXS_22 rfl ?_
  refine v_iload C dXS_exchange_12 rfl ?_
  have hb1 := h5 (((n * 120) + i)).toNat
  refine v_bald (k := 5) (v := σ.2 5 (((n * 120) + i)).toNat) C dXS_exchange_14 (by show (5 : Nat) < 383; decide) rfl rfl (by omega) (by decide) rfl ?_
  refine v_istore C dXS_exchange_15 (by decide) ?_
  refine v_aload_n C dXS_exchange_17 rfl rfl ?_
  refine v_getR (k := 1) (q := 3) C dXS_exchange_18 (by show (1 : Nat) < 383; decide) rfl rfl (by decide) rfl inXS lXS_22 rfl ?_
  refine v_iload C dXS_exchange_21 rfl ?_
  refine v_iload_n C dXS_exchange_23 rfl rfl ?_
  refine v_bast (k := 5) C dXS_exchange_24 (by show (5 : Nat) < 383; decide) rfl rfl (by omega) (by decide) (by omega) ?_
  refine v_iload C dXS_exchange_25 rfl ?_
  refine v_iload_n C dXS_exchange_27 rfl rfl ?_
  refine v_icmp_eq (tgt := 38) C dXS_exchange_28 (by decide) (by omega) (by omega) (fun hc2 => ?_) (fun hc2 => ?_)
  · refine v_iload C dXS_exchange_38 rfl ?_
    exact v_zret C hRt hLk dXS_exchange_40 (fN_byte (by omega) (by omega)) ⟨rfl, by unfold x_exch; first | rw [if_pos (by omega)] | rw [if_neg (by omega)]⟩
  · refine v_aload_n C dXS_exchange_31 rfl rfl ?_
    refine v_getR (k := 1) (q := 4) C dXS_exchange_32 (by show (1 : Nat) < 383; decide) rfl rfl (by decide) rfl inXS lXS_26 rfl ?_
    refine v_iload_n C dXS_exchange_35 rfl rfl ?_
    refine v_iconst C dXS_exchange_36 ?_
    refine v_zast (k := 6) C dXS_exchange_37 (by show (6 : Nat) < 383; decide) rfl rfl (by omega) (by decide) (by omega) ?_
    refine v_iload C dXS_exchange_38 rfl ?_
    exact v_zret C hRt hLk dXS_exchange_40 (fN_byte (by omega) (by omega)) ⟨rfl, by unfold x_exch; first | rw [if_pos (by omega)] | rw [if_neg (by omega)]⟩
set_option maxRecDepth 100000 in
set_option maxHeartbeats 4000000 in
/-- isChanged -/
theorem kX_XS_isChanged (l : Launch) (D : va_G) (cA : Nat → ClassId) (ad : Nat → Nat) (hJ : f_J (xG D cA ad)) (σ : fS) (n : Int) (hn : 1 ≤ n ∧ n ≤ 40) (h2 : ∀ i, 0 ≤ σ.2 2 i ∧ σ.2 2 i ≤ 1) (h6 : ∀ i, 0 ≤ σ.2 6 i ∧ σ.2 6 i ≤ 1) (h7 : ∀ i, 0 ≤ σ.2 7 i ∧ σ.2 7 i ≤ 1) : f_M l (xG D cA ad) (xE (xG D cA ad)) yXS_isChanged (Cond.code yXS_isChanged cXS_isChanged 2 (some .boolean) :: A9) 0 σ [.ref (ad 1), .int (fI n)] (f_QI (fun r σ1 => r = x_ch σ n.toNat ∧ σ1 = σ) (xG D cA ad)) := by
  refine f_enter (by decide +kernel) hJ rfl (Nat.le_of_ble_eq_true rfl) ?_
  intro z hzl hR C hRt hLk hEz
  subst hzl
  have hRR : 0 ≤ z.2.2.2.1.frames ∧ 40 * 0 ≤ z.2.2.2.1.locals ∧ 0 ≤ z.2.2.2.1.cells ∧ 0 ≤ z.2.2.2.1.slots := by rw [hR]; exact ⟨Nat.le_refl _, Nat.le_refl _, Nat.zero_le _, Nat.zero_le _⟩
  refine v_aload_n C dXS_isChanged_0 rfl rfl ?_
  refine v_getR (k := 1) (q := 0) C dXS_isChanged_1 (by show (1 : Nat) < 383; decide) rfl rfl (by decide) rfl inXS lXS_9 rfl ?_
  refine v_iload_n C dXS_isChanged_4 rfl rfl ?_
  have hb1 := h2 (n).toNat
  refine v_zald (k := 2) (v := σ.2 2 (n).toNat) C dXS_isChanged_5 (by show (2 : Nat) < 383; decide) rfl rfl (by omega) (by decide) rfl ?_
  refine v_if_eq (tgt := 18) C dXS_isChanged_6 (by decide) (by omega) (fun hc2 => ?_) (fun hc2 => ?_)
  · refine v_aload_n C dXS_isChanged_18 rfl rfl ?_
    refine v_getR (k := 1) (q := 5) C dXS_isChanged_19 (by show (1 : Nat) < 383; decide) rfl rfl (by decide) rfl inXS lXS_29 rfl ?_
    refine v_iload_n C dXS_isChanged_22 rfl rfl ?_
    have hb3 := h7 (n).toNat
    refine v_zald (k := 7) (v := σ.2 7 (n).toNat) C dXS_isChanged_23 (by show (7 : Nat) < 383; decide) rfl rfl (by omega) (by decide) rfl ?_
    exact v_zret C hRt hLk dXS_isChanged_24 (fN_bool (by omega)) ⟨by unfold x_ch; first | rw [if_pos (by omega)] | rw [if_neg (by omega)], rfl⟩
  · refine v_aload_n C dXS_isChanged_9 rfl rfl ?_
    refine v_getR (k := 1) (q := 4) C dXS_isChanged_10 (by show (1 : Nat) < 383; decide) rfl rfl (by decide) rfl inXS lXS_26 rfl ?_
    refine v_iload_n C dXS_isChanged_13 rfl rfl ?_
    have hb4 := h6 (n).toNat
    refine v_zald (k := 6) (v := σ.2 6 (n).toNat) C dXS_isChanged_14 (by show (6 : Nat) < 383; decide) rfl rfl (by omega) (by decide) rfl ?_
    refine v_goto (tgt := 24) C dXS_isChanged_15 (by decide) ?_
    exact v_zret C hRt hLk dXS_isChanged_24 (fN_bool (by omega)) ⟨by unfold x_ch; first | rw [if_pos (by omega)] | rw [if_neg (by omega)], rfl⟩
set_option maxRecDepth 100000 in
set_option maxHeartbeats 4000000 in
/-- countThere -/
theorem kX_XS_countThere (l : Launch) (D : va_G) (cA : Nat → ClassId) (ad : Nat → Nat) (hJ : f_J (xG D cA ad)) (σ : fS) (h2 : ∀ i, 0 ≤ σ.2 2 i ∧ σ.2 2 i ≤ 1) : f_M l (xG D cA ad) (xE (xG D cA ad)) yXS_countThere (Cond.code yXS_countThere cXS_countThere 3 (some .int) :: A9) 1 σ [.ref (ad 1)] (f_QI (fun r σ1 => r = m_cnt (σ.2 2) 40 ∧ σ1 = σ) (xG D cA ad)) := by
  refine f_enter (by decide +kernel) hJ rfl (Nat.le_of_ble_eq_true rfl) ?_
  intro z hzl hR C hRt hLk hEz
  subst hzl
  have hRR : 1 ≤ z.2.2.2.1.frames ∧ 40 * 1 ≤ z.2.2.2.1.locals ∧ 0 ≤ z.2.2.2.1.cells ∧ 0 ≤ z.2.2.2.1.slots := by rw [hR]; exact ⟨Nat.le_refl _, Nat.le_refl _, Nat.zero_le _, Nat.zero_le _⟩
  have L : ∀ (m k : Nat), m + k = 40 → fv z (xG D cA ad) 3 (f_R z (xG D cA ad) (f_QI (fun r σ1 => r = m_cnt (σ.2 2) 40 ∧ σ1 = σ) (xG D cA ad))) 0 0 σ 4 [some (.ref (ad 1)), some (.int (fI (m_cnt (σ.2 2) k))), some (.int (fI ((k : Int) + 1)))] [] := by
    intro m
    induction m with
    | zero =>
      intro k hk
      have hcl := m_cnt_le (σ.2 2) k
      have hk40 : k = 40 := by omega
      subst hk40
      refine v_iload_n C dXS_countThere_4 rfl rfl ?_
      refine v_bipush C dXS_countThere_5 (by decide +kernel) ?_
      refine v_icmp_gt (tgt := 28) C dXS_countThere_7 (by decide) (by omega) (by omega) (fun hc1 => ?_) (fun hc1 => ?_)
      · refine v_iload_n C dXS_countThere_28 rfl rfl ?_
        exact v_iret C hRt hLk dXS_countThere_29 ⟨rfl, rfl⟩
      · exfalso; omega
    | succ m ih =>
      intro k hk
      have hcl := m_cnt_le (σ.2 2) k
      have hkt : ((k : Int) + 1).toNat = k + 1 := by omega
      have hcs : m_cnt (σ.2 2) (k + 1) = m_cnt (σ.2 2) k + (if (σ.2 2) (k + 1) = 1 then 1 else 0) := rfl
      have hkx : σ.2 2 ((k : Int) + 1).toNat = σ.2 2 (k + 1) := by rw [hkt]
      refine v_iload_n C dXS_countThere_4 rfl rfl ?_
      refine v_bipush C dXS_countThere_5 (by decide +kernel) ?_
      refine v_icmp_gt (tgt := 28) C dXS_countThere_7 (by decide) (by omega) (by omega) (fun hc2 => ?_) (fun hc2 => ?_)
      · exfalso; omega
      · refine v_aload_n C dXS_countThere_10 rfl rfl ?_
        refine v_getR (k := 1) (q := 0) C dXS_countThere_11 (by show (1 : Nat) < 383; decide) rfl rfl (by decide) rfl inXS lXS_9 rfl ?_
        refine v_iload_n C dXS_countThere_14 rfl rfl ?_
        have hb3 := h2 (((k : Int) + 1)).toNat
        refine v_zald (k := 2) (v := σ.2 2 (((k : Int) + 1)).toNat) C dXS_countThere_15 (by show (2 : Nat) < 383; decide) rfl rfl (by omega) (by decide) rfl ?_
        refine v_if_eq (tgt := 22) C dXS_countThere_16 (by decide) (by omega) (fun hc4 => ?_) (fun hc4 => ?_)
        · refine v_iinc C dXS_countThere_22 rfl (by decide) ?_
          refine v_goto (tgt := 4) C dXS_countThere_25 (by decide) ?_
          exact v_lv (by rw [hcs]; (first | rw [if_pos (by omega)] | rw [if_neg (by omega), Int.add_zero]); rfl) (ih (k + 1) (by omega))
        · refine v_iinc C dXS_countThere_19 rfl (by decide) ?_
          refine v_iinc C dXS_countThere_22 rfl (by decide) ?_
          refine v_goto (tgt := 4) C dXS_countThere_25 (by decide) ?_
          exact v_lv (by rw [hcs]; (first | rw [if_pos (by omega)] | rw [if_neg (by omega), Int.add_zero]); rfl) (ih (k + 1) (by omega))
  refine v_iconst C dXS_countThere_0 ?_
  refine v_istore_n C dXS_countThere_1 rfl (by decide) ?_
  refine v_iconst C dXS_countThere_2 ?_
  refine v_istore_n C dXS_countThere_3 rfl (by decide) ?_
  exact v_lv rfl (L 40 0 (by omega))
set_option maxRecDepth 100000 in
set_option maxHeartbeats 4000000 in
/-- countChanged -/
theorem kX_XS_countChanged (l : Launch) (D : va_G) (cA : Nat → ClassId) (ad : Nat → Nat) (hJ : f_J (xG D cA ad)) (σ : fS) (h2 : ∀ i, 0 ≤ σ.2 2 i ∧ σ.2 2 i ≤ 1) (h6 : ∀ i, 0 ≤ σ.2 6 i ∧ σ.2 6 i ≤ 1) (h7 : ∀ i, 0 ≤ σ.2 7 i ∧ σ.2 7 i ≤ 1) : f_M l (xG D cA ad) (xE (xG D cA ad)) yXS_countChanged (Cond.code yXS_countChanged cXS_countChanged 3 (some .int) :: A9) 1 σ [.ref (ad 1)] (f_QI (fun r σ1 => r = m_cnt (x_ch σ) 40 ∧ σ1 = σ) (xG D cA ad)) := by
  refine f_enter (by decide +kernel) hJ rfl (Nat.le_of_ble_eq_true rfl) ?_
  intro z hzl hR C hRt hLk hEz
  subst hzl
  have hRR : 1 ≤ z.2.2.2.1.frames ∧ 40 * 1 ≤ z.2.2.2.1.locals ∧ 0 ≤ z.2.2.2.1.cells ∧ 0 ≤ z.2.2.2.1.slots := by rw [hR]; exact ⟨Nat.le_refl _, Nat.le_refl _, Nat.zero_le _, Nat.zero_le _⟩
  have L : ∀ (m k : Nat), m + k = 40 → fv z (xG D cA ad) 3 (f_R z (xG D cA ad) (f_QI (fun r σ1 => r = m_cnt (x_ch σ) 40 ∧ σ1 = σ) (xG D cA ad))) 0 0 σ 4 [some (.ref (ad 1)), some (.int (fI (m_cnt (x_ch σ) k))), some (.int (fI ((k : Int) + 1)))] [] := by
    intro m
    induction m with
    | zero =>
      intro k hk
      have hcl := m_cnt_le (x_ch σ) k
      have hk40 : k = 40 := by omega
      subst hk40
      refine v_iload_n C dXS_countChanged_4 rfl rfl ?_
      refine v_bipush C dXS_countChanged_5 (by decide +kernel) ?_
      refine v_icmp_gt (tgt := 27) C dXS_countChanged_7 (by decide) (by omega) (by omega) (fun hc1 => ?_) (fun hc1 => ?_)
      · refine v_iload_n C dXS_countChanged_27 rfl rfl ?_
        exact v_iret C hRt hLk dXS_countChanged_28 ⟨rfl, rfl⟩
      · exfalso; omega
    | succ m ih =>
      intro k hk
      have hcl := m_cnt_le (x_ch σ) k
      have hkt : ((k : Int) + 1).toNat = k + 1 := by omega
      have hcs : m_cnt (x_ch σ) (k + 1) = m_cnt (x_ch σ) k + (if (x_ch σ) (k + 1) = 1 then 1 else 0) := rfl
      refine v_iload_n C dXS_countChanged_4 rfl rfl ?_
      refine v_bipush C dXS_countChanged_5 (by decide +kernel) ?_
      refine v_icmp_gt (tgt := 27) C dXS_countChanged_7 (by decide) (by omega) (by omega) (fun hc2 => ?_) (fun hc2 => ?_)
      · exfalso; omega
      · refine v_aload_n C dXS_countChanged_10 rfl rfl ?_
        refine v_iload_n C dXS_countChanged_11 rfl rfl ?_
        refine v_cVI (k := 1) (n := 1) C (xE_ok _) hEz hR (kX_XS_isChanged _ D cA ad hJ σ (((k : Int) + 1)) (by omega) h2 h6 h7) dXS_countChanged_12 (by show (1 : Nat) < 383; decide) rfl rfl gXS_45 (by decide +kernel) (by decide) (by decide) rfl (Nat.le_of_ble_eq_true rfl) rfl ⟨rfl, rfl⟩ (fun r1 σ1 hp1 => ?_)
        obtain ⟨e1, e2⟩ := hp1
        subst σ1
        rw [hkt] at e1
        have hx01 : 0 ≤ x_ch σ (k + 1) ∧ x_ch σ (k + 1) ≤ 1 := by unfold x_ch; split; (· exact h6 _); (· exact h7 _)
        refine v_if_eq (tgt := 21) C dXS_countChanged_15 (by decide) (by omega) (fun hc3 => ?_) (fun hc3 => ?_)
        · refine v_iinc C dXS_countChanged_21 rfl (by decide) ?_
          refine v_goto (tgt := 4) C dXS_countChanged_24 (by decide) ?_
          exact v_lv (by rw [hcs]; (first | rw [if_pos (by omega)] | rw [if_neg (by omega), Int.add_zero]); rfl) (ih (k + 1) (by omega))
        · refine v_iinc C dXS_countChanged_18 rfl (by decide) ?_
          refine v_iinc C dXS_countChanged_21 rfl (by decide) ?_
          refine v_goto (tgt := 4) C dXS_countChanged_24 (by decide) ?_
          exact v_lv (by rw [hcs]; (first | rw [if_pos (by omega)] | rw [if_neg (by omega), Int.add_zero]); rfl) (ih (k + 1) (by omega))
  refine v_iconst C dXS_countChanged_0 ?_
  refine v_istore_n C dXS_countChanged_1 rfl (by decide) ?_
  refine v_iconst C dXS_countChanged_2 ?_
  refine v_istore_n C dXS_countChanged_3 rfl (by decide) ?_
  exact v_lv rfl (L 40 0 (by omega))
set_option maxRecDepth 100000 in
set_option maxHeartbeats 4000000 in
/-- save -/
theorem kX_XS_save (l : Launch) (D : va_G) (cA : Nat → ClassId) (ad : Nat → Nat) (hJ : f_J (xG D cA ad)) (σ : fS) (h2 : ∀ i, 0 ≤ σ.2 2 i ∧ σ.2 2 i ≤ 1) : f_M l (xG D cA ad) (xE (xG D cA ad)) yXS_save (Cond.code yXS_save cXS_save 2 none :: A9) 0 σ [.ref (ad 1)] (f_QV (fun σ1 => σ1 = x_sav σ 41) (xG D cA ad)) := by
  refine f_enter (by decide +kernel) hJ rfl (Nat.le_of_ble_eq_true rfl) ?_
  intro z hzl hR C hRt hLk hEz
  subst hzl
  have hRR : 0 ≤ z.2.2.2.1.frames ∧ 40 * 0 ≤ z.2.2.2.1.locals ∧ 0 ≤ z.2.2.2.1.cells ∧ 0 ≤ z.2.2.2.1.slots := by rw [hR]; exact ⟨Nat.le_refl _, Nat.le_refl _, Nat.zero_le _, Nat.zero_le _⟩
  have L : ∀ (m k : Nat), m + k = 41 → 1 ≤ k → fv z (xG D cA ad) 2 (f_R z (xG D cA ad) (f_QV (fun σ1 => σ1 = x_sav σ 41) (xG D cA ad))) 0 0 (x_sav σ k) 2 [some (.ref (ad 1)), some (.int (fI (k : Int)))] [] := by
    intro m
    induction m with
    | zero =>
      intro k hk hk1
      have hk41 : k = 41 := by omega
      subst hk41
      refine v_iload_n C dXS_save_2 rfl rfl ?_
      refine v_bipush C dXS_save_3 (by decide +kernel) ?_
      refine v_icmp_gt (tgt := 33) C dXS_save_5 (by decide) (by omega) (by omega) (fun hc1 => ?_) (fun hc1 => ?_)
      · exact v_vret C hRt hLk dXS_save_33 rfl
      · exfalso; omega
    | succ m ih =>
      intro k hk hk1
      have hb2 := h2 (k : Int).toNat
      refine v_iload_n C dXS_save_2 rfl rfl ?_
      refine v_bipush C dXS_save_3 (by decide +kernel) ?_
      refine v_icmp_gt (tgt := 33) C dXS_save_5 (by decide) (by omega) (by omega) (fun hc2 => ?_) (fun hc2 => ?_)
      · exfalso; omega
      · refine v_aload_n C dXS_save_8 rfl rfl ?_
        refine v_getR (k := 1) (q := 4) C dXS_save_9 (by show (1 : Nat) < 383; decide) rfl rfl (by decide) rfl inXS lXS_26 rfl ?_
        refine v_iload_n C dXS_save_12 rfl rfl ?_
        refine v_iconst C dXS_save_13 ?_
        refine v_zast (k := 6) C dXS_save_14 (by show (6 : Nat) < 383; decide) rfl rfl (by omega) (by decide) (by omega) ?_
        refine v_aload_n C dXS_save_15 rfl rfl ?_
        refine v_getR (k := 1) (q := 5) C dXS_save_16 (by show (1 : Nat) < 383; decide) rfl rfl (by decide) rfl inXS lXS_29 rfl ?_
        refine v_iload_n C dXS_save_19 rfl rfl ?_
        refine v_aload_n C dXS_save_20 rfl rfl ?_
        refine v_getR (k := 1) (q := 0) C dXS_save_21 (by show (1 : Nat) < 383; decide) rfl rfl (by decide) rfl inXS lXS_9 rfl ?_
        refine v_iload_n C dXS_save_24 rfl rfl ?_
        refine v_zald (k := 2) (v := σ.2 2 ((k : Int)).toNat) C dXS_save_25 (by show (2 : Nat) < 383; decide) rfl rfl (by omega) (by decide) (by rw [p2_2, if_neg (by omega)]; exact x_sav_2 _ _ _) ?_
        refine v_zast (k := 7) C dXS_save_26 (by show (7 : Nat) < 383; decide) rfl rfl (by omega) (by decide) (by omega) ?_
        refine v_iinc C dXS_save_27 rfl (by decide) ?_
        refine v_goto (tgt := 2) C dXS_save_30 (by decide) ?_
        exact v_st (x_sav_s σ k hk1) (ih (k + 1) (by omega) (by omega))
  refine v_iconst C dXS_save_0 ?_
  refine v_istore_n C dXS_save_1 rfl (by decide) ?_
  exact v_st (x_sav_1 σ) (L 40 1 (by omega) (by omega))
set_option maxRecDepth 100000 in
set_option maxHeartbeats 4000000 in
/-- valueAt -/
theorem kX_XF_valueAt (l : Launch) (D : va_G) (cA : Nat → ClassId) (ad : Nat → Nat) (hJ : f_J (xG D cA ad)) (σ : fS) (i : Int) (hi : -2147483648 ≤ i ∧ i ≤ 2147483647) (hc : 0 ≤ σ.1 8 1 ∧ σ.1 8 1 ≤ 12000) (h9 : ∀ i, -128 ≤ σ.2 9 i ∧ σ.2 9 i ≤ 127) : f_M l (xG D cA ad) (xE (xG D cA ad)) yXF_valueAt (Cond.code yXF_valueAt cXF_valueAt 2 (some .int) :: A9) 0 σ [.ref (ad 8), .int (fI i)] (f_QI (fun r σ1 => r = (if 0 ≤ i ∧ i < σ.1 8 1 then σ.2 9 i.toNat else 256) ∧ σ1 = σ) (xG D cA ad)) := by
  refine f_enter (by decide +kernel) hJ rfl (Nat.le_of_ble_eq_true rfl) ?_
  intro z hzl hR C hRt hLk hEz
  subst hzl
  have hRR : 0 ≤ z.2.2.2.1.frames ∧ 40 * 0 ≤ z.2.2.2.1.locals ∧ 0 ≤ z.2.2.2.1.cells ∧ 0 ≤ z.2.2.2.1.slots := by rw [hR]; exact ⟨Nat.le_refl _, Nat.le_refl _, Nat.zero_le _, Nat.zero_le _⟩
  refine v_iload_n C dXF_valueAt_0 rfl rfl ?_
  refine v_if_lt (tgt := 21) C dXF_valueAt_1 (by decide) (by omega) (fun hc1 => ?_) (fun hc1 => ?_)
  · refine v_sipush C dXF_valueAt_21 (by decide +kernel) ?_
    exact v_iret C hRt hLk dXF_valueAt_24 ⟨by first | rw [if_pos (by omega)] | rw [if_neg (by omega)], rfl⟩
  · refine v_iload_n C dXF_valueAt_4 rfl rfl ?_
    refine v_aload_n C dXF_valueAt_5 rfl rfl ?_
    refine v_getI (k := 8) (q := 1) (v := σ.1 8 1) C dXF_valueAt_6 (by show (8 : Nat) < 383; decide) rfl rfl (by decide) rfl inXF lXF_15 rfl rfl ?_
    refine v_icmp_ge (tgt := 21) C dXF_valueAt_9 (by decide) (by omega) (by omega) (fun hc2 => ?_) (fun hc2 => ?_)
    · refine v_sipush C dXF_valueAt_21 (by decide +kernel) ?_
      exact v_iret C hRt hLk dXF_valueAt_24 ⟨by first | rw [if_pos (by omega)] | rw [if_neg (by omega)], rfl⟩
    · refine v_aload_n C dXF_valueAt_12 rfl rfl ?_
      refine v_getR (k := 8) (q := 0) C dXF_valueAt_13 (by show (8 : Nat) < 383; decide) rfl rfl (by decide) rfl inXF lXF_9 rfl ?_
      refine v_iload_n C dXF_valueAt_16 rfl rfl ?_
      have hb3 := h9 (i).toNat
      refine v_bald (k := 9) (v := σ.2 9 (i).toNat) C dXF_valueAt_17 (by show (9 : Nat) < 383; decide) rfl rfl (by omega) (by decide) rfl ?_
      refine v_goto (tgt := 24) C dXF_valueAt_18 (by decide) ?_
      exact v_iret C hRt hLk dXF_valueAt_24 ⟨by first | rw [if_pos (by omega)] | rw [if_neg (by omega)], rfl⟩
set_option maxRecDepth 100000 in
set_option maxHeartbeats 4000000 in
/-- object -/
theorem kX_XA_object (l : Launch) (D : va_G) (cA : Nat → ClassId) (ad : Nat → Nat) (hJ : f_J (xG D cA ad)) (σ : fS) (n len : Int) (hn : 1 ≤ n ∧ n ≤ 40) (hl : 0 ≤ len ∧ len ≤ 120) : f_M l (xG D cA ad) (xE (xG D cA ad)) yXA_object (Cond.code yXA_object cXA_object 3 none :: A9) 3 σ [.ref (ad 0), .int (fI n), .int (fI len)] (f_QV (fun σ1 => σ1 = x_bring σ n len) (xG D cA ad)) := by
  refine f_enter (by decide +kernel) hJ rfl (Nat.le_of_ble_eq_true rfl) ?_
  intro z hzl hR C hRt hLk hEz
  subst hzl
  have hRR : 3 ≤ z.2.2.2.1.frames ∧ 40 * 3 ≤ z.2.2.2.1.locals ∧ 0 ≤ z.2.2.2.1.cells ∧ 0 ≤ z.2.2.2.1.slots := by rw [hR]; exact ⟨Nat.le_refl _, Nat.le_refl _, Nat.zero_le _, Nat.zero_le _⟩
  refine v_iload_n C dXA_object_0 rfl rfl ?_
  refine v_cSI (n := 1) C (xE_ok _) hEz hR (kX_XA_isNumber _ D cA ad hJ σ (n) (by omega)) dXA_object_1 gXA_55 (by decide +kernel) (by decide) (by decide) rfl (Nat.le_of_ble_eq_true rfl) rfl ⟨rfl, rfl⟩ (fun r1 σ1 hp1 => ?_)
  obtain ⟨e1, e2⟩ := hp1
  subst σ1
  rw [if_pos (by omega)] at e1
  subst r1
  refine v_if_ne (tgt := 17) C dXA_object_4 (by decide) (by omega) (fun hc1 => ?_) (fun hc1 => ?_)
  · refine v_iload_n C dXA_object_17 rfl rfl ?_
    refine v_if_lt (tgt := 27) C dXA_object_18 (by decide) (by omega) (fun hc2 => ?_) (fun hc2 => ?_)
    · exfalso; omega
    · refine v_iload_n C dXA_object_21 rfl rfl ?_
      refine v_bipush C dXA_object_22 (by decide +kernel) ?_
      refine v_icmp_le (tgt := 37) C dXA_object_24 (by decide) (by omega) (by omega) (fun hc3 => ?_) (fun hc3 => ?_)
      · refine v_aload_n C dXA_object_37 rfl rfl ?_
        refine v_getR (k := 0) (q := 0) C dXA_object_38 (by show (0 : Nat) < 383; decide) rfl rfl (by decide) rfl inXA lXA_10 rfl ?_
        refine v_iload_n C dXA_object_41 rfl rfl ?_
        refine v_iload_n C dXA_object_42 rfl rfl ?_
        refine v_cVV (k := 1) (n := 2) C (xE_ok _) hEz hR (kX_XS_bring _ D cA ad hJ σ n len hn hl) dXA_object_43 (by show (1 : Nat) < 383; decide) rfl rfl gXA_71 (by decide +kernel) (by decide) (by decide) rfl (Nat.le_of_ble_eq_true rfl) rfl ⟨rfl, rfl⟩ (fun σ1 hp1 => ?_)
        subst σ1
        exact v_vret C hRt hLk dXA_object_46 rfl
      · exfalso; omega
  · exfalso; omega
set_option maxRecDepth 100000 in
set_option maxHeartbeats 4000000 in
/-- octet -/
theorem kX_XA_octet (l : Launch) (D : va_G) (cA : Nat → ClassId) (ad : Nat → Nat) (hJ : f_J (xG D cA ad)) (σ : fS) (n i b : Int) (hb : -128 ≤ b ∧ b ≤ 127) (h2 : ∀ i, 0 ≤ σ.2 2 i ∧ σ.2 2 i ≤ 1) (h4 : ∀ i, 0 ≤ σ.2 4 i ∧ σ.2 4 i ≤ 120) (h5 : ∀ i, -128 ≤ σ.2 5 i ∧ σ.2 5 i ≤ 127) (hg : (((1 ≤ n ∧ n ≤ 40) ∧ σ.2 2 n.toNat = 1) ∧ 0 ≤ i ∧ i < σ.2 4 n.toNat)) : f_M l (xG D cA ad) (xE (xG D cA ad)) yXA_octet (Cond.code yXA_octet cXA_octet 4 (some .byte) :: A9) 3 σ [.ref (ad 0), .int (fI n), .int (fI i), .int (fI b)] (f_QI (fun r σ1 => r = σ.2 5 (n * 120 + i).toNat ∧ σ1 = x_exch σ n i b) (xG D cA ad)) := by
  refine f_enter (by decide +kernel) hJ rfl (Nat.le_of_ble_eq_true rfl) ?_
  intro z hzl hR C hRt hLk hEz
  subst hzl
  have hRR : 3 ≤ z.2.2.2.1.frames ∧ 40 * 3 ≤ z.2.2.2.1.locals ∧ 0 ≤ z.2.2.2.1.cells ∧ 0 ≤ z.2.2.2.1.slots := by rw [hR]; exact ⟨Nat.le_refl _, Nat.le_refl _, Nat.zero_le _, Nat.zero_le _⟩
  have hb5 := h5 (n * 120 + i).toNat
  have hb4 := h4 n.toNat
  refine v_aload_n C dXA_octet_0 rfl rfl ?_
  refine v_getR (k := 0) (q := 0) C dXA_octet_1 (by show (0 : Nat) < 383; decide) rfl rfl (by decide) rfl inXA lXA_10 rfl ?_
  refine v_iload_n C dXA_octet_4 rfl rfl ?_
  refine v_iload_n C dXA_octet_5 rfl rfl ?_
  refine v_cVI (k := 1) (n := 2) C (xE_ok _) hEz hR (kX_XS_hasByte _ D cA ad hJ σ (n) (i) (by omega) (by omega) h2 h4) dXA_octet_6 (by show (1 : Nat) < 383; decide) rfl rfl gXA_75 (by decide +kernel) (by decide) (by decide) rfl (Nat.le_of_ble_eq_true rfl) rfl ⟨rfl, rfl⟩ (fun r1 σ1 hp1 => ?_)
  obtain ⟨e1, e2⟩ := hp1
  subst σ1
  rw [if_pos hg] at e1
  subst r1
  refine v_if_ne (tgt := 22) C dXA_octet_9 (by decide) (by omega) (fun hc1 => ?_) (fun hc1 => ?_)
  · refine v_aload_n C dXA_octet_22 rfl rfl ?_
    refine v_getR (k := 0) (q := 0) C dXA_octet_23 (by show (0 : Nat) < 383; decide) rfl rfl (by decide) rfl inXA lXA_10 rfl ?_
    refine v_iload_n C dXA_octet_26 rfl rfl ?_
    refine v_iload_n C dXA_octet_27 rfl rfl ?_
    refine v_iload_n C dXA_octet_28 rfl rfl ?_
    refine v_cVI (k := 1) (n := 3) C (xE_ok _) hEz hR (kX_XS_exchange _ D cA ad hJ σ n i b (by omega) (by omega) hb h5) dXA_octet_29 (by show (1 : Nat) < 383; decide) rfl rfl gXA_81 (by decide +kernel) (by decide) (by decide) rfl (Nat.le_of_ble_eq_true rfl) rfl ⟨rfl, rfl⟩ (fun r1 σ1 hp1 => ?_)
    obtain ⟨e1, e2⟩ := hp1
    subst σ1
    exact v_zret C hRt hLk dXA_octet_32 (fN_byte (by omega) (by omega)) ⟨e1, rfl⟩
  · exfalso; omega
set_option maxRecDepth 100000 in
set_option maxHeartbeats 4000000 in
/-- byteOf -/
theorem kX_XA_byteOf (l : Launch) (D : va_G) (cA : Nat → ClassId) (ad : Nat → Nat) (hJ : f_J (xG D cA ad)) (σ : fS) (n i : Int) (h2 : ∀ i, 0 ≤ σ.2 2 i ∧ σ.2 2 i ≤ 1) (h4 : ∀ i, 0 ≤ σ.2 4 i ∧ σ.2 4 i ≤ 120) (h5 : ∀ i, -128 ≤ σ.2 5 i ∧ σ.2 5 i ≤ 127) (hg : (((1 ≤ n ∧ n ≤ 40) ∧ σ.2 2 n.toNat = 1) ∧ 0 ≤ i ∧ i < σ.2 4 n.toNat)) : f_M l (xG D cA ad) (xE (xG D cA ad)) yXA_byteOf (Cond.code yXA_byteOf cXA_byteOf 3 (some .byte) :: A9) 3 σ [.ref (ad 0), .int (fI n), .int (fI i)] (f_QI (fun r σ1 => r = σ.2 5 (n * 120 + i).toNat ∧ σ1 = σ) (xG D cA ad)) := by
  refine f_enter (by decide +kernel) hJ rfl (Nat.le_of_ble_eq_true rfl) ?_
  intro z hzl hR C hRt hLk hEz
  subst hzl
  have hRR : 3 ≤ z.2.2.2.1.frames ∧ 40 * 3 ≤ z.2.2.2.1.locals ∧ 0 ≤ z.2.2.2.1.cells ∧ 0 ≤ z.2.2.2.1.slots := by rw [hR]; exact ⟨Nat.le_refl _, Nat.le_refl _, Nat.zero_le _, Nat.zero_le _⟩
  have hb5 := h5 (n * 120 + i).toNat
  have hb4 := h4 n.toNat
  refine v_aload_n C dXA_byteOf_0 rfl rfl ?_
  refine v_getR (k := 0) (q := 0) C dXA_byteOf_1 (by show (0 : Nat) < 383; decide) rfl rfl (by decide) rfl inXA lXA_10 rfl ?_
  refine v_iload_n C dXA_byteOf_4 rfl rfl ?_
  refine v_iload_n C dXA_byteOf_5 rfl rfl ?_
  refine v_cVI (k := 1) (n := 2) C (xE_ok _) hEz hR (kX_XS_hasByte _ D cA ad hJ σ (n) (i) (by omega) (by omega) h2 h4) dXA_byteOf_6 (by show (1 : Nat) < 383; decide) rfl rfl gXA_75 (by decide +kernel) (by decide) (by decide) rfl (Nat.le_of_ble_eq_true rfl) rfl ⟨rfl, rfl⟩ (fun r1 σ1 hp1 => ?_)
  obtain ⟨e1, e2⟩ := hp1
  subst σ1
  rw [if_pos hg] at e1
  subst r1
  refine v_if_ne (tgt := 22) C dXA_byteOf_9 (by decide) (by omega) (fun hc1 => ?_) (fun hc1 => ?_)
  · refine v_aload_n C dXA_byteOf_22 rfl rfl ?_
    refine v_getR (k := 0) (q := 0) C dXA_byteOf_23 (by show (0 : Nat) < 383; decide) rfl rfl (by decide) rfl inXA lXA_10 rfl ?_
    refine v_iload_n C dXA_byteOf_26 rfl rfl ?_
    refine v_iload_n C dXA_byteOf_27 rfl rfl ?_
    refine v_cVI (k := 1) (n := 2) C (xE_ok _) hEz hR (kX_XS_byteAt _ D cA ad hJ σ n i (by omega) (by omega) h5) dXA_byteOf_28 (by show (1 : Nat) < 383; decide) rfl rfl gXA_185 (by decide +kernel) (by decide) (by decide) rfl (Nat.le_of_ble_eq_true rfl) rfl ⟨rfl, rfl⟩ (fun r1 σ1 hp1 => ?_)
    obtain ⟨e1, e2⟩ := hp1
    subst σ1
    exact v_zret C hRt hLk dXA_byteOf_31 (fN_byte (by omega) (by omega)) ⟨e1, rfl⟩
  · exfalso; omega
set_option maxRecDepth 100000 in
set_option maxHeartbeats 4000000 in
/-- drop -/
theorem kX_XA_drop (l : Launch) (D : va_G) (cA : Nat → ClassId) (ad : Nat → Nat) (hJ : f_J (xG D cA ad)) (σ : fS) (n : Int) (hn : 1 ≤ n ∧ n ≤ 40) (h2 : ∀ i, 0 ≤ σ.2 2 i ∧ σ.2 2 i ≤ 1) : f_M l (xG D cA ad) (xE (xG D cA ad)) yXA_drop (Cond.code yXA_drop cXA_drop 3 (some .boolean) :: A9) 1 σ [.ref (ad 0), .int (fI n)] (f_QI (fun r σ1 => r = σ.2 2 n.toNat ∧ σ1 = f_p2 σ 2 n.toNat 0) (xG D cA ad)) := by
  refine f_enter (by decide +kernel) hJ rfl (Nat.le_of_ble_eq_true rfl) ?_
  intro z hzl hR C hRt hLk hEz
  subst hzl
  have hRR : 1 ≤ z.2.2.2.1.frames ∧ 40 * 1 ≤ z.2.2.2.1.locals ∧ 0 ≤ z.2.2.2.1.cells ∧ 0 ≤ z.2.2.2.1.slots := by rw [hR]; exact ⟨Nat.le_refl _, Nat.le_refl _, Nat.zero_le _, Nat.zero_le _⟩
  refine v_iload_n C dXA_drop_0 rfl rfl ?_
  refine v_cSI (n := 1) C (xE_ok _) hEz hR (kX_XA_isNumber _ D cA ad hJ σ (n) (by omega)) dXA_drop_1 gXA_55 (by decide +kernel) (by decide) (by decide) rfl (Nat.le_of_ble_eq_true rfl) rfl ⟨rfl, rfl⟩ (fun r1 σ1 hp1 => ?_)
  obtain ⟨e1, e2⟩ := hp1
  subst σ1
  rw [if_pos (by omega)] at e1
  subst r1
  refine v_if_ne (tgt := 17) C dXA_drop_4 (by decide) (by omega) (fun hc1 => ?_) (fun hc1 => ?_)
  · refine v_aload_n C dXA_drop_17 rfl rfl ?_
    refine v_getR (k := 0) (q := 0) C dXA_drop_18 (by show (0 : Nat) < 383; decide) rfl rfl (by decide) rfl inXA lXA_10 rfl ?_
    refine v_getR (k := 1) (q := 0) C dXA_drop_21 (by show (1 : Nat) < 383; decide) rfl rfl (by decide) rfl inXS lXA_85 rfl ?_
    refine v_iload_n C dXA_drop_24 rfl rfl ?_
    have hb2 := h2 (n).toNat
    refine v_zald (k := 2) (v := σ.2 2 (n).toNat) C dXA_drop_25 (by show (2 : Nat) < 383; decide) rfl rfl (by omega) (by decide) rfl ?_
    refine v_istore_n C dXA_drop_26 rfl (by decide) ?_
    refine v_aload_n C dXA_drop_27 rfl rfl ?_
    refine v_getR (k := 0) (q := 0) C dXA_drop_28 (by show (0 : Nat) < 383; decide) rfl rfl (by decide) rfl inXA lXA_10 rfl ?_
    refine v_getR (k := 1) (q := 0) C dXA_drop_31 (by show (1 : Nat) < 383; decide) rfl rfl (by decide) rfl inXS lXA_85 rfl ?_
    refine v_iload_n C dXA_drop_34 rfl rfl ?_
    refine v_iconst C dXA_drop_35 ?_
    refine v_zast (k := 2) C dXA_drop_36 (by show (2 : Nat) < 383; decide) rfl rfl (by omega) (by decide) (by omega) ?_
    refine v_iload_n C dXA_drop_37 rfl rfl ?_
    exact v_zret C hRt hLk dXA_drop_38 (fN_bool (by omega)) ⟨rfl, rfl⟩
  · exfalso; omega
set_option maxRecDepth 100000 in
set_option maxHeartbeats 4000000 in
/-- length -/
theorem kX_XA_length (l : Launch) (D : va_G) (cA : Nat → ClassId) (ad : Nat → Nat) (hJ : f_J (xG D cA ad)) (σ : fS) (n : Int) (hn : 1 ≤ n ∧ n ≤ 40) (h2 : ∀ i, 0 ≤ σ.2 2 i ∧ σ.2 2 i ≤ 1) : f_M l (xG D cA ad) (xE (xG D cA ad)) yXA_length (Cond.code yXA_length cXA_length 2 (some .int) :: A9) 1 σ [.ref (ad 0), .int (fI n)] (f_QI (fun r σ1 => r = (if σ.2 2 n.toNat = 1 then σ.2 4 n.toNat else -1) ∧ σ1 = σ) (xG D cA ad)) := by
  refine f_enter (by decide +kernel) hJ rfl (Nat.le_of_ble_eq_true rfl) ?_
  intro z hzl hR C hRt hLk hEz
  subst hzl
  have hRR : 1 ≤ z.2.2.2.1.frames ∧ 40 * 1 ≤ z.2.2.2.1.locals ∧ 0 ≤ z.2.2.2.1.cells ∧ 0 ≤ z.2.2.2.1.slots := by rw [hR]; exact ⟨Nat.le_refl _, Nat.le_refl _, Nat.zero_le _, Nat.zero_le _⟩
  refine v_iload_n C dXA_length_0 rfl rfl ?_
  refine v_cSI (n := 1) C (xE_ok _) hEz hR (kX_XA_isNumber _ D cA ad hJ σ (n) (by omega)) dXA_length_1 gXA_55 (by decide +kernel) (by decide) (by decide) rfl (Nat.le_of_ble_eq_true rfl) rfl ⟨rfl, rfl⟩ (fun r1 σ1 hp1 => ?_)
  obtain ⟨e1, e2⟩ := hp1
  subst σ1
  rw [if_pos (by omega)] at e1
  subst r1
  refine v_if_ne (tgt := 17) C dXA_length_4 (by decide) (by omega) (fun hc1 => ?_) (fun hc1 => ?_)
  · refine v_aload_n C dXA_length_17 rfl rfl ?_
    refine v_getR (k := 0) (q := 0) C dXA_length_18 (by show (0 : Nat) < 383; decide) rfl rfl (by decide) rfl inXA lXA_10 rfl ?_
    refine v_getR (k := 1) (q := 0) C dXA_length_21 (by show (1 : Nat) < 383; decide) rfl rfl (by decide) rfl inXS lXA_85 rfl ?_
    refine v_iload_n C dXA_length_24 rfl rfl ?_
    have hb2 := h2 (n).toNat
    refine v_zald (k := 2) (v := σ.2 2 (n).toNat) C dXA_length_25 (by show (2 : Nat) < 383; decide) rfl rfl (by omega) (by decide) rfl ?_
    refine v_if_eq (tgt := 41) C dXA_length_26 (by decide) (by omega) (fun hc3 => ?_) (fun hc3 => ?_)
    · refine v_iconst C dXA_length_41 ?_
      exact v_iret C hRt hLk dXA_length_42 ⟨by first | rw [if_pos (by omega)] | rw [if_neg (by omega)], rfl⟩
    · refine v_aload_n C dXA_length_29 rfl rfl ?_
      refine v_getR (k := 0) (q := 0) C dXA_length_30 (by show (0 : Nat) < 383; decide) rfl rfl (by decide) rfl inXA lXA_10 rfl ?_
      refine v_getR (k := 1) (q := 2) C dXA_length_33 (by show (1 : Nat) < 383; decide) rfl rfl (by decide) rfl inXS lXA_181 rfl ?_
      refine v_iload_n C dXA_length_36 rfl rfl ?_
      refine v_iald (k := 4) (v := σ.2 4 (n).toNat) C dXA_length_37 (by show (4 : Nat) < 383; decide) rfl rfl (by omega) (by decide) rfl ?_
      refine v_goto (tgt := 42) C dXA_length_38 (by decide) ?_
      exact v_iret C hRt hLk dXA_length_42 ⟨by first | rw [if_pos (by omega)] | rw [if_neg (by omega)], rfl⟩
  · exfalso; omega
set_option maxRecDepth 100000 in
set_option maxHeartbeats 4000000 in
/-- first -/
theorem kX_XA_first (l : Launch) (D : va_G) (cA : Nat → ClassId) (ad : Nat → Nat) (hJ : f_J (xG D cA ad)) (σ : fS) (n on : Int) (ho : on = 0 ∨ on = 1) (h2 : ∀ i, 0 ≤ σ.2 2 i ∧ σ.2 2 i ≤ 1) (h3 : ∀ i, 0 ≤ σ.2 3 i ∧ σ.2 3 i ≤ 1) (hg : (1 ≤ n ∧ n ≤ 40) ∧ σ.2 2 n.toNat = 1) : f_M l (xG D cA ad) (xE (xG D cA ad)) yXA_first (Cond.code yXA_first cXA_first 4 (some .boolean) :: A9) 2 σ [.ref (ad 0), .int (fI n), .int (fI on)] (f_QI (fun r σ1 => r = (if σ.2 3 n.toNat = on then 0 else 1) ∧ σ1 = f_p2 σ 3 n.toNat on) (xG D cA ad)) := by
  refine f_enter (by decide +kernel) hJ rfl (Nat.le_of_ble_eq_true rfl) ?_
  intro z hzl hR C hRt hLk hEz
  subst hzl
  have hRR : 2 ≤ z.2.2.2.1.frames ∧ 40 * 2 ≤ z.2.2.2.1.locals ∧ 0 ≤ z.2.2.2.1.cells ∧ 0 ≤ z.2.2.2.1.slots := by rw [hR]; exact ⟨Nat.le_refl _, Nat.le_refl _, Nat.zero_le _, Nat.zero_le _⟩
  refine v_aload_n C dXA_first_0 rfl rfl ?_
  refine v_getR (k := 0) (q := 0) C dXA_first_1 (by show (0 : Nat) < 383; decide) rfl rfl (by decide) rfl inXA lXA_10 rfl ?_
  refine v_iload_n C dXA_first_4 rfl rfl ?_
  refine v_cVI (k := 1) (n := 1) C (xE_ok _) hEz hR (kX_XS_hasObject _ D cA ad hJ σ (n) (by omega) h2) dXA_first_5 (by show (1 : Nat) < 383; decide) rfl rfl gXA_89 (by decide +kernel) (by decide) (by decide) rfl (Nat.le_of_ble_eq_true rfl) rfl ⟨rfl, rfl⟩ (fun r1 σ1 hp1 => ?_)
  obtain ⟨e1, e2⟩ := hp1
  subst σ1
  rw [if_pos hg] at e1
  subst r1
  refine v_if_ne (tgt := 21) C dXA_first_8 (by decide) (by omega) (fun hc1 => ?_) (fun hc1 => ?_)
  · refine v_aload_n C dXA_first_21 rfl rfl ?_
    refine v_getR (k := 0) (q := 0) C dXA_first_22 (by show (0 : Nat) < 383; decide) rfl rfl (by decide) rfl inXA lXA_10 rfl ?_
    refine v_getR (k := 1) (q := 1) C dXA_first_25 (by show (1 : Nat) < 383; decide) rfl rfl (by decide) rfl inXS lXA_92 rfl ?_
    refine v_iload_n C dXA_first_28 rfl rfl ?_
    have hb2 := h3 (n).toNat
    refine v_zald (k := 3) (v := σ.2 3 (n).toNat) C dXA_first_29 (by show (3 : Nat) < 383; decide) rfl rfl (by omega) (by decide) rfl ?_
    refine v_istore_n C dXA_first_30 rfl (by decide) ?_
    refine v_aload_n C dXA_first_31 rfl rfl ?_
    refine v_getR (k := 0) (q := 0) C dXA_first_32 (by show (0 : Nat) < 383; decide) rfl rfl (by decide) rfl inXA lXA_10 rfl ?_
    refine v_getR (k := 1) (q := 1) C dXA_first_35 (by show (1 : Nat) < 383; decide) rfl rfl (by decide) rfl inXS lXA_92 rfl ?_
    refine v_iload_n C dXA_first_38 rfl rfl ?_
    refine v_iload_n C dXA_first_39 rfl rfl ?_
    refine v_zast (k := 3) C dXA_first_40 (by show (3 : Nat) < 383; decide) rfl rfl (by omega) (by decide) (by omega) ?_
    refine v_iload_n C dXA_first_41 rfl rfl ?_
    refine v_iload_n C dXA_first_42 rfl rfl ?_
    refine v_icmp_eq (tgt := 50) C dXA_first_43 (by decide) (by omega) (by omega) (fun hc3 => ?_) (fun hc3 => ?_)
    · refine v_iconst C dXA_first_50 ?_
      exact v_zret C hRt hLk dXA_first_51 (fN_bool (by omega)) ⟨by first | rw [if_pos (by omega)] | rw [if_neg (by omega)], rfl⟩
    · refine v_iconst C dXA_first_46 ?_
      refine v_goto (tgt := 51) C dXA_first_47 (by decide) ?_
      exact v_zret C hRt hLk dXA_first_51 (fN_bool (by omega)) ⟨by first | rw [if_pos (by omega)] | rw [if_neg (by omega)], rfl⟩
  · exfalso; omega
set_option maxRecDepth 100000 in
set_option maxHeartbeats 4000000 in
/-- poke -/
theorem kX_XA_poke (l : Launch) (D : va_G) (cA : Nat → ClassId) (ad : Nat → Nat) (hJ : f_J (xG D cA ad)) (σ : fS) (i b : Int) (hb : -128 ≤ b ∧ b ≤ 127) (hc : 0 ≤ σ.1 8 1 ∧ σ.1 8 1 ≤ 12000) (h9 : ∀ i, -128 ≤ σ.2 9 i ∧ σ.2 9 i ≤ 127) (hg : 0 ≤ i ∧ i < σ.1 8 1) : f_M l (xG D cA ad) (xE (xG D cA ad)) yXA_poke (Cond.code yXA_poke cXA_poke 4 (some .byte) :: A9) 1 σ [.ref (ad 0), .int (fI i), .int (fI b)] (f_QI (fun r σ1 => r = σ.2 9 i.toNat ∧ σ1 = f_p1 (f_p2 σ 9 i.toNat b) 8 2 1) (xG D cA ad)) := by
  refine f_enter (by decide +kernel) hJ rfl (Nat.le_of_ble_eq_true rfl) ?_
  intro z hzl hR C hRt hLk hEz
  subst hzl
  have hRR : 1 ≤ z.2.2.2.1.frames ∧ 40 * 1 ≤ z.2.2.2.1.locals ∧ 0 ≤ z.2.2.2.1.cells ∧ 0 ≤ z.2.2.2.1.slots := by rw [hR]; exact ⟨Nat.le_refl _, Nat.le_refl _, Nat.zero_le _, Nat.zero_le _⟩
  refine v_aload_n C dXA_poke_0 rfl rfl ?_
  refine v_getR (k := 0) (q := 1) C dXA_poke_1 (by show (0 : Nat) < 383; decide) rfl rfl (by decide) rfl inXA lXA_19 rfl ?_
  refine v_iload_n C dXA_poke_4 rfl rfl ?_
  refine v_cVI (k := 8) (n := 1) C (xE_ok _) hEz hR (kX_XF_has _ D cA ad hJ σ (i) (by omega) hc) dXA_poke_5 (by show (8 : Nat) < 383; decide) rfl rfl gXA_159 (by decide +kernel) (by decide) (by decide) rfl (Nat.le_of_ble_eq_true rfl) rfl ⟨rfl, rfl⟩ (fun r1 σ1 hp1 => ?_)
  obtain ⟨e1, e2⟩ := hp1
  subst σ1
  rw [if_pos (by omega)] at e1
  subst r1
  refine v_if_ne (tgt := 21) C dXA_poke_8 (by decide) (by omega) (fun hc1 => ?_) (fun hc1 => ?_)
  · refine v_aload_n C dXA_poke_21 rfl rfl ?_
    refine v_getR (k := 0) (q := 1) C dXA_poke_22 (by show (0 : Nat) < 383; decide) rfl rfl (by decide) rfl inXA lXA_19 rfl ?_
    refine v_getR (k := 8) (q := 0) C dXA_poke_25 (by show (8 : Nat) < 383; decide) rfl rfl (by decide) rfl inXF lXA_164 rfl ?_
    refine v_iload_n C dXA_poke_28 rfl rfl ?_
    have hb2 := h9 (i).toNat
    refine v_bald (k := 9) (v := σ.2 9 (i).toNat) C dXA_poke_29 (by show (9 : Nat) < 383; decide) rfl rfl (by omega) (by decide) rfl ?_
    refine v_istore_n C dXA_poke_30 rfl (by decide) ?_
    refine v_aload_n C dXA_poke_31 rfl rfl ?_
    refine v_getR (k := 0) (q := 1) C dXA_poke_32 (by show (0 : Nat) < 383; decide) rfl rfl (by decide) rfl inXA lXA_19 rfl ?_
    refine v_getR (k := 8) (q := 0) C dXA_poke_35 (by show (8 : Nat) < 383; decide) rfl rfl (by decide) rfl inXF lXA_164 rfl ?_
    refine v_iload_n C dXA_poke_38 rfl rfl ?_
    refine v_iload_n C dXA_poke_39 rfl rfl ?_
    refine v_bast (k := 9) C dXA_poke_40 (by show (9 : Nat) < 383; decide) rfl rfl (by omega) (by decide) (by omega) ?_
    refine v_aload_n C dXA_poke_41 rfl rfl ?_
    refine v_getR (k := 0) (q := 1) C dXA_poke_42 (by show (0 : Nat) < 383; decide) rfl rfl (by decide) rfl inXA lXA_19 rfl ?_
    refine v_iconst C dXA_poke_45 ?_
    refine v_putI (k := 8) (q := 2) C dXA_poke_46 (by show (8 : Nat) < 383; decide) rfl rfl (by decide) rfl inXF tyXF_ok nmXF lXA_132 rfl rfl rfl (fN_bool (by omega)) (fF_bool (by omega)) ?_
    refine v_iload_n C dXA_poke_49 rfl rfl ?_
    exact v_zret C hRt hLk dXA_poke_50 (fN_byte (by omega) (by omega)) ⟨rfl, rfl⟩
  · exfalso; omega
set_option maxRecDepth 100000 in
set_option maxHeartbeats 4000000 in
/-- at -/
theorem kX_XA_at (l : Launch) (D : va_G) (cA : Nat → ClassId) (ad : Nat → Nat) (hJ : f_J (xG D cA ad)) (σ : fS) (i : Int) (hc : 0 ≤ σ.1 8 1 ∧ σ.1 8 1 ≤ 12000) (h9 : ∀ i, -128 ≤ σ.2 9 i ∧ σ.2 9 i ≤ 127) (hg : 0 ≤ i ∧ i < σ.1 8 1) : f_M l (xG D cA ad) (xE (xG D cA ad)) yXA_at (Cond.code yXA_at cXA_at 2 (some .byte) :: A9) 1 σ [.ref (ad 0), .int (fI i)] (f_QI (fun r σ1 => r = σ.2 9 i.toNat ∧ σ1 = σ) (xG D cA ad)) := by
  refine f_enter (by decide +kernel) hJ rfl (Nat.le_of_ble_eq_true rfl) ?_
  intro z hzl hR C hRt hLk hEz
  subst hzl
  have hRR : 1 ≤ z.2.2.2.1.frames ∧ 40 * 1 ≤ z.2.2.2.1.locals ∧ 0 ≤ z.2.2.2.1.cells ∧ 0 ≤ z.2.2.2.1.slots := by rw [hR]; exact ⟨Nat.le_refl _, Nat.le_refl _, Nat.zero_le _, Nat.zero_le _⟩
  refine v_aload_n C dXA_at_0 rfl rfl ?_
  refine v_getR (k := 0) (q := 1) C dXA_at_1 (by show (0 : Nat) < 383; decide) rfl rfl (by decide) rfl inXA lXA_19 rfl ?_
  refine v_iload_n C dXA_at_4 rfl rfl ?_
  refine v_cVI (k := 8) (n := 1) C (xE_ok _) hEz hR (kX_XF_has _ D cA ad hJ σ (i) (by omega) hc) dXA_at_5 (by show (8 : Nat) < 383; decide) rfl rfl gXA_159 (by decide +kernel) (by decide) (by decide) rfl (Nat.le_of_ble_eq_true rfl) rfl ⟨rfl, rfl⟩ (fun r1 σ1 hp1 => ?_)
  obtain ⟨e1, e2⟩ := hp1
  subst σ1
  rw [if_pos (by omega)] at e1
  subst r1
  refine v_if_ne (tgt := 21) C dXA_at_8 (by decide) (by omega) (fun hc1 => ?_) (fun hc1 => ?_)
  · refine v_aload_n C dXA_at_21 rfl rfl ?_
    refine v_getR (k := 0) (q := 1) C dXA_at_22 (by show (0 : Nat) < 383; decide) rfl rfl (by decide) rfl inXA lXA_19 rfl ?_
    refine v_getR (k := 8) (q := 0) C dXA_at_25 (by show (8 : Nat) < 383; decide) rfl rfl (by decide) rfl inXF lXA_164 rfl ?_
    refine v_iload_n C dXA_at_28 rfl rfl ?_
    have hb2 := h9 (i).toNat
    refine v_bald (k := 9) (v := σ.2 9 (i).toNat) C dXA_at_29 (by show (9 : Nat) < 383; decide) rfl rfl (by omega) (by decide) rfl ?_
    exact v_zret C hRt hLk dXA_at_30 (fN_byte (by omega) (by omega)) ⟨rfl, rfl⟩
  · exfalso; omega
set_option maxRecDepth 100000 in
set_option maxHeartbeats 4000000 in
/-- size -/
theorem kX_XA_size (l : Launch) (D : va_G) (cA : Nat → ClassId) (ad : Nat → Nat) (hJ : f_J (xG D cA ad)) (σ : fS) (i : Int) (hc : 0 ≤ σ.1 10 1 ∧ σ.1 10 1 ≤ 60) (hg : 0 ≤ i ∧ i < σ.1 10 1) : f_M l (xG D cA ad) (xE (xG D cA ad)) yXA_size (Cond.code yXA_size cXA_size 2 (some .int) :: A9) 1 σ [.ref (ad 0), .int (fI i)] (f_QI (fun r σ1 => r = σ.1 (12 + 3 * i.toNat) 3 ∧ σ1 = σ) (xG D cA ad)) := by
  refine f_enter (by decide +kernel) hJ rfl (Nat.le_of_ble_eq_true rfl) ?_
  intro z hzl hR C hRt hLk hEz
  subst hzl
  have hRR : 1 ≤ z.2.2.2.1.frames ∧ 40 * 1 ≤ z.2.2.2.1.locals ∧ 0 ≤ z.2.2.2.1.cells ∧ 0 ≤ z.2.2.2.1.slots := by rw [hR]; exact ⟨Nat.le_refl _, Nat.le_refl _, Nat.zero_le _, Nat.zero_le _⟩
  have hY0 := xY_h0 i.toNat (by omega)
  refine v_aload_n C dXA_size_0 rfl rfl ?_
  refine v_getR (k := 0) (q := 2) C dXA_size_1 (by show (0 : Nat) < 383; decide) rfl rfl (by decide) rfl inXA lXA_26 rfl ?_
  refine v_iload_n C dXA_size_4 rfl rfl ?_
  refine v_cVI (k := 10) (n := 1) C (xE_ok _) hEz hR (kX_XH_has _ D cA ad hJ σ (i) (by omega) hc) dXA_size_5 (by show (10 : Nat) < 383; decide) rfl rfl gXA_168 (by decide +kernel) (by decide) (by decide) rfl (Nat.le_of_ble_eq_true rfl) rfl ⟨rfl, rfl⟩ (fun r1 σ1 hp1 => ?_)
  obtain ⟨e1, e2⟩ := hp1
  subst σ1
  rw [if_pos (by omega)] at e1
  subst r1
  refine v_if_ne (tgt := 21) C dXA_size_8 (by decide) (by omega) (fun hc1 => ?_) (fun hc1 => ?_)
  · refine v_aload_n C dXA_size_21 rfl rfl ?_
    refine v_getR (k := 0) (q := 2) C dXA_size_22 (by show (0 : Nat) < 383; decide) rfl rfl (by decide) rfl inXA lXA_26 rfl ?_
    refine v_getR (k := 10) (q := 0) C dXA_size_25 (by show (10 : Nat) < 383; decide) rfl rfl (by decide) rfl inXH lXA_171 rfl ?_
    refine v_iload_n C dXA_size_28 rfl rfl ?_
    refine v_aald (k := 11) C dXA_size_29 (by show (11 : Nat) < 383; decide) rfl rfl (by omega) (by decide) ?_
    refine v_getI (k := (12 + 3 * (i).toNat)) (q := 3) (v := σ.1 (12 + 3 * (i).toNat) 3) C dXA_size_30 (by show ((12 + 3 * (i).toNat) : Nat) < 383; omega) (hY0) rfl (by decide) rfl inXT lXA_114 rfl rfl ?_
    exact v_iret C hRt hLk dXA_size_33 ⟨rfl, rfl⟩
  · exfalso; omega
set_option maxRecDepth 100000 in
set_option maxHeartbeats 4000000 in
/-- place -/
theorem kX_XA_place (l : Launch) (D : va_G) (cA : Nat → ClassId) (ad : Nat → Nat) (hJ : f_J (xG D cA ad)) (σ : fS) (i n : Int) (hc : 0 ≤ σ.1 10 1 ∧ σ.1 10 1 ≤ 60) (hg : 0 ≤ i ∧ i < σ.1 10 1) (hn : 1 ≤ n ∧ n ≤ 40) : f_M l (xG D cA ad) (xE (xG D cA ad)) yXA_place (Cond.code yXA_place cXA_place 3 (some .int) :: A9) 1 σ [.ref (ad 0), .int (fI i), .int (fI n)] (f_QI (fun r σ1 => r = σ.2 (12 + 3 * i.toNat + 1) n.toNat ∧ σ1 = σ) (xG D cA ad)) := by
  refine f_enter (by decide +kernel) hJ rfl (Nat.le_of_ble_eq_true rfl) ?_
  intro z hzl hR C hRt hLk hEz
  subst hzl
  have hRR : 1 ≤ z.2.2.2.1.frames ∧ 40 * 1 ≤ z.2.2.2.1.locals ∧ 0 ≤ z.2.2.2.1.cells ∧ 0 ≤ z.2.2.2.1.slots := by rw [hR]; exact ⟨Nat.le_refl _, Nat.le_refl _, Nat.zero_le _, Nat.zero_le _⟩
  have hY0 := xY_h0 i.toNat (by omega)
  have hY1 := xY_h1 i.toNat (by omega)
  refine v_aload_n C dXA_place_0 rfl rfl ?_
  refine v_getR (k := 0) (q := 2) C dXA_place_1 (by show (0 : Nat) < 383; decide) rfl rfl (by decide) rfl inXA lXA_26 rfl ?_
  refine v_iload_n C dXA_place_4 rfl rfl ?_
  refine v_cVI (k := 10) (n := 1) C (xE_ok _) hEz hR (kX_XH_has _ D cA ad hJ σ (i) (by omega) hc) dXA_place_5 (by show (10 : Nat) < 383; decide) rfl rfl gXA_168 (by decide +kernel) (by decide) (by decide) rfl (Nat.le_of_ble_eq_true rfl) rfl ⟨rfl, rfl⟩ (fun r1 σ1 hp1 => ?_)
  obtain ⟨e1, e2⟩ := hp1
  subst σ1
  rw [if_pos (by omega)] at e1
  subst r1
  refine v_if_eq (tgt := 18) C dXA_place_8 (by decide) (by omega) (fun hc1 => ?_) (fun hc1 => ?_)
  · exfalso; omega
  · refine v_iload_n C dXA_place_11 rfl rfl ?_
    refine v_cSI (n := 1) C (xE_ok _) hEz hR (kX_XA_isNumber _ D cA ad hJ σ (n) (by omega)) dXA_place_12 gXA_55 (by decide +kernel) (by decide) (by decide) rfl (Nat.le_of_ble_eq_true rfl) rfl ⟨rfl, rfl⟩ (fun r1 σ1 hp1 => ?_)
    obtain ⟨e1, e2⟩ := hp1
    subst σ1
    rw [if_pos (by omega)] at e1
    subst r1
    refine v_if_ne (tgt := 28) C dXA_place_15 (by decide) (by omega) (fun hc2 => ?_) (fun hc2 => ?_)
    · refine v_aload_n C dXA_place_28 rfl rfl ?_
      refine v_getR (k := 0) (q := 2) C dXA_place_29 (by show (0 : Nat) < 383; decide) rfl rfl (by decide) rfl inXA lXA_26 rfl ?_
      refine v_getR (k := 10) (q := 0) C dXA_place_32 (by show (10 : Nat) < 383; decide) rfl rfl (by decide) rfl inXH lXA_171 rfl ?_
      refine v_iload_n C dXA_place_35 rfl rfl ?_
      refine v_aald (k := 11) C dXA_place_36 (by show (11 : Nat) < 383; decide) rfl rfl (by omega) (by decide) ?_
      refine v_getR (k := (12 + 3 * (i).toNat)) (q := 0) C dXA_place_37 (by show ((12 + 3 * (i).toNat) : Nat) < 383; omega) (hY0) rfl (by decide) rfl inXT lXA_191 rfl ?_
      refine v_iload_n C dXA_place_40 rfl rfl ?_
      refine v_iald (k := ((12 + 3 * (i).toNat) + 1)) (v := σ.2 ((12 + 3 * (i).toNat) + 1) (n).toNat) C dXA_place_41 (by show (((12 + 3 * (i).toNat) + 1) : Nat) < 383; omega) (hY1) rfl (by omega) (by decide) rfl ?_
      exact v_iret C hRt hLk dXA_place_42 ⟨rfl, rfl⟩
    · exfalso; omega
set_option maxRecDepth 100000 in
set_option maxHeartbeats 4000000 in
/-- row -/
theorem kX_XA_row (l : Launch) (D : va_G) (cA : Nat → ClassId) (ad : Nat → Nat) (hJ : f_J (xG D cA ad)) (σ : fS) (i w : Int) (hc : 0 ≤ σ.1 380 2 ∧ σ.1 380 2 ≤ 40) (hg : 0 ≤ i ∧ i < σ.1 380 2) (hw : 0 ≤ w ∧ w ≤ 1) : f_M l (xG D cA ad) (xE (xG D cA ad)) yXA_row (Cond.code yXA_row cXA_row 3 (some .int) :: A9) 0 σ [.ref (ad 0), .int (fI i), .int (fI w)] (f_QI (fun r σ1 => r = (if w = 0 then σ.2 381 i.toNat else σ.2 382 i.toNat) ∧ σ1 = σ) (xG D cA ad)) := by
  refine f_enter (by decide +kernel) hJ rfl (Nat.le_of_ble_eq_true rfl) ?_
  intro z hzl hR C hRt hLk hEz
  subst hzl
  have hRR : 0 ≤ z.2.2.2.1.frames ∧ 40 * 0 ≤ z.2.2.2.1.locals ∧ 0 ≤ z.2.2.2.1.cells ∧ 0 ≤ z.2.2.2.1.slots := by rw [hR]; exact ⟨Nat.le_refl _, Nat.le_refl _, Nat.zero_le _, Nat.zero_le _⟩
  refine v_iload_n C dXA_row_0 rfl rfl ?_
  refine v_if_lt (tgt := 24) C dXA_row_1 (by decide) (by omega) (fun hc1 => ?_) (fun hc1 => ?_)
  · exfalso; omega
  · refine v_iload_n C dXA_row_4 rfl rfl ?_
    refine v_aload_n C dXA_row_5 rfl rfl ?_
    refine v_getR (k := 0) (q := 5) C dXA_row_6 (by show (0 : Nat) < 383; decide) rfl rfl (by decide) rfl inXA lXA_51 rfl ?_
    refine v_getI (k := 380) (q := 2) (v := σ.1 380 2) C dXA_row_9 (by show (380 : Nat) < 383; decide) rfl rfl (by decide) rfl inXG lXA_198 rfl rfl ?_
    refine v_icmp_ge (tgt := 24) C dXA_row_12 (by decide) (by omega) (by omega) (fun hc2 => ?_) (fun hc2 => ?_)
    · exfalso; omega
    · refine v_iload_n C dXA_row_15 rfl rfl ?_
      refine v_if_lt (tgt := 24) C dXA_row_16 (by decide) (by omega) (fun hc3 => ?_) (fun hc3 => ?_)
      · exfalso; omega
      · refine v_iload_n C dXA_row_19 rfl rfl ?_
        refine v_iconst C dXA_row_20 ?_
        refine v_icmp_le (tgt := 34) C dXA_row_21 (by decide) (by omega) (by omega) (fun hc4 => ?_) (fun hc4 => ?_)
        · refine v_iload_n C dXA_row_34 rfl rfl ?_
          refine v_if_ne (tgt := 50) C dXA_row_35 (by decide) (by omega) (fun hc5 => ?_) (fun hc5 => ?_)
          · refine v_aload_n C dXA_row_50 rfl rfl ?_
            refine v_getR (k := 0) (q := 5) C dXA_row_51 (by show (0 : Nat) < 383; decide) rfl rfl (by decide) rfl inXA lXA_51 rfl ?_
            refine v_getR (k := 380) (q := 1) C dXA_row_54 (by show (380 : Nat) < 383; decide) rfl rfl (by decide) rfl inXG lXA_204 rfl ?_
            refine v_iload_n C dXA_row_57 rfl rfl ?_
            refine v_iald (k := 382) (v := σ.2 382 (i).toNat) C dXA_row_58 (by show (382 : Nat) < 383; decide) rfl rfl (by omega) (by decide) rfl ?_
            exact v_iret C hRt hLk dXA_row_59 ⟨by first | rw [if_pos (by omega)] | rw [if_neg (by omega)], rfl⟩
          · refine v_aload_n C dXA_row_38 rfl rfl ?_
            refine v_getR (k := 0) (q := 5) C dXA_row_39 (by show (0 : Nat) < 383; decide) rfl rfl (by decide) rfl inXA lXA_51 rfl ?_
            refine v_getR (k := 380) (q := 0) C dXA_row_42 (by show (380 : Nat) < 383; decide) rfl rfl (by decide) rfl inXG lXA_201 rfl ?_
            refine v_iload_n C dXA_row_45 rfl rfl ?_
            refine v_iald (k := 381) (v := σ.2 381 (i).toNat) C dXA_row_46 (by show (381 : Nat) < 383; decide) rfl rfl (by omega) (by decide) rfl ?_
            refine v_goto (tgt := 59) C dXA_row_47 (by decide) ?_
            exact v_iret C hRt hLk dXA_row_59 ⟨by first | rw [if_pos (by omega)] | rw [if_neg (by omega)], rfl⟩
        · exfalso; omega
