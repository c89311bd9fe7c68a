theorem m_puts_p2 (l : List Int) : ∀ (σ : fS) (k i : Nat) (v : Int), k ≠ 7 → f_p2 (m_puts σ l) k i v = m_puts (f_p2 σ k i v) l := by
  induction l with
  | nil => intro σ k i v _; rfl
  | cons x r ih =>
    intro σ k i v hk
    rw [m_puts_cons, m_puts_cons, ih _ _ _ _ hk]
    congr 1
    refine fS_ext (fun a b => ?_) (fun a b => ?_)
    · rw [p2_1, m_put_1, m_put_1, p2_1]
    · rw [p2_2, m_put_2, m_put_2, p2_2, p2_1]
      by_cases h1 : a = k ∧ b = i
      · rw [if_pos h1, if_pos h1, if_neg (by omega)]
      · rw [if_neg h1, if_neg h1]
/-- a record of object n: its line, its bytes -/
def m_hdr (σ : fS) (n : Int) : List Int := [111, 32] ++ dig n ++ [32] ++ dig (σ.2 5 n.toNat) ++ [10]
def m_byt (σ : fS) (n : Int) (k : Nat) : List Int := (List.range k).map (fun (j : Nat) => σ.2 6 (120 * n + (j : Int)).toNat)
def m_rec (σ : fS) (n : Int) : List Int := m_hdr σ n ++ m_byt σ n (σ.2 5 n.toNat).toNat ++ [10]
theorem m_hdr_len (σ : fS) (n : Int) : (m_hdr σ n).length = (dig n).length + (dig (σ.2 5 n.toNat)).length + 4 := by
  unfold m_hdr
  simp
  omega
theorem m_byt_len (σ : fS) (n : Int) (k : Nat) : (m_byt σ n k).length = k := by simp [m_byt]
theorem m_rec_len (σ : fS) (n : Int) : (m_rec σ n).length = (dig n).length + (dig (σ.2 5 n.toNat)).length + (σ.2 5 n.toNat).toNat + 5 := by
  unfold m_rec
  rw [List.length_append, List.length_append, m_hdr_len, m_byt_len]
  simp
  omega
theorem m_byt_s (σ : fS) (n : Int) (k : Nat) : m_byt σ n (k + 1) = m_byt σ n k ++ [σ.2 6 (120 * n + (k : Int)).toNat] := by
  unfold m_byt
  rw [List.range_succ, List.map_append]
  rfl
/-- where a record lies is kept -/
def m_r0 (σ : fS) (n : Int) : fS := f_p2 (f_p2 σ 13 n.toNat (σ.1 0 16)) 14 n.toNat (σ.1 0 16 + (m_hdr σ n).length)
set_option maxRecDepth 100000 in
set_option maxHeartbeats 4000000 in
/-- putRecord(n) -/
theorem kM_putRecord (l : Launch) (xCl : List vw_C) (D : va_G) (cA : Nat → ClassId) (ad : Nat → Nat) (hJ : f_J (mG xCl D cA ad)) (σ : fS) (n : Int) (hn1 : 1 ≤ n ∧ n ≤ 40) (h5 : ∀ i, 0 ≤ σ.2 5 i ∧ σ.2 5 i ≤ 120) (h6 : ∀ i, -128 ≤ σ.2 6 i ∧ σ.2 6 i ≤ 127) (hn : 0 ≤ σ.1 0 16 ∧ σ.1 0 16 ≤ 700000) (hc : σ.1 0 17 = 0 ∨ σ.1 0 17 = 1) (hf : σ.1 0 17 = 0 → σ.1 0 16 + (m_rec σ n).length ≤ 12000) : f_M l (mG xCl D cA ad) mE yM_putRecord (Cond.code yM_putRecord cM_putRecord 3 none :: A9) 2 σ [.ref (ad 0), .int (fI n)] (f_QV (fun σ1 => σ1 = m_puts (m_r0 σ n) (m_rec σ n)) (mG xCl D cA ad)) := by
  refine f_enter (by decide +kernel) hJ rfl (Nat.le_of_ble_eq_true rfl) ?_
  intro z hzl hR C hRt hLk hEz
  subst hzl
  have hsz := h5 n.toNat
  have hd1 := dig_len n
  have hd2 := dig_len (σ.2 5 n.toNat)
  have hrl := m_rec_len σ n
  have hhl := m_hdr_len σ n
  have L : ∀ (m k : Nat), m + k = (σ.2 5 n.toNat).toNat → fv z (mG xCl D cA ad) 3 (f_R z (mG xCl D cA ad) (f_QV (fun σ1 => σ1 = m_puts (m_r0 σ n) (m_rec σ n)) (mG xCl D cA ad))) 0 0 (m_puts (m_r0 σ n) (m_hdr σ n ++ m_byt σ n k)) 61 [some (.ref (ad 0)), some (.int (fI n)), some (.int (fI ((k : Int))))] [] := by
    intro m
    induction m with
    | zero =>
      intro k hk
      have hb := h6 (120 * n + (k : Int)).toNat
      have hkk : k = (σ.2 5 n.toNat).toNat := by omega
      refine v_iload_n C dM_putRecord_61 rfl rfl ?_
      refine v_aload_n C dM_putRecord_62 rfl rfl ?_
      refine v_getR (k := 0) (q := 5) C dM_putRecord_63 (by show (0 : Nat) < 18; decide) rfl rfl (by decide) rfl inM lM_22 rfl ?_
      refine v_iload_n C dM_putRecord_66 rfl rfl ?_
      refine v_iald (k := 5) (v := σ.2 5 (n).toNat) C dM_putRecord_67 (by show (5 : Nat) < 18; decide) rfl rfl (by omega) (by decide) ((m_puts_2 _ _ _ _ (by decide)).trans rfl) ?_
      refine v_icmp_ge (tgt := 92) C dM_putRecord_68 (by decide) (by omega) (by omega) (fun hc1 => ?_) (fun hc1 => ?_)
      · refine v_aload_n C dM_putRecord_92 rfl rfl ?_
        refine v_bipush C dM_putRecord_93 (by decide +kernel) ?_
        have hx2 := m_puts_next (m_r0 σ n) (m_hdr σ n ++ m_byt σ n k)
        try simp only [List.length_append, List.length_cons, List.length_nil, m_byt_len] at hx2
        have hy3 := m_puts_cnt (m_r0 σ n) (m_hdr σ n ++ m_byt σ n k)
        change _ = σ.1 0 17 at hy3
        change _ = σ.1 0 16 + _ at hx2
        refine v_cVV (k := 0) (n := 1) C (mE_ok _) trivial hR (kM_put _ xCl D cA ad hJ (m_puts (m_r0 σ n) (m_hdr σ n ++ m_byt σ n k)) (10) (by omega) (by omega) (by omega) (by omega)) dM_putRecord_95 (by show (0 : Nat) < 18; decide) rfl rfl gM_85 (by decide +kernel) (by decide) (by decide) rfl (Nat.le_of_ble_eq_true rfl) rfl ⟨rfl, rfl⟩ (fun σ1 hp1 => ?_)
        subst σ1
        refine v_st (σ1 := m_puts (m_r0 σ n) (m_hdr σ n ++ m_byt σ n k ++ [10])) (m_puts_snoc _ _ _) ?_
        exact v_vret C hRt hLk dM_putRecord_98 (by unfold m_rec; rw [hkk])
      · exfalso; omega
    | succ m ih =>
      intro k hk
      have hb := h6 (120 * n + (k : Int)).toNat
      refine v_iload_n C dM_putRecord_61 rfl rfl ?_
      refine v_aload_n C dM_putRecord_62 rfl rfl ?_
      refine v_getR (k := 0) (q := 5) C dM_putRecord_63 (by show (0 : Nat) < 18; decide) rfl rfl (by decide) rfl inM lM_22 rfl ?_
      refine v_iload_n C dM_putRecord_66 rfl rfl ?_
      refine v_iald (k := 5) (v := σ.2 5 (n).toNat) C dM_putRecord_67 (by show (5 : Nat) < 18; decide) rfl rfl (by omega) (by decide) ((m_puts_2 _ _ _ _ (by decide)).trans rfl) ?_
      refine v_icmp_ge (tgt := 92) C dM_putRecord_68 (by decide) (by omega) (by omega) (fun hc4 => ?_) (fun hc4 => ?_)
      · exfalso; omega
      · refine v_aload_n C dM_putRecord_71 rfl rfl ?_
        refine v_aload_n C dM_putRecord_72 rfl rfl ?_
        refine v_getR (k := 0) (q := 6) C dM_putRecord_73 (by show (0 : Nat) < 18; decide) rfl rfl (by decide) rfl inM lM_26 rfl ?_
        refine v_bipush C dM_putRecord_76 (by decide +kernel) ?_
        refine v_iload_n C dM_putRecord_78 rfl rfl ?_
        refine v_imul C dM_putRecord_79 ?_
        refine v_iload_n C dM_putRecord_80 rfl rfl ?_
        refine v_iadd C dM_putRecord_81 ?_
        refine v_bald (k := 6) (v := σ.2 6 (((120 * n) + (k : Int))).toNat) C dM_putRecord_82 (by show (6 : Nat) < 18; decide) rfl rfl (by omega) (by decide) ((m_puts_2 _ _ _ _ (by decide)).trans rfl) ?_
        have hx5 := m_puts_next (m_r0 σ n) (m_hdr σ n ++ m_byt σ n k)
        try simp only [List.length_append, List.length_cons, List.length_nil, m_byt_len] at hx5
        have hy6 := m_puts_cnt (m_r0 σ n) (m_hdr σ n ++ m_byt σ n k)
        change _ = σ.1 0 17 at hy6
        change _ = σ.1 0 16 + _ at hx5
        refine v_cVV (k := 0) (n := 1) C (mE_ok _) trivial hR (kM_put _ xCl D cA ad hJ (m_puts (m_r0 σ n) (m_hdr σ n ++ m_byt σ n k)) (σ.2 6 (((120 * n) + (k : Int))).toNat) (by omega) (by omega) (by omega) (by omega)) dM_putRecord_83 (by show (0 : Nat) < 18; decide) rfl rfl gM_85 (by decide +kernel) (by decide) (by decide) rfl (Nat.le_of_ble_eq_true rfl) rfl ⟨rfl, rfl⟩ (fun σ1 hp1 => ?_)
        subst σ1
        refine v_st (σ1 := m_puts (m_r0 σ n) (m_hdr σ n ++ m_byt σ n k ++ [σ.2 6 (((120 * n) + (k : Int))).toNat])) (m_puts_snoc _ _ _) ?_
        refine v_iinc C dM_putRecord_86 rfl (by decide) ?_
        refine v_goto (tgt := 61) C dM_putRecord_89 (by decide) ?_
        exact v_st (by rw [m_byt_s, ← List.append_assoc]) (ih (k + 1) (by omega))
  refine v_aload_n C dM_putRecord_0 rfl rfl ?_
  refine v_getR (k := 0) (q := 18) C dM_putRecord_1 (by show (0 : Nat) < 18; decide) rfl rfl (by decide) rfl inM lM_48 rfl ?_
  refine v_iload_n C dM_putRecord_4 rfl rfl ?_
  refine v_aload_n C dM_putRecord_5 rfl rfl ?_
  refine v_getI (k := 0) (q := 16) (v := σ.1 0 16) C dM_putRecord_6 (by show (0 : Nat) < 18; decide) rfl rfl (by decide) rfl inM lM_82 rfl rfl ?_
  refine v_iast (k := 13) C dM_putRecord_9 (by show (13 : Nat) < 18; decide) rfl rfl (by omega) (by decide) ?_
  refine v_st (σ1 := m_puts (f_p2 σ 13 n.toNat (σ.1 0 16)) []) rfl ?_
  refine v_aload_n C dM_putRecord_10 rfl rfl ?_
  refine v_bipush C dM_putRecord_11 (by decide +kernel) ?_
  have hx7 := m_puts_next (f_p2 σ 13 n.toNat (σ.1 0 16)) ([])
  try simp only [List.length_append, List.length_cons, List.length_nil, m_byt_len] at hx7
  have hy8 := m_puts_cnt (f_p2 σ 13 n.toNat (σ.1 0 16)) ([])
  change _ = σ.1 0 17 at hy8
  change _ = σ.1 0 16 + _ at hx7
  refine v_cVV (k := 0) (n := 1) C (mE_ok _) trivial hR (kM_put _ xCl D cA ad hJ (m_puts (f_p2 σ 13 n.toNat (σ.1 0 16)) ([])) (111) (by omega) (by omega) (by omega) (by omega)) dM_putRecord_13 (by show (0 : Nat) < 18; decide) rfl rfl gM_85 (by decide +kernel) (by decide) (by decide) rfl (Nat.le_of_ble_eq_true rfl) rfl ⟨rfl, rfl⟩ (fun σ1 hp1 => ?_)
  subst σ1
  refine v_st (σ1 := m_puts (f_p2 σ 13 n.toNat (σ.1 0 16)) ([111])) (rfl) ?_
  refine v_aload_n C dM_putRecord_16 rfl rfl ?_
  refine v_bipush C dM_putRecord_17 (by decide +kernel) ?_
  have hx9 := m_puts_next (f_p2 σ 13 n.toNat (σ.1 0 16)) ([111])
  try simp only [List.length_append, List.length_cons, List.length_nil, m_byt_len] at hx9
  have hy10 := m_puts_cnt (f_p2 σ 13 n.toNat (σ.1 0 16)) ([111])
  change _ = σ.1 0 17 at hy10
  change _ = σ.1 0 16 + _ at hx9
  refine v_cVV (k := 0) (n := 1) C (mE_ok _) trivial hR (kM_put _ xCl D cA ad hJ (m_puts (f_p2 σ 13 n.toNat (σ.1 0 16)) ([111])) (32) (by omega) (by omega) (by omega) (by omega)) dM_putRecord_19 (by show (0 : Nat) < 18; decide) rfl rfl gM_85 (by decide +kernel) (by decide) (by decide) rfl (Nat.le_of_ble_eq_true rfl) rfl ⟨rfl, rfl⟩ (fun σ1 hp1 => ?_)
  subst σ1
  refine v_st (σ1 := m_puts (f_p2 σ 13 n.toNat (σ.1 0 16)) ([111] ++ [32])) (m_puts_snoc _ _ _) ?_
  refine v_aload_n C dM_putRecord_22 rfl rfl ?_
  refine v_iload_n C dM_putRecord_23 rfl rfl ?_
  have hx11 := m_puts_next (f_p2 σ 13 n.toNat (σ.1 0 16)) ([111] ++ [32])
  try simp only [List.length_append, List.length_cons, List.length_nil, m_byt_len] at hx11
  have hy12 := m_puts_cnt (f_p2 σ 13 n.toNat (σ.1 0 16)) ([111] ++ [32])
  change _ = σ.1 0 17 at hy12
  change _ = σ.1 0 16 + _ at hx11
  have hw13 := dig_len (n)
  refine v_cVV (k := 0) (n := 1) C (mE_ok _) trivial hR (kM_putNumber _ xCl D cA ad hJ (m_puts (f_p2 σ 13 n.toNat (σ.1 0 16)) ([111] ++ [32])) (n) (by omega) (by omega) (by omega) (by omega)) dM_putRecord_24 (by show (0 : Nat) < 18; decide) rfl rfl gM_89 (by decide +kernel) (by decide) (by decide) rfl (Nat.le_of_ble_eq_true rfl) rfl ⟨rfl, rfl⟩ (fun σ1 hp1 => ?_)
  subst σ1
  refine v_st (σ1 := m_puts (f_p2 σ 13 n.toNat (σ.1 0 16)) ([111] ++ [32] ++ dig (n))) ((m_puts_app _ _ _).symm) ?_
  refine v_aload_n C dM_putRecord_27 rfl rfl ?_
  refine v_bipush C dM_putRecord_28 (by decide +kernel) ?_
  have hx14 := m_puts_next (f_p2 σ 13 n.toNat (σ.1 0 16)) ([111] ++ [32] ++ dig (n))
  try simp only [List.length_append, List.length_cons, List.length_nil, m_byt_len] at hx14
  have hy15 := m_puts_cnt (f_p2 σ 13 n.toNat (σ.1 0 16)) ([111] ++ [32] ++ dig (n))
  change _ = σ.1 0 17 at hy15
  change _ = σ.1 0 16 + _ at hx14
  refine v_cVV (k := 0) (n := 1) C (mE_ok _) trivial hR (kM_put _ xCl D cA ad hJ (m_puts (f_p2 σ 13 n.toNat (σ.1 0 16)) ([111] ++ [32] ++ dig (n))) (32) (by omega) (by omega) (by omega) (by omega)) dM_putRecord_30 (by show (0 : Nat) < 18; decide) rfl rfl gM_85 (by decide +kernel) (by decide) (by decide) rfl (Nat.le_of_ble_eq_true rfl) rfl ⟨rfl, rfl⟩ (fun σ1 hp1 => ?_)
  subst σ1
  refine v_st (σ1 := m_puts (f_p2 σ 13 n.toNat (σ.1 0 16)) ([111] ++ [32] ++ dig (n) ++ [32])) (m_puts_snoc _ _ _) ?_
  refine v_aload_n C dM_putRecord_33 rfl rfl ?_
  refine v_aload_n C dM_putRecord_34 rfl rfl ?_
  refine v_getR (k := 0) (q := 5) C dM_putRecord_35 (by show (0 : Nat) < 18; decide) rfl rfl (by decide) rfl inM lM_22 rfl ?_
  refine v_iload_n C dM_putRecord_38 rfl rfl ?_
  refine v_iald (k := 5) (v := σ.2 5 (n).toNat) C dM_putRecord_39 (by show (5 : Nat) < 18; decide) rfl rfl (by omega) (by decide) ((m_puts_2 _ _ _ _ (by decide)).trans rfl) ?_
  have hx16 := m_puts_next (f_p2 σ 13 n.toNat (σ.1 0 16)) ([111] ++ [32] ++ dig (n) ++ [32])
  try simp only [List.length_append, List.length_cons, List.length_nil, m_byt_len] at hx16
  have hy17 := m_puts_cnt (f_p2 σ 13 n.toNat (σ.1 0 16)) ([111] ++ [32] ++ dig (n) ++ [32])
  change _ = σ.1 0 17 at hy17
  change _ = σ.1 0 16 + _ at hx16
  have hw18 := dig_len (σ.2 5 (n).toNat)
  refine v_cVV (k := 0) (n := 1) C (mE_ok _) trivial hR (kM_putNumber _ xCl D cA ad hJ (m_puts (f_p2 σ 13 n.toNat (σ.1 0 16)) ([111] ++ [32] ++ dig (n) ++ [32])) (σ.2 5 (n).toNat) (by omega) (by omega) (by omega) (by omega)) dM_putRecord_40 (by show (0 : Nat) < 18; decide) rfl rfl gM_89 (by decide +kernel) (by decide) (by decide) rfl (Nat.le_of_ble_eq_true rfl) rfl ⟨rfl, rfl⟩ (fun σ1 hp1 => ?_)
  subst σ1
  refine v_st (σ1 := m_puts (f_p2 σ 13 n.toNat (σ.1 0 16)) ([111] ++ [32] ++ dig (n) ++ [32] ++ dig (σ.2 5 (n).toNat))) ((m_puts_app _ _ _).symm) ?_
  refine v_aload_n C dM_putRecord_43 rfl rfl ?_
  refine v_bipush C dM_putRecord_44 (by decide +kernel) ?_
  have hx19 := m_puts_next (f_p2 σ 13 n.toNat (σ.1 0 16)) ([111] ++ [32] ++ dig (n) ++ [32] ++ dig (σ.2 5 (n).toNat))
  try simp only [List.length_append, List.length_cons, List.length_nil, m_byt_len] at hx19
  have hy20 := m_puts_cnt (f_p2 σ 13 n.toNat (σ.1 0 16)) ([111] ++ [32] ++ dig (n) ++ [32] ++ dig (σ.2 5 (n).toNat))
  change _ = σ.1 0 17 at hy20
  change _ = σ.1 0 16 + _ at hx19
  refine v_cVV (k := 0) (n := 1) C (mE_ok _) trivial hR (kM_put _ xCl D cA ad hJ (m_puts (f_p2 σ 13 n.toNat (σ.1 0 16)) ([111] ++ [32] ++ dig (n) ++ [32] ++ dig (σ.2 5 (n).toNat))) (10) (by omega) (by omega) (by omega) (by omega)) dM_putRecord_46 (by show (0 : Nat) < 18; decide) rfl rfl gM_85 (by decide +kernel) (by decide) (by decide) rfl (Nat.le_of_ble_eq_true rfl) rfl ⟨rfl, rfl⟩ (fun σ1 hp1 => ?_)
  subst σ1
  refine v_st (σ1 := m_puts (f_p2 σ 13 n.toNat (σ.1 0 16)) ([111] ++ [32] ++ dig (n) ++ [32] ++ dig (σ.2 5 (n).toNat) ++ [10])) (m_puts_snoc _ _ _) ?_
  refine v_aload_n C dM_putRecord_49 rfl rfl ?_
  refine v_getR (k := 0) (q := 19) C dM_putRecord_50 (by show (0 : Nat) < 18; decide) rfl rfl (by decide) rfl inM lM_51 rfl ?_
  refine v_iload_n C dM_putRecord_53 rfl rfl ?_
  refine v_aload_n C dM_putRecord_54 rfl rfl ?_
  refine v_getI (k := 0) (q := 16) (v := σ.1 0 16 + ([111] ++ [32] ++ dig (n) ++ [32] ++ dig (σ.2 5 (n).toNat) ++ [10] : List Int).length) C dM_putRecord_55 (by show (0 : Nat) < 18; decide) rfl rfl (by decide) rfl inM lM_82 rfl (m_puts_next _ _) ?_
  refine v_iast (k := 14) C dM_putRecord_58 (by show (14 : Nat) < 18; decide) rfl rfl (by omega) (by decide) ?_
  refine v_st (σ1 := m_puts (f_p2 (f_p2 σ 13 n.toNat (σ.1 0 16)) 14 (n).toNat (σ.1 0 16 + ([111] ++ [32] ++ dig (n) ++ [32] ++ dig (σ.2 5 (n).toNat) ++ [10] : List Int).length)) ([111] ++ [32] ++ dig (n) ++ [32] ++ dig (σ.2 5 (n).toNat) ++ [10])) (m_puts_p2 _ _ _ _ _ (by decide)) ?_
  refine v_iconst C dM_putRecord_59 ?_
  refine v_istore_n C dM_putRecord_60 rfl (by decide) ?_
  exact v_st (by unfold m_r0; rw [show m_byt σ n 0 = [] from rfl, List.append_nil]; unfold m_hdr; simp) (L (σ.2 5 n.toNat).toNat 0 (by omega))
