section
/-- two records are alike, by the bytes -/
def m_alike (σ : fS) (a b : Int) : Prop := σ.2 12 a.toNat = σ.2 12 b.toNat ∧ ∀ t : Int, 0 ≤ t → t < σ.2 12 a.toNat → σ.2 7 (σ.2 11 a.toNat + t).toNat = σ.2 7 (σ.2 11 b.toNat + t).toNat
/-- the state but for differ's own rows -/
def m_dfr (σ σ1 : fS) : Prop := (∀ k i, k ≠ 16 → k ≠ 17 → σ1.2 k i = σ.2 k i) ∧ ∀ a b, ¬ (a = 0 ∧ (b = 0 ∨ b = 28 ∨ b = 29)) → σ1.1 a b = σ.1 a b
theorem m_dfr_rf (σ : fS) : m_dfr σ σ := ⟨fun _ _ _ _ => rfl, fun _ _ _ => rfl⟩
theorem m_dfr_p {σ τ : fS} (h : m_dfr σ τ) (q : Nat) (v : Int) (hq : q = 0 ∨ q = 28 ∨ q = 29) : m_dfr σ (f_p1 τ 0 q v) := by
  refine ⟨h.1, fun a b hab => ?_⟩
  rw [p1_1, if_neg (by
    intro h9
    exact hab ⟨h9.1, by rw [h9.2]; exact hq⟩)]
  exact h.2 a b hab
theorem m_dfr_a {σ τ : fS} (h : m_dfr σ τ) (k q : Nat) (v : Int) (hk : k = 16 ∨ k = 17) : m_dfr σ (f_p2 τ k q v) := by
  refine ⟨fun j i h1 h2 => ?_, h.2⟩
  rw [p2_2, if_neg (by intro h9; omega)]
  exact h.1 j i h1 h2
theorem m_cnt_le (f : Nat → Int) : ∀ k : Nat, 0 ≤ m_cnt f k ∧ m_cnt f k ≤ k := by
  intro k
  induction k with
  | zero => show (0 : Int) ≤ 0 ∧ (0 : Int) ≤ ((0 : Nat) : Int); omega
  | succ k ih =>
    unfold m_cnt
    split <;> omega
set_option maxRecDepth 100000 in
set_option maxHeartbeats 4000000 in
/-- isAlike(a, b) -/
theorem kM_isAlike (l : Launch) (xCl : List vw_C) (D : va_G) (cA : Nat → ClassId) (ad : Nat → Nat) (hJ : f_J (mG xCl D cA ad)) (σ : fS) (a b : Int) (ha : 0 ≤ a ∧ a < 2460) (hb : 0 ≤ b ∧ b < 2460) (h7 : ∀ i, -128 ≤ σ.2 7 i ∧ σ.2 7 i ≤ 127) (h12 : ∀ i, 0 ≤ σ.2 12 i ∧ σ.2 12 i ≤ 120) (hsa : 0 ≤ σ.2 11 a.toNat ∧ σ.2 11 a.toNat + σ.2 12 a.toNat ≤ 12000) (hsb : 0 ≤ σ.2 11 b.toNat ∧ σ.2 11 b.toNat + σ.2 12 b.toNat ≤ 12000) : f_M l (mG xCl D cA ad) mE yM_isAlike (Cond.code yM_isAlike cM_isAlike 5 (some .boolean) :: A9) 0 σ [.ref (ad 0), .int (fI a), .int (fI b)] (f_QI (fun r σ1 => σ1 = σ ∧ ((m_alike σ a b ∧ r = 1) ∨ (¬ m_alike σ a b ∧ r = 0))) (mG xCl D cA ad)) := by
  refine f_enter (by decide +kernel) hJ rfl (Nat.le_of_ble_eq_true rfl) ?_
  intro z hzl hR C hRt hLk hEz
  subst hzl
  have hca := h12 a.toNat
  have hcb := h12 b.toNat
  have L : σ.2 12 a.toNat = σ.2 12 b.toNat → ∀ (m : Nat) (k : Int), k + m = σ.2 12 a.toNat → 0 ≤ k → (∀ t : Int, 0 ≤ t → t < k → σ.2 7 (σ.2 11 a.toNat + t).toNat = σ.2 7 (σ.2 11 b.toNat + t).toNat) → fv z (mG xCl D cA ad) 5 (f_R z (mG xCl D cA ad) (f_QI (fun r σ1 => σ1 = σ ∧ ((m_alike σ a b ∧ r = 1) ∨ (¬ m_alike σ a b ∧ r = 0))) (mG xCl D cA ad))) 0 0 σ 24 [some (.ref (ad 0)), some (.int (fI a)), some (.int (fI b)), some (.int (fI 1)), some (.int (fI k))] [] := by
    intro hcc m
    induction m with
    | zero =>
      intro k hk hk0 hall
      have hb1 := h7 (σ.2 11 a.toNat + k).toNat
      have hb2 := h7 (σ.2 11 b.toNat + k).toNat
      refine v_iload C dM_isAlike_24 rfl ?_
      refine v_aload_n C dM_isAlike_26 rfl rfl ?_
      refine v_getR (k := 0) (q := 15) C dM_isAlike_27 (by show (0 : Nat) < 18; decide) rfl rfl (by decide) rfl inM lM_45 rfl ?_
      refine v_iload_n C dM_isAlike_30 rfl rfl ?_
      refine v_iald (k := 12) (v := σ.2 12 (a).toNat) C dM_isAlike_31 (by show (12 : Nat) < 18; decide) rfl rfl (by omega) (by decide) rfl ?_
      refine v_icmp_ge (tgt := 82) C dM_isAlike_32 (by decide) (by omega) (by omega) (fun hc1 => ?_) (fun hc1 => ?_)
      · refine v_iload_n C dM_isAlike_82 rfl rfl ?_
        exact v_zret C hRt hLk dM_isAlike_83 (fN_bool (by omega)) ⟨rfl, by first | exact Or.inl ⟨⟨by omega, fun t h0 h1 => hall t h0 (by omega)⟩, rfl⟩ | exact Or.inr ⟨fun h9 => by first | (have h91 := h9.1; omega) | (have h92 := h9.2 k (by omega) (by omega); omega), rfl⟩⟩
      · exfalso; omega
    | succ m ih =>
      intro k hk hk0 hall
      have hb1 := h7 (σ.2 11 a.toNat + k).toNat
      have hb2 := h7 (σ.2 11 b.toNat + k).toNat
      refine v_iload C dM_isAlike_24 rfl ?_
      refine v_aload_n C dM_isAlike_26 rfl rfl ?_
      refine v_getR (k := 0) (q := 15) C dM_isAlike_27 (by show (0 : Nat) < 18; decide) rfl rfl (by decide) rfl inM lM_45 rfl ?_
      refine v_iload_n C dM_isAlike_30 rfl rfl ?_
      refine v_iald (k := 12) (v := σ.2 12 (a).toNat) C dM_isAlike_31 (by show (12 : Nat) < 18; decide) rfl rfl (by omega) (by decide) rfl ?_
      refine v_icmp_ge (tgt := 82) C dM_isAlike_32 (by decide) (by omega) (by omega) (fun hc2 => ?_) (fun hc2 => ?_)
      · refine v_iload_n C dM_isAlike_82 rfl rfl ?_
        exact v_zret C hRt hLk dM_isAlike_83 (fN_bool (by omega)) ⟨rfl, by first | exact Or.inl ⟨⟨by omega, fun t h0 h1 => hall t h0 (by omega)⟩, rfl⟩ | exact Or.inr ⟨fun h9 => by first | (have h91 := h9.1; omega) | (have h92 := h9.2 k (by omega) (by omega); omega), rfl⟩⟩
      · refine v_iload_n C dM_isAlike_35 rfl rfl ?_
        refine v_if_eq (tgt := 82) C dM_isAlike_36 (by decide) (by omega) (fun hc3 => ?_) (fun hc3 => ?_)
        · exfalso; omega
        · refine v_aload_n C dM_isAlike_39 rfl rfl ?_
          refine v_getR (k := 0) (q := 8) C dM_isAlike_40 (by show (0 : Nat) < 18; decide) rfl rfl (by decide) rfl inM lM_30 rfl ?_
          refine v_aload_n C dM_isAlike_43 rfl rfl ?_
          refine v_getR (k := 0) (q := 14) C dM_isAlike_44 (by show (0 : Nat) < 18; decide) rfl rfl (by decide) rfl inM lM_42 rfl ?_
          refine v_iload_n C dM_isAlike_47 rfl rfl ?_
          refine v_iald (k := 11) (v := σ.2 11 (a).toNat) C dM_isAlike_48 (by show (11 : Nat) < 18; decide) rfl rfl (by omega) (by decide) rfl ?_
          refine v_iload C dM_isAlike_49 rfl ?_
          refine v_iadd C dM_isAlike_51 ?_
          refine v_bald (k := 7) (v := σ.2 7 ((σ.2 11 (a).toNat + k)).toNat) C dM_isAlike_52 (by show (7 : Nat) < 18; decide) rfl rfl (by omega) (by decide) rfl ?_
          refine v_aload_n C dM_isAlike_53 rfl rfl ?_
          refine v_getR (k := 0) (q := 8) C dM_isAlike_54 (by show (0 : Nat) < 18; decide) rfl rfl (by decide) rfl inM lM_30 rfl ?_
          refine v_aload_n C dM_isAlike_57 rfl rfl ?_
          refine v_getR (k := 0) (q := 14) C dM_isAlike_58 (by show (0 : Nat) < 18; decide) rfl rfl (by decide) rfl inM lM_42 rfl ?_
          refine v_iload_n C dM_isAlike_61 rfl rfl ?_
          refine v_iald (k := 11) (v := σ.2 11 (b).toNat) C dM_isAlike_62 (by show (11 : Nat) < 18; decide) rfl rfl (by omega) (by decide) rfl ?_
          refine v_iload C dM_isAlike_63 rfl ?_
          refine v_iadd C dM_isAlike_65 ?_
          refine v_bald (k := 7) (v := σ.2 7 ((σ.2 11 (b).toNat + k)).toNat) C dM_isAlike_66 (by show (7 : Nat) < 18; decide) rfl rfl (by omega) (by decide) rfl ?_
          refine v_icmp_ne (tgt := 74) C dM_isAlike_67 (by decide) (by omega) (by omega) (fun hc4 => ?_) (fun hc4 => ?_)
          · refine v_iconst C dM_isAlike_74 ?_
            refine v_istore_n C dM_isAlike_75 rfl (by decide) ?_
            refine v_iinc C dM_isAlike_76 rfl (by decide) ?_
            refine v_goto (tgt := 24) C dM_isAlike_79 (by decide) ?_
            refine v_iload C dM_isAlike_24 rfl ?_
            refine v_aload_n C dM_isAlike_26 rfl rfl ?_
            refine v_getR (k := 0) (q := 15) C dM_isAlike_27 (by show (0 : Nat) < 18; decide) rfl rfl (by decide) rfl inM lM_45 rfl ?_
            refine v_iload_n C dM_isAlike_30 rfl rfl ?_
            refine v_iald (k := 12) (v := σ.2 12 (a).toNat) C dM_isAlike_31 (by show (12 : Nat) < 18; decide) rfl rfl (by omega) (by decide) rfl ?_
            refine v_icmp_ge (tgt := 82) C dM_isAlike_32 (by decide) (by omega) (by omega) (fun hc5 => ?_) (fun hc5 => ?_)
            · refine v_iload_n C dM_isAlike_82 rfl rfl ?_
              exact v_zret C hRt hLk dM_isAlike_83 (fN_bool (by omega)) ⟨rfl, by first | exact Or.inl ⟨⟨by omega, fun t h0 h1 => hall t h0 (by omega)⟩, rfl⟩ | exact Or.inr ⟨fun h9 => by first | (have h91 := h9.1; omega) | (have h92 := h9.2 k (by omega) (by omega); omega), rfl⟩⟩
            · refine v_iload_n C dM_isAlike_35 rfl rfl ?_
              refine v_if_eq (tgt := 82) C dM_isAlike_36 (by decide) (by omega) (fun hc6 => ?_) (fun hc6 => ?_)
              · refine v_iload_n C dM_isAlike_82 rfl rfl ?_
                exact v_zret C hRt hLk dM_isAlike_83 (fN_bool (by omega)) ⟨rfl, by first | exact Or.inl ⟨⟨by omega, fun t h0 h1 => hall t h0 (by omega)⟩, rfl⟩ | exact Or.inr ⟨fun h9 => by first | (have h91 := h9.1; omega) | (have h92 := h9.2 k (by omega) (by omega); omega), rfl⟩⟩
              · exfalso; omega
          · refine v_iconst C dM_isAlike_70 ?_
            refine v_goto (tgt := 75) C dM_isAlike_71 (by decide) ?_
            refine v_istore_n C dM_isAlike_75 rfl (by decide) ?_
            refine v_iinc C dM_isAlike_76 rfl (by decide) ?_
            refine v_goto (tgt := 24) C dM_isAlike_79 (by decide) ?_
            exact ih (k + 1) (by omega) (by omega) (fun t h0 h1 => by by_cases h9 : t = k; (· rw [h9]; assumption); (· exact hall t h0 (by omega)))
  refine v_aload_n C dM_isAlike_0 rfl rfl ?_
  refine v_getR (k := 0) (q := 15) C dM_isAlike_1 (by show (0 : Nat) < 18; decide) rfl rfl (by decide) rfl inM lM_45 rfl ?_
  refine v_iload_n C dM_isAlike_4 rfl rfl ?_
  refine v_iald (k := 12) (v := σ.2 12 (a).toNat) C dM_isAlike_5 (by show (12 : Nat) < 18; decide) rfl rfl (by omega) (by decide) rfl ?_
  refine v_aload_n C dM_isAlike_6 rfl rfl ?_
  refine v_getR (k := 0) (q := 15) C dM_isAlike_7 (by show (0 : Nat) < 18; decide) rfl rfl (by decide) rfl inM lM_45 rfl ?_
  refine v_iload_n C dM_isAlike_10 rfl rfl ?_
  refine v_iald (k := 12) (v := σ.2 12 (b).toNat) C dM_isAlike_11 (by show (12 : Nat) < 18; decide) rfl rfl (by omega) (by decide) rfl ?_
  refine v_icmp_ne (tgt := 19) C dM_isAlike_12 (by decide) (by omega) (by omega) (fun hc7 => ?_) (fun hc7 => ?_)
  · refine v_iconst C dM_isAlike_19 ?_
    refine v_istore_n C dM_isAlike_20 rfl (by decide) ?_
    refine v_iconst C dM_isAlike_21 ?_
    refine v_istore C dM_isAlike_22 (by decide) ?_
    refine v_iload C dM_isAlike_24 rfl ?_
    refine v_aload_n C dM_isAlike_26 rfl rfl ?_
    refine v_getR (k := 0) (q := 15) C dM_isAlike_27 (by show (0 : Nat) < 18; decide) rfl rfl (by decide) rfl inM lM_45 rfl ?_
    refine v_iload_n C dM_isAlike_30 rfl rfl ?_
    refine v_iald (k := 12) (v := σ.2 12 (a).toNat) C dM_isAlike_31 (by show (12 : Nat) < 18; decide) rfl rfl (by omega) (by decide) rfl ?_
    refine v_icmp_ge (tgt := 82) C dM_isAlike_32 (by decide) (by omega) (by omega) (fun hc8 => ?_) (fun hc8 => ?_)
    · refine v_iload_n C dM_isAlike_82 rfl rfl ?_
      exact v_zret C hRt hLk dM_isAlike_83 (fN_bool (by omega)) ⟨rfl, by first | exact Or.inl ⟨⟨by omega, fun t h0 h1 => hall t h0 (by omega)⟩, rfl⟩ | exact Or.inr ⟨fun h9 => by first | (have h91 := h9.1; omega) | (have h92 := h9.2 k (by omega) (by omega); omega), rfl⟩⟩
    · refine v_iload_n C dM_isAlike_35 rfl rfl ?_
      refine v_if_eq (tgt := 82) C dM_isAlike_36 (by decide) (by omega) (fun hc9 => ?_) (fun hc9 => ?_)
      · refine v_iload_n C dM_isAlike_82 rfl rfl ?_
        exact v_zret C hRt hLk dM_isAlike_83 (fN_bool (by omega)) ⟨rfl, by first | exact Or.inl ⟨⟨by omega, fun t h0 h1 => hall t h0 (by omega)⟩, rfl⟩ | exact Or.inr ⟨fun h9 => by first | (have h91 := h9.1; omega) | (have h92 := h9.2 k (by omega) (by omega); omega), rfl⟩⟩
      · exfalso; omega
  · refine v_iconst C dM_isAlike_15 ?_
    refine v_goto (tgt := 20) C dM_isAlike_16 (by decide) ?_
    refine v_istore_n C dM_isAlike_20 rfl (by decide) ?_
    refine v_iconst C dM_isAlike_21 ?_
    refine v_istore C dM_isAlike_22 (by decide) ?_
    exact L (by omega) (σ.2 12 a.toNat).toNat 0 (by omega) (by omega) (fun t h0 h1 => absurd h1 (by omega))
end
section
theorem m_puts_p2 (l : List Int) : ∀ (σ : fS) (k i : Nat) (v : Int), k ≠ 7 → f_p2 (m_puts σ l) k i v = m_puts (f_p2 σ k i v) l := by
  induction l with
  | nil => intro σ k i v _; rfl
  | cons x r ih =>
    intro σ k i v hk
    rw [m_puts_cons, m_puts_cons, ih _ _ _ _ hk]
    congr 1
    refine fS_ext (fun a b => ?_) (fun a b => ?_)
    · rw [p2_1, m_put_1, m_put_1, p2_1]
    · rw [p2_2, m_put_2, m_put_2, p2_2, p2_1]
      by_cases h1 : a = k ∧ b = i
      · rw [if_pos h1, if_pos h1, if_neg (by omega)]
      · rw [if_neg h1, if_neg h1]
/-- a record of object n: its line, its bytes -/
def m_hdr (σ : fS) (n : Int) : List Int := [111, 32] ++ dig n ++ [32] ++ dig (σ.2 5 n.toNat) ++ [10]
def m_byt (σ : fS) (n : Int) (k : Nat) : List Int := (List.range k).map (fun (j : Nat) => σ.2 6 (120 * n + (j : Int)).toNat)
def m_rec (σ : fS) (n : Int) : List Int := m_hdr σ n ++ m_byt σ n (σ.2 5 n.toNat).toNat ++ [10]
theorem m_hdr_len (σ : fS) (n : Int) : (m_hdr σ n).length = (dig n).length + (dig (σ.2 5 n.toNat)).length + 4 := by
  unfold m_hdr
  simp
  omega
theorem m_byt_len (σ : fS) (n : Int) (k : Nat) : (m_byt σ n k).length = k := by simp [m_byt]
theorem m_rec_len (σ : fS) (n : Int) : (m_rec σ n).length = (dig n).length + (dig (σ.2 5 n.toNat)).length + (σ.2 5 n.toNat).toNat + 5 := by
  unfold m_rec
  rw [List.length_append, List.length_append, m_hdr_len, m_byt_len]
  simp
  omega
theorem m_byt_s (σ : fS) (n : Int) (k : Nat) : m_byt σ n (k + 1) = m_byt σ n k ++ [σ.2 6 (120 * n + (k : Int)).toNat] := by
  unfold m_byt
  rw [List.range_succ, List.map_append]
  rfl
/-- where a record lies is kept -/
def m_r0 (σ : fS) (n : Int) : fS := f_p2 (f_p2 σ 13 n.toNat (σ.1 0 16)) 14 n.toNat (σ.1 0 16 + (m_hdr σ n).length)
set_option maxRecDepth 100000 in
set_option maxHeartbeats 4000000 in
/-- putRecord(n) -/
theorem kM_putRecord (l : Launch) (xCl : List vw_C) (D : va_G) (cA : Nat → ClassId) (ad : Nat → Nat) (hJ : f_J (mG xCl D cA ad)) (σ : fS) (n : Int) (hn1 : 1 ≤ n ∧ n ≤ 40) (h5 : ∀ i, 0 ≤ σ.2 5 i ∧ σ.2 5 i ≤ 120) (h6 : ∀ i, -128 ≤ σ.2 6 i ∧ σ.2 6 i ≤ 127) (hn : 0 ≤ σ.1 0 16 ∧ σ.1 0 16 ≤ 700000) (hc : σ.1 0 17 = 0 ∨ σ.1 0 17 = 1) (hf : σ.1 0 17 = 0 → σ.1 0 16 + (m_rec σ n).length ≤ 12000) : f_M l (mG xCl D cA ad) mE yM_putRecord (Cond.code yM_putRecord cM_putRecord 3 none :: A9) 2 σ [.ref (ad 0), .int (fI n)] (f_QV (fun σ1 => σ1 = m_puts (m_r0 σ n) (m_rec σ n)) (mG xCl D cA ad)) := by
  refine f_enter (by decide +kernel) hJ rfl (Nat.le_of_ble_eq_true rfl) ?_
  intro z hzl hR C hRt hLk hEz
  subst hzl
  have hsz := h5 n.toNat
  have hd1 := dig_len n
  have hd2 := dig_len (σ.2 5 n.toNat)
  have hrl := m_rec_len σ n
  have hhl := m_hdr_len σ n
  have L : ∀ (m k : Nat), m + k = (σ.2 5 n.toNat).toNat → fv z (mG xCl D cA ad) 3 (f_R z (mG xCl D cA ad) (f_QV (fun σ1 => σ1 = m_puts (m_r0 σ n) (m_rec σ n)) (mG xCl D cA ad))) 0 0 (m_puts (m_r0 σ n) (m_hdr σ n ++ m_byt σ n k)) 61 [some (.ref (ad 0)), some (.int (fI n)), some (.int (fI ((k : Int))))] [] := by
    intro m
    induction m with
    | zero =>
      intro k hk
      have hb := h6 (120 * n + (k : Int)).toNat
      have hkk : k = (σ.2 5 n.toNat).toNat := by omega
      refine v_iload_n C dM_putRecord_61 rfl rfl ?_
      refine v_aload_n C dM_putRecord_62 rfl rfl ?_
      refine v_getR (k := 0) (q := 5) C dM_putRecord_63 (by show (0 : Nat) < 18; decide) rfl rfl (by decide) rfl inM lM_22 rfl ?_
      refine v_iload_n C dM_putRecord_66 rfl rfl ?_
      refine v_iald (k := 5) (v := σ.2 5 (n).toNat) C dM_putRecord_67 (by show (5 : Nat) < 18; decide) rfl rfl (by omega) (by decide) ((m_puts_2 _ _ _ _ (by decide)).trans rfl) ?_
      refine v_icmp_ge (tgt := 92) C dM_putRecord_68 (by decide) (by omega) (by omega) (fun hc1 => ?_) (fun hc1 => ?_)
      · refine v_aload_n C dM_putRecord_92 rfl rfl ?_
        refine v_bipush C dM_putRecord_93 (by decide +kernel) ?_
        have hx2 := m_puts_next (m_r0 σ n) (m_hdr σ n ++ m_byt σ n k)
        try simp only [List.length_append, List.length_cons, List.length_nil, m_byt_len] at hx2
        have hy3 := m_puts_cnt (m_r0 σ n) (m_hdr σ n ++ m_byt σ n k)
        change _ = σ.1 0 17 at hy3
        change _ = σ.1 0 16 + _ at hx2
        refine v_cVV (k := 0) (n := 1) C (mE_ok _) trivial hR (kM_put _ xCl D cA ad hJ (m_puts (m_r0 σ n) (m_hdr σ n ++ m_byt σ n k)) (10) (by omega) (by omega) (by omega) (by omega)) dM_putRecord_95 (by show (0 : Nat) < 18; decide) rfl rfl gM_85 (by decide +kernel) (by decide) (by decide) rfl (Nat.le_of_ble_eq_true rfl) rfl ⟨rfl, rfl⟩ (fun σ1 hp1 => ?_)
        subst σ1
        refine v_st (σ1 := m_puts (m_r0 σ n) (m_hdr σ n ++ m_byt σ n k ++ [10])) (m_puts_snoc _ _ _) ?_
        exact v_vret C hRt hLk dM_putRecord_98 (by unfold m_rec; rw [hkk])
      · exfalso; omega
    | succ m ih =>
      intro k hk
      have hb := h6 (120 * n + (k : Int)).toNat
      refine v_iload_n C dM_putRecord_61 rfl rfl ?_
      refine v_aload_n C dM_putRecord_62 rfl rfl ?_
      refine v_getR (k := 0) (q := 5) C dM_putRecord_63 (by show (0 : Nat) < 18; decide) rfl rfl (by decide) rfl inM lM_22 rfl ?_
      refine v_iload_n C dM_putRecord_66 rfl rfl ?_
      refine v_iald (k := 5) (v := σ.2 5 (n).toNat) C dM_putRecord_67 (by show (5 : Nat) < 18; decide) rfl rfl (by omega) (by decide) ((m_puts_2 _ _ _ _ (by decide)).trans rfl) ?_
      refine v_icmp_ge (tgt := 92) C dM_putRecord_68 (by decide) (by omega) (by omega) (fun hc4 => ?_) (fun hc4 => ?_)
      · exfalso; omega
      · refine v_aload_n C dM_putRecord_71 rfl rfl ?_
        refine v_aload_n C dM_putRecord_72 rfl rfl ?_
        refine v_getR (k := 0) (q := 6) C dM_putRecord_73 (by show (0 : Nat) < 18; decide) rfl rfl (by decide) rfl inM lM_26 rfl ?_
        refine v_bipush C dM_putRecord_76 (by decide +kernel) ?_
        refine v_iload_n C dM_putRecord_78 rfl rfl ?_
        refine v_imul C dM_putRecord_79 ?_
        refine v_iload_n C dM_putRecord_80 rfl rfl ?_
        refine v_iadd C dM_putRecord_81 ?_
        refine v_bald (k := 6) (v := σ.2 6 (((120 * n) + (k : Int))).toNat) C dM_putRecord_82 (by show (6 : Nat) < 18; decide) rfl rfl (by omega) (by decide) ((m_puts_2 _ _ _ _ (by decide)).trans rfl) ?_
        have hx5 := m_puts_next (m_r0 σ n) (m_hdr σ n ++ m_byt σ n k)
        try simp only [List.length_append, List.length_cons, List.length_nil, m_byt_len] at hx5
        have hy6 := m_puts_cnt (m_r0 σ n) (m_hdr σ n ++ m_byt σ n k)
        change _ = σ.1 0 17 at hy6
        change _ = σ.1 0 16 + _ at hx5
        refine v_cVV (k := 0) (n := 1) C (mE_ok _) trivial hR (kM_put _ xCl D cA ad hJ (m_puts (m_r0 σ n) (m_hdr σ n ++ m_byt σ n k)) (σ.2 6 (((120 * n) + (k : Int))).toNat) (by omega) (by omega) (by omega) (by omega)) dM_putRecord_83 (by show (0 : Nat) < 18; decide) rfl rfl gM_85 (by decide +kernel) (by decide) (by decide) rfl (Nat.le_of_ble_eq_true rfl) rfl ⟨rfl, rfl⟩ (fun σ1 hp1 => ?_)
        subst σ1
        refine v_st (σ1 := m_puts (m_r0 σ n) (m_hdr σ n ++ m_byt σ n k ++ [σ.2 6 (((120 * n) + (k : Int))).toNat])) (m_puts_snoc _ _ _) ?_
        refine v_iinc C dM_putRecord_86 rfl (by decide) ?_
        refine v_goto (tgt := 61) C dM_putRecord_89 (by decide) ?_
        exact v_st (by rw [m_byt_s, ← List.append_assoc]) (ih (k + 1) (by omega))
  refine v_aload_n C dM_putRecord_0 rfl rfl ?_
  refine v_getR (k := 0) (q := 18) C dM_putRecord_1 (by show (0 : Nat) < 18; decide) rfl rfl (by decide) rfl inM lM_48 rfl ?_
  refine v_iload_n C dM_putRecord_4 rfl rfl ?_
  refine v_aload_n C dM_putRecord_5 rfl rfl ?_
  refine v_getI (k := 0) (q := 16) (v := σ.1 0 16) C dM_putRecord_6 (by show (0 : Nat) < 18; decide) rfl rfl (by decide) rfl inM lM_82 rfl rfl ?_
  refine v_iast (k := 13) C dM_putRecord_9 (by show (13 : Nat) < 18; decide) rfl rfl (by omega) (by decide) ?_
  refine v_st (σ1 := m_puts (f_p2 σ 13 n.toNat (σ.1 0 16)) []) rfl ?_
  refine v_aload_n C dM_putRecord_10 rfl rfl ?_
  refine v_bipush C dM_putRecord_11 (by decide +kernel) ?_
  have hx7 := m_puts_next (f_p2 σ 13 n.toNat (σ.1 0 16)) ([])
  try simp only [List.length_append, List.length_cons, List.length_nil, m_byt_len] at hx7
  have hy8 := m_puts_cnt (f_p2 σ 13 n.toNat (σ.1 0 16)) ([])
  change _ = σ.1 0 17 at hy8
  change _ = σ.1 0 16 + _ at hx7
  refine v_cVV (k := 0) (n := 1) C (mE_ok _) trivial hR (kM_put _ xCl D cA ad hJ (m_puts (f_p2 σ 13 n.toNat (σ.1 0 16)) ([])) (111) (by omega) (by omega) (by omega) (by omega)) dM_putRecord_13 (by show (0 : Nat) < 18; decide) rfl rfl gM_85 (by decide +kernel) (by decide) (by decide) rfl (Nat.le_of_ble_eq_true rfl) rfl ⟨rfl, rfl⟩ (fun σ1 hp1 => ?_)
  subst σ1
  refine v_st (σ1 := m_puts (f_p2 σ 13 n.toNat (σ.1 0 16)) ([111])) (rfl) ?_
  refine v_aload_n C dM_putRecord_16 rfl rfl ?_
  refine v_bipush C dM_putRecord_17 (by decide +kernel) ?_
  have hx9 := m_puts_next (f_p2 σ 13 n.toNat (σ.1 0 16)) ([111])
  try simp only [List.length_append, List.length_cons, List.length_nil, m_byt_len] at hx9
  have hy10 := m_puts_cnt (f_p2 σ 13 n.toNat (σ.1 0 16)) ([111])
  change _ = σ.1 0 17 at hy10
  change _ = σ.1 0 16 + _ at hx9
  refine v_cVV (k := 0) (n := 1) C (mE_ok _) trivial hR (kM_put _ xCl D cA ad hJ (m_puts (f_p2 σ 13 n.toNat (σ.1 0 16)) ([111])) (32) (by omega) (by omega) (by omega) (by omega)) dM_putRecord_19 (by show (0 : Nat) < 18; decide) rfl rfl gM_85 (by decide +kernel) (by decide) (by decide) rfl (Nat.le_of_ble_eq_true rfl) rfl ⟨rfl, rfl⟩ (fun σ1 hp1 => ?_)
  subst σ1
  refine v_st (σ1 := m_puts (f_p2 σ 13 n.toNat (σ.1 0 16)) ([111] ++ [32])) (m_puts_snoc _ _ _) ?_
  refine v_aload_n C dM_putRecord_22 rfl rfl ?_
  refine v_iload_n C dM_putRecord_23 rfl rfl ?_
  have hx11 := m_puts_next (f_p2 σ 13 n.toNat (σ.1 0 16)) ([111] ++ [32])
  try simp only [List.length_append, List.length_cons, List.length_nil, m_byt_len] at hx11
  have hy12 := m_puts_cnt (f_p2 σ 13 n.toNat (σ.1 0 16)) ([111] ++ [32])
  change _ = σ.1 0 17 at hy12
  change _ = σ.1 0 16 + _ at hx11
  have hw13 := dig_len (n)
  refine v_cVV (k := 0) (n := 1) C (mE_ok _) trivial hR (kM_putNumber _ xCl D cA ad hJ (m_puts (f_p2 σ 13 n.toNat (σ.1 0 16)) ([111] ++ [32])) (n) (by omega) (by omega) (by omega) (by omega)) dM_putRecord_24 (by show (0 : Nat) < 18; decide) rfl rfl gM_89 (by decide +kernel) (by decide) (by decide) rfl (Nat.le_of_ble_eq_true rfl) rfl ⟨rfl, rfl⟩ (fun σ1 hp1 => ?_)
  subst σ1
  refine v_st (σ1 := m_puts (f_p2 σ 13 n.toNat (σ.1 0 16)) ([111] ++ [32] ++ dig (n))) ((m_puts_app _ _ _).symm) ?_
  refine v_aload_n C dM_putRecord_27 rfl rfl ?_
  refine v_bipush C dM_putRecord_28 (by decide +kernel) ?_
  have hx14 := m_puts_next (f_p2 σ 13 n.toNat (σ.1 0 16)) ([111] ++ [32] ++ dig (n))
  try simp only [List.length_append, List.length_cons, List.length_nil, m_byt_len] at hx14
  have hy15 := m_puts_cnt (f_p2 σ 13 n.toNat (σ.1 0 16)) ([111] ++ [32] ++ dig (n))
  change _ = σ.1 0 17 at hy15
  change _ = σ.1 0 16 + _ at hx14
  refine v_cVV (k := 0) (n := 1) C (mE_ok _) trivial hR (kM_put _ xCl D cA ad hJ (m_puts (f_p2 σ 13 n.toNat (σ.1 0 16)) ([111] ++ [32] ++ dig (n))) (32) (by omega) (by omega) (by omega) (by omega)) dM_putRecord_30 (by show (0 : Nat) < 18; decide) rfl rfl gM_85 (by decide +kernel) (by decide) (by decide) rfl (Nat.le_of_ble_eq_true rfl) rfl ⟨rfl, rfl⟩ (fun σ1 hp1 => ?_)
  subst σ1
  refine v_st (σ1 := m_puts (f_p2 σ 13 n.toNat (σ.1 0 16)) ([111] ++ [32] ++ dig (n) ++ [32])) (m_puts_snoc _ _ _) ?_
  refine v_aload_n C dM_putRecord_33 rfl rfl ?_
  refine v_aload_n C dM_putRecord_34 rfl rfl ?_
  refine v_getR (k := 0) (q := 5) C dM_putRecord_35 (by show (0 : Nat) < 18; decide) rfl rfl (by decide) rfl inM lM_22 rfl ?_
  refine v_iload_n C dM_putRecord_38 rfl rfl ?_
  refine v_iald (k := 5) (v := σ.2 5 (n).toNat) C dM_putRecord_39 (by show (5 : Nat) < 18; decide) rfl rfl (by omega) (by decide) ((m_puts_2 _ _ _ _ (by decide)).trans rfl) ?_
  have hx16 := m_puts_next (f_p2 σ 13 n.toNat (σ.1 0 16)) ([111] ++ [32] ++ dig (n) ++ [32])
  try simp only [List.length_append, List.length_cons, List.length_nil, m_byt_len] at hx16
  have hy17 := m_puts_cnt (f_p2 σ 13 n.toNat (σ.1 0 16)) ([111] ++ [32] ++ dig (n) ++ [32])
  change _ = σ.1 0 17 at hy17
  change _ = σ.1 0 16 + _ at hx16
  have hw18 := dig_len (σ.2 5 (n).toNat)
  refine v_cVV (k := 0) (n := 1) C (mE_ok _) trivial hR (kM_putNumber _ xCl D cA ad hJ (m_puts (f_p2 σ 13 n.toNat (σ.1 0 16)) ([111] ++ [32] ++ dig (n) ++ [32])) (σ.2 5 (n).toNat) (by omega) (by omega) (by omega) (by omega)) dM_putRecord_40 (by show (0 : Nat) < 18; decide) rfl rfl gM_89 (by decide +kernel) (by decide) (by decide) rfl (Nat.le_of_ble_eq_true rfl) rfl ⟨rfl, rfl⟩ (fun σ1 hp1 => ?_)
  subst σ1
  refine v_st (σ1 := m_puts (f_p2 σ 13 n.toNat (σ.1 0 16)) ([111] ++ [32] ++ dig (n) ++ [32] ++ dig (σ.2 5 (n).toNat))) ((m_puts_app _ _ _).symm) ?_
  refine v_aload_n C dM_putRecord_43 rfl rfl ?_
  refine v_bipush C dM_putRecord_44 (by decide +kernel) ?_
  have hx19 := m_puts_next (f_p2 σ 13 n.toNat (σ.1 0 16)) ([111] ++ [32] ++ dig (n) ++ [32] ++ dig (σ.2 5 (n).toNat))
  try simp only [List.length_append, List.length_cons, List.length_nil, m_byt_len] at hx19
  have hy20 := m_puts_cnt (f_p2 σ 13 n.toNat (σ.1 0 16)) ([111] ++ [32] ++ dig (n) ++ [32] ++ dig (σ.2 5 (n).toNat))
  change _ = σ.1 0 17 at hy20
  change _ = σ.1 0 16 + _ at hx19
  refine v_cVV (k := 0) (n := 1) C (mE_ok _) trivial hR (kM_put _ xCl D cA ad hJ (m_puts (f_p2 σ 13 n.toNat (σ.1 0 16)) ([111] ++ [32] ++ dig (n) ++ [32] ++ dig (σ.2 5 (n).toNat))) (10) (by omega) (by omega) (by omega) (by omega)) dM_putRecord_46 (by show (0 : Nat) < 18; decide) rfl rfl gM_85 (by decide +kernel) (by decide) (by decide) rfl (Nat.le_of_ble_eq_true rfl) rfl ⟨rfl, rfl⟩ (fun σ1 hp1 => ?_)
  subst σ1
  refine v_st (σ1 := m_puts (f_p2 σ 13 n.toNat (σ.1 0 16)) ([111] ++ [32] ++ dig (n) ++ [32] ++ dig (σ.2 5 (n).toNat) ++ [10])) (m_puts_snoc _ _ _) ?_
  refine v_aload_n C dM_putRecord_49 rfl rfl ?_
  refine v_getR (k := 0) (q := 19) C dM_putRecord_50 (by show (0 : Nat) < 18; decide) rfl rfl (by decide) rfl inM lM_51 rfl ?_
  refine v_iload_n C dM_putRecord_53 rfl rfl ?_
  refine v_aload_n C dM_putRecord_54 rfl rfl ?_
  refine v_getI (k := 0) (q := 16) (v := σ.1 0 16 + ([111] ++ [32] ++ dig (n) ++ [32] ++ dig (σ.2 5 (n).toNat) ++ [10] : List Int).length) C dM_putRecord_55 (by show (0 : Nat) < 18; decide) rfl rfl (by decide) rfl inM lM_82 rfl (m_puts_next _ _) ?_
  refine v_iast (k := 14) C dM_putRecord_58 (by show (14 : Nat) < 18; decide) rfl rfl (by omega) (by decide) ?_
  refine v_st (σ1 := m_puts (f_p2 (f_p2 σ 13 n.toNat (σ.1 0 16)) 14 (n).toNat (σ.1 0 16 + ([111] ++ [32] ++ dig (n) ++ [32] ++ dig (σ.2 5 (n).toNat) ++ [10] : List Int).length)) ([111] ++ [32] ++ dig (n) ++ [32] ++ dig (σ.2 5 (n).toNat) ++ [10])) (m_puts_p2 _ _ _ _ _ (by decide)) ?_
  refine v_iconst C dM_putRecord_59 ?_
  refine v_istore_n C dM_putRecord_60 rfl (by decide) ?_
  exact v_st (by unfold m_r0; rw [show m_byt σ n 0 = [] from rfl, List.append_nil]; unfold m_hdr; simp) (L (σ.2 5 n.toNat).toNat 0 (by omega))
end
section
noncomputable def cif {α : Type} (p : Prop) (a b : α) : α := @ite α p (Classical.propDecidable p) a b
theorem cif_pos {α : Type} {p : Prop} {a b : α} (h : p) : cif p a b = a := if_pos h
theorem cif_neg {α : Type} {p : Prop} {a b : α} (h : ¬ p) : cif p a b = b := if_neg h
/-- records of a list of objects, one behind the other -/
def m_recs (σ : fS) (l : List Int) : fS := l.foldl (fun s n => m_puts (m_r0 s n) (m_rec s n)) σ
def m_rlen (σ : fS) : List Int → Nat
  | [] => 0
  | n :: r => (m_rec σ n).length + m_rlen σ r
theorem m_rlen_app (σ : fS) (a b : List Int) : m_rlen σ (a ++ b) = m_rlen σ a + m_rlen σ b := by
  induction a with
  | nil => simp [m_rlen]
  | cons x r ih => simp only [List.cons_append, m_rlen, ih]; omega
theorem m_rec_congr {σ τ : fS} (h5 : ∀ i, τ.2 5 i = σ.2 5 i) (h6 : ∀ i, τ.2 6 i = σ.2 6 i) (n : Int) : m_rec τ n = m_rec σ n ∧ m_hdr τ n = m_hdr σ n := by
  unfold m_rec m_hdr m_byt
  simp only [h5, h6, and_self]
theorem m_rlen_congr {σ τ : fS} (h5 : ∀ i, τ.2 5 i = σ.2 5 i) (h6 : ∀ i, τ.2 6 i = σ.2 6 i) (l : List Int) : m_rlen τ l = m_rlen σ l := by
  induction l with
  | nil => rfl
  | cons x r ih => simp only [m_rlen, ih, (m_rec_congr h5 h6 x).1]
theorem m_one_2 (σ : fS) (n : Int) (k i : Nat) (h7 : k ≠ 7) (h13 : k ≠ 13) (h14 : k ≠ 14) : (m_puts (m_r0 σ n) (m_rec σ n)).2 k i = σ.2 k i := by
  rw [m_puts_2 _ _ _ _ h7]
  unfold m_r0
  rw [p2_2, if_neg (by omega), p2_2, if_neg (by omega)]
theorem m_one_1 (σ : fS) (n : Int) (a b : Nat) : (m_puts (m_r0 σ n) (m_rec σ n)).1 a b = if a = 0 ∧ b = 16 then σ.1 0 16 + (m_rec σ n).length else σ.1 a b := by
  rw [m_puts_1]
  rfl
theorem m_recs_2 (l : List Int) : ∀ (σ : fS) (k i : Nat), k ≠ 7 → k ≠ 13 → k ≠ 14 → (m_recs σ l).2 k i = σ.2 k i := by
  induction l with
  | nil => intro σ k i _ _ _; rfl
  | cons x r ih =>
    intro σ k i h1 h2 h3
    show (m_recs (m_puts (m_r0 σ x) (m_rec σ x)) r).2 k i = σ.2 k i
    rw [ih _ _ _ h1 h2 h3, m_one_2 _ _ _ _ h1 h2 h3]
theorem m_recs_1 (l : List Int) : ∀ (σ : fS) (a b : Nat), (m_recs σ l).1 a b = if a = 0 ∧ b = 16 then σ.1 0 16 + m_rlen σ l else σ.1 a b := by
  induction l with
  | nil =>
    intro σ a b
    show σ.1 a b = _
    split
    · rename_i h; rw [h.1, h.2]; simp [m_rlen]
    · rfl
  | cons x r ih =>
    intro σ a b
    show (m_recs (m_puts (m_r0 σ x) (m_rec σ x)) r).1 a b = _
    rw [ih, m_one_1, m_one_1, m_rlen_congr (fun i => m_one_2 σ x 5 i (by decide) (by decide) (by decide)) (fun i => m_one_2 σ x 6 i (by decide) (by decide) (by decide))]
    by_cases h : a = 0 ∧ b = 16
    · simp only [h, and_self, if_true, m_rlen]; omega
    · simp [h]
theorem m_recs_snoc (σ : fS) (l : List Int) (n : Int) : m_puts (m_r0 (m_recs σ l) n) (m_rec (m_recs σ l) n) = m_recs σ (l ++ [n]) := by
  unfold m_recs
  rw [List.foldl_append]
  rfl
theorem m_recs_next (σ : fS) (l : List Int) : (m_recs σ l).1 0 16 = σ.1 0 16 + m_rlen σ l := by rw [m_recs_1]; simp
theorem m_recs_cnt (σ : fS) (l : List Int) : (m_recs σ l).1 0 17 = σ.1 0 17 := by rw [m_recs_1]; simp
/-- whether object n's record is written, at a turn -/
def m_sel (σ : fS) (w how t n : Int) : Prop := ((w = 1 ∧ σ.2 1 n.toNat = 1) ∨ (w = 0 ∧ σ.2 3 n.toNat = 1)) ∧ σ.2 1 n.toNat = 1 ∧ ((how = 1 ∧ σ.2 5 n.toNat = t) ∨ (how = 2 ∧ ((σ.2 2 n.toNat = 1 ∧ t = 0) ∨ (σ.2 2 n.toNat = 0 ∧ t ≠ 0))) ∨ (how ≠ 1 ∧ how ≠ 2))
noncomputable def m_turn (σ : fS) (w how t : Int) : Nat → List Int
  | 0 => []
  | k + 1 => m_turn σ w how t k ++ cif (m_sel σ w how t ((k : Int) + 1)) [(k : Int) + 1] []
noncomputable def m_turns (σ : fS) (w how : Int) : Nat → List Int
  | 0 => []
  | t + 1 => m_turns σ w how t ++ m_turn σ w how (t : Int) 40
def m_last (how : Int) : Nat := if how = 1 then 120 else if how = 2 then 1 else 0
theorem m_turn_le (σ : fS) (w how t : Int) (a b : Nat) : m_rlen σ (m_turn σ w how t a) ≤ m_rlen σ (m_turn σ w how t (a + b)) := by
  induction b with
  | zero => exact Nat.le_refl _
  | succ b ih =>
    refine Nat.le_trans ih ?_
    show _ ≤ m_rlen σ (m_turn σ w how t (a + b) ++ _)
    rw [m_rlen_app]
    omega
theorem m_turns_le (σ : fS) (w how : Int) (a b : Nat) : m_rlen σ (m_turns σ w how a) ≤ m_rlen σ (m_turns σ w how (a + b)) := by
  induction b with
  | zero => exact Nat.le_refl _
  | succ b ih =>
    refine Nat.le_trans ih ?_
    show _ ≤ m_rlen σ (m_turns σ w how (a + b) ++ _)
    rw [m_rlen_app]
    omega
set_option maxRecDepth 100000 in
set_option maxHeartbeats 4000000 in
/-- putRecords(whole, how) -/
theorem kM_putRecords (l : Launch) (xCl : List vw_C) (D : va_G) (cA : Nat → ClassId) (ad : Nat → Nat) (hJ : f_J (mG xCl D cA ad)) (σ : fS) (w how : Int) (hw : w = 0 ∨ w = 1) (hh : 0 ≤ how ∧ how ≤ 2) (h1 : ∀ i, 0 ≤ σ.2 1 i ∧ σ.2 1 i ≤ 1) (h2 : ∀ i, 0 ≤ σ.2 2 i ∧ σ.2 2 i ≤ 1) (h3 : ∀ i, 0 ≤ σ.2 3 i ∧ σ.2 3 i ≤ 1) (h5 : ∀ i, 0 ≤ σ.2 5 i ∧ σ.2 5 i ≤ 120) (h6 : ∀ i, -128 ≤ σ.2 6 i ∧ σ.2 6 i ≤ 127) (hn : 0 ≤ σ.1 0 16) (hnT : σ.1 0 16 + m_rlen σ (m_turns σ w how (m_last how + 1)) ≤ 90000) (hc : σ.1 0 17 = 0 ∨ σ.1 0 17 = 1) (hf : σ.1 0 17 = 0 → σ.1 0 16 + m_rlen σ (m_turns σ w how (m_last how + 1)) ≤ 12000) : f_M l (mG xCl D cA ad) mE yM_putRecords (Cond.code yM_putRecords cM_putRecords 6 none :: A9) 3 σ [.ref (ad 0), .int (fI w), .int (fI how)] (f_QV (fun σ1 => σ1 = m_recs σ (m_turns σ w how (m_last how + 1))) (mG xCl D cA ad)) := by
  refine f_enter (by decide +kernel) hJ rfl (Nat.le_of_ble_eq_true rfl) ?_
  intro z hzl hR C hRt hLk hEz
  subst hzl
  have hml : (how = 1 ∧ m_last how = 120) ∨ (how = 2 ∧ m_last how = 1) ∨ ((how ≠ 1 ∧ how ≠ 2) ∧ m_last how = 0) := by unfold m_last; split; (· omega); (· split <;> omega)
  have LI : ∀ (t : Nat), t ≤ m_last how → fv z (mG xCl D cA ad) 6 (f_R z (mG xCl D cA ad) (f_QV (fun σ1 => σ1 = m_recs σ (m_turns σ w how (m_last how + 1))) (mG xCl D cA ad))) 0 0 (m_recs σ (m_turns σ w how (t + 1))) 132 [some (.ref (ad 0)), some (.int (fI w)), some (.int (fI how)), some (.int (fI (t : Int))), none, none] [] → ∀ (m k : Nat), m + k = 40 → fv z (mG xCl D cA ad) 6 (f_R z (mG xCl D cA ad) (f_QV (fun σ1 => σ1 = m_recs σ (m_turns σ w how (m_last how + 1))) (mG xCl D cA ad))) 0 0 (m_recs σ (m_turns σ w how t ++ m_turn σ w how (t : Int) k)) 29 [some (.ref (ad 0)), some (.int (fI w)), some (.int (fI how)), some (.int (fI (t : Int))), some (.int (fI ((k : Int) + 1))), none] [] := by
    intro t ht KK m
    induction m with
    | zero =>
      intro k hk
      refine v_iload C dM_putRecords_29 rfl ?_
      refine v_bipush C dM_putRecords_31 (by decide +kernel) ?_
      refine v_icmp_gt (tgt := 132) C dM_putRecords_33 (by decide) (by omega) (by omega) (fun hc1 => ?_) (fun hc1 => ?_)
      · exact v_less (by exact ⟨rfl, rfl, rfl, rfl, trivial⟩) (v_st (by rw [show k = 40 by omega]; rfl) KK)
      · exfalso; omega
    | succ m ih =>
      intro k hk
      have hb1 := h1 ((k : Int) + 1).toNat
      have hb2 := h2 ((k : Int) + 1).toNat
      have hb3 := h3 ((k : Int) + 1).toNat
      have hb5 := h5 ((k : Int) + 1).toNat
      have hnx := m_recs_next σ (m_turns σ w how t ++ m_turn σ w how (t : Int) k)
      have hct := m_recs_cnt σ (m_turns σ w how t ++ m_turn σ w how (t : Int) k)
      have hl1 := m_rlen_app σ (m_turns σ w how t) (m_turn σ w how (t : Int) k)
      have hl2 := m_turn_le σ w how (t : Int) (k + 1) m
      rw [show k + 1 + m = 40 by omega] at hl2
      have hl3 := m_turns_le σ w how (t + 1) (m_last how - t)
      rw [show t + 1 + (m_last how - t) = m_last how + 1 by omega, show m_turns σ w how (t + 1) = m_turns σ w how t ++ m_turn σ w how (t : Int) 40 from rfl, m_rlen_app] at hl3
      rw [show m_turn σ w how (t : Int) (k + 1) = m_turn σ w how (t : Int) k ++ cif (m_sel σ w how (t : Int) ((k : Int) + 1)) [(k : Int) + 1] [] from rfl, m_rlen_app] at hl2
      have BK : ∀ s : fS, s = m_recs σ (m_turns σ w how t ++ m_turn σ w how (t : Int) (k + 1)) → fv z (mG xCl D cA ad) 6 (f_R z (mG xCl D cA ad) (f_QV (fun σ1 => σ1 = m_recs σ (m_turns σ w how (m_last how + 1))) (mG xCl D cA ad))) 0 0 s 126 [some (.ref (ad 0)), some (.int (fI w)), some (.int (fI how)), some (.int (fI (t : Int))), some (.int (fI ((k : Int) + 1))), none] [] := by
        intro s hs
        subst hs
        refine v_iinc C dM_putRecords_126 rfl (by decide) ?_
        refine v_goto (tgt := 29) C dM_putRecords_129 (by decide) ?_
        exact v_lv rfl (ih (k + 1) (by omega))
      refine v_iload C dM_putRecords_29 rfl ?_
      refine v_bipush C dM_putRecords_31 (by decide +kernel) ?_
      refine v_icmp_gt (tgt := 132) C dM_putRecords_33 (by decide) (by omega) (by omega) (fun hc2 => ?_) (fun hc2 => ?_)
      · exfalso; omega
      · refine v_iload_n C dM_putRecords_36 rfl rfl ?_
        refine v_iconst C dM_putRecords_37 ?_
        refine v_icmp_ne (tgt := 60) C dM_putRecords_38 (by decide) (by omega) (by omega) (fun hc3 => ?_) (fun hc3 => ?_)
        · refine v_iload_n C dM_putRecords_60 rfl rfl ?_
          refine v_iconst C dM_putRecords_61 ?_
          refine v_icmp_ne (tgt := 92) C dM_putRecords_62 (by decide) (by omega) (by omega) (fun hc4 => ?_) (fun hc4 => ?_)
          · refine v_iconst C dM_putRecords_92 ?_
            refine v_istore C dM_putRecords_93 (by decide) ?_
            refine v_aload_n C dM_putRecords_95 rfl rfl ?_
            refine v_iload C dM_putRecords_96 rfl ?_
            refine v_iload_n C dM_putRecords_98 rfl rfl ?_
            have hm1 : ∀ i, 0 ≤ (m_recs σ (m_turns σ w how t ++ m_turn σ w how (t : Int) k)).2 1 i ∧ (m_recs σ (m_turns σ w how t ++ m_turn σ w how (t : Int) k)).2 1 i ≤ 1 := fun i => by rw [m_recs_2 _ _ _ _ (by decide) (by decide) (by decide)]; exact h1 i
            have hm3 : ∀ i, 0 ≤ (m_recs σ (m_turns σ w how t ++ m_turn σ w how (t : Int) k)).2 3 i ∧ (m_recs σ (m_turns σ w how t ++ m_turn σ w how (t : Int) k)).2 3 i ≤ 1 := fun i => by rw [m_recs_2 _ _ _ _ (by decide) (by decide) (by decide)]; exact h3 i
            refine v_cVI (k := 0) (n := 2) C (mE_ok _) trivial hR (kM_isMeant _ xCl D cA ad hJ (m_recs σ (m_turns σ w how t ++ m_turn σ w how (t : Int) k)) (((k : Int) + 1)) w (by omega) (by omega) hm1 hm3) dM_putRecords_99 (by show (0 : Nat) < 18; decide) rfl rfl gM_92 (by decide +kernel) (by decide) (by decide) rfl (Nat.le_of_ble_eq_true rfl) rfl ⟨rfl, rfl⟩ (fun r1 τ1 hp1 => ?_)
            rw [m_recs_2 _ _ _ _ (by decide) (by decide) (by decide), m_recs_2 _ _ _ _ (by decide) (by decide) (by decide)] at hp1
            rcases hp1 with ⟨hw9, e9, e8⟩ | ⟨hw9, e9, e8⟩
            · subst τ1
              subst r1
              refine v_if_eq (tgt := 126) C dM_putRecords_102 (by decide) (by omega) (fun hc5 => ?_) (fun hc5 => ?_)
              · exact v_less (by exact ⟨rfl, rfl, rfl, rfl, rfl, trivial⟩) (BK _ (by show _ = m_recs σ (m_turns σ w how t ++ (m_turn σ w how (t : Int) k ++ cif (m_sel σ w how (t : Int) ((k : Int) + 1)) [(k : Int) + 1] [])); rw [cif_neg (by unfold m_sel; omega), List.append_nil]))
              · refine v_aload_n C dM_putRecords_105 rfl rfl ?_
                refine v_getR (k := 0) (q := 1) C dM_putRecords_106 (by show (0 : Nat) < 18; decide) rfl rfl (by decide) rfl inM lM_7 rfl ?_
                refine v_iload C dM_putRecords_109 rfl ?_
                refine v_zald (k := 1) (v := σ.2 1 (((k : Int) + 1)).toNat) C dM_putRecords_111 (by show (1 : Nat) < 18; decide) rfl rfl (by omega) (by decide) (m_recs_2 _ _ _ _ (by decide) (by decide) (by decide)) ?_
                refine v_if_eq (tgt := 126) C dM_putRecords_112 (by decide) (by omega) (fun hc6 => ?_) (fun hc6 => ?_)
                · exact v_less (by exact ⟨rfl, rfl, rfl, rfl, rfl, trivial⟩) (BK _ (by show _ = m_recs σ (m_turns σ w how t ++ (m_turn σ w how (t : Int) k ++ cif (m_sel σ w how (t : Int) ((k : Int) + 1)) [(k : Int) + 1] [])); rw [cif_neg (by unfold m_sel; omega), List.append_nil]))
                · refine v_iload C dM_putRecords_115 rfl ?_
                  refine v_if_eq (tgt := 126) C dM_putRecords_117 (by decide) (by omega) (fun hc7 => ?_) (fun hc7 => ?_)
                  · exfalso; omega
                  · refine v_aload_n C dM_putRecords_120 rfl rfl ?_
                    refine v_iload C dM_putRecords_121 rfl ?_
                    have hq5 : ∀ i, (m_recs σ (m_turns σ w how t ++ m_turn σ w how (t : Int) k)).2 5 i = σ.2 5 i := fun i => m_recs_2 _ _ _ _ (by decide) (by decide) (by decide)
                    have hq6 : ∀ i, (m_recs σ (m_turns σ w how t ++ m_turn σ w how (t : Int) k)).2 6 i = σ.2 6 i := fun i => m_recs_2 _ _ _ _ (by decide) (by decide) (by decide)
                    have hrc := (m_rec_congr hq5 hq6 (((k : Int) + 1))).1
                    have hsel : m_sel σ w how (t : Int) ((k : Int) + 1) := by unfold m_sel; omega
                    rw [cif_pos hsel] at hl2
                    have hl4 : m_rlen σ [(k : Int) + 1] = (m_rec σ ((k : Int) + 1)).length := by simp [m_rlen]
                    refine v_cVV (k := 0) (n := 1) C (mE_ok _) trivial hR (kM_putRecord _ xCl D cA ad hJ (m_recs σ (m_turns σ w how t ++ m_turn σ w how (t : Int) k)) (((k : Int) + 1)) (by omega) (fun i => by rw [hq5]; exact h5 i) (fun i => by rw [hq6]; exact h6 i) (by omega) (by omega) (by rw [hrc]; omega)) dM_putRecords_123 (by show (0 : Nat) < 18; decide) rfl rfl gM_96 (by decide +kernel) (by decide) (by decide) rfl (Nat.le_of_ble_eq_true rfl) rfl ⟨rfl, rfl⟩ (fun τ2 hp2 => ?_)
                    subst τ2
                    · exact v_less (by exact ⟨rfl, rfl, rfl, rfl, rfl, trivial⟩) (BK _ (by rw [m_recs_snoc, List.append_assoc]; show _ = m_recs σ (m_turns σ w how t ++ (m_turn σ w how (t : Int) k ++ cif (m_sel σ w how (t : Int) ((k : Int) + 1)) [(k : Int) + 1] [])); rw [cif_pos (by unfold m_sel; omega)]))
            · subst τ1
              subst r1
              refine v_if_eq (tgt := 126) C dM_putRecords_102 (by decide) (by omega) (fun hc8 => ?_) (fun hc8 => ?_)
              · exact v_less (by exact ⟨rfl, rfl, rfl, rfl, rfl, trivial⟩) (BK _ (by show _ = m_recs σ (m_turns σ w how t ++ (m_turn σ w how (t : Int) k ++ cif (m_sel σ w how (t : Int) ((k : Int) + 1)) [(k : Int) + 1] [])); rw [cif_neg (by unfold m_sel; omega), List.append_nil]))
              · refine v_aload_n C dM_putRecords_105 rfl rfl ?_
                refine v_getR (k := 0) (q := 1) C dM_putRecords_106 (by show (0 : Nat) < 18; decide) rfl rfl (by decide) rfl inM lM_7 rfl ?_
                refine v_iload C dM_putRecords_109 rfl ?_
                refine v_zald (k := 1) (v := σ.2 1 (((k : Int) + 1)).toNat) C dM_putRecords_111 (by show (1 : Nat) < 18; decide) rfl rfl (by omega) (by decide) (m_recs_2 _ _ _ _ (by decide) (by decide) (by decide)) ?_
                refine v_if_eq (tgt := 126) C dM_putRecords_112 (by decide) (by omega) (fun hc9 => ?_) (fun hc9 => ?_)
                · exact v_less (by exact ⟨rfl, rfl, rfl, rfl, rfl, trivial⟩) (BK _ (by show _ = m_recs σ (m_turns σ w how t ++ (m_turn σ w how (t : Int) k ++ cif (m_sel σ w how (t : Int) ((k : Int) + 1)) [(k : Int) + 1] [])); rw [cif_neg (by unfold m_sel; omega), List.append_nil]))
                · refine v_iload C dM_putRecords_115 rfl ?_
                  refine v_if_eq (tgt := 126) C dM_putRecords_117 (by decide) (by omega) (fun hc10 => ?_) (fun hc10 => ?_)
                  · exfalso; omega
                  · refine v_aload_n C dM_putRecords_120 rfl rfl ?_
                    refine v_iload C dM_putRecords_121 rfl ?_
                    have hq5 : ∀ i, (m_recs σ (m_turns σ w how t ++ m_turn σ w how (t : Int) k)).2 5 i = σ.2 5 i := fun i => m_recs_2 _ _ _ _ (by decide) (by decide) (by decide)
                    have hq6 : ∀ i, (m_recs σ (m_turns σ w how t ++ m_turn σ w how (t : Int) k)).2 6 i = σ.2 6 i := fun i => m_recs_2 _ _ _ _ (by decide) (by decide) (by decide)
                    have hrc := (m_rec_congr hq5 hq6 (((k : Int) + 1))).1
                    have hsel : m_sel σ w how (t : Int) ((k : Int) + 1) := by unfold m_sel; omega
                    rw [cif_pos hsel] at hl2
                    have hl4 : m_rlen σ [(k : Int) + 1] = (m_rec σ ((k : Int) + 1)).length := by simp [m_rlen]
                    refine v_cVV (k := 0) (n := 1) C (mE_ok _) trivial hR (kM_putRecord _ xCl D cA ad hJ (m_recs σ (m_turns σ w how t ++ m_turn σ w how (t : Int) k)) (((k : Int) + 1)) (by omega) (fun i => by rw [hq5]; exact h5 i) (fun i => by rw [hq6]; exact h6 i) (by omega) (by omega) (by rw [hrc]; omega)) dM_putRecords_123 (by show (0 : Nat) < 18; decide) rfl rfl gM_96 (by decide +kernel) (by decide) (by decide) rfl (Nat.le_of_ble_eq_true rfl) rfl ⟨rfl, rfl⟩ (fun τ3 hp3 => ?_)
                    subst τ3
                    · exact v_less (by exact ⟨rfl, rfl, rfl, rfl, rfl, trivial⟩) (BK _ (by rw [m_recs_snoc, List.append_assoc]; show _ = m_recs σ (m_turns σ w how t ++ (m_turn σ w how (t : Int) k ++ cif (m_sel σ w how (t : Int) ((k : Int) + 1)) [(k : Int) + 1] [])); rw [cif_pos (by unfold m_sel; omega)]))
          · refine v_aload_n C dM_putRecords_65 rfl rfl ?_
            refine v_getR (k := 0) (q := 2) C dM_putRecords_66 (by show (0 : Nat) < 18; decide) rfl rfl (by decide) rfl inM lM_13 rfl ?_
            refine v_iload C dM_putRecords_69 rfl ?_
            refine v_zald (k := 2) (v := σ.2 2 (((k : Int) + 1)).toNat) C dM_putRecords_71 (by show (2 : Nat) < 18; decide) rfl rfl (by omega) (by decide) (m_recs_2 _ _ _ _ (by decide) (by decide) (by decide)) ?_
            refine v_iload_n C dM_putRecords_72 rfl rfl ?_
            refine v_if_ne (tgt := 80) C dM_putRecords_73 (by decide) (by omega) (fun hc11 => ?_) (fun hc11 => ?_)
            · refine v_iconst C dM_putRecords_80 ?_
              refine v_icmp_ne (tgt := 88) C dM_putRecords_81 (by decide) (by omega) (by omega) (fun hc12 => ?_) (fun hc12 => ?_)
              · refine v_iconst C dM_putRecords_88 ?_
                refine v_goto (tgt := 93) C dM_putRecords_89 (by decide) ?_
                refine v_istore C dM_putRecords_93 (by decide) ?_
                refine v_aload_n C dM_putRecords_95 rfl rfl ?_
                refine v_iload C dM_putRecords_96 rfl ?_
                refine v_iload_n C dM_putRecords_98 rfl rfl ?_
                have hm1 : ∀ i, 0 ≤ (m_recs σ (m_turns σ w how t ++ m_turn σ w how (t : Int) k)).2 1 i ∧ (m_recs σ (m_turns σ w how t ++ m_turn σ w how (t : Int) k)).2 1 i ≤ 1 := fun i => by rw [m_recs_2 _ _ _ _ (by decide) (by decide) (by decide)]; exact h1 i
                have hm3 : ∀ i, 0 ≤ (m_recs σ (m_turns σ w how t ++ m_turn σ w how (t : Int) k)).2 3 i ∧ (m_recs σ (m_turns σ w how t ++ m_turn σ w how (t : Int) k)).2 3 i ≤ 1 := fun i => by rw [m_recs_2 _ _ _ _ (by decide) (by decide) (by decide)]; exact h3 i
                refine v_cVI (k := 0) (n := 2) C (mE_ok _) trivial hR (kM_isMeant _ xCl D cA ad hJ (m_recs σ (m_turns σ w how t ++ m_turn σ w how (t : Int) k)) (((k : Int) + 1)) w (by omega) (by omega) hm1 hm3) dM_putRecords_99 (by show (0 : Nat) < 18; decide) rfl rfl gM_92 (by decide +kernel) (by decide) (by decide) rfl (Nat.le_of_ble_eq_true rfl) rfl ⟨rfl, rfl⟩ (fun r4 τ4 hp4 => ?_)
                rw [m_recs_2 _ _ _ _ (by decide) (by decide) (by decide), m_recs_2 _ _ _ _ (by decide) (by decide) (by decide)] at hp4
                rcases hp4 with ⟨hw9, e9, e8⟩ | ⟨hw9, e9, e8⟩
                · subst τ4
                  subst r4
                  refine v_if_eq (tgt := 126) C dM_putRecords_102 (by decide) (by omega) (fun hc13 => ?_) (fun hc13 => ?_)
                  · exact v_less (by exact ⟨rfl, rfl, rfl, rfl, rfl, trivial⟩) (BK _ (by show _ = m_recs σ (m_turns σ w how t ++ (m_turn σ w how (t : Int) k ++ cif (m_sel σ w how (t : Int) ((k : Int) + 1)) [(k : Int) + 1] [])); rw [cif_neg (by unfold m_sel; omega), List.append_nil]))
                  · refine v_aload_n C dM_putRecords_105 rfl rfl ?_
                    refine v_getR (k := 0) (q := 1) C dM_putRecords_106 (by show (0 : Nat) < 18; decide) rfl rfl (by decide) rfl inM lM_7 rfl ?_
                    refine v_iload C dM_putRecords_109 rfl ?_
                    refine v_zald (k := 1) (v := σ.2 1 (((k : Int) + 1)).toNat) C dM_putRecords_111 (by show (1 : Nat) < 18; decide) rfl rfl (by omega) (by decide) (m_recs_2 _ _ _ _ (by decide) (by decide) (by decide)) ?_
                    refine v_if_eq (tgt := 126) C dM_putRecords_112 (by decide) (by omega) (fun hc14 => ?_) (fun hc14 => ?_)
                    · exact v_less (by exact ⟨rfl, rfl, rfl, rfl, rfl, trivial⟩) (BK _ (by show _ = m_recs σ (m_turns σ w how t ++ (m_turn σ w how (t : Int) k ++ cif (m_sel σ w how (t : Int) ((k : Int) + 1)) [(k : Int) + 1] [])); rw [cif_neg (by unfold m_sel; omega), List.append_nil]))
                    · refine v_iload C dM_putRecords_115 rfl ?_
                      refine v_if_eq (tgt := 126) C dM_putRecords_117 (by decide) (by omega) (fun hc15 => ?_) (fun hc15 => ?_)
                      · exact v_less (by exact ⟨rfl, rfl, rfl, rfl, rfl, trivial⟩) (BK _ (by show _ = m_recs σ (m_turns σ w how t ++ (m_turn σ w how (t : Int) k ++ cif (m_sel σ w how (t : Int) ((k : Int) + 1)) [(k : Int) + 1] [])); rw [cif_neg (by unfold m_sel; omega), List.append_nil]))
                      · exfalso; omega
                · subst τ4
                  subst r4
                  refine v_if_eq (tgt := 126) C dM_putRecords_102 (by decide) (by omega) (fun hc16 => ?_) (fun hc16 => ?_)
                  · exact v_less (by exact ⟨rfl, rfl, rfl, rfl, rfl, trivial⟩) (BK _ (by show _ = m_recs σ (m_turns σ w how t ++ (m_turn σ w how (t : Int) k ++ cif (m_sel σ w how (t : Int) ((k : Int) + 1)) [(k : Int) + 1] [])); rw [cif_neg (by unfold m_sel; omega), List.append_nil]))
                  · refine v_aload_n C dM_putRecords_105 rfl rfl ?_
                    refine v_getR (k := 0) (q := 1) C dM_putRecords_106 (by show (0 : Nat) < 18; decide) rfl rfl (by decide) rfl inM lM_7 rfl ?_
                    refine v_iload C dM_putRecords_109 rfl ?_
                    refine v_zald (k := 1) (v := σ.2 1 (((k : Int) + 1)).toNat) C dM_putRecords_111 (by show (1 : Nat) < 18; decide) rfl rfl (by omega) (by decide) (m_recs_2 _ _ _ _ (by decide) (by decide) (by decide)) ?_
                    refine v_if_eq (tgt := 126) C dM_putRecords_112 (by decide) (by omega) (fun hc17 => ?_) (fun hc17 => ?_)
                    · exact v_less (by exact ⟨rfl, rfl, rfl, rfl, rfl, trivial⟩) (BK _ (by show _ = m_recs σ (m_turns σ w how t ++ (m_turn σ w how (t : Int) k ++ cif (m_sel σ w how (t : Int) ((k : Int) + 1)) [(k : Int) + 1] [])); rw [cif_neg (by unfold m_sel; omega), List.append_nil]))
                    · refine v_iload C dM_putRecords_115 rfl ?_
                      refine v_if_eq (tgt := 126) C dM_putRecords_117 (by decide) (by omega) (fun hc18 => ?_) (fun hc18 => ?_)
                      · exact v_less (by exact ⟨rfl, rfl, rfl, rfl, rfl, trivial⟩) (BK _ (by show _ = m_recs σ (m_turns σ w how t ++ (m_turn σ w how (t : Int) k ++ cif (m_sel σ w how (t : Int) ((k : Int) + 1)) [(k : Int) + 1] [])); rw [cif_neg (by unfold m_sel; omega), List.append_nil]))
                      · exfalso; omega
              · refine v_iconst C dM_putRecords_84 ?_
                refine v_goto (tgt := 93) C dM_putRecords_85 (by decide) ?_
                refine v_istore C dM_putRecords_93 (by decide) ?_
                refine v_aload_n C dM_putRecords_95 rfl rfl ?_
                refine v_iload C dM_putRecords_96 rfl ?_
                refine v_iload_n C dM_putRecords_98 rfl rfl ?_
                have hm1 : ∀ i, 0 ≤ (m_recs σ (m_turns σ w how t ++ m_turn σ w how (t : Int) k)).2 1 i ∧ (m_recs σ (m_turns σ w how t ++ m_turn σ w how (t : Int) k)).2 1 i ≤ 1 := fun i => by rw [m_recs_2 _ _ _ _ (by decide) (by decide) (by decide)]; exact h1 i
                have hm3 : ∀ i, 0 ≤ (m_recs σ (m_turns σ w how t ++ m_turn σ w how (t : Int) k)).2 3 i ∧ (m_recs σ (m_turns σ w how t ++ m_turn σ w how (t : Int) k)).2 3 i ≤ 1 := fun i => by rw [m_recs_2 _ _ _ _ (by decide) (by decide) (by decide)]; exact h3 i
                refine v_cVI (k := 0) (n := 2) C (mE_ok _) trivial hR (kM_isMeant _ xCl D cA ad hJ (m_recs σ (m_turns σ w how t ++ m_turn σ w how (t : Int) k)) (((k : Int) + 1)) w (by omega) (by omega) hm1 hm3) dM_putRecords_99 (by show (0 : Nat) < 18; decide) rfl rfl gM_92 (by decide +kernel) (by decide) (by decide) rfl (Nat.le_of_ble_eq_true rfl) rfl ⟨rfl, rfl⟩ (fun r5 τ5 hp5 => ?_)
                rw [m_recs_2 _ _ _ _ (by decide) (by decide) (by decide), m_recs_2 _ _ _ _ (by decide) (by decide) (by decide)] at hp5
                rcases hp5 with ⟨hw9, e9, e8⟩ | ⟨hw9, e9, e8⟩
                · subst τ5
                  subst r5
                  refine v_if_eq (tgt := 126) C dM_putRecords_102 (by decide) (by omega) (fun hc19 => ?_) (fun hc19 => ?_)
                  · exact v_less (by exact ⟨rfl, rfl, rfl, rfl, rfl, trivial⟩) (BK _ (by show _ = m_recs σ (m_turns σ w how t ++ (m_turn σ w how (t : Int) k ++ cif (m_sel σ w how (t : Int) ((k : Int) + 1)) [(k : Int) + 1] [])); rw [cif_neg (by unfold m_sel; omega), List.append_nil]))
                  · refine v_aload_n C dM_putRecords_105 rfl rfl ?_
                    refine v_getR (k := 0) (q := 1) C dM_putRecords_106 (by show (0 : Nat) < 18; decide) rfl rfl (by decide) rfl inM lM_7 rfl ?_
                    refine v_iload C dM_putRecords_109 rfl ?_
                    refine v_zald (k := 1) (v := σ.2 1 (((k : Int) + 1)).toNat) C dM_putRecords_111 (by show (1 : Nat) < 18; decide) rfl rfl (by omega) (by decide) (m_recs_2 _ _ _ _ (by decide) (by decide) (by decide)) ?_
                    refine v_if_eq (tgt := 126) C dM_putRecords_112 (by decide) (by omega) (fun hc20 => ?_) (fun hc20 => ?_)
                    · exact v_less (by exact ⟨rfl, rfl, rfl, rfl, rfl, trivial⟩) (BK _ (by show _ = m_recs σ (m_turns σ w how t ++ (m_turn σ w how (t : Int) k ++ cif (m_sel σ w how (t : Int) ((k : Int) + 1)) [(k : Int) + 1] [])); rw [cif_neg (by unfold m_sel; omega), List.append_nil]))
                    · refine v_iload C dM_putRecords_115 rfl ?_
                      refine v_if_eq (tgt := 126) C dM_putRecords_117 (by decide) (by omega) (fun hc21 => ?_) (fun hc21 => ?_)
                      · exfalso; omega
                      · refine v_aload_n C dM_putRecords_120 rfl rfl ?_
                        refine v_iload C dM_putRecords_121 rfl ?_
                        have hq5 : ∀ i, (m_recs σ (m_turns σ w how t ++ m_turn σ w how (t : Int) k)).2 5 i = σ.2 5 i := fun i => m_recs_2 _ _ _ _ (by decide) (by decide) (by decide)
                        have hq6 : ∀ i, (m_recs σ (m_turns σ w how t ++ m_turn σ w how (t : Int) k)).2 6 i = σ.2 6 i := fun i => m_recs_2 _ _ _ _ (by decide) (by decide) (by decide)
                        have hrc := (m_rec_congr hq5 hq6 (((k : Int) + 1))).1
                        have hsel : m_sel σ w how (t : Int) ((k : Int) + 1) := by unfold m_sel; omega
                        rw [cif_pos hsel] at hl2
                        have hl4 : m_rlen σ [(k : Int) + 1] = (m_rec σ ((k : Int) + 1)).length := by simp [m_rlen]
                        refine v_cVV (k := 0) (n := 1) C (mE_ok _) trivial hR (kM_putRecord _ xCl D cA ad hJ (m_recs σ (m_turns σ w how t ++ m_turn σ w how (t : Int) k)) (((k : Int) + 1)) (by omega) (fun i => by rw [hq5]; exact h5 i) (fun i => by rw [hq6]; exact h6 i) (by omega) (by omega) (by rw [hrc]; omega)) dM_putRecords_123 (by show (0 : Nat) < 18; decide) rfl rfl gM_96 (by decide +kernel) (by decide) (by decide) rfl (Nat.le_of_ble_eq_true rfl) rfl ⟨rfl, rfl⟩ (fun τ6 hp6 => ?_)
                        subst τ6
                        · exact v_less (by exact ⟨rfl, rfl, rfl, rfl, rfl, trivial⟩) (BK _ (by rw [m_recs_snoc, List.append_assoc]; show _ = m_recs σ (m_turns σ w how t ++ (m_turn σ w how (t : Int) k ++ cif (m_sel σ w how (t : Int) ((k : Int) + 1)) [(k : Int) + 1] [])); rw [cif_pos (by unfold m_sel; omega)]))
                · subst τ5
                  subst r5
                  refine v_if_eq (tgt := 126) C dM_putRecords_102 (by decide) (by omega) (fun hc22 => ?_) (fun hc22 => ?_)
                  · exact v_less (by exact ⟨rfl, rfl, rfl, rfl, rfl, trivial⟩) (BK _ (by show _ = m_recs σ (m_turns σ w how t ++ (m_turn σ w how (t : Int) k ++ cif (m_sel σ w how (t : Int) ((k : Int) + 1)) [(k : Int) + 1] [])); rw [cif_neg (by unfold m_sel; omega), List.append_nil]))
                  · refine v_aload_n C dM_putRecords_105 rfl rfl ?_
                    refine v_getR (k := 0) (q := 1) C dM_putRecords_106 (by show (0 : Nat) < 18; decide) rfl rfl (by decide) rfl inM lM_7 rfl ?_
                    refine v_iload C dM_putRecords_109 rfl ?_
                    refine v_zald (k := 1) (v := σ.2 1 (((k : Int) + 1)).toNat) C dM_putRecords_111 (by show (1 : Nat) < 18; decide) rfl rfl (by omega) (by decide) (m_recs_2 _ _ _ _ (by decide) (by decide) (by decide)) ?_
                    refine v_if_eq (tgt := 126) C dM_putRecords_112 (by decide) (by omega) (fun hc23 => ?_) (fun hc23 => ?_)
                    · exact v_less (by exact ⟨rfl, rfl, rfl, rfl, rfl, trivial⟩) (BK _ (by show _ = m_recs σ (m_turns σ w how t ++ (m_turn σ w how (t : Int) k ++ cif (m_sel σ w how (t : Int) ((k : Int) + 1)) [(k : Int) + 1] [])); rw [cif_neg (by unfold m_sel; omega), List.append_nil]))
                    · refine v_iload C dM_putRecords_115 rfl ?_
                      refine v_if_eq (tgt := 126) C dM_putRecords_117 (by decide) (by omega) (fun hc24 => ?_) (fun hc24 => ?_)
                      · exfalso; omega
                      · refine v_aload_n C dM_putRecords_120 rfl rfl ?_
                        refine v_iload C dM_putRecords_121 rfl ?_
                        have hq5 : ∀ i, (m_recs σ (m_turns σ w how t ++ m_turn σ w how (t : Int) k)).2 5 i = σ.2 5 i := fun i => m_recs_2 _ _ _ _ (by decide) (by decide) (by decide)
                        have hq6 : ∀ i, (m_recs σ (m_turns σ w how t ++ m_turn σ w how (t : Int) k)).2 6 i = σ.2 6 i := fun i => m_recs_2 _ _ _ _ (by decide) (by decide) (by decide)
                        have hrc := (m_rec_congr hq5 hq6 (((k : Int) + 1))).1
                        have hsel : m_sel σ w how (t : Int) ((k : Int) + 1) := by unfold m_sel; omega
                        rw [cif_pos hsel] at hl2
                        have hl4 : m_rlen σ [(k : Int) + 1] = (m_rec σ ((k : Int) + 1)).length := by simp [m_rlen]
                        refine v_cVV (k := 0) (n := 1) C (mE_ok _) trivial hR (kM_putRecord _ xCl D cA ad hJ (m_recs σ (m_turns σ w how t ++ m_turn σ w how (t : Int) k)) (((k : Int) + 1)) (by omega) (fun i => by rw [hq5]; exact h5 i) (fun i => by rw [hq6]; exact h6 i) (by omega) (by omega) (by rw [hrc]; omega)) dM_putRecords_123 (by show (0 : Nat) < 18; decide) rfl rfl gM_96 (by decide +kernel) (by decide) (by decide) rfl (Nat.le_of_ble_eq_true rfl) rfl ⟨rfl, rfl⟩ (fun τ7 hp7 => ?_)
                        subst τ7
                        · exact v_less (by exact ⟨rfl, rfl, rfl, rfl, rfl, trivial⟩) (BK _ (by rw [m_recs_snoc, List.append_assoc]; show _ = m_recs σ (m_turns σ w how t ++ (m_turn σ w how (t : Int) k ++ cif (m_sel σ w how (t : Int) ((k : Int) + 1)) [(k : Int) + 1] [])); rw [cif_pos (by unfold m_sel; omega)]))
            · refine v_iconst C dM_putRecords_76 ?_
              refine v_goto (tgt := 81) C dM_putRecords_77 (by decide) ?_
              refine v_icmp_ne (tgt := 88) C dM_putRecords_81 (by decide) (by omega) (by omega) (fun hc25 => ?_) (fun hc25 => ?_)
              · refine v_iconst C dM_putRecords_88 ?_
                refine v_goto (tgt := 93) C dM_putRecords_89 (by decide) ?_
                refine v_istore C dM_putRecords_93 (by decide) ?_
                refine v_aload_n C dM_putRecords_95 rfl rfl ?_
                refine v_iload C dM_putRecords_96 rfl ?_
                refine v_iload_n C dM_putRecords_98 rfl rfl ?_
                have hm1 : ∀ i, 0 ≤ (m_recs σ (m_turns σ w how t ++ m_turn σ w how (t : Int) k)).2 1 i ∧ (m_recs σ (m_turns σ w how t ++ m_turn σ w how (t : Int) k)).2 1 i ≤ 1 := fun i => by rw [m_recs_2 _ _ _ _ (by decide) (by decide) (by decide)]; exact h1 i
                have hm3 : ∀ i, 0 ≤ (m_recs σ (m_turns σ w how t ++ m_turn σ w how (t : Int) k)).2 3 i ∧ (m_recs σ (m_turns σ w how t ++ m_turn σ w how (t : Int) k)).2 3 i ≤ 1 := fun i => by rw [m_recs_2 _ _ _ _ (by decide) (by decide) (by decide)]; exact h3 i
                refine v_cVI (k := 0) (n := 2) C (mE_ok _) trivial hR (kM_isMeant _ xCl D cA ad hJ (m_recs σ (m_turns σ w how t ++ m_turn σ w how (t : Int) k)) (((k : Int) + 1)) w (by omega) (by omega) hm1 hm3) dM_putRecords_99 (by show (0 : Nat) < 18; decide) rfl rfl gM_92 (by decide +kernel) (by decide) (by decide) rfl (Nat.le_of_ble_eq_true rfl) rfl ⟨rfl, rfl⟩ (fun r8 τ8 hp8 => ?_)
                rw [m_recs_2 _ _ _ _ (by decide) (by decide) (by decide), m_recs_2 _ _ _ _ (by decide) (by decide) (by decide)] at hp8
                rcases hp8 with ⟨hw9, e9, e8⟩ | ⟨hw9, e9, e8⟩
                · subst τ8
                  subst r8
                  refine v_if_eq (tgt := 126) C dM_putRecords_102 (by decide) (by omega) (fun hc26 => ?_) (fun hc26 => ?_)
                  · exact v_less (by exact ⟨rfl, rfl, rfl, rfl, rfl, trivial⟩) (BK _ (by show _ = m_recs σ (m_turns σ w how t ++ (m_turn σ w how (t : Int) k ++ cif (m_sel σ w how (t : Int) ((k : Int) + 1)) [(k : Int) + 1] [])); rw [cif_neg (by unfold m_sel; omega), List.append_nil]))
                  · refine v_aload_n C dM_putRecords_105 rfl rfl ?_
                    refine v_getR (k := 0) (q := 1) C dM_putRecords_106 (by show (0 : Nat) < 18; decide) rfl rfl (by decide) rfl inM lM_7 rfl ?_
                    refine v_iload C dM_putRecords_109 rfl ?_
                    refine v_zald (k := 1) (v := σ.2 1 (((k : Int) + 1)).toNat) C dM_putRecords_111 (by show (1 : Nat) < 18; decide) rfl rfl (by omega) (by decide) (m_recs_2 _ _ _ _ (by decide) (by decide) (by decide)) ?_
                    refine v_if_eq (tgt := 126) C dM_putRecords_112 (by decide) (by omega) (fun hc27 => ?_) (fun hc27 => ?_)
                    · exact v_less (by exact ⟨rfl, rfl, rfl, rfl, rfl, trivial⟩) (BK _ (by show _ = m_recs σ (m_turns σ w how t ++ (m_turn σ w how (t : Int) k ++ cif (m_sel σ w how (t : Int) ((k : Int) + 1)) [(k : Int) + 1] [])); rw [cif_neg (by unfold m_sel; omega), List.append_nil]))
                    · refine v_iload C dM_putRecords_115 rfl ?_
                      refine v_if_eq (tgt := 126) C dM_putRecords_117 (by decide) (by omega) (fun hc28 => ?_) (fun hc28 => ?_)
                      · exact v_less (by exact ⟨rfl, rfl, rfl, rfl, rfl, trivial⟩) (BK _ (by show _ = m_recs σ (m_turns σ w how t ++ (m_turn σ w how (t : Int) k ++ cif (m_sel σ w how (t : Int) ((k : Int) + 1)) [(k : Int) + 1] [])); rw [cif_neg (by unfold m_sel; omega), List.append_nil]))
                      · exfalso; omega
                · subst τ8
                  subst r8
                  refine v_if_eq (tgt := 126) C dM_putRecords_102 (by decide) (by omega) (fun hc29 => ?_) (fun hc29 => ?_)
                  · exact v_less (by exact ⟨rfl, rfl, rfl, rfl, rfl, trivial⟩) (BK _ (by show _ = m_recs σ (m_turns σ w how t ++ (m_turn σ w how (t : Int) k ++ cif (m_sel σ w how (t : Int) ((k : Int) + 1)) [(k : Int) + 1] [])); rw [cif_neg (by unfold m_sel; omega), List.append_nil]))
                  · refine v_aload_n C dM_putRecords_105 rfl rfl ?_
                    refine v_getR (k := 0) (q := 1) C dM_putRecords_106 (by show (0 : Nat) < 18; decide) rfl rfl (by decide) rfl inM lM_7 rfl ?_
                    refine v_iload C dM_putRecords_109 rfl ?_
                    refine v_zald (k := 1) (v := σ.2 1 (((k : Int) + 1)).toNat) C dM_putRecords_111 (by show (1 : Nat) < 18; decide) rfl rfl (by omega) (by decide) (m_recs_2 _ _ _ _ (by decide) (by decide) (by decide)) ?_
                    refine v_if_eq (tgt := 126) C dM_putRecords_112 (by decide) (by omega) (fun hc30 => ?_) (fun hc30 => ?_)
                    · exact v_less (by exact ⟨rfl, rfl, rfl, rfl, rfl, trivial⟩) (BK _ (by show _ = m_recs σ (m_turns σ w how t ++ (m_turn σ w how (t : Int) k ++ cif (m_sel σ w how (t : Int) ((k : Int) + 1)) [(k : Int) + 1] [])); rw [cif_neg (by unfold m_sel; omega), List.append_nil]))
                    · refine v_iload C dM_putRecords_115 rfl ?_
                      refine v_if_eq (tgt := 126) C dM_putRecords_117 (by decide) (by omega) (fun hc31 => ?_) (fun hc31 => ?_)
                      · exact v_less (by exact ⟨rfl, rfl, rfl, rfl, rfl, trivial⟩) (BK _ (by show _ = m_recs σ (m_turns σ w how t ++ (m_turn σ w how (t : Int) k ++ cif (m_sel σ w how (t : Int) ((k : Int) + 1)) [(k : Int) + 1] [])); rw [cif_neg (by unfold m_sel; omega), List.append_nil]))
                      · exfalso; omega
              · refine v_iconst C dM_putRecords_84 ?_
                refine v_goto (tgt := 93) C dM_putRecords_85 (by decide) ?_
                refine v_istore C dM_putRecords_93 (by decide) ?_
                refine v_aload_n C dM_putRecords_95 rfl rfl ?_
                refine v_iload C dM_putRecords_96 rfl ?_
                refine v_iload_n C dM_putRecords_98 rfl rfl ?_
                have hm1 : ∀ i, 0 ≤ (m_recs σ (m_turns σ w how t ++ m_turn σ w how (t : Int) k)).2 1 i ∧ (m_recs σ (m_turns σ w how t ++ m_turn σ w how (t : Int) k)).2 1 i ≤ 1 := fun i => by rw [m_recs_2 _ _ _ _ (by decide) (by decide) (by decide)]; exact h1 i
                have hm3 : ∀ i, 0 ≤ (m_recs σ (m_turns σ w how t ++ m_turn σ w how (t : Int) k)).2 3 i ∧ (m_recs σ (m_turns σ w how t ++ m_turn σ w how (t : Int) k)).2 3 i ≤ 1 := fun i => by rw [m_recs_2 _ _ _ _ (by decide) (by decide) (by decide)]; exact h3 i
                refine v_cVI (k := 0) (n := 2) C (mE_ok _) trivial hR (kM_isMeant _ xCl D cA ad hJ (m_recs σ (m_turns σ w how t ++ m_turn σ w how (t : Int) k)) (((k : Int) + 1)) w (by omega) (by omega) hm1 hm3) dM_putRecords_99 (by show (0 : Nat) < 18; decide) rfl rfl gM_92 (by decide +kernel) (by decide) (by decide) rfl (Nat.le_of_ble_eq_true rfl) rfl ⟨rfl, rfl⟩ (fun r9 τ9 hp9 => ?_)
                rw [m_recs_2 _ _ _ _ (by decide) (by decide) (by decide), m_recs_2 _ _ _ _ (by decide) (by decide) (by decide)] at hp9
                rcases hp9 with ⟨hw9, e9, e8⟩ | ⟨hw9, e9, e8⟩
                · subst τ9
                  subst r9
                  refine v_if_eq (tgt := 126) C dM_putRecords_102 (by decide) (by omega) (fun hc32 => ?_) (fun hc32 => ?_)
                  · exact v_less (by exact ⟨rfl, rfl, rfl, rfl, rfl, trivial⟩) (BK _ (by show _ = m_recs σ (m_turns σ w how t ++ (m_turn σ w how (t : Int) k ++ cif (m_sel σ w how (t : Int) ((k : Int) + 1)) [(k : Int) + 1] [])); rw [cif_neg (by unfold m_sel; omega), List.append_nil]))
                  · refine v_aload_n C dM_putRecords_105 rfl rfl ?_
                    refine v_getR (k := 0) (q := 1) C dM_putRecords_106 (by show (0 : Nat) < 18; decide) rfl rfl (by decide) rfl inM lM_7 rfl ?_
                    refine v_iload C dM_putRecords_109 rfl ?_
                    refine v_zald (k := 1) (v := σ.2 1 (((k : Int) + 1)).toNat) C dM_putRecords_111 (by show (1 : Nat) < 18; decide) rfl rfl (by omega) (by decide) (m_recs_2 _ _ _ _ (by decide) (by decide) (by decide)) ?_
                    refine v_if_eq (tgt := 126) C dM_putRecords_112 (by decide) (by omega) (fun hc33 => ?_) (fun hc33 => ?_)
                    · exact v_less (by exact ⟨rfl, rfl, rfl, rfl, rfl, trivial⟩) (BK _ (by show _ = m_recs σ (m_turns σ w how t ++ (m_turn σ w how (t : Int) k ++ cif (m_sel σ w how (t : Int) ((k : Int) + 1)) [(k : Int) + 1] [])); rw [cif_neg (by unfold m_sel; omega), List.append_nil]))
                    · refine v_iload C dM_putRecords_115 rfl ?_
                      refine v_if_eq (tgt := 126) C dM_putRecords_117 (by decide) (by omega) (fun hc34 => ?_) (fun hc34 => ?_)
                      · exfalso; omega
                      · refine v_aload_n C dM_putRecords_120 rfl rfl ?_
                        refine v_iload C dM_putRecords_121 rfl ?_
                        have hq5 : ∀ i, (m_recs σ (m_turns σ w how t ++ m_turn σ w how (t : Int) k)).2 5 i = σ.2 5 i := fun i => m_recs_2 _ _ _ _ (by decide) (by decide) (by decide)
                        have hq6 : ∀ i, (m_recs σ (m_turns σ w how t ++ m_turn σ w how (t : Int) k)).2 6 i = σ.2 6 i := fun i => m_recs_2 _ _ _ _ (by decide) (by decide) (by decide)
                        have hrc := (m_rec_congr hq5 hq6 (((k : Int) + 1))).1
                        have hsel : m_sel σ w how (t : Int) ((k : Int) + 1) := by unfold m_sel; omega
                        rw [cif_pos hsel] at hl2
                        have hl4 : m_rlen σ [(k : Int) + 1] = (m_rec σ ((k : Int) + 1)).length := by simp [m_rlen]
                        refine v_cVV (k := 0) (n := 1) C (mE_ok _) trivial hR (kM_putRecord _ xCl D cA ad hJ (m_recs σ (m_turns σ w how t ++ m_turn σ w how (t : Int) k)) (((k : Int) + 1)) (by omega) (fun i => by rw [hq5]; exact h5 i) (fun i => by rw [hq6]; exact h6 i) (by omega) (by omega) (by rw [hrc]; omega)) dM_putRecords_123 (by show (0 : Nat) < 18; decide) rfl rfl gM_96 (by decide +kernel) (by decide) (by decide) rfl (Nat.le_of_ble_eq_true rfl) rfl ⟨rfl, rfl⟩ (fun τ10 hp10 => ?_)
                        subst τ10
                        · exact v_less (by exact ⟨rfl, rfl, rfl, rfl, rfl, trivial⟩) (BK _ (by rw [m_recs_snoc, List.append_assoc]; show _ = m_recs σ (m_turns σ w how t ++ (m_turn σ w how (t : Int) k ++ cif (m_sel σ w how (t : Int) ((k : Int) + 1)) [(k : Int) + 1] [])); rw [cif_pos (by unfold m_sel; omega)]))
                · subst τ9
                  subst r9
                  refine v_if_eq (tgt := 126) C dM_putRecords_102 (by decide) (by omega) (fun hc35 => ?_) (fun hc35 => ?_)
                  · exact v_less (by exact ⟨rfl, rfl, rfl, rfl, rfl, trivial⟩) (BK _ (by show _ = m_recs σ (m_turns σ w how t ++ (m_turn σ w how (t : Int) k ++ cif (m_sel σ w how (t : Int) ((k : Int) + 1)) [(k : Int) + 1] [])); rw [cif_neg (by unfold m_sel; omega), List.append_nil]))
                  · refine v_aload_n C dM_putRecords_105 rfl rfl ?_
                    refine v_getR (k := 0) (q := 1) C dM_putRecords_106 (by show (0 : Nat) < 18; decide) rfl rfl (by decide) rfl inM lM_7 rfl ?_
                    refine v_iload C dM_putRecords_109 rfl ?_
                    refine v_zald (k := 1) (v := σ.2 1 (((k : Int) + 1)).toNat) C dM_putRecords_111 (by show (1 : Nat) < 18; decide) rfl rfl (by omega) (by decide) (m_recs_2 _ _ _ _ (by decide) (by decide) (by decide)) ?_
                    refine v_if_eq (tgt := 126) C dM_putRecords_112 (by decide) (by omega) (fun hc36 => ?_) (fun hc36 => ?_)
                    · exact v_less (by exact ⟨rfl, rfl, rfl, rfl, rfl, trivial⟩) (BK _ (by show _ = m_recs σ (m_turns σ w how t ++ (m_turn σ w how (t : Int) k ++ cif (m_sel σ w how (t : Int) ((k : Int) + 1)) [(k : Int) + 1] [])); rw [cif_neg (by unfold m_sel; omega), List.append_nil]))
                    · refine v_iload C dM_putRecords_115 rfl ?_
                      refine v_if_eq (tgt := 126) C dM_putRecords_117 (by decide) (by omega) (fun hc37 => ?_) (fun hc37 => ?_)
                      · exfalso; omega
                      · refine v_aload_n C dM_putRecords_120 rfl rfl ?_
                        refine v_iload C dM_putRecords_121 rfl ?_
                        have hq5 : ∀ i, (m_recs σ (m_turns σ w how t ++ m_turn σ w how (t : Int) k)).2 5 i = σ.2 5 i := fun i => m_recs_2 _ _ _ _ (by decide) (by decide) (by decide)
                        have hq6 : ∀ i, (m_recs σ (m_turns σ w how t ++ m_turn σ w how (t : Int) k)).2 6 i = σ.2 6 i := fun i => m_recs_2 _ _ _ _ (by decide) (by decide) (by decide)
                        have hrc := (m_rec_congr hq5 hq6 (((k : Int) + 1))).1
                        have hsel : m_sel σ w how (t : Int) ((k : Int) + 1) := by unfold m_sel; omega
                        rw [cif_pos hsel] at hl2
                        have hl4 : m_rlen σ [(k : Int) + 1] = (m_rec σ ((k : Int) + 1)).length := by simp [m_rlen]
                        refine v_cVV (k := 0) (n := 1) C (mE_ok _) trivial hR (kM_putRecord _ xCl D cA ad hJ (m_recs σ (m_turns σ w how t ++ m_turn σ w how (t : Int) k)) (((k : Int) + 1)) (by omega) (fun i => by rw [hq5]; exact h5 i) (fun i => by rw [hq6]; exact h6 i) (by omega) (by omega) (by rw [hrc]; omega)) dM_putRecords_123 (by show (0 : Nat) < 18; decide) rfl rfl gM_96 (by decide +kernel) (by decide) (by decide) rfl (Nat.le_of_ble_eq_true rfl) rfl ⟨rfl, rfl⟩ (fun τ11 hp11 => ?_)
                        subst τ11
                        · exact v_less (by exact ⟨rfl, rfl, rfl, rfl, rfl, trivial⟩) (BK _ (by rw [m_recs_snoc, List.append_assoc]; show _ = m_recs σ (m_turns σ w how t ++ (m_turn σ w how (t : Int) k ++ cif (m_sel σ w how (t : Int) ((k : Int) + 1)) [(k : Int) + 1] [])); rw [cif_pos (by unfold m_sel; omega)]))
        · refine v_aload_n C dM_putRecords_41 rfl rfl ?_
          refine v_getR (k := 0) (q := 5) C dM_putRecords_42 (by show (0 : Nat) < 18; decide) rfl rfl (by decide) rfl inM lM_22 rfl ?_
          refine v_iload C dM_putRecords_45 rfl ?_
          refine v_iald (k := 5) (v := σ.2 5 (((k : Int) + 1)).toNat) C dM_putRecords_47 (by show (5 : Nat) < 18; decide) rfl rfl (by omega) (by decide) (m_recs_2 _ _ _ _ (by decide) (by decide) (by decide)) ?_
          refine v_iload_n C dM_putRecords_48 rfl rfl ?_
          refine v_icmp_ne (tgt := 56) C dM_putRecords_49 (by decide) (by omega) (by omega) (fun hc38 => ?_) (fun hc38 => ?_)
          · refine v_iconst C dM_putRecords_56 ?_
            refine v_goto (tgt := 93) C dM_putRecords_57 (by decide) ?_
            refine v_istore C dM_putRecords_93 (by decide) ?_
            refine v_aload_n C dM_putRecords_95 rfl rfl ?_
            refine v_iload C dM_putRecords_96 rfl ?_
            refine v_iload_n C dM_putRecords_98 rfl rfl ?_
            have hm1 : ∀ i, 0 ≤ (m_recs σ (m_turns σ w how t ++ m_turn σ w how (t : Int) k)).2 1 i ∧ (m_recs σ (m_turns σ w how t ++ m_turn σ w how (t : Int) k)).2 1 i ≤ 1 := fun i => by rw [m_recs_2 _ _ _ _ (by decide) (by decide) (by decide)]; exact h1 i
            have hm3 : ∀ i, 0 ≤ (m_recs σ (m_turns σ w how t ++ m_turn σ w how (t : Int) k)).2 3 i ∧ (m_recs σ (m_turns σ w how t ++ m_turn σ w how (t : Int) k)).2 3 i ≤ 1 := fun i => by rw [m_recs_2 _ _ _ _ (by decide) (by decide) (by decide)]; exact h3 i
            refine v_cVI (k := 0) (n := 2) C (mE_ok _) trivial hR (kM_isMeant _ xCl D cA ad hJ (m_recs σ (m_turns σ w how t ++ m_turn σ w how (t : Int) k)) (((k : Int) + 1)) w (by omega) (by omega) hm1 hm3) dM_putRecords_99 (by show (0 : Nat) < 18; decide) rfl rfl gM_92 (by decide +kernel) (by decide) (by decide) rfl (Nat.le_of_ble_eq_true rfl) rfl ⟨rfl, rfl⟩ (fun r12 τ12 hp12 => ?_)
            rw [m_recs_2 _ _ _ _ (by decide) (by decide) (by decide), m_recs_2 _ _ _ _ (by decide) (by decide) (by decide)] at hp12
            rcases hp12 with ⟨hw9, e9, e8⟩ | ⟨hw9, e9, e8⟩
            · subst τ12
              subst r12
              refine v_if_eq (tgt := 126) C dM_putRecords_102 (by decide) (by omega) (fun hc39 => ?_) (fun hc39 => ?_)
              · exact v_less (by exact ⟨rfl, rfl, rfl, rfl, rfl, trivial⟩) (BK _ (by show _ = m_recs σ (m_turns σ w how t ++ (m_turn σ w how (t : Int) k ++ cif (m_sel σ w how (t : Int) ((k : Int) + 1)) [(k : Int) + 1] [])); rw [cif_neg (by unfold m_sel; omega), List.append_nil]))
              · refine v_aload_n C dM_putRecords_105 rfl rfl ?_
                refine v_getR (k := 0) (q := 1) C dM_putRecords_106 (by show (0 : Nat) < 18; decide) rfl rfl (by decide) rfl inM lM_7 rfl ?_
                refine v_iload C dM_putRecords_109 rfl ?_
                refine v_zald (k := 1) (v := σ.2 1 (((k : Int) + 1)).toNat) C dM_putRecords_111 (by show (1 : Nat) < 18; decide) rfl rfl (by omega) (by decide) (m_recs_2 _ _ _ _ (by decide) (by decide) (by decide)) ?_
                refine v_if_eq (tgt := 126) C dM_putRecords_112 (by decide) (by omega) (fun hc40 => ?_) (fun hc40 => ?_)
                · exact v_less (by exact ⟨rfl, rfl, rfl, rfl, rfl, trivial⟩) (BK _ (by show _ = m_recs σ (m_turns σ w how t ++ (m_turn σ w how (t : Int) k ++ cif (m_sel σ w how (t : Int) ((k : Int) + 1)) [(k : Int) + 1] [])); rw [cif_neg (by unfold m_sel; omega), List.append_nil]))
                · refine v_iload C dM_putRecords_115 rfl ?_
                  refine v_if_eq (tgt := 126) C dM_putRecords_117 (by decide) (by omega) (fun hc41 => ?_) (fun hc41 => ?_)
                  · exact v_less (by exact ⟨rfl, rfl, rfl, rfl, rfl, trivial⟩) (BK _ (by show _ = m_recs σ (m_turns σ w how t ++ (m_turn σ w how (t : Int) k ++ cif (m_sel σ w how (t : Int) ((k : Int) + 1)) [(k : Int) + 1] [])); rw [cif_neg (by unfold m_sel; omega), List.append_nil]))
                  · exfalso; omega
            · subst τ12
              subst r12
              refine v_if_eq (tgt := 126) C dM_putRecords_102 (by decide) (by omega) (fun hc42 => ?_) (fun hc42 => ?_)
              · exact v_less (by exact ⟨rfl, rfl, rfl, rfl, rfl, trivial⟩) (BK _ (by show _ = m_recs σ (m_turns σ w how t ++ (m_turn σ w how (t : Int) k ++ cif (m_sel σ w how (t : Int) ((k : Int) + 1)) [(k : Int) + 1] [])); rw [cif_neg (by unfold m_sel; omega), List.append_nil]))
              · refine v_aload_n C dM_putRecords_105 rfl rfl ?_
                refine v_getR (k := 0) (q := 1) C dM_putRecords_106 (by show (0 : Nat) < 18; decide) rfl rfl (by decide) rfl inM lM_7 rfl ?_
                refine v_iload C dM_putRecords_109 rfl ?_
                refine v_zald (k := 1) (v := σ.2 1 (((k : Int) + 1)).toNat) C dM_putRecords_111 (by show (1 : Nat) < 18; decide) rfl rfl (by omega) (by decide) (m_recs_2 _ _ _ _ (by decide) (by decide) (by decide)) ?_
                refine v_if_eq (tgt := 126) C dM_putRecords_112 (by decide) (by omega) (fun hc43 => ?_) (fun hc43 => ?_)
                · exact v_less (by exact ⟨rfl, rfl, rfl, rfl, rfl, trivial⟩) (BK _ (by show _ = m_recs σ (m_turns σ w how t ++ (m_turn σ w how (t : Int) k ++ cif (m_sel σ w how (t : Int) ((k : Int) + 1)) [(k : Int) + 1] [])); rw [cif_neg (by unfold m_sel; omega), List.append_nil]))
                · refine v_iload C dM_putRecords_115 rfl ?_
                  refine v_if_eq (tgt := 126) C dM_putRecords_117 (by decide) (by omega) (fun hc44 => ?_) (fun hc44 => ?_)
                  · exact v_less (by exact ⟨rfl, rfl, rfl, rfl, rfl, trivial⟩) (BK _ (by show _ = m_recs σ (m_turns σ w how t ++ (m_turn σ w how (t : Int) k ++ cif (m_sel σ w how (t : Int) ((k : Int) + 1)) [(k : Int) + 1] [])); rw [cif_neg (by unfold m_sel; omega), List.append_nil]))
                  · exfalso; omega
          · refine v_iconst C dM_putRecords_52 ?_
            refine v_goto (tgt := 93) C dM_putRecords_53 (by decide) ?_
            refine v_istore C dM_putRecords_93 (by decide) ?_
            refine v_aload_n C dM_putRecords_95 rfl rfl ?_
            refine v_iload C dM_putRecords_96 rfl ?_
            refine v_iload_n C dM_putRecords_98 rfl rfl ?_
            have hm1 : ∀ i, 0 ≤ (m_recs σ (m_turns σ w how t ++ m_turn σ w how (t : Int) k)).2 1 i ∧ (m_recs σ (m_turns σ w how t ++ m_turn σ w how (t : Int) k)).2 1 i ≤ 1 := fun i => by rw [m_recs_2 _ _ _ _ (by decide) (by decide) (by decide)]; exact h1 i
            have hm3 : ∀ i, 0 ≤ (m_recs σ (m_turns σ w how t ++ m_turn σ w how (t : Int) k)).2 3 i ∧ (m_recs σ (m_turns σ w how t ++ m_turn σ w how (t : Int) k)).2 3 i ≤ 1 := fun i => by rw [m_recs_2 _ _ _ _ (by decide) (by decide) (by decide)]; exact h3 i
            refine v_cVI (k := 0) (n := 2) C (mE_ok _) trivial hR (kM_isMeant _ xCl D cA ad hJ (m_recs σ (m_turns σ w how t ++ m_turn σ w how (t : Int) k)) (((k : Int) + 1)) w (by omega) (by omega) hm1 hm3) dM_putRecords_99 (by show (0 : Nat) < 18; decide) rfl rfl gM_92 (by decide +kernel) (by decide) (by decide) rfl (Nat.le_of_ble_eq_true rfl) rfl ⟨rfl, rfl⟩ (fun r13 τ13 hp13 => ?_)
            rw [m_recs_2 _ _ _ _ (by decide) (by decide) (by decide), m_recs_2 _ _ _ _ (by decide) (by decide) (by decide)] at hp13
            rcases hp13 with ⟨hw9, e9, e8⟩ | ⟨hw9, e9, e8⟩
            · subst τ13
              subst r13
              refine v_if_eq (tgt := 126) C dM_putRecords_102 (by decide) (by omega) (fun hc45 => ?_) (fun hc45 => ?_)
              · exact v_less (by exact ⟨rfl, rfl, rfl, rfl, rfl, trivial⟩) (BK _ (by show _ = m_recs σ (m_turns σ w how t ++ (m_turn σ w how (t : Int) k ++ cif (m_sel σ w how (t : Int) ((k : Int) + 1)) [(k : Int) + 1] [])); rw [cif_neg (by unfold m_sel; omega), List.append_nil]))
              · refine v_aload_n C dM_putRecords_105 rfl rfl ?_
                refine v_getR (k := 0) (q := 1) C dM_putRecords_106 (by show (0 : Nat) < 18; decide) rfl rfl (by decide) rfl inM lM_7 rfl ?_
                refine v_iload C dM_putRecords_109 rfl ?_
                refine v_zald (k := 1) (v := σ.2 1 (((k : Int) + 1)).toNat) C dM_putRecords_111 (by show (1 : Nat) < 18; decide) rfl rfl (by omega) (by decide) (m_recs_2 _ _ _ _ (by decide) (by decide) (by decide)) ?_
                refine v_if_eq (tgt := 126) C dM_putRecords_112 (by decide) (by omega) (fun hc46 => ?_) (fun hc46 => ?_)
                · exact v_less (by exact ⟨rfl, rfl, rfl, rfl, rfl, trivial⟩) (BK _ (by show _ = m_recs σ (m_turns σ w how t ++ (m_turn σ w how (t : Int) k ++ cif (m_sel σ w how (t : Int) ((k : Int) + 1)) [(k : Int) + 1] [])); rw [cif_neg (by unfold m_sel; omega), List.append_nil]))
                · refine v_iload C dM_putRecords_115 rfl ?_
                  refine v_if_eq (tgt := 126) C dM_putRecords_117 (by decide) (by omega) (fun hc47 => ?_) (fun hc47 => ?_)
                  · exfalso; omega
                  · refine v_aload_n C dM_putRecords_120 rfl rfl ?_
                    refine v_iload C dM_putRecords_121 rfl ?_
                    have hq5 : ∀ i, (m_recs σ (m_turns σ w how t ++ m_turn σ w how (t : Int) k)).2 5 i = σ.2 5 i := fun i => m_recs_2 _ _ _ _ (by decide) (by decide) (by decide)
                    have hq6 : ∀ i, (m_recs σ (m_turns σ w how t ++ m_turn σ w how (t : Int) k)).2 6 i = σ.2 6 i := fun i => m_recs_2 _ _ _ _ (by decide) (by decide) (by decide)
                    have hrc := (m_rec_congr hq5 hq6 (((k : Int) + 1))).1
                    have hsel : m_sel σ w how (t : Int) ((k : Int) + 1) := by unfold m_sel; omega
                    rw [cif_pos hsel] at hl2
                    have hl4 : m_rlen σ [(k : Int) + 1] = (m_rec σ ((k : Int) + 1)).length := by simp [m_rlen]
                    refine v_cVV (k := 0) (n := 1) C (mE_ok _) trivial hR (kM_putRecord _ xCl D cA ad hJ (m_recs σ (m_turns σ w how t ++ m_turn σ w how (t : Int) k)) (((k : Int) + 1)) (by omega) (fun i => by rw [hq5]; exact h5 i) (fun i => by rw [hq6]; exact h6 i) (by omega) (by omega) (by rw [hrc]; omega)) dM_putRecords_123 (by show (0 : Nat) < 18; decide) rfl rfl gM_96 (by decide +kernel) (by decide) (by decide) rfl (Nat.le_of_ble_eq_true rfl) rfl ⟨rfl, rfl⟩ (fun τ14 hp14 => ?_)
                    subst τ14
                    · exact v_less (by exact ⟨rfl, rfl, rfl, rfl, rfl, trivial⟩) (BK _ (by rw [m_recs_snoc, List.append_assoc]; show _ = m_recs σ (m_turns σ w how t ++ (m_turn σ w how (t : Int) k ++ cif (m_sel σ w how (t : Int) ((k : Int) + 1)) [(k : Int) + 1] [])); rw [cif_pos (by unfold m_sel; omega)]))
            · subst τ13
              subst r13
              refine v_if_eq (tgt := 126) C dM_putRecords_102 (by decide) (by omega) (fun hc48 => ?_) (fun hc48 => ?_)
              · exact v_less (by exact ⟨rfl, rfl, rfl, rfl, rfl, trivial⟩) (BK _ (by show _ = m_recs σ (m_turns σ w how t ++ (m_turn σ w how (t : Int) k ++ cif (m_sel σ w how (t : Int) ((k : Int) + 1)) [(k : Int) + 1] [])); rw [cif_neg (by unfold m_sel; omega), List.append_nil]))
              · refine v_aload_n C dM_putRecords_105 rfl rfl ?_
                refine v_getR (k := 0) (q := 1) C dM_putRecords_106 (by show (0 : Nat) < 18; decide) rfl rfl (by decide) rfl inM lM_7 rfl ?_
                refine v_iload C dM_putRecords_109 rfl ?_
                refine v_zald (k := 1) (v := σ.2 1 (((k : Int) + 1)).toNat) C dM_putRecords_111 (by show (1 : Nat) < 18; decide) rfl rfl (by omega) (by decide) (m_recs_2 _ _ _ _ (by decide) (by decide) (by decide)) ?_
                refine v_if_eq (tgt := 126) C dM_putRecords_112 (by decide) (by omega) (fun hc49 => ?_) (fun hc49 => ?_)
                · exact v_less (by exact ⟨rfl, rfl, rfl, rfl, rfl, trivial⟩) (BK _ (by show _ = m_recs σ (m_turns σ w how t ++ (m_turn σ w how (t : Int) k ++ cif (m_sel σ w how (t : Int) ((k : Int) + 1)) [(k : Int) + 1] [])); rw [cif_neg (by unfold m_sel; omega), List.append_nil]))
                · refine v_iload C dM_putRecords_115 rfl ?_
                  refine v_if_eq (tgt := 126) C dM_putRecords_117 (by decide) (by omega) (fun hc50 => ?_) (fun hc50 => ?_)
                  · exfalso; omega
                  · refine v_aload_n C dM_putRecords_120 rfl rfl ?_
                    refine v_iload C dM_putRecords_121 rfl ?_
                    have hq5 : ∀ i, (m_recs σ (m_turns σ w how t ++ m_turn σ w how (t : Int) k)).2 5 i = σ.2 5 i := fun i => m_recs_2 _ _ _ _ (by decide) (by decide) (by decide)
                    have hq6 : ∀ i, (m_recs σ (m_turns σ w how t ++ m_turn σ w how (t : Int) k)).2 6 i = σ.2 6 i := fun i => m_recs_2 _ _ _ _ (by decide) (by decide) (by decide)
                    have hrc := (m_rec_congr hq5 hq6 (((k : Int) + 1))).1
                    have hsel : m_sel σ w how (t : Int) ((k : Int) + 1) := by unfold m_sel; omega
                    rw [cif_pos hsel] at hl2
                    have hl4 : m_rlen σ [(k : Int) + 1] = (m_rec σ ((k : Int) + 1)).length := by simp [m_rlen]
                    refine v_cVV (k := 0) (n := 1) C (mE_ok _) trivial hR (kM_putRecord _ xCl D cA ad hJ (m_recs σ (m_turns σ w how t ++ m_turn σ w how (t : Int) k)) (((k : Int) + 1)) (by omega) (fun i => by rw [hq5]; exact h5 i) (fun i => by rw [hq6]; exact h6 i) (by omega) (by omega) (by rw [hrc]; omega)) dM_putRecords_123 (by show (0 : Nat) < 18; decide) rfl rfl gM_96 (by decide +kernel) (by decide) (by decide) rfl (Nat.le_of_ble_eq_true rfl) rfl ⟨rfl, rfl⟩ (fun τ15 hp15 => ?_)
                    subst τ15
                    · exact v_less (by exact ⟨rfl, rfl, rfl, rfl, rfl, trivial⟩) (BK _ (by rw [m_recs_snoc, List.append_assoc]; show _ = m_recs σ (m_turns σ w how t ++ (m_turn σ w how (t : Int) k ++ cif (m_sel σ w how (t : Int) ((k : Int) + 1)) [(k : Int) + 1] [])); rw [cif_pos (by unfold m_sel; omega)]))
  have LO : ∀ (m t : Nat), m + t = m_last how + 1 → fv z (mG xCl D cA ad) 6 (f_R z (mG xCl D cA ad) (f_QV (fun σ1 => σ1 = m_recs σ (m_turns σ w how (m_last how + 1))) (mG xCl D cA ad))) 0 0 (m_recs σ (m_turns σ w how t)) 2 [some (.ref (ad 0)), some (.int (fI w)), some (.int (fI how)), some (.int (fI (t : Int))), none, none] [] := by
    intro m
    induction m with
    | zero =>
      intro t ht
      refine v_iload_n C dM_putRecords_2 rfl rfl ?_
      refine v_iload_n C dM_putRecords_3 rfl rfl ?_
      refine v_iconst C dM_putRecords_4 ?_
      refine v_icmp_ne (tgt := 13) C dM_putRecords_5 (by decide) (by omega) (by omega) (fun hc51 => ?_) (fun hc51 => ?_)
      · refine v_iload_n C dM_putRecords_13 rfl rfl ?_
        refine v_iconst C dM_putRecords_14 ?_
        refine v_icmp_ne (tgt := 22) C dM_putRecords_15 (by decide) (by omega) (by omega) (fun hc52 => ?_) (fun hc52 => ?_)
        · refine v_iconst C dM_putRecords_22 ?_
          refine v_icmp_gt (tgt := 138) C dM_putRecords_23 (by decide) (by omega) (by omega) (fun hc53 => ?_) (fun hc53 => ?_)
          · exact v_vret C hRt hLk dM_putRecords_138 (by rw [show t = m_last how + 1 by omega])
          · exfalso; omega
        · refine v_iconst C dM_putRecords_18 ?_
          refine v_goto (tgt := 23) C dM_putRecords_19 (by decide) ?_
          refine v_icmp_gt (tgt := 138) C dM_putRecords_23 (by decide) (by omega) (by omega) (fun hc54 => ?_) (fun hc54 => ?_)
          · exact v_vret C hRt hLk dM_putRecords_138 (by rw [show t = m_last how + 1 by omega])
          · exfalso; omega
      · refine v_bipush C dM_putRecords_8 (by decide +kernel) ?_
        refine v_goto (tgt := 23) C dM_putRecords_10 (by decide) ?_
        refine v_icmp_gt (tgt := 138) C dM_putRecords_23 (by decide) (by omega) (by omega) (fun hc55 => ?_) (fun hc55 => ?_)
        · exact v_vret C hRt hLk dM_putRecords_138 (by rw [show t = m_last how + 1 by omega])
        · exfalso; omega
    | succ m ih =>
      intro t ht
      have KK : fv z (mG xCl D cA ad) 6 (f_R z (mG xCl D cA ad) (f_QV (fun σ1 => σ1 = m_recs σ (m_turns σ w how (m_last how + 1))) (mG xCl D cA ad))) 0 0 (m_recs σ (m_turns σ w how (t + 1))) 132 [some (.ref (ad 0)), some (.int (fI w)), some (.int (fI how)), some (.int (fI (t : Int))), none, none] [] := by
        refine v_iinc C dM_putRecords_132 rfl (by decide) ?_
        refine v_goto (tgt := 2) C dM_putRecords_135 (by decide) ?_
        exact v_lv rfl (ih (t + 1) (by omega))
      refine v_iload_n C dM_putRecords_2 rfl rfl ?_
      refine v_iload_n C dM_putRecords_3 rfl rfl ?_
      refine v_iconst C dM_putRecords_4 ?_
      refine v_icmp_ne (tgt := 13) C dM_putRecords_5 (by decide) (by omega) (by omega) (fun hc56 => ?_) (fun hc56 => ?_)
      · refine v_iload_n C dM_putRecords_13 rfl rfl ?_
        refine v_iconst C dM_putRecords_14 ?_
        refine v_icmp_ne (tgt := 22) C dM_putRecords_15 (by decide) (by omega) (by omega) (fun hc57 => ?_) (fun hc57 => ?_)
        · refine v_iconst C dM_putRecords_22 ?_
          refine v_icmp_gt (tgt := 138) C dM_putRecords_23 (by decide) (by omega) (by omega) (fun hc58 => ?_) (fun hc58 => ?_)
          · exfalso; omega
          · refine v_iconst C dM_putRecords_26 ?_
            refine v_istore C dM_putRecords_27 (by decide) ?_
            exact v_less (by exact ⟨rfl, rfl, rfl, rfl, rfl, trivial⟩) (v_st (by rw [show m_turn σ w how (t : Int) 0 = [] from rfl, List.append_nil]) (LI t (by omega) KK 40 0 (by omega)))
        · refine v_iconst C dM_putRecords_18 ?_
          refine v_goto (tgt := 23) C dM_putRecords_19 (by decide) ?_
          refine v_icmp_gt (tgt := 138) C dM_putRecords_23 (by decide) (by omega) (by omega) (fun hc59 => ?_) (fun hc59 => ?_)
          · exfalso; omega
          · refine v_iconst C dM_putRecords_26 ?_
            refine v_istore C dM_putRecords_27 (by decide) ?_
            exact v_less (by exact ⟨rfl, rfl, rfl, rfl, rfl, trivial⟩) (v_st (by rw [show m_turn σ w how (t : Int) 0 = [] from rfl, List.append_nil]) (LI t (by omega) KK 40 0 (by omega)))
      · refine v_bipush C dM_putRecords_8 (by decide +kernel) ?_
        refine v_goto (tgt := 23) C dM_putRecords_10 (by decide) ?_
        refine v_icmp_gt (tgt := 138) C dM_putRecords_23 (by decide) (by omega) (by omega) (fun hc60 => ?_) (fun hc60 => ?_)
        · exfalso; omega
        · refine v_iconst C dM_putRecords_26 ?_
          refine v_istore C dM_putRecords_27 (by decide) ?_
          exact v_less (by exact ⟨rfl, rfl, rfl, rfl, rfl, trivial⟩) (v_st (by rw [show m_turn σ w how (t : Int) 0 = [] from rfl, List.append_nil]) (LI t (by omega) KK 40 0 (by omega)))
  refine v_iconst C dM_putRecords_0 ?_
  refine v_istore_n C dM_putRecords_1 rfl (by decide) ?_
  exact v_less (by exact ⟨rfl, rfl, rfl, rfl, trivial⟩) (LO (m_last how + 1) 0 (by omega))
end
section
theorem m_sel_congr {σ τ : fS} (h1 : ∀ i, τ.2 1 i = σ.2 1 i) (h2 : ∀ i, τ.2 2 i = σ.2 2 i) (h3 : ∀ i, τ.2 3 i = σ.2 3 i) (h5 : ∀ i, τ.2 5 i = σ.2 5 i) (w how t n : Int) : m_sel τ w how t n = m_sel σ w how t n := by
  unfold m_sel
  simp only [h1, h2, h3, h5]
theorem m_turn_congr {σ τ : fS} (h1 : ∀ i, τ.2 1 i = σ.2 1 i) (h2 : ∀ i, τ.2 2 i = σ.2 2 i) (h3 : ∀ i, τ.2 3 i = σ.2 3 i) (h5 : ∀ i, τ.2 5 i = σ.2 5 i) (w how t : Int) (k : Nat) : m_turn τ w how t k = m_turn σ w how t k := by
  induction k with
  | zero => rfl
  | succ k ih => unfold m_turn; rw [ih, m_sel_congr h1 h2 h3 h5]
theorem m_turns_congr {σ τ : fS} (h1 : ∀ i, τ.2 1 i = σ.2 1 i) (h2 : ∀ i, τ.2 2 i = σ.2 2 i) (h3 : ∀ i, τ.2 3 i = σ.2 3 i) (h5 : ∀ i, τ.2 5 i = σ.2 5 i) (w how : Int) (t : Nat) : m_turns τ w how t = m_turns σ w how t := by
  induction t with
  | zero => rfl
  | succ t ih => unfold m_turns; rw [ih, m_turn_congr h1 h2 h3 h5]
theorem m_recs_13 (l : List Int) : ∀ (σ : fS), 0 ≤ σ.1 0 16 → σ.1 0 16 + m_rlen σ l ≤ 99999 → (∀ i, 0 ≤ σ.2 13 i ∧ σ.2 13 i ≤ 99999) → ∀ i, 0 ≤ (m_recs σ l).2 13 i ∧ (m_recs σ l).2 13 i ≤ 99999 := by
  induction l with
  | nil => intro σ _ _ h i; exact h i
  | cons x r ih =>
    intro σ h0 h1 h i
    show 0 ≤ (m_recs (m_puts (m_r0 σ x) (m_rec σ x)) r).2 13 i ∧ _
    have e1 := m_one_1 σ x 0 16
    rw [if_pos ⟨rfl, rfl⟩] at e1
    have e2 := m_rlen_congr (fun i => m_one_2 σ x 5 i (by decide) (by decide) (by decide)) (fun i => m_one_2 σ x 6 i (by decide) (by decide) (by decide)) r
    unfold m_rlen at h1
    refine ih _ (by rw [e1]; omega) (by rw [e1, e2]; omega) (fun j => ?_) i
    rw [m_puts_2 _ _ _ _ (by decide)]
    unfold m_r0
    rw [p2_2, if_neg (by omega), p2_2]
    split
    · omega
    · exact h j
/-- what a PART is made of: whether object n is meant, rows of those -/
def m_mv (B : fS) (w : Int) (i : Nat) : Int := if w = 1 then B.2 1 i else B.2 3 i
def m_rows (B : fS) (w : Int) : Nat → List Int
  | 0 => []
  | k + 1 => m_rows B w k ++ (if m_mv B w (k + 1) = 1 then m_row B ((k : Int) + 1) else [])
theorem m_rows_le (B : fS) (w : Int) (a b : Nat) : (m_rows B w a).length ≤ (m_rows B w (a + b)).length ∧ (m_rows B w a).length ≤ 12 * a := by
  constructor
  · induction b with
    | zero => exact Nat.le_refl _
    | succ b ih =>
      refine Nat.le_trans ih ?_
      show _ ≤ (m_rows B w (a + b) ++ _).length
      rw [List.length_append]
      omega
  · induction a with
    | zero => exact Nat.le_refl _
    | succ a ih =>
      show (m_rows B w a ++ _).length ≤ _
      rw [List.length_append]
      have := m_row_len B ((a : Int) + 1)
      split
      · omega
      · simp; omega
def m_tail (B : fS) (w q : Int) : List Int := m_tell 120 (m_cnt (m_mv B w) 40) ++ m_rows B w 40 ++ m_tell 112 q ++ m_tell 101 (B.1 0 16)
theorem m_tail_len (B : fS) (w q : Int) : (m_tail B w q).length = (m_tell 120 (m_cnt (m_mv B w) 40)).length + (m_rows B w 40).length + (m_tell 112 q).length + (m_tell 101 (B.1 0 16)).length := by
  unfold m_tail
  simp only [List.length_append]
noncomputable def m_body (σ : fS) (a w how : Int) : fS := m_recs (m_puts (f_p1 σ 0 16 a) (if w = 1 then [37, 70, 49, 10] else [])) (m_turns σ w how (m_last how + 1))
/-- the place that a PART's p line tells -/
def m_pq (σ : fS) (w : Int) : Int := if w = 1 then 0 else σ.2 9 (σ.1 0 10 - 1).toNat
noncomputable def m_part (σ : fS) (a w how : Int) : fS := f_p1 (m_puts (m_body σ a w how) (m_tail (m_body σ a w how) w (m_pq σ w))) 0 26 ((m_body σ a w how).1 0 16)
theorem m_row_congr {σ τ : fS} (h1 : ∀ i, τ.2 1 i = σ.2 1 i) (h13 : ∀ i, τ.2 13 i = σ.2 13 i) (n : Int) : m_row τ n = m_row σ n := by
  unfold m_row
  simp only [h1, h13]
set_option maxRecDepth 100000 in
set_option maxHeartbeats 4000000 in
/-- putPart(from, whole, how) -/
theorem kM_putPart (l : Launch) (xCl : List vw_C) (D : va_G) (cA : Nat → ClassId) (ad : Nat → Nat) (hJ : f_J (mG xCl D cA ad)) (σ : fS) (a w how : Int) (ha : 0 ≤ a ∧ a ≤ 12000) (hw : w = 0 ∨ w = 1) (hh : 0 ≤ how ∧ how ≤ 2) (hrv : w = 0 → 1 ≤ σ.1 0 10 ∧ σ.1 0 10 ≤ 60) (h1 : ∀ i, 0 ≤ σ.2 1 i ∧ σ.2 1 i ≤ 1) (h2 : ∀ i, 0 ≤ σ.2 2 i ∧ σ.2 2 i ≤ 1) (h3 : ∀ i, 0 ≤ σ.2 3 i ∧ σ.2 3 i ≤ 1) (h5 : ∀ i, 0 ≤ σ.2 5 i ∧ σ.2 5 i ≤ 120) (h6 : ∀ i, -128 ≤ σ.2 6 i ∧ σ.2 6 i ≤ 127) (h9 : ∀ i, 0 ≤ σ.2 9 i ∧ σ.2 9 i ≤ 99999) (h13 : ∀ i, 0 ≤ σ.2 13 i ∧ σ.2 13 i ≤ 99999) (hc : σ.1 0 17 = 0 ∨ σ.1 0 17 = 1) (hnT : a + m_rlen σ (m_turns σ w how (m_last how + 1)) ≤ 80000) (hf : σ.1 0 17 = 0 → (m_body σ a w how).1 0 16 + (m_tail (m_body σ a w how) w (m_pq σ w)).length ≤ 12000) (hf0 : σ.1 0 17 = 0 → a + 4 + m_rlen σ (m_turns σ w how (m_last how + 1)) ≤ 12000) : f_M l (mG xCl D cA ad) mE yM_putPart (Cond.code yM_putPart cM_putPart 7 (some .int) :: A9) 4 σ [.ref (ad 0), .int (fI a), .int (fI w), .int (fI how)] (f_QI (fun r σ1 => r = (m_part σ a w how).1 0 16 ∧ σ1 = m_part σ a w how) (mG xCl D cA ad)) := by
  refine f_enter (by decide +kernel) hJ rfl (Nat.le_of_ble_eq_true rfl) ?_
  intro z hzl hR C hRt hLk hEz
  subst hzl
  have KA : fv z (mG xCl D cA ad) 7 (f_R z (mG xCl D cA ad) (f_QI (fun r σ1 => r = (m_part σ a w how).1 0 16 ∧ σ1 = m_part σ a w how) (mG xCl D cA ad))) 0 0 (m_puts (f_p1 σ 0 16 a) (if w = 1 then [37, 70, 49, 10] else [])) 33 [some (.ref (ad 0)), some (.int (fI a)), some (.int (fI w)), some (.int (fI how)), none, none, none] [] := by
    refine v_aload_n C dM_putPart_33 rfl rfl ?_
    refine v_iload_n C dM_putPart_34 rfl rfl ?_
    refine v_iload_n C dM_putPart_35 rfl rfl ?_
    have hS2 : ∀ (k i : Nat), k ≠ 7 → (m_puts (f_p1 σ 0 16 a) (if w = 1 then [37, 70, 49, 10] else [])).2 k i = σ.2 k i := fun k i h => m_puts_2 _ _ _ _ h
    have hS16 : (m_puts (f_p1 σ 0 16 a) (if w = 1 then [37, 70, 49, 10] else [])).1 0 16 = a + (if w = 1 then [37, 70, 49, 10] else ([] : List Int)).length := m_puts_next _ _
    have hS17 : (m_puts (f_p1 σ 0 16 a) (if w = 1 then [37, 70, 49, 10] else [])).1 0 17 = σ.1 0 17 := m_puts_cnt _ _
    have hSt : m_turns (m_puts (f_p1 σ 0 16 a) (if w = 1 then [37, 70, 49, 10] else [])) w how (m_last how + 1) = m_turns σ w how (m_last how + 1) := m_turns_congr (fun i => hS2 1 i (by decide)) (fun i => hS2 2 i (by decide)) (fun i => hS2 3 i (by decide)) (fun i => hS2 5 i (by decide)) w how _
    have hSl : ∀ l, m_rlen (m_puts (f_p1 σ 0 16 a) (if w = 1 then [37, 70, 49, 10] else [])) l = m_rlen σ l := fun l => m_rlen_congr (fun i => hS2 5 i (by decide)) (fun i => hS2 6 i (by decide)) l
    have hfl : (if w = 1 then [37, 70, 49, 10] else ([] : List Int)).length ≤ 4 := by split <;> simp
    refine v_cVV (k := 0) (n := 2) C (mE_ok _) trivial hR (kM_putRecords _ xCl D cA ad hJ (m_puts (f_p1 σ 0 16 a) (if w = 1 then [37, 70, 49, 10] else [])) w how (by omega) (by omega) (fun i => by rw [hS2 1 i (by decide)]; exact h1 i) (fun i => by rw [hS2 2 i (by decide)]; exact h2 i) (fun i => by rw [hS2 3 i (by decide)]; exact h3 i) (fun i => by rw [hS2 5 i (by decide)]; exact h5 i) (fun i => by rw [hS2 6 i (by decide)]; exact h6 i) (by rw [hS16]; omega) (by rw [hS16, hSt, hSl]; omega) (by rw [hS17]; exact hc) (by rw [hS17, hS16, hSt, hSl]; omega)) dM_putPart_36 (by show (0 : Nat) < 18; decide) rfl rfl gM_99 (by decide +kernel) (by decide) (by decide) rfl (Nat.le_of_ble_eq_true rfl) rfl ⟨rfl, rfl⟩ (fun τ1 hp1 => ?_)
    subst τ1
    rw [hSt]
    obtain ⟨B, hB⟩ : ∃ s, s = m_recs (m_puts (f_p1 σ 0 16 a) (if w = 1 then [37, 70, 49, 10] else [])) (m_turns σ w how (m_last how + 1)) := ⟨_, rfl⟩
    refine v_st hB.symm ?_
    have hBm : B = m_body σ a w how := hB
    have hBa : ∀ (k i : Nat), k ≠ 7 → k ≠ 13 → k ≠ 14 → B.2 k i = σ.2 k i := fun k i q1 q2 q3 => by rw [hB, m_recs_2 _ _ _ _ q1 q2 q3]; exact hS2 k i q1
    have hB16 : B.1 0 16 = a + (if w = 1 then [37, 70, 49, 10] else ([] : List Int)).length + m_rlen σ (m_turns σ w how (m_last how + 1)) := by rw [hB, m_recs_next, hS16, hSl]
    have hBs : ∀ q, q ≠ 16 → B.1 0 q = σ.1 0 q := fun q hq => by rw [hB, m_recs_1, if_neg (by omega), m_puts_1, if_neg (by omega), p1_1, if_neg (by omega)]
    have hB17 : B.1 0 17 = σ.1 0 17 := hBs 17 (by decide)
    have hB13 : ∀ i, 0 ≤ B.2 13 i ∧ B.2 13 i ≤ 99999 := by rw [hB]; exact m_recs_13 _ _ (by rw [hS16]; omega) (by rw [hS16, hSl]; omega) (fun i => by rw [hS2 13 i (by decide)]; exact h13 i)
    have hmv01 : ∀ i, 0 ≤ m_mv B w i ∧ m_mv B w i ≤ 1 := fun i => by unfold m_mv; split; (· rw [hBa 1 i (by decide) (by decide) (by decide)]; exact h1 i); (· rw [hBa 3 i (by decide) (by decide) (by decide)]; exact h3 i)
    have hmc := m_cnt_le (m_mv B w) 40
    have hrw := m_rows_le B w 40 0
    have htl := m_tail_len B w (m_pq σ w)
    have hpq : 0 ≤ m_pq σ w ∧ m_pq σ w ≤ 99999 := by unfold m_pq; split; (· omega); (· exact h9 _)
    have hu1 := m_tell_len 120 (m_cnt (m_mv B w) 40)
    have hu2 := m_tell_len 112 (m_pq σ w)
    have hu3 := m_tell_len 101 (B.1 0 16)
    rw [← hBm] at hf
    · have LR : ∀ (m k : Nat), m + k = 40 → fv z (mG xCl D cA ad) 7 (f_R z (mG xCl D cA ad) (f_QI (fun r σ1 => r = (m_part σ a w how).1 0 16 ∧ σ1 = m_part σ a w how) (mG xCl D cA ad))) 0 0 (m_puts B (m_tell 120 (m_cnt (m_mv B w) 40) ++ m_rows B w k)) 96 [some (.ref (ad 0)), some (.int (fI a)), some (.int (fI w)), some (.int (fI how)), some (.int (fI (B.1 0 16))), some (.int (fI (m_cnt (m_mv B w) 40))), some (.int (fI ((k : Int) + 1)))] [] := by
        intro m
        induction m with
        | zero =>
          intro k hk
          have hk40 : k = 40 := by omega
          subst hk40
          refine v_iload C dM_putPart_96 rfl ?_
          refine v_bipush C dM_putPart_98 (by decide +kernel) ?_
          refine v_icmp_gt (tgt := 125) C dM_putPart_100 (by decide) (by omega) (by omega) (fun hc1 => ?_) (fun hc1 => ?_)
          · refine v_aload_n C dM_putPart_125 rfl rfl ?_
            refine v_bipush C dM_putPart_126 (by decide +kernel) ?_
            refine v_iload_n C dM_putPart_128 rfl rfl ?_
            refine v_if_eq (tgt := 136) C dM_putPart_129 (by decide) (by omega) (fun hc2 => ?_) (fun hc2 => ?_)
            · refine v_aload_n C dM_putPart_136 rfl rfl ?_
              refine v_getR (k := 0) (q := 12) C dM_putPart_137 (by show (0 : Nat) < 18; decide) rfl rfl (by decide) rfl inM lM_36 rfl ?_
              refine v_aload_n C dM_putPart_140 rfl rfl ?_
              refine v_getI (k := 0) (q := 10) (v := σ.1 0 10) C dM_putPart_141 (by show (0 : Nat) < 18; decide) rfl rfl (by decide) rfl inM lM_110 rfl ((by rw [m_puts_1, if_neg (by decide)]; exact hBs 10 (by decide))) ?_
              refine v_iconst C dM_putPart_144 ?_
              refine v_isub C dM_putPart_145 ?_
              refine v_iald (k := 9) (v := σ.2 9 ((σ.1 0 10 - 1)).toNat) C dM_putPart_146 (by show (9 : Nat) < 18; decide) rfl rfl (by omega) (by decide) ((m_puts_2 _ _ _ _ (by decide)).trans (hBa 9 _ (by decide) (by decide) (by decide))) ?_
              refine v_top (b := m_pq σ w) (by unfold m_pq; rw [if_neg (by omega)]) ?_
              have hx3 := m_puts_next B (m_tell 120 (m_cnt (m_mv B w) 40) ++ m_rows B w 40)
              try simp only [List.length_append, List.length_cons, List.length_nil] at hx3
              have hy4 := m_puts_cnt B (m_tell 120 (m_cnt (m_mv B w) 40) ++ m_rows B w 40)
              have hu5 := m_tell_len (112) (m_pq σ w)
              have hu6 : (m_tell (112) (m_pq σ w)).length = (dig (m_pq σ w)).length + 3 := by unfold m_tell; simp
              refine v_cVV (k := 0) (n := 2) C (mE_ok _) trivial hR (kM_putTold _ xCl D cA ad hJ (m_puts B (m_tell 120 (m_cnt (m_mv B w) 40) ++ m_rows B w 40)) (112) (m_pq σ w) (by omega) (by omega) (by omega) (by omega) (by omega)) dM_putPart_147 (by show (0 : Nat) < 18; decide) rfl rfl gM_103 (by decide +kernel) (by decide) (by decide) rfl (Nat.le_of_ble_eq_true rfl) rfl ⟨rfl, rfl⟩ (fun τ2 hp2 => ?_)
              subst τ2
              refine v_st (σ1 := m_puts B (m_tell 120 (m_cnt (m_mv B w) 40) ++ m_rows B w 40 ++ m_tell (112) (m_pq σ w))) (m_puts_app _ _ _).symm ?_
              · refine v_aload_n C dM_putPart_150 rfl rfl ?_
                refine v_bipush C dM_putPart_151 (by decide +kernel) ?_
                refine v_iload C dM_putPart_153 rfl ?_
                have hx7 := m_puts_next B (m_tell 120 (m_cnt (m_mv B w) 40) ++ m_rows B w 40 ++ m_tell (112) (m_pq σ w))
                try simp only [List.length_append, List.length_cons, List.length_nil] at hx7
                have hy8 := m_puts_cnt B (m_tell 120 (m_cnt (m_mv B w) 40) ++ m_rows B w 40 ++ m_tell (112) (m_pq σ w))
                have hu9 := m_tell_len (101) ((B.1 0 16))
                have hu10 : (m_tell (101) ((B.1 0 16))).length = (dig ((B.1 0 16))).length + 3 := by unfold m_tell; simp
                refine v_cVV (k := 0) (n := 2) C (mE_ok _) trivial hR (kM_putTold _ xCl D cA ad hJ (m_puts B (m_tell 120 (m_cnt (m_mv B w) 40) ++ m_rows B w 40 ++ m_tell (112) (m_pq σ w))) (101) ((B.1 0 16)) (by omega) (by omega) (by omega) (by omega) (by omega)) dM_putPart_155 (by show (0 : Nat) < 18; decide) rfl rfl gM_103 (by decide +kernel) (by decide) (by decide) rfl (Nat.le_of_ble_eq_true rfl) rfl ⟨rfl, rfl⟩ (fun τ3 hp3 => ?_)
                subst τ3
                refine v_st (σ1 := m_puts B (m_tell 120 (m_cnt (m_mv B w) 40) ++ m_rows B w 40 ++ m_tell (112) (m_pq σ w) ++ m_tell (101) ((B.1 0 16)))) (m_puts_app _ _ _).symm ?_
                · refine v_aload_n C dM_putPart_158 rfl rfl ?_
                  refine v_iload C dM_putPart_159 rfl ?_
                  refine v_putI (k := 0) (q := 26) C dM_putPart_161 (by show (0 : Nat) < 18; decide) rfl rfl (by decide) rfl inM tyM_ok nmM lM_113 rfl rfl rfl rfl rfl ?_
                  refine v_aload_n C dM_putPart_164 rfl rfl ?_
                  refine v_getI (k := 0) (q := 16) (v := B.1 0 16 + (m_tell 120 (m_cnt (m_mv B w) 40) ++ m_rows B w 40 ++ m_tell (112) (m_pq σ w) ++ m_tell (101) ((B.1 0 16)) : List Int).length) C dM_putPart_165 (by show (0 : Nat) < 18; decide) rfl rfl (by decide) rfl inM lM_82 rfl (m_puts_next _ _) ?_
                  exact v_iret C hRt hLk dM_putPart_168 (by unfold m_part; rw [← hBm]; exact ⟨by rw [p1_1, if_neg (by decide), m_puts_next]; rfl, rfl⟩)
            · refine v_iconst C dM_putPart_132 ?_
              refine v_top (b := m_pq σ w) (by unfold m_pq; rw [if_pos (by omega)]) ?_
              refine v_goto (tgt := 147) C dM_putPart_133 (by decide) ?_
              have hx11 := m_puts_next B (m_tell 120 (m_cnt (m_mv B w) 40) ++ m_rows B w 40)
              try simp only [List.length_append, List.length_cons, List.length_nil] at hx11
              have hy12 := m_puts_cnt B (m_tell 120 (m_cnt (m_mv B w) 40) ++ m_rows B w 40)
              have hu13 := m_tell_len (112) (m_pq σ w)
              have hu14 : (m_tell (112) (m_pq σ w)).length = (dig (m_pq σ w)).length + 3 := by unfold m_tell; simp
              refine v_cVV (k := 0) (n := 2) C (mE_ok _) trivial hR (kM_putTold _ xCl D cA ad hJ (m_puts B (m_tell 120 (m_cnt (m_mv B w) 40) ++ m_rows B w 40)) (112) (m_pq σ w) (by omega) (by omega) (by omega) (by omega) (by omega)) dM_putPart_147 (by show (0 : Nat) < 18; decide) rfl rfl gM_103 (by decide +kernel) (by decide) (by decide) rfl (Nat.le_of_ble_eq_true rfl) rfl ⟨rfl, rfl⟩ (fun τ4 hp4 => ?_)
              subst τ4
              refine v_st (σ1 := m_puts B (m_tell 120 (m_cnt (m_mv B w) 40) ++ m_rows B w 40 ++ m_tell (112) (m_pq σ w))) (m_puts_app _ _ _).symm ?_
              · refine v_aload_n C dM_putPart_150 rfl rfl ?_
                refine v_bipush C dM_putPart_151 (by decide +kernel) ?_
                refine v_iload C dM_putPart_153 rfl ?_
                have hx15 := m_puts_next B (m_tell 120 (m_cnt (m_mv B w) 40) ++ m_rows B w 40 ++ m_tell (112) (m_pq σ w))
                try simp only [List.length_append, List.length_cons, List.length_nil] at hx15
                have hy16 := m_puts_cnt B (m_tell 120 (m_cnt (m_mv B w) 40) ++ m_rows B w 40 ++ m_tell (112) (m_pq σ w))
                have hu17 := m_tell_len (101) ((B.1 0 16))
                have hu18 : (m_tell (101) ((B.1 0 16))).length = (dig ((B.1 0 16))).length + 3 := by unfold m_tell; simp
                refine v_cVV (k := 0) (n := 2) C (mE_ok _) trivial hR (kM_putTold _ xCl D cA ad hJ (m_puts B (m_tell 120 (m_cnt (m_mv B w) 40) ++ m_rows B w 40 ++ m_tell (112) (m_pq σ w))) (101) ((B.1 0 16)) (by omega) (by omega) (by omega) (by omega) (by omega)) dM_putPart_155 (by show (0 : Nat) < 18; decide) rfl rfl gM_103 (by decide +kernel) (by decide) (by decide) rfl (Nat.le_of_ble_eq_true rfl) rfl ⟨rfl, rfl⟩ (fun τ5 hp5 => ?_)
                subst τ5
                refine v_st (σ1 := m_puts B (m_tell 120 (m_cnt (m_mv B w) 40) ++ m_rows B w 40 ++ m_tell (112) (m_pq σ w) ++ m_tell (101) ((B.1 0 16)))) (m_puts_app _ _ _).symm ?_
                · refine v_aload_n C dM_putPart_158 rfl rfl ?_
                  refine v_iload C dM_putPart_159 rfl ?_
                  refine v_putI (k := 0) (q := 26) C dM_putPart_161 (by show (0 : Nat) < 18; decide) rfl rfl (by decide) rfl inM tyM_ok nmM lM_113 rfl rfl rfl rfl rfl ?_
                  refine v_aload_n C dM_putPart_164 rfl rfl ?_
                  refine v_getI (k := 0) (q := 16) (v := B.1 0 16 + (m_tell 120 (m_cnt (m_mv B w) 40) ++ m_rows B w 40 ++ m_tell (112) (m_pq σ w) ++ m_tell (101) ((B.1 0 16)) : List Int).length) C dM_putPart_165 (by show (0 : Nat) < 18; decide) rfl rfl (by decide) rfl inM lM_82 rfl (m_puts_next _ _) ?_
                  exact v_iret C hRt hLk dM_putPart_168 (by unfold m_part; rw [← hBm]; exact ⟨by rw [p1_1, if_neg (by decide), m_puts_next]; rfl, rfl⟩)
          · exfalso; omega
        | succ m ih =>
          intro k hk
          have hle := (m_rows_le B w (k + 1) m).1
          rw [show k + 1 + m = 40 by omega] at hle
          rw [show m_rows B w (k + 1) = m_rows B w k ++ (if m_mv B w (k + 1) = 1 then m_row B ((k : Int) + 1) else []) from rfl, List.length_append] at hle
          have hkt : ((k : Int) + 1).toNat = k + 1 := by omega
          have hrl := m_row_len B ((k : Int) + 1)
          refine v_iload C dM_putPart_96 rfl ?_
          refine v_bipush C dM_putPart_98 (by decide +kernel) ?_
          refine v_icmp_gt (tgt := 125) C dM_putPart_100 (by decide) (by omega) (by omega) (fun hc19 => ?_) (fun hc19 => ?_)
          · exfalso; omega
          · refine v_aload_n C dM_putPart_103 rfl rfl ?_
            refine v_iload C dM_putPart_104 rfl ?_
            refine v_iload_n C dM_putPart_106 rfl rfl ?_
            have hm1 : ∀ i, 0 ≤ (m_puts B (m_tell 120 (m_cnt (m_mv B w) 40) ++ m_rows B w k)).2 1 i ∧ (m_puts B (m_tell 120 (m_cnt (m_mv B w) 40) ++ m_rows B w k)).2 1 i ≤ 1 := fun i => by rw [m_puts_2 _ _ _ _ (by decide)]; rw [hBa 1 i (by decide) (by decide) (by decide)]; exact h1 i
            have hm3 : ∀ i, 0 ≤ (m_puts B (m_tell 120 (m_cnt (m_mv B w) 40) ++ m_rows B w k)).2 3 i ∧ (m_puts B (m_tell 120 (m_cnt (m_mv B w) 40) ++ m_rows B w k)).2 3 i ≤ 1 := fun i => by rw [m_puts_2 _ _ _ _ (by decide)]; rw [hBa 3 i (by decide) (by decide) (by decide)]; exact h3 i
            have hmv : m_mv B w (((k : Int) + 1)).toNat = m_mv B w (((k : Int) + 1)).toNat := rfl
            unfold m_mv at hmv
            refine v_cVI (k := 0) (n := 2) C (mE_ok _) trivial hR (kM_isMeant _ xCl D cA ad hJ (m_puts B (m_tell 120 (m_cnt (m_mv B w) 40) ++ m_rows B w k)) (((k : Int) + 1)) w (by omega) (by omega) hm1 hm3) dM_putPart_107 (by show (0 : Nat) < 18; decide) rfl rfl gM_92 (by decide +kernel) (by decide) (by decide) rfl (Nat.le_of_ble_eq_true rfl) rfl ⟨rfl, rfl⟩ (fun r6 τ6 hp6 => ?_)
            rw [m_puts_2 _ _ _ _ (by decide), m_puts_2 _ _ _ _ (by decide)] at hp6
            have hv6 : r6 = m_mv B w (((k : Int) + 1)).toNat ∧ τ6 = (m_puts B (m_tell 120 (m_cnt (m_mv B w) 40) ++ m_rows B w k)) := by unfold m_mv; rcases hp6 with ⟨h9, h8, h7⟩ | ⟨h9, h8, h7⟩; (· rw [if_pos h9]; exact ⟨h8, h7⟩); (· rw [if_neg (by omega)]; exact ⟨h8, h7⟩)
            obtain ⟨hv6, he6⟩ := hv6
            subst τ6
            have hmb := hmv01 (((k : Int) + 1)).toNat
            · refine v_if_eq (tgt := 119) C dM_putPart_110 (by decide) (by omega) (fun hc20 => ?_) (fun hc20 => ?_)
              · refine v_iinc C dM_putPart_119 rfl (by decide) ?_
                refine v_goto (tgt := 96) C dM_putPart_122 (by decide) ?_
                exact v_lv rfl (v_st (by show _ = m_puts B (_ ++ (m_rows B w k ++ (if m_mv B w (k + 1) = 1 then m_row B ((k : Int) + 1) else []))); rw [if_neg (by rw [← hkt]; omega), List.append_nil]) (ih (k + 1) (by omega)))
              · rw [if_pos (by rw [← hkt]; omega)] at hle
                refine v_aload_n C dM_putPart_113 rfl rfl ?_
                refine v_iload C dM_putPart_114 rfl ?_
                have hx21 := m_puts_next B (m_tell 120 (m_cnt (m_mv B w) 40) ++ m_rows B w k)
                try simp only [List.length_append, List.length_cons, List.length_nil] at hx21
                have hy22 := m_puts_cnt B (m_tell 120 (m_cnt (m_mv B w) 40) ++ m_rows B w k)
                have hq1 : ∀ i, (m_puts B (m_tell 120 (m_cnt (m_mv B w) 40) ++ m_rows B w k)).2 1 i = B.2 1 i := fun i => m_puts_2 _ _ _ _ (by decide)
                have hq13 : ∀ i, (m_puts B (m_tell 120 (m_cnt (m_mv B w) 40) ++ m_rows B w k)).2 13 i = B.2 13 i := fun i => m_puts_2 _ _ _ _ (by decide)
                have hrc := m_row_congr hq1 hq13 (((k : Int) + 1))
                refine v_cVV (k := 0) (n := 1) C (mE_ok _) trivial hR (kM_putRow _ xCl D cA ad hJ (m_puts B (m_tell 120 (m_cnt (m_mv B w) 40) ++ m_rows B w k)) (((k : Int) + 1)) (by omega) (fun i => by rw [hq1, hBa 1 i (by decide) (by decide) (by decide)]; exact h1 i) (fun i => by rw [hq13]; exact hB13 i) (by omega) (by omega) (by rw [hrc]; omega)) dM_putPart_116 (by show (0 : Nat) < 18; decide) rfl rfl gM_107 (by decide +kernel) (by decide) (by decide) rfl (Nat.le_of_ble_eq_true rfl) rfl ⟨rfl, rfl⟩ (fun τ7 hp7 => ?_)
                subst τ7
                refine v_st (σ1 := m_puts B (m_tell 120 (m_cnt (m_mv B w) 40) ++ m_rows B w k ++ m_row B (((k : Int) + 1)))) (by rw [hrc]; exact (m_puts_app _ _ _).symm) ?_
                · refine v_iinc C dM_putPart_119 rfl (by decide) ?_
                  refine v_goto (tgt := 96) C dM_putPart_122 (by decide) ?_
                  exact v_lv rfl (v_st (by rw [List.append_assoc]; show _ = m_puts B (_ ++ (m_rows B w k ++ (if m_mv B w (k + 1) = 1 then m_row B ((k : Int) + 1) else []))); rw [if_pos (by rw [← hkt]; omega)]) (ih (k + 1) (by omega)))
      have LC : ∀ (m k : Nat), m + k = 40 → fv z (mG xCl D cA ad) 7 (f_R z (mG xCl D cA ad) (f_QI (fun r σ1 => r = (m_part σ a w how).1 0 16 ∧ σ1 = m_part σ a w how) (mG xCl D cA ad))) 0 0 B 51 [some (.ref (ad 0)), some (.int (fI a)), some (.int (fI w)), some (.int (fI how)), some (.int (fI (B.1 0 16))), some (.int (fI (m_cnt (m_mv B w) k))), some (.int (fI ((k : Int) + 1)))] [] := by
        intro m
        induction m with
        | zero =>
          intro k hk
          have hk40 : k = 40 := by omega
          subst hk40
          refine v_iload C dM_putPart_51 rfl ?_
          refine v_bipush C dM_putPart_53 (by decide +kernel) ?_
          refine v_icmp_gt (tgt := 85) C dM_putPart_55 (by decide) (by omega) (by omega) (fun hc23 => ?_) (fun hc23 => ?_)
          · refine v_aload_n C dM_putPart_85 rfl rfl ?_
            refine v_bipush C dM_putPart_86 (by decide +kernel) ?_
            refine v_iload C dM_putPart_88 rfl ?_
            have hu24 := m_tell_len (120) ((m_cnt (m_mv B w) 40))
            have hu25 : (m_tell (120) ((m_cnt (m_mv B w) 40))).length = (dig ((m_cnt (m_mv B w) 40))).length + 3 := by unfold m_tell; simp
            refine v_cVV (k := 0) (n := 2) C (mE_ok _) trivial hR (kM_putTold _ xCl D cA ad hJ B (120) ((m_cnt (m_mv B w) 40)) (by omega) (by omega) (by omega) (by omega) (by omega)) dM_putPart_90 (by show (0 : Nat) < 18; decide) rfl rfl gM_103 (by decide +kernel) (by decide) (by decide) rfl (Nat.le_of_ble_eq_true rfl) rfl ⟨rfl, rfl⟩ (fun τ8 hp8 => ?_)
            subst τ8
            · refine v_iconst C dM_putPart_93 ?_
              refine v_istore C dM_putPart_94 (by decide) ?_
              exact v_lv rfl (v_st (by rw [show m_rows B w 0 = [] from rfl, List.append_nil]) (LR 40 0 (by omega)))
          · exfalso; omega
        | succ m ih =>
          intro k hk
          have hkt : ((k : Int) + 1).toNat = k + 1 := by omega
          have hcs : m_cnt (m_mv B w) (k + 1) = m_cnt (m_mv B w) k + (if m_mv B w (k + 1) = 1 then 1 else 0) := rfl
          refine v_iload C dM_putPart_51 rfl ?_
          refine v_bipush C dM_putPart_53 (by decide +kernel) ?_
          refine v_icmp_gt (tgt := 85) C dM_putPart_55 (by decide) (by omega) (by omega) (fun hc26 => ?_) (fun hc26 => ?_)
          · exfalso; omega
          · refine v_aload_n C dM_putPart_58 rfl rfl ?_
            refine v_iload C dM_putPart_59 rfl ?_
            refine v_iload_n C dM_putPart_61 rfl rfl ?_
            have hm1 : ∀ i, 0 ≤ B.2 1 i ∧ B.2 1 i ≤ 1 := fun i => by rw [hBa 1 i (by decide) (by decide) (by decide)]; exact h1 i
            have hm3 : ∀ i, 0 ≤ B.2 3 i ∧ B.2 3 i ≤ 1 := fun i => by rw [hBa 3 i (by decide) (by decide) (by decide)]; exact h3 i
            have hmv : m_mv B w (((k : Int) + 1)).toNat = m_mv B w (((k : Int) + 1)).toNat := rfl
            unfold m_mv at hmv
            refine v_cVI (k := 0) (n := 2) C (mE_ok _) trivial hR (kM_isMeant _ xCl D cA ad hJ B (((k : Int) + 1)) w (by omega) (by omega) hm1 hm3) dM_putPart_62 (by show (0 : Nat) < 18; decide) rfl rfl gM_92 (by decide +kernel) (by decide) (by decide) rfl (Nat.le_of_ble_eq_true rfl) rfl ⟨rfl, rfl⟩ (fun r9 τ9 hp9 => ?_)
            have hv9 : r9 = m_mv B w (((k : Int) + 1)).toNat ∧ τ9 = B := by unfold m_mv; rcases hp9 with ⟨h9, h8, h7⟩ | ⟨h9, h8, h7⟩; (· rw [if_pos h9]; exact ⟨h8, h7⟩); (· rw [if_neg (by omega)]; exact ⟨h8, h7⟩)
            obtain ⟨hv9, he9⟩ := hv9
            subst τ9
            have hmb := hmv01 (((k : Int) + 1)).toNat
            · refine v_if_eq (tgt := 75) C dM_putPart_65 (by decide) (by omega) (fun hc27 => ?_) (fun hc27 => ?_)
              · refine v_iload C dM_putPart_75 rfl ?_
                refine v_istore C dM_putPart_77 (by decide) ?_
                refine v_iinc C dM_putPart_79 rfl (by decide) ?_
                refine v_goto (tgt := 51) C dM_putPart_82 (by decide) ?_
                exact v_lv (by rw [hcs]; (first | rw [if_pos (by rw [← hkt]; omega)] | rw [if_neg (by rw [← hkt]; omega), Int.add_zero]); rfl) (ih (k + 1) (by omega))
              · refine v_iload C dM_putPart_68 rfl ?_
                refine v_iconst C dM_putPart_70 ?_
                refine v_iadd C dM_putPart_71 ?_
                refine v_goto (tgt := 77) C dM_putPart_72 (by decide) ?_
                refine v_istore C dM_putPart_77 (by decide) ?_
                refine v_iinc C dM_putPart_79 rfl (by decide) ?_
                refine v_goto (tgt := 51) C dM_putPart_82 (by decide) ?_
                exact v_lv (by rw [hcs]; (first | rw [if_pos (by rw [← hkt]; omega)] | rw [if_neg (by rw [← hkt]; omega), Int.add_zero]); rfl) (ih (k + 1) (by omega))
      refine v_aload_n C dM_putPart_39 rfl rfl ?_
      refine v_getI (k := 0) (q := 16) (v := B.1 0 16) C dM_putPart_40 (by show (0 : Nat) < 18; decide) rfl rfl (by decide) rfl inM lM_82 rfl rfl ?_
      refine v_istore C dM_putPart_43 (by decide) ?_
      refine v_iconst C dM_putPart_45 ?_
      refine v_istore C dM_putPart_46 (by decide) ?_
      refine v_iconst C dM_putPart_48 ?_
      refine v_istore C dM_putPart_49 (by decide) ?_
      exact v_lv rfl (LC 40 0 (by omega))
  refine v_aload_n C dM_putPart_0 rfl rfl ?_
  refine v_iload_n C dM_putPart_1 rfl rfl ?_
  refine v_putI (k := 0) (q := 16) C dM_putPart_2 (by show (0 : Nat) < 18; decide) rfl rfl (by decide) rfl inM tyM_ok nmM lM_82 rfl rfl rfl rfl rfl ?_
  refine v_st (σ1 := m_puts (f_p1 σ 0 16 a) []) rfl ?_
  refine v_iload_n C dM_putPart_5 rfl rfl ?_
  refine v_if_eq (tgt := 33) C dM_putPart_6 (by decide) (by omega) (fun hc28 => ?_) (fun hc28 => ?_)
  · exact v_st (by rw [if_neg (by omega)]) KA
  · refine v_aload_n C dM_putPart_9 rfl rfl ?_
    refine v_bipush C dM_putPart_10 (by decide +kernel) ?_
    have hx29 := m_puts_next (f_p1 σ 0 16 a) ([])
    try simp only [List.length_append, List.length_cons, List.length_nil] at hx29
    have hy30 := m_puts_cnt (f_p1 σ 0 16 a) ([])
    change _ = a + _ at hx29
    change _ = σ.1 0 17 at hy30
    refine v_cVV (k := 0) (n := 1) C (mE_ok _) trivial hR (kM_put _ xCl D cA ad hJ (m_puts (f_p1 σ 0 16 a) ([])) (37) (by omega) (by omega) (by omega) (by omega)) dM_putPart_12 (by show (0 : Nat) < 18; decide) rfl rfl gM_85 (by decide +kernel) (by decide) (by decide) rfl (Nat.le_of_ble_eq_true rfl) rfl ⟨rfl, rfl⟩ (fun σ1 hp1 => ?_)
    subst σ1
    refine v_st (σ1 := m_puts (f_p1 σ 0 16 a) ([37])) (rfl) ?_
    refine v_aload_n C dM_putPart_15 rfl rfl ?_
    refine v_bipush C dM_putPart_16 (by decide +kernel) ?_
    have hx31 := m_puts_next (f_p1 σ 0 16 a) ([37])
    try simp only [List.length_append, List.length_cons, List.length_nil] at hx31
    have hy32 := m_puts_cnt (f_p1 σ 0 16 a) ([37])
    change _ = a + _ at hx31
    change _ = σ.1 0 17 at hy32
    refine v_cVV (k := 0) (n := 1) C (mE_ok _) trivial hR (kM_put _ xCl D cA ad hJ (m_puts (f_p1 σ 0 16 a) ([37])) (70) (by omega) (by omega) (by omega) (by omega)) dM_putPart_18 (by show (0 : Nat) < 18; decide) rfl rfl gM_85 (by decide +kernel) (by decide) (by decide) rfl (Nat.le_of_ble_eq_true rfl) rfl ⟨rfl, rfl⟩ (fun σ1 hp1 => ?_)
    subst σ1
    refine v_st (σ1 := m_puts (f_p1 σ 0 16 a) ([37] ++ [70])) (m_puts_snoc _ _ _) ?_
    refine v_aload_n C dM_putPart_21 rfl rfl ?_
    refine v_bipush C dM_putPart_22 (by decide +kernel) ?_
    have hx33 := m_puts_next (f_p1 σ 0 16 a) ([37] ++ [70])
    try simp only [List.length_append, List.length_cons, List.length_nil] at hx33
    have hy34 := m_puts_cnt (f_p1 σ 0 16 a) ([37] ++ [70])
    change _ = a + _ at hx33
    change _ = σ.1 0 17 at hy34
    refine v_cVV (k := 0) (n := 1) C (mE_ok _) trivial hR (kM_put _ xCl D cA ad hJ (m_puts (f_p1 σ 0 16 a) ([37] ++ [70])) (49) (by omega) (by omega) (by omega) (by omega)) dM_putPart_24 (by show (0 : Nat) < 18; decide) rfl rfl gM_85 (by decide +kernel) (by decide) (by decide) rfl (Nat.le_of_ble_eq_true rfl) rfl ⟨rfl, rfl⟩ (fun σ1 hp1 => ?_)
    subst σ1
    refine v_st (σ1 := m_puts (f_p1 σ 0 16 a) ([37] ++ [70] ++ [49])) (m_puts_snoc _ _ _) ?_
    refine v_aload_n C dM_putPart_27 rfl rfl ?_
    refine v_bipush C dM_putPart_28 (by decide +kernel) ?_
    have hx35 := m_puts_next (f_p1 σ 0 16 a) ([37] ++ [70] ++ [49])
    try simp only [List.length_append, List.length_cons, List.length_nil] at hx35
    have hy36 := m_puts_cnt (f_p1 σ 0 16 a) ([37] ++ [70] ++ [49])
    change _ = a + _ at hx35
    change _ = σ.1 0 17 at hy36
    refine v_cVV (k := 0) (n := 1) C (mE_ok _) trivial hR (kM_put _ xCl D cA ad hJ (m_puts (f_p1 σ 0 16 a) ([37] ++ [70] ++ [49])) (10) (by omega) (by omega) (by omega) (by omega)) dM_putPart_30 (by show (0 : Nat) < 18; decide) rfl rfl gM_85 (by decide +kernel) (by decide) (by decide) rfl (Nat.le_of_ble_eq_true rfl) rfl ⟨rfl, rfl⟩ (fun σ1 hp1 => ?_)
    subst σ1
    refine v_st (σ1 := m_puts (f_p1 σ 0 16 a) ([37] ++ [70] ++ [49] ++ [10])) (m_puts_snoc _ _ _) ?_
    exact v_st (by rw [if_pos (by omega)]; rfl) KA
end
section
/-- what is remembered of object n in a revision's row -/
def m_rv (σ : fS) (w : Int) (a b n : Nat) : Int :=
  if m_mv σ w n = 1 then (if a = 10 then (if σ.2 1 n = 1 then σ.2 13 n else -1) else if a = 11 then σ.2 14 n else σ.2 5 n)
  else if w = 1 then (if a = 10 then -1 else σ.2 a b) else σ.2 a (b - 41)
def m_rem (σ : fS) (w : Int) (r k : Nat) : fS := (σ.1, fun a b => if (a = 10 ∨ a = 11 ∨ a = 12) ∧ 41 * r + 1 ≤ b ∧ b < 41 * r + k then m_rv σ w a b (b - 41 * r) else σ.2 a b)
theorem m_rem_o (σ : fS) (w : Int) (r k a b : Nat) (h : ¬ ((a = 10 ∨ a = 11 ∨ a = 12) ∧ 41 * r + 1 ≤ b ∧ b < 41 * r + k)) : (m_rem σ w r k).2 a b = σ.2 a b := if_neg h
theorem m_rem_0 (σ : fS) (w : Int) (r : Nat) : σ = m_rem σ w r 1 := fS_ext (fun _ _ => rfl) (fun a b => (m_rem_o σ w r 1 a b (by omega)).symm)
theorem m_rem_s (σ S : fS) (w : Int) (r k : Nat) (hk : 1 ≤ k) (h1 : ∀ a b, S.1 a b = σ.1 a b) (h2 : ∀ a b, S.2 a b = if (a = 10 ∨ a = 11 ∨ a = 12) ∧ b = 41 * r + k then m_rv σ w a b k else (m_rem σ w r k).2 a b) : S = m_rem σ w r (k + 1) := by
  refine fS_ext h1 (fun a b => ?_)
  rw [h2]
  show _ = if (a = 10 ∨ a = 11 ∨ a = 12) ∧ 41 * r + 1 ≤ b ∧ b < 41 * r + (k + 1) then m_rv σ w a b (b - 41 * r) else σ.2 a b
  by_cases h : (a = 10 ∨ a = 11 ∨ a = 12) ∧ b = 41 * r + k
  · rw [if_pos h, if_pos (by omega), show b - 41 * r = k by omega]
  · rw [if_neg h]
    show (if (a = 10 ∨ a = 11 ∨ a = 12) ∧ 41 * r + 1 ≤ b ∧ b < 41 * r + k then m_rv σ w a b (b - 41 * r) else σ.2 a b) = _
    by_cases h9 : (a = 10 ∨ a = 11 ∨ a = 12) ∧ 41 * r + 1 ≤ b ∧ b < 41 * r + k
    · rw [if_pos h9, if_pos (by omega)]
    · rw [if_neg h9, if_neg (by omega)]
theorem m_rem_A (σ : fS) (w : Int) (r k : Nat) (hk : 1 ≤ k) (hm : m_mv σ w k = 1) (v : Int) (hv : v = if σ.2 1 k = 1 then σ.2 13 k else -1) : f_p2 (f_p2 (f_p2 (m_rem σ w r k) 10 (41 * r + k) v) 11 (41 * r + k) (σ.2 14 k)) 12 (41 * r + k) (σ.2 5 k) = m_rem σ w r (k + 1) := by
  refine m_rem_s σ _ w r k hk (fun _ _ => rfl) (fun a b => ?_)
  rw [p2_2, p2_2, p2_2]
  unfold m_rv
  rw [if_pos hm]
  by_cases hb : b = 41 * r + k
  · subst hb
    by_cases g1 : a = 10
    · subst g1; simp [hv]
    · by_cases g2 : a = 11
      · subst g2; simp
      · by_cases g3 : a = 12
        · subst g3; simp
        · simp [g1, g2, g3]
  · simp [hb]
theorem m_rem_B (σ : fS) (w : Int) (r k : Nat) (hk : 1 ≤ k) (hm : ¬ m_mv σ w k = 1) (hw : w = 1) : f_p2 (m_rem σ w r k) 10 (41 * r + k) (-1) = m_rem σ w r (k + 1) := by
  refine m_rem_s σ _ w r k hk (fun _ _ => rfl) (fun a b => ?_)
  rw [p2_2]
  unfold m_rv
  rw [if_neg hm, if_pos hw]
  by_cases hb : b = 41 * r + k
  · subst hb
    have ho := m_rem_o σ w r k a (41 * r + k) (by omega)
    by_cases g1 : a = 10
    · subst g1; simp
    · simp only [g1, false_and, if_false, false_or, and_true, ho]
      split <;> rfl
  · simp [hb]
theorem m_rem_C (σ : fS) (w : Int) (r k : Nat) (hk : 1 ≤ k) (hm : ¬ m_mv σ w k = 1) (hw : ¬ w = 1) : f_p2 (f_p2 (f_p2 (m_rem σ w r k) 10 (41 * r + k) (σ.2 10 (41 * r + k - 41))) 11 (41 * r + k) (σ.2 11 (41 * r + k - 41))) 12 (41 * r + k) (σ.2 12 (41 * r + k - 41)) = m_rem σ w r (k + 1) := by
  refine m_rem_s σ _ w r k hk (fun _ _ => rfl) (fun a b => ?_)
  rw [p2_2, p2_2, p2_2]
  unfold m_rv
  rw [if_neg hm, if_neg hw]
  by_cases hb : b = 41 * r + k
  · subst hb
    by_cases g1 : a = 10
    · subst g1; simp
    · by_cases g2 : a = 11
      · subst g2; simp
      · by_cases g3 : a = 12
        · subst g3; simp
        · simp [g1, g2, g3]
  · simp [hb]
/-- a revision is remembered -/
def m_remd (σ : fS) (w : Int) (r : Nat) : fS := f_p1 (f_p2 (f_p2 (m_rem σ w r 41) 8 r (σ.1 0 7)) 9 r (σ.1 0 26)) 0 10 ((r : Int) + 1)
def m_rr (σ : fS) (w : Int) : Nat := if w = 1 then 0 else (σ.1 0 10).toNat
set_option maxRecDepth 100000 in
set_option maxHeartbeats 4000000 in
/-- remember(whole) -/
theorem kM_remember (l : Launch) (xCl : List vw_C) (D : va_G) (cA : Nat → ClassId) (ad : Nat → Nat) (hJ : f_J (mG xCl D cA ad)) (σ : fS) (w : Int) (hw : w = 0 ∨ w = 1) (hrv : w = 0 → 1 ≤ σ.1 0 10 ∧ σ.1 0 10 ≤ 59) (h1 : ∀ i, 0 ≤ σ.2 1 i ∧ σ.2 1 i ≤ 1) (h3 : ∀ i, 0 ≤ σ.2 3 i ∧ σ.2 3 i ≤ 1) : f_M l (mG xCl D cA ad) mE yM_remember (Cond.code yM_remember cM_remember 5 none :: A9) 1 σ [.ref (ad 0), .int (fI w)] (f_QV (fun σ1 => σ1 = m_remd σ w (m_rr σ w)) (mG xCl D cA ad)) := by
  refine f_enter (by decide +kernel) hJ rfl (Nat.le_of_ble_eq_true rfl) ?_
  intro z hzl hR C hRt hLk hEz
  subst hzl
  have L : ∀ (r : Nat), r = m_rr σ w → r ≤ 59 → (w = 0 → 1 ≤ r) → ∀ (m k : Nat), m + k = 41 → 1 ≤ k → fv z (mG xCl D cA ad) 5 (f_R z (mG xCl D cA ad) (f_QV (fun σ1 => σ1 = m_remd σ w (m_rr σ w)) (mG xCl D cA ad))) 0 0 (m_rem σ w r k) 15 [some (.ref (ad 0)), some (.int (fI w)), some (.int (fI (r : Int))), some (.int (fI (k : Int))), none] [] := by
    intro r hr hr59 hr1 m
    induction m with
    | zero =>
      intro k hk hk1
      have hk41 : k = 41 := by omega
      subst hk41
      refine v_iload_n C dM_remember_15 rfl rfl ?_
      refine v_bipush C dM_remember_16 (by decide +kernel) ?_
      refine v_icmp_gt (tgt := 165) C dM_remember_18 (by decide) (by omega) (by omega) (fun hc1 => ?_) (fun hc1 => ?_)
      · refine v_aload_n C dM_remember_165 rfl rfl ?_
        refine v_getR (k := 0) (q := 11) C dM_remember_166 (by show (0 : Nat) < 18; decide) rfl rfl (by decide) rfl inM lM_33 rfl ?_
        refine v_iload_n C dM_remember_169 rfl rfl ?_
        refine v_aload_n C dM_remember_170 rfl rfl ?_
        refine v_getI (k := 0) (q := 7) (v := σ.1 0 7) C dM_remember_171 (by show (0 : Nat) < 18; decide) rfl rfl (by decide) rfl inM lM_116 rfl rfl ?_
        refine v_iast (k := 8) C dM_remember_174 (by show (8 : Nat) < 18; decide) rfl rfl (by omega) (by decide) ?_
        refine v_aload_n C dM_remember_175 rfl rfl ?_
        refine v_getR (k := 0) (q := 12) C dM_remember_176 (by show (0 : Nat) < 18; decide) rfl rfl (by decide) rfl inM lM_36 rfl ?_
        refine v_iload_n C dM_remember_179 rfl rfl ?_
        refine v_aload_n C dM_remember_180 rfl rfl ?_
        refine v_getI (k := 0) (q := 26) (v := σ.1 0 26) C dM_remember_181 (by show (0 : Nat) < 18; decide) rfl rfl (by decide) rfl inM lM_113 rfl rfl ?_
        refine v_iast (k := 9) C dM_remember_184 (by show (9 : Nat) < 18; decide) rfl rfl (by omega) (by decide) ?_
        refine v_aload_n C dM_remember_185 rfl rfl ?_
        refine v_iload_n C dM_remember_186 rfl rfl ?_
        refine v_iconst C dM_remember_187 ?_
        refine v_iadd C dM_remember_188 ?_
        refine v_putI (k := 0) (q := 10) C dM_remember_189 (by show (0 : Nat) < 18; decide) rfl rfl (by decide) rfl inM tyM_ok nmM lM_110 rfl rfl rfl rfl rfl ?_
        exact v_vret C hRt hLk dM_remember_192 (by unfold m_remd; rw [← hr]; simp only [Int.toNat_natCast])
      · exfalso; omega
    | succ m ih =>
      intro k hk hk1
      have hat : (41 * (r : Int) + (k : Int)).toNat = 41 * r + k := by omega
      have hat41 : (41 * (r : Int) + (k : Int) - 41).toNat = 41 * r + k - 41 := by omega
      have hkn : ((k : Int)).toNat = k := by omega
      have hb1 := h1 k
      have hb1e : σ.2 1 ((k : Int)).toNat = σ.2 1 k := by rw [hkn]
      have hmb : 0 ≤ m_mv σ w k ∧ m_mv σ w k ≤ 1 := by unfold m_mv; split; (· exact h1 k); (· exact h3 k)
      refine v_iload_n C dM_remember_15 rfl rfl ?_
      refine v_bipush C dM_remember_16 (by decide +kernel) ?_
      refine v_icmp_gt (tgt := 165) C dM_remember_18 (by decide) (by omega) (by omega) (fun hc2 => ?_) (fun hc2 => ?_)
      · exfalso; omega
      · refine v_bipush C dM_remember_21 (by decide +kernel) ?_
        refine v_iload_n C dM_remember_23 rfl rfl ?_
        refine v_imul C dM_remember_24 ?_
        refine v_iload_n C dM_remember_25 rfl rfl ?_
        refine v_iadd C dM_remember_26 ?_
        refine v_istore C dM_remember_27 (by decide) ?_
        refine v_aload_n C dM_remember_29 rfl rfl ?_
        refine v_iload_n C dM_remember_30 rfl rfl ?_
        refine v_iload_n C dM_remember_31 rfl rfl ?_
        have hm1 : ∀ i, 0 ≤ (m_rem σ w r k).2 1 i ∧ (m_rem σ w r k).2 1 i ≤ 1 := fun i => by rw [m_rem_o _ _ _ _ _ _ (by omega)]; exact h1 i
        have hm3 : ∀ i, 0 ≤ (m_rem σ w r k).2 3 i ∧ (m_rem σ w r k).2 3 i ≤ 1 := fun i => by rw [m_rem_o _ _ _ _ _ _ (by omega)]; exact h3 i
        refine v_cVI (k := 0) (n := 2) C (mE_ok _) trivial hR (kM_isMeant _ xCl D cA ad hJ (m_rem σ w r k) (k : Int) w (by omega) (by omega) hm1 hm3) dM_remember_32 (by show (0 : Nat) < 18; decide) rfl rfl gM_92 (by decide +kernel) (by decide) (by decide) rfl (Nat.le_of_ble_eq_true rfl) rfl ⟨rfl, rfl⟩ (fun r1 τ1 hp1 => ?_)
        rw [hkn, m_rem_o _ _ _ _ 1 _ (by omega), m_rem_o _ _ _ _ 3 _ (by omega)] at hp1
        have hv1 : r1 = m_mv σ w k ∧ τ1 = (m_rem σ w r k) := by unfold m_mv; rcases hp1 with ⟨h9, h8, h7⟩ | ⟨h9, h8, h7⟩; (· rw [if_pos h9]; exact ⟨h8, h7⟩); (· rw [if_neg (by omega)]; exact ⟨h8, h7⟩)
        obtain ⟨hv1, he1⟩ := hv1
        subst τ1
        · refine v_if_eq (tgt := 93) C dM_remember_35 (by decide) (by omega) (fun hc3 => ?_) (fun hc3 => ?_)
          · refine v_iload_n C dM_remember_93 rfl rfl ?_
            refine v_if_eq (tgt := 108) C dM_remember_94 (by decide) (by omega) (fun hc4 => ?_) (fun hc4 => ?_)
            · refine v_aload_n C dM_remember_108 rfl rfl ?_
              refine v_getR (k := 0) (q := 13) C dM_remember_109 (by show (0 : Nat) < 18; decide) rfl rfl (by decide) rfl inM lM_39 rfl ?_
              refine v_iload C dM_remember_112 rfl ?_
              refine v_aload_n C dM_remember_114 rfl rfl ?_
              refine v_getR (k := 0) (q := 13) C dM_remember_115 (by show (0 : Nat) < 18; decide) rfl rfl (by decide) rfl inM lM_39 rfl ?_
              refine v_iload C dM_remember_118 rfl ?_
              refine v_bipush C dM_remember_120 (by decide +kernel) ?_
              refine v_isub C dM_remember_122 ?_
              refine v_iald (k := 10) (v := σ.2 10 ((((41 * (r : Int)) + (k : Int)) - 41)).toNat) C dM_remember_123 (by show (10 : Nat) < 18; decide) rfl rfl (by omega) (by decide) (by (try simp only [p2_2]); (try rw [if_neg (by omega)]); (try rw [if_neg (by omega)]); exact m_rem_o _ _ _ _ _ _ (by omega)) ?_
              refine v_iast (k := 10) C dM_remember_124 (by show (10 : Nat) < 18; decide) rfl rfl (by omega) (by decide) ?_
              refine v_aload_n C dM_remember_125 rfl rfl ?_
              refine v_getR (k := 0) (q := 14) C dM_remember_126 (by show (0 : Nat) < 18; decide) rfl rfl (by decide) rfl inM lM_42 rfl ?_
              refine v_iload C dM_remember_129 rfl ?_
              refine v_aload_n C dM_remember_131 rfl rfl ?_
              refine v_getR (k := 0) (q := 14) C dM_remember_132 (by show (0 : Nat) < 18; decide) rfl rfl (by decide) rfl inM lM_42 rfl ?_
              refine v_iload C dM_remember_135 rfl ?_
              refine v_bipush C dM_remember_137 (by decide +kernel) ?_
              refine v_isub C dM_remember_139 ?_
              refine v_iald (k := 11) (v := σ.2 11 ((((41 * (r : Int)) + (k : Int)) - 41)).toNat) C dM_remember_140 (by show (11 : Nat) < 18; decide) rfl rfl (by omega) (by decide) (by (try simp only [p2_2]); (try rw [if_neg (by omega)]); (try rw [if_neg (by omega)]); exact m_rem_o _ _ _ _ _ _ (by omega)) ?_
              refine v_iast (k := 11) C dM_remember_141 (by show (11 : Nat) < 18; decide) rfl rfl (by omega) (by decide) ?_
              refine v_aload_n C dM_remember_142 rfl rfl ?_
              refine v_getR (k := 0) (q := 15) C dM_remember_143 (by show (0 : Nat) < 18; decide) rfl rfl (by decide) rfl inM lM_45 rfl ?_
              refine v_iload C dM_remember_146 rfl ?_
              refine v_aload_n C dM_remember_148 rfl rfl ?_
              refine v_getR (k := 0) (q := 15) C dM_remember_149 (by show (0 : Nat) < 18; decide) rfl rfl (by decide) rfl inM lM_45 rfl ?_
              refine v_iload C dM_remember_152 rfl ?_
              refine v_bipush C dM_remember_154 (by decide +kernel) ?_
              refine v_isub C dM_remember_156 ?_
              refine v_iald (k := 12) (v := σ.2 12 ((((41 * (r : Int)) + (k : Int)) - 41)).toNat) C dM_remember_157 (by show (12 : Nat) < 18; decide) rfl rfl (by omega) (by decide) (by (try simp only [p2_2]); (try rw [if_neg (by omega)]); (try rw [if_neg (by omega)]); exact m_rem_o _ _ _ _ _ _ (by omega)) ?_
              refine v_iast (k := 12) C dM_remember_158 (by show (12 : Nat) < 18; decide) rfl rfl (by omega) (by decide) ?_
              refine v_iinc C dM_remember_159 rfl (by decide) ?_
              refine v_goto (tgt := 15) C dM_remember_162 (by decide) ?_
              exact v_less (by exact ⟨rfl, rfl, rfl, rfl, trivial⟩) (v_st (by simp only [hat, hat41, hkn]; exact m_rem_C σ w r k hk1 (by omega) (by omega)) (ih (k + 1) (by omega) (by omega)))
            · refine v_aload_n C dM_remember_97 rfl rfl ?_
              refine v_getR (k := 0) (q := 13) C dM_remember_98 (by show (0 : Nat) < 18; decide) rfl rfl (by decide) rfl inM lM_39 rfl ?_
              refine v_iload C dM_remember_101 rfl ?_
              refine v_iconst C dM_remember_103 ?_
              refine v_iast (k := 10) C dM_remember_104 (by show (10 : Nat) < 18; decide) rfl rfl (by omega) (by decide) ?_
              refine v_goto (tgt := 159) C dM_remember_105 (by decide) ?_
              refine v_iinc C dM_remember_159 rfl (by decide) ?_
              refine v_goto (tgt := 15) C dM_remember_162 (by decide) ?_
              exact v_less (by exact ⟨rfl, rfl, rfl, rfl, trivial⟩) (v_st (by simp only [hat, hat41, hkn]; exact m_rem_B σ w r k hk1 (by omega) (by omega)) (ih (k + 1) (by omega) (by omega)))
          · refine v_aload_n C dM_remember_38 rfl rfl ?_
            refine v_getR (k := 0) (q := 13) C dM_remember_39 (by show (0 : Nat) < 18; decide) rfl rfl (by decide) rfl inM lM_39 rfl ?_
            refine v_iload C dM_remember_42 rfl ?_
            refine v_aload_n C dM_remember_44 rfl rfl ?_
            refine v_getR (k := 0) (q := 1) C dM_remember_45 (by show (0 : Nat) < 18; decide) rfl rfl (by decide) rfl inM lM_7 rfl ?_
            refine v_iload_n C dM_remember_48 rfl rfl ?_
            refine v_zald (k := 1) (v := σ.2 1 ((k : Int)).toNat) C dM_remember_49 (by show (1 : Nat) < 18; decide) rfl rfl (by omega) (by decide) (by (try simp only [p2_2]); (try rw [if_neg (by omega)]); (try rw [if_neg (by omega)]); exact m_rem_o _ _ _ _ _ _ (by omega)) ?_
            refine v_if_eq (tgt := 62) C dM_remember_50 (by decide) (by omega) (fun hc5 => ?_) (fun hc5 => ?_)
            · refine v_iconst C dM_remember_62 ?_
              refine v_iast (k := 10) C dM_remember_63 (by show (10 : Nat) < 18; decide) rfl rfl (by omega) (by decide) ?_
              refine v_aload_n C dM_remember_64 rfl rfl ?_
              refine v_getR (k := 0) (q := 14) C dM_remember_65 (by show (0 : Nat) < 18; decide) rfl rfl (by decide) rfl inM lM_42 rfl ?_
              refine v_iload C dM_remember_68 rfl ?_
              refine v_aload_n C dM_remember_70 rfl rfl ?_
              refine v_getR (k := 0) (q := 19) C dM_remember_71 (by show (0 : Nat) < 18; decide) rfl rfl (by decide) rfl inM lM_51 rfl ?_
              refine v_iload_n C dM_remember_74 rfl rfl ?_
              refine v_iald (k := 14) (v := σ.2 14 ((k : Int)).toNat) C dM_remember_75 (by show (14 : Nat) < 18; decide) rfl rfl (by omega) (by decide) (by (try simp only [p2_2]); (try rw [if_neg (by omega)]); (try rw [if_neg (by omega)]); exact m_rem_o _ _ _ _ _ _ (by omega)) ?_
              refine v_iast (k := 11) C dM_remember_76 (by show (11 : Nat) < 18; decide) rfl rfl (by omega) (by decide) ?_
              refine v_aload_n C dM_remember_77 rfl rfl ?_
              refine v_getR (k := 0) (q := 15) C dM_remember_78 (by show (0 : Nat) < 18; decide) rfl rfl (by decide) rfl inM lM_45 rfl ?_
              refine v_iload C dM_remember_81 rfl ?_
              refine v_aload_n C dM_remember_83 rfl rfl ?_
              refine v_getR (k := 0) (q := 5) C dM_remember_84 (by show (0 : Nat) < 18; decide) rfl rfl (by decide) rfl inM lM_22 rfl ?_
              refine v_iload_n C dM_remember_87 rfl rfl ?_
              refine v_iald (k := 5) (v := σ.2 5 ((k : Int)).toNat) C dM_remember_88 (by show (5 : Nat) < 18; decide) rfl rfl (by omega) (by decide) (by (try simp only [p2_2]); (try rw [if_neg (by omega)]); (try rw [if_neg (by omega)]); exact m_rem_o _ _ _ _ _ _ (by omega)) ?_
              refine v_iast (k := 12) C dM_remember_89 (by show (12 : Nat) < 18; decide) rfl rfl (by omega) (by decide) ?_
              refine v_goto (tgt := 159) C dM_remember_90 (by decide) ?_
              refine v_iinc C dM_remember_159 rfl (by decide) ?_
              refine v_goto (tgt := 15) C dM_remember_162 (by decide) ?_
              exact v_less (by exact ⟨rfl, rfl, rfl, rfl, trivial⟩) (v_st (by simp only [hat, hat41, hkn]; exact m_rem_A σ w r k hk1 (by omega) _ (by first | (rw [if_pos (by omega)]; done) | (rw [if_neg (by omega)]; done))) (ih (k + 1) (by omega) (by omega)))
            · refine v_aload_n C dM_remember_53 rfl rfl ?_
              refine v_getR (k := 0) (q := 18) C dM_remember_54 (by show (0 : Nat) < 18; decide) rfl rfl (by decide) rfl inM lM_48 rfl ?_
              refine v_iload_n C dM_remember_57 rfl rfl ?_
              refine v_iald (k := 13) (v := σ.2 13 ((k : Int)).toNat) C dM_remember_58 (by show (13 : Nat) < 18; decide) rfl rfl (by omega) (by decide) (by (try simp only [p2_2]); (try rw [if_neg (by omega)]); (try rw [if_neg (by omega)]); exact m_rem_o _ _ _ _ _ _ (by omega)) ?_
              refine v_goto (tgt := 63) C dM_remember_59 (by decide) ?_
              refine v_iast (k := 10) C dM_remember_63 (by show (10 : Nat) < 18; decide) rfl rfl (by omega) (by decide) ?_
              refine v_aload_n C dM_remember_64 rfl rfl ?_
              refine v_getR (k := 0) (q := 14) C dM_remember_65 (by show (0 : Nat) < 18; decide) rfl rfl (by decide) rfl inM lM_42 rfl ?_
              refine v_iload C dM_remember_68 rfl ?_
              refine v_aload_n C dM_remember_70 rfl rfl ?_
              refine v_getR (k := 0) (q := 19) C dM_remember_71 (by show (0 : Nat) < 18; decide) rfl rfl (by decide) rfl inM lM_51 rfl ?_
              refine v_iload_n C dM_remember_74 rfl rfl ?_
              refine v_iald (k := 14) (v := σ.2 14 ((k : Int)).toNat) C dM_remember_75 (by show (14 : Nat) < 18; decide) rfl rfl (by omega) (by decide) (by (try simp only [p2_2]); (try rw [if_neg (by omega)]); (try rw [if_neg (by omega)]); exact m_rem_o _ _ _ _ _ _ (by omega)) ?_
              refine v_iast (k := 11) C dM_remember_76 (by show (11 : Nat) < 18; decide) rfl rfl (by omega) (by decide) ?_
              refine v_aload_n C dM_remember_77 rfl rfl ?_
              refine v_getR (k := 0) (q := 15) C dM_remember_78 (by show (0 : Nat) < 18; decide) rfl rfl (by decide) rfl inM lM_45 rfl ?_
              refine v_iload C dM_remember_81 rfl ?_
              refine v_aload_n C dM_remember_83 rfl rfl ?_
              refine v_getR (k := 0) (q := 5) C dM_remember_84 (by show (0 : Nat) < 18; decide) rfl rfl (by decide) rfl inM lM_22 rfl ?_
              refine v_iload_n C dM_remember_87 rfl rfl ?_
              refine v_iald (k := 5) (v := σ.2 5 ((k : Int)).toNat) C dM_remember_88 (by show (5 : Nat) < 18; decide) rfl rfl (by omega) (by decide) (by (try simp only [p2_2]); (try rw [if_neg (by omega)]); (try rw [if_neg (by omega)]); exact m_rem_o _ _ _ _ _ _ (by omega)) ?_
              refine v_iast (k := 12) C dM_remember_89 (by show (12 : Nat) < 18; decide) rfl rfl (by omega) (by decide) ?_
              refine v_goto (tgt := 159) C dM_remember_90 (by decide) ?_
              refine v_iinc C dM_remember_159 rfl (by decide) ?_
              refine v_goto (tgt := 15) C dM_remember_162 (by decide) ?_
              exact v_less (by exact ⟨rfl, rfl, rfl, rfl, trivial⟩) (v_st (by simp only [hat, hat41, hkn]; exact m_rem_A σ w r k hk1 (by omega) _ (by first | (rw [if_pos (by omega)]; done) | (rw [if_neg (by omega)]; done))) (ih (k + 1) (by omega) (by omega)))
  refine v_iload_n C dM_remember_0 rfl rfl ?_
  refine v_if_eq (tgt := 8) C dM_remember_1 (by decide) (by omega) (fun hc6 => ?_) (fun hc6 => ?_)
  · refine v_aload_n C dM_remember_8 rfl rfl ?_
    refine v_getI (k := 0) (q := 10) (v := σ.1 0 10) C dM_remember_9 (by show (0 : Nat) < 18; decide) rfl rfl (by decide) rfl inM lM_110 rfl rfl ?_
    refine v_top (b := (((σ.1 0 10).toNat : Nat) : Int)) (by omega) ?_
    refine v_istore_n C dM_remember_12 rfl (by decide) ?_
    refine v_iconst C dM_remember_13 ?_
    refine v_istore_n C dM_remember_14 rfl (by decide) ?_
    exact v_less (by exact ⟨rfl, rfl, rfl, rfl, trivial⟩) (v_st (m_rem_0 σ w (σ.1 0 10).toNat) (L (σ.1 0 10).toNat (by unfold m_rr; rw [if_neg (by omega)]) (by omega) (by omega) 40 1 (by omega) (by omega)))
  · refine v_iconst C dM_remember_4 ?_
    refine v_goto (tgt := 12) C dM_remember_5 (by decide) ?_
    refine v_istore_n C dM_remember_12 rfl (by decide) ?_
    refine v_iconst C dM_remember_13 ?_
    refine v_istore_n C dM_remember_14 rfl (by decide) ?_
    exact v_less (by exact ⟨rfl, rfl, rfl, rfl, trivial⟩) (v_st (m_rem_0 σ w 0) (L 0 (by unfold m_rr; rw [if_pos (by omega)]) (by omega) (by omega) 40 1 (by omega) (by omega)))
end
section
theorem p1_p1 (σ : fS) (k q : Nat) (u v : Int) : f_p1 (f_p1 σ k q u) k q v = f_p1 σ k q v := by
  refine fS_ext (fun a b => ?_) (fun _ _ => rfl)
  rw [p1_1, p1_1, p1_1]
  split <;> rfl
set_option maxRecDepth 100000 in
set_option maxHeartbeats 4000000 in
/-- thrown() -/
theorem kM_thrown (l : Launch) (xCl : List vw_C) (D : va_G) (cA : Nat → ClassId) (ad : Nat → Nat) (hJ : f_J (mG xCl D cA ad)) (σ : fS) : f_M l (mG xCl D cA ad) mE yM_thrown (Cond.code yM_thrown cM_thrown 1 (some .int) :: A9) 0 σ [.ref (ad 0)] (f_QI (fun r σ1 => r = σ.1 0 0 ∧ σ1 = σ) (mG xCl D cA ad)) := by
  refine f_enter (by decide +kernel) hJ rfl (Nat.le_of_ble_eq_true rfl) ?_
  intro z hzl hR C hRt hLk hEz
  subst hzl
  refine v_aload_n C dM_thrown_0 rfl rfl ?_
  refine v_getI (k := 0) (q := 0) (v := σ.1 0 0) C dM_thrown_1 (by show (0 : Nat) < 18; decide) rfl rfl (by decide) rfl inM lM_63 rfl rfl ?_
  exact v_iret C hRt hLk dM_thrown_4 ⟨rfl, rfl⟩
end
section
/-- the place of a record, once written, doesn't depend on what was there before -/
theorem m_recs_ra (l : List Int) : ∀ (σ τ : fS), σ.1 0 16 = τ.1 0 16 → (∀ i, τ.2 5 i = σ.2 5 i) → (∀ i, τ.2 6 i = σ.2 6 i) → ∀ i, (i ∈ l.map Int.toNat ∨ σ.2 13 i = τ.2 13 i) → (m_recs σ l).2 13 i = (m_recs τ l).2 13 i := by
  induction l with
  | nil =>
    intro σ τ _ _ _ i h
    rcases h with h | h
    · simp at h
    · exact h
  | cons x r ih =>
    intro σ τ h16 h5 h6 i h
    show (m_recs (m_puts (m_r0 σ x) (m_rec σ x)) r).2 13 i = (m_recs (m_puts (m_r0 τ x) (m_rec τ x)) r).2 13 i
    have e1 := m_one_1 σ x 0 16
    have e2 := m_one_1 τ x 0 16
    rw [if_pos ⟨rfl, rfl⟩] at e1 e2
    have e3 := (m_rec_congr h5 h6 x).1
    refine ih _ _ (by rw [e1, e2, e3, h16]) (fun j => by rw [m_one_2 _ _ _ _ (by decide) (by decide) (by decide), m_one_2 _ _ _ _ (by decide) (by decide) (by decide)]; exact h5 j) (fun j => by rw [m_one_2 _ _ _ _ (by decide) (by decide) (by decide), m_one_2 _ _ _ _ (by decide) (by decide) (by decide)]; exact h6 j) i ?_
    have f1 : ∀ s : fS, (m_puts (m_r0 s x) (m_rec s x)).2 13 i = if i = x.toNat then s.1 0 16 else s.2 13 i := by
      intro s
      rw [m_puts_2 _ _ _ _ (by decide)]
      unfold m_r0
      rw [p2_2, if_neg (by omega), p2_2]
      simp
    rw [f1, f1]
    by_cases hi : i = x.toNat
    · rw [if_pos hi, if_pos hi]; exact Or.inr h16
    · rw [if_neg hi, if_neg hi]
      rcases h with h | h
      · rw [List.map_cons, List.mem_cons] at h
        rcases h with h | h
        · exact absurd h hi
        · exact Or.inl h
      · exact Or.inr h
theorem m_turn_mem (σ : fS) (w how t : Int) (n : Nat) (h : m_sel σ w how t ((n : Int) + 1)) : ∀ k, n < k → ((n : Int) + 1) ∈ m_turn σ w how t k := by
  intro k
  induction k with
  | zero => intro h; exact absurd h (Nat.not_lt_zero _)
  | succ k ih =>
    intro hk
    unfold m_turn
    rw [List.mem_append]
    by_cases e : n = k
    · subst e
      rw [cif_pos h]
      exact Or.inr (List.mem_singleton.mpr rfl)
    · exact Or.inl (ih (by omega))
theorem m_turns_mem (σ : fS) (w how : Int) (t : Nat) (x : Int) (h : x ∈ m_turn σ w how (t : Int) 40) : ∀ k, t < k → x ∈ m_turns σ w how k := by
  intro k
  induction k with
  | zero => intro h; exact absurd h (Nat.not_lt_zero _)
  | succ k ih =>
    intro hk
    unfold m_turns
    rw [List.mem_append]
    by_cases e : t = k
    · subst e; exact Or.inr h
    · exact Or.inl (ih (by omega))
theorem m_all_in (σ : fS) (w how : Int) (n : Nat) (hn : n < 40) (hh : 0 ≤ how ∧ how ≤ 2) (hm : (w = 1 ∧ σ.2 1 (n + 1) = 1) ∨ (w = 0 ∧ σ.2 3 (n + 1) = 1)) (ht : σ.2 1 (n + 1) = 1) (h2 : 0 ≤ σ.2 2 (n + 1) ∧ σ.2 2 (n + 1) ≤ 1) (h5 : 0 ≤ σ.2 5 (n + 1) ∧ σ.2 5 (n + 1) ≤ 120) : ((n : Int) + 1) ∈ m_turns σ w how (m_last how + 1) := by
  have hnt : ((n : Int) + 1).toNat = n + 1 := by omega
  have hc : how = 0 ∨ how = 1 ∨ how = 2 := by omega
  rcases hc with rfl | rfl | rfl
  · exact m_turns_mem σ w 0 0 _ (m_turn_mem σ w 0 _ n (by unfold m_sel; rw [hnt]; exact ⟨hm, ht, Or.inr (Or.inr ⟨by decide, by decide⟩)⟩) 40 hn) _ (by show 0 < 0 + 1; omega)
  · exact m_turns_mem σ w 1 (σ.2 5 (n + 1)).toNat _ (m_turn_mem σ w 1 _ n (by unfold m_sel; rw [hnt]; exact ⟨hm, ht, Or.inl ⟨rfl, by omega⟩⟩) 40 hn) _ (by show _ < 120 + 1; omega)
  · by_cases hf : σ.2 2 (n + 1) = 1
    · exact m_turns_mem σ w 2 0 _ (m_turn_mem σ w 2 _ n (by unfold m_sel; rw [hnt]; exact ⟨hm, ht, Or.inr (Or.inl ⟨rfl, Or.inl ⟨hf, rfl⟩⟩)⟩) 40 hn) _ (by show 0 < 1 + 1; omega)
    · exact m_turns_mem σ w 2 1 _ (m_turn_mem σ w 2 _ n (by unfold m_sel; rw [hnt]; exact ⟨hm, ht, Or.inr (Or.inl ⟨rfl, Or.inr ⟨by omega, by decide⟩⟩)⟩) 40 hn) _ (by show 1 < 1 + 1; omega)
/-- two states that agree in what is written -/
def m_eqw (σ τ : fS) : Prop := ∀ k i, k = 1 ∨ k = 2 ∨ k = 3 ∨ k = 5 ∨ k = 6 → τ.2 k i = σ.2 k i
theorem m_body_2 (σ : fS) (a w how : Int) (k i : Nat) (h7 : k ≠ 7) (h13 : k ≠ 13) (h14 : k ≠ 14) : (m_body σ a w how).2 k i = σ.2 k i := by
  unfold m_body
  rw [m_recs_2 _ _ _ _ h7 h13 h14, m_puts_2 _ _ _ _ h7]
  rfl
theorem m_body_1 (σ : fS) (a w how : Int) (q : Nat) (h : q ≠ 16) : (m_body σ a w how).1 0 q = σ.1 0 q := by
  unfold m_body
  rw [m_recs_1, if_neg (by omega), m_puts_1, if_neg (by omega), p1_1, if_neg (by omega)]
theorem m_body_16 (σ : fS) (a w how : Int) : (m_body σ a w how).1 0 16 = a + (if w = 1 then [37, 70, 49, 10] else ([] : List Int)).length + m_rlen σ (m_turns σ w how (m_last how + 1)) := by
  unfold m_body
  rw [m_recs_next, m_puts_next, m_rlen_congr (σ := σ) (τ := m_puts (f_p1 σ 0 16 a) (if w = 1 then [37, 70, 49, 10] else [])) (fun i => m_puts_2 _ _ _ _ (by decide)) (fun i => m_puts_2 _ _ _ _ (by decide))]
  rfl
theorem m_eqw_t {σ τ : fS} (h : m_eqw σ τ) (w how : Int) (t : Nat) : m_turns τ w how t = m_turns σ w how t := m_turns_congr (fun i => h 1 i (by decide)) (fun i => h 2 i (by decide)) (fun i => h 3 i (by decide)) (fun i => h 5 i (by decide)) w how t
theorem m_eqw_16 {σ τ : fS} (h : m_eqw σ τ) (a w how : Int) : (m_body τ a w how).1 0 16 = (m_body σ a w how).1 0 16 := by
  rw [m_body_16, m_body_16, m_eqw_t h, m_rlen_congr (fun i => h 5 i (by decide)) (fun i => h 6 i (by decide))]
theorem m_eqw_row {σ τ : fS} (h : m_eqw σ τ) (a w how : Int) (hw : w = 0 ∨ w = 1) (hh : 0 ≤ how ∧ how ≤ 2) (h2 : ∀ i, 0 ≤ σ.2 2 i ∧ σ.2 2 i ≤ 1) (h5 : ∀ i, 0 ≤ σ.2 5 i ∧ σ.2 5 i ≤ 120) (k : Nat) (hk : k ≤ 40) : m_rows (m_body τ a w how) w k = m_rows (m_body σ a w how) w k := by
  induction k with
  | zero => rfl
  | succ k ih =>
    unfold m_rows
    rw [ih (by omega)]
    have e1 : m_mv (m_body τ a w how) w (k + 1) = m_mv (m_body σ a w how) w (k + 1) := by
      unfold m_mv
      rw [m_body_2 _ _ _ _ _ _ (by decide) (by decide) (by decide), m_body_2 _ _ _ _ _ _ (by decide) (by decide) (by decide), m_body_2 _ _ _ _ _ _ (by decide) (by decide) (by decide), m_body_2 _ _ _ _ _ _ (by decide) (by decide) (by decide), h 1 _ (by decide), h 3 _ (by decide)]
    rw [e1]
    congr 1
    by_cases hm : m_mv (m_body σ a w how) w (k + 1) = 1
    · rw [if_pos hm, if_pos hm]
      unfold m_row
      have hkt : ((k : Int) + 1).toNat = k + 1 := by omega
      rw [hkt, m_body_2 _ _ _ _ _ _ (by decide) (by decide) (by decide), m_body_2 σ _ _ _ _ _ (by decide) (by decide) (by decide), h 1 _ (by decide)]
      by_cases ht : σ.2 1 (k + 1) = 1
      · have hmm : (w = 1 ∧ σ.2 1 (k + 1) = 1) ∨ (w = 0 ∧ σ.2 3 (k + 1) = 1) := by
          rcases hw with rfl | rfl
          · unfold m_mv at hm
            rw [if_neg (by decide), m_body_2 _ _ _ _ _ _ (by decide) (by decide) (by decide)] at hm
            exact Or.inr ⟨rfl, hm⟩
          · exact Or.inl ⟨rfl, ht⟩
        have hin := m_all_in σ w how k (by omega) hh hmm ht (h2 _) (h5 _)
        have hra : (m_body τ a w how).2 13 (k + 1) = (m_body σ a w how).2 13 (k + 1) := by
          unfold m_body
          rw [m_eqw_t h]
          refine m_recs_ra _ _ _ ?_ (fun i => ?_) (fun i => ?_) _ (Or.inl ?_)
          · rw [m_puts_next, m_puts_next]; rfl
          · rw [m_puts_2 _ _ _ _ (by decide), m_puts_2 _ _ _ _ (by decide)]; exact (h 5 i (by decide)).symm
          · rw [m_puts_2 _ _ _ _ (by decide), m_puts_2 _ _ _ _ (by decide)]; exact (h 6 i (by decide)).symm
          · exact List.mem_map.mpr ⟨_, hin, hkt⟩
        rw [hra]
      · rw [if_neg ht, if_neg ht]
    · rw [if_neg hm, if_neg hm]
theorem m_eqw_cnt {σ τ : fS} (h : m_eqw σ τ) (a w how : Int) : m_cnt (m_mv (m_body τ a w how) w) 40 = m_cnt (m_mv (m_body σ a w how) w) 40 := by
  congr 1
  funext i
  unfold m_mv
  rw [m_body_2 _ _ _ _ _ _ (by decide) (by decide) (by decide), m_body_2 _ _ _ _ _ _ (by decide) (by decide) (by decide), m_body_2 _ _ _ _ _ _ (by decide) (by decide) (by decide), m_body_2 _ _ _ _ _ _ (by decide) (by decide) (by decide), h 1 _ (by decide), h 3 _ (by decide)]
/-- counted and written alike -/
theorem m_eqw_tail {σ τ : fS} (h : m_eqw σ τ) (a w how q : Int) (hw : w = 0 ∨ w = 1) (hh : 0 ≤ how ∧ how ≤ 2) (h2 : ∀ i, 0 ≤ σ.2 2 i ∧ σ.2 2 i ≤ 1) (h5 : ∀ i, 0 ≤ σ.2 5 i ∧ σ.2 5 i ≤ 120) : m_tail (m_body τ a w how) w q = m_tail (m_body σ a w how) w q := by
  unfold m_tail
  rw [m_eqw_cnt h, m_eqw_row h a w how hw hh h2 h5 40 (Nat.le_refl _), m_eqw_16 h]
end
