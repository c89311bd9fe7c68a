noncomputable def cif {α : Type} (p : Prop) (a b : α) : α := @ite α p (Classical.propDecidable p) a b
theorem cif_pos {α : Type} {p : Prop} {a b : α} (h : p) : cif p a b = a := if_pos h
theorem cif_neg {α : Type} {p : Prop} {a b : α} (h : ¬ p) : cif p a b = b := if_neg h
/-- records of a list of objects, one behind the other -/
def m_recs (σ : fS) (l : List Int) : fS := l.foldl (fun s n => m_puts (m_r0 s n) (m_rec s n)) σ
def m_rlen (σ : fS) : List Int → Nat
  | [] => 0
  | n :: r => (m_rec σ n).length + m_rlen σ r
theorem m_rlen_app (σ : fS) (a b : List Int) : m_rlen σ (a ++ b) = m_rlen σ a + m_rlen σ b := by
  induction a with
  | nil => simp [m_rlen]
  | cons x r ih => simp only [List.cons_append, m_rlen, ih]; omega
theorem m_rec_congr {σ τ : fS} (h5 : ∀ i, τ.2 5 i = σ.2 5 i) (h6 : ∀ i, τ.2 6 i = σ.2 6 i) (n : Int) : m_rec τ n = m_rec σ n ∧ m_hdr τ n = m_hdr σ n := by
  unfold m_rec m_hdr m_byt
  simp only [h5, h6, and_self]
theorem m_rlen_congr {σ τ : fS} (h5 : ∀ i, τ.2 5 i = σ.2 5 i) (h6 : ∀ i, τ.2 6 i = σ.2 6 i) (l : List Int) : m_rlen τ l = m_rlen σ l := by
  induction l with
  | nil => rfl
  | cons x r ih => simp only [m_rlen, ih, (m_rec_congr h5 h6 x).1]
theorem m_one_2 (σ : fS) (n : Int) (k i : Nat) (h7 : k ≠ 7) (h13 : k ≠ 13) (h14 : k ≠ 14) : (m_puts (m_r0 σ n) (m_rec σ n)).2 k i = σ.2 k i := by
  rw [m_puts_2 _ _ _ _ h7]
  unfold m_r0
  rw [p2_2, if_neg (by omega), p2_2, if_neg (by omega)]
theorem m_one_1 (σ : fS) (n : Int) (a b : Nat) : (m_puts (m_r0 σ n) (m_rec σ n)).1 a b = if a = 0 ∧ b = 16 then σ.1 0 16 + (m_rec σ n).length else σ.1 a b := by
  rw [m_puts_1]
  rfl
theorem m_recs_2 (l : List Int) : ∀ (σ : fS) (k i : Nat), k ≠ 7 → k ≠ 13 → k ≠ 14 → (m_recs σ l).2 k i = σ.2 k i := by
  induction l with
  | nil => intro σ k i _ _ _; rfl
  | cons x r ih =>
    intro σ k i h1 h2 h3
    show (m_recs (m_puts (m_r0 σ x) (m_rec σ x)) r).2 k i = σ.2 k i
    rw [ih _ _ _ h1 h2 h3, m_one_2 _ _ _ _ h1 h2 h3]
theorem m_recs_1 (l : List Int) : ∀ (σ : fS) (a b : Nat), (m_recs σ l).1 a b = if a = 0 ∧ b = 16 then σ.1 0 16 + m_rlen σ l else σ.1 a b := by
  induction l with
  | nil =>
    intro σ a b
    show σ.1 a b = _
    split
    · rename_i h; rw [h.1, h.2]; simp [m_rlen]
    · rfl
  | cons x r ih =>
    intro σ a b
    show (m_recs (m_puts (m_r0 σ x) (m_rec σ x)) r).1 a b = _
    rw [ih, m_one_1, m_one_1, m_rlen_congr (fun i => m_one_2 σ x 5 i (by decide) (by decide) (by decide)) (fun i => m_one_2 σ x 6 i (by decide) (by decide) (by decide))]
    by_cases h : a = 0 ∧ b = 16
    · simp only [h, and_self, if_true, m_rlen]; omega
    · simp [h]
theorem m_recs_snoc (σ : fS) (l : List Int) (n : Int) : m_puts (m_r0 (m_recs σ l) n) (m_rec (m_recs σ l) n) = m_recs σ (l ++ [n]) := by
  unfold m_recs
  rw [List.foldl_append]
  rfl
theorem m_recs_next (σ : fS) (l : List Int) : (m_recs σ l).1 0 16 = σ.1 0 16 + m_rlen σ l := by rw [m_recs_1]; simp
theorem m_recs_cnt (σ : fS) (l : List Int) : (m_recs σ l).1 0 17 = σ.1 0 17 := by rw [m_recs_1]; simp
/-- whether object n's record is written, at a turn -/
def m_sel (σ : fS) (w how t n : Int) : Prop := ((w = 1 ∧ σ.2 1 n.toNat = 1) ∨ (w = 0 ∧ σ.2 3 n.toNat = 1)) ∧ σ.2 1 n.toNat = 1 ∧ ((how = 1 ∧ σ.2 5 n.toNat = t) ∨ (how = 2 ∧ ((σ.2 2 n.toNat = 1 ∧ t = 0) ∨ (σ.2 2 n.toNat = 0 ∧ t ≠ 0))) ∨ (how ≠ 1 ∧ how ≠ 2))
noncomputable def m_turn (σ : fS) (w how t : Int) : Nat → List Int
  | 0 => []
  | k + 1 => m_turn σ w how t k ++ cif (m_sel σ w how t ((k : Int) + 1)) [(k : Int) + 1] []
noncomputable def m_turns (σ : fS) (w how : Int) : Nat → List Int
  | 0 => []
  | t + 1 => m_turns σ w how t ++ m_turn σ w how (t : Int) 40
def m_last (how : Int) : Nat := if how = 1 then 120 else if how = 2 then 1 else 0
theorem m_turn_le (σ : fS) (w how t : Int) (a b : Nat) : m_rlen σ (m_turn σ w how t a) ≤ m_rlen σ (m_turn σ w how t (a + b)) := by
  induction b with
  | zero => exact Nat.le_refl _
  | succ b ih =>
    refine Nat.le_trans ih ?_
    show _ ≤ m_rlen σ (m_turn σ w how t (a + b) ++ _)
    rw [m_rlen_app]
    omega
theorem m_turns_le (σ : fS) (w how : Int) (a b : Nat) : m_rlen σ (m_turns σ w how a) ≤ m_rlen σ (m_turns σ w how (a + b)) := by
  induction b with
  | zero => exact Nat.le_refl _
  | succ b ih =>
    refine Nat.le_trans ih ?_
    show _ ≤ m_rlen σ (m_turns σ w how (a + b) ++ _)
    rw [m_rlen_app]
    omega
set_option maxRecDepth 100000 in
set_option maxHeartbeats 4000000 in
/-- putRecords(whole, how) -/
theorem kM_putRecords (l : Launch) (xCl : List vw_C) (D : va_G) (cA : Nat → ClassId) (ad : Nat → Nat) (hJ : f_J (mG xCl D cA ad)) (σ : fS) (w how : Int) (hw : w = 0 ∨ w = 1) (hh : 0 ≤ how ∧ how ≤ 2) (h1 : ∀ i, 0 ≤ σ.2 1 i ∧ σ.2 1 i ≤ 1) (h2 : ∀ i, 0 ≤ σ.2 2 i ∧ σ.2 2 i ≤ 1) (h3 : ∀ i, 0 ≤ σ.2 3 i ∧ σ.2 3 i ≤ 1) (h5 : ∀ i, 0 ≤ σ.2 5 i ∧ σ.2 5 i ≤ 120) (h6 : ∀ i, -128 ≤ σ.2 6 i ∧ σ.2 6 i ≤ 127) (hn : 0 ≤ σ.1 0 16) (hnT : σ.1 0 16 + m_rlen σ (m_turns σ w how (m_last how + 1)) ≤ 90000) (hc : σ.1 0 17 = 0 ∨ σ.1 0 17 = 1) (hf : σ.1 0 17 = 0 → σ.1 0 16 + m_rlen σ (m_turns σ w how (m_last how + 1)) ≤ 12000) : f_M l (mG xCl D cA ad) mE yM_putRecords (Cond.code yM_putRecords cM_putRecords 6 none :: A9) 3 σ [.ref (ad 0), .int (fI w), .int (fI how)] (f_QV (fun σ1 => σ1 = m_recs σ (m_turns σ w how (m_last how + 1))) (mG xCl D cA ad)) := by
  refine f_enter (by decide +kernel) hJ rfl (Nat.le_of_ble_eq_true rfl) ?_
  intro z hzl hR C hRt hLk hEz
  subst hzl
  have hml : (how = 1 ∧ m_last how = 120) ∨ (how = 2 ∧ m_last how = 1) ∨ ((how ≠ 1 ∧ how ≠ 2) ∧ m_last how = 0) := by unfold m_last; split; (· omega); (· split <;> omega)
  have LI : ∀ (t : Nat), t ≤ m_last how → fv z (mG xCl D cA ad) 6 (f_R z (mG xCl D cA ad) (f_QV (fun σ1 => σ1 = m_recs σ (m_turns σ w how (m_last how + 1))) (mG xCl D cA ad))) 0 0 (m_recs σ (m_turns σ w how (t + 1))) 132 [some (.ref (ad 0)), some (.int (fI w)), some (.int (fI how)), some (.int (fI (t : Int))), none, none] [] → ∀ (m k : Nat), m + k = 40 → fv z (mG xCl D cA ad) 6 (f_R z (mG xCl D cA ad) (f_QV (fun σ1 => σ1 = m_recs σ (m_turns σ w how (m_last how + 1))) (mG xCl D cA ad))) 0 0 (m_recs σ (m_turns σ w how t ++ m_turn σ w how (t : Int) k)) 29 [some (.ref (ad 0)), some (.int (fI w)), some (.int (fI how)), some (.int (fI (t : Int))), some (.int (fI ((k : Int) + 1))), none] [] := by
    intro t ht KK m
    induction m with
    | zero =>
      intro k hk
      refine v_iload C dM_putRecords_29 rfl ?_
      refine v_bipush C dM_putRecords_31 (by decide +kernel) ?_
      refine v_icmp_gt (tgt := 132) C dM_putRecords_33 (by decide) (by omega) (by omega) (fun hc1 => ?_) (fun hc1 => ?_)
      · exact v_less (by exact ⟨rfl, rfl, rfl, rfl, trivial⟩) (v_st (by rw [show k = 40 by omega]; rfl) KK)
      · exfalso; omega
    | succ m ih =>
      intro k hk
      have hb1 := h1 ((k : Int) + 1).toNat
      have hb2 := h2 ((k : Int) + 1).toNat
      have hb3 := h3 ((k : Int) + 1).toNat
      have hb5 := h5 ((k : Int) + 1).toNat
      have hnx := m_recs_next σ (m_turns σ w how t ++ m_turn σ w how (t : Int) k)
      have hct := m_recs_cnt σ (m_turns σ w how t ++ m_turn σ w how (t : Int) k)
      have hl1 := m_rlen_app σ (m_turns σ w how t) (m_turn σ w how (t : Int) k)
      have hl2 := m_turn_le σ w how (t : Int) (k + 1) m
      rw [show k + 1 + m = 40 by omega] at hl2
      have hl3 := m_turns_le σ w how (t + 1) (m_last how - t)
      rw [show t + 1 + (m_last how - t) = m_last how + 1 by omega, show m_turns σ w how (t + 1) = m_turns σ w how t ++ m_turn σ w how (t : Int) 40 from rfl, m_rlen_app] at hl3
      rw [show m_turn σ w how (t : Int) (k + 1) = m_turn σ w how (t : Int) k ++ cif (m_sel σ w how (t : Int) ((k : Int) + 1)) [(k : Int) + 1] [] from rfl, m_rlen_app] at hl2
      have BK : ∀ s : fS, s = m_recs σ (m_turns σ w how t ++ m_turn σ w how (t : Int) (k + 1)) → fv z (mG xCl D cA ad) 6 (f_R z (mG xCl D cA ad) (f_QV (fun σ1 => σ1 = m_recs σ (m_turns σ w how (m_last how + 1))) (mG xCl D cA ad))) 0 0 s 126 [some (.ref (ad 0)), some (.int (fI w)), some (.int (fI how)), some (.int (fI (t : Int))), some (.int (fI ((k : Int) + 1))), none] [] := by
        intro s hs
        subst hs
        refine v_iinc C dM_putRecords_126 rfl (by decide) ?_
        refine v_goto (tgt := 29) C dM_putRecords_129 (by decide) ?_
        exact v_lv rfl (ih (k + 1) (by omega))
      refine v_iload C dM_putRecords_29 rfl ?_
      refine v_bipush C dM_putRecords_31 (by decide +kernel) ?_
      refine v_icmp_gt (tgt := 132) C dM_putRecords_33 (by decide) (by omega) (by omega) (fun hc2 => ?_) (fun hc2 => ?_)
      · exfalso; omega
      · refine v_iload_n C dM_putRecords_36 rfl rfl ?_
        refine v_iconst C dM_putRecords_37 ?_
        refine v_icmp_ne (tgt := 60) C dM_putRecords_38 (by decide) (by omega) (by omega) (fun hc3 => ?_) (fun hc3 => ?_)
        · refine v_iload_n C dM_putRecords_60 rfl rfl ?_
          refine v_iconst C dM_putRecords_61 ?_
          refine v_icmp_ne (tgt := 92) C dM_putRecords_62 (by decide) (by omega) (by omega) (fun hc4 => ?_) (fun hc4 => ?_)
          · refine v_iconst C dM_putRecords_92 ?_
            refine v_istore C dM_putRecords_93 (by decide) ?_
            refine v_aload_n C dM_putRecords_95 rfl rfl ?_
            refine v_iload C dM_putRecords_96 rfl ?_
            refine v_iload_n C dM_putRecords_98 rfl rfl ?_
            have hm1 : ∀ i, 0 ≤ (m_recs σ (m_turns σ w how t ++ m_turn σ w how (t : Int) k)).2 1 i ∧ (m_recs σ (m_turns σ w how t ++ m_turn σ w how (t : Int) k)).2 1 i ≤ 1 := fun i => by rw [m_recs_2 _ _ _ _ (by decide) (by decide) (by decide)]; exact h1 i
            have hm3 : ∀ i, 0 ≤ (m_recs σ (m_turns σ w how t ++ m_turn σ w how (t : Int) k)).2 3 i ∧ (m_recs σ (m_turns σ w how t ++ m_turn σ w how (t : Int) k)).2 3 i ≤ 1 := fun i => by rw [m_recs_2 _ _ _ _ (by decide) (by decide) (by decide)]; exact h3 i
            refine v_cVI (k := 0) (n := 2) C (mE_ok _) trivial hR (kM_isMeant _ xCl D cA ad hJ (m_recs σ (m_turns σ w how t ++ m_turn σ w how (t : Int) k)) (((k : Int) + 1)) w (by omega) (by omega) hm1 hm3) dM_putRecords_99 (by show (0 : Nat) < 18; decide) rfl rfl gM_92 (by decide +kernel) (by decide) (by decide) rfl (Nat.le_of_ble_eq_true rfl) rfl ⟨rfl, rfl⟩ (fun r1 τ1 hp1 => ?_)
            rw [m_recs_2 _ _ _ _ (by decide) (by decide) (by decide), m_recs_2 _ _ _ _ (by decide) (by decide) (by decide)] at hp1
            rcases hp1 with ⟨hw9, e9, e8⟩ | ⟨hw9, e9, e8⟩
            · subst τ1
              subst r1
              refine v_if_eq (tgt := 126) C dM_putRecords_102 (by decide) (by omega) (fun hc5 => ?_) (fun hc5 => ?_)
              · exact v_less (by exact ⟨rfl, rfl, rfl, rfl, rfl, trivial⟩) (BK _ (by show _ = m_recs σ (m_turns σ w how t ++ (m_turn σ w how (t : Int) k ++ cif (m_sel σ w how (t : Int) ((k : Int) + 1)) [(k : Int) + 1] [])); rw [cif_neg (by unfold m_sel; omega), List.append_nil]))
              · refine v_aload_n C dM_putRecords_105 rfl rfl ?_
                refine v_getR (k := 0) (q := 1) C dM_putRecords_106 (by show (0 : Nat) < 18; decide) rfl rfl (by decide) rfl inM lM_7 rfl ?_
                refine v_iload C dM_putRecords_109 rfl ?_
                refine v_zald (k := 1) (v := σ.2 1 (((k : Int) + 1)).toNat) C dM_putRecords_111 (by show (1 : Nat) < 18; decide) rfl rfl (by omega) (by decide) (m_recs_2 _ _ _ _ (by decide) (by decide) (by decide)) ?_
                refine v_if_eq (tgt := 126) C dM_putRecords_112 (by decide) (by omega) (fun hc6 => ?_) (fun hc6 => ?_)
                · exact v_less (by exact ⟨rfl, rfl, rfl, rfl, rfl, trivial⟩) (BK _ (by show _ = m_recs σ (m_turns σ w how t ++ (m_turn σ w how (t : Int) k ++ cif (m_sel σ w how (t : Int) ((k : Int) + 1)) [(k : Int) + 1] [])); rw [cif_neg (by unfold m_sel; omega), List.append_nil]))
                · refine v_iload C dM_putRecords_115 rfl ?_
                  refine v_if_eq (tgt := 126) C dM_putRecords_117 (by decide) (by omega) (fun hc7 => ?_) (fun hc7 => ?_)
                  · exfalso; omega
                  · refine v_aload_n C dM_putRecords_120 rfl rfl ?_
                    refine v_iload C dM_putRecords_121 rfl ?_
                    have hq5 : ∀ i, (m_recs σ (m_turns σ w how t ++ m_turn σ w how (t : Int) k)).2 5 i = σ.2 5 i := fun i => m_recs_2 _ _ _ _ (by decide) (by decide) (by decide)
                    have hq6 : ∀ i, (m_recs σ (m_turns σ w how t ++ m_turn σ w how (t : Int) k)).2 6 i = σ.2 6 i := fun i => m_recs_2 _ _ _ _ (by decide) (by decide) (by decide)
                    have hrc := (m_rec_congr hq5 hq6 (((k : Int) + 1))).1
                    have hsel : m_sel σ w how (t : Int) ((k : Int) + 1) := by unfold m_sel; omega
                    rw [cif_pos hsel] at hl2
                    have hl4 : m_rlen σ [(k : Int) + 1] = (m_rec σ ((k : Int) + 1)).length := by simp [m_rlen]
                    refine v_cVV (k := 0) (n := 1) C (mE_ok _) trivial hR (kM_putRecord _ xCl D cA ad hJ (m_recs σ (m_turns σ w how t ++ m_turn σ w how (t : Int) k)) (((k : Int) + 1)) (by omega) (fun i => by rw [hq5]; exact h5 i) (fun i => by rw [hq6]; exact h6 i) (by omega) (by omega) (by rw [hrc]; omega)) dM_putRecords_123 (by show (0 : Nat) < 18; decide) rfl rfl gM_96 (by decide +kernel) (by decide) (by decide) rfl (Nat.le_of_ble_eq_true rfl) rfl ⟨rfl, rfl⟩ (fun τ2 hp2 => ?_)
                    subst τ2
                    · exact v_less (by exact ⟨rfl, rfl, rfl, rfl, rfl, trivial⟩) (BK _ (by rw [m_recs_snoc, List.append_assoc]; show _ = m_recs σ (m_turns σ w how t ++ (m_turn σ w how (t : Int) k ++ cif (m_sel σ w how (t : Int) ((k : Int) + 1)) [(k : Int) + 1] [])); rw [cif_pos (by unfold m_sel; omega)]))
            · subst τ1
              subst r1
              refine v_if_eq (tgt := 126) C dM_putRecords_102 (by decide) (by omega) (fun hc8 => ?_) (fun hc8 => ?_)
              · exact v_less (by exact ⟨rfl, rfl, rfl, rfl, rfl, trivial⟩) (BK _ (by show _ = m_recs σ (m_turns σ w how t ++ (m_turn σ w how (t : Int) k ++ cif (m_sel σ w how (t : Int) ((k : Int) + 1)) [(k : Int) + 1] [])); rw [cif_neg (by unfold m_sel; omega), List.append_nil]))
              · refine v_aload_n C dM_putRecords_105 rfl rfl ?_
                refine v_getR (k := 0) (q := 1) C dM_putRecords_106 (by show (0 : Nat) < 18; decide) rfl rfl (by decide) rfl inM lM_7 rfl ?_
                refine v_iload C dM_putRecords_109 rfl ?_
                refine v_zald (k := 1) (v := σ.2 1 (((k : Int) + 1)).toNat) C dM_putRecords_111 (by show (1 : Nat) < 18; decide) rfl rfl (by omega) (by decide) (m_recs_2 _ _ _ _ (by decide) (by decide) (by decide)) ?_
                refine v_if_eq (tgt := 126) C dM_putRecords_112 (by decide) (by omega) (fun hc9 => ?_) (fun hc9 => ?_)
                · exact v_less (by exact ⟨rfl, rfl, rfl, rfl, rfl, trivial⟩) (BK _ (by show _ = m_recs σ (m_turns σ w how t ++ (m_turn σ w how (t : Int) k ++ cif (m_sel σ w how (t : Int) ((k : Int) + 1)) [(k : Int) + 1] [])); rw [cif_neg (by unfold m_sel; omega), List.append_nil]))
                · refine v_iload C dM_putRecords_115 rfl ?_
                  refine v_if_eq (tgt := 126) C dM_putRecords_117 (by decide) (by omega) (fun hc10 => ?_) (fun hc10 => ?_)
                  · exfalso; omega
                  · refine v_aload_n C dM_putRecords_120 rfl rfl ?_
                    refine v_iload C dM_putRecords_121 rfl ?_
                    have hq5 : ∀ i, (m_recs σ (m_turns σ w how t ++ m_turn σ w how (t : Int) k)).2 5 i = σ.2 5 i := fun i => m_recs_2 _ _ _ _ (by decide) (by decide) (by decide)
                    have hq6 : ∀ i, (m_recs σ (m_turns σ w how t ++ m_turn σ w how (t : Int) k)).2 6 i = σ.2 6 i := fun i => m_recs_2 _ _ _ _ (by decide) (by decide) (by decide)
                    have hrc := (m_rec_congr hq5 hq6 (((k : Int) + 1))).1
                    have hsel : m_sel σ w how (t : Int) ((k : Int) + 1) := by unfold m_sel; omega
                    rw [cif_pos hsel] at hl2
                    have hl4 : m_rlen σ [(k : Int) + 1] = (m_rec σ ((k : Int) + 1)).length := by simp [m_rlen]
                    refine v_cVV (k := 0) (n := 1) C (mE_ok _) trivial hR (kM_putRecord _ xCl D cA ad hJ (m_recs σ (m_turns σ w how t ++ m_turn σ w how (t : Int) k)) (((k : Int) + 1)) (by omega) (fun i => by rw [hq5]; exact h5 i) (fun i => by rw [hq6]; exact h6 i) (by omega) (by omega) (by rw [hrc]; omega)) dM_putRecords_123 (by show (0 : Nat) < 18; decide) rfl rfl gM_96 (by decide +kernel) (by decide) (by decide) rfl (Nat.le_of_ble_eq_true rfl) rfl ⟨rfl, rfl⟩ (fun τ3 hp3 => ?_)
                    subst τ3
                    · exact v_less (by exact ⟨rfl, rfl, rfl, rfl, rfl, trivial⟩) (BK _ (by rw [m_recs_snoc, List.append_assoc]; show _ = m_recs σ (m_turns σ w how t ++ (m_turn σ w how (t : Int) k ++ cif (m_sel σ w how (t : Int) ((k : Int) + 1)) [(k : Int) + 1] [])); rw [cif_pos (by unfold m_sel; omega)]))
          · refine v_aload_n C dM_putRecords_65 rfl rfl ?_
            refine v_getR (k := 0) (q := 2) C dM_putRecords_66 (by show (0 : Nat) < 18; decide) rfl rfl (by decide) rfl inM lM_13 rfl ?_
            refine v_iload C dM_putRecords_69 rfl ?_
            refine v_zald (k := 2) (v := σ.2 2 (((k : Int) + 1)).toNat) C dM_putRecords_71 (by show (2 : Nat) < 18; decide) rfl rfl (by omega) (by decide) (m_recs_2 _ _ _ _ (by decide) (by decide) (by decide)) ?_
            refine v_iload_n C dM_putRecords_72 rfl rfl ?_
            refine v_if_ne (tgt := 80) C dM_putRecords_73 (by decide) (by omega) (fun hc11 => ?_) (fun hc11 => ?_)
            · refine v_iconst C dM_putRecords_80 ?_
              refine v_icmp_ne (tgt := 88) C dM_putRecords_81 (by decide) (by omega) (by omega) (fun hc12 => ?_) (fun hc12 => ?_)
              · refine v_iconst C dM_putRecords_88 ?_
                refine v_goto (tgt := 93) C dM_putRecords_89 (by decide) ?_
                refine v_istore C dM_putRecords_93 (by decide) ?_
                refine v_aload_n C dM_putRecords_95 rfl rfl ?_
                refine v_iload C dM_putRecords_96 rfl ?_
                refine v_iload_n C dM_putRecords_98 rfl rfl ?_
                have hm1 : ∀ i, 0 ≤ (m_recs σ (m_turns σ w how t ++ m_turn σ w how (t : Int) k)).2 1 i ∧ (m_recs σ (m_turns σ w how t ++ m_turn σ w how (t : Int) k)).2 1 i ≤ 1 := fun i => by rw [m_recs_2 _ _ _ _ (by decide) (by decide) (by decide)]; exact h1 i
                have hm3 : ∀ i, 0 ≤ (m_recs σ (m_turns σ w how t ++ m_turn σ w how (t : Int) k)).2 3 i ∧ (m_recs σ (m_turns σ w how t ++ m_turn σ w how (t : Int) k)).2 3 i ≤ 1 := fun i => by rw [m_recs_2 _ _ _ _ (by decide) (by decide) (by decide)]; exact h3 i
                refine v_cVI (k := 0) (n := 2) C (mE_ok _) trivial hR (kM_isMeant _ xCl D cA ad hJ (m_recs σ (m_turns σ w how t ++ m_turn σ w how (t : Int) k)) (((k : Int) + 1)) w (by omega) (by omega) hm1 hm3) dM_putRecords_99 (by show (0 : Nat) < 18; decide) rfl rfl gM_92 (by decide +kernel) (by decide) (by decide) rfl (Nat.le_of_ble_eq_true rfl) rfl ⟨rfl, rfl⟩ (fun r4 τ4 hp4 => ?_)
                rw [m_recs_2 _ _ _ _ (by decide) (by decide) (by decide), m_recs_2 _ _ _ _ (by decide) (by decide) (by decide)] at hp4
                rcases hp4 with ⟨hw9, e9, e8⟩ | ⟨hw9, e9, e8⟩
                · subst τ4
                  subst r4
                  refine v_if_eq (tgt := 126) C dM_putRecords_102 (by decide) (by omega) (fun hc13 => ?_) (fun hc13 => ?_)
                  · exact v_less (by exact ⟨rfl, rfl, rfl, rfl, rfl, trivial⟩) (BK _ (by show _ = m_recs σ (m_turns σ w how t ++ (m_turn σ w how (t : Int) k ++ cif (m_sel σ w how (t : Int) ((k : Int) + 1)) [(k : Int) + 1] [])); rw [cif_neg (by unfold m_sel; omega), List.append_nil]))
                  · refine v_aload_n C dM_putRecords_105 rfl rfl ?_
                    refine v_getR (k := 0) (q := 1) C dM_putRecords_106 (by show (0 : Nat) < 18; decide) rfl rfl (by decide) rfl inM lM_7 rfl ?_
                    refine v_iload C dM_putRecords_109 rfl ?_
                    refine v_zald (k := 1) (v := σ.2 1 (((k : Int) + 1)).toNat) C dM_putRecords_111 (by show (1 : Nat) < 18; decide) rfl rfl (by omega) (by decide) (m_recs_2 _ _ _ _ (by decide) (by decide) (by decide)) ?_
                    refine v_if_eq (tgt := 126) C dM_putRecords_112 (by decide) (by omega) (fun hc14 => ?_) (fun hc14 => ?_)
                    · exact v_less (by exact ⟨rfl, rfl, rfl, rfl, rfl, trivial⟩) (BK _ (by show _ = m_recs σ (m_turns σ w how t ++ (m_turn σ w how (t : Int) k ++ cif (m_sel σ w how (t : Int) ((k : Int) + 1)) [(k : Int) + 1] [])); rw [cif_neg (by unfold m_sel; omega), List.append_nil]))
                    · refine v_iload C dM_putRecords_115 rfl ?_
                      refine v_if_eq (tgt := 126) C dM_putRecords_117 (by decide) (by omega) (fun hc15 => ?_) (fun hc15 => ?_)
                      · exact v_less (by exact ⟨rfl, rfl, rfl, rfl, rfl, trivial⟩) (BK _ (by show _ = m_recs σ (m_turns σ w how t ++ (m_turn σ w how (t : Int) k ++ cif (m_sel σ w how (t : Int) ((k : Int) + 1)) [(k : Int) + 1] [])); rw [cif_neg (by unfold m_sel; omega), List.append_nil]))
                      · exfalso; omega
                · subst τ4
                  subst r4
                  refine v_if_eq (tgt := 126) C dM_putRecords_102 (by decide) (by omega) (fun hc16 => ?_) (fun hc16 => ?_)
                  · exact v_less (by exact ⟨rfl, rfl, rfl, rfl, rfl, trivial⟩) (BK _ (by show _ = m_recs σ (m_turns σ w how t ++ (m_turn σ w how (t : Int) k ++ cif (m_sel σ w how (t : Int) ((k : Int) + 1)) [(k : Int) + 1] [])); rw [cif_neg (by unfold m_sel; omega), List.append_nil]))
                  · refine v_aload_n C dM_putRecords_105 rfl rfl ?_
                    refine v_getR (k := 0) (q := 1) C dM_putRecords_106 (by show (0 : Nat) < 18; decide) rfl rfl (by decide) rfl inM lM_7 rfl ?_
                    refine v_iload C dM_putRecords_109 rfl ?_
                    refine v_zald (k := 1) (v := σ.2 1 (((k : Int) + 1)).toNat) C dM_putRecords_111 (by show (1 : Nat) < 18; decide) rfl rfl (by omega) (by decide) (m_recs_2 _ _ _ _ (by decide) (by decide) (by decide)) ?_
                    refine v_if_eq (tgt := 126) C dM_putRecords_112 (by decide) (by omega) (fun hc17 => ?_) (fun hc17 => ?_)
                    · exact v_less (by exact ⟨rfl, rfl, rfl, rfl, rfl, trivial⟩) (BK _ (by show _ = m_recs σ (m_turns σ w how t ++ (m_turn σ w how (t : Int) k ++ cif (m_sel σ w how (t : Int) ((k : Int) + 1)) [(k : Int) + 1] [])); rw [cif_neg (by unfold m_sel; omega), List.append_nil]))
                    · refine v_iload C dM_putRecords_115 rfl ?_
                      refine v_if_eq (tgt := 126) C dM_putRecords_117 (by decide) (by omega) (fun hc18 => ?_) (fun hc18 => ?_)
                      · exact v_less (by exact ⟨rfl, rfl, rfl, rfl, rfl, trivial⟩) (BK _ (by show _ = m_recs σ (m_turns σ w how t ++ (m_turn σ w how (t : Int) k ++ cif (m_sel σ w how (t : Int) ((k : Int) + 1)) [(k : Int) + 1] [])); rw [cif_neg (by unfold m_sel; omega), List.append_nil]))
                      · exfalso; omega
              · refine v_iconst C dM_putRecords_84 ?_
                refine v_goto (tgt := 93) C dM_putRecords_85 (by decide) ?_
                refine v_istore C dM_putRecords_93 (by decide) ?_
                refine v_aload_n C dM_putRecords_95 rfl rfl ?_
                refine v_iload C dM_putRecords_96 rfl ?_
                refine v_iload_n C dM_putRecords_98 rfl rfl ?_
                have hm1 : ∀ i, 0 ≤ (m_recs σ (m_turns σ w how t ++ m_turn σ w how (t : Int) k)).2 1 i ∧ (m_recs σ (m_turns σ w how t ++ m_turn σ w how (t : Int) k)).2 1 i ≤ 1 := fun i => by rw [m_recs_2 _ _ _ _ (by decide) (by decide) (by decide)]; exact h1 i
                have hm3 : ∀ i, 0 ≤ (m_recs σ (m_turns σ w how t ++ m_turn σ w how (t : Int) k)).2 3 i ∧ (m_recs σ (m_turns σ w how t ++ m_turn σ w how (t : Int) k)).2 3 i ≤ 1 := fun i => by rw [m_recs_2 _ _ _ _ (by decide) (by decide) (by decide)]; exact h3 i
                refine v_cVI (k := 0) (n := 2) C (mE_ok _) trivial hR (kM_isMeant _ xCl D cA ad hJ (m_recs σ (m_turns σ w how t ++ m_turn σ w how (t : Int) k)) (((k : Int) + 1)) w (by omega) (by omega) hm1 hm3) dM_putRecords_99 (by show (0 : Nat) < 18; decide) rfl rfl gM_92 (by decide +kernel) (by decide) (by decide) rfl (Nat.le_of_ble_eq_true rfl) rfl ⟨rfl, rfl⟩ (fun r5 τ5 hp5 => ?_)
                rw [m_recs_2 _ _ _ _ (by decide) (by decide) (by decide), m_recs_2 _ _ _ _ (by decide) (by decide) (by decide)] at hp5
                rcases hp5 with ⟨hw9, e9, e8⟩ | ⟨hw9, e9, e8⟩
                · subst τ5
                  subst r5
                  refine v_if_eq (tgt := 126) C dM_putRecords_102 (by decide) (by omega) (fun hc19 => ?_) (fun hc19 => ?_)
                  · exact v_less (by exact ⟨rfl, rfl, rfl, rfl, rfl, trivial⟩) (BK _ (by show _ = m_recs σ (m_turns σ w how t ++ (m_turn σ w how (t : Int) k ++ cif (m_sel σ w how (t : Int) ((k : Int) + 1)) [(k : Int) + 1] [])); rw [cif_neg (by unfold m_sel; omega), List.append_nil]))
                  · refine v_aload_n C dM_putRecords_105 rfl rfl ?_
                    refine v_getR (k := 0) (q := 1) C dM_putRecords_106 (by show (0 : Nat) < 18; decide) rfl rfl (by decide) rfl inM lM_7 rfl ?_
                    refine v_iload C dM_putRecords_109 rfl ?_
                    refine v_zald (k := 1) (v := σ.2 1 (((k : Int) + 1)).toNat) C dM_putRecords_111 (by show (1 : Nat) < 18; decide) rfl rfl (by omega) (by decide) (m_recs_2 _ _ _ _ (by decide) (by decide) (by decide)) ?_
                    refine v_if_eq (tgt := 126) C dM_putRecords_112 (by decide) (by omega) (fun hc20 => ?_) (fun hc20 => ?_)
                    · exact v_less (by exact ⟨rfl, rfl, rfl, rfl, rfl, trivial⟩) (BK _ (by show _ = m_recs σ (m_turns σ w how t ++ (m_turn σ w how (t : Int) k ++ cif (m_sel σ w how (t : Int) ((k : Int) + 1)) [(k : Int) + 1] [])); rw [cif_neg (by unfold m_sel; omega), List.append_nil]))
                    · refine v_iload C dM_putRecords_115 rfl ?_
                      refine v_if_eq (tgt := 126) C dM_putRecords_117 (by decide) (by omega) (fun hc21 => ?_) (fun hc21 => ?_)
                      · exfalso; omega
                      · refine v_aload_n C dM_putRecords_120 rfl rfl ?_
                        refine v_iload C dM_putRecords_121 rfl ?_
                        have hq5 : ∀ i, (m_recs σ (m_turns σ w how t ++ m_turn σ w how (t : Int) k)).2 5 i = σ.2 5 i := fun i => m_recs_2 _ _ _ _ (by decide) (by decide) (by decide)
                        have hq6 : ∀ i, (m_recs σ (m_turns σ w how t ++ m_turn σ w how (t : Int) k)).2 6 i = σ.2 6 i := fun i => m_recs_2 _ _ _ _ (by decide) (by decide) (by decide)
                        have hrc := (m_rec_congr hq5 hq6 (((k : Int) + 1))).1
                        have hsel : m_sel σ w how (t : Int) ((k : Int) + 1) := by unfold m_sel; omega
                        rw [cif_pos hsel] at hl2
                        have hl4 : m_rlen σ [(k : Int) + 1] = (m_rec σ ((k : Int) + 1)).length := by simp [m_rlen]
                        refine v_cVV (k := 0) (n := 1) C (mE_ok _) trivial hR (kM_putRecord _ xCl D cA ad hJ (m_recs σ (m_turns σ w how t ++ m_turn σ w how (t : Int) k)) (((k : Int) + 1)) (by omega) (fun i => by rw [hq5]; exact h5 i) (fun i => by rw [hq6]; exact h6 i) (by omega) (by omega) (by rw [hrc]; omega)) dM_putRecords_123 (by show (0 : Nat) < 18; decide) rfl rfl gM_96 (by decide +kernel) (by decide) (by decide) rfl (Nat.le_of_ble_eq_true rfl) rfl ⟨rfl, rfl⟩ (fun τ6 hp6 => ?_)
                        subst τ6
                        · exact v_less (by exact ⟨rfl, rfl, rfl, rfl, rfl, trivial⟩) (BK _ (by rw [m_recs_snoc, List.append_assoc]; show _ = m_recs σ (m_turns σ w how t ++ (m_turn σ w how (t : Int) k ++ cif (m_sel σ w how (t : Int) ((k : Int) + 1)) [(k : Int) + 1] [])); rw [cif_pos (by unfold m_sel; omega)]))
                · subst τ5
                  subst r5
                  refine v_if_eq (tgt := 126) C dM_putRecords_102 (by decide) (by omega) (fun hc22 => ?_) (fun hc22 => ?_)
                  · exact v_less (by exact ⟨rfl, rfl, rfl, rfl, rfl, trivial⟩) (BK _ (by show _ = m_recs σ (m_turns σ w how t ++ (m_turn σ w how (t : Int) k ++ cif (m_sel σ w how (t : Int) ((k : Int) + 1)) [(k : Int) + 1] [])); rw [cif_neg (by unfold m_sel; omega), List.append_nil]))
                  · refine v_aload_n C dM_putRecords_105 rfl rfl ?_
                    refine v_getR (k := 0) (q := 1) C dM_putRecords_106 (by show (0 : Nat) < 18; decide) rfl rfl (by decide) rfl inM lM_7 rfl ?_
                    refine v_iload C dM_putRecords_109 rfl ?_
                    refine v_zald (k := 1) (v := σ.2 1 (((k : Int) + 1)).toNat) C dM_putRecords_111 (by show (1 : Nat) < 18; decide) rfl rfl (by omega) (by decide) (m_recs_2 _ _ _ _ (by decide) (by decide) (by decide)) ?_
                    refine v_if_eq (tgt := 126) C dM_putRecords_112 (by decide) (by omega) (fun hc23 => ?_) (fun hc23 => ?_)
                    · exact v_less (by exact ⟨rfl, rfl, rfl, rfl, rfl, trivial⟩) (BK _ (by show _ = m_recs σ (m_turns σ w how t ++ (m_turn σ w how (t : Int) k ++ cif (m_sel σ w how (t : Int) ((k : Int) + 1)) [(k : Int) + 1] [])); rw [cif_neg (by unfold m_sel; omega), List.append_nil]))
                    · refine v_iload C dM_putRecords_115 rfl ?_
                      refine v_if_eq (tgt := 126) C dM_putRecords_117 (by decide) (by omega) (fun hc24 => ?_) (fun hc24 => ?_)
                      · exfalso; omega
                      · refine v_aload_n C dM_putRecords_120 rfl rfl ?_
                        refine v_iload C dM_putRecords_121 rfl ?_
                        have hq5 : ∀ i, (m_recs σ (m_turns σ w how t ++ m_turn σ w how (t : Int) k)).2 5 i = σ.2 5 i := fun i => m_recs_2 _ _ _ _ (by decide) (by decide) (by decide)
                        have hq6 : ∀ i, (m_recs σ (m_turns σ w how t ++ m_turn σ w how (t : Int) k)).2 6 i = σ.2 6 i := fun i => m_recs_2 _ _ _ _ (by decide) (by decide) (by decide)
                        have hrc := (m_rec_congr hq5 hq6 (((k : Int) + 1))).1
                        have hsel : m_sel σ w how (t : Int) ((k : Int) + 1) := by unfold m_sel; omega
                        rw [cif_pos hsel] at hl2
                        have hl4 : m_rlen σ [(k : Int) + 1] = (m_rec σ ((k : Int) + 1)).length := by simp [m_rlen]
                        refine v_cVV (k := 0) (n := 1) C (mE_ok _) trivial hR (kM_putRecord _ xCl D cA ad hJ (m_recs σ (m_turns σ w how t ++ m_turn σ w how (t : Int) k)) (((k : Int) + 1)) (by omega) (fun i => by rw [hq5]; exact h5 i) (fun i => by rw [hq6]; exact h6 i) (by omega) (by omega) (by rw [hrc]; omega)) dM_putRecords_123 (by show (0 : Nat) < 18; decide) rfl rfl gM_96 (by decide +kernel) (by decide) (by decide) rfl (Nat.le_of_ble_eq_true rfl) rfl ⟨rfl, rfl⟩ (fun τ7 hp7 => ?_)
                        subst τ7
                        · exact v_less (by exact ⟨rfl, rfl, rfl, rfl, rfl, trivial⟩) (BK _ (by rw [m_recs_snoc, List.append_assoc]; show _ = m_recs σ (m_turns σ w how t ++ (m_turn σ w how (t : Int) k ++ cif (m_sel σ w how (t : Int) ((k : Int) + 1)) [(k : Int) + 1] [])); rw [cif_pos (by unfold m_sel; omega)]))
            · refine v_iconst C dM_putRecords_76 ?_
              refine v_goto (tgt := 81) C dM_putRecords_77 (by decide) ?_
              refine v_icmp_ne (tgt := 88) C dM_putRecords_81 (by decide) (by omega) (by omega) (fun hc25 => ?_) (fun hc25 => ?_)
              · refine v_iconst C dM_putRecords_88 ?_
                refine v_goto (tgt := 93) C dM_putRecords_89 (by decide) ?_
                refine v_istore C dM_putRecords_93 (by decide) ?_
                refine v_aload_n C dM_putRecords_95 rfl rfl ?_
                refine v_iload C dM_putRecords_96 rfl ?_
                refine v_iload_n C dM_putRecords_98 rfl rfl ?_
                have hm1 : ∀ i, 0 ≤ (m_recs σ (m_turns σ w how t ++ m_turn σ w how (t : Int) k)).2 1 i ∧ (m_recs σ (m_turns σ w how t ++ m_turn σ w how (t : Int) k)).2 1 i ≤ 1 := fun i => by rw [m_recs_2 _ _ _ _ (by decide) (by decide) (by decide)]; exact h1 i
                have hm3 : ∀ i, 0 ≤ (m_recs σ (m_turns σ w how t ++ m_turn σ w how (t : Int) k)).2 3 i ∧ (m_recs σ (m_turns σ w how t ++ m_turn σ w how (t : Int) k)).2 3 i ≤ 1 := fun i => by rw [m_recs_2 _ _ _ _ (by decide) (by decide) (by decide)]; exact h3 i
                refine v_cVI (k := 0) (n := 2) C (mE_ok _) trivial hR (kM_isMeant _ xCl D cA ad hJ (m_recs σ (m_turns σ w how t ++ m_turn σ w how (t : Int) k)) (((k : Int) + 1)) w (by omega) (by omega) hm1 hm3) dM_putRecords_99 (by show (0 : Nat) < 18; decide) rfl rfl gM_92 (by decide +kernel) (by decide) (by decide) rfl (Nat.le_of_ble_eq_true rfl) rfl ⟨rfl, rfl⟩ (fun r8 τ8 hp8 => ?_)
                rw [m_recs_2 _ _ _ _ (by decide) (by decide) (by decide), m_recs_2 _ _ _ _ (by decide) (by decide) (by decide)] at hp8
                rcases hp8 with ⟨hw9, e9, e8⟩ | ⟨hw9, e9, e8⟩
                · subst τ8
                  subst r8
                  refine v_if_eq (tgt := 126) C dM_putRecords_102 (by decide) (by omega) (fun hc26 => ?_) (fun hc26 => ?_)
                  · exact v_less (by exact ⟨rfl, rfl, rfl, rfl, rfl, trivial⟩) (BK _ (by show _ = m_recs σ (m_turns σ w how t ++ (m_turn σ w how (t : Int) k ++ cif (m_sel σ w how (t : Int) ((k : Int) + 1)) [(k : Int) + 1] [])); rw [cif_neg (by unfold m_sel; omega), List.append_nil]))
                  · refine v_aload_n C dM_putRecords_105 rfl rfl ?_
                    refine v_getR (k := 0) (q := 1) C dM_putRecords_106 (by show (0 : Nat) < 18; decide) rfl rfl (by decide) rfl inM lM_7 rfl ?_
                    refine v_iload C dM_putRecords_109 rfl ?_
                    refine v_zald (k := 1) (v := σ.2 1 (((k : Int) + 1)).toNat) C dM_putRecords_111 (by show (1 : Nat) < 18; decide) rfl rfl (by omega) (by decide) (m_recs_2 _ _ _ _ (by decide) (by decide) (by decide)) ?_
                    refine v_if_eq (tgt := 126) C dM_putRecords_112 (by decide) (by omega) (fun hc27 => ?_) (fun hc27 => ?_)
                    · exact v_less (by exact ⟨rfl, rfl, rfl, rfl, rfl, trivial⟩) (BK _ (by show _ = m_recs σ (m_turns σ w how t ++ (m_turn σ w how (t : Int) k ++ cif (m_sel σ w how (t : Int) ((k : Int) + 1)) [(k : Int) + 1] [])); rw [cif_neg (by unfold m_sel; omega), List.append_nil]))
                    · refine v_iload C dM_putRecords_115 rfl ?_
                      refine v_if_eq (tgt := 126) C dM_putRecords_117 (by decide) (by omega) (fun hc28 => ?_) (fun hc28 => ?_)
                      · exact v_less (by exact ⟨rfl, rfl, rfl, rfl, rfl, trivial⟩) (BK _ (by show _ = m_recs σ (m_turns σ w how t ++ (m_turn σ w how (t : Int) k ++ cif (m_sel σ w how (t : Int) ((k : Int) + 1)) [(k : Int) + 1] [])); rw [cif_neg (by unfold m_sel; omega), List.append_nil]))
                      · exfalso; omega
                · subst τ8
                  subst r8
                  refine v_if_eq (tgt := 126) C dM_putRecords_102 (by decide) (by omega) (fun hc29 => ?_) (fun hc29 => ?_)
                  · exact v_less (by exact ⟨rfl, rfl, rfl, rfl, rfl, trivial⟩) (BK _ (by show _ = m_recs σ (m_turns σ w how t ++ (m_turn σ w how (t : Int) k ++ cif (m_sel σ w how (t : Int) ((k : Int) + 1)) [(k : Int) + 1] [])); rw [cif_neg (by unfold m_sel; omega), List.append_nil]))
                  · refine v_aload_n C dM_putRecords_105 rfl rfl ?_
                    refine v_getR (k := 0) (q := 1) C dM_putRecords_106 (by show (0 : Nat) < 18; decide) rfl rfl (by decide) rfl inM lM_7 rfl ?_
                    refine v_iload C dM_putRecords_109 rfl ?_
                    refine v_zald (k := 1) (v := σ.2 1 (((k : Int) + 1)).toNat) C dM_putRecords_111 (by show (1 : Nat) < 18; decide) rfl rfl (by omega) (by decide) (m_recs_2 _ _ _ _ (by decide) (by decide) (by decide)) ?_
                    refine v_if_eq (tgt := 126) C dM_putRecords_112 (by decide) (by omega) (fun hc30 => ?_) (fun hc30 => ?_)
                    · exact v_less (by exact ⟨rfl, rfl, rfl, rfl, rfl, trivial⟩) (BK _ (by show _ = m_recs σ (m_turns σ w how t ++ (m_turn σ w how (t : Int) k ++ cif (m_sel σ w how (t : Int) ((k : Int) + 1)) [(k : Int) + 1] [])); rw [cif_neg (by unfold m_sel; omega), List.append_nil]))
                    · refine v_iload C dM_putRecords_115 rfl ?_
                      refine v_if_eq (tgt := 126) C dM_putRecords_117 (by decide) (by omega) (fun hc31 => ?_) (fun hc31 => ?_)
                      · exact v_less (by exact ⟨rfl, rfl, rfl, rfl, rfl, trivial⟩) (BK _ (by show _ = m_recs σ (m_turns σ w how t ++ (m_turn σ w how (t : Int) k ++ cif (m_sel σ w how (t : Int) ((k : Int) + 1)) [(k : Int) + 1] [])); rw [cif_neg (by unfold m_sel; omega), List.append_nil]))
                      · exfalso; omega
              · refine v_iconst C dM_putRecords_84 ?_
                refine v_goto (tgt := 93) C dM_putRecords_85 (by decide) ?_
                refine v_istore C dM_putRecords_93 (by decide) ?_
                refine v_aload_n C dM_putRecords_95 rfl rfl ?_
                refine v_iload C dM_putRecords_96 rfl ?_
                refine v_iload_n C dM_putRecords_98 rfl rfl ?_
                have hm1 : ∀ i, 0 ≤ (m_recs σ (m_turns σ w how t ++ m_turn σ w how (t : Int) k)).2 1 i ∧ (m_recs σ (m_turns σ w how t ++ m_turn σ w how (t : Int) k)).2 1 i ≤ 1 := fun i => by rw [m_recs_2 _ _ _ _ (by decide) (by decide) (by decide)]; exact h1 i
                have hm3 : ∀ i, 0 ≤ (m_recs σ (m_turns σ w how t ++ m_turn σ w how (t : Int) k)).2 3 i ∧ (m_recs σ (m_turns σ w how t ++ m_turn σ w how (t : Int) k)).2 3 i ≤ 1 := fun i => by rw [m_recs_2 _ _ _ _ (by decide) (by decide) (by decide)]; exact h3 i
                refine v_cVI (k := 0) (n := 2) C (mE_ok _) trivial hR (kM_isMeant _ xCl D cA ad hJ (m_recs σ (m_turns σ w how t ++ m_turn σ w how (t : Int) k)) (((k : Int) + 1)) w (by omega) (by omega) hm1 hm3) dM_putRecords_99 (by show (0 : Nat) < 18; decide) rfl rfl gM_92 (by decide +kernel) (by decide) (by decide) rfl (Nat.le_of_ble_eq_true rfl) rfl ⟨rfl, rfl⟩ (fun r9 τ9 hp9 => ?_)
                rw [m_recs_2 _ _ _ _ (by decide) (by decide) (by decide), m_recs_2 _ _ _ _ (by decide) (by decide) (by decide)] at hp9
                rcases hp9 with ⟨hw9, e9, e8⟩ | ⟨hw9, e9, e8⟩
                · subst τ9
                  subst r9
                  refine v_if_eq (tgt := 126) C dM_putRecords_102 (by decide) (by omega) (fun hc32 => ?_) (fun hc32 => ?_)
                  · exact v_less (by exact ⟨rfl, rfl, rfl, rfl, rfl, trivial⟩) (BK _ (by show _ = m_recs σ (m_turns σ w how t ++ (m_turn σ w how (t : Int) k ++ cif (m_sel σ w how (t : Int) ((k : Int) + 1)) [(k : Int) + 1] [])); rw [cif_neg (by unfold m_sel; omega), List.append_nil]))
                  · refine v_aload_n C dM_putRecords_105 rfl rfl ?_
                    refine v_getR (k := 0) (q := 1) C dM_putRecords_106 (by show (0 : Nat) < 18; decide) rfl rfl (by decide) rfl inM lM_7 rfl ?_
                    refine v_iload C dM_putRecords_109 rfl ?_
                    refine v_zald (k := 1) (v := σ.2 1 (((k : Int) + 1)).toNat) C dM_putRecords_111 (by show (1 : Nat) < 18; decide) rfl rfl (by omega) (by decide) (m_recs_2 _ _ _ _ (by decide) (by decide) (by decide)) ?_
                    refine v_if_eq (tgt := 126) C dM_putRecords_112 (by decide) (by omega) (fun hc33 => ?_) (fun hc33 => ?_)
                    · exact v_less (by exact ⟨rfl, rfl, rfl, rfl, rfl, trivial⟩) (BK _ (by show _ = m_recs σ (m_turns σ w how t ++ (m_turn σ w how (t : Int) k ++ cif (m_sel σ w how (t : Int) ((k : Int) + 1)) [(k : Int) + 1] [])); rw [cif_neg (by unfold m_sel; omega), List.append_nil]))
                    · refine v_iload C dM_putRecords_115 rfl ?_
                      refine v_if_eq (tgt := 126) C dM_putRecords_117 (by decide) (by omega) (fun hc34 => ?_) (fun hc34 => ?_)
                      · exfalso; omega
                      · refine v_aload_n C dM_putRecords_120 rfl rfl ?_
                        refine v_iload C dM_putRecords_121 rfl ?_
                        have hq5 : ∀ i, (m_recs σ (m_turns σ w how t ++ m_turn σ w how (t : Int) k)).2 5 i = σ.2 5 i := fun i => m_recs_2 _ _ _ _ (by decide) (by decide) (by decide)
                        have hq6 : ∀ i, (m_recs σ (m_turns σ w how t ++ m_turn σ w how (t : Int) k)).2 6 i = σ.2 6 i := fun i => m_recs_2 _ _ _ _ (by decide) (by decide) (by decide)
                        have hrc := (m_rec_congr hq5 hq6 (((k : Int) + 1))).1
                        have hsel : m_sel σ w how (t : Int) ((k : Int) + 1) := by unfold m_sel; omega
                        rw [cif_pos hsel] at hl2
                        have hl4 : m_rlen σ [(k : Int) + 1] = (m_rec σ ((k : Int) + 1)).length := by simp [m_rlen]
                        refine v_cVV (k := 0) (n := 1) C (mE_ok _) trivial hR (kM_putRecord _ xCl D cA ad hJ (m_recs σ (m_turns σ w how t ++ m_turn σ w how (t : Int) k)) (((k : Int) + 1)) (by omega) (fun i => by rw [hq5]; exact h5 i) (fun i => by rw [hq6]; exact h6 i) (by omega) (by omega) (by rw [hrc]; omega)) dM_putRecords_123 (by show (0 : Nat) < 18; decide) rfl rfl gM_96 (by decide +kernel) (by decide) (by decide) rfl (Nat.le_of_ble_eq_true rfl) rfl ⟨rfl, rfl⟩ (fun τ10 hp10 => ?_)
                        subst τ10
                        · exact v_less (by exact ⟨rfl, rfl, rfl, rfl, rfl, trivial⟩) (BK _ (by rw [m_recs_snoc, List.append_assoc]; show _ = m_recs σ (m_turns σ w how t ++ (m_turn σ w how (t : Int) k ++ cif (m_sel σ w how (t : Int) ((k : Int) + 1)) [(k : Int) + 1] [])); rw [cif_pos (by unfold m_sel; omega)]))
                · subst τ9
                  subst r9
                  refine v_if_eq (tgt := 126) C dM_putRecords_102 (by decide) (by omega) (fun hc35 => ?_) (fun hc35 => ?_)
                  · exact v_less (by exact ⟨rfl, rfl, rfl, rfl, rfl, trivial⟩) (BK _ (by show _ = m_recs σ (m_turns σ w how t ++ (m_turn σ w how (t : Int) k ++ cif (m_sel σ w how (t : Int) ((k : Int) + 1)) [(k : Int) + 1] [])); rw [cif_neg (by unfold m_sel; omega), List.append_nil]))
                  · refine v_aload_n C dM_putRecords_105 rfl rfl ?_
                    refine v_getR (k := 0) (q := 1) C dM_putRecords_106 (by show (0 : Nat) < 18; decide) rfl rfl (by decide) rfl inM lM_7 rfl ?_
                    refine v_iload C dM_putRecords_109 rfl ?_
                    refine v_zald (k := 1) (v := σ.2 1 (((k : Int) + 1)).toNat) C dM_putRecords_111 (by show (1 : Nat) < 18; decide) rfl rfl (by omega) (by decide) (m_recs_2 _ _ _ _ (by decide) (by decide) (by decide)) ?_
                    refine v_if_eq (tgt := 126) C dM_putRecords_112 (by decide) (by omega) (fun hc36 => ?_) (fun hc36 => ?_)
                    · exact v_less (by exact ⟨rfl, rfl, rfl, rfl, rfl, trivial⟩) (BK _ (by show _ = m_recs σ (m_turns σ w how t ++ (m_turn σ w how (t : Int) k ++ cif (m_sel σ w how (t : Int) ((k : Int) + 1)) [(k : Int) + 1] [])); rw [cif_neg (by unfold m_sel; omega), List.append_nil]))
                    · refine v_iload C dM_putRecords_115 rfl ?_
                      refine v_if_eq (tgt := 126) C dM_putRecords_117 (by decide) (by omega) (fun hc37 => ?_) (fun hc37 => ?_)
                      · exfalso; omega
                      · refine v_aload_n C dM_putRecords_120 rfl rfl ?_
                        refine v_iload C dM_putRecords_121 rfl ?_
                        have hq5 : ∀ i, (m_recs σ (m_turns σ w how t ++ m_turn σ w how (t : Int) k)).2 5 i = σ.2 5 i := fun i => m_recs_2 _ _ _ _ (by decide) (by decide) (by decide)
                        have hq6 : ∀ i, (m_recs σ (m_turns σ w how t ++ m_turn σ w how (t : Int) k)).2 6 i = σ.2 6 i := fun i => m_recs_2 _ _ _ _ (by decide) (by decide) (by decide)
                        have hrc := (m_rec_congr hq5 hq6 (((k : Int) + 1))).1
                        have hsel : m_sel σ w how (t : Int) ((k : Int) + 1) := by unfold m_sel; omega
                        rw [cif_pos hsel] at hl2
                        have hl4 : m_rlen σ [(k : Int) + 1] = (m_rec σ ((k : Int) + 1)).length := by simp [m_rlen]
                        refine v_cVV (k := 0) (n := 1) C (mE_ok _) trivial hR (kM_putRecord _ xCl D cA ad hJ (m_recs σ (m_turns σ w how t ++ m_turn σ w how (t : Int) k)) (((k : Int) + 1)) (by omega) (fun i => by rw [hq5]; exact h5 i) (fun i => by rw [hq6]; exact h6 i) (by omega) (by omega) (by rw [hrc]; omega)) dM_putRecords_123 (by show (0 : Nat) < 18; decide) rfl rfl gM_96 (by decide +kernel) (by decide) (by decide) rfl (Nat.le_of_ble_eq_true rfl) rfl ⟨rfl, rfl⟩ (fun τ11 hp11 => ?_)
                        subst τ11
                        · exact v_less (by exact ⟨rfl, rfl, rfl, rfl, rfl, trivial⟩) (BK _ (by rw [m_recs_snoc, List.append_assoc]; show _ = m_recs σ (m_turns σ w how t ++ (m_turn σ w how (t : Int) k ++ cif (m_sel σ w how (t : Int) ((k : Int) + 1)) [(k : Int) + 1] [])); rw [cif_pos (by unfold m_sel; omega)]))
        · refine v_aload_n C dM_putRecords_41 rfl rfl ?_
          refine v_getR (k := 0) (q := 5) C dM_putRecords_42 (by show (0 : Nat) < 18; decide) rfl rfl (by decide) rfl inM lM_22 rfl ?_
          refine v_iload C dM_putRecords_45 rfl ?_
          refine v_iald (k := 5) (v := σ.2 5 (((k : Int) + 1)).toNat) C dM_putRecords_47 (by show (5 : Nat) < 18; decide) rfl rfl (by omega) (by decide) (m_recs_2 _ _ _ _ (by decide) (by decide) (by decide)) ?_
          refine v_iload_n C dM_putRecords_48 rfl rfl ?_
          refine v_icmp_ne (tgt := 56) C dM_putRecords_49 (by decide) (by omega) (by omega) (fun hc38 => ?_) (fun hc38 => ?_)
          · refine v_iconst C dM_putRecords_56 ?_
            refine v_goto (tgt := 93) C dM_putRecords_57 (by decide) ?_
            refine v_istore C dM_putRecords_93 (by decide) ?_
            refine v_aload_n C dM_putRecords_95 rfl rfl ?_
            refine v_iload C dM_putRecords_96 rfl ?_
            refine v_iload_n C dM_putRecords_98 rfl rfl ?_
            have hm1 : ∀ i, 0 ≤ (m_recs σ (m_turns σ w how t ++ m_turn σ w how (t : Int) k)).2 1 i ∧ (m_recs σ (m_turns σ w how t ++ m_turn σ w how (t : Int) k)).2 1 i ≤ 1 := fun i => by rw [m_recs_2 _ _ _ _ (by decide) (by decide) (by decide)]; exact h1 i
            have hm3 : ∀ i, 0 ≤ (m_recs σ (m_turns σ w how t ++ m_turn σ w how (t : Int) k)).2 3 i ∧ (m_recs σ (m_turns σ w how t ++ m_turn σ w how (t : Int) k)).2 3 i ≤ 1 := fun i => by rw [m_recs_2 _ _ _ _ (by decide) (by decide) (by decide)]; exact h3 i
            refine v_cVI (k := 0) (n := 2) C (mE_ok _) trivial hR (kM_isMeant _ xCl D cA ad hJ (m_recs σ (m_turns σ w how t ++ m_turn σ w how (t : Int) k)) (((k : Int) + 1)) w (by omega) (by omega) hm1 hm3) dM_putRecords_99 (by show (0 : Nat) < 18; decide) rfl rfl gM_92 (by decide +kernel) (by decide) (by decide) rfl (Nat.le_of_ble_eq_true rfl) rfl ⟨rfl, rfl⟩ (fun r12 τ12 hp12 => ?_)
            rw [m_recs_2 _ _ _ _ (by decide) (by decide) (by decide), m_recs_2 _ _ _ _ (by decide) (by decide) (by decide)] at hp12
            rcases hp12 with ⟨hw9, e9, e8⟩ | ⟨hw9, e9, e8⟩
            · subst τ12
              subst r12
              refine v_if_eq (tgt := 126) C dM_putRecords_102 (by decide) (by omega) (fun hc39 => ?_) (fun hc39 => ?_)
              · exact v_less (by exact ⟨rfl, rfl, rfl, rfl, rfl, trivial⟩) (BK _ (by show _ = m_recs σ (m_turns σ w how t ++ (m_turn σ w how (t : Int) k ++ cif (m_sel σ w how (t : Int) ((k : Int) + 1)) [(k : Int) + 1] [])); rw [cif_neg (by unfold m_sel; omega), List.append_nil]))
              · refine v_aload_n C dM_putRecords_105 rfl rfl ?_
                refine v_getR (k := 0) (q := 1) C dM_putRecords_106 (by show (0 : Nat) < 18; decide) rfl rfl (by decide) rfl inM lM_7 rfl ?_
                refine v_iload C dM_putRecords_109 rfl ?_
                refine v_zald (k := 1) (v := σ.2 1 (((k : Int) + 1)).toNat) C dM_putRecords_111 (by show (1 : Nat) < 18; decide) rfl rfl (by omega) (by decide) (m_recs_2 _ _ _ _ (by decide) (by decide) (by decide)) ?_
                refine v_if_eq (tgt := 126) C dM_putRecords_112 (by decide) (by omega) (fun hc40 => ?_) (fun hc40 => ?_)
                · exact v_less (by exact ⟨rfl, rfl, rfl, rfl, rfl, trivial⟩) (BK _ (by show _ = m_recs σ (m_turns σ w how t ++ (m_turn σ w how (t : Int) k ++ cif (m_sel σ w how (t : Int) ((k : Int) + 1)) [(k : Int) + 1] [])); rw [cif_neg (by unfold m_sel; omega), List.append_nil]))
                · refine v_iload C dM_putRecords_115 rfl ?_
                  refine v_if_eq (tgt := 126) C dM_putRecords_117 (by decide) (by omega) (fun hc41 => ?_) (fun hc41 => ?_)
                  · exact v_less (by exact ⟨rfl, rfl, rfl, rfl, rfl, trivial⟩) (BK _ (by show _ = m_recs σ (m_turns σ w how t ++ (m_turn σ w how (t : Int) k ++ cif (m_sel σ w how (t : Int) ((k : Int) + 1)) [(k : Int) + 1] [])); rw [cif_neg (by unfold m_sel; omega), List.append_nil]))
                  · exfalso; omega
            · subst τ12
              subst r12
              refine v_if_eq (tgt := 126) C dM_putRecords_102 (by decide) (by omega) (fun hc42 => ?_) (fun hc42 => ?_)
              · exact v_less (by exact ⟨rfl, rfl, rfl, rfl, rfl, trivial⟩) (BK _ (by show _ = m_recs σ (m_turns σ w how t ++ (m_turn σ w how (t : Int) k ++ cif (m_sel σ w how (t : Int) ((k : Int) + 1)) [(k : Int) + 1] [])); rw [cif_neg (by unfold m_sel; omega), List.append_nil]))
              · refine v_aload_n C dM_putRecords_105 rfl rfl ?_
                refine v_getR (k := 0) (q := 1) C dM_putRecords_106 (by show (0 : Nat) < 18; decide) rfl rfl (by decide) rfl inM lM_7 rfl ?_
                refine v_iload C dM_putRecords_109 rfl ?_
                refine v_zald (k := 1) (v := σ.2 1 (((k : Int) + 1)).toNat) C dM_putRecords_111 (by show (1 : Nat) < 18; decide) rfl rfl (by omega) (by decide) (m_recs_2 _ _ _ _ (by decide) (by decide) (by decide)) ?_
                refine v_if_eq (tgt := 126) C dM_putRecords_112 (by decide) (by omega) (fun hc43 => ?_) (fun hc43 => ?_)
                · exact v_less (by exact ⟨rfl, rfl, rfl, rfl, rfl, trivial⟩) (BK _ (by show _ = m_recs σ (m_turns σ w how t ++ (m_turn σ w how (t : Int) k ++ cif (m_sel σ w how (t : Int) ((k : Int) + 1)) [(k : Int) + 1] [])); rw [cif_neg (by unfold m_sel; omega), List.append_nil]))
                · refine v_iload C dM_putRecords_115 rfl ?_
                  refine v_if_eq (tgt := 126) C dM_putRecords_117 (by decide) (by omega) (fun hc44 => ?_) (fun hc44 => ?_)
                  · exact v_less (by exact ⟨rfl, rfl, rfl, rfl, rfl, trivial⟩) (BK _ (by show _ = m_recs σ (m_turns σ w how t ++ (m_turn σ w how (t : Int) k ++ cif (m_sel σ w how (t : Int) ((k : Int) + 1)) [(k : Int) + 1] [])); rw [cif_neg (by unfold m_sel; omega), List.append_nil]))
                  · exfalso; omega
          · refine v_iconst C dM_putRecords_52 ?_
            refine v_goto (tgt := 93) C dM_putRecords_53 (by decide) ?_
            refine v_istore C dM_putRecords_93 (by decide) ?_
            refine v_aload_n C dM_putRecords_95 rfl rfl ?_
            refine v_iload C dM_putRecords_96 rfl ?_
            refine v_iload_n C dM_putRecords_98 rfl rfl ?_
            have hm1 : ∀ i, 0 ≤ (m_recs σ (m_turns σ w how t ++ m_turn σ w how (t : Int) k)).2 1 i ∧ (m_recs σ (m_turns σ w how t ++ m_turn σ w how (t : Int) k)).2 1 i ≤ 1 := fun i => by rw [m_recs_2 _ _ _ _ (by decide) (by decide) (by decide)]; exact h1 i
            have hm3 : ∀ i, 0 ≤ (m_recs σ (m_turns σ w how t ++ m_turn σ w how (t : Int) k)).2 3 i ∧ (m_recs σ (m_turns σ w how t ++ m_turn σ w how (t : Int) k)).2 3 i ≤ 1 := fun i => by rw [m_recs_2 _ _ _ _ (by decide) (by decide) (by decide)]; exact h3 i
            refine v_cVI (k := 0) (n := 2) C (mE_ok _) trivial hR (kM_isMeant _ xCl D cA ad hJ (m_recs σ (m_turns σ w how t ++ m_turn σ w how (t : Int) k)) (((k : Int) + 1)) w (by omega) (by omega) hm1 hm3) dM_putRecords_99 (by show (0 : Nat) < 18; decide) rfl rfl gM_92 (by decide +kernel) (by decide) (by decide) rfl (Nat.le_of_ble_eq_true rfl) rfl ⟨rfl, rfl⟩ (fun r13 τ13 hp13 => ?_)
            rw [m_recs_2 _ _ _ _ (by decide) (by decide) (by decide), m_recs_2 _ _ _ _ (by decide) (by decide) (by decide)] at hp13
            rcases hp13 with ⟨hw9, e9, e8⟩ | ⟨hw9, e9, e8⟩
            · subst τ13
              subst r13
              refine v_if_eq (tgt := 126) C dM_putRecords_102 (by decide) (by omega) (fun hc45 => ?_) (fun hc45 => ?_)
              · exact v_less (by exact ⟨rfl, rfl, rfl, rfl, rfl, trivial⟩) (BK _ (by show _ = m_recs σ (m_turns σ w how t ++ (m_turn σ w how (t : Int) k ++ cif (m_sel σ w how (t : Int) ((k : Int) + 1)) [(k : Int) + 1] [])); rw [cif_neg (by unfold m_sel; omega), List.append_nil]))
              · refine v_aload_n C dM_putRecords_105 rfl rfl ?_
                refine v_getR (k := 0) (q := 1) C dM_putRecords_106 (by show (0 : Nat) < 18; decide) rfl rfl (by decide) rfl inM lM_7 rfl ?_
                refine v_iload C dM_putRecords_109 rfl ?_
                refine v_zald (k := 1) (v := σ.2 1 (((k : Int) + 1)).toNat) C dM_putRecords_111 (by show (1 : Nat) < 18; decide) rfl rfl (by omega) (by decide) (m_recs_2 _ _ _ _ (by decide) (by decide) (by decide)) ?_
                refine v_if_eq (tgt := 126) C dM_putRecords_112 (by decide) (by omega) (fun hc46 => ?_) (fun hc46 => ?_)
                · exact v_less (by exact ⟨rfl, rfl, rfl, rfl, rfl, trivial⟩) (BK _ (by show _ = m_recs σ (m_turns σ w how t ++ (m_turn σ w how (t : Int) k ++ cif (m_sel σ w how (t : Int) ((k : Int) + 1)) [(k : Int) + 1] [])); rw [cif_neg (by unfold m_sel; omega), List.append_nil]))
                · refine v_iload C dM_putRecords_115 rfl ?_
                  refine v_if_eq (tgt := 126) C dM_putRecords_117 (by decide) (by omega) (fun hc47 => ?_) (fun hc47 => ?_)
                  · exfalso; omega
                  · refine v_aload_n C dM_putRecords_120 rfl rfl ?_
                    refine v_iload C dM_putRecords_121 rfl ?_
                    have hq5 : ∀ i, (m_recs σ (m_turns σ w how t ++ m_turn σ w how (t : Int) k)).2 5 i = σ.2 5 i := fun i => m_recs_2 _ _ _ _ (by decide) (by decide) (by decide)
                    have hq6 : ∀ i, (m_recs σ (m_turns σ w how t ++ m_turn σ w how (t : Int) k)).2 6 i = σ.2 6 i := fun i => m_recs_2 _ _ _ _ (by decide) (by decide) (by decide)
                    have hrc := (m_rec_congr hq5 hq6 (((k : Int) + 1))).1
                    have hsel : m_sel σ w how (t : Int) ((k : Int) + 1) := by unfold m_sel; omega
                    rw [cif_pos hsel] at hl2
                    have hl4 : m_rlen σ [(k : Int) + 1] = (m_rec σ ((k : Int) + 1)).length := by simp [m_rlen]
                    refine v_cVV (k := 0) (n := 1) C (mE_ok _) trivial hR (kM_putRecord _ xCl D cA ad hJ (m_recs σ (m_turns σ w how t ++ m_turn σ w how (t : Int) k)) (((k : Int) + 1)) (by omega) (fun i => by rw [hq5]; exact h5 i) (fun i => by rw [hq6]; exact h6 i) (by omega) (by omega) (by rw [hrc]; omega)) dM_putRecords_123 (by show (0 : Nat) < 18; decide) rfl rfl gM_96 (by decide +kernel) (by decide) (by decide) rfl (Nat.le_of_ble_eq_true rfl) rfl ⟨rfl, rfl⟩ (fun τ14 hp14 => ?_)
                    subst τ14
                    · exact v_less (by exact ⟨rfl, rfl, rfl, rfl, rfl, trivial⟩) (BK _ (by rw [m_recs_snoc, List.append_assoc]; show _ = m_recs σ (m_turns σ w how t ++ (m_turn σ w how (t : Int) k ++ cif (m_sel σ w how (t : Int) ((k : Int) + 1)) [(k : Int) + 1] [])); rw [cif_pos (by unfold m_sel; omega)]))
            · subst τ13
              subst r13
              refine v_if_eq (tgt := 126) C dM_putRecords_102 (by decide) (by omega) (fun hc48 => ?_) (fun hc48 => ?_)
              · exact v_less (by exact ⟨rfl, rfl, rfl, rfl, rfl, trivial⟩) (BK _ (by show _ = m_recs σ (m_turns σ w how t ++ (m_turn σ w how (t : Int) k ++ cif (m_sel σ w how (t : Int) ((k : Int) + 1)) [(k : Int) + 1] [])); rw [cif_neg (by unfold m_sel; omega), List.append_nil]))
              · refine v_aload_n C dM_putRecords_105 rfl rfl ?_
                refine v_getR (k := 0) (q := 1) C dM_putRecords_106 (by show (0 : Nat) < 18; decide) rfl rfl (by decide) rfl inM lM_7 rfl ?_
                refine v_iload C dM_putRecords_109 rfl ?_
                refine v_zald (k := 1) (v := σ.2 1 (((k : Int) + 1)).toNat) C dM_putRecords_111 (by show (1 : Nat) < 18; decide) rfl rfl (by omega) (by decide) (m_recs_2 _ _ _ _ (by decide) (by decide) (by decide)) ?_
                refine v_if_eq (tgt := 126) C dM_putRecords_112 (by decide) (by omega) (fun hc49 => ?_) (fun hc49 => ?_)
                · exact v_less (by exact ⟨rfl, rfl, rfl, rfl, rfl, trivial⟩) (BK _ (by show _ = m_recs σ (m_turns σ w how t ++ (m_turn σ w how (t : Int) k ++ cif (m_sel σ w how (t : Int) ((k : Int) + 1)) [(k : Int) + 1] [])); rw [cif_neg (by unfold m_sel; omega), List.append_nil]))
                · refine v_iload C dM_putRecords_115 rfl ?_
                  refine v_if_eq (tgt := 126) C dM_putRecords_117 (by decide) (by omega) (fun hc50 => ?_) (fun hc50 => ?_)
                  · exfalso; omega
                  · refine v_aload_n C dM_putRecords_120 rfl rfl ?_
                    refine v_iload C dM_putRecords_121 rfl ?_
                    have hq5 : ∀ i, (m_recs σ (m_turns σ w how t ++ m_turn σ w how (t : Int) k)).2 5 i = σ.2 5 i := fun i => m_recs_2 _ _ _ _ (by decide) (by decide) (by decide)
                    have hq6 : ∀ i, (m_recs σ (m_turns σ w how t ++ m_turn σ w how (t : Int) k)).2 6 i = σ.2 6 i := fun i => m_recs_2 _ _ _ _ (by decide) (by decide) (by decide)
                    have hrc := (m_rec_congr hq5 hq6 (((k : Int) + 1))).1
                    have hsel : m_sel σ w how (t : Int) ((k : Int) + 1) := by unfold m_sel; omega
                    rw [cif_pos hsel] at hl2
                    have hl4 : m_rlen σ [(k : Int) + 1] = (m_rec σ ((k : Int) + 1)).length := by simp [m_rlen]
                    refine v_cVV (k := 0) (n := 1) C (mE_ok _) trivial hR (kM_putRecord _ xCl D cA ad hJ (m_recs σ (m_turns σ w how t ++ m_turn σ w how (t : Int) k)) (((k : Int) + 1)) (by omega) (fun i => by rw [hq5]; exact h5 i) (fun i => by rw [hq6]; exact h6 i) (by omega) (by omega) (by rw [hrc]; omega)) dM_putRecords_123 (by show (0 : Nat) < 18; decide) rfl rfl gM_96 (by decide +kernel) (by decide) (by decide) rfl (Nat.le_of_ble_eq_true rfl) rfl ⟨rfl, rfl⟩ (fun τ15 hp15 => ?_)
                    subst τ15
                    · exact v_less (by exact ⟨rfl, rfl, rfl, rfl, rfl, trivial⟩) (BK _ (by rw [m_recs_snoc, List.append_assoc]; show _ = m_recs σ (m_turns σ w how t ++ (m_turn σ w how (t : Int) k ++ cif (m_sel σ w how (t : Int) ((k : Int) + 1)) [(k : Int) + 1] [])); rw [cif_pos (by unfold m_sel; omega)]))
  have LO : ∀ (m t : Nat), m + t = m_last how + 1 → fv z (mG xCl D cA ad) 6 (f_R z (mG xCl D cA ad) (f_QV (fun σ1 => σ1 = m_recs σ (m_turns σ w how (m_last how + 1))) (mG xCl D cA ad))) 0 0 (m_recs σ (m_turns σ w how t)) 2 [some (.ref (ad 0)), some (.int (fI w)), some (.int (fI how)), some (.int (fI (t : Int))), none, none] [] := by
    intro m
    induction m with
    | zero =>
      intro t ht
      refine v_iload_n C dM_putRecords_2 rfl rfl ?_
      refine v_iload_n C dM_putRecords_3 rfl rfl ?_
      refine v_iconst C dM_putRecords_4 ?_
      refine v_icmp_ne (tgt := 13) C dM_putRecords_5 (by decide) (by omega) (by omega) (fun hc51 => ?_) (fun hc51 => ?_)
      · refine v_iload_n C dM_putRecords_13 rfl rfl ?_
        refine v_iconst C dM_putRecords_14 ?_
        refine v_icmp_ne (tgt := 22) C dM_putRecords_15 (by decide) (by omega) (by omega) (fun hc52 => ?_) (fun hc52 => ?_)
        · refine v_iconst C dM_putRecords_22 ?_
          refine v_icmp_gt (tgt := 138) C dM_putRecords_23 (by decide) (by omega) (by omega) (fun hc53 => ?_) (fun hc53 => ?_)
          · exact v_vret C hRt hLk dM_putRecords_138 (by rw [show t = m_last how + 1 by omega])
          · exfalso; omega
        · refine v_iconst C dM_putRecords_18 ?_
          refine v_goto (tgt := 23) C dM_putRecords_19 (by decide) ?_
          refine v_icmp_gt (tgt := 138) C dM_putRecords_23 (by decide) (by omega) (by omega) (fun hc54 => ?_) (fun hc54 => ?_)
          · exact v_vret C hRt hLk dM_putRecords_138 (by rw [show t = m_last how + 1 by omega])
          · exfalso; omega
      · refine v_bipush C dM_putRecords_8 (by decide +kernel) ?_
        refine v_goto (tgt := 23) C dM_putRecords_10 (by decide) ?_
        refine v_icmp_gt (tgt := 138) C dM_putRecords_23 (by decide) (by omega) (by omega) (fun hc55 => ?_) (fun hc55 => ?_)
        · exact v_vret C hRt hLk dM_putRecords_138 (by rw [show t = m_last how + 1 by omega])
        · exfalso; omega
    | succ m ih =>
      intro t ht
      have KK : fv z (mG xCl D cA ad) 6 (f_R z (mG xCl D cA ad) (f_QV (fun σ1 => σ1 = m_recs σ (m_turns σ w how (m_last how + 1))) (mG xCl D cA ad))) 0 0 (m_recs σ (m_turns σ w how (t + 1))) 132 [some (.ref (ad 0)), some (.int (fI w)), some (.int (fI how)), some (.int (fI (t : Int))), none, none] [] := by
        refine v_iinc C dM_putRecords_132 rfl (by decide) ?_
        refine v_goto (tgt := 2) C dM_putRecords_135 (by decide) ?_
        exact v_lv rfl (ih (t + 1) (by omega))
      refine v_iload_n C dM_putRecords_2 rfl rfl ?_
      refine v_iload_n C dM_putRecords_3 rfl rfl ?_
      refine v_iconst C dM_putRecords_4 ?_
      refine v_icmp_ne (tgt := 13) C dM_putRecords_5 (by decide) (by omega) (by omega) (fun hc56 => ?_) (fun hc56 => ?_)
      · refine v_iload_n C dM_putRecords_13 rfl rfl ?_
        refine v_iconst C dM_putRecords_14 ?_
        refine v_icmp_ne (tgt := 22) C dM_putRecords_15 (by decide) (by omega) (by omega) (fun hc57 => ?_) (fun hc57 => ?_)
        · refine v_iconst C dM_putRecords_22 ?_
          refine v_icmp_gt (tgt := 138) C dM_putRecords_23 (by decide) (by omega) (by omega) (fun hc58 => ?_) (fun hc58 => ?_)
          · exfalso; omega
          · refine v_iconst C dM_putRecords_26 ?_
            refine v_istore C dM_putRecords_27 (by decide) ?_
            exact v_less (by exact ⟨rfl, rfl, rfl, rfl, rfl, trivial⟩) (v_st (by rw [show m_turn σ w how (t : Int) 0 = [] from rfl, List.append_nil]) (LI t (by omega) KK 40 0 (by omega)))
        · refine v_iconst C dM_putRecords_18 ?_
          refine v_goto (tgt := 23) C dM_putRecords_19 (by decide) ?_
          refine v_icmp_gt (tgt := 138) C dM_putRecords_23 (by decide) (by omega) (by omega) (fun hc59 => ?_) (fun hc59 => ?_)
          · exfalso; omega
          · refine v_iconst C dM_putRecords_26 ?_
            refine v_istore C dM_putRecords_27 (by decide) ?_
            exact v_less (by exact ⟨rfl, rfl, rfl, rfl, rfl, trivial⟩) (v_st (by rw [show m_turn σ w how (t : Int) 0 = [] from rfl, List.append_nil]) (LI t (by omega) KK 40 0 (by omega)))
      · refine v_bipush C dM_putRecords_8 (by decide +kernel) ?_
        refine v_goto (tgt := 23) C dM_putRecords_10 (by decide) ?_
        refine v_icmp_gt (tgt := 138) C dM_putRecords_23 (by decide) (by omega) (by omega) (fun hc60 => ?_) (fun hc60 => ?_)
        · exfalso; omega
        · refine v_iconst C dM_putRecords_26 ?_
          refine v_istore C dM_putRecords_27 (by decide) ?_
          exact v_less (by exact ⟨rfl, rfl, rfl, rfl, rfl, trivial⟩) (v_st (by rw [show m_turn σ w how (t : Int) 0 = [] from rfl, List.append_nil]) (LI t (by omega) KK 40 0 (by omega)))
  refine v_iconst C dM_putRecords_0 ?_
  refine v_istore_n C dM_putRecords_1 rfl (by decide) ?_
  exact v_less (by exact ⟨rfl, rfl, rfl, rfl, trivial⟩) (LO (m_last how + 1) 0 (by omega))
