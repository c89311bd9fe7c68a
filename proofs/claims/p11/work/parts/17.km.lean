theorem m_sel_congr {σ τ : fS} (h1 : ∀ i, τ.2 1 i = σ.2 1 i) (h2 : ∀ i, τ.2 2 i = σ.2 2 i) (h3 : ∀ i, τ.2 3 i = σ.2 3 i) (h5 : ∀ i, τ.2 5 i = σ.2 5 i) (w how t n : Int) : m_sel τ w how t n = m_sel σ w how t n := by
  unfold m_sel
  simp only [h1, h2, h3, h5]
theorem m_turn_congr {σ τ : fS} (h1 : ∀ i, τ.2 1 i = σ.2 1 i) (h2 : ∀ i, τ.2 2 i = σ.2 2 i) (h3 : ∀ i, τ.2 3 i = σ.2 3 i) (h5 : ∀ i, τ.2 5 i = σ.2 5 i) (w how t : Int) (k : Nat) : m_turn τ w how t k = m_turn σ w how t k := by
  induction k with
  | zero => rfl
  | succ k ih => unfold m_turn; rw [ih, m_sel_congr h1 h2 h3 h5]
theorem m_turns_congr {σ τ : fS} (h1 : ∀ i, τ.2 1 i = σ.2 1 i) (h2 : ∀ i, τ.2 2 i = σ.2 2 i) (h3 : ∀ i, τ.2 3 i = σ.2 3 i) (h5 : ∀ i, τ.2 5 i = σ.2 5 i) (w how : Int) (t : Nat) : m_turns τ w how t = m_turns σ w how t := by
  induction t with
  | zero => rfl
  | succ t ih => unfold m_turns; rw [ih, m_turn_congr h1 h2 h3 h5]
theorem m_recs_13 (l : List Int) : ∀ (σ : fS), 0 ≤ σ.1 0 16 → σ.1 0 16 + m_rlen σ l ≤ 99999 → (∀ i, 0 ≤ σ.2 13 i ∧ σ.2 13 i ≤ 99999) → ∀ i, 0 ≤ (m_recs σ l).2 13 i ∧ (m_recs σ l).2 13 i ≤ 99999 := by
  induction l with
  | nil => intro σ _ _ h i; exact h i
  | cons x r ih =>
    intro σ h0 h1 h i
    show 0 ≤ (m_recs (m_puts (m_r0 σ x) (m_rec σ x)) r).2 13 i ∧ _
    have e1 := m_one_1 σ x 0 16
    rw [if_pos ⟨rfl, rfl⟩] at e1
    have e2 := m_rlen_congr (fun i => m_one_2 σ x 5 i (by decide) (by decide) (by decide)) (fun i => m_one_2 σ x 6 i (by decide) (by decide) (by decide)) r
    unfold m_rlen at h1
    refine ih _ (by rw [e1]; omega) (by rw [e1, e2]; omega) (fun j => ?_) i
    rw [m_puts_2 _ _ _ _ (by decide)]
    unfold m_r0
    rw [p2_2, if_neg (by omega), p2_2]
    split
    · omega
    · exact h j
/-- what a PART is made of: whether object n is meant, rows of those -/
def m_mv (B : fS) (w : Int) (i : Nat) : Int := if w = 1 then B.2 1 i else B.2 3 i
def m_rows (B : fS) (w : Int) : Nat → List Int
  | 0 => []
  | k + 1 => m_rows B w k ++ (if m_mv B w (k + 1) = 1 then m_row B ((k : Int) + 1) else [])
theorem m_rows_le (B : fS) (w : Int) (a b : Nat) : (m_rows B w a).length ≤ (m_rows B w (a + b)).length ∧ (m_rows B w a).length ≤ 12 * a := by
  constructor
  · induction b with
    | zero => exact Nat.le_refl _
    | succ b ih =>
      refine Nat.le_trans ih ?_
      show _ ≤ (m_rows B w (a + b) ++ _).length
      rw [List.length_append]
      omega
  · induction a with
    | zero => exact Nat.le_refl _
    | succ a ih =>
      show (m_rows B w a ++ _).length ≤ _
      rw [List.length_append]
      have := m_row_len B ((a : Int) + 1)
      split
      · omega
      · simp; omega
def m_tail (B : fS) (w q : Int) : List Int := m_tell 120 (m_cnt (m_mv B w) 40) ++ m_rows B w 40 ++ m_tell 112 q ++ m_tell 101 (B.1 0 16)
theorem m_tail_len (B : fS) (w q : Int) : (m_tail B w q).length = (m_tell 120 (m_cnt (m_mv B w) 40)).length + (m_rows B w 40).length + (m_tell 112 q).length + (m_tell 101 (B.1 0 16)).length := by
  unfold m_tail
  simp only [List.length_append]
noncomputable def m_body (σ : fS) (a w how : Int) : fS := m_recs (m_puts (f_p1 σ 0 16 a) (if w = 1 then [37, 70, 49, 10] else [])) (m_turns σ w how (m_last how + 1))
/-- the place that a PART's p line tells -/
def m_pq (σ : fS) (w : Int) : Int := if w = 1 then 0 else σ.2 9 (σ.1 0 10 - 1).toNat
noncomputable def m_part (σ : fS) (a w how : Int) : fS := f_p1 (m_puts (m_body σ a w how) (m_tail (m_body σ a w how) w (m_pq σ w))) 0 26 ((m_body σ a w how).1 0 16)
theorem m_row_congr {σ τ : fS} (h1 : ∀ i, τ.2 1 i = σ.2 1 i) (h13 : ∀ i, τ.2 13 i = σ.2 13 i) (n : Int) : m_row τ n = m_row σ n := by
  unfold m_row
  simp only [h1, h13]
set_option maxRecDepth 100000 in
set_option maxHeartbeats 4000000 in
/-- putPart(from, whole, how) -/
theorem kM_putPart (l : Launch) (xCl : List vw_C) (D : va_G) (cA : Nat → ClassId) (ad : Nat → Nat) (hJ : f_J (mG xCl D cA ad)) (σ : fS) (a w how : Int) (ha : 0 ≤ a ∧ a ≤ 12000) (hw : w = 0 ∨ w = 1) (hh : 0 ≤ how ∧ how ≤ 2) (hrv : w = 0 → 1 ≤ σ.1 0 10 ∧ σ.1 0 10 ≤ 60) (h1 : ∀ i, 0 ≤ σ.2 1 i ∧ σ.2 1 i ≤ 1) (h2 : ∀ i, 0 ≤ σ.2 2 i ∧ σ.2 2 i ≤ 1) (h3 : ∀ i, 0 ≤ σ.2 3 i ∧ σ.2 3 i ≤ 1) (h5 : ∀ i, 0 ≤ σ.2 5 i ∧ σ.2 5 i ≤ 120) (h6 : ∀ i, -128 ≤ σ.2 6 i ∧ σ.2 6 i ≤ 127) (h9 : ∀ i, 0 ≤ σ.2 9 i ∧ σ.2 9 i ≤ 99999) (h13 : ∀ i, 0 ≤ σ.2 13 i ∧ σ.2 13 i ≤ 99999) (hc : σ.1 0 17 = 0 ∨ σ.1 0 17 = 1) (hnT : a + m_rlen σ (m_turns σ w how (m_last how + 1)) ≤ 80000) (hf : σ.1 0 17 = 0 → (m_body σ a w how).1 0 16 + (m_tail (m_body σ a w how) w (m_pq σ w)).length ≤ 12000) (hf0 : σ.1 0 17 = 0 → a + 4 + m_rlen σ (m_turns σ w how (m_last how + 1)) ≤ 12000) : f_M l (mG xCl D cA ad) mE yM_putPart (Cond.code yM_putPart cM_putPart 7 (some .int) :: A9) 4 σ [.ref (ad 0), .int (fI a), .int (fI w), .int (fI how)] (f_QI (fun r σ1 => r = (m_part σ a w how).1 0 16 ∧ σ1 = m_part σ a w how) (mG xCl D cA ad)) := by
  refine f_enter (by decide +kernel) hJ rfl (Nat.le_of_ble_eq_true rfl) ?_
  intro z hzl hR C hRt hLk hEz
  subst hzl
  have KA : fv z (mG xCl D cA ad) 7 (f_R z (mG xCl D cA ad) (f_QI (fun r σ1 => r = (m_part σ a w how).1 0 16 ∧ σ1 = m_part σ a w how) (mG xCl D cA ad))) 0 0 (m_puts (f_p1 σ 0 16 a) (if w = 1 then [37, 70, 49, 10] else [])) 33 [some (.ref (ad 0)), some (.int (fI a)), some (.int (fI w)), some (.int (fI how)), none, none, none] [] := by
    refine v_aload_n C dM_putPart_33 rfl rfl ?_
    refine v_iload_n C dM_putPart_34 rfl rfl ?_
    refine v_iload_n C dM_putPart_35 rfl rfl ?_
    have hS2 : ∀ (k i : Nat), k ≠ 7 → (m_puts (f_p1 σ 0 16 a) (if w = 1 then [37, 70, 49, 10] else [])).2 k i = σ.2 k i := fun k i h => m_puts_2 _ _ _ _ h
    have hS16 : (m_puts (f_p1 σ 0 16 a) (if w = 1 then [37, 70, 49, 10] else [])).1 0 16 = a + (if w = 1 then [37, 70, 49, 10] else ([] : List Int)).length := m_puts_next _ _
    have hS17 : (m_puts (f_p1 σ 0 16 a) (if w = 1 then [37, 70, 49, 10] else [])).1 0 17 = σ.1 0 17 := m_puts_cnt _ _
    have hSt : m_turns (m_puts (f_p1 σ 0 16 a) (if w = 1 then [37, 70, 49, 10] else [])) w how (m_last how + 1) = m_turns σ w how (m_last how + 1) := m_turns_congr (fun i => hS2 1 i (by decide)) (fun i => hS2 2 i (by decide)) (fun i => hS2 3 i (by decide)) (fun i => hS2 5 i (by decide)) w how _
    have hSl : ∀ l, m_rlen (m_puts (f_p1 σ 0 16 a) (if w = 1 then [37, 70, 49, 10] else [])) l = m_rlen σ l := fun l => m_rlen_congr (fun i => hS2 5 i (by decide)) (fun i => hS2 6 i (by decide)) l
    have hfl : (if w = 1 then [37, 70, 49, 10] else ([] : List Int)).length ≤ 4 := by split <;> simp
    refine v_cVV (k := 0) (n := 2) C (mE_ok _) trivial hR (kM_putRecords _ xCl D cA ad hJ (m_puts (f_p1 σ 0 16 a) (if w = 1 then [37, 70, 49, 10] else [])) w how (by omega) (by omega) (fun i => by rw [hS2 1 i (by decide)]; exact h1 i) (fun i => by rw [hS2 2 i (by decide)]; exact h2 i) (fun i => by rw [hS2 3 i (by decide)]; exact h3 i) (fun i => by rw [hS2 5 i (by decide)]; exact h5 i) (fun i => by rw [hS2 6 i (by decide)]; exact h6 i) (by rw [hS16]; omega) (by rw [hS16, hSt, hSl]; omega) (by rw [hS17]; exact hc) (by rw [hS17, hS16, hSt, hSl]; omega)) dM_putPart_36 (by show (0 : Nat) < 18; decide) rfl rfl gM_99 (by decide +kernel) (by decide) (by decide) rfl (Nat.le_of_ble_eq_true rfl) rfl ⟨rfl, rfl⟩ (fun τ1 hp1 => ?_)
    subst τ1
    rw [hSt]
    obtain ⟨B, hB⟩ : ∃ s, s = m_recs (m_puts (f_p1 σ 0 16 a) (if w = 1 then [37, 70, 49, 10] else [])) (m_turns σ w how (m_last how + 1)) := ⟨_, rfl⟩
    refine v_st hB.symm ?_
    have hBm : B = m_body σ a w how := hB
    have hBa : ∀ (k i : Nat), k ≠ 7 → k ≠ 13 → k ≠ 14 → B.2 k i = σ.2 k i := fun k i q1 q2 q3 => by rw [hB, m_recs_2 _ _ _ _ q1 q2 q3]; exact hS2 k i q1
    have hB16 : B.1 0 16 = a + (if w = 1 then [37, 70, 49, 10] else ([] : List Int)).length + m_rlen σ (m_turns σ w how (m_last how + 1)) := by rw [hB, m_recs_next, hS16, hSl]
    have hBs : ∀ q, q ≠ 16 → B.1 0 q = σ.1 0 q := fun q hq => by rw [hB, m_recs_1, if_neg (by omega), m_puts_1, if_neg (by omega), p1_1, if_neg (by omega)]
    have hB17 : B.1 0 17 = σ.1 0 17 := hBs 17 (by decide)
    have hB13 : ∀ i, 0 ≤ B.2 13 i ∧ B.2 13 i ≤ 99999 := by rw [hB]; exact m_recs_13 _ _ (by rw [hS16]; omega) (by rw [hS16, hSl]; omega) (fun i => by rw [hS2 13 i (by decide)]; exact h13 i)
    have hmv01 : ∀ i, 0 ≤ m_mv B w i ∧ m_mv B w i ≤ 1 := fun i => by unfold m_mv; split; (· rw [hBa 1 i (by decide) (by decide) (by decide)]; exact h1 i); (· rw [hBa 3 i (by decide) (by decide) (by decide)]; exact h3 i)
    have hmc := m_cnt_le (m_mv B w) 40
    have hrw := m_rows_le B w 40 0
    have htl := m_tail_len B w (m_pq σ w)
    have hpq : 0 ≤ m_pq σ w ∧ m_pq σ w ≤ 99999 := by unfold m_pq; split; (· omega); (· exact h9 _)
    have hu1 := m_tell_len 120 (m_cnt (m_mv B w) 40)
    have hu2 := m_tell_len 112 (m_pq σ w)
    have hu3 := m_tell_len 101 (B.1 0 16)
    rw [← hBm] at hf
    · have LR : ∀ (m k : Nat), m + k = 40 → fv z (mG xCl D cA ad) 7 (f_R z (mG xCl D cA ad) (f_QI (fun r σ1 => r = (m_part σ a w how).1 0 16 ∧ σ1 = m_part σ a w how) (mG xCl D cA ad))) 0 0 (m_puts B (m_tell 120 (m_cnt (m_mv B w) 40) ++ m_rows B w k)) 96 [some (.ref (ad 0)), some (.int (fI a)), some (.int (fI w)), some (.int (fI how)), some (.int (fI (B.1 0 16))), some (.int (fI (m_cnt (m_mv B w) 40))), some (.int (fI ((k : Int) + 1)))] [] := by
        intro m
        induction m with
        | zero =>
          intro k hk
          have hk40 : k = 40 := by omega
          subst hk40
          refine v_iload C dM_putPart_96 rfl ?_
          refine v_bipush C dM_putPart_98 (by decide +kernel) ?_
          refine v_icmp_gt (tgt := 125) C dM_putPart_100 (by decide) (by omega) (by omega) (fun hc1 => ?_) (fun hc1 => ?_)
          · refine v_aload_n C dM_putPart_125 rfl rfl ?_
            refine v_bipush C dM_putPart_126 (by decide +kernel) ?_
            refine v_iload_n C dM_putPart_128 rfl rfl ?_
            refine v_if_eq (tgt := 136) C dM_putPart_129 (by decide) (by omega) (fun hc2 => ?_) (fun hc2 => ?_)
            · refine v_aload_n C dM_putPart_136 rfl rfl ?_
              refine v_getR (k := 0) (q := 12) C dM_putPart_137 (by show (0 : Nat) < 18; decide) rfl rfl (by decide) rfl inM lM_36 rfl ?_
              refine v_aload_n C dM_putPart_140 rfl rfl ?_
              refine v_getI (k := 0) (q := 10) (v := σ.1 0 10) C dM_putPart_141 (by show (0 : Nat) < 18; decide) rfl rfl (by decide) rfl inM lM_110 rfl ((by rw [m_puts_1, if_neg (by decide)]; exact hBs 10 (by decide))) ?_
              refine v_iconst C dM_putPart_144 ?_
              refine v_isub C dM_putPart_145 ?_
              refine v_iald (k := 9) (v := σ.2 9 ((σ.1 0 10 - 1)).toNat) C dM_putPart_146 (by show (9 : Nat) < 18; decide) rfl rfl (by omega) (by decide) ((m_puts_2 _ _ _ _ (by decide)).trans (hBa 9 _ (by decide) (by decide) (by decide))) ?_
              refine v_top (b := m_pq σ w) (by unfold m_pq; rw [if_neg (by omega)]) ?_
              have hx3 := m_puts_next B (m_tell 120 (m_cnt (m_mv B w) 40) ++ m_rows B w 40)
              try simp only [List.length_append, List.length_cons, List.length_nil] at hx3
              have hy4 := m_puts_cnt B (m_tell 120 (m_cnt (m_mv B w) 40) ++ m_rows B w 40)
              have hu5 := m_tell_len (112) (m_pq σ w)
              have hu6 : (m_tell (112) (m_pq σ w)).length = (dig (m_pq σ w)).length + 3 := by unfold m_tell; simp
              refine v_cVV (k := 0) (n := 2) C (mE_ok _) trivial hR (kM_putTold _ xCl D cA ad hJ (m_puts B (m_tell 120 (m_cnt (m_mv B w) 40) ++ m_rows B w 40)) (112) (m_pq σ w) (by omega) (by omega) (by omega) (by omega) (by omega)) dM_putPart_147 (by show (0 : Nat) < 18; decide) rfl rfl gM_103 (by decide +kernel) (by decide) (by decide) rfl (Nat.le_of_ble_eq_true rfl) rfl ⟨rfl, rfl⟩ (fun τ2 hp2 => ?_)
              subst τ2
              refine v_st (σ1 := m_puts B (m_tell 120 (m_cnt (m_mv B w) 40) ++ m_rows B w 40 ++ m_tell (112) (m_pq σ w))) (m_puts_app _ _ _).symm ?_
              · refine v_aload_n C dM_putPart_150 rfl rfl ?_
                refine v_bipush C dM_putPart_151 (by decide +kernel) ?_
                refine v_iload C dM_putPart_153 rfl ?_
                have hx7 := m_puts_next B (m_tell 120 (m_cnt (m_mv B w) 40) ++ m_rows B w 40 ++ m_tell (112) (m_pq σ w))
                try simp only [List.length_append, List.length_cons, List.length_nil] at hx7
                have hy8 := m_puts_cnt B (m_tell 120 (m_cnt (m_mv B w) 40) ++ m_rows B w 40 ++ m_tell (112) (m_pq σ w))
                have hu9 := m_tell_len (101) ((B.1 0 16))
                have hu10 : (m_tell (101) ((B.1 0 16))).length = (dig ((B.1 0 16))).length + 3 := by unfold m_tell; simp
                refine v_cVV (k := 0) (n := 2) C (mE_ok _) trivial hR (kM_putTold _ xCl D cA ad hJ (m_puts B (m_tell 120 (m_cnt (m_mv B w) 40) ++ m_rows B w 40 ++ m_tell (112) (m_pq σ w))) (101) ((B.1 0 16)) (by omega) (by omega) (by omega) (by omega) (by omega)) dM_putPart_155 (by show (0 : Nat) < 18; decide) rfl rfl gM_103 (by decide +kernel) (by decide) (by decide) rfl (Nat.le_of_ble_eq_true rfl) rfl ⟨rfl, rfl⟩ (fun τ3 hp3 => ?_)
                subst τ3
                refine v_st (σ1 := m_puts B (m_tell 120 (m_cnt (m_mv B w) 40) ++ m_rows B w 40 ++ m_tell (112) (m_pq σ w) ++ m_tell (101) ((B.1 0 16)))) (m_puts_app _ _ _).symm ?_
                · refine v_aload_n C dM_putPart_158 rfl rfl ?_
                  refine v_iload C dM_putPart_159 rfl ?_
                  refine v_putI (k := 0) (q := 26) C dM_putPart_161 (by show (0 : Nat) < 18; decide) rfl rfl (by decide) rfl inM tyM_ok nmM lM_113 rfl rfl rfl rfl rfl ?_
                  refine v_aload_n C dM_putPart_164 rfl rfl ?_
                  refine v_getI (k := 0) (q := 16) (v := B.1 0 16 + (m_tell 120 (m_cnt (m_mv B w) 40) ++ m_rows B w 40 ++ m_tell (112) (m_pq σ w) ++ m_tell (101) ((B.1 0 16)) : List Int).length) C dM_putPart_165 (by show (0 : Nat) < 18; decide) rfl rfl (by decide) rfl inM lM_82 rfl (m_puts_next _ _) ?_
                  exact v_iret C hRt hLk dM_putPart_168 (by unfold m_part; rw [← hBm]; exact ⟨by rw [p1_1, if_neg (by decide), m_puts_next]; rfl, rfl⟩)
            · refine v_iconst C dM_putPart_132 ?_
              refine v_top (b := m_pq σ w) (by unfold m_pq; rw [if_pos (by omega)]) ?_
              refine v_goto (tgt := 147) C dM_putPart_133 (by decide) ?_
              have hx11 := m_puts_next B (m_tell 120 (m_cnt (m_mv B w) 40) ++ m_rows B w 40)
              try simp only [List.length_append, List.length_cons, List.length_nil] at hx11
              have hy12 := m_puts_cnt B (m_tell 120 (m_cnt (m_mv B w) 40) ++ m_rows B w 40)
              have hu13 := m_tell_len (112) (m_pq σ w)
              have hu14 : (m_tell (112) (m_pq σ w)).length = (dig (m_pq σ w)).length + 3 := by unfold m_tell; simp
              refine v_cVV (k := 0) (n := 2) C (mE_ok _) trivial hR (kM_putTold _ xCl D cA ad hJ (m_puts B (m_tell 120 (m_cnt (m_mv B w) 40) ++ m_rows B w 40)) (112) (m_pq σ w) (by omega) (by omega) (by omega) (by omega) (by omega)) dM_putPart_147 (by show (0 : Nat) < 18; decide) rfl rfl gM_103 (by decide +kernel) (by decide) (by decide) rfl (Nat.le_of_ble_eq_true rfl) rfl ⟨rfl, rfl⟩ (fun τ4 hp4 => ?_)
              subst τ4
              refine v_st (σ1 := m_puts B (m_tell 120 (m_cnt (m_mv B w) 40) ++ m_rows B w 40 ++ m_tell (112) (m_pq σ w))) (m_puts_app _ _ _).symm ?_
              · refine v_aload_n C dM_putPart_150 rfl rfl ?_
                refine v_bipush C dM_putPart_151 (by decide +kernel) ?_
                refine v_iload C dM_putPart_153 rfl ?_
                have hx15 := m_puts_next B (m_tell 120 (m_cnt (m_mv B w) 40) ++ m_rows B w 40 ++ m_tell (112) (m_pq σ w))
                try simp only [List.length_append, List.length_cons, List.length_nil] at hx15
                have hy16 := m_puts_cnt B (m_tell 120 (m_cnt (m_mv B w) 40) ++ m_rows B w 40 ++ m_tell (112) (m_pq σ w))
                have hu17 := m_tell_len (101) ((B.1 0 16))
                have hu18 : (m_tell (101) ((B.1 0 16))).length = (dig ((B.1 0 16))).length + 3 := by unfold m_tell; simp
                refine v_cVV (k := 0) (n := 2) C (mE_ok _) trivial hR (kM_putTold _ xCl D cA ad hJ (m_puts B (m_tell 120 (m_cnt (m_mv B w) 40) ++ m_rows B w 40 ++ m_tell (112) (m_pq σ w))) (101) ((B.1 0 16)) (by omega) (by omega) (by omega) (by omega) (by omega)) dM_putPart_155 (by show (0 : Nat) < 18; decide) rfl rfl gM_103 (by decide +kernel) (by decide) (by decide) rfl (Nat.le_of_ble_eq_true rfl) rfl ⟨rfl, rfl⟩ (fun τ5 hp5 => ?_)
                subst τ5
                refine v_st (σ1 := m_puts B (m_tell 120 (m_cnt (m_mv B w) 40) ++ m_rows B w 40 ++ m_tell (112) (m_pq σ w) ++ m_tell (101) ((B.1 0 16)))) (m_puts_app _ _ _).symm ?_
                · refine v_aload_n C dM_putPart_158 rfl rfl ?_
                  refine v_iload C dM_putPart_159 rfl ?_
                  refine v_putI (k := 0) (q := 26) C dM_putPart_161 (by show (0 : Nat) < 18; decide) rfl rfl (by decide) rfl inM tyM_ok nmM lM_113 rfl rfl rfl rfl rfl ?_
                  refine v_aload_n C dM_putPart_164 rfl rfl ?_
                  refine v_getI (k := 0) (q := 16) (v := B.1 0 16 + (m_tell 120 (m_cnt (m_mv B w) 40) ++ m_rows B w 40 ++ m_tell (112) (m_pq σ w) ++ m_tell (101) ((B.1 0 16)) : List Int).length) C dM_putPart_165 (by show (0 : Nat) < 18; decide) rfl rfl (by decide) rfl inM lM_82 rfl (m_puts_next _ _) ?_
                  exact v_iret C hRt hLk dM_putPart_168 (by unfold m_part; rw [← hBm]; exact ⟨by rw [p1_1, if_neg (by decide), m_puts_next]; rfl, rfl⟩)
          · exfalso; omega
        | succ m ih =>
          intro k hk
          have hle := (m_rows_le B w (k + 1) m).1
          rw [show k + 1 + m = 40 by omega] at hle
          rw [show m_rows B w (k + 1) = m_rows B w k ++ (if m_mv B w (k + 1) = 1 then m_row B ((k : Int) + 1) else []) from rfl, List.length_append] at hle
          have hkt : ((k : Int) + 1).toNat = k + 1 := by omega
          have hrl := m_row_len B ((k : Int) + 1)
          refine v_iload C dM_putPart_96 rfl ?_
          refine v_bipush C dM_putPart_98 (by decide +kernel) ?_
          refine v_icmp_gt (tgt := 125) C dM_putPart_100 (by decide) (by omega) (by omega) (fun hc19 => ?_) (fun hc19 => ?_)
          · exfalso; omega
          · refine v_aload_n C dM_putPart_103 rfl rfl ?_
            refine v_iload C dM_putPart_104 rfl ?_
            refine v_iload_n C dM_putPart_106 rfl rfl ?_
            have hm1 : ∀ i, 0 ≤ (m_puts B (m_tell 120 (m_cnt (m_mv B w) 40) ++ m_rows B w k)).2 1 i ∧ (m_puts B (m_tell 120 (m_cnt (m_mv B w) 40) ++ m_rows B w k)).2 1 i ≤ 1 := fun i => by rw [m_puts_2 _ _ _ _ (by decide)]; rw [hBa 1 i (by decide) (by decide) (by decide)]; exact h1 i
            have hm3 : ∀ i, 0 ≤ (m_puts B (m_tell 120 (m_cnt (m_mv B w) 40) ++ m_rows B w k)).2 3 i ∧ (m_puts B (m_tell 120 (m_cnt (m_mv B w) 40) ++ m_rows B w k)).2 3 i ≤ 1 := fun i => by rw [m_puts_2 _ _ _ _ (by decide)]; rw [hBa 3 i (by decide) (by decide) (by decide)]; exact h3 i
            have hmv : m_mv B w (((k : Int) + 1)).toNat = m_mv B w (((k : Int) + 1)).toNat := rfl
            unfold m_mv at hmv
            refine v_cVI (k := 0) (n := 2) C (mE_ok _) trivial hR (kM_isMeant _ xCl D cA ad hJ (m_puts B (m_tell 120 (m_cnt (m_mv B w) 40) ++ m_rows B w k)) (((k : Int) + 1)) w (by omega) (by omega) hm1 hm3) dM_putPart_107 (by show (0 : Nat) < 18; decide) rfl rfl gM_92 (by decide +kernel) (by decide) (by decide) rfl (Nat.le_of_ble_eq_true rfl) rfl ⟨rfl, rfl⟩ (fun r6 τ6 hp6 => ?_)
            rw [m_puts_2 _ _ _ _ (by decide), m_puts_2 _ _ _ _ (by decide)] at hp6
            have hv6 : r6 = m_mv B w (((k : Int) + 1)).toNat ∧ τ6 = (m_puts B (m_tell 120 (m_cnt (m_mv B w) 40) ++ m_rows B w k)) := by unfold m_mv; rcases hp6 with ⟨h9, h8, h7⟩ | ⟨h9, h8, h7⟩; (· rw [if_pos h9]; exact ⟨h8, h7⟩); (· rw [if_neg (by omega)]; exact ⟨h8, h7⟩)
            obtain ⟨hv6, he6⟩ := hv6
            subst τ6
            have hmb := hmv01 (((k : Int) + 1)).toNat
            · refine v_if_eq (tgt := 119) C dM_putPart_110 (by decide) (by omega) (fun hc20 => ?_) (fun hc20 => ?_)
              · refine v_iinc C dM_putPart_119 rfl (by decide) ?_
                refine v_goto (tgt := 96) C dM_putPart_122 (by decide) ?_
                exact v_lv rfl (v_st (by show _ = m_puts B (_ ++ (m_rows B w k ++ (if m_mv B w (k + 1) = 1 then m_row B ((k : Int) + 1) else []))); rw [if_neg (by rw [← hkt]; omega), List.append_nil]) (ih (k + 1) (by omega)))
              · rw [if_pos (by rw [← hkt]; omega)] at hle
                refine v_aload_n C dM_putPart_113 rfl rfl ?_
                refine v_iload C dM_putPart_114 rfl ?_
                have hx21 := m_puts_next B (m_tell 120 (m_cnt (m_mv B w) 40) ++ m_rows B w k)
                try simp only [List.length_append, List.length_cons, List.length_nil] at hx21
                have hy22 := m_puts_cnt B (m_tell 120 (m_cnt (m_mv B w) 40) ++ m_rows B w k)
                have hq1 : ∀ i, (m_puts B (m_tell 120 (m_cnt (m_mv B w) 40) ++ m_rows B w k)).2 1 i = B.2 1 i := fun i => m_puts_2 _ _ _ _ (by decide)
                have hq13 : ∀ i, (m_puts B (m_tell 120 (m_cnt (m_mv B w) 40) ++ m_rows B w k)).2 13 i = B.2 13 i := fun i => m_puts_2 _ _ _ _ (by decide)
                have hrc := m_row_congr hq1 hq13 (((k : Int) + 1))
                refine v_cVV (k := 0) (n := 1) C (mE_ok _) trivial hR (kM_putRow _ xCl D cA ad hJ (m_puts B (m_tell 120 (m_cnt (m_mv B w) 40) ++ m_rows B w k)) (((k : Int) + 1)) (by omega) (fun i => by rw [hq1, hBa 1 i (by decide) (by decide) (by decide)]; exact h1 i) (fun i => by rw [hq13]; exact hB13 i) (by omega) (by omega) (by rw [hrc]; omega)) dM_putPart_116 (by show (0 : Nat) < 18; decide) rfl rfl gM_107 (by decide +kernel) (by decide) (by decide) rfl (Nat.le_of_ble_eq_true rfl) rfl ⟨rfl, rfl⟩ (fun τ7 hp7 => ?_)
                subst τ7
                refine v_st (σ1 := m_puts B (m_tell 120 (m_cnt (m_mv B w) 40) ++ m_rows B w k ++ m_row B (((k : Int) + 1)))) (by rw [hrc]; exact (m_puts_app _ _ _).symm) ?_
                · refine v_iinc C dM_putPart_119 rfl (by decide) ?_
                  refine v_goto (tgt := 96) C dM_putPart_122 (by decide) ?_
                  exact v_lv rfl (v_st (by rw [List.append_assoc]; show _ = m_puts B (_ ++ (m_rows B w k ++ (if m_mv B w (k + 1) = 1 then m_row B ((k : Int) + 1) else []))); rw [if_pos (by rw [← hkt]; omega)]) (ih (k + 1) (by omega)))
      have LC : ∀ (m k : Nat), m + k = 40 → fv z (mG xCl D cA ad) 7 (f_R z (mG xCl D cA ad) (f_QI (fun r σ1 => r = (m_part σ a w how).1 0 16 ∧ σ1 = m_part σ a w how) (mG xCl D cA ad))) 0 0 B 51 [some (.ref (ad 0)), some (.int (fI a)), some (.int (fI w)), some (.int (fI how)), some (.int (fI (B.1 0 16))), some (.int (fI (m_cnt (m_mv B w) k))), some (.int (fI ((k : Int) + 1)))] [] := by
        intro m
        induction m with
        | zero =>
          intro k hk
          have hk40 : k = 40 := by omega
          subst hk40
          refine v_iload C dM_putPart_51 rfl ?_
          refine v_bipush C dM_putPart_53 (by decide +kernel) ?_
          refine v_icmp_gt (tgt := 85) C dM_putPart_55 (by decide) (by omega) (by omega) (fun hc23 => ?_) (fun hc23 => ?_)
          · refine v_aload_n C dM_putPart_85 rfl rfl ?_
            refine v_bipush C dM_putPart_86 (by decide +kernel) ?_
            refine v_iload C dM_putPart_88 rfl ?_
            have hu24 := m_tell_len (120) ((m_cnt (m_mv B w) 40))
            have hu25 : (m_tell (120) ((m_cnt (m_mv B w) 40))).length = (dig ((m_cnt (m_mv B w) 40))).length + 3 := by unfold m_tell; simp
            refine v_cVV (k := 0) (n := 2) C (mE_ok _) trivial hR (kM_putTold _ xCl D cA ad hJ B (120) ((m_cnt (m_mv B w) 40)) (by omega) (by omega) (by omega) (by omega) (by omega)) dM_putPart_90 (by show (0 : Nat) < 18; decide) rfl rfl gM_103 (by decide +kernel) (by decide) (by decide) rfl (Nat.le_of_ble_eq_true rfl) rfl ⟨rfl, rfl⟩ (fun τ8 hp8 => ?_)
            subst τ8
            · refine v_iconst C dM_putPart_93 ?_
              refine v_istore C dM_putPart_94 (by decide) ?_
              exact v_lv rfl (v_st (by rw [show m_rows B w 0 = [] from rfl, List.append_nil]) (LR 40 0 (by omega)))
          · exfalso; omega
        | succ m ih =>
          intro k hk
          have hkt : ((k : Int) + 1).toNat = k + 1 := by omega
          have hcs : m_cnt (m_mv B w) (k + 1) = m_cnt (m_mv B w) k + (if m_mv B w (k + 1) = 1 then 1 else 0) := rfl
          refine v_iload C dM_putPart_51 rfl ?_
          refine v_bipush C dM_putPart_53 (by decide +kernel) ?_
          refine v_icmp_gt (tgt := 85) C dM_putPart_55 (by decide) (by omega) (by omega) (fun hc26 => ?_) (fun hc26 => ?_)
          · exfalso; omega
          · refine v_aload_n C dM_putPart_58 rfl rfl ?_
            refine v_iload C dM_putPart_59 rfl ?_
            refine v_iload_n C dM_putPart_61 rfl rfl ?_
            have hm1 : ∀ i, 0 ≤ B.2 1 i ∧ B.2 1 i ≤ 1 := fun i => by rw [hBa 1 i (by decide) (by decide) (by decide)]; exact h1 i
            have hm3 : ∀ i, 0 ≤ B.2 3 i ∧ B.2 3 i ≤ 1 := fun i => by rw [hBa 3 i (by decide) (by decide) (by decide)]; exact h3 i
            have hmv : m_mv B w (((k : Int) + 1)).toNat = m_mv B w (((k : Int) + 1)).toNat := rfl
            unfold m_mv at hmv
            refine v_cVI (k := 0) (n := 2) C (mE_ok _) trivial hR (kM_isMeant _ xCl D cA ad hJ B (((k : Int) + 1)) w (by omega) (by omega) hm1 hm3) dM_putPart_62 (by show (0 : Nat) < 18; decide) rfl rfl gM_92 (by decide +kernel) (by decide) (by decide) rfl (Nat.le_of_ble_eq_true rfl) rfl ⟨rfl, rfl⟩ (fun r9 τ9 hp9 => ?_)
            have hv9 : r9 = m_mv B w (((k : Int) + 1)).toNat ∧ τ9 = B := by unfold m_mv; rcases hp9 with ⟨h9, h8, h7⟩ | ⟨h9, h8, h7⟩; (· rw [if_pos h9]; exact ⟨h8, h7⟩); (· rw [if_neg (by omega)]; exact ⟨h8, h7⟩)
            obtain ⟨hv9, he9⟩ := hv9
            subst τ9
            have hmb := hmv01 (((k : Int) + 1)).toNat
            · refine v_if_eq (tgt := 75) C dM_putPart_65 (by decide) (by omega) (fun hc27 => ?_) (fun hc27 => ?_)
              · refine v_iload C dM_putPart_75 rfl ?_
                refine v_istore C dM_putPart_77 (by decide) ?_
                refine v_iinc C dM_putPart_79 rfl (by decide) ?_
                refine v_goto (tgt := 51) C dM_putPart_82 (by decide) ?_
                exact v_lv (by rw [hcs]; (first | rw [if_pos (by rw [← hkt]; omega)] | rw [if_neg (by rw [← hkt]; omega), Int.add_zero]); rfl) (ih (k + 1) (by omega))
              · refine v_iload C dM_putPart_68 rfl ?_
                refine v_iconst C dM_putPart_70 ?_
                refine v_iadd C dM_putPart_71 ?_
                refine v_goto (tgt := 77) C dM_putPart_72 (by decide) ?_
                refine v_istore C dM_putPart_77 (by decide) ?_
                refine v_iinc C dM_putPart_79 rfl (by decide) ?_
                refine v_goto (tgt := 51) C dM_putPart_82 (by decide) ?_
                exact v_lv (by rw [hcs]; (first | rw [if_pos (by rw [← hkt]; omega)] | rw [if_neg (by rw [← hkt]; omega), Int.add_zero]); rfl) (ih (k + 1) (by omega))
      refine v_aload_n C dM_putPart_39 rfl rfl ?_
      refine v_getI (k := 0) (q := 16) (v := B.1 0 16) C dM_putPart_40 (by show (0 : Nat) < 18; decide) rfl rfl (by decide) rfl inM lM_82 rfl rfl ?_
      refine v_istore C dM_putPart_43 (by decide) ?_
      refine v_iconst C dM_putPart_45 ?_
      refine v_istore C dM_putPart_46 (by decide) ?_
      refine v_iconst C dM_putPart_48 ?_
      refine v_istore C dM_putPart_49 (by decide) ?_
      exact v_lv rfl (LC 40 0 (by omega))
  refine v_aload_n C dM_putPart_0 rfl rfl ?_
  refine v_iload_n C dM_putPart_1 rfl rfl ?_
  refine v_putI (k := 0) (q := 16) C dM_putPart_2 (by show (0 : Nat) < 18; decide) rfl rfl (by decide) rfl inM tyM_ok nmM lM_82 rfl rfl rfl rfl rfl ?_
  refine v_st (σ1 := m_puts (f_p1 σ 0 16 a) []) rfl ?_
  refine v_iload_n C dM_putPart_5 rfl rfl ?_
  refine v_if_eq (tgt := 33) C dM_putPart_6 (by decide) (by omega) (fun hc28 => ?_) (fun hc28 => ?_)
  · exact v_st (by rw [if_neg (by omega)]) KA
  · refine v_aload_n C dM_putPart_9 rfl rfl ?_
    refine v_bipush C dM_putPart_10 (by decide +kernel) ?_
    have hx29 := m_puts_next (f_p1 σ 0 16 a) ([])
    try simp only [List.length_append, List.length_cons, List.length_nil] at hx29
    have hy30 := m_puts_cnt (f_p1 σ 0 16 a) ([])
    change _ = a + _ at hx29
    change _ = σ.1 0 17 at hy30
    refine v_cVV (k := 0) (n := 1) C (mE_ok _) trivial hR (kM_put _ xCl D cA ad hJ (m_puts (f_p1 σ 0 16 a) ([])) (37) (by omega) (by omega) (by omega) (by omega)) dM_putPart_12 (by show (0 : Nat) < 18; decide) rfl rfl gM_85 (by decide +kernel) (by decide) (by decide) rfl (Nat.le_of_ble_eq_true rfl) rfl ⟨rfl, rfl⟩ (fun σ1 hp1 => ?_)
    subst σ1
    refine v_st (σ1 := m_puts (f_p1 σ 0 16 a) ([37])) (rfl) ?_
    refine v_aload_n C dM_putPart_15 rfl rfl ?_
    refine v_bipush C dM_putPart_16 (by decide +kernel) ?_
    have hx31 := m_puts_next (f_p1 σ 0 16 a) ([37])
    try simp only [List.length_append, List.length_cons, List.length_nil] at hx31
    have hy32 := m_puts_cnt (f_p1 σ 0 16 a) ([37])
    change _ = a + _ at hx31
    change _ = σ.1 0 17 at hy32
    refine v_cVV (k := 0) (n := 1) C (mE_ok _) trivial hR (kM_put _ xCl D cA ad hJ (m_puts (f_p1 σ 0 16 a) ([37])) (70) (by omega) (by omega) (by omega) (by omega)) dM_putPart_18 (by show (0 : Nat) < 18; decide) rfl rfl gM_85 (by decide +kernel) (by decide) (by decide) rfl (Nat.le_of_ble_eq_true rfl) rfl ⟨rfl, rfl⟩ (fun σ1 hp1 => ?_)
    subst σ1
    refine v_st (σ1 := m_puts (f_p1 σ 0 16 a) ([37] ++ [70])) (m_puts_snoc _ _ _) ?_
    refine v_aload_n C dM_putPart_21 rfl rfl ?_
    refine v_bipush C dM_putPart_22 (by decide +kernel) ?_
    have hx33 := m_puts_next (f_p1 σ 0 16 a) ([37] ++ [70])
    try simp only [List.length_append, List.length_cons, List.length_nil] at hx33
    have hy34 := m_puts_cnt (f_p1 σ 0 16 a) ([37] ++ [70])
    change _ = a + _ at hx33
    change _ = σ.1 0 17 at hy34
    refine v_cVV (k := 0) (n := 1) C (mE_ok _) trivial hR (kM_put _ xCl D cA ad hJ (m_puts (f_p1 σ 0 16 a) ([37] ++ [70])) (49) (by omega) (by omega) (by omega) (by omega)) dM_putPart_24 (by show (0 : Nat) < 18; decide) rfl rfl gM_85 (by decide +kernel) (by decide) (by decide) rfl (Nat.le_of_ble_eq_true rfl) rfl ⟨rfl, rfl⟩ (fun σ1 hp1 => ?_)
    subst σ1
    refine v_st (σ1 := m_puts (f_p1 σ 0 16 a) ([37] ++ [70] ++ [49])) (m_puts_snoc _ _ _) ?_
    refine v_aload_n C dM_putPart_27 rfl rfl ?_
    refine v_bipush C dM_putPart_28 (by decide +kernel) ?_
    have hx35 := m_puts_next (f_p1 σ 0 16 a) ([37] ++ [70] ++ [49])
    try simp only [List.length_append, List.length_cons, List.length_nil] at hx35
    have hy36 := m_puts_cnt (f_p1 σ 0 16 a) ([37] ++ [70] ++ [49])
    change _ = a + _ at hx35
    change _ = σ.1 0 17 at hy36
    refine v_cVV (k := 0) (n := 1) C (mE_ok _) trivial hR (kM_put _ xCl D cA ad hJ (m_puts (f_p1 σ 0 16 a) ([37] ++ [70] ++ [49])) (10) (by omega) (by omega) (by omega) (by omega)) dM_putPart_30 (by show (0 : Nat) < 18; decide) rfl rfl gM_85 (by decide +kernel) (by decide) (by decide) rfl (Nat.le_of_ble_eq_true rfl) rfl ⟨rfl, rfl⟩ (fun σ1 hp1 => ?_)
    subst σ1
    refine v_st (σ1 := m_puts (f_p1 σ 0 16 a) ([37] ++ [70] ++ [49] ++ [10])) (m_puts_snoc _ _ _) ?_
    exact v_st (by rw [if_pos (by omega)]; rfl) KA
