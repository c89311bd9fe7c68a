/-- what is known of locals is known there too -/
def lvLe : List (Option Value) → List (Option Value) → Prop
  | [], _ => True
  | none :: a, _ :: b => lvLe a b
  | some v :: a, w :: b => w = some v ∧ lvLe a b
  | _ :: _, [] => False
theorem lvLe_at : ∀ (a b : List (Option Value)), lvLe a b → ∀ (i : Nat) (v : Value), a[i]? = some (some v) → b[i]? = some (some v)
  | [], _, _, i, v, h => by simp at h
  | none :: a, w :: b, h, i, v, hi => by
    cases i with
    | zero => simp at hi
    | succ i => simp at hi ⊢; exact lvLe_at a b h i v hi
  | some u :: a, w :: b, h, i, v, hi => by
    cases i with
    | zero =>
      simp at hi ⊢
      rw [h.1, hi]
    | succ i => simp at hi ⊢; exact lvLe_at a b h.2 i v hi
/-- fewer locals are known -/
theorem v_less {z : fZ} {G : fG} {nL : Nat} {Q : State → Prop} {kc ks : Nat} {σ : fS} {pc : Nat} {lv0 lv1 : List (Option Value)} {st : List Value} (h : lvLe lv0 lv1) (k : fv z G nL Q kc ks σ pc lv0 st) : fv z G nL Q kc ks σ pc lv1 st :=
  fun H locs ls hP hS hl => k H locs ls hP hS ⟨hl.1, hl.2.1, fun i v hi => hl.2.2.1 i v (lvLe_at _ _ h i v hi), fun i v hi => hl.2.2.2 i v (lvLe_at _ _ h i v hi)⟩
/-- where the j-th line behind p begins -/
def p_ln (f : Nat → Int) (z : Int) : Nat → Int → Int
  | 0, a => a
  | j + 1, a => p_eol f z (p_ln f z j a) + 1
/-- a row's place as a number -/
def p_rpv (f : Nat → Int) (z p : Int) : Int := if p_q f z p + 1 < p_eol f z p ∧ f (p_q f z p + 1).toNat = 45 then -1 else (p_num f (p_eol f z p) (p_q f z p + 1)).1
theorem p_rp_v {f : Nat → Int} {z p v : Int} (h : p_rp f z p v) : v = p_rpv f z p := by
  unfold p_rpv
  rcases h with ⟨h1, h2⟩ | ⟨h1, h2⟩
  · rw [if_pos (show p_q f z p + 1 < p_eol f z p ∧ f (p_q f z p + 1).toNat = 45 from h1)]; exact h2
  · rw [if_neg (show ¬ (p_q f z p + 1 < p_eol f z p ∧ f (p_q f z p + 1).toNat = 45) from h1)]; exact h2
theorem p_ln_0 (f : Nat → Int) (z : Int) : ∀ (j : Nat) (a : Int), 0 ≤ a → 0 ≤ p_ln f z j a := by
  intro j
  induction j with
  | zero => intro a h; exact h
  | succ j ih =>
    intro a h
    have h1 := ih a h
    have h2 := @p_eol_le f z (p_ln f z j a)
    show 0 ≤ p_eol f z (p_ln f z j a) + 1
    omega
theorem p_rpv_r (f : Nat → Int) (z p : Int) : -1 ≤ p_rpv f z p ∧ p_rpv f z p ≤ 99999 := by
  unfold p_rpv
  have h := p_num_v f (p_eol f z p) (p_q f z p + 1)
  split <;> omega
theorem p_rn_r (f : Nat → Int) (z p : Int) : 0 ≤ p_rn f z p ∧ p_rn f z p ≤ 99999 := p_num_v _ _ _
/-- the j-th row's record stands -/
def p_rok (f : Nat → Int) (z x a : Int) : Prop := p_rpv f z a = -1 ∨ p_rec f z (p_rpv f z a) (p_rn f z a) x
/-- the state but for what is used while a file is read: also the fault -/
def m_scf (σ σ1 : fS) : Prop := σ1.2 = σ.2 ∧ ∀ a b, ¬ (a = 0 ∧ (b = 20 ∨ b = 21 ∨ b = 22 ∨ b = 23 ∨ b = 26 ∨ b = 27)) → σ1.1 a b = σ.1 a b
theorem m_scf_of {σ σ1 : fS} (h : m_scr σ σ1) : m_scf σ σ1 := ⟨h.1, fun a b hab => h.2 a b (fun q => hab ⟨q.1, by omega⟩)⟩
theorem m_scf_tr {σ τ υ : fS} (h1 : m_scf σ τ) (h2 : m_scf τ υ) : m_scf σ υ := ⟨h2.1.trans h1.1, fun a b h => (h2.2 a b h).trans (h1.2 a b h)⟩
theorem m_scf_p {σ τ : fS} (h : m_scf σ τ) (v : Int) : m_scf σ (f_p1 τ 0 23 v) := by
  refine ⟨h.1, fun a b hab => ?_⟩
  rw [p1_1, if_neg (by
    intro h9
    exact hab ⟨h9.1, by omega⟩)]
  exact h.2 a b hab
set_option maxRecDepth 100000 in
set_option maxHeartbeats 4000000 in
/-- recordsStand(x, many) -/
theorem kM_recordsStand (l : Launch) (xCl : List vw_C) (D : va_G) (cA : Nat → ClassId) (ad : Nat → Nat) (hJ : f_J (mG xCl D cA ad)) (σ : fS) (x w : Int) (hx : 0 ≤ x ∧ x ≤ 11999) (hw : 0 ≤ w ∧ w ≤ 99999) (hz : 0 ≤ σ.1 0 7 ∧ σ.1 0 7 ≤ 12000) (h7 : ∀ i, -128 ≤ σ.2 7 i ∧ σ.2 7 i ≤ 127) (hx1 : p_eol (σ.2 7) (σ.1 0 7) x < σ.1 0 7) (hrows : ∀ j, j < w.toNat → p_row (σ.2 7) (σ.1 0 7) (p_ln (σ.2 7) (σ.1 0 7) j (p_eol (σ.2 7) (σ.1 0 7) x + 1)) ∧ p_rpv (σ.2 7) (σ.1 0 7) (p_ln (σ.2 7) (σ.1 0 7) j (p_eol (σ.2 7) (σ.1 0 7) x + 1)) < x) : f_M l (mG xCl D cA ad) mE yM_recordsStand (Cond.code yM_recordsStand cM_recordsStand 7 (some .boolean) :: A9) 2 σ [.ref (ad 0), .int (fI x), .int (fI w)] (f_QI (fun r σ1 => m_scf σ σ1 ∧ ((∃ j : Nat, j < w.toNat ∧ (∀ i, i < j → p_rok (σ.2 7) (σ.1 0 7) x (p_ln (σ.2 7) (σ.1 0 7) i (p_eol (σ.2 7) (σ.1 0 7) x + 1))) ∧ ¬ p_rok (σ.2 7) (σ.1 0 7) x (p_ln (σ.2 7) (σ.1 0 7) j (p_eol (σ.2 7) (σ.1 0 7) x + 1)) ∧ r = 0 ∧ σ1.1 0 23 = p_rpv (σ.2 7) (σ.1 0 7) (p_ln (σ.2 7) (σ.1 0 7) j (p_eol (σ.2 7) (σ.1 0 7) x + 1))) ∨ ((∀ i, i < w.toNat → p_rok (σ.2 7) (σ.1 0 7) x (p_ln (σ.2 7) (σ.1 0 7) i (p_eol (σ.2 7) (σ.1 0 7) x + 1))) ∧ r = 1))) (mG xCl D cA ad)) := by
  refine f_enter (by decide +kernel) hJ rfl (Nat.le_of_ble_eq_true rfl) ?_
  intro z hzl hR C hRt hLk hEz
  subst hzl
  have L : ∀ (m k : Nat) (S : fS), m + k = w.toNat → m_scr σ S → (∀ i, i < k → p_rok (σ.2 7) (σ.1 0 7) x (p_ln (σ.2 7) (σ.1 0 7) i (p_eol (σ.2 7) (σ.1 0 7) x + 1))) → fv z (mG xCl D cA ad) 7 (f_R z (mG xCl D cA ad) (f_QI (fun r σ1 => m_scf σ σ1 ∧ ((∃ j : Nat, j < w.toNat ∧ (∀ i, i < j → p_rok (σ.2 7) (σ.1 0 7) x (p_ln (σ.2 7) (σ.1 0 7) i (p_eol (σ.2 7) (σ.1 0 7) x + 1))) ∧ ¬ p_rok (σ.2 7) (σ.1 0 7) x (p_ln (σ.2 7) (σ.1 0 7) j (p_eol (σ.2 7) (σ.1 0 7) x + 1)) ∧ r = 0 ∧ σ1.1 0 23 = p_rpv (σ.2 7) (σ.1 0 7) (p_ln (σ.2 7) (σ.1 0 7) j (p_eol (σ.2 7) (σ.1 0 7) x + 1))) ∨ ((∀ i, i < w.toNat → p_rok (σ.2 7) (σ.1 0 7) x (p_ln (σ.2 7) (σ.1 0 7) i (p_eol (σ.2 7) (σ.1 0 7) x + 1))) ∧ r = 1))) (mG xCl D cA ad))) 0 0 S 16 [some (.ref (ad 0)), some (.int (fI x)), some (.int (fI w)), some (.int (fI (p_ln (σ.2 7) (σ.1 0 7) k (p_eol (σ.2 7) (σ.1 0 7) x + 1)))), some (.int (fI (k : Int))), none, none] [] := by
    intro m
    induction m with
    | zero =>
      intro k S hk hs hall
      refine v_iload C dM_recordsStand_16 rfl ?_
      refine v_iload_n C dM_recordsStand_18 rfl rfl ?_
      refine v_icmp_ge (tgt := 80) C dM_recordsStand_19 (by decide) (by omega) (by omega) (fun hc1 => ?_) (fun hc1 => ?_)
      · refine v_iconst C dM_recordsStand_80 ?_
        exact v_zret C hRt hLk dM_recordsStand_81 (fN_bool (by omega)) ⟨m_scf_of hs, Or.inr ⟨fun i hi => hall i (by omega), rfl⟩⟩
      · exfalso; omega
    | succ m ih =>
      intro k S hk hs hall
      have hrow := hrows k (by omega)
      have hlk := @p_eol_le (σ.2 7) (σ.1 0 7) (p_ln (σ.2 7) (σ.1 0 7) k (p_eol (σ.2 7) (σ.1 0 7) x + 1))
      have hlt := hrow.1.1
      have hx0 := @p_eol_le (σ.2 7) (σ.1 0 7) x
      have hl0 := p_ln_0 (σ.2 7) (σ.1 0 7) k (p_eol (σ.2 7) (σ.1 0 7) x + 1) (by omega)
      refine v_iload C dM_recordsStand_16 rfl ?_
      refine v_iload_n C dM_recordsStand_18 rfl rfl ?_
      refine v_icmp_ge (tgt := 80) C dM_recordsStand_19 (by decide) (by omega) (by omega) (fun hc2 => ?_) (fun hc2 => ?_)
      · exfalso; omega
      · refine v_aload_n C dM_recordsStand_22 rfl rfl ?_
        refine v_iload_n C dM_recordsStand_23 rfl rfl ?_
        have hz3 : 0 ≤ S.1 0 7 ∧ S.1 0 7 ≤ 12000 := by rw [m_scr_z hs]; exact hz
        have hb4 : ∀ i, -128 ≤ S.2 7 i ∧ S.2 7 i ≤ 127 := fun i => by rw [m_scr_a hs]; exact h7 i
        refine v_cVI (k := 0) (n := 1) C (mE_ok _) trivial hR (kM_isRow _ xCl D cA ad hJ S (p_ln (σ.2 7) (σ.1 0 7) k (p_eol (σ.2 7) (σ.1 0 7) x + 1)) (by omega) hz3 hb4) dM_recordsStand_24 (by show (0 : Nat) < 18; decide) rfl rfl gM_172 (by decide +kernel) (by decide) (by decide) rfl (Nat.le_of_ble_eq_true rfl) rfl ⟨rfl, rfl⟩ (fun r1 τ1 hp1 => ?_)
        simp only [hs.1, m_scr_z hs] at hp1
        obtain ⟨g1_s, g1_20, ⟨g1_c, rfl, g1_26, g1_w⟩ | ⟨g1_c, rfl⟩⟩ := hp1
        · have hs1_ := m_scr_tr hs g1_s
          have g1_27 := p_rp_v g1_w
          have g1_r1 := p_rn_r (σ.2 7) (σ.1 0 7) (p_ln (σ.2 7) (σ.1 0 7) k (p_eol (σ.2 7) (σ.1 0 7) x + 1))
          have g1_r2 := p_rpv_r (σ.2 7) (σ.1 0 7) (p_ln (σ.2 7) (σ.1 0 7) k (p_eol (σ.2 7) (σ.1 0 7) x + 1))
          have g1_l := @p_eol_le (σ.2 7) (σ.1 0 7) (p_ln (σ.2 7) (σ.1 0 7) k (p_eol (σ.2 7) (σ.1 0 7) x + 1))
          refine v_istore C dM_recordsStand_27 (by decide) ?_
          refine v_aload_n C dM_recordsStand_29 rfl rfl ?_
          refine v_getI (k := 0) (q := 27) (v := p_rpv (σ.2 7) (σ.1 0 7) (p_ln (σ.2 7) (σ.1 0 7) k (p_eol (σ.2 7) (σ.1 0 7) x + 1))) C dM_recordsStand_30 (by show (0 : Nat) < 18; decide) rfl rfl (by decide) rfl inM lM_163 rfl g1_27 ?_
          refine v_istore C dM_recordsStand_33 (by decide) ?_
          refine v_aload_n C dM_recordsStand_35 rfl rfl ?_
          refine v_getI (k := 0) (q := 20) (v := p_eol (σ.2 7) (σ.1 0 7) (p_ln (σ.2 7) (σ.1 0 7) k (p_eol (σ.2 7) (σ.1 0 7) x + 1))) C dM_recordsStand_36 (by show (0 : Nat) < 18; decide) rfl rfl (by decide) rfl inM lM_144 rfl g1_20 ?_
          refine v_iconst C dM_recordsStand_39 ?_
          refine v_iadd C dM_recordsStand_40 ?_
          refine v_istore_n C dM_recordsStand_41 rfl (by decide) ?_
          refine v_iload C dM_recordsStand_42 rfl ?_
          refine v_if_eq (tgt := 74) C dM_recordsStand_44 (by decide) (by omega) (fun hc5 => ?_) (fun hc5 => ?_)
          · exfalso; omega
          · refine v_iload C dM_recordsStand_47 rfl ?_
            refine v_iconst C dM_recordsStand_49 ?_
            refine v_icmp_eq (tgt := 74) C dM_recordsStand_50 (by decide) (by omega) (by omega) (fun hc6 => ?_) (fun hc6 => ?_)
            · refine v_iinc C dM_recordsStand_74 rfl (by decide) ?_
              refine v_goto (tgt := 16) C dM_recordsStand_77 (by decide) ?_
              exact v_less (by exact ⟨rfl, rfl, rfl, rfl, rfl, trivial⟩) (ih (k + 1) τ1 (by omega) hs1_ (fun i hi => (Nat.lt_succ_iff_lt_or_eq.mp hi).elim (fun h => hall i h) (fun h => by rw [h]; first | exact Or.inl (by omega) | exact Or.inr nope)))
            · refine v_aload_n C dM_recordsStand_53 rfl rfl ?_
              refine v_iload C dM_recordsStand_54 rfl ?_
              refine v_aload_n C dM_recordsStand_56 rfl rfl ?_
              refine v_getI (k := 0) (q := 26) (v := p_rn (σ.2 7) (σ.1 0 7) (p_ln (σ.2 7) (σ.1 0 7) k (p_eol (σ.2 7) (σ.1 0 7) x + 1))) C dM_recordsStand_57 (by show (0 : Nat) < 18; decide) rfl rfl (by decide) rfl inM lM_113 rfl g1_26 ?_
              refine v_iload_n C dM_recordsStand_60 rfl rfl ?_
              have hz7 : 0 ≤ τ1.1 0 7 ∧ τ1.1 0 7 ≤ 12000 := by rw [m_scr_z hs1_]; exact hz
              have hb8 : ∀ i, -128 ≤ τ1.2 7 i ∧ τ1.2 7 i ≤ 127 := fun i => by rw [m_scr_a hs1_]; exact h7 i
              refine v_cVI (k := 0) (n := 3) C (mE_ok _) trivial hR (kM_isRecord _ xCl D cA ad hJ τ1 (p_rpv (σ.2 7) (σ.1 0 7) (p_ln (σ.2 7) (σ.1 0 7) k (p_eol (σ.2 7) (σ.1 0 7) x + 1))) (p_rn (σ.2 7) (σ.1 0 7) (p_ln (σ.2 7) (σ.1 0 7) k (p_eol (σ.2 7) (σ.1 0 7) x + 1))) (x) (by omega) (by omega) (by omega) (by omega) hz7 hb8) dM_recordsStand_61 (by show (0 : Nat) < 18; decide) rfl rfl gM_181 (by decide +kernel) (by decide) (by decide) rfl (Nat.le_of_ble_eq_true rfl) rfl ⟨rfl, rfl⟩ (fun r2 τ2 hp2 => ?_)
              simp only [hs1_.1, m_scr_z hs1_, g1_20, g1_26, g1_27] at hp2
              obtain ⟨g2_s, ⟨g2_c, rfl, g2_26, g2_27⟩ | ⟨g2_c, rfl⟩⟩ := hp2
              · have hs2_ := m_scr_tr hs1_ g2_s
                refine v_if_ne (tgt := 74) C dM_recordsStand_64 (by decide) (by omega) (fun hc9 => ?_) (fun hc9 => ?_)
                · refine v_iinc C dM_recordsStand_74 rfl (by decide) ?_
                  refine v_goto (tgt := 16) C dM_recordsStand_77 (by decide) ?_
                  exact v_less (by exact ⟨rfl, rfl, rfl, rfl, rfl, trivial⟩) (ih (k + 1) τ2 (by omega) hs2_ (fun i hi => (Nat.lt_succ_iff_lt_or_eq.mp hi).elim (fun h => hall i h) (fun h => by rw [h]; first | exact Or.inl (by omega) | exact Or.inr g2_c)))
                · exfalso; omega
              · have hs2_ := m_scr_tr hs1_ g2_s
                refine v_if_ne (tgt := 74) C dM_recordsStand_64 (by decide) (by omega) (fun hc10 => ?_) (fun hc10 => ?_)
                · exfalso; omega
                · refine v_aload_n C dM_recordsStand_67 rfl rfl ?_
                  refine v_iload C dM_recordsStand_68 rfl ?_
                  refine v_cVI (k := 0) (n := 1) C (mE_ok _) trivial hR (kM_wrong _ xCl D cA ad hJ τ2 (p_rpv (σ.2 7) (σ.1 0 7) (p_ln (σ.2 7) (σ.1 0 7) k (p_eol (σ.2 7) (σ.1 0 7) x + 1)))) dM_recordsStand_70 (by show (0 : Nat) < 18; decide) rfl rfl gM_185 (by decide +kernel) (by decide) (by decide) rfl (Nat.le_of_ble_eq_true rfl) rfl ⟨rfl, rfl⟩ (fun r3 τ3 hp3 => ?_)
                  obtain ⟨rfl, hw3⟩ := hp3
                  subst τ3
                  · exact v_zret C hRt hLk dM_recordsStand_73 (fN_bool (by omega)) ⟨m_scf_p (m_scf_of hs2_) _, Or.inl ⟨k, by omega, hall, fun h9 => h9.elim (fun h => absurd h (by omega)) g2_c, rfl, rfl⟩⟩
        · have hs1_ := m_scr_tr hs g1_s
          exact absurd hrow.1 g1_c
  refine v_aload_n C dM_recordsStand_0 rfl rfl ?_
  refine v_iload_n C dM_recordsStand_1 rfl rfl ?_
  refine v_cVI (k := 0) (n := 1) C (mE_ok _) trivial hR (kM_line2 _ xCl D cA ad hJ σ (x) (by omega) hz h7) dM_recordsStand_2 (by show (0 : Nat) < 18; decide) rfl rfl gM_150 (by decide +kernel) (by decide) (by decide) rfl (Nat.le_of_ble_eq_true rfl) rfl ⟨rfl, rfl⟩ (fun r4 τ4 hp4 => ?_)
  obtain ⟨g4_s, g4_21, g4_20, g4_22, g4_26, g4_27, ⟨g4_c, rfl⟩ | ⟨g4_c, rfl⟩⟩ := hp4
  · have hs4_ := g4_s
    have g4_l := @p_eol_le (σ.2 7) (σ.1 0 7) (x)
    refine v_pop C dM_recordsStand_5 rfl ?_
    refine v_aload_n C dM_recordsStand_6 rfl rfl ?_
    refine v_getI (k := 0) (q := 20) (v := p_eol (σ.2 7) (σ.1 0 7) (x)) C dM_recordsStand_7 (by show (0 : Nat) < 18; decide) rfl rfl (by decide) rfl inM lM_144 rfl g4_20 ?_
    refine v_iconst C dM_recordsStand_10 ?_
    refine v_iadd C dM_recordsStand_11 ?_
    refine v_istore_n C dM_recordsStand_12 rfl (by decide) ?_
    refine v_iconst C dM_recordsStand_13 ?_
    refine v_istore C dM_recordsStand_14 (by decide) ?_
    exact v_less (by exact ⟨rfl, rfl, rfl, rfl, rfl, trivial⟩) (L w.toNat 0 τ4 (by omega) hs4_ (fun i hi => absurd hi (Nat.not_lt_zero i)))
  · have hs4_ := g4_s
    have g4_l := @p_eol_le (σ.2 7) (σ.1 0 7) (x)
    refine v_pop C dM_recordsStand_5 rfl ?_
    refine v_aload_n C dM_recordsStand_6 rfl rfl ?_
    refine v_getI (k := 0) (q := 20) (v := p_eol (σ.2 7) (σ.1 0 7) (x)) C dM_recordsStand_7 (by show (0 : Nat) < 18; decide) rfl rfl (by decide) rfl inM lM_144 rfl g4_20 ?_
    refine v_iconst C dM_recordsStand_10 ?_
    refine v_iadd C dM_recordsStand_11 ?_
    refine v_istore_n C dM_recordsStand_12 rfl (by decide) ?_
    refine v_iconst C dM_recordsStand_13 ?_
    refine v_istore C dM_recordsStand_14 (by decide) ?_
    exact v_less (by exact ⟨rfl, rfl, rfl, rfl, rfl, trivial⟩) (L w.toNat 0 τ4 (by omega) hs4_ (fun i hi => absurd hi (Nat.not_lt_zero i)))
