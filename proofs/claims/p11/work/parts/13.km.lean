/-- where the last line begins -/
def lastF (f : Nat → Int) : Nat → Int → Int
  | 0, p => p
  | k + 1, p => if f (p - 1).toNat = 10 then p else lastF f k (p - 1)
def p_lst (f : Nat → Int) (z : Int) : Int := lastF f (z - 1).toNat (z - 1)
theorem lastF_le (f : Nat → Int) : ∀ (k : Nat) (p : Int), p - k ≤ lastF f k p ∧ lastF f k p ≤ p := by
  intro k
  induction k with
  | zero => intro p; show p - 0 ≤ p ∧ p ≤ p; omega
  | succ k ih =>
    intro p
    have h := ih (p - 1)
    unfold lastF
    split <;> omega
def p_first (f : Nat → Int) (z : Int) : Prop := p_eol f z 0 < z ∧ (0 < p_eol f z 0 ∧ f (0 : Int).toNat = 37) ∧ (0 + 1 < p_eol f z 0 ∧ f (0 + 1 : Int).toNat = 70) ∧ (0 + 2 < p_eol f z 0 ∧ f (0 + 2 : Int).toNat = 49) ∧ 0 + 3 = p_eol f z 0
def p_x0 (f : Nat → Int) (z : Int) : Int := p_tv f z (p_lst f z)
/-- the places of the x of the PARTS, from the last one on -/
def p_ch (f : Nat → Int) (z : Int) : Nat → Int
  | 0 => p_x0 f z
  | i + 1 => p_tv f z (p_pl f z (p_ch f z i))
def p_file (f : Nat → Int) (z r fl pts : Int) (xs : Nat → Int) : Prop :=
  (¬ p_first f z ∧ r = 0 ∧ fl = 0) ∨ (p_first f z ∧ ((f (z - 1).toNat ≠ 10 ∧ r = 0 ∧ fl = z) ∨ (f (z - 1).toNat = 10 ∧
  ((¬ (p_tell f z (p_lst f z) 101 ∧ p_x0 f z < p_lst f z) ∧ r = 0 ∧ fl = p_lst f z) ∨ ((p_tell f z (p_lst f z) 101 ∧ p_x0 f z < p_lst f z) ∧
  ∃ j : Nat, j ≤ 59 ∧ (∀ i, i < j → (∃ g, p_look f z (p_ch f z i) (i + 1) (p_ch f z (i + 1)) g) ∧ 0 < p_ch f z (i + 1)) ∧
  ((p_look f z (p_ch f z j) (j + 1) (-1) fl ∧ r = 0) ∨ ((∃ g, p_look f z (p_ch f z j) (j + 1) 0 g) ∧ r = 1 ∧ pts = j + 1 ∧ ∀ i, i ≤ j → xs i = p_ch f z i)))))))
theorem p_look_r {f : Nat → Int} {z x pt r fl : Int} (h : p_look f z x pt r fl) : r = -1 ∨ (r = p_tv f z (p_pl f z x) ∧ p_pok f z x pt) := by
  rcases h with ⟨_, h, _⟩ | ⟨_, h⟩
  · exact Or.inl h
  rcases h with ⟨_, _, _, _, h, _⟩ | ⟨_, h⟩
  · exact Or.inl h
  rcases h with ⟨_, h, _⟩ | ⟨hp, h⟩
  · exact Or.inl h
  rcases h with ⟨_, h, _⟩ | ⟨_, h⟩
  · exact Or.inl h
  rcases h with ⟨_, _, h, _⟩ | ⟨_, h⟩
  · exact Or.inl h
  rcases h with ⟨_, _, _, _, h, _⟩ | ⟨_, h⟩
  · exact Or.inl h
  · exact Or.inr ⟨h, hp⟩
/-- the state but for what is used while a file is read: also the PARTS and their places -/
def m_scx (σ σ1 : fS) : Prop := (∀ k i, k ≠ 15 → σ1.2 k i = σ.2 k i) ∧ ∀ a b, ¬ (a = 0 ∧ (b = 20 ∨ b = 21 ∨ b = 22 ∨ b = 23 ∨ b = 24 ∨ b = 26 ∨ b = 27)) → σ1.1 a b = σ.1 a b
theorem m_scx_of {σ σ1 : fS} (h : m_scf σ σ1) : m_scx σ σ1 := ⟨fun k i _ => by rw [h.1], fun a b hab => h.2 a b (fun q => hab ⟨q.1, by omega⟩)⟩
theorem m_scx_tr {σ τ υ : fS} (h1 : m_scx σ τ) (h2 : m_scx τ υ) : m_scx σ υ := ⟨fun k i h => (h2.1 k i h).trans (h1.1 k i h), fun a b h => (h2.2 a b h).trans (h1.2 a b h)⟩
theorem m_scx_24 {σ τ : fS} (h : m_scx σ τ) (v : Int) : m_scx σ (f_p1 τ 0 24 v) := by
  refine ⟨h.1, fun a b hab => ?_⟩
  rw [p1_1, if_neg (by
    intro h9
    exact hab ⟨h9.1, by omega⟩)]
  exact h.2 a b hab
theorem m_scx_15 {σ τ : fS} (h : m_scx σ τ) (q : Nat) (v : Int) : m_scx σ (f_p2 τ 15 q v) := by
  refine ⟨fun k i hk => ?_, h.2⟩
  rw [p2_2, if_neg (by intro h9; exact hk h9.1)]
  exact h.1 k i hk
theorem m_scx_f {σ σ1 : fS} (h : m_scx σ σ1) : σ1.2 7 = σ.2 7 := funext fun i => h.1 7 i (by decide)
theorem m_scx_z {σ σ1 : fS} (h : m_scx σ σ1) : σ1.1 0 7 = σ.1 0 7 := h.2 0 7 (by decide)
set_option maxRecDepth 100000 in
set_option maxHeartbeats 4000000 in
/-- isFile() -/
theorem kM_isFile (l : Launch) (xCl : List vw_C) (D : va_G) (cA : Nat → ClassId) (ad : Nat → Nat) (hJ : f_J (mG xCl D cA ad)) (σ : fS) (hz : 0 ≤ σ.1 0 7 ∧ σ.1 0 7 ≤ 12000) (h7 : ∀ i, -128 ≤ σ.2 7 i ∧ σ.2 7 i ≤ 127) : f_M l (mG xCl D cA ad) mE yM_isFile (Cond.code yM_isFile cM_isFile 4 (some .boolean) :: A9) 4 σ [.ref (ad 0)] (f_QI (fun r σ1 => m_scx σ σ1 ∧ p_file (σ.2 7) (σ.1 0 7) r (σ1.1 0 23) (σ1.1 0 24) (σ1.2 15)) (mG xCl D cA ad)) := by
  refine f_enter (by decide +kernel) hJ rfl (Nat.le_of_ble_eq_true rfl) ?_
  intro z hzl hR C hRt hLk hEz
  subst hzl
  have hll := lastF_le (σ.2 7) (σ.1 0 7 - 1).toNat (σ.1 0 7 - 1)
  change σ.1 0 7 - 1 - ((σ.1 0 7 - 1).toNat : Int) ≤ p_lst (σ.2 7) (σ.1 0 7) ∧ p_lst (σ.2 7) (σ.1 0 7) ≤ σ.1 0 7 - 1 at hll
  have L : p_first (σ.2 7) (σ.1 0 7) → σ.2 7 (σ.1 0 7 - 1).toNat = 10 → (p_tell (σ.2 7) (σ.1 0 7) (p_lst (σ.2 7) (σ.1 0 7)) 101 ∧ p_x0 (σ.2 7) (σ.1 0 7) < p_lst (σ.2 7) (σ.1 0 7)) → ∀ (n i : Nat) (S : fS), (p_ch (σ.2 7) (σ.1 0 7) i).toNat < n → 0 ≤ p_ch (σ.2 7) (σ.1 0 7) i → p_ch (σ.2 7) (σ.1 0 7) i ≤ 11999 → i ≤ 59 → m_scx σ S → S.1 0 24 = (i : Int) → (∀ t, t < i → S.2 15 t = p_ch (σ.2 7) (σ.1 0 7) t) → (∀ t, t < i → (∃ g, p_look (σ.2 7) (σ.1 0 7) (p_ch (σ.2 7) (σ.1 0 7) t) (t + 1) (p_ch (σ.2 7) (σ.1 0 7) (t + 1)) g) ∧ 0 < p_ch (σ.2 7) (σ.1 0 7) (t + 1)) → fv z (mG xCl D cA ad) 4 (f_R z (mG xCl D cA ad) (f_QI (fun r σ1 => m_scx σ σ1 ∧ p_file (σ.2 7) (σ.1 0 7) r (σ1.1 0 23) (σ1.1 0 24) (σ1.2 15)) (mG xCl D cA ad))) 0 0 S 139 [some (.ref (ad 0)), some (.int (fI (p_lst (σ.2 7) (σ.1 0 7)))), some (.int (fI (p_ch (σ.2 7) (σ.1 0 7) i))), some (.int (fI 1))] [] := by
    intro hF1 hF2 hF3 n
    induction n with
    | zero => intro i S h; exact absurd h (Nat.not_lt_zero _)
    | succ n ih =>
      intro i S hn hc0 hc1 hi hS hS24 hxs hlk
      refine v_iload_n C dM_isFile_139 rfl rfl ?_
      refine v_if_eq (tgt := 189) C dM_isFile_140 (by decide) (by omega) (fun hc1 => ?_) (fun hc1 => ?_)
      · exfalso; omega
      · refine v_aload_n C dM_isFile_143 rfl rfl ?_
        refine v_getR (k := 0) (q := 25) C dM_isFile_144 (by show (0 : Nat) < 18; decide) rfl rfl (by decide) rfl inM lM_54 rfl ?_
        refine v_aload_n C dM_isFile_147 rfl rfl ?_
        refine v_getI (k := 0) (q := 24) (v := (i : Int)) C dM_isFile_148 (by show (0 : Nat) < 18; decide) rfl rfl (by decide) rfl inM lM_175 rfl hS24 ?_
        refine v_iload_n C dM_isFile_151 rfl rfl ?_
        refine v_iast (k := 15) C dM_isFile_152 (by show (15 : Nat) < 18; decide) rfl rfl (by omega) (by decide) ?_
        refine v_aload_n C dM_isFile_153 rfl rfl ?_
        refine v_dup C dM_isFile_154 rfl ?_
        refine v_getI (k := 0) (q := 24) (v := (i : Int)) C dM_isFile_155 (by show (0 : Nat) < 18; decide) rfl rfl (by decide) rfl inM lM_175 rfl hS24 ?_
        refine v_iconst C dM_isFile_158 ?_
        refine v_iadd C dM_isFile_159 ?_
        refine v_putI (k := 0) (q := 24) C dM_isFile_160 (by show (0 : Nat) < 18; decide) rfl rfl (by decide) rfl inM tyM_ok nmM lM_175 rfl rfl rfl rfl rfl ?_
        obtain ⟨υ, hυ⟩ : ∃ s, s = f_p1 (f_p2 S 15 ((i : Int)).toNat (p_ch (σ.2 7) (σ.1 0 7) i)) 0 24 ((i : Int) + 1) := ⟨_, rfl⟩
        refine v_st hυ.symm ?_
        have hυx : m_scx σ υ := by rw [hυ]; exact m_scx_24 (m_scx_15 hS _ _) _
        have hυ24 : υ.1 0 24 = (i : Int) + 1 := by rw [hυ]; rfl
        have hυ15 : ∀ t, t ≤ i → υ.2 15 t = p_ch (σ.2 7) (σ.1 0 7) t := by
          intro t ht
          rw [hυ, p1_2, p2_2]
          by_cases h9 : t = i
          · rw [if_pos (by omega), h9]
          · rw [if_neg (by omega)]; exact hxs t (by omega)
        refine v_aload_n C dM_isFile_163 rfl rfl ?_
        refine v_iload_n C dM_isFile_164 rfl rfl ?_
        refine v_cVI (k := 0) (n := 1) C (mE_ok _) trivial hR (kM_lookAt _ xCl D cA ad hJ υ ((p_ch (σ.2 7) (σ.1 0 7) i)) (by omega) (by rw [m_scx_z hυx]; exact hz) (by rw [hυ24]; omega) (fun i => by rw [m_scx_f hυx]; exact h7 i)) dM_isFile_165 (by show (0 : Nat) < 18; decide) rfl rfl gM_188 (by decide +kernel) (by decide) (by decide) rfl (Nat.le_of_ble_eq_true rfl) rfl ⟨rfl, rfl⟩ (fun r1 τ1 hp1 => ?_)
        obtain ⟨g1_s, g1_p⟩ := hp1
        rw [m_scx_f hυx, m_scx_z hυx, hυ24] at g1_p
        have g1_r := p_look_r g1_p
        have g1_x := m_scx_tr hυx (m_scx_of g1_s)
        have g1_24 : τ1.1 0 24 = (i : Int) + 1 := by rw [g1_s.2 0 24 (by decide)]; exact hυ24
        have g1_15 : τ1.2 15 = υ.2 15 := by rw [g1_s.1]
        · refine v_istore_n C dM_isFile_168 rfl (by decide) ?_
          have g1_b : -1 ≤ r1 ∧ r1 ≤ 99999 := by rcases g1_r with h | h; (· omega); (· have := p_num_v (σ.2 7) (p_eol (σ.2 7) (σ.1 0 7) (p_pl (σ.2 7) (σ.1 0 7) (p_ch (σ.2 7) (σ.1 0 7) i))) (p_pl (σ.2 7) (σ.1 0 7) (p_ch (σ.2 7) (σ.1 0 7) i) + 2); rw [h.1]; unfold p_tv; omega)
          refine v_iload_n C dM_isFile_169 rfl rfl ?_
          refine v_iconst C dM_isFile_170 ?_
          refine v_icmp_ne (tgt := 176) C dM_isFile_171 (by decide) (by omega) (by omega) (fun hc2 => ?_) (fun hc2 => ?_)
          · have g1_q := g1_r.resolve_left (by omega)
            have g1_v : r1 = p_ch (σ.2 7) (σ.1 0 7) (i + 1) := g1_q.1
            have g1_k := g1_q.2
            have g1_k1 := g1_k.2.1
            have g1_k2 := g1_k.2.2
            change p_ch (σ.2 7) (σ.1 0 7) (i + 1) < p_ch (σ.2 7) (σ.1 0 7) i at g1_k1
            change ¬ (0 < p_ch (σ.2 7) (σ.1 0 7) (i + 1) ∧ ((i : Int) + 1) = 60) at g1_k2
            refine v_iload_n C dM_isFile_176 rfl rfl ?_
            refine v_if_le (tgt := 184) C dM_isFile_177 (by decide) (by omega) (fun hc3 => ?_) (fun hc3 => ?_)
            · refine v_iconst C dM_isFile_184 ?_
              refine v_istore_n C dM_isFile_185 rfl (by decide) ?_
              refine v_goto (tgt := 139) C dM_isFile_186 (by decide) ?_
              refine v_iload_n C dM_isFile_139 rfl rfl ?_
              refine v_if_eq (tgt := 189) C dM_isFile_140 (by decide) (by omega) (fun hc4 => ?_) (fun hc4 => ?_)
              · refine v_iconst C dM_isFile_189 ?_
                exact v_zret C hRt hLk dM_isFile_190 (fN_bool (by omega)) ⟨g1_x, Or.inr ⟨hF1, Or.inr ⟨hF2, Or.inr ⟨hF3, i, hi, hlk, Or.inr ⟨⟨_, by rw [show (0 : Int) = r1 by omega]; exact g1_p⟩, rfl, g1_24, fun t ht => by rw [g1_15]; exact hυ15 t ht⟩⟩⟩⟩⟩
              · exfalso; omega
            · refine v_iconst C dM_isFile_180 ?_
              refine v_goto (tgt := 185) C dM_isFile_181 (by decide) ?_
              refine v_istore_n C dM_isFile_185 rfl (by decide) ?_
              refine v_goto (tgt := 139) C dM_isFile_186 (by decide) ?_
              exact v_lv (by rw [g1_v]; rfl) (ih (i + 1) τ1 (by rw [← g1_v]; omega) (by omega) (by omega) (by omega) g1_x (by rw [g1_24]; push_cast; rfl) (fun t ht => by rw [g1_15]; exact hυ15 t (by omega)) (fun t ht => (Nat.lt_succ_iff_lt_or_eq.mp ht).elim (fun h => hlk t h) (fun h => by rw [h]; exact ⟨⟨_, by rw [← g1_v]; exact g1_p⟩, by omega⟩)))
          · refine v_iconst C dM_isFile_174 ?_
            exact v_zret C hRt hLk dM_isFile_175 (fN_bool (by omega)) ⟨g1_x, Or.inr ⟨hF1, Or.inr ⟨hF2, Or.inr ⟨hF3, i, hi, hlk, Or.inl ⟨by rw [show (-1 : Int) = r1 by omega]; exact g1_p, rfl⟩⟩⟩⟩⟩
  have LL : p_first (σ.2 7) (σ.1 0 7) → σ.2 7 (σ.1 0 7 - 1).toNat = 10 → ∀ (k : Nat) (p : Int) (S : fS), p.toNat = k → 0 ≤ p → p ≤ σ.1 0 7 - 1 → lastF (σ.2 7) k p = p_lst (σ.2 7) (σ.1 0 7) → m_scr σ S → fv z (mG xCl D cA ad) 4 (f_R z (mG xCl D cA ad) (f_QI (fun r σ1 => m_scx σ σ1 ∧ p_file (σ.2 7) (σ.1 0 7) r (σ1.1 0 23) (σ1.1 0 24) (σ1.2 15)) (mG xCl D cA ad))) 0 0 S 80 [some (.ref (ad 0)), some (.int (fI p)), none, none] [] := by
    intro hF1 hF2 k
    induction k with
    | zero =>
      intro p S hk hp0 hp1 hE hs
      have hbp := h7 (p - 1).toNat
      have hE1 : p = p_lst (σ.2 7) (σ.1 0 7) := hE
      refine v_iload_n C dM_isFile_80 rfl rfl ?_
      refine v_if_le (tgt := 103) C dM_isFile_81 (by decide) (by omega) (fun hc5 => ?_) (fun hc5 => ?_)
      · have hpe : p = p_lst (σ.2 7) (σ.1 0 7) := by first | exact hE1 | exact hE2.elim (fun h => h.2) (fun h => absurd (by omega) h.1)
        subst hpe
        refine v_aload_n C dM_isFile_103 rfl rfl ?_
        refine v_iload_n C dM_isFile_104 rfl rfl ?_
        refine v_bipush C dM_isFile_105 (by decide +kernel) ?_
        have hz6 : 0 ≤ S.1 0 7 ∧ S.1 0 7 ≤ 12000 := by rw [m_scr_z hs]; exact hz
        have hb7 : ∀ i, -128 ≤ S.2 7 i ∧ S.2 7 i ≤ 127 := fun i => by rw [m_scr_a hs]; exact h7 i
        refine v_cVI (k := 0) (n := 2) C (mE_ok _) trivial hR (kM_tells _ xCl D cA ad hJ S ((p_lst (σ.2 7) (σ.1 0 7))) (101) (by omega) (by omega) hz6 hb7) dM_isFile_107 (by show (0 : Nat) < 18; decide) rfl rfl gM_169 (by decide +kernel) (by decide) (by decide) rfl (Nat.le_of_ble_eq_true rfl) rfl ⟨rfl, rfl⟩ (fun r2 τ2 hp2 => ?_)
        simp only [hs.1, m_scr_z hs] at hp2
        obtain ⟨g2_s, g2_x, g2_y, ⟨g2_c, rfl, g2_20, g2_22⟩ | ⟨g2_c, rfl⟩⟩ := hp2
        · have hs2_ := m_scr_tr hs g2_s
          have g2_e := g2_c.1
          have g2_l := @p_eol_le (σ.2 7) (σ.1 0 7) ((p_lst (σ.2 7) (σ.1 0 7)))
          have g2_v := p_num_v (σ.2 7) (p_eol (σ.2 7) (σ.1 0 7) ((p_lst (σ.2 7) (σ.1 0 7)))) ((p_lst (σ.2 7) (σ.1 0 7)) + 2)
          change 0 ≤ p_tv (σ.2 7) (σ.1 0 7) ((p_lst (σ.2 7) (σ.1 0 7))) ∧ p_tv (σ.2 7) (σ.1 0 7) ((p_lst (σ.2 7) (σ.1 0 7))) ≤ 99999 at g2_v
          refine v_if_eq (tgt := 121) C dM_isFile_110 (by decide) (by omega) (fun hc8 => ?_) (fun hc8 => ?_)
          · exfalso; omega
          · refine v_aload_n C dM_isFile_113 rfl rfl ?_
            refine v_getI (k := 0) (q := 22) (v := p_tv (σ.2 7) (σ.1 0 7) ((p_lst (σ.2 7) (σ.1 0 7)))) C dM_isFile_114 (by show (0 : Nat) < 18; decide) rfl rfl (by decide) rfl inM lM_147 rfl g2_22 ?_
            refine v_iload_n C dM_isFile_117 rfl rfl ?_
            refine v_icmp_lt (tgt := 127) C dM_isFile_118 (by decide) (by omega) (by omega) (fun hc9 => ?_) (fun hc9 => ?_)
            · refine v_aload_n C dM_isFile_127 rfl rfl ?_
              refine v_getI (k := 0) (q := 22) (v := p_tv (σ.2 7) (σ.1 0 7) ((p_lst (σ.2 7) (σ.1 0 7)))) C dM_isFile_128 (by show (0 : Nat) < 18; decide) rfl rfl (by decide) rfl inM lM_147 rfl g2_22 ?_
              refine v_istore_n C dM_isFile_131 rfl (by decide) ?_
              refine v_aload_n C dM_isFile_132 rfl rfl ?_
              refine v_iconst C dM_isFile_133 ?_
              refine v_putI (k := 0) (q := 24) C dM_isFile_134 (by show (0 : Nat) < 18; decide) rfl rfl (by decide) rfl inM tyM_ok nmM lM_175 rfl rfl rfl rfl rfl ?_
              refine v_iconst C dM_isFile_137 ?_
              refine v_istore_n C dM_isFile_138 rfl (by decide) ?_
              exact L hF1 hF2 ⟨g2_c, by unfold p_x0; omega⟩ ((p_x0 (σ.2 7) (σ.1 0 7)).toNat + 1) 0 _ (by show (p_x0 (σ.2 7) (σ.1 0 7)).toNat < _; omega) (by show 0 ≤ p_x0 (σ.2 7) (σ.1 0 7); unfold p_x0; omega) (by show p_x0 (σ.2 7) (σ.1 0 7) ≤ 11999; unfold p_x0; omega) (by omega) (m_scx_24 (m_scx_of (m_scf_of hs2_)) 0) rfl (fun t ht => absurd ht (Nat.not_lt_zero t)) (fun t ht => absurd ht (Nat.not_lt_zero t))
            · refine v_aload_n C dM_isFile_121 rfl rfl ?_
              refine v_iload_n C dM_isFile_122 rfl rfl ?_
              refine v_cVI (k := 0) (n := 1) C (mE_ok _) trivial hR (kM_wrong _ xCl D cA ad hJ τ2 ((p_lst (σ.2 7) (σ.1 0 7)))) dM_isFile_123 (by show (0 : Nat) < 18; decide) rfl rfl gM_185 (by decide +kernel) (by decide) (by decide) rfl (Nat.le_of_ble_eq_true rfl) rfl ⟨rfl, rfl⟩ (fun r3 τ3 hp3 => ?_)
              obtain ⟨rfl, hw3⟩ := hp3
              subst τ3
              · exact v_zret C hRt hLk dM_isFile_126 (fN_bool (by omega)) ⟨m_scx_of (m_scf_p (m_scf_of hs2_) _), Or.inr ⟨hF1, Or.inr ⟨hF2, Or.inl ⟨fun h9 => by first | exact g2_c h9.1 | (have h91 := h9.2; unfold p_x0 at h91; omega), rfl, rfl⟩⟩⟩⟩
        · have hs2_ := m_scr_tr hs g2_s
          refine v_if_eq (tgt := 121) C dM_isFile_110 (by decide) (by omega) (fun hc10 => ?_) (fun hc10 => ?_)
          · refine v_aload_n C dM_isFile_121 rfl rfl ?_
            refine v_iload_n C dM_isFile_122 rfl rfl ?_
            refine v_cVI (k := 0) (n := 1) C (mE_ok _) trivial hR (kM_wrong _ xCl D cA ad hJ τ2 ((p_lst (σ.2 7) (σ.1 0 7)))) dM_isFile_123 (by show (0 : Nat) < 18; decide) rfl rfl gM_185 (by decide +kernel) (by decide) (by decide) rfl (Nat.le_of_ble_eq_true rfl) rfl ⟨rfl, rfl⟩ (fun r4 τ4 hp4 => ?_)
            obtain ⟨rfl, hw4⟩ := hp4
            subst τ4
            · exact v_zret C hRt hLk dM_isFile_126 (fN_bool (by omega)) ⟨m_scx_of (m_scf_p (m_scf_of hs2_) _), Or.inr ⟨hF1, Or.inr ⟨hF2, Or.inl ⟨fun h9 => by first | exact g2_c h9.1 | (have h91 := h9.2; unfold p_x0 at h91; omega), rfl, rfl⟩⟩⟩⟩
          · exfalso; omega
      · exfalso; omega
    | succ k ih =>
      intro p S hk hp0 hp1 hE hs
      have hbp := h7 (p - 1).toNat
      unfold lastF at hE
      have hE2 : (σ.2 7 (p - 1).toNat = 10 ∧ p = p_lst (σ.2 7) (σ.1 0 7)) ∨ (¬ σ.2 7 (p - 1).toNat = 10 ∧ lastF (σ.2 7) k (p - 1) = p_lst (σ.2 7) (σ.1 0 7)) := by
        by_cases h9 : σ.2 7 (p - 1).toNat = 10
        · rw [if_pos h9] at hE; exact Or.inl ⟨h9, hE⟩
        · rw [if_neg h9] at hE; exact Or.inr ⟨h9, hE⟩
      refine v_iload_n C dM_isFile_80 rfl rfl ?_
      refine v_if_le (tgt := 103) C dM_isFile_81 (by decide) (by omega) (fun hc11 => ?_) (fun hc11 => ?_)
      · exfalso; omega
      · refine v_aload_n C dM_isFile_84 rfl rfl ?_
        refine v_getR (k := 0) (q := 8) C dM_isFile_85 (by show (0 : Nat) < 18; decide) rfl rfl (by decide) rfl inM lM_30 rfl ?_
        refine v_iload_n C dM_isFile_88 rfl rfl ?_
        refine v_iconst C dM_isFile_89 ?_
        refine v_isub C dM_isFile_90 ?_
        refine v_bald (k := 7) (v := σ.2 7 ((p - 1)).toNat) C dM_isFile_91 (by show (7 : Nat) < 18; decide) rfl rfl (by omega) (by decide) (m_scr_a hs _ _) ?_
        refine v_bipush C dM_isFile_92 (by decide +kernel) ?_
        refine v_icmp_eq (tgt := 103) C dM_isFile_94 (by decide) (by omega) (by omega) (fun hc12 => ?_) (fun hc12 => ?_)
        · have hpe : p = p_lst (σ.2 7) (σ.1 0 7) := by first | exact hE1 | exact hE2.elim (fun h => h.2) (fun h => absurd (by omega) h.1)
          subst hpe
          refine v_aload_n C dM_isFile_103 rfl rfl ?_
          refine v_iload_n C dM_isFile_104 rfl rfl ?_
          refine v_bipush C dM_isFile_105 (by decide +kernel) ?_
          have hz13 : 0 ≤ S.1 0 7 ∧ S.1 0 7 ≤ 12000 := by rw [m_scr_z hs]; exact hz
          have hb14 : ∀ i, -128 ≤ S.2 7 i ∧ S.2 7 i ≤ 127 := fun i => by rw [m_scr_a hs]; exact h7 i
          refine v_cVI (k := 0) (n := 2) C (mE_ok _) trivial hR (kM_tells _ xCl D cA ad hJ S ((p_lst (σ.2 7) (σ.1 0 7))) (101) (by omega) (by omega) hz13 hb14) dM_isFile_107 (by show (0 : Nat) < 18; decide) rfl rfl gM_169 (by decide +kernel) (by decide) (by decide) rfl (Nat.le_of_ble_eq_true rfl) rfl ⟨rfl, rfl⟩ (fun r5 τ5 hp5 => ?_)
          simp only [hs.1, m_scr_z hs] at hp5
          obtain ⟨g5_s, g5_x, g5_y, ⟨g5_c, rfl, g5_20, g5_22⟩ | ⟨g5_c, rfl⟩⟩ := hp5
          · have hs5_ := m_scr_tr hs g5_s
            have g5_e := g5_c.1
            have g5_l := @p_eol_le (σ.2 7) (σ.1 0 7) ((p_lst (σ.2 7) (σ.1 0 7)))
            have g5_v := p_num_v (σ.2 7) (p_eol (σ.2 7) (σ.1 0 7) ((p_lst (σ.2 7) (σ.1 0 7)))) ((p_lst (σ.2 7) (σ.1 0 7)) + 2)
            change 0 ≤ p_tv (σ.2 7) (σ.1 0 7) ((p_lst (σ.2 7) (σ.1 0 7))) ∧ p_tv (σ.2 7) (σ.1 0 7) ((p_lst (σ.2 7) (σ.1 0 7))) ≤ 99999 at g5_v
            refine v_if_eq (tgt := 121) C dM_isFile_110 (by decide) (by omega) (fun hc15 => ?_) (fun hc15 => ?_)
            · exfalso; omega
            · refine v_aload_n C dM_isFile_113 rfl rfl ?_
              refine v_getI (k := 0) (q := 22) (v := p_tv (σ.2 7) (σ.1 0 7) ((p_lst (σ.2 7) (σ.1 0 7)))) C dM_isFile_114 (by show (0 : Nat) < 18; decide) rfl rfl (by decide) rfl inM lM_147 rfl g5_22 ?_
              refine v_iload_n C dM_isFile_117 rfl rfl ?_
              refine v_icmp_lt (tgt := 127) C dM_isFile_118 (by decide) (by omega) (by omega) (fun hc16 => ?_) (fun hc16 => ?_)
              · refine v_aload_n C dM_isFile_127 rfl rfl ?_
                refine v_getI (k := 0) (q := 22) (v := p_tv (σ.2 7) (σ.1 0 7) ((p_lst (σ.2 7) (σ.1 0 7)))) C dM_isFile_128 (by show (0 : Nat) < 18; decide) rfl rfl (by decide) rfl inM lM_147 rfl g5_22 ?_
                refine v_istore_n C dM_isFile_131 rfl (by decide) ?_
                refine v_aload_n C dM_isFile_132 rfl rfl ?_
                refine v_iconst C dM_isFile_133 ?_
                refine v_putI (k := 0) (q := 24) C dM_isFile_134 (by show (0 : Nat) < 18; decide) rfl rfl (by decide) rfl inM tyM_ok nmM lM_175 rfl rfl rfl rfl rfl ?_
                refine v_iconst C dM_isFile_137 ?_
                refine v_istore_n C dM_isFile_138 rfl (by decide) ?_
                exact L hF1 hF2 ⟨g5_c, by unfold p_x0; omega⟩ ((p_x0 (σ.2 7) (σ.1 0 7)).toNat + 1) 0 _ (by show (p_x0 (σ.2 7) (σ.1 0 7)).toNat < _; omega) (by show 0 ≤ p_x0 (σ.2 7) (σ.1 0 7); unfold p_x0; omega) (by show p_x0 (σ.2 7) (σ.1 0 7) ≤ 11999; unfold p_x0; omega) (by omega) (m_scx_24 (m_scx_of (m_scf_of hs5_)) 0) rfl (fun t ht => absurd ht (Nat.not_lt_zero t)) (fun t ht => absurd ht (Nat.not_lt_zero t))
              · refine v_aload_n C dM_isFile_121 rfl rfl ?_
                refine v_iload_n C dM_isFile_122 rfl rfl ?_
                refine v_cVI (k := 0) (n := 1) C (mE_ok _) trivial hR (kM_wrong _ xCl D cA ad hJ τ5 ((p_lst (σ.2 7) (σ.1 0 7)))) dM_isFile_123 (by show (0 : Nat) < 18; decide) rfl rfl gM_185 (by decide +kernel) (by decide) (by decide) rfl (Nat.le_of_ble_eq_true rfl) rfl ⟨rfl, rfl⟩ (fun r6 τ6 hp6 => ?_)
                obtain ⟨rfl, hw6⟩ := hp6
                subst τ6
                · exact v_zret C hRt hLk dM_isFile_126 (fN_bool (by omega)) ⟨m_scx_of (m_scf_p (m_scf_of hs5_) _), Or.inr ⟨hF1, Or.inr ⟨hF2, Or.inl ⟨fun h9 => by first | exact g5_c h9.1 | (have h91 := h9.2; unfold p_x0 at h91; omega), rfl, rfl⟩⟩⟩⟩
          · have hs5_ := m_scr_tr hs g5_s
            refine v_if_eq (tgt := 121) C dM_isFile_110 (by decide) (by omega) (fun hc17 => ?_) (fun hc17 => ?_)
            · refine v_aload_n C dM_isFile_121 rfl rfl ?_
              refine v_iload_n C dM_isFile_122 rfl rfl ?_
              refine v_cVI (k := 0) (n := 1) C (mE_ok _) trivial hR (kM_wrong _ xCl D cA ad hJ τ5 ((p_lst (σ.2 7) (σ.1 0 7)))) dM_isFile_123 (by show (0 : Nat) < 18; decide) rfl rfl gM_185 (by decide +kernel) (by decide) (by decide) rfl (Nat.le_of_ble_eq_true rfl) rfl ⟨rfl, rfl⟩ (fun r7 τ7 hp7 => ?_)
              obtain ⟨rfl, hw7⟩ := hp7
              subst τ7
              · exact v_zret C hRt hLk dM_isFile_126 (fN_bool (by omega)) ⟨m_scx_of (m_scf_p (m_scf_of hs5_) _), Or.inr ⟨hF1, Or.inr ⟨hF2, Or.inl ⟨fun h9 => by first | exact g5_c h9.1 | (have h91 := h9.2; unfold p_x0 at h91; omega), rfl, rfl⟩⟩⟩⟩
            · exfalso; omega
        · refine v_iinc C dM_isFile_97 rfl (by decide) ?_
          refine v_goto (tgt := 80) C dM_isFile_100 (by decide) ?_
          exact v_lv rfl (ih (p + (-1)) S (by omega) (by omega) (by omega) (by rw [show p + (-1) = p - 1 by omega]; exact hE2.elim (fun h => absurd h.1 (by omega)) (fun h => h.2)) hs)
  refine v_aload_n C dM_isFile_0 rfl rfl ?_
  refine v_iconst C dM_isFile_1 ?_
  refine v_cVI (k := 0) (n := 1) C (mE_ok _) trivial hR (kM_line2 _ xCl D cA ad hJ σ (0) (by omega) hz h7) dM_isFile_2 (by show (0 : Nat) < 18; decide) rfl rfl gM_150 (by decide +kernel) (by decide) (by decide) rfl (Nat.le_of_ble_eq_true rfl) rfl ⟨rfl, rfl⟩ (fun r8 τ8 hp8 => ?_)
  obtain ⟨g8_s, g8_21, g8_20, g8_22, g8_26, g8_27, ⟨g8_c, rfl⟩ | ⟨g8_c, rfl⟩⟩ := hp8
  · have hs8_ := g8_s
    have g8_l := @p_eol_le (σ.2 7) (σ.1 0 7) (0)
    refine v_if_eq (tgt := 42) C dM_isFile_5 (by decide) (by omega) (fun hc18 => ?_) (fun hc18 => ?_)
    · exfalso; omega
    · refine v_aload_n C dM_isFile_8 rfl rfl ?_
      refine v_bipush C dM_isFile_9 (by decide +kernel) ?_
      have hz19 : 0 ≤ τ8.1 0 7 ∧ τ8.1 0 7 ≤ 12000 := by rw [m_scr_z hs8_]; exact hz
      have hb20 : ∀ i, -128 ≤ τ8.2 7 i ∧ τ8.2 7 i ≤ 127 := fun i => by rw [m_scr_a hs8_]; exact h7 i
      refine v_cVI (k := 0) (n := 1) C (mE_ok _) trivial hR (kM_takes2 _ xCl D cA ad hJ τ8 (37) (by omega) (by omega) (by omega) (by omega) hb20) dM_isFile_11 (by show (0 : Nat) < 18; decide) rfl rfl gM_153 (by decide +kernel) (by decide) (by decide) rfl (Nat.le_of_ble_eq_true rfl) rfl ⟨rfl, rfl⟩ (fun r9 τ9 hp9 => ?_)
      simp only [hs8_.1, m_scr_z hs8_, g8_20, g8_21, g8_22, g8_26, g8_27] at hp9
      obtain ⟨g9_s, g9_20, g9_22, g9_26, g9_27, ⟨g9_c, rfl, g9_21⟩ | ⟨g9_c, rfl, g9_21⟩⟩ := hp9
      · have hs9_ := m_scr_tr hs8_ g9_s
        have g9_21n : τ9.1 0 21 = 0 + 1 := by omega
        refine v_if_eq (tgt := 42) C dM_isFile_14 (by decide) (by omega) (fun hc21 => ?_) (fun hc21 => ?_)
        · exfalso; omega
        · refine v_aload_n C dM_isFile_17 rfl rfl ?_
          refine v_bipush C dM_isFile_18 (by decide +kernel) ?_
          have hz22 : 0 ≤ τ9.1 0 7 ∧ τ9.1 0 7 ≤ 12000 := by rw [m_scr_z hs9_]; exact hz
          have hb23 : ∀ i, -128 ≤ τ9.2 7 i ∧ τ9.2 7 i ≤ 127 := fun i => by rw [m_scr_a hs9_]; exact h7 i
          refine v_cVI (k := 0) (n := 1) C (mE_ok _) trivial hR (kM_takes2 _ xCl D cA ad hJ τ9 (70) (by omega) (by omega) (by omega) (by omega) hb23) dM_isFile_20 (by show (0 : Nat) < 18; decide) rfl rfl gM_153 (by decide +kernel) (by decide) (by decide) rfl (Nat.le_of_ble_eq_true rfl) rfl ⟨rfl, rfl⟩ (fun r10 τ10 hp10 => ?_)
          simp only [hs9_.1, m_scr_z hs9_, g9_20, g9_21n, g9_22, g9_26, g9_27] at hp10
          obtain ⟨g10_s, g10_20, g10_22, g10_26, g10_27, ⟨g10_c, rfl, g10_21⟩ | ⟨g10_c, rfl, g10_21⟩⟩ := hp10
          · have hs10_ := m_scr_tr hs9_ g10_s
            have g10_21n : τ10.1 0 21 = 0 + 2 := by omega
            refine v_if_eq (tgt := 42) C dM_isFile_23 (by decide) (by omega) (fun hc24 => ?_) (fun hc24 => ?_)
            · exfalso; omega
            · refine v_aload_n C dM_isFile_26 rfl rfl ?_
              refine v_bipush C dM_isFile_27 (by decide +kernel) ?_
              have hz25 : 0 ≤ τ10.1 0 7 ∧ τ10.1 0 7 ≤ 12000 := by rw [m_scr_z hs10_]; exact hz
              have hb26 : ∀ i, -128 ≤ τ10.2 7 i ∧ τ10.2 7 i ≤ 127 := fun i => by rw [m_scr_a hs10_]; exact h7 i
              refine v_cVI (k := 0) (n := 1) C (mE_ok _) trivial hR (kM_takes2 _ xCl D cA ad hJ τ10 (49) (by omega) (by omega) (by omega) (by omega) hb26) dM_isFile_29 (by show (0 : Nat) < 18; decide) rfl rfl gM_153 (by decide +kernel) (by decide) (by decide) rfl (Nat.le_of_ble_eq_true rfl) rfl ⟨rfl, rfl⟩ (fun r11 τ11 hp11 => ?_)
              simp only [hs10_.1, m_scr_z hs10_, g10_20, g10_21n, g10_22, g10_26, g10_27] at hp11
              obtain ⟨g11_s, g11_20, g11_22, g11_26, g11_27, ⟨g11_c, rfl, g11_21⟩ | ⟨g11_c, rfl, g11_21⟩⟩ := hp11
              · have hs11_ := m_scr_tr hs10_ g11_s
                have g11_21n : τ11.1 0 21 = 0 + 3 := by omega
                refine v_if_eq (tgt := 42) C dM_isFile_32 (by decide) (by omega) (fun hc27 => ?_) (fun hc27 => ?_)
                · exfalso; omega
                · refine v_aload_n C dM_isFile_35 rfl rfl ?_
                  have hz28 : 0 ≤ τ11.1 0 7 ∧ τ11.1 0 7 ≤ 12000 := by rw [m_scr_z hs11_]; exact hz
                  have hb29 : ∀ i, -128 ≤ τ11.2 7 i ∧ τ11.2 7 i ≤ 127 := fun i => by rw [m_scr_a hs11_]; exact h7 i
                  refine v_cVI (k := 0) (n := 0) C (mE_ok _) trivial hR (kM_isOver2 _ xCl D cA ad hJ τ11 (by omega) (by omega)) dM_isFile_36 (by show (0 : Nat) < 18; decide) rfl rfl gM_160 (by decide +kernel) (by decide) (by decide) rfl (Nat.le_of_ble_eq_true rfl) rfl ⟨rfl, rfl⟩ (fun r12 τ12 hp12 => ?_)
                  simp only [hs11_.1, m_scr_z hs11_, g11_20, g11_21n, g11_22, g11_26, g11_27] at hp12
                  obtain ⟨g12_c, rfl, g12_e⟩ | ⟨g12_c, rfl, g12_e⟩ := hp12
                  · subst τ12
                    refine v_if_ne (tgt := 48) C dM_isFile_39 (by decide) (by omega) (fun hc30 => ?_) (fun hc30 => ?_)
                    · refine v_aload_n C dM_isFile_48 rfl rfl ?_
                      refine v_getR (k := 0) (q := 8) C dM_isFile_49 (by show (0 : Nat) < 18; decide) rfl rfl (by decide) rfl inM lM_30 rfl ?_
                      refine v_aload_n C dM_isFile_52 rfl rfl ?_
                      refine v_getI (k := 0) (q := 7) (v := σ.1 0 7) C dM_isFile_53 (by show (0 : Nat) < 18; decide) rfl rfl (by decide) rfl inM lM_116 rfl (hs11_.2 0 7 (by decide)) ?_
                      refine v_iconst C dM_isFile_56 ?_
                      refine v_isub C dM_isFile_57 ?_
                      have hb31 := h7 ((σ.1 0 7 - 1)).toNat
                      refine v_bald (k := 7) (v := σ.2 7 ((σ.1 0 7 - 1)).toNat) C dM_isFile_58 (by show (7 : Nat) < 18; decide) rfl rfl (by omega) (by decide) (m_scr_a hs11_ _ _) ?_
                      refine v_bipush C dM_isFile_59 (by decide +kernel) ?_
                      refine v_icmp_eq (tgt := 73) C dM_isFile_61 (by decide) (by omega) (by omega) (fun hc32 => ?_) (fun hc32 => ?_)
                      · refine v_aload_n C dM_isFile_73 rfl rfl ?_
                        refine v_getI (k := 0) (q := 7) (v := σ.1 0 7) C dM_isFile_74 (by show (0 : Nat) < 18; decide) rfl rfl (by decide) rfl inM lM_116 rfl (hs11_.2 0 7 (by decide)) ?_
                        refine v_iconst C dM_isFile_77 ?_
                        refine v_isub C dM_isFile_78 ?_
                        refine v_istore_n C dM_isFile_79 rfl (by decide) ?_
                        exact v_less (by exact ⟨rfl, rfl, trivial⟩) (LL ⟨g8_c, g9_c, g10_c, g11_c, g12_c⟩ (by omega) (σ.1 0 7 - 1).toNat (σ.1 0 7 - 1) τ11 rfl (by omega) (by omega) rfl hs11_)
                      · refine v_aload_n C dM_isFile_64 rfl rfl ?_
                        refine v_aload_n C dM_isFile_65 rfl rfl ?_
                        refine v_getI (k := 0) (q := 7) (v := σ.1 0 7) C dM_isFile_66 (by show (0 : Nat) < 18; decide) rfl rfl (by decide) rfl inM lM_116 rfl (hs11_.2 0 7 (by decide)) ?_
                        refine v_cVI (k := 0) (n := 1) C (mE_ok _) trivial hR (kM_wrong _ xCl D cA ad hJ τ11 (σ.1 0 7)) dM_isFile_69 (by show (0 : Nat) < 18; decide) rfl rfl gM_185 (by decide +kernel) (by decide) (by decide) rfl (Nat.le_of_ble_eq_true rfl) rfl ⟨rfl, rfl⟩ (fun r13 τ13 hp13 => ?_)
                        obtain ⟨rfl, hw13⟩ := hp13
                        subst τ13
                        · exact v_zret C hRt hLk dM_isFile_72 (fN_bool (by omega)) ⟨m_scx_of (m_scf_p (m_scf_of hs11_) _), Or.inr ⟨⟨g8_c, g9_c, g10_c, g11_c, g12_c⟩, Or.inl ⟨by omega, rfl, rfl⟩⟩⟩
                    · exfalso; omega
                  · subst τ12
                    refine v_if_ne (tgt := 48) C dM_isFile_39 (by decide) (by omega) (fun hc33 => ?_) (fun hc33 => ?_)
                    · exfalso; omega
                    · refine v_aload_n C dM_isFile_42 rfl rfl ?_
                      refine v_iconst C dM_isFile_43 ?_
                      refine v_cVI (k := 0) (n := 1) C (mE_ok _) trivial hR (kM_wrong _ xCl D cA ad hJ τ11 (0)) dM_isFile_44 (by show (0 : Nat) < 18; decide) rfl rfl gM_185 (by decide +kernel) (by decide) (by decide) rfl (Nat.le_of_ble_eq_true rfl) rfl ⟨rfl, rfl⟩ (fun r14 τ14 hp14 => ?_)
                      obtain ⟨rfl, hw14⟩ := hp14
                      subst τ14
                      · exact v_zret C hRt hLk dM_isFile_47 (fN_bool (by omega)) ⟨m_scx_of (m_scf_p (m_scf_of hs11_) _), Or.inl ⟨fun h9 => by first | exact g8_c h9.1 | exact g9_c h9.2.1 | exact g10_c h9.2.2.1 | exact g11_c h9.2.2.2.1 | exact g12_c h9.2.2.2.2, rfl, rfl⟩⟩
              · have hs11_ := m_scr_tr hs10_ g11_s
                refine v_if_eq (tgt := 42) C dM_isFile_32 (by decide) (by omega) (fun hc34 => ?_) (fun hc34 => ?_)
                · refine v_aload_n C dM_isFile_42 rfl rfl ?_
                  refine v_iconst C dM_isFile_43 ?_
                  refine v_cVI (k := 0) (n := 1) C (mE_ok _) trivial hR (kM_wrong _ xCl D cA ad hJ τ11 (0)) dM_isFile_44 (by show (0 : Nat) < 18; decide) rfl rfl gM_185 (by decide +kernel) (by decide) (by decide) rfl (Nat.le_of_ble_eq_true rfl) rfl ⟨rfl, rfl⟩ (fun r15 τ15 hp15 => ?_)
                  obtain ⟨rfl, hw15⟩ := hp15
                  subst τ15
                  · exact v_zret C hRt hLk dM_isFile_47 (fN_bool (by omega)) ⟨m_scx_of (m_scf_p (m_scf_of hs11_) _), Or.inl ⟨fun h9 => by first | exact g8_c h9.1 | exact g9_c h9.2.1 | exact g10_c h9.2.2.1 | exact g11_c h9.2.2.2.1 | exact nope h9.2.2.2.2, rfl, rfl⟩⟩
                · exfalso; omega
          · have hs10_ := m_scr_tr hs9_ g10_s
            refine v_if_eq (tgt := 42) C dM_isFile_23 (by decide) (by omega) (fun hc35 => ?_) (fun hc35 => ?_)
            · refine v_aload_n C dM_isFile_42 rfl rfl ?_
              refine v_iconst C dM_isFile_43 ?_
              refine v_cVI (k := 0) (n := 1) C (mE_ok _) trivial hR (kM_wrong _ xCl D cA ad hJ τ10 (0)) dM_isFile_44 (by show (0 : Nat) < 18; decide) rfl rfl gM_185 (by decide +kernel) (by decide) (by decide) rfl (Nat.le_of_ble_eq_true rfl) rfl ⟨rfl, rfl⟩ (fun r16 τ16 hp16 => ?_)
              obtain ⟨rfl, hw16⟩ := hp16
              subst τ16
              · exact v_zret C hRt hLk dM_isFile_47 (fN_bool (by omega)) ⟨m_scx_of (m_scf_p (m_scf_of hs10_) _), Or.inl ⟨fun h9 => by first | exact g8_c h9.1 | exact g9_c h9.2.1 | exact g10_c h9.2.2.1 | exact nope h9.2.2.2.1 | exact nope h9.2.2.2.2, rfl, rfl⟩⟩
            · exfalso; omega
      · have hs9_ := m_scr_tr hs8_ g9_s
        refine v_if_eq (tgt := 42) C dM_isFile_14 (by decide) (by omega) (fun hc36 => ?_) (fun hc36 => ?_)
        · refine v_aload_n C dM_isFile_42 rfl rfl ?_
          refine v_iconst C dM_isFile_43 ?_
          refine v_cVI (k := 0) (n := 1) C (mE_ok _) trivial hR (kM_wrong _ xCl D cA ad hJ τ9 (0)) dM_isFile_44 (by show (0 : Nat) < 18; decide) rfl rfl gM_185 (by decide +kernel) (by decide) (by decide) rfl (Nat.le_of_ble_eq_true rfl) rfl ⟨rfl, rfl⟩ (fun r17 τ17 hp17 => ?_)
          obtain ⟨rfl, hw17⟩ := hp17
          subst τ17
          · exact v_zret C hRt hLk dM_isFile_47 (fN_bool (by omega)) ⟨m_scx_of (m_scf_p (m_scf_of hs9_) _), Or.inl ⟨fun h9 => by first | exact g8_c h9.1 | exact g9_c h9.2.1 | exact nope h9.2.2.1 | exact nope h9.2.2.2.1 | exact nope h9.2.2.2.2, rfl, rfl⟩⟩
        · exfalso; omega
  · have hs8_ := g8_s
    have g8_l := @p_eol_le (σ.2 7) (σ.1 0 7) (0)
    refine v_if_eq (tgt := 42) C dM_isFile_5 (by decide) (by omega) (fun hc37 => ?_) (fun hc37 => ?_)
    · refine v_aload_n C dM_isFile_42 rfl rfl ?_
      refine v_iconst C dM_isFile_43 ?_
      refine v_cVI (k := 0) (n := 1) C (mE_ok _) trivial hR (kM_wrong _ xCl D cA ad hJ τ8 (0)) dM_isFile_44 (by show (0 : Nat) < 18; decide) rfl rfl gM_185 (by decide +kernel) (by decide) (by decide) rfl (Nat.le_of_ble_eq_true rfl) rfl ⟨rfl, rfl⟩ (fun r18 τ18 hp18 => ?_)
      obtain ⟨rfl, hw18⟩ := hp18
      subst τ18
      · exact v_zret C hRt hLk dM_isFile_47 (fN_bool (by omega)) ⟨m_scx_of (m_scf_p (m_scf_of hs8_) _), Or.inl ⟨fun h9 => by first | exact g8_c h9.1 | exact nope h9.2.1 | exact nope h9.2.2.1 | exact nope h9.2.2.2.1 | exact nope h9.2.2.2.2, rfl, rfl⟩⟩
    · exfalso; omega
