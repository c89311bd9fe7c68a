/-! learn -/
/-- a PART that stands -/
def p_okp (f : Nat → Int) (z x : Int) : Prop := p_tell f z x 120 ∧ (∀ i, i < p_many f z x → p_good f z x i) ∧ (p_tell f z (p_pl f z x) 112 ∧ p_tv f z (p_pl f z x) < x) ∧ p_eok f z x ∧ ∀ i, i < p_many f z x → p_rok f z x (p_at f z x i)
theorem p_look_ok {f : Nat → Int} {z x pt r fl : Int} (h : p_look f z x pt r fl) (hr : r ≠ -1) : p_okp f z x ∧ r = p_tv f z (p_pl f z x) := by
  rcases h with ⟨_, h, _⟩ | ⟨h1, ⟨j, _, _, _, h, _⟩ | ⟨h2, ⟨_, h, _⟩ | ⟨h3, ⟨_, h, _⟩ | ⟨h4, ⟨_, _, h, _⟩ | ⟨_, ⟨j, _, _, _, h, _⟩ | ⟨h5, h6⟩⟩⟩⟩⟩⟩
  · exact absurd h hr
  · exact absurd h hr
  · exact absurd h hr
  · exact absurd h hr
  · exact absurd h hr
  · exact absurd h hr
  · exact ⟨⟨h1, h2, ⟨h3.1, h3.2.1⟩, h4, h5⟩, h6⟩
theorem p_at_r {f : Nat → Int} {z x : Int} (hx : 0 ≤ x) (h1 : p_tell f z x 120) : ∀ j, (∀ i, i < j → p_good f z x i) → 0 ≤ p_at f z x j ∧ p_at f z x j ≤ z := by
  intro j
  induction j with
  | zero =>
    intro _
    have a := h1.1
    have b := @p_eol_le f z x
    show 0 ≤ p_eol f z x + 1 ∧ p_eol f z x + 1 ≤ z
    omega
  | succ j ih =>
    intro h
    have a := (h j (by omega)).1.1
    have b := @p_eol_le f z (p_at f z x j)
    have c := ih (fun i hi => h i (by omega))
    rw [p_at_s]
    omega
theorem p_rec_le {f : Nat → Int} {z p n b c : Int} (h : p_rec f z p n b) (hbc : b ≤ c) : p_rec f z p n c := by
  obtain ⟨h1, h2, h3, h4, h5, h6, h7, h8, h9, h10, h11⟩ := h
  exact ⟨h1, h2, h3, h4, h5, h6, h7, h8, h9, by omega, h11⟩
theorem p_rl_r {f : Nat → Int} {z p n b : Int} (h : p_rec f z p n b) : (0 ≤ p_rl f z p ∧ p_rl f z p ≤ 120) ∧ p_eol f z p + 1 + p_rl f z p < b := by
  obtain ⟨h1, h2, h3, h4, h5, h6, h7, h8, h9, h10, h11⟩ := h
  have a := p_num_v f (p_eol f z p) ((p_num f (p_eol f z p) (p + 2)).2 + 1)
  exact ⟨⟨a.1, h9⟩, h10⟩
/-- the rows of the revision before, up to object k - 1 -/
def m_cp (σ : fS) (t k : Nat) : fS := (σ.1, fun a b => if (a = 10 ∨ a = 11 ∨ a = 12) ∧ 41 * t + 1 ≤ b ∧ b < 41 * t + k then (if t = 0 then (if a = 10 then -1 else 0) else σ.2 a (b - 41)) else σ.2 a b)
theorem m_cp_o (σ : fS) (t k a : Nat) (h : ¬ (a = 10 ∨ a = 11 ∨ a = 12)) : (m_cp σ t k).2 a = σ.2 a := by
  funext b
  show (if (a = 10 ∨ a = 11 ∨ a = 12) ∧ 41 * t + 1 ≤ b ∧ b < 41 * t + k then (if t = 0 then (if a = 10 then -1 else 0) else σ.2 a (b - 41)) else σ.2 a b) = _
  rw [if_neg (fun g => h g.1)]
theorem m_cp_lo (σ : fS) (t k a b : Nat) (h : b < 41 * t + 1 ∨ 41 * t + k ≤ b) : (m_cp σ t k).2 a b = σ.2 a b := by
  show (if (a = 10 ∨ a = 11 ∨ a = 12) ∧ 41 * t + 1 ≤ b ∧ b < 41 * t + k then (if t = 0 then (if a = 10 then -1 else 0) else σ.2 a (b - 41)) else σ.2 a b) = _
  rw [if_neg (by omega)]
theorem m_cp_1 (σ : fS) (t : Nat) : σ = m_cp σ t 1 := fS_ext (fun _ _ => rfl) (fun a b => (m_cp_lo σ t 1 a b (by omega)).symm)
def m_cpv (σ : fS) (t a i : Nat) : Int := if t = 0 then (if a = 10 then -1 else 0) else σ.2 a (i - 41)
theorem m_cp_s (σ : fS) (t k : Nat) (hk : 1 ≤ k) : f_p2 (f_p2 (f_p2 (m_cp σ t k) 10 (41 * t + k) (m_cpv σ t 10 (41 * t + k))) 11 (41 * t + k) (m_cpv σ t 11 (41 * t + k))) 12 (41 * t + k) (m_cpv σ t 12 (41 * t + k)) = m_cp σ t (k + 1) := by
  refine fS_ext (fun _ _ => rfl) (fun a b => ?_)
  rw [p2_2, p2_2, p2_2]
  show _ = if (a = 10 ∨ a = 11 ∨ a = 12) ∧ 41 * t + 1 ≤ b ∧ b < 41 * t + (k + 1) then m_cpv σ t a b else σ.2 a b
  by_cases g : b = 41 * t + k
  · subst g
    by_cases g12 : a = 12
    · subst g12; rw [if_pos ⟨rfl, rfl⟩, if_pos ⟨by decide, by omega, by omega⟩]
    · rw [if_neg (by omega)]
      by_cases g11 : a = 11
      · subst g11; rw [if_pos ⟨rfl, rfl⟩, if_pos ⟨by decide, by omega, by omega⟩]
      · rw [if_neg (by omega)]
        by_cases g10 : a = 10
        · subst g10; rw [if_pos ⟨rfl, rfl⟩, if_pos ⟨by decide, by omega, by omega⟩]
        · rw [if_neg (by omega), if_neg (by omega), m_cp_o _ _ _ _ (by omega)]
  · rw [if_neg (by omega), if_neg (by omega), if_neg (by omega)]
    show (if (a = 10 ∨ a = 11 ∨ a = 12) ∧ 41 * t + 1 ≤ b ∧ b < 41 * t + k then m_cpv σ t a b else σ.2 a b) = _
    by_cases g2 : (a = 10 ∨ a = 11 ∨ a = 12) ∧ 41 * t + 1 ≤ b ∧ b < 41 * t + k
    · rw [if_pos g2, if_pos ⟨g2.1, by omega, by omega⟩]
    · rw [if_neg g2, if_neg (by omega)]
/-- the rows of a PART, up to the j-th -/
def m_rw1 (f : Nat → Int) (z : Int) (y : fS) (i : Nat) (v : Int) : fS := if v = -1 then f_p2 y 10 i v else f_p2 (f_p2 (f_p2 y 10 i v) 11 i (p_eol f z v + 1)) 12 i (p_rl f z v)
def m_rwF (f : Nat → Int) (z : Int) (σ : fS) (t : Nat) (x : Int) : Nat → fS
  | 0 => σ
  | j + 1 => m_rw1 f z (m_rwF f z σ t x j) (41 * t + (p_rn f z (p_at f z x j)).toNat) (p_rpv f z (p_at f z x j))
theorem m_rw1_o (f : Nat → Int) (z : Int) (y : fS) (i : Nat) (v : Int) : (m_rw1 f z y i v).1 = y.1 ∧ ∀ a, ¬ (a = 10 ∨ a = 11 ∨ a = 12) → (m_rw1 f z y i v).2 a = y.2 a := by
  unfold m_rw1
  split
  · exact ⟨rfl, fun a h => by funext b; rw [p2_2, if_neg (by omega)]⟩
  · exact ⟨rfl, fun a h => by funext b; rw [p2_2, if_neg (by omega), p2_2, if_neg (by omega), p2_2, if_neg (by omega)]⟩
theorem m_rwF_o (f : Nat → Int) (z : Int) (σ : fS) (t : Nat) (x : Int) : ∀ j, (m_rwF f z σ t x j).1 = σ.1 ∧ ∀ a, ¬ (a = 10 ∨ a = 11 ∨ a = 12) → (m_rwF f z σ t x j).2 a = σ.2 a := by
  intro j
  induction j with
  | zero => exact ⟨rfl, fun _ _ => rfl⟩
  | succ j ih =>
    have h := m_rw1_o f z (m_rwF f z σ t x j) (41 * t + (p_rn f z (p_at f z x j)).toNat) (p_rpv f z (p_at f z x j))
    exact ⟨h.1.trans ih.1, fun a g => (h.2 a g).trans (ih.2 a g)⟩
/-- a PART is learned as revision t; all of them up to t -/
def m_lp (f : Nat → Int) (z : Int) (σ : fS) (t : Nat) (x : Int) : fS := f_p1 (f_p2 (f_p2 (m_rwF f z (m_cp σ t 41) t x (p_many f z x)) 8 t (p_end f z x)) 9 t x) 0 10 ((t : Int) + 1)
def m_lF (f : Nat → Int) (z : Int) (σ : fS) (xs : Nat → Int) (pts : Nat) : Nat → fS
  | 0 => f_p1 σ 0 10 0
  | t + 1 => m_lp f z (m_lF f z σ xs pts t) t (xs (pts - 1 - t))
theorem m_lF_o (f : Nat → Int) (z : Int) (σ : fS) (xs : Nat → Int) (pts : Nat) : ∀ t, (∀ q, q ≠ 10 → (m_lF f z σ xs pts t).1 0 q = σ.1 0 q) ∧ (m_lF f z σ xs pts t).1 0 10 = (t : Int) ∧ ∀ a, ¬ (8 ≤ a ∧ a ≤ 12) → (m_lF f z σ xs pts t).2 a = σ.2 a := by
  intro t
  induction t with
  | zero => exact ⟨fun q h => by show (f_p1 σ 0 10 0).1 0 q = _; rw [p1_1, if_neg (by omega)], rfl, fun _ _ => rfl⟩
  | succ t ih =>
    obtain ⟨i1, i2, i3⟩ := ih
    have h := m_rwF_o f z (m_cp (m_lF f z σ xs pts t) t 41) t (xs (pts - 1 - t)) (p_many f z (xs (pts - 1 - t)))
    refine ⟨fun q hq => ?_, ?_, fun a ha => ?_⟩
    · show (m_lp f z (m_lF f z σ xs pts t) t (xs (pts - 1 - t))).1 0 q = _
      unfold m_lp
      rw [p1_1, if_neg (by omega)]
      show (m_rwF _ _ _ _ _ _).1 0 q = _
      rw [h.1]
      exact i1 q hq
    · show (m_lp f z (m_lF f z σ xs pts t) t (xs (pts - 1 - t))).1 0 10 = _
      unfold m_lp
      rw [p1_1, if_pos ⟨rfl, rfl⟩]; push_cast; rfl
    · show (m_lp f z (m_lF f z σ xs pts t) t (xs (pts - 1 - t))).2 a = _
      unfold m_lp
      rw [p1_2]
      funext b
      rw [p2_2, if_neg (by omega), p2_2, if_neg (by omega), h.2 a (by omega), m_cp_o _ _ _ _ (by omega), i3 a ha]
theorem m_scr_q2 {B S : fS} (h : m_scr B S) (k q : Nat) (v : Int) : m_scr (f_p2 B k q v) (f_p2 S k q v) := by
  refine ⟨?_, h.2⟩
  unfold f_p2
  show va_up S.2 k _ = va_up B.2 k _
  rw [h.1]
theorem m_scr_q1 {B S : fS} (h : m_scr B S) (q : Nat) (v : Int) : m_scr (f_p1 B 0 q v) (f_p1 S 0 q v) := by
  refine ⟨h.1, fun a b g => ?_⟩
  rw [p1_1, p1_1, h.2 a b g]
set_option maxRecDepth 100000 in
set_option maxHeartbeats 4000000 in
theorem kM_learn (l : Launch) (xCl : List vw_C) (D : va_G) (cA : Nat → ClassId) (ad : Nat → Nat) (hJ : f_J (mG xCl D cA ad)) (σ : fS) (f : Nat → Int) (fz : Int) (pts : Nat) (xs : Nat → Int) (hf : σ.2 7 = f) (hz : σ.1 0 7 = fz) (hp : σ.1 0 24 = (pts : Int)) (hpt : 1 ≤ pts ∧ pts ≤ 60) (hx : ∀ k, k < pts → σ.2 15 k = xs k) (hok : ∀ k, k < pts → p_okp f fz (xs k) ∧ 0 ≤ xs k ∧ xs k ≤ 11999 ∧ xs k < fz) (h7 : ∀ i, -128 ≤ f i ∧ f i ≤ 127) (hz0 : 0 ≤ fz ∧ fz ≤ 12000) : f_M l (mG xCl D cA ad) mE yM_learn (Cond.code yM_learn cM_learn 7 none :: A9) 2 σ [.ref (ad 0)] (f_QV (fun σ1 => m_scr (m_lF f fz σ xs pts pts) σ1) (mG xCl D cA ad)) := by
  refine f_enter (by decide +kernel) hJ rfl (Nat.le_of_ble_eq_true rfl) ?_
  intro z hzl hR C hRt hLk hEz
  subst hzl
  have L : ∀ (m t : Nat), m + t = pts → ∀ (S : fS), m_scr (m_lF f fz σ xs pts t) S → ∀ o2 o3 o4 o5 o6 : Option Value, fv z (mG xCl D cA ad) 7 (f_R z (mG xCl D cA ad) (f_QV (fun σ1 => m_scr (m_lF f fz σ xs pts pts) σ1) (mG xCl D cA ad))) 0 0 S 12 [some (.ref (ad 0)), some (.int (fI ((pts : Int) - 1 - (t : Int)))), o2, o3, o4, o5, o6] [] := by
    intro m
    induction m with
    | zero =>
      intro t ht S hS o2 o3 o4 o5 o6
      obtain rfl : t = pts := by omega
      refine v_iload_n C dM_learn_12 rfl rfl ?_
      refine v_if_lt (tgt := 316) C dM_learn_13 (by decide) (by omega) (fun hc1 => ?_) (fun hc1 => ?_)
      · exact v_vret C hRt hLk dM_learn_316 hS
      · exfalso; omega
    | succ m ih =>
      intro t ht S hS o2 o3 o4 o5 o6
      obtain ⟨B, hB⟩ : ∃ s, s = m_lF f fz σ xs pts t := ⟨_, rfl⟩
      rw [← hB] at hS
      have hB7 : B.1 0 7 = fz := by rw [hB, (m_lF_o f fz σ xs pts t).1 7 (by decide)]; exact hz
      have hB10 : B.1 0 10 = (t : Int) := by rw [hB]; exact (m_lF_o f fz σ xs pts t).2.1
      have hB24 : B.1 0 24 = (pts : Int) := by rw [hB, (m_lF_o f fz σ xs pts t).1 24 (by decide)]; exact hp
      have hBf : B.2 7 = f := by rw [hB, (m_lF_o f fz σ xs pts t).2.2 7 (by decide)]; exact hf
      have hB15 : B.2 15 ((pts : Int) - 1 - (t : Int)).toNat = xs (pts - 1 - t) := by rw [hB, (m_lF_o f fz σ xs pts t).2.2 15 (by decide), show ((pts : Int) - 1 - (t : Int)).toNat = pts - 1 - t by omega]; exact hx _ (by omega)
      obtain ⟨x, hxd⟩ : ∃ v, v = xs (pts - 1 - t) := ⟨_, rfl⟩
      obtain ⟨hok1, hx0, hx1, hx2⟩ := hok (pts - 1 - t) (by omega)
      rw [← hxd] at hok1 hx0 hx1 hx2 hB15
      have hmr := p_num_v f (p_eol f fz x) (x + 2)
      have htv : 0 ≤ p_tv f fz x ∧ p_tv f fz x ≤ 99999 := hmr
      have hmany : p_many f fz x = (p_tv f fz x).toNat := rfl
      have L2 : ∀ (n j : Nat), n + j = p_many f fz x → ∀ (S : fS), m_scr (m_rwF f fz (m_cp B t 41) t x j) S → ∀ o6 : Option Value, fv z (mG xCl D cA ad) 7 (f_R z (mG xCl D cA ad) (f_QV (fun σ1 => m_scr (m_lF f fz σ xs pts pts) σ1) (mG xCl D cA ad))) 0 0 S 157 [some (.ref (ad 0)), some (.int (fI ((pts : Int) - 1 - (t : Int)))), some (.int (fI (41 * (t : Int)))), some (.int (fI (p_tv f fz x))), some (.int (fI (p_at f fz x j))), some (.int (fI (j : Int))), o6] [] := by
        intro n
        induction n with
        | zero =>
          intro j hj S hS o6
          have hat := p_at_r hx0 hok1.1 j (fun i hi => hok1.2.1 i (by omega))
          have hRo := m_rwF_o f fz (m_cp B t 41) t x j
          have hB7 : (m_rwF f fz (m_cp B t 41) t x j).1 0 7 = fz := by rw [hRo.1]; exact hB7
          have hB10 : (m_rwF f fz (m_cp B t 41) t x j).1 0 10 = (t : Int) := by rw [hRo.1]; exact hB10
          have hB24 : (m_rwF f fz (m_cp B t 41) t x j).1 0 24 = (pts : Int) := by rw [hRo.1]; exact hB24
          have hBf : (m_rwF f fz (m_cp B t 41) t x j).2 7 = f := by rw [hRo.2 7 (by decide), m_cp_o _ _ _ _ (by decide)]; exact hBf
          have hB15 : (m_rwF f fz (m_cp B t 41) t x j).2 15 ((pts : Int) - 1 - (t : Int)).toNat = x := by rw [hRo.2 15 (by decide), m_cp_o _ _ _ _ (by decide)]; exact hB15
          obtain rfl : j = p_many f fz x := by omega
          have hpl : p_at f fz x (p_many f fz x) = p_pl f fz x := rfl
          rw [hpl] at hat ⊢
          have hpe := @p_eol_le f fz (p_pl f fz x)
          have hpt1 := hok1.2.2.1.1.1
          have hele : p_el f fz x = p_eol f fz (p_pl f fz x) + 1 := rfl
          have hpe2 := @p_eol_le f fz (p_el f fz x)
          refine v_iload C dM_learn_157 rfl ?_
          refine v_iload_n C dM_learn_159 rfl rfl ?_
          refine v_icmp_ge (tgt := 252) C dM_learn_160 (by decide) (by omega) (by omega) (fun hc2 => ?_) (fun hc2 => ?_)
          · refine v_aload_n C dM_learn_252 rfl rfl ?_
            refine v_iload C dM_learn_253 rfl ?_
            have hzz3 : 0 ≤ S.1 0 7 ∧ S.1 0 7 ≤ 12000 := by rw [hS.2 0 7 (by decide), hB7]; exact hz0
            have h774 : ∀ i, -128 ≤ S.2 7 i ∧ S.2 7 i ≤ 127 := fun i => by rw [hS.1, hBf]; exact h7 i
            have hzz3f : S.2 7 = f := by rw [hS.1]; exact hBf
            have hzz3z : S.1 0 7 = fz := by rw [hS.2 0 7 (by decide)]; exact hB7
            refine v_cVI (k := 0) (n := 1) C (mE_ok _) trivial hR (kM_line2 _ xCl D cA ad hJ S (p_pl f fz x) (by omega) hzz3 h774) dM_learn_255 (by show (0 : Nat) < 18; decide) rfl rfl gM_150 (by decide +kernel) (by decide) (by decide) rfl (Nat.le_of_ble_eq_true rfl) rfl ⟨rfl, rfl⟩ (fun rl6 S6 hp6 => ?_)
            rw [hzz3f, hzz3z] at hp6
            obtain ⟨u06, -, u206, -, -, -, -⟩ := hp6
            have hS6 := m_scr_tr hS u06
            refine v_pop C dM_learn_258 rfl ?_
            refine v_aload_n C dM_learn_259 rfl rfl ?_
            refine v_aload_n C dM_learn_260 rfl rfl ?_
            refine v_getI (k := 0) (q := 20) (v := p_eol f fz (p_pl f fz x)) C dM_learn_261 (by show (0 : Nat) < 18; decide) rfl rfl (by decide) rfl inM lM_144 rfl u206 ?_
            refine v_iconst C dM_learn_264 ?_
            refine v_iadd C dM_learn_265 ?_
            refine v_top (b := (p_el f fz x)) rfl ?_
            have hzz5 : 0 ≤ S6.1 0 7 ∧ S6.1 0 7 ≤ 12000 := by rw [hS6.2 0 7 (by decide), hB7]; exact hz0
            have h776 : ∀ i, -128 ≤ S6.2 7 i ∧ S6.2 7 i ≤ 127 := fun i => by rw [hS6.1, hBf]; exact h7 i
            have hzz5f : S6.2 7 = f := by rw [hS6.1]; exact hBf
            have hzz5z : S6.1 0 7 = fz := by rw [hS6.2 0 7 (by decide)]; exact hB7
            refine v_cVI (k := 0) (n := 1) C (mE_ok _) trivial hR (kM_line2 _ xCl D cA ad hJ S6 (p_el f fz x) (by omega) hzz5 h776) dM_learn_266 (by show (0 : Nat) < 18; decide) rfl rfl gM_150 (by decide +kernel) (by decide) (by decide) rfl (Nat.le_of_ble_eq_true rfl) rfl ⟨rfl, rfl⟩ (fun rl7 S7 hp7 => ?_)
            rw [hzz5f, hzz5z] at hp7
            obtain ⟨u07, -, u207, -, -, -, -⟩ := hp7
            have hS7 := m_scr_tr hS6 u07
            refine v_pop C dM_learn_269 rfl ?_
            refine v_aload_n C dM_learn_270 rfl rfl ?_
            refine v_getR (k := 0) (q := 11) C dM_learn_271 (by show (0 : Nat) < 18; decide) rfl rfl (by decide) rfl inM lM_33 rfl ?_
            refine v_aload_n C dM_learn_274 rfl rfl ?_
            refine v_getI (k := 0) (q := 10) (v := (t : Int)) C dM_learn_275 (by show (0 : Nat) < 18; decide) rfl rfl (by decide) rfl inM lM_110 rfl ((hS7.2 0 10 (by decide)).trans hB10) ?_
            refine v_aload_n C dM_learn_278 rfl rfl ?_
            refine v_getI (k := 0) (q := 20) (v := p_eol f fz (p_el f fz x)) C dM_learn_279 (by show (0 : Nat) < 18; decide) rfl rfl (by decide) rfl inM lM_144 rfl u207 ?_
            refine v_iconst C dM_learn_282 ?_
            refine v_iadd C dM_learn_283 ?_
            refine v_top (b := (p_end f fz x)) rfl ?_
            refine v_iast (k := 8) C dM_learn_284 (by show (8 : Nat) < 18; decide) rfl rfl (by omega) (by decide) ?_
            refine v_aload_n C dM_learn_285 rfl rfl ?_
            refine v_getR (k := 0) (q := 12) C dM_learn_286 (by show (0 : Nat) < 18; decide) rfl rfl (by decide) rfl inM lM_36 rfl ?_
            refine v_aload_n C dM_learn_289 rfl rfl ?_
            refine v_getI (k := 0) (q := 10) (v := (t : Int)) C dM_learn_290 (by show (0 : Nat) < 18; decide) rfl rfl (by decide) rfl inM lM_110 rfl ((hS7.2 0 10 (by decide)).trans hB10) ?_
            refine v_aload_n C dM_learn_293 rfl rfl ?_
            refine v_getR (k := 0) (q := 25) C dM_learn_294 (by show (0 : Nat) < 18; decide) rfl rfl (by decide) rfl inM lM_54 rfl ?_
            refine v_iload_n C dM_learn_297 rfl rfl ?_
            refine v_iald (k := 15) (v := x) C dM_learn_298 (by show (15 : Nat) < 18; decide) rfl rfl (by omega) (by decide) (by rw [p2_2, if_neg (by omega), hS7.1]; exact hB15) ?_
            refine v_iast (k := 9) C dM_learn_299 (by show (9 : Nat) < 18; decide) rfl rfl (by omega) (by decide) ?_
            refine v_aload_n C dM_learn_300 rfl rfl ?_
            refine v_dup C dM_learn_301 rfl ?_
            refine v_getI (k := 0) (q := 10) (v := (t : Int)) C dM_learn_302 (by show (0 : Nat) < 18; decide) rfl rfl (by decide) rfl inM lM_110 rfl ((hS7.2 0 10 (by decide)).trans hB10) ?_
            refine v_iconst C dM_learn_305 ?_
            refine v_iadd C dM_learn_306 ?_
            refine v_putI (k := 0) (q := 10) C dM_learn_307 (by show (0 : Nat) < 18; decide) rfl rfl (by decide) rfl inM tyM_ok nmM lM_110 rfl rfl rfl rfl rfl ?_
            refine v_iinc C dM_learn_310 rfl (by decide) ?_
            refine v_goto (tgt := 12) C dM_learn_313 (by decide) ?_
            exact v_lv (by rw [show (pts : Int) - 1 - (t : Int) + -1 = (pts : Int) - 1 - ((t + 1 : Nat) : Int) by omega]; rfl) (ih (t + 1) (by omega) _ (by show m_scr (m_lp f fz (m_lF f fz σ xs pts t) t (xs (pts - 1 - t))) _; rw [← hB, ← hxd]; exact m_scr_q1 (m_scr_q2 (m_scr_q2 hS7 8 t (p_end f fz x)) 9 t x) 10 ((t : Int) + 1)) _ _ _ _ _)
          · exfalso; omega
        | succ n ih2 =>
          intro j hj S hS o6
          have hat := p_at_r hx0 hok1.1 j (fun i hi => hok1.2.1 i (by omega))
          have hRo := m_rwF_o f fz (m_cp B t 41) t x j
          have hB7 : (m_rwF f fz (m_cp B t 41) t x j).1 0 7 = fz := by rw [hRo.1]; exact hB7
          have hB10 : (m_rwF f fz (m_cp B t 41) t x j).1 0 10 = (t : Int) := by rw [hRo.1]; exact hB10
          have hB24 : (m_rwF f fz (m_cp B t 41) t x j).1 0 24 = (pts : Int) := by rw [hRo.1]; exact hB24
          have hBf : (m_rwF f fz (m_cp B t 41) t x j).2 7 = f := by rw [hRo.2 7 (by decide), m_cp_o _ _ _ _ (by decide)]; exact hBf
          have hB15 : (m_rwF f fz (m_cp B t 41) t x j).2 15 ((pts : Int) - 1 - (t : Int)).toNat = x := by rw [hRo.2 15 (by decide), m_cp_o _ _ _ _ (by decide)]; exact hB15
          have hgd := hok1.2.1 j (by omega)
          have hrk := hok1.2.2.2.2 j (by omega)
          have hrn := hgd.2.1
          have hrv := hgd.2.2.2
          have hrvr := p_rpv_r f fz (p_at f fz x j)
          have hix : (41 * (t : Int) + p_rn f fz (p_at f fz x j)).toNat = 41 * t + (p_rn f fz (p_at f fz x j)).toNat := by omega
          refine v_iload C dM_learn_157 rfl ?_
          refine v_iload_n C dM_learn_159 rfl rfl ?_
          refine v_icmp_ge (tgt := 252) C dM_learn_160 (by decide) (by omega) (by omega) (fun hc7 => ?_) (fun hc7 => ?_)
          · exfalso; omega
          · refine v_aload_n C dM_learn_163 rfl rfl ?_
            refine v_iload C dM_learn_164 rfl ?_
            have hzz8 : 0 ≤ S.1 0 7 ∧ S.1 0 7 ≤ 12000 := by rw [hS.2 0 7 (by decide), hB7]; exact hz0
            have h779 : ∀ i, -128 ≤ S.2 7 i ∧ S.2 7 i ≤ 127 := fun i => by rw [hS.1, hBf]; exact h7 i
            have hzz8f : S.2 7 = f := by rw [hS.1]; exact hBf
            have hzz8z : S.1 0 7 = fz := by rw [hS.2 0 7 (by decide)]; exact hB7
            refine v_cVI (k := 0) (n := 1) C (mE_ok _) trivial hR (kM_isRow _ xCl D cA ad hJ S (p_at f fz x j) (by omega) hzz8 h779) dM_learn_166 (by show (0 : Nat) < 18; decide) rfl rfl gM_172 (by decide +kernel) (by decide) (by decide) rfl (Nat.le_of_ble_eq_true rfl) rfl ⟨rfl, rfl⟩ (fun rr S4 hp4 => ?_)
            rw [hzz8f, hzz8z] at hp4
            obtain ⟨w0, w20, hp4⟩ := hp4
            have hS4 := m_scr_tr hS w0
            have hq4 : S4.1 0 26 = p_rn f fz (p_at f fz x j) ∧ S4.1 0 27 = p_rpv f fz (p_at f fz x j) := by rcases hp4 with ⟨-, -, w26, w27⟩ | ⟨gn, -⟩; (· exact ⟨w26, p_rp_v w27⟩); (· exact absurd hgd.1 gn)
            obtain ⟨w26, w27⟩ := hq4
            refine v_pop C dM_learn_169 rfl ?_
            refine v_aload_n C dM_learn_170 rfl rfl ?_
            refine v_getI (k := 0) (q := 20) (v := p_eol f fz (p_at f fz x j)) C dM_learn_171 (by show (0 : Nat) < 18; decide) rfl rfl (by decide) rfl inM lM_144 rfl w20 ?_
            refine v_iconst C dM_learn_174 ?_
            refine v_iadd C dM_learn_175 ?_
            refine v_istore C dM_learn_176 (by decide) ?_
            refine v_aload_n C dM_learn_178 rfl rfl ?_
            refine v_getI (k := 0) (q := 26) (v := p_rn f fz (p_at f fz x j)) C dM_learn_179 (by show (0 : Nat) < 18; decide) rfl rfl (by decide) rfl inM lM_113 rfl w26 ?_
            refine v_istore C dM_learn_182 (by decide) ?_
            refine v_aload_n C dM_learn_184 rfl rfl ?_
            refine v_getR (k := 0) (q := 13) C dM_learn_185 (by show (0 : Nat) < 18; decide) rfl rfl (by decide) rfl inM lM_39 rfl ?_
            refine v_iload_n C dM_learn_188 rfl rfl ?_
            refine v_iload C dM_learn_189 rfl ?_
            refine v_iadd C dM_learn_191 ?_
            refine v_aload_n C dM_learn_192 rfl rfl ?_
            refine v_getI (k := 0) (q := 27) (v := p_rpv f fz (p_at f fz x j)) C dM_learn_193 (by show (0 : Nat) < 18; decide) rfl rfl (by decide) rfl inM lM_163 rfl w27 ?_
            refine v_iast (k := 10) C dM_learn_196 (by show (10 : Nat) < 18; decide) rfl rfl (by omega) (by decide) ?_
            refine v_aload_n C dM_learn_197 rfl rfl ?_
            refine v_getI (k := 0) (q := 27) (v := p_rpv f fz (p_at f fz x j)) C dM_learn_198 (by show (0 : Nat) < 18; decide) rfl rfl (by decide) rfl inM lM_163 rfl w27 ?_
            refine v_iconst C dM_learn_201 ?_
            refine v_icmp_eq (tgt := 246) C dM_learn_202 (by decide) (by omega) (by omega) (fun hc10 => ?_) (fun hc10 => ?_)
            · refine v_iinc C dM_learn_246 rfl (by decide) ?_
              refine v_goto (tgt := 157) C dM_learn_249 (by decide) ?_
              exact v_lv rfl (ih2 (j + 1) (by omega) _ (by show m_scr (m_rw1 _ _ _ _ _) _; unfold m_rw1; rw [if_pos (by omega), hix]; exact m_scr_q2 hS4 _ _ _) _)
            · refine v_aload_n C dM_learn_205 rfl rfl ?_
              refine v_aload_n C dM_learn_206 rfl rfl ?_
              refine v_getI (k := 0) (q := 27) (v := p_rpv f fz (p_at f fz x j)) C dM_learn_207 (by show (0 : Nat) < 18; decide) rfl rfl (by decide) rfl inM lM_163 rfl w27 ?_
              refine v_iload C dM_learn_210 rfl ?_
              refine v_aload_n C dM_learn_212 rfl rfl ?_
              refine v_getI (k := 0) (q := 7) (v := fz) C dM_learn_213 (by show (0 : Nat) < 18; decide) rfl rfl (by decide) rfl inM lM_116 rfl ((hS4.2 0 7 (by decide)).trans hB7) ?_
              obtain ⟨S4b, hS4b⟩ : ∃ s, s = f_p2 S4 10 (41 * (t : Int) + p_rn f fz (p_at f fz x j)).toNat (p_rpv f fz (p_at f fz x j)) := ⟨_, rfl⟩
              refine v_st hS4b.symm ?_
              have hS4s : m_scr (f_p2 (m_rwF f fz (m_cp B t 41) t x j) 10 (41 * t + (p_rn f fz (p_at f fz x j)).toNat) (p_rpv f fz (p_at f fz x j))) S4b := by rw [hS4b, hix]; exact m_scr_q2 hS4 _ _ _
              have hzb : 0 ≤ S4b.1 0 7 ∧ S4b.1 0 7 ≤ 12000 := by rw [hS4b]; show 0 ≤ S4.1 0 7 ∧ S4.1 0 7 ≤ 12000; rw [hS4.2 0 7 (by decide), hB7]; exact hz0
              have hfb : S4b.2 7 = f := by rw [hS4b]; funext b; rw [p2_2, if_neg (by omega), hS4.1, hBf]
              have hzb2 : S4b.1 0 7 = fz := by rw [hS4b]; show S4.1 0 7 = fz; rw [hS4.2 0 7 (by decide)]; exact hB7
              have hrc : p_rec f fz (p_rpv f fz (p_at f fz x j)) (p_rn f fz (p_at f fz x j)) fz := by rcases hrk with e | e; (· omega); (· exact p_rec_le e (by omega))
              refine v_cVI (k := 0) (n := 3) C (mE_ok _) trivial hR (kM_isRecord _ xCl D cA ad hJ S4b (p_rpv f fz (p_at f fz x j)) (p_rn f fz (p_at f fz x j)) fz (by omega) (by omega) (by omega) (by omega) hzb (fun i => by rw [hfb]; exact h7 i)) dM_learn_216 (by show (0 : Nat) < 18; decide) rfl rfl gM_181 (by decide +kernel) (by decide) (by decide) rfl (Nat.le_of_ble_eq_true rfl) rfl ⟨rfl, rfl⟩ (fun rc S5 hp5 => ?_)
              rw [hfb, hzb2] at hp5
              obtain ⟨v0, hp5⟩ := hp5
              have hS5 := m_scr_tr hS4s v0
              have hq5 : S5.1 0 26 = p_eol f fz (p_rpv f fz (p_at f fz x j)) + 1 ∧ S5.1 0 27 = p_rl f fz (p_rpv f fz (p_at f fz x j)) := by rcases hp5 with ⟨-, -, v26, v27⟩ | ⟨gn, -⟩; (· exact ⟨v26, v27⟩); (· exact absurd hrc gn)
              obtain ⟨v26, v27⟩ := hq5
              refine v_pop C dM_learn_219 rfl ?_
              refine v_aload_n C dM_learn_220 rfl rfl ?_
              refine v_getR (k := 0) (q := 14) C dM_learn_221 (by show (0 : Nat) < 18; decide) rfl rfl (by decide) rfl inM lM_42 rfl ?_
              refine v_iload_n C dM_learn_224 rfl rfl ?_
              refine v_iload C dM_learn_225 rfl ?_
              refine v_iadd C dM_learn_227 ?_
              refine v_aload_n C dM_learn_228 rfl rfl ?_
              refine v_getI (k := 0) (q := 26) (v := p_eol f fz (p_rpv f fz (p_at f fz x j)) + 1) C dM_learn_229 (by show (0 : Nat) < 18; decide) rfl rfl (by decide) rfl inM lM_113 rfl v26 ?_
              refine v_iast (k := 11) C dM_learn_232 (by show (11 : Nat) < 18; decide) rfl rfl (by omega) (by decide) ?_
              refine v_aload_n C dM_learn_233 rfl rfl ?_
              refine v_getR (k := 0) (q := 15) C dM_learn_234 (by show (0 : Nat) < 18; decide) rfl rfl (by decide) rfl inM lM_45 rfl ?_
              refine v_iload_n C dM_learn_237 rfl rfl ?_
              refine v_iload C dM_learn_238 rfl ?_
              refine v_iadd C dM_learn_240 ?_
              refine v_aload_n C dM_learn_241 rfl rfl ?_
              refine v_getI (k := 0) (q := 27) (v := p_rl f fz (p_rpv f fz (p_at f fz x j))) C dM_learn_242 (by show (0 : Nat) < 18; decide) rfl rfl (by decide) rfl inM lM_163 rfl v27 ?_
              refine v_iast (k := 12) C dM_learn_245 (by show (12 : Nat) < 18; decide) rfl rfl (by omega) (by decide) ?_
              refine v_iinc C dM_learn_246 rfl (by decide) ?_
              refine v_goto (tgt := 157) C dM_learn_249 (by decide) ?_
              exact v_lv rfl (ih2 (j + 1) (by omega) _ (by show m_scr (m_rw1 _ _ _ _ _) _; unfold m_rw1; rw [if_neg (by omega), hix]; exact m_scr_q2 (m_scr_q2 hS5 _ _ _) _ _ _) _)
      have L1 : ∀ (n k : Nat), n + k = 41 → 1 ≤ k → ∀ (S : fS), m_scr (m_cp B t k) S → ∀ o4 o5 o6 : Option Value, fv z (mG xCl D cA ad) 7 (f_R z (mG xCl D cA ad) (f_QV (fun σ1 => m_scr (m_lF f fz σ xs pts pts) σ1) (mG xCl D cA ad))) 0 0 S 26 [some (.ref (ad 0)), some (.int (fI ((pts : Int) - 1 - (t : Int)))), some (.int (fI (41 * (t : Int)))), some (.int (fI (k : Int))), o4, o5, o6] [] := by
        intro n
        induction n with
        | zero =>
          intro k hk hk1 S hS o4 o5 o6
          have hB7 : (m_cp B t k).1 0 7 = fz := hB7
          have hB10 : (m_cp B t k).1 0 10 = (t : Int) := hB10
          have hB24 : (m_cp B t k).1 0 24 = (pts : Int) := hB24
          have hBf : (m_cp B t k).2 7 = f := by rw [m_cp_o _ _ _ _ (by decide)]; exact hBf
          have hB15 : (m_cp B t k).2 15 ((pts : Int) - 1 - (t : Int)).toNat = x := by rw [m_cp_o _ _ _ _ (by decide)]; exact hB15
          obtain rfl : k = 41 := by omega
          refine v_iload_n C dM_learn_26 rfl rfl ?_
          refine v_bipush C dM_learn_27 (by decide +kernel) ?_
          refine v_icmp_gt (tgt := 128) C dM_learn_29 (by decide) (by omega) (by omega) (fun hc11 => ?_) (fun hc11 => ?_)
          · refine v_aload_n C dM_learn_128 rfl rfl ?_
            refine v_aload_n C dM_learn_129 rfl rfl ?_
            refine v_getR (k := 0) (q := 25) C dM_learn_130 (by show (0 : Nat) < 18; decide) rfl rfl (by decide) rfl inM lM_54 rfl ?_
            refine v_iload_n C dM_learn_133 rfl rfl ?_
            refine v_iald (k := 15) (v := x) C dM_learn_134 (by show (15 : Nat) < 18; decide) rfl rfl (by omega) (by decide) (by rw [hS.1]; exact hB15) ?_
            refine v_bipush C dM_learn_135 (by decide +kernel) ?_
            have hzz12 : 0 ≤ S.1 0 7 ∧ S.1 0 7 ≤ 12000 := by rw [hS.2 0 7 (by decide), hB7]; exact hz0
            have h7713 : ∀ i, -128 ≤ S.2 7 i ∧ S.2 7 i ≤ 127 := fun i => by rw [hS.1, hBf]; exact h7 i
            have hzz12f : S.2 7 = f := by rw [hS.1]; exact hBf
            have hzz12z : S.1 0 7 = fz := by rw [hS.2 0 7 (by decide)]; exact hB7
            refine v_cVI (k := 0) (n := 2) C (mE_ok _) trivial hR (kM_tells _ xCl D cA ad hJ S x 120 (by omega) (by omega) hzz12 h7713) dM_learn_137 (by show (0 : Nat) < 18; decide) rfl rfl gM_169 (by decide +kernel) (by decide) (by decide) rfl (Nat.le_of_ble_eq_true rfl) rfl ⟨rfl, rfl⟩ (fun rt S3 hp3 => ?_)
            rw [hzz12f, hzz12z] at hp3
            obtain ⟨g0, -, -, hp3⟩ := hp3
            have hS3 := m_scr_tr hS g0
            have hq3 : S3.1 0 20 = p_eol f fz x ∧ S3.1 0 22 = p_tv f fz x := by rcases hp3 with ⟨-, -, g20, g22⟩ | ⟨gn, -⟩; (· exact ⟨g20, g22⟩); (· exact absurd hok1.1 gn)
            obtain ⟨g20, g22⟩ := hq3
            refine v_pop C dM_learn_140 rfl ?_
            refine v_aload_n C dM_learn_141 rfl rfl ?_
            refine v_getI (k := 0) (q := 22) (v := p_tv f fz x) C dM_learn_142 (by show (0 : Nat) < 18; decide) rfl rfl (by decide) rfl inM lM_147 rfl g22 ?_
            refine v_istore_n C dM_learn_145 rfl (by decide) ?_
            refine v_aload_n C dM_learn_146 rfl rfl ?_
            refine v_getI (k := 0) (q := 20) (v := p_eol f fz x) C dM_learn_147 (by show (0 : Nat) < 18; decide) rfl rfl (by decide) rfl inM lM_144 rfl g20 ?_
            refine v_iconst C dM_learn_150 ?_
            refine v_iadd C dM_learn_151 ?_
            refine v_istore C dM_learn_152 (by decide) ?_
            refine v_iconst C dM_learn_154 ?_
            refine v_istore C dM_learn_155 (by decide) ?_
            exact v_lv rfl (L2 (p_many f fz x) 0 (by omega) S3 hS3 _)
          · exfalso; omega
        | succ n ih1 =>
          intro k hk hk1 S hS o4 o5 o6
          have hB7 : (m_cp B t k).1 0 7 = fz := hB7
          have hB10 : (m_cp B t k).1 0 10 = (t : Int) := hB10
          have hB24 : (m_cp B t k).1 0 24 = (pts : Int) := hB24
          have hBf : (m_cp B t k).2 7 = f := by rw [m_cp_o _ _ _ _ (by decide)]; exact hBf
          have hB15 : (m_cp B t k).2 15 ((pts : Int) - 1 - (t : Int)).toNat = x := by rw [m_cp_o _ _ _ _ (by decide)]; exact hB15
          have hik : (41 * (t : Int) + (k : Int)).toNat = 41 * t + k := by omega
          refine v_iload_n C dM_learn_26 rfl rfl ?_
          refine v_bipush C dM_learn_27 (by decide +kernel) ?_
          refine v_icmp_gt (tgt := 128) C dM_learn_29 (by decide) (by omega) (by omega) (fun hc14 => ?_) (fun hc14 => ?_)
          · exfalso; omega
          · refine v_aload_n C dM_learn_32 rfl rfl ?_
            refine v_getR (k := 0) (q := 13) C dM_learn_33 (by show (0 : Nat) < 18; decide) rfl rfl (by decide) rfl inM lM_39 rfl ?_
            refine v_iload_n C dM_learn_36 rfl rfl ?_
            refine v_iload_n C dM_learn_37 rfl rfl ?_
            refine v_iadd C dM_learn_38 ?_
            refine v_aload_n C dM_learn_39 rfl rfl ?_
            refine v_getI (k := 0) (q := 10) (v := (t : Int)) C dM_learn_40 (by show (0 : Nat) < 18; decide) rfl rfl (by decide) rfl inM lM_110 rfl ((hS.2 0 10 (by decide)).trans hB10) ?_
            refine v_if_ne (tgt := 50) C dM_learn_43 (by decide) (by omega) (fun hc15 => ?_) (fun hc15 => ?_)
            · refine v_aload_n C dM_learn_50 rfl rfl ?_
              refine v_getR (k := 0) (q := 13) C dM_learn_51 (by show (0 : Nat) < 18; decide) rfl rfl (by decide) rfl inM lM_39 rfl ?_
              refine v_iload_n C dM_learn_54 rfl rfl ?_
              refine v_bipush C dM_learn_55 (by decide +kernel) ?_
              refine v_isub C dM_learn_57 ?_
              refine v_iload_n C dM_learn_58 rfl rfl ?_
              refine v_iadd C dM_learn_59 ?_
              refine v_iald (k := 10) (v := (B.2 10 (41 * t + k - 41))) C dM_learn_60 (by show (10 : Nat) < 18; decide) rfl rfl (by omega) (by decide) (by rw [hS.1, show (41 * (t : Int) - 41 + (k : Int)).toNat = 41 * t + k - 41 by omega]; exact m_cp_lo _ _ _ _ _ (by omega)) ?_
              refine v_iast (k := 10) C dM_learn_61 (by show (10 : Nat) < 18; decide) rfl rfl (by omega) (by decide) ?_
              refine v_aload_n C dM_learn_62 rfl rfl ?_
              refine v_getR (k := 0) (q := 14) C dM_learn_63 (by show (0 : Nat) < 18; decide) rfl rfl (by decide) rfl inM lM_42 rfl ?_
              refine v_iload_n C dM_learn_66 rfl rfl ?_
              refine v_iload_n C dM_learn_67 rfl rfl ?_
              refine v_iadd C dM_learn_68 ?_
              refine v_aload_n C dM_learn_69 rfl rfl ?_
              refine v_getI (k := 0) (q := 10) (v := (t : Int)) C dM_learn_70 (by show (0 : Nat) < 18; decide) rfl rfl (by decide) rfl inM lM_110 rfl ((hS.2 0 10 (by decide)).trans hB10) ?_
              refine v_if_ne (tgt := 80) C dM_learn_73 (by decide) (by omega) (fun hc16 => ?_) (fun hc16 => ?_)
              · refine v_aload_n C dM_learn_80 rfl rfl ?_
                refine v_getR (k := 0) (q := 14) C dM_learn_81 (by show (0 : Nat) < 18; decide) rfl rfl (by decide) rfl inM lM_42 rfl ?_
                refine v_iload_n C dM_learn_84 rfl rfl ?_
                refine v_bipush C dM_learn_85 (by decide +kernel) ?_
                refine v_isub C dM_learn_87 ?_
                refine v_iload_n C dM_learn_88 rfl rfl ?_
                refine v_iadd C dM_learn_89 ?_
                refine v_iald (k := 11) (v := (B.2 11 (41 * t + k - 41))) C dM_learn_90 (by show (11 : Nat) < 18; decide) rfl rfl (by omega) (by decide) (by rw [p2_2, if_neg (by omega)]; rw [hS.1, show (41 * (t : Int) - 41 + (k : Int)).toNat = 41 * t + k - 41 by omega]; exact m_cp_lo _ _ _ _ _ (by omega)) ?_
                refine v_iast (k := 11) C dM_learn_91 (by show (11 : Nat) < 18; decide) rfl rfl (by omega) (by decide) ?_
                refine v_aload_n C dM_learn_92 rfl rfl ?_
                refine v_getR (k := 0) (q := 15) C dM_learn_93 (by show (0 : Nat) < 18; decide) rfl rfl (by decide) rfl inM lM_45 rfl ?_
                refine v_iload_n C dM_learn_96 rfl rfl ?_
                refine v_iload_n C dM_learn_97 rfl rfl ?_
                refine v_iadd C dM_learn_98 ?_
                refine v_aload_n C dM_learn_99 rfl rfl ?_
                refine v_getI (k := 0) (q := 10) (v := (t : Int)) C dM_learn_100 (by show (0 : Nat) < 18; decide) rfl rfl (by decide) rfl inM lM_110 rfl ((hS.2 0 10 (by decide)).trans hB10) ?_
                refine v_if_ne (tgt := 110) C dM_learn_103 (by decide) (by omega) (fun hc17 => ?_) (fun hc17 => ?_)
                · refine v_aload_n C dM_learn_110 rfl rfl ?_
                  refine v_getR (k := 0) (q := 15) C dM_learn_111 (by show (0 : Nat) < 18; decide) rfl rfl (by decide) rfl inM lM_45 rfl ?_
                  refine v_iload_n C dM_learn_114 rfl rfl ?_
                  refine v_bipush C dM_learn_115 (by decide +kernel) ?_
                  refine v_isub C dM_learn_117 ?_
                  refine v_iload_n C dM_learn_118 rfl rfl ?_
                  refine v_iadd C dM_learn_119 ?_
                  refine v_iald (k := 12) (v := (B.2 12 (41 * t + k - 41))) C dM_learn_120 (by show (12 : Nat) < 18; decide) rfl rfl (by omega) (by decide) (by rw [p2_2, if_neg (by omega)]; rw [p2_2, if_neg (by omega)]; rw [hS.1, show (41 * (t : Int) - 41 + (k : Int)).toNat = 41 * t + k - 41 by omega]; exact m_cp_lo _ _ _ _ _ (by omega)) ?_
                  refine v_iast (k := 12) C dM_learn_121 (by show (12 : Nat) < 18; decide) rfl rfl (by omega) (by decide) ?_
                  refine v_iinc C dM_learn_122 rfl (by decide) ?_
                  refine v_goto (tgt := 26) C dM_learn_125 (by decide) ?_
                  exact v_lv rfl (ih1 (k + 1) (by omega) (by omega) _ (by have hcs := m_cp_s B t k hk1; unfold m_cpv at hcs; rw [if_neg (show ¬ t = 0 by omega), if_neg (show ¬ t = 0 by omega), if_neg (show ¬ t = 0 by omega)] at hcs; rw [← hcs, hik]; exact m_scr_q2 (m_scr_q2 (m_scr_q2 hS _ _ _) _ _ _) _ _ _) _ _ _)
                · exfalso; omega
              · exfalso; omega
            · refine v_iconst C dM_learn_46 ?_
              refine v_goto (tgt := 61) C dM_learn_47 (by decide) ?_
              refine v_iast (k := 10) C dM_learn_61 (by show (10 : Nat) < 18; decide) rfl rfl (by omega) (by decide) ?_
              refine v_aload_n C dM_learn_62 rfl rfl ?_
              refine v_getR (k := 0) (q := 14) C dM_learn_63 (by show (0 : Nat) < 18; decide) rfl rfl (by decide) rfl inM lM_42 rfl ?_
              refine v_iload_n C dM_learn_66 rfl rfl ?_
              refine v_iload_n C dM_learn_67 rfl rfl ?_
              refine v_iadd C dM_learn_68 ?_
              refine v_aload_n C dM_learn_69 rfl rfl ?_
              refine v_getI (k := 0) (q := 10) (v := (t : Int)) C dM_learn_70 (by show (0 : Nat) < 18; decide) rfl rfl (by decide) rfl inM lM_110 rfl ((hS.2 0 10 (by decide)).trans hB10) ?_
              refine v_if_ne (tgt := 80) C dM_learn_73 (by decide) (by omega) (fun hc18 => ?_) (fun hc18 => ?_)
              · exfalso; omega
              · refine v_iconst C dM_learn_76 ?_
                refine v_goto (tgt := 91) C dM_learn_77 (by decide) ?_
                refine v_iast (k := 11) C dM_learn_91 (by show (11 : Nat) < 18; decide) rfl rfl (by omega) (by decide) ?_
                refine v_aload_n C dM_learn_92 rfl rfl ?_
                refine v_getR (k := 0) (q := 15) C dM_learn_93 (by show (0 : Nat) < 18; decide) rfl rfl (by decide) rfl inM lM_45 rfl ?_
                refine v_iload_n C dM_learn_96 rfl rfl ?_
                refine v_iload_n C dM_learn_97 rfl rfl ?_
                refine v_iadd C dM_learn_98 ?_
                refine v_aload_n C dM_learn_99 rfl rfl ?_
                refine v_getI (k := 0) (q := 10) (v := (t : Int)) C dM_learn_100 (by show (0 : Nat) < 18; decide) rfl rfl (by decide) rfl inM lM_110 rfl ((hS.2 0 10 (by decide)).trans hB10) ?_
                refine v_if_ne (tgt := 110) C dM_learn_103 (by decide) (by omega) (fun hc19 => ?_) (fun hc19 => ?_)
                · exfalso; omega
                · refine v_iconst C dM_learn_106 ?_
                  refine v_goto (tgt := 121) C dM_learn_107 (by decide) ?_
                  refine v_iast (k := 12) C dM_learn_121 (by show (12 : Nat) < 18; decide) rfl rfl (by omega) (by decide) ?_
                  refine v_iinc C dM_learn_122 rfl (by decide) ?_
                  refine v_goto (tgt := 26) C dM_learn_125 (by decide) ?_
                  exact v_lv rfl (ih1 (k + 1) (by omega) (by omega) _ (by have hcs := m_cp_s B t k hk1; unfold m_cpv at hcs; rw [if_pos (show t = 0 by omega), if_pos (show t = 0 by omega), if_pos (show t = 0 by omega), if_pos rfl, if_neg (by decide), if_neg (by decide)] at hcs; rw [← hcs, hik]; exact m_scr_q2 (m_scr_q2 (m_scr_q2 hS _ _ _) _ _ _) _ _ _) _ _ _)
      refine v_iload_n C dM_learn_12 rfl rfl ?_
      refine v_if_lt (tgt := 316) C dM_learn_13 (by decide) (by omega) (fun hc20 => ?_) (fun hc20 => ?_)
      · exfalso; omega
      · refine v_bipush C dM_learn_16 (by decide +kernel) ?_
        refine v_aload_n C dM_learn_18 rfl rfl ?_
        refine v_getI (k := 0) (q := 10) (v := (t : Int)) C dM_learn_19 (by show (0 : Nat) < 18; decide) rfl rfl (by decide) rfl inM lM_110 rfl ((hS.2 0 10 (by decide)).trans hB10) ?_
        refine v_imul C dM_learn_22 ?_
        refine v_istore_n C dM_learn_23 rfl (by decide) ?_
        refine v_iconst C dM_learn_24 ?_
        refine v_istore_n C dM_learn_25 rfl (by decide) ?_
        exact v_lv rfl (L1 40 1 (by omega) (by omega) S (by rw [← m_cp_1]; exact hS) _ _ _)
  refine v_aload_n C dM_learn_0 rfl rfl ?_
  refine v_iconst C dM_learn_1 ?_
  refine v_putI (k := 0) (q := 10) C dM_learn_2 (by show (0 : Nat) < 18; decide) rfl rfl (by decide) rfl inM tyM_ok nmM lM_110 rfl rfl rfl rfl rfl ?_
  obtain ⟨S0, hS0⟩ : ∃ s, s = f_p1 σ 0 10 0 := ⟨_, rfl⟩
  refine v_st hS0.symm ?_
  have hpS : S0.1 0 24 = (pts : Int) := by rw [hS0]; exact hp
  refine v_aload_n C dM_learn_5 rfl rfl ?_
  refine v_getI (k := 0) (q := 24) (v := (pts : Int)) C dM_learn_6 (by show (0 : Nat) < 18; decide) rfl rfl (by decide) rfl inM lM_175 rfl hpS ?_
  refine v_iconst C dM_learn_9 ?_
  refine v_isub C dM_learn_10 ?_
  refine v_istore_n C dM_learn_11 rfl (by decide) ?_
  exact v_lv (by simp) (L pts 0 (by omega) S0 (by rw [hS0]; exact m_scr_rf _) none none none none none)
