/-! THE FILE, read by both -/
theorem q_va_i {f : Nat → Int} {z i : Int} (h : 0 ≤ i ∧ i < z) : q_va f z i = f i.toNat := by unfold q_va; rw [if_pos h]
theorem q_fl_eq {f : Nat → Int} {z : Int} (hz : 0 ≤ z) : q_fl f z ↔ p_first f z := by
  obtain ⟨s1, s2, s3⟩ := p_eol_sp (f := f) (z := z) (p := 0) (by omega) hz
  unfold p_first
  simp only [Int.zero_add]
  obtain ⟨le, hle⟩ : ∃ v, v = p_eol f z 0 := ⟨_, rfl⟩
  rw [← hle] at s1 s2 s3 ⊢
  constructor
  · intro h
    have h4 := q_fl_r h
    obtain ⟨h0, h1, h2, h3⟩ := h
    rw [q_va_i (by omega)] at h0 h1 h2 h3
    have e3 : le = 3 := by
      by_cases g : 3 < le
      · exact absurd h3 (s2 3 (by omega) g)
      · by_cases g2 : le = 3
        · exact g2
        · exfalso
          have h10 := s3 (by omega)
          rcases (show le = 0 ∨ le = 1 ∨ le = 2 by omega) with e | e | e <;> rw [e] at h10
          · rw [h0] at h10; exact absurd h10 (by decide)
          · rw [h1] at h10; exact absurd h10 (by decide)
          · rw [h2] at h10; exact absurd h10 (by decide)
    rw [e3]
    exact ⟨by omega, ⟨by omega, h0⟩, ⟨by omega, h1⟩, ⟨by omega, h2⟩, rfl⟩
  · rintro ⟨h1, ⟨-, h2⟩, ⟨-, h3⟩, ⟨-, h4⟩, h5⟩
    have h6 := s3 h1
    rw [← h5] at h6 h1
    exact ⟨by rw [q_va_i (by omega)]; exact h2, by rw [q_va_i (by omega)]; exact h3, by rw [q_va_i (by omega)]; exact h4, by rw [q_va_i (by omega)]; exact h6⟩
theorem q_ll_eq {f : Nat → Int} {z : Int} : ∀ (k : Nat) (p : Int), (k : Int) ≤ p → p ≤ z → q_ll f z k p = lastF f k p := by
  intro k
  induction k with
  | zero => intro p _ _; rfl
  | succ k ih =>
    intro p h1 h2
    show (if q_va f z (p - 1) = 10 then p else q_ll f z k (p - 1)) = if f (p - 1).toNat = 10 then p else lastF f k (p - 1)
    push_cast at h1
    rw [q_va_i (by omega), ih (p - 1) (by omega) (by omega)]
theorem q_lst_eq {f : Nat → Int} {z : Int} (hz : 1 ≤ z) : q_lst f z = p_lst f z := by
  unfold q_lst p_lst
  exact q_ll_eq _ _ (by omega) (by omega)
theorem q_okL_eq {f : Nat → Int} {z : Int} (hz : 4 ≤ z) : (q_okL f z ↔ (p_tell f z (p_lst f z) 101 ∧ p_x0 f z < p_lst f z)) ∧ (q_okL f z → q_nr f z (q_lst f z + 2) = p_x0 f z) := by
  have e := q_lst_eq (f := f) (z := z) (by omega)
  have r := q_lst_r (fb := f) (fn := z) (by omega)
  rw [e] at r
  have tl := q_tell (f := f) (z := z) (p := p_lst f z) (c := 101) r.1 (by omega) (by decide)
  have ex : p_x0 f z = p_tv f z (p_lst f z) := rfl
  unfold q_okL
  rw [e]
  refine ⟨⟨fun h => ?_, fun h => ?_⟩, fun h => ?_⟩
  · have := (tl.2 h.1).1
    exact ⟨tl.1.mp h.1, by have := h.2; omega⟩
  · have h1 := tl.1.mpr h.1
    have := (tl.2 h1).1
    exact ⟨h1, by have := h.2; omega⟩
  · rw [(tl.2 h.1).1, ex]
theorem p_ch_r {f : Nat → Int} {z : Int} {J : Nat} (hx : p_x0 f z < p_lst f z) (hlk : ∀ i, i < J → (∃ g, p_look f z (p_ch f z i) (i + 1) (p_ch f z (i + 1)) g) ∧ 0 < p_ch f z (i + 1)) : ∀ i, i ≤ J → 0 ≤ p_ch f z i ∧ p_ch f z i < p_lst f z := by
  intro i
  induction i with
  | zero => intro _; exact ⟨(p_tv_r f z _).1, hx⟩
  | succ i ih =>
    intro hi
    obtain ⟨g, hg⟩ := (hlk i (by omega)).1
    have hp := (hlk i (by omega)).2
    have ho := (p_look_ok hg (by omega)).1.2.2.1.2
    have := ih (by omega)
    have e : p_ch f z (i + 1) = p_tv f z (p_pl f z (p_ch f z i)) := rfl
    omega
theorem x_ffc_eq {f : Nat → Int} {z : Int} {σ0 : fS} {J : Nat} (hz : 0 ≤ z ∧ z ≤ 12000) (hI : x_I σ0) (hc : σ0.1 192 2 = 0) (hx : p_x0 f z < p_lst f z) (hl : p_lst f z ≤ z - 1) (hlk : ∀ i, i < J → (∃ g, p_look f z (p_ch f z i) (i + 1) (p_ch f z (i + 1)) g) ∧ 0 < p_ch f z (i + 1)) (hlast : ∃ r g, p_look f z (p_ch f z J) ((J : Int) + 1) r g ∧ (r = -1 ∨ r = 0)) (hJ : J ≤ 59) :
    ∀ (j : Nat) (S : fS) (x : Int), j ≤ 59 → x_ffc f z σ0 (p_x0 f z) j S x → (j ≤ J ∧ x = p_ch f z j) ∧ ∀ i, i < j → S.1 (194 + 3 * i) 2 = p_ch f z i ∧ S.1 (194 + 3 * i) 3 = p_end f z (p_ch f z i) ∧ q_tab f z (p_ch f z i) (S.2 (194 + 3 * i + 1)) (S.2 (194 + 3 * i + 2)) := by
  have rng := p_ch_r hx hlk
  intro j
  induction j with
  | zero =>
    intro S x _ h
    obtain ⟨rfl, rfl⟩ := h
    exact ⟨⟨Nat.zero_le _, rfl⟩, fun i hi => absurd hi (by omega)⟩
  | succ j ih =>
    intro S x hj h
    obtain ⟨S1, x1, S2, h1, h2, h3, hxx, hS⟩ := h
    obtain ⟨⟨i1, i2⟩, i3⟩ := ih S1 x1 (by omega) h1
    have hr := rng j i1
    have h0 := (rng 0 (Nat.zero_le _))
    have e0 : p_ch f z 0 = p_x0 f z := rfl
    obtain ⟨f1, f2, f3, f4, -⟩ := x_ffc_I hz hI hc (by omega) j S1 x1 (by omega) h1
    obtain ⟨p1, -, -, -⟩ := x_pf_I (by omega) f1 hz f4 h2
    rw [i2] at h2
    have key : j < J ∧ S2.1 192 4 = p_ch f z (j + 1) ∧ S2.1 (194 + 3 * j) 2 = p_ch f z j ∧ S2.1 (194 + 3 * j) 3 = p_end f z (p_ch f z j) ∧ q_tab f z (p_ch f z j) (S2.2 (194 + 3 * j + 1)) (S2.2 (194 + 3 * j + 2)) := by
      by_cases g : j = J
      · exfalso
        obtain ⟨r, g2, hg, hr2⟩ := hlast
        rw [← g] at hg
        rcases x_pf_eq (by omega) hz (by omega) (by omega) (by rw [f3]) (by omega) h2 hg with ⟨-, e1, e2, -⟩ | ⟨e, -⟩
        · rcases hr2 with e | e
          · exact e1 e
          · exact h3 (by rw [e2, e])
        · exact e rfl
      · obtain ⟨⟨g2, hg⟩, hpos⟩ := hlk j (by omega)
        rcases x_pf_eq (by omega) hz (by omega) (by omega) (by rw [f3]) (by omega) h2 hg with ⟨-, e1, e2, e3⟩ | ⟨e, -⟩
        · exact ⟨by omega, e2, e3⟩
        · exact absurd rfl e
    obtain ⟨k1, k2, k3⟩ := key
    refine ⟨⟨by omega, by rw [hxx, k2]⟩, fun i hi => ?_⟩
    have s1 : ∀ b, S.1 (194 + 3 * i) b = S2.1 (194 + 3 * i) b := fun b => by rw [hS, p1_1, if_neg (by omega)]
    have s2 : ∀ a, S.2 a = S2.2 a := fun a => by rw [hS]; rfl
    rw [s1, s1, s2, s2]
    by_cases g : i = j
    · rw [g]; exact k3
    · rw [p1.2 (194 + 3 * i) 2 (by omega) (by omega), p1.2 (194 + 3 * i) 3 (by omega) (by omega), p1.1 (194 + 3 * i + 1) (by omega) (by omega), p1.1 (194 + 3 * i + 2) (by omega) (by omega)]
      exact i3 i (by omega)
theorem x_ff_eq {f : Nat → Int} {z v r fl pts : Int} {xs : Nat → Int} {σ S : fS} (hz : 0 ≤ z ∧ z ≤ 12000) (hI : x_I σ) (h : x_ff f z σ v S) (hp : p_file f z r fl pts xs) :
    (v ≠ -1 ∧ r = 0 ∧ fl = v) ∨ (v = -1 ∧ r = 1 ∧ ∃ c : Nat, pts = (c : Int) ∧ 1 ≤ c ∧ c ≤ 60 ∧ S.1 192 2 = (c : Int) ∧ ∀ i, i < c → S.1 (194 + 3 * i) 2 = xs i ∧ S.1 (194 + 3 * i) 3 = p_end f z (xs i) ∧ q_tab f z (xs i) (S.2 (194 + 3 * i + 1)) (S.2 (194 + 3 * i + 2))) := by
  rcases h with ⟨a1, a2, a3⟩ | ⟨a1, h⟩
  · rcases hp with ⟨-, b2, b3⟩ | ⟨b1, -⟩
    · left; exact ⟨by omega, b2, by omega⟩
    · exact absurd ((q_fl_eq hz.1).mpr b1) a1
  have h4 := q_fl_r a1
  rcases hp with ⟨b1, -⟩ | ⟨b1, hp⟩
  · exact absurd ((q_fl_eq hz.1).mp a1) b1
  have eva := q_va_i (f := f) (z := z) (i := z - 1) (by omega)
  rw [eva] at h
  rcases h with ⟨a2, a3, a4⟩ | ⟨a2, y, h⟩
  · rcases hp with ⟨-, b2, b3⟩ | ⟨b2, -⟩
    · left; exact ⟨by omega, b2, by omega⟩
    · exact absurd b2 a2
  rcases hp with ⟨b2, -⟩ | ⟨-, hp⟩
  · exact absurd a2 b2
  have hok := q_okL_eq (f := f) (z := z) h4
  have lst := q_lst_eq (f := f) (z := z) (by omega)
  have lr := q_lst_r (fb := f) (fn := z) (by omega)
  rcases h with ⟨a3, a4, a5⟩ | ⟨a3, j, S1, x, hj, hc, h⟩
  · rcases hp with ⟨-, b3, b4⟩ | ⟨b3, -⟩
    · left; exact ⟨by omega, b3, by rw [b4, a4, lst]⟩
    · exact absurd (hok.1.mpr b3) a3
  rcases hp with ⟨b3, -⟩ | ⟨b3, J, hJ, hlk, hp⟩
  · exact absurd (hok.1.mp a3) b3
  have hlast : ∃ r g, p_look f z (p_ch f z J) ((J : Int) + 1) r g ∧ (r = -1 ∨ r = 0) := by
    rcases hp with ⟨g, -⟩ | ⟨⟨g, hg⟩, -⟩
    · exact ⟨-1, fl, g, Or.inl rfl⟩
    · exact ⟨0, g, hg, Or.inr rfl⟩
  rw [hok.2 a3] at hc
  have rng := p_ch_r b3.2 hlk
  have I0 : x_I (x_nx (f_p1 σ 192 2 0) y) := x_I_192 (x_I_192 hI _ _) _ _
  obtain ⟨⟨c1, c2⟩, c3⟩ := x_ffc_eq hz I0 rfl b3.2 (by omega) hlk hlast hJ j S1 x hj hc
  have r0 := rng 0 (Nat.zero_le _)
  have e0 : p_ch f z 0 = p_x0 f z := rfl
  obtain ⟨i1, -, i3, i4, -⟩ := x_ffc_I hz I0 rfl (by omega) j S1 x (by omega) hc
  have hr := rng j c1
  rcases h with ⟨hv, hpf⟩ | ⟨hv, S2, hpf, hb, hS⟩
  · rw [c2] at hpf
    by_cases g : j = J
    · subst g
      rcases hp with ⟨hlk2, hr0⟩ | ⟨⟨g, hg⟩, -⟩
      · rcases x_pf_eq (by omega) hz (by omega) (by omega) (by rw [i3]) (by omega) hpf hlk2 with ⟨e, -⟩ | ⟨-, -, e3⟩
        · exact absurd e hv
        · left; exact ⟨hv, hr0, e3⟩
      · rcases x_pf_eq (by omega) hz (by omega) (by omega) (by rw [i3]) (by omega) hpf hg with ⟨e, -⟩ | ⟨-, e, -⟩
        · exact absurd e hv
        · exact absurd e (by decide)
    · obtain ⟨⟨g2, hg⟩, hpos⟩ := hlk j (by omega)
      rcases x_pf_eq (by omega) hz (by omega) (by omega) (by rw [i3]) (by omega) hpf hg with ⟨e, -⟩ | ⟨-, e, -⟩
      · exact absurd e hv
      · omega
  · obtain ⟨p1, -, -, -⟩ := x_pf_I (by omega) i1 hz i4 hpf
    rw [c2] at hpf
    by_cases g : j = J
    · subst g
      rcases hp with ⟨hlk2, -⟩ | ⟨⟨g, hg⟩, hr1, hpts, hxs⟩
      · rcases x_pf_eq (by omega) hz (by omega) (by omega) (by rw [i3]) (by omega) hpf hlk2 with ⟨-, e, -⟩ | ⟨e, -⟩
        · exact absurd rfl e
        · exact absurd rfl e
      · rcases x_pf_eq (by omega) hz (by omega) (by omega) (by rw [i3]) (by omega) hpf hg with ⟨-, -, -, d⟩ | ⟨e, -⟩
        · right
          refine ⟨hv, hr1, j + 1, by push_cast; omega, by omega, by omega, ?_, fun i hi => ?_⟩
          · rw [hS, p1_1, if_pos ⟨rfl, rfl⟩]; push_cast; rfl
          · have s1 : ∀ b, S.1 (194 + 3 * i) b = S2.1 (194 + 3 * i) b := fun b => by rw [hS, p1_1, if_neg (by omega)]
            have s2 : ∀ a, S.2 a = S2.2 a := fun a => by rw [hS]; rfl
            rw [s1, s1, s2, s2, hxs i (by omega)]
            by_cases e : i = j
            · rw [e]; exact d
            · rw [p1.2 (194 + 3 * i) 2 (by omega) (by omega), p1.2 (194 + 3 * i) 3 (by omega) (by omega), p1.1 (194 + 3 * i + 1) (by omega) (by omega), p1.1 (194 + 3 * i + 2) (by omega) (by omega)]
              exact c3 i (by omega)
        · exact absurd rfl e
    · exfalso
      obtain ⟨⟨g2, hg⟩, hpos⟩ := hlk j (by omega)
      rcases x_pf_eq (by omega) hz (by omega) (by omega) (by rw [i3]) (by omega) hpf hg with ⟨-, -, e, -⟩ | ⟨e, -⟩
      · omega
      · exact absurd rfl e
