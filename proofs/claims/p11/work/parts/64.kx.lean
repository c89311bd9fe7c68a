/-! what a part's reading leaves -/
theorem x_rlF_at (fb : Nat → Int) (fn : Int) (σ : fS) (r b : Nat) : ∀ k, (x_rlF fb fn σ r k).2 (r + 2) b = if (1 ≤ b ∧ b ≤ k) ∧ 0 ≤ σ.2 (r + 1) b then q_len fb fn (σ.2 (r + 1) b) else σ.2 (r + 2) b := by
  intro k
  induction k with
  | zero => rw [if_neg (by omega)]; rfl
  | succ k ih =>
    show (if 0 ≤ σ.2 (r + 1) (k + 1) then f_p2 (x_rlF fb fn σ r k) (r + 2) (k + 1) (q_len fb fn (σ.2 (r + 1) (k + 1))) else x_rlF fb fn σ r k : fS).2 (r + 2) b = _
    by_cases hb : b = k + 1
    · subst hb
      by_cases g : 0 ≤ σ.2 (r + 1) (k + 1)
      · rw [if_pos g, p2_2, if_pos ⟨rfl, rfl⟩, if_pos ⟨by omega, g⟩]
      · rw [if_neg g, ih, if_neg (by omega), if_neg (by omega)]
    · have e : (if 0 ≤ σ.2 (r + 1) (k + 1) then f_p2 (x_rlF fb fn σ r k) (r + 2) (k + 1) (q_len fb fn (σ.2 (r + 1) (k + 1))) else x_rlF fb fn σ r k : fS).2 (r + 2) b = (x_rlF fb fn σ r k).2 (r + 2) b := by
        split
        · rw [p2_2, if_neg (by omega)]
        · rfl
      rw [e, ih]
      by_cases g : (1 ≤ b ∧ b ≤ k) ∧ 0 ≤ σ.2 (r + 1) b
      · rw [if_pos g, if_pos ⟨by omega, g.2⟩]
      · rw [if_neg g, if_neg (by omega)]
/-- every told row has a length -/
def x_good (σ : fS) (r : Nat) : Prop := ∀ b, 1 ≤ b → b < 41 → σ.2 (r + 1) b ≠ -2 → 0 ≤ σ.2 (r + 2) b ∧ σ.2 (r + 2) b ≤ 120
def x_frP (σ : fS) (r : Nat) (σ1 : fS) : Prop := (∀ a, a ≠ r + 1 → a ≠ r + 2 → σ1.2 a = σ.2 a) ∧ (∀ a b, ¬ (a = 192 ∧ (b = 3 ∨ b = 4)) → ¬ (a = r ∧ (b = 2 ∨ b = 3)) → σ1.1 a b = σ.1 a b)
def x_scP (σ : fS) (r : Nat) (σ1 : fS) : Prop := x_frP σ r σ1 ∧ (∀ i, -2 ≤ σ1.2 (r + 1) i ∧ σ1.2 (r + 1) i ≤ 99999) ∧ (∀ i, -1 ≤ σ1.2 (r + 2) i ∧ σ1.2 (r + 2) i ≤ 120) ∧ (0 ≤ σ1.1 r 2 ∧ σ1.1 r 2 ≤ 12000) ∧ (0 ≤ σ1.1 r 3 ∧ σ1.1 r 3 ≤ 12000)
theorem x_scP_I {σ σ1 : fS} {i : Nat} (hi : i < 60) (h : x_I σ) (hs : x_scP σ (194 + 3 * i) σ1) : x_I σ1 := by
  obtain ⟨⟨f2, f1⟩, hp, hl, hx, he⟩ := hs
  refine x_I_fr h (fun a b => ?_) (fun a b => ?_)
  · by_cases g1 : a = 192
    · right; rw [g1]; exact x_okF_n _ _ _ (by omega)
    · by_cases g2 : a = 194 + 3 * i ∧ (b = 2 ∨ b = 3)
      · right
        obtain ⟨rfl, rfl | rfl⟩ := g2
        · exact (x_okF_c i hi 2 (Or.inl rfl) _).mpr hx
        · exact (x_okF_c i hi 3 (Or.inr rfl) _).mpr he
      · left; exact f1 a b (by omega) g2
  · by_cases g1 : a = 194 + 3 * i + 1
    · right; rw [g1]; exact (x_okA_cp i hi _).mpr (hp b)
    · by_cases g2 : a = 194 + 3 * i + 2
      · right; rw [g2]; exact (x_okA_cl i hi _).mpr (hl b)
      · left; rw [f2 a g1 g2]
theorem x_frP_tr {σ τ υ : fS} {r : Nat} (h1 : x_frP σ r τ) (h2 : x_frP τ r υ) : x_frP σ r υ := ⟨fun a g1 g2 => (h2.1 a g1 g2).trans (h1.1 a g1 g2), fun a b g1 g2 => (h2.2 a b g1 g2).trans (h1.2 a b g1 g2)⟩
theorem x_frP_nx (σ : fS) (r : Nat) (y : Int) : x_frP σ r (x_nx σ y) := ⟨fun _ _ _ => rfl, fun a b g _ => by unfold x_nx; rw [p1_1, if_neg (by omega)]⟩
theorem x_frP_S0 (σ : fS) (r : Nat) (x : Int) : x_frP σ r (x_S0 σ r x) := ⟨fun a g1 g2 => x_S0_2 _ _ _ a ⟨g1, g2⟩, fun a b _ g => x_S0_1 _ _ _ _ _ (by omega)⟩
theorem x_frP_ef {fb : Nat → Int} {fn p v : Int} {σ σ1 : fS} {r : Nat} (h : q_ef fb fn σ r p v σ1) : x_frP σ r σ1 := ⟨fun a _ _ => by rw [h.1.1], fun a b g1 g2 => h.1.2.1 a b g1 (by omega)⟩
theorem x_pf_I {fb : Nat → Int} {fn x v : Int} {σ σ1 : fS} {i : Nat} (hi : i < 60) (h : x_I σ) (hfn : 0 ≤ fn ∧ fn ≤ 12000) (hx : 0 ≤ x ∧ x ≤ 11999) (hp : x_pf fb fn σ (194 + 3 * i) x v σ1) : x_frP σ (194 + 3 * i) σ1 ∧ x_I σ1 ∧ (-1 ≤ v ∧ v ≤ 99999) ∧ (v = -1 → (0 ≤ σ1.1 192 4 ∧ σ1.1 192 4 < x) ∧ x_good σ1 (194 + 3 * i)) := by
  obtain ⟨r, hr⟩ : ∃ r, r = 194 + 3 * i := ⟨_, rfl⟩
  have hbp : ∀ j, -2 ≤ σ.2 (r + 1) j ∧ σ.2 (r + 1) j ≤ 99999 := fun j => by rw [hr]; exact (x_okA_cp i hi _).mp (h.2 _ _)
  have hbl : ∀ j, -1 ≤ σ.2 (r + 2) j ∧ σ.2 (r + 2) j ≤ 120 := fun j => by rw [hr]; exact (x_okA_cl i hi _).mp (h.2 _ _)
  have hbe : 0 ≤ σ.1 r 3 ∧ σ.1 r 3 ≤ 12000 := by rw [hr]; exact (x_okF_c i hi 3 (Or.inr rfl) _).mp (h.1 _ _)
  have key : x_scP σ r σ1 ∧ (-1 ≤ v ∧ v ≤ 99999) ∧ (v = -1 → (0 ≤ σ1.1 192 4 ∧ σ1.1 192 4 < x) ∧ x_good σ1 r) := by
    rw [← hr] at hp
    have s0p : ∀ j, -2 ≤ (x_S0 σ r x).2 (r + 1) j ∧ (x_S0 σ r x).2 (r + 1) j ≤ 99999 := fun j => by
      rw [x_S0_p]; split
      · omega
      · exact hbp j
    have s0l : ∀ j, -1 ≤ (x_S0 σ r x).2 (r + 2) j ∧ (x_S0 σ r x).2 (r + 2) j ≤ 120 := fun j => by
      rw [x_S0_l]; split
      · omega
      · exact hbl j
    have s0r := x_S0_r σ r x
    have s0e : (x_S0 σ r x).1 r 3 = σ.1 r 3 := x_S0_1 _ _ _ _ _ (by omega)
    obtain ⟨S0, hS0⟩ : ∃ s, s = x_S0 σ r x := ⟨_, rfl⟩
    have f0 : x_frP σ r S0 := by rw [hS0]; exact x_frP_S0 _ _ _
    unfold x_pf at hp
    rw [← hS0] at hp s0p s0l s0r s0e
    have nr : ∀ (y : Int) (S : fS) (q : Nat), (x_nx S y).1 r q = S.1 r q := fun y S q => by unfold x_nx; rw [p1_1, if_neg (by omega)]
    rcases hp with ⟨ht, hv, y, rfl⟩ | ⟨ht, v1, S1, h1, hp⟩
    · refine ⟨⟨x_frP_tr f0 (x_frP_nx _ _ _), s0p, s0l, by rw [nr, s0r]; omega, by rw [nr, s0e]; exact hbe⟩, by omega, fun g => by omega⟩
    · have htr := q_tg_r ht (by decide)
      have hPr : 0 ≤ q_eat fb fn x ∧ q_eat fb fn x ≤ fn := by omega
      obtain ⟨hv1, hok, hbad⟩ := q_rf_v h1 hPr
      rcases hp with ⟨hv1n, hv, rfl⟩ | ⟨hv1n, v2, S2, h2, hp⟩
      · obtain ⟨b1, b2, b3⟩ := hbad hv1n
        have f1 : x_frP (x_nx S0 (q_eat fb fn x)) r σ1 := ⟨fun a g1 g2 => b2 a g1, fun a b g1 g2 => b1 a b (by omega)⟩
        refine ⟨⟨x_frP_tr f0 (x_frP_tr (x_frP_nx _ _ _) f1), b3, fun j => by rw [b2 (r + 2) (by omega)]; exact s0l j, by rw [b1 r 2 (by omega), nr, s0r]; omega, by rw [b1 r 3 (by omega), nr, s0e]; exact hbe⟩, by omega, fun g => by omega⟩
      · obtain ⟨hall, hS1⟩ := hok hv1n
        rw [nr, s0r] at hall
        have hP2 := (q_rat_r (x := x) hPr (q_nr fb fn (x + 2)).toNat (fun i hi => hall i (by omega))).1
        obtain ⟨hv2, hok2⟩ := q_ef_v h2 hP2
        have g1 : ∀ a b, ¬ (a = 192 ∧ b = 3) → S1.1 a b = S0.1 a b := fun a b g => by rw [hS1]; unfold x_nx; rw [p1_1, if_neg g, x_rwF_1, p1_1, if_neg g]
        have g2 : ∀ a, a ≠ r + 1 → S1.2 a = S0.2 a := fun a g => by rw [hS1]; show (x_rwF _ _ _ _ _ _).2 a = _; rw [x_rwF_2 _ _ _ _ _ a g]; rfl
        have g3 : ∀ j, -2 ≤ S1.2 (r + 1) j ∧ S1.2 (r + 1) j ≤ 99999 := fun j => by rw [hS1]; exact x_rwF_r (x := x) (σ := x_nx S0 (q_eat fb fn x)) hPr s0p (q_nr fb fn (x + 2)).toNat (fun i hi => hall i (by omega)) j
        have f1 : x_frP S0 r S1 := ⟨fun a k1 k2 => g2 a k1, fun a b k1 k2 => g1 a b (by omega)⟩
        have f2 := x_frP_ef h2
        have x1 : S1.1 r 2 = x := by rw [g1 r 2 (by omega)]; exact s0r
        have x2 : S2.1 r 2 = x := by rw [h2.1.2.1 r 2 (by omega) (by omega)]; exact x1
        have e2 : 0 ≤ S2.1 r 3 ∧ S2.1 r 3 ≤ 12000 := by
          rcases h2.1.2.2 with e | e
          · rw [e, g1 r 3 (by omega), s0e]; exact hbe
          · omega
        have p2 : ∀ j, -2 ≤ S2.2 (r + 1) j ∧ S2.2 (r + 1) j ≤ 99999 := fun j => by rw [h2.1.1]; exact g3 j
        have l2 : ∀ j, -1 ≤ S2.2 (r + 2) j ∧ S2.2 (r + 2) j ≤ 120 := fun j => by rw [h2.1.1, g2 (r + 2) (by omega)]; exact s0l j
        rcases hp with ⟨hv2n, hv, rfl⟩ | ⟨hv2n, hc⟩
        · exact ⟨⟨x_frP_tr f0 (x_frP_tr f1 f2), p2, l2, by omega, e2⟩, by omega, fun g => by omega⟩
        · rcases hc with ⟨j, j1, j2, j3, j4, b1, b2, b3⟩ | ⟨j1, j2, y, rfl⟩
          · have f3 : x_frP S2 r σ1 := ⟨fun a k1 k2 => b2 a k2, fun a b k1 k2 => b1 a b (by omega)⟩
            have hj : 0 ≤ S2.2 (r + 1) (j + 1) := by
              by_cases g : 0 ≤ S2.2 (r + 1) (j + 1)
              · exact g
              · exact absurd (fun q => absurd q g) j3
            have := p2 (j + 1)
            exact ⟨⟨x_frP_tr f0 (x_frP_tr f1 (x_frP_tr f2 f3)), fun q => by rw [b2 (r + 1) (by omega)]; exact p2 q, b3, by rw [b1 r 2 (by omega)]; omega, by rw [b1 r 3 (by omega)]; exact e2⟩, by omega, fun g => by omega⟩
          · have b1 : ∀ a b, ¬ (a = 192 ∧ b = 3) → (x_nx (x_rlF fb fn S2 r 40) y).1 a b = S2.1 a b := fun a b g => by unfold x_nx; rw [p1_1, if_neg g, x_rlF_1]
            have b2 : ∀ a, a ≠ r + 2 → (x_nx (x_rlF fb fn S2 r 40) y).2 a = S2.2 a := fun a g => x_rlF_2 fb fn S2 r a g 40
            have f3 : x_frP S2 r (x_nx (x_rlF fb fn S2 r 40) y) := ⟨fun a k1 k2 => b2 a k2, fun a b k1 k2 => b1 a b (by omega)⟩
            obtain ⟨k1, k2, k3, k4⟩ := hok2 hv2n
            have k5 := q_tg_r k1.1 (by decide)
            have k6 := k1.2.1
            refine ⟨⟨x_frP_tr f0 (x_frP_tr f1 (x_frP_tr f2 f3)), fun q => by rw [b2 (r + 1) (by omega)]; exact p2 q, fun q => x_rlF_r l2 40 j1 q, by rw [b1 r 2 (by omega)]; omega, by rw [b1 r 3 (by omega)]; exact e2⟩, by omega, fun _ => ⟨?_, fun b hb1 hb2 hb3 => ?_⟩⟩
            · rw [b1 192 4 (by omega), k3]; omega
            · rw [b2 (r + 1) (by omega)] at hb3
              show 0 ≤ (x_rlF fb fn S2 r 40).2 (r + 2) b ∧ (x_rlF fb fn S2 r 40).2 (r + 2) b ≤ 120
              rw [x_rlF_at]
              by_cases g : (1 ≤ b ∧ b ≤ 40) ∧ 0 ≤ S2.2 (r + 1) b
              · rw [if_pos g]
                have := j1 (b - 1) (by omega)
                unfold q_rci at this
                rw [show b - 1 + 1 = b by omega] at this
                exact (q_rec_r (this g.2)).1
              · rw [if_neg g, h2.1.1, g2 (r + 2) (by omega), hS0, x_S0_l, if_pos hb2]
                omega
  rw [← hr]
  refine ⟨key.1.1, ?_, key.2⟩
  have := key.1
  rw [hr] at this
  exact x_scP_I hi h this

