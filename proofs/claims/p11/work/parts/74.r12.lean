/-! A PART, read by both -/
theorem q_rows {f : Nat → Int} {z x : Int} (hx0 : 0 ≤ x) (hxz : x < z) (ht : q_tg f z x 120) : ∀ j : Nat, ((∀ i, i < j → q_rwi f z x (q_eat f z x) i) ↔ (∀ i, i < j → p_good f z x i)) ∧ ((∀ i, i < j → q_rwi f z x (q_eat f z x) i) → q_rat f z (q_eat f z x) j = p_at f z x j ∧ q_ab f z (q_eat f z x) j = p_lastn f z x j ∧ ∀ i, i < j → q_nr f z (q_rat f z (q_eat f z x) i) = p_rn f z (p_at f z x i) ∧ q_pl f z (q_rat f z (q_eat f z x) i) = p_rpv f z (p_at f z x i)) := by
  have htl := q_tell (f := f) (z := z) (c := 120) hx0 (by omega) (by decide)
  have htr := q_tg_r ht (by decide)
  have he : q_eat f z x = p_eol f z x + 1 := (htl.2 ht).2
  intro j
  induction j with
  | zero =>
    refine ⟨⟨fun _ i hi => absurd hi (by omega), fun _ i hi => absurd hi (by omega)⟩, fun _ => ⟨he, rfl, fun i hi => absurd hi (by omega)⟩⟩
  | succ j ih =>
    obtain ⟨i1, i2⟩ := ih
    have step : (∀ i, i < j → q_rwi f z x (q_eat f z x) i) → ((q_rwi f z x (q_eat f z x) j ↔ p_good f z x j) ∧ (q_rwi f z x (q_eat f z x) j → q_nr f z (q_rat f z (q_eat f z x) j) = p_rn f z (p_at f z x j) ∧ q_pl f z (q_rat f z (q_eat f z x) j) = p_rpv f z (p_at f z x j) ∧ q_re f z (q_rat f z (q_eat f z x) j) = p_eol f z (p_at f z x j))) := by
      intro hall
      obtain ⟨e1, e2, -⟩ := i2 hall
      have hr := q_rat_r (x := x) (show 0 ≤ q_eat f z x ∧ q_eat f z x ≤ z by omega) j hall
      have hq := q_rowq (f := f) (z := z) (p := q_rat f z (q_eat f z x) j) (x := x) (ab := q_ab f z (q_eat f z x) j) hr.1.1 hr.1.2 hx0 hr.2.1
      unfold q_rwi p_good
      rw [e1, e2] at hq
      rw [e1, e2]
      exact hq
    refine ⟨⟨fun h i hi => ?_, fun h i hi => ?_⟩, fun h => ?_⟩
    · have hall := fun i hi => h i (Nat.lt_succ_of_lt hi)
      by_cases g : i = j
      · rw [g]; exact (step hall).1.mp (h j (by omega))
      · exact i1.mp hall i (by omega)
    · have hall := i1.mpr (fun i hi => h i (Nat.lt_succ_of_lt hi))
      by_cases g : i = j
      · rw [g]; exact (step hall).1.mpr (h j (by omega))
      · exact hall i (by omega)
    · have hall := fun i hi => h i (Nat.lt_succ_of_lt hi)
      obtain ⟨e1, e2, e3⟩ := i2 hall
      obtain ⟨s1, s2, s3⟩ := (step hall).2 (h j (by omega))
      refine ⟨?_, ?_, fun i hi => ?_⟩
      · show q_re f z (q_rat f z (q_eat f z x) j) + 1 = _
        rw [s3, p_at_s]
      · show q_nr f z (q_rat f z (q_eat f z x) j) = p_rn f z (p_at f z x j)
        exact s1
      · by_cases g : i = j
        · rw [g]; exact ⟨s1, s2⟩
        · exact e3 i (by omega)
/-- the rows are in order -/
theorem q_mono {f : Nat → Int} {z x p : Int} {j : Nat} (h : ∀ i, i < j → q_rwi f z x p i) : ∀ a b : Nat, a < b → b < j → q_nr f z (q_rat f z p a) < q_nr f z (q_rat f z p b) := by
  intro a b hab hb
  induction b with
  | zero => omega
  | succ b ih =>
    have h1 := (h (b + 1) hb).1.1
    have e : q_ab f z p (b + 1) = q_nr f z (q_rat f z p b) := rfl
    rw [e] at h1
    by_cases g : a = b
    · rw [g]; exact h1
    · have := ih (by omega) (by omega)
      omega
/-- what the rows leave in the table -/
theorem x_rwF_at {f : Nat → Int} {z x p : Int} {S : fS} {r : Nat} (h0 : 0 ≤ p ∧ p ≤ z) : ∀ j : Nat, (∀ i, i < j → q_rwi f z x p i) → (∀ i, i < j → (x_rwF f z S r p j).2 (r + 1) (q_nr f z (q_rat f z p i)).toNat = q_pl f z (q_rat f z p i)) ∧ (∀ n : Nat, (∀ i, i < j → (q_nr f z (q_rat f z p i)).toNat ≠ n) → (x_rwF f z S r p j).2 (r + 1) n = S.2 (r + 1) n) := by
  intro j
  induction j with
  | zero => intro _; exact ⟨fun i hi => absurd hi (by omega), fun _ _ => rfl⟩
  | succ j ih =>
    intro h
    have hall := fun i hi => h i (Nat.lt_succ_of_lt hi)
    obtain ⟨i1, i2⟩ := ih hall
    have e : x_rwF f z S r p (j + 1) = f_p2 (x_rwF f z S r p j) (r + 1) (q_nr f z (q_rat f z p j)).toNat (q_pl f z (q_rat f z p j)) := rfl
    have pos : ∀ i, i < j + 1 → 0 ≤ q_ab f z p i ∧ 0 < q_nr f z (q_rat f z p i) := fun i hi => by
      have a := (q_rat_r h0 i (fun k hk => h k (by omega))).2.1
      have b := (h i hi).1.1
      exact ⟨a, by omega⟩
    rw [e]
    refine ⟨fun i hi => ?_, fun n hn => ?_⟩
    · rw [p2_2]
      by_cases g : i = j
      · rw [g, if_pos ⟨rfl, rfl⟩]
      · have hm := q_mono h i j (by omega) (by omega)
        have p1 := pos i hi
        have p2 := pos j (by omega)
        rw [if_neg (by omega)]
        exact i1 i (by omega)
    · rw [p2_2, if_neg (fun q => hn j (by omega) q.2.symm)]
      exact i2 n (fun i hi => hn i (by omega))
/-- the table T of a part that stands, and its lengths -/
def q_tab (f : Nat → Int) (z x : Int) (T L : Nat → Int) : Prop :=
  (∀ i, i < p_many f z x → T (p_rn f z (p_at f z x i)).toNat = p_rpv f z (p_at f z x i)) ∧ (∀ n : Nat, 1 ≤ n → n ≤ 40 → (∀ i, i < p_many f z x → (p_rn f z (p_at f z x i)).toNat ≠ n) → T n = -2) ∧ (∀ n : Nat, 1 ≤ n → n ≤ 40 → 0 ≤ T n → L n = p_rl f z (T n) ∧ T n + 4 + x_dgs (n : Int) + x_dgs (L n) = p_eol f z (T n) + 1)
theorem x_pf_eq {f : Nat → Int} {z x v pt r fl : Int} {S σ1 : fS} {i : Nat} (hi : i < 60) (hz : 0 ≤ z ∧ z ≤ 12000) (hx : 0 ≤ x ∧ x ≤ 11999) (hxz : x < z) (hct : S.1 192 2 + 1 = pt) (hpt : 1 ≤ pt ∧ pt ≤ 60) (hp : x_pf f z S (194 + 3 * i) x v σ1) (hl : p_look f z x pt r fl) :
    (v = -1 ∧ r ≠ -1 ∧ σ1.1 192 4 = r ∧ σ1.1 (194 + 3 * i) 2 = x ∧ σ1.1 (194 + 3 * i) 3 = p_end f z x ∧ q_tab f z x (σ1.2 (194 + 3 * i + 1)) (σ1.2 (194 + 3 * i + 2))) ∨ (v ≠ -1 ∧ r = -1 ∧ fl = v) := by
  obtain ⟨q, hq⟩ : ∃ q, q = 194 + 3 * i := ⟨_, rfl⟩
  rw [← hq] at hp ⊢
  have htl := q_tell (f := f) (z := z) (p := x) (c := 120) hx.1 (by omega) (by decide)
  rcases hp with ⟨ht, hv, y, hy⟩ | ⟨ht, v1, S1, h1, hp⟩
  · right
    rcases hl with ⟨-, h2, h3⟩ | ⟨h2, -⟩
    · exact ⟨by omega, h2, by omega⟩
    · exact absurd (htl.1.mpr h2) ht
  · obtain ⟨htv, hte⟩ := htl.2 ht
    have htp := htl.1.mp ht
    have htr := q_tg_r ht (by decide)
    have hP : 0 ≤ q_eat f z x ∧ q_eat f z x ≤ z := by omega
    have hmany : (q_nr f z (x + 2)).toNat = p_many f z x := by unfold p_many; rw [htv]
    rcases hl with ⟨h2, -⟩ | ⟨-, hl⟩
    · exact absurd htp h2
    · have nr : ∀ (y : Int) (s : fS) (b : Nat), (x_nx s y).1 q b = s.1 q b := fun y s b => by unfold x_nx; rw [p1_1, if_neg (by omega)]
      have s0r := x_S0_r S q x
      unfold q_rf at h1
      rw [nr, s0r] at h1
      rcases h1 with ⟨j, j1, j2, j3, j4, -⟩ | ⟨j1, j2, j3⟩
      · have hr := q_rows hx.1 hxz ht
        have a1 := (hr j).1.mp j2
        have a2 := ((hr j).2 j2).1
        have a3 : ¬ p_good f z x j := fun g => j3 ((hr (j + 1)).1.mpr (fun i hi => by
          by_cases e : i = j
          · rw [e]; exact g
          · exact a1 i (by omega)) j (by omega))
        have hjm : j < p_many f z x := by omega
        have hv1 : v1 ≠ -1 := by
          have := (q_rat_r hP j j2).1
          omega
        have hvv : v = v1 := by
          rcases hp with ⟨-, e, -⟩ | ⟨e, -⟩
          · exact e
          · exact absurd e hv1
        right
        rcases hl with ⟨k, k1, k2, k3, k4, k5⟩ | ⟨k1, -⟩
        · have e : j = k := by
            rcases Nat.lt_trichotomy j k with g | g | g
            · exact absurd (k2 j g) a3
            · exact g
            · exact absurd (a1 k g) k3
          exact ⟨by omega, k4, by rw [k5, hvv, j4, ← e, a2]⟩
        · exact absurd (k1 j hjm) a3
      · have hall : ∀ i, i < p_many f z x → q_rwi f z x (q_eat f z x) i := fun i hi => j1 i (by omega)
        have hr := q_rows hx.1 hxz ht (p_many f z x)
        have a1 := hr.1.mp hall
        obtain ⟨a2, a3, a4⟩ := hr.2 hall
        rw [hmany] at j3 hp
        have hpl : q_rat f z (q_eat f z x) (p_many f z x) = p_pl f z x := a2
        rcases hl with ⟨k, k1, k2, k3, -⟩ | ⟨-, hl⟩
        · exact absurd (a1 k k1) k3
        · rcases hp with ⟨e, -⟩ | ⟨-, v2, S2, h2, hp⟩
          · exact absurd j2 e
          · have g1 : ∀ a b, ¬ (a = 192 ∧ b = 3) → S1.1 a b = (x_S0 S q x).1 a b := fun a b g => by rw [j3]; unfold x_nx; rw [p1_1, if_neg g, x_rwF_1, p1_1, if_neg g]
            have x1 : S1.1 q 2 = x := by rw [g1 q 2 (by omega)]; exact s0r
            have c1 : S1.1 192 2 = pt - 1 := by rw [g1 192 2 (by omega), x_S0_1 _ _ _ _ _ (by omega)]; omega
            have hPr := (q_rat_r (x := x) hP (p_many f z x) hall).1
            rw [hpl] at h2 hPr
            have tp := q_tell (f := f) (z := z) (p := p_pl f z x) (c := 112) hPr.1 hPr.2 (by decide)
            obtain ⟨hfr, h2⟩ := h2
            rw [x1, c1] at h2
            have okP : q_okP f z x (pt - 1) (p_pl f z x) ↔ p_pok f z x pt := by
              unfold q_okP p_pok
              constructor
              · rintro ⟨w1, w2, w3⟩
                have := (tp.2 w1).1
                exact ⟨tp.1.mp w1, by omega, by omega⟩
              · rintro ⟨w1, w2, w3⟩
                have w4 := tp.1.mpr w1
                have := (tp.2 w4).1
                have := (p_num_v f (p_eol f z (p_pl f z x)) (p_pl f z x + 2)).1
                have e9 : p_tv f z (p_pl f z x) = (p_num f (p_eol f z (p_pl f z x)) (p_pl f z x + 2)).1 := rfl
                exact ⟨w4, by omega, by omega⟩
            rcases h2 with ⟨w, hv2⟩ | ⟨w, h2⟩
            · have hv2n : v2 ≠ -1 := by omega
              right
              rcases hl with ⟨-, l2, l3⟩ | ⟨l1, -⟩
              · rcases hp with ⟨-, e, -⟩ | ⟨e, -⟩
                · exact ⟨by omega, l2, by rw [l3]; omega⟩
                · exact absurd e hv2n
              · exact absurd (okP.mpr l1) w
            · rcases hl with ⟨l1, -⟩ | ⟨-, hl⟩
              · exact absurd (okP.mp w) l1
              · have eel : q_eat f z (p_pl f z x) = p_el f z x := (tp.2 w.1).2
                have tr2 := q_tg_r w.1 (by decide)
                rw [eel] at h2 tr2
                have te := q_tell (f := f) (z := z) (p := p_el f z x) (c := 101) (by omega) (by omega) (by decide)
                have okE : q_okE f z x (p_el f z x) ↔ p_eok f z x := by
                  unfold q_okE p_eok
                  constructor
                  · rintro ⟨w1, w2⟩
                    have := (te.2 w1).1
                    exact ⟨te.1.mp w1, by omega⟩
                  · rintro ⟨w1, w2⟩
                    have w4 := te.1.mpr w1
                    have := (te.2 w4).1
                    exact ⟨w4, by omega⟩
                rcases h2 with ⟨w5, hv2⟩ | ⟨w5, h24, h23, h2⟩
                · have hv2n : v2 ≠ -1 := by omega
                  right
                  rcases hl with ⟨-, l2, l3⟩ | ⟨l1, -⟩
                  · rcases hp with ⟨-, e, -⟩ | ⟨e, -⟩
                    · exact ⟨by omega, l2, by rw [l3]; omega⟩
                    · exact absurd e hv2n
                  · exact absurd (okE.mpr l1) w5
                · rcases hl with ⟨l1, -⟩ | ⟨-, hl⟩
                  · exact absurd (okE.mp w5) l1
                  · have een : q_eat f z (p_el f z x) = p_end f z x := (te.2 w5.1).2
                    have tr3 := q_tg_r w5.1 (by decide)
                    rw [een] at h2 h23 tr3
                    rcases h2 with ⟨w6, w7, hv2⟩ | ⟨w6, hv2⟩
                    · have hv2n : v2 ≠ -1 := by omega
                      right
                      rcases hl with ⟨-, -, l2, l3⟩ | ⟨l1, -⟩
                      · rcases hp with ⟨-, e, -⟩ | ⟨e, -⟩
                        · exact ⟨by omega, l2, by rw [l3]; omega⟩
                        · exact absurd e hv2n
                      · exact absurd ⟨by omega, w7⟩ l1
                    · rcases hl with ⟨l1, l2, -⟩ | ⟨-, hl⟩
                      · exact absurd ⟨by omega, l2⟩ w6
                      · rcases hp with ⟨e, -⟩ | ⟨-, hc⟩
                        · exact absurd hv2 e
                        · -- the records
                          have x2 : S2.1 q 2 = x := by rw [hfr.2.1 q 2 (by omega) (by omega)]; exact x1
                          have T2 : S2.2 (q + 1) = (x_rwF f z (x_nx (x_S0 S q x) (q_eat f z x)) q (q_eat f z x) (p_many f z x)).2 (q + 1) := by rw [hfr.1, j3]; rfl
                          obtain ⟨t1, t2⟩ := x_rwF_at (S := x_nx (x_S0 S q x) (q_eat f z x)) (r := q) hP (p_many f z x) hall
                          have tA : ∀ i, i < p_many f z x → S2.2 (q + 1) (p_rn f z (p_at f z x i)).toNat = p_rpv f z (p_at f z x i) := fun i hi => by
                            obtain ⟨b1, b2⟩ := a4 i hi
                            rw [T2, ← b1, ← b2]; exact t1 i hi
                          have tB : ∀ n : Nat, n < 41 → (∀ i, i < p_many f z x → (p_rn f z (p_at f z x i)).toNat ≠ n) → S2.2 (q + 1) n = -2 := fun n hn h => by
                            rw [T2, t2 n (fun i hi => by rw [(a4 i hi).1]; exact h i hi)]
                            show (x_S0 S q x).2 (q + 1) n = -2
                            rw [x_S0_p, if_pos hn]
                          have rnr : ∀ i, i < p_many f z x → 1 ≤ p_rn f z (p_at f z x i) ∧ p_rn f z (p_at f z x i) ≤ 40 := fun i hi => (a1 i hi).2.1
                          have told : ∀ n : Nat, n < 41 → S2.2 (q + 1) n ≠ -2 → ∃ i, i < p_many f z x ∧ (p_rn f z (p_at f z x i)).toNat = n := fun n hn h => by
                            by_cases g : ∃ i, i < p_many f z x ∧ (p_rn f z (p_at f z x i)).toNat = n
                            · exact g
                            · exact absurd (tB n hn (fun i hi e => g ⟨i, hi, e⟩)) h
                          have recc : ∀ i, i < p_many f z x → p_rpv f z (p_at f z x i) ≠ -1 → (q_rec f z (p_rn f z (p_at f z x i)) (p_rpv f z (p_at f z x i)) x ↔ p_rec f z (p_rpv f z (p_at f z x i)) (p_rn f z (p_at f z x i)) x) := fun i hi h => by
                            have w1 := p_rpv_r f z (p_at f z x i)
                            have w2 := (a1 i hi).2.2.2
                            exact (q_recq (by omega) (by omega) (by omega) (rnr i hi).1).1
                          have rci : ∀ i, i < p_many f z x → (q_rci f z S2 q ((p_rn f z (p_at f z x i)).toNat - 1) ↔ p_rok f z x (p_at f z x i)) := fun i hi => by
                            have w1 := rnr i hi
                            unfold q_rci p_rok
                            rw [show (p_rn f z (p_at f z x i)).toNat - 1 + 1 = (p_rn f z (p_at f z x i)).toNat by omega, tA i hi, x2, show (((p_rn f z (p_at f z x i)).toNat - 1 : Nat) : Int) + 1 = p_rn f z (p_at f z x i) by omega]
                            have w3 := p_rpv_r f z (p_at f z x i)
                            by_cases g : p_rpv f z (p_at f z x i) = -1
                            · exact ⟨fun _ => Or.inl g, fun _ h => by omega⟩
                            · constructor
                              · intro h; exact Or.inr ((recc i hi g).mp (h (by omega)))
                              · rintro (h | h)
                                · exact absurd h g
                                · exact fun _ => (recc i hi g).mpr h
                          have mono := q_mono (j := p_many f z x) hall
                          rcases hc with ⟨j, k1, k2, k3, k4, -⟩ | ⟨k1, k2, y, k3⟩
                          · right
                            have kp : 0 ≤ S2.2 (q + 1) (j + 1) := by
                              by_cases g : 0 ≤ S2.2 (q + 1) (j + 1)
                              · exact g
                              · exact absurd (fun h => absurd h g) k3
                            obtain ⟨i0, i1, i2⟩ := told (j + 1) (by omega) (by omega)
                            have nok : ¬ p_rok f z x (p_at f z x i0) := fun h => k3 (by have := (rci i0 i1).mpr h; rw [i2] at this; exact this)
                            rcases hl with ⟨m, m1, m2, m3, m4, m5⟩ | ⟨m1, -⟩
                            · have e : m = i0 := by
                                rcases Nat.lt_trichotomy m i0 with g | g | g
                                · exfalso
                                  have b1 := mono m i0 g i1
                                  rw [(a4 m m1).1, (a4 i0 i1).1] at b1
                                  have b2 := rnr m m1
                                  have b3 := rnr i0 i1
                                  have := k2 ((p_rn f z (p_at f z x m)).toNat - 1) (by omega)
                                  exact m3 ((rci m m1).mp this)
                                · exact g
                                · exact absurd (m2 i0 g) nok
                              refine ⟨by omega, m4, ?_⟩
                              rw [m5, k4, e, ← tA i0 i1, i2]
                            · exact absurd (m1 i0 i1) nok
                          · left
                            have allok : ∀ i, i < p_many f z x → p_rok f z x (p_at f z x i) := fun i hi => by
                              have w1 := rnr i hi
                              exact (rci i hi).mp (k1 _ (by omega))
                            rcases hl with ⟨m, m1, m2, m3, -⟩ | ⟨-, m2⟩
                            · exact absurd (allok m m1) m3
                            · have b1 : ∀ a b, ¬ (a = 192 ∧ b = 3) → σ1.1 a b = S2.1 a b := fun a b g => by rw [k3]; unfold x_nx; rw [p1_1, if_neg g, x_rlF_1]
                              have b2 : ∀ a, a ≠ q + 2 → σ1.2 a = S2.2 a := fun a g => by rw [k3]; exact x_rlF_2 f z S2 q a g 40
                              have pv := (p_num_v f (p_eol f z (p_pl f z x)) (p_pl f z x + 2)).1
                              have e9 : p_tv f z (p_pl f z x) = (p_num f (p_eol f z (p_pl f z x)) (p_pl f z x + 2)).1 := rfl
                              refine ⟨k2, by omega, ?_, ?_, ?_, ?_, ?_, ?_⟩
                              · rw [b1 192 4 (by omega), h24, (tp.2 w.1).1, m2]
                              · rw [b1 q 2 (by omega)]; exact x2
                              · rw [b1 q 3 (by omega)]; exact h23
                              · intro i hi
                                rw [b2 (q + 1) (by omega)]; exact tA i hi
                              · intro n n1 n40 h
                                rw [b2 (q + 1) (by omega)]; exact tB n (by omega) h
                              · intro n n1 n40 h
                                rw [b2 (q + 1) (by omega)] at h ⊢
                                have hrc := k1 (n - 1) (by omega)
                                unfold q_rci at hrc
                                rw [show n - 1 + 1 = n by omega, x2, show (((n - 1 : Nat) : Int) + 1) = (n : Int) by omega] at hrc
                                have hrec := hrc h
                                have hln : σ1.2 (q + 2) n = q_len f z (S2.2 (q + 1) n) := by
                                  rw [k3]
                                  show (x_rlF f z S2 q 40).2 (q + 2) n = _
                                  rw [x_rlF_at, if_pos ⟨⟨n1, n40⟩, h⟩]
                                have hrr := q_rec_r hrec
                                have hqr := (q_recq (f := f) (z := z) (n := (n : Int)) (x := x) hrr.2.1 (by omega) (by omega) (by omega)).2 hrec
                                rw [hln]
                                refine ⟨hqr.1, ?_⟩
                                rw [← hqr.2, q_by_dgs hrec (by omega)]
