/-! THE HISTORY, learned by both -/
theorem p_mono {f : Nat → Int} {z x : Int} {j : Nat} (h : ∀ i, i < j → p_good f z x i) : ∀ a b : Nat, a < b → b < j → p_rn f z (p_at f z x a) < p_rn f z (p_at f z x b) := by
  intro a b hab hb
  induction b with
  | zero => omega
  | succ b ih =>
    have h1 := (h (b + 1) hb).2.2.1
    have e : p_lastn f z x (b + 1) = p_rn f z (p_at f z x b) := rfl
    rw [e] at h1
    by_cases g : a = b
    · rw [g]; exact h1
    · have := ih (by omega) (by omega)
      omega
theorem m_rw1_10 (f : Nat → Int) (z : Int) (y : fS) (i : Nat) (v : Int) : (m_rw1 f z y i v).2 10 i = v := by
  unfold m_rw1
  split
  · rw [p2_2, if_pos ⟨rfl, rfl⟩]
  · rw [p2_2, if_neg (by omega), p2_2, if_neg (by omega), p2_2, if_pos ⟨rfl, rfl⟩]
theorem m_rw1_n (f : Nat → Int) (z : Int) (y : fS) (i : Nat) (v : Int) (a k : Nat) (h : k ≠ i) : (m_rw1 f z y i v).2 a k = y.2 a k := by
  unfold m_rw1
  split
  · rw [p2_2, if_neg (by omega)]
  · rw [p2_2, if_neg (by omega), p2_2, if_neg (by omega), p2_2, if_neg (by omega)]
theorem m_rw1_v (f : Nat → Int) (z : Int) (y : fS) (i : Nat) (v : Int) (h : v ≠ -1) : (m_rw1 f z y i v).2 11 i = p_eol f z v + 1 ∧ (m_rw1 f z y i v).2 12 i = p_rl f z v := by
  unfold m_rw1
  rw [if_neg h]
  refine ⟨?_, ?_⟩
  · rw [p2_2, if_neg (by omega), p2_2, if_pos ⟨rfl, rfl⟩]
  · rw [p2_2, if_pos ⟨rfl, rfl⟩]
theorem m_rwF_at {f : Nat → Int} {z x : Int} {σ : fS} {t : Nat} : ∀ j : Nat, (∀ i, i < j → p_good f z x i) → (∀ i, i < j → (m_rwF f z σ t x j).2 10 (41 * t + (p_rn f z (p_at f z x i)).toNat) = p_rpv f z (p_at f z x i) ∧ (p_rpv f z (p_at f z x i) ≠ -1 → (m_rwF f z σ t x j).2 11 (41 * t + (p_rn f z (p_at f z x i)).toNat) = p_eol f z (p_rpv f z (p_at f z x i)) + 1 ∧ (m_rwF f z σ t x j).2 12 (41 * t + (p_rn f z (p_at f z x i)).toNat) = p_rl f z (p_rpv f z (p_at f z x i)))) ∧ (∀ a k : Nat, (∀ i, i < j → 41 * t + (p_rn f z (p_at f z x i)).toNat ≠ k) → (m_rwF f z σ t x j).2 a k = σ.2 a k) := by
  intro j
  induction j with
  | zero => intro _; exact ⟨fun i hi => absurd hi (by omega), fun _ _ _ => rfl⟩
  | succ j ih =>
    intro h
    obtain ⟨i1, i2⟩ := ih (fun i hi => h i (Nat.lt_succ_of_lt hi))
    have e : m_rwF f z σ t x (j + 1) = m_rw1 f z (m_rwF f z σ t x j) (41 * t + (p_rn f z (p_at f z x j)).toNat) (p_rpv f z (p_at f z x j)) := rfl
    rw [e]
    refine ⟨fun i hi => ?_, fun a k hk => ?_⟩
    · by_cases g : i = j
      · subst g
        exact ⟨m_rw1_10 _ _ _ _ _, fun hv => m_rw1_v _ _ _ _ _ hv⟩
      · have hm := p_mono h i j (by omega) (by omega)
        have p1 := (h i hi).2.1
        have p2 := (h j (by omega)).2.1
        have hne : 41 * t + (p_rn f z (p_at f z x i)).toNat ≠ 41 * t + (p_rn f z (p_at f z x j)).toNat := by omega
        rw [m_rw1_n _ _ _ _ _ 10 _ hne, m_rw1_n _ _ _ _ _ 11 _ hne, m_rw1_n _ _ _ _ _ 12 _ hne]
        exact i1 i (by omega)
    · rw [m_rw1_n _ _ _ _ _ a k (fun q => hk j (by omega) q.symm)]
      exact i2 a k (fun i hi => hk i (by omega))
/-- one object's entry of a revision, in both -/
def R_ent (z P L A B C n : Int) : Prop := P = A ∧ (P ≠ -1 → L = C ∧ P + 4 + x_dgs n + x_dgs L = B ∧ (0 ≤ B ∧ 0 ≤ C ∧ B + C < z))
def R_his (z : Int) (X M : fS) (t : Nat) : Prop := ∀ r : Nat, r < t → X.1 (12 + 3 * r) 3 = M.2 8 r ∧ X.1 (12 + 3 * r) 2 = M.2 9 r ∧ ∀ n : Nat, 1 ≤ n → n ≤ 40 → R_ent z (X.2 (12 + 3 * r + 1) n) (X.2 (12 + 3 * r + 2) n) (M.2 10 (41 * r + n)) (M.2 11 (41 * r + n)) (M.2 12 (41 * r + n)) (n : Int)
theorem x_reset_l (σ : fS) (r : Nat) (v : Int) (q : Nat) (h : q < 41) : (x_reset σ r v).2 (r + 2) q = 0 := by
  unfold x_reset x_fill
  rw [pa_2, if_pos rfl]
  simp
  omega
theorem x_adr_p (X : fS) (t b : Nat) (h : 1 ≤ b ∧ b < 41) : (x_adr X t).2 (12 + 3 * t + 1) b = (if t = 0 then -1 else X.2 (12 + 3 * (t - 1) + 1) b) ∧ (t ≠ 0 → (x_adr X t).2 (12 + 3 * t + 2) b = X.2 (12 + 3 * (t - 1) + 2) b) := by
  unfold x_adr
  by_cases g : t = 0
  · subst g
    rw [if_pos rfl, if_pos rfl]
    exact ⟨x_reset_p _ 12 _ b h.2, fun q => absurd rfl q⟩
  · rw [if_neg g, if_neg g]
    unfold x_copy
    refine ⟨?_, fun _ => ?_⟩
    · rw [pa_2, if_neg (by omega), pa_2, if_pos rfl, if_pos ⟨by simp, by simpa using h.2⟩]
      simp
    · rw [pa_2, if_pos rfl, if_pos ⟨by simp, by simpa using h.2⟩]
      simp
theorem x_ad_e (X : fS) (p t b : Nat) (h : 1 ≤ b ∧ b < 41) (hp : 192 ≤ p) (ht : t < 60) : (X.2 (p + 1) b ≠ -2 → (x_ad X p t).2 (12 + 3 * t + 1) b = X.2 (p + 1) b ∧ (x_ad X p t).2 (12 + 3 * t + 2) b = X.2 (p + 2) b) ∧ (X.2 (p + 1) b = -2 → (x_ad X p t).2 (12 + 3 * t + 1) b = (if t = 0 then -1 else X.2 (12 + 3 * (t - 1) + 1) b) ∧ (t ≠ 0 → (x_ad X p t).2 (12 + 3 * t + 2) b = X.2 (12 + 3 * (t - 1) + 2) b)) := by
  have e1 : (x_adr X t).2 (p + 1) b = X.2 (p + 1) b := x_adr_o _ _ _ _ (by omega)
  have e2 : (x_adr X t).2 (p + 2) b = X.2 (p + 2) b := x_adr_o _ _ _ _ (by omega)
  have ea : ∀ a, (x_ad X p t).2 a b = if (1 ≤ b ∧ b < 41) ∧ (x_adr X t).2 (p + 1) b ≠ -2 then (if a = 12 + 3 * t + 1 then (x_adr X t).2 (p + 1) b else if a = 12 + 3 * t + 2 then (x_adr X t).2 (p + 2) b else (x_adr X t).2 a b) else (x_adr X t).2 a b := fun a => rfl
  have hq := x_adr_p X t b h
  refine ⟨fun g => ?_, fun g => ?_⟩
  · have c1 : (1 ≤ b ∧ b < 41) ∧ (x_adr X t).2 (p + 1) b ≠ -2 := ⟨h, by rw [e1]; exact g⟩
    exact ⟨by rw [ea, if_pos c1, if_pos rfl]; exact e1, by rw [ea, if_pos c1, if_neg (by omega), if_pos rfl]; exact e2⟩
  · have c1 : ¬ ((1 ≤ b ∧ b < 41) ∧ (x_adr X t).2 (p + 1) b ≠ -2) := fun q => q.2 (by rw [e1]; exact g)
    have r1 : ∀ a, (x_ad X p t).2 a b = (x_adr X t).2 a b := fun a => by rw [ea, if_neg c1]
    rw [r1, r1]
    exact hq
theorem m_cp_at (M : fS) (t n a : Nat) (h : 1 ≤ n ∧ n ≤ 40) (ha : a = 10 ∨ a = 11 ∨ a = 12) : (m_cp M t 41).2 a (41 * t + n) = if t = 0 then (if a = 10 then -1 else 0) else M.2 a (41 * t + n - 41) := by
  show (if (a = 10 ∨ a = 11 ∨ a = 12) ∧ 41 * t + 1 ≤ 41 * t + n ∧ 41 * t + n < 41 * t + 41 then (if t = 0 then (if a = 10 then -1 else 0) else M.2 a (41 * t + n - 41)) else M.2 a (41 * t + n)) = _
  rw [if_pos ⟨ha, by omega, by omega⟩]
theorem R_his_s {f : Nat → Int} {z x : Int} {X M : fS} {p t : Nat} (h : R_his z X M t) (hp : 192 ≤ p) (ht : t < 60) (hx : 0 ≤ x ∧ x < z) (hok : p_okp f z x) (h2 : X.1 p 2 = x) (h3 : X.1 p 3 = p_end f z x) (ht1 : q_tab f z x (X.2 (p + 1)) (X.2 (p + 2))) : R_his z (x_ad X p t) (m_lp f z M t x) (t + 1) := by
  obtain ⟨o1, o2, -, -, o5⟩ := hok
  obtain ⟨w1, w2⟩ := m_rwF_at (σ := m_cp M t 41) (t := t) (p_many f z x) o2
  have l2 : ∀ a k, (m_lp f z M t x).2 a k = if a = 9 ∧ k = t then x else if a = 8 ∧ k = t then p_end f z x else (m_rwF f z (m_cp M t 41) t x (p_many f z x)).2 a k := fun a k => by
    unfold m_lp
    rw [p1_2, p2_2, p2_2]
  have lw : ∀ a k, (a = 10 ∨ a = 11 ∨ a = 12) → (m_lp f z M t x).2 a k = (m_rwF f z (m_cp M t 41) t x (p_many f z x)).2 a k := fun a k g => by rw [l2, if_neg (by omega), if_neg (by omega)]
  have l89 : ∀ a k, (a = 8 ∨ a = 9) → k ≠ t → (m_lp f z M t x).2 a k = M.2 a k := fun a k g g2 => by
    rw [l2, if_neg (by omega), if_neg (by omega), (m_rwF_o f z _ t x _).2 a (by omega), m_cp_o _ _ _ _ (by omega)]
  intro r hr
  by_cases g : r = t
  · subst g
    refine ⟨?_, ?_, fun n n1 n40 => ?_⟩
    · rw [x_ad_1, if_neg (by omega), if_pos ⟨rfl, rfl⟩, h3, l2, if_neg (by omega), if_pos ⟨rfl, rfl⟩]
    · rw [x_ad_1, if_neg (by omega), if_neg (by omega), if_pos ⟨rfl, rfl⟩, h2, l2, if_pos ⟨rfl, rfl⟩]
    · obtain ⟨a1, a2⟩ := x_ad_e X p r n ⟨n1, by omega⟩ hp ht
      rw [lw 10 _ (by decide), lw 11 _ (by decide), lw 12 _ (by decide)]
      by_cases gi : ∃ i, i < p_many f z x ∧ (p_rn f z (p_at f z x i)).toNat = n
      · obtain ⟨i, hi, hn⟩ := gi
        have e1 := ht1.1 i hi
        obtain ⟨e2, e3⟩ := w1 i hi
        have hv := p_rpv_r f z (p_at f z x i)
        rw [hn] at e1 e2 e3
        obtain ⟨b1, b2⟩ := a1 (by omega)
        refine ⟨by rw [b1, e2, e1], fun hne => ?_⟩
        rw [b1] at hne
        have hv1 : p_rpv f z (p_at f z x i) ≠ -1 := by rw [← e1]; exact hne
        obtain ⟨e4, e5⟩ := e3 hv1
        obtain ⟨q1, q2⟩ := ht1.2.2 n n1 n40 (by omega)
        have hrec : p_rec f z (p_rpv f z (p_at f z x i)) (p_rn f z (p_at f z x i)) x := by
          rcases o5 i hi with q | q
          · exact absurd q hv1
          · exact q
        have hrl := p_rl_r hrec
        have hlt := hrec.2.1.1
        rw [b1, b2, e4, e5, q2, q1, e1]
        exact ⟨rfl, rfl, by omega, by omega, by omega⟩
      · have hno : ∀ i, i < p_many f z x → (p_rn f z (p_at f z x i)).toNat ≠ n := fun i hi q => gi ⟨i, hi, q⟩
        have e1 := ht1.2.1 n n1 n40 hno
        obtain ⟨b1, b2⟩ := a2 e1
        have wn : ∀ a, (m_rwF f z (m_cp M r 41) r x (p_many f z x)).2 a (41 * r + n) = (m_cp M r 41).2 a (41 * r + n) := fun a => w2 a _ (fun i hi q => hno i hi (by omega))
        rw [wn, wn, wn, m_cp_at M r n 10 ⟨n1, n40⟩ (by decide), m_cp_at M r n 11 ⟨n1, n40⟩ (by decide), m_cp_at M r n 12 ⟨n1, n40⟩ (by decide), b1]
        by_cases g0 : r = 0
        · rw [if_pos g0, if_pos g0]
          exact ⟨rfl, fun q => absurd rfl q⟩
        · have hh := (h (r - 1) (by omega)).2.2 n n1 n40
          rw [if_neg g0, if_neg g0, if_neg g0, if_neg g0, b2 g0, show 41 * r + n - 41 = 41 * (r - 1) + n by omega]
          exact hh
  · obtain ⟨c1, c2, c3⟩ := h r (by omega)
    refine ⟨?_, ?_, fun n n1 n40 => ?_⟩
    · rw [x_ad_1, if_neg (by omega), if_neg (by omega), if_neg (by omega), l89 8 r (by decide) g]; exact c1
    · rw [x_ad_1, if_neg (by omega), if_neg (by omega), if_neg (by omega), l89 9 r (by decide) g]; exact c2
    · have wn : ∀ a, (a = 10 ∨ a = 11 ∨ a = 12) → (m_lp f z M t x).2 a (41 * r + n) = M.2 a (41 * r + n) := fun a ha => by
        rw [lw a _ ha, w2 a _ (fun i hi q => by have := (o2 i hi).2.1; omega), m_cp_lo _ _ _ _ _ (by omega)]
      rw [x_ad_o _ _ _ _ _ (by omega), x_ad_o _ _ _ _ _ (by omega), wn 10 (by decide), wn 11 (by decide), wn 12 (by decide)]
      exact c3 n n1 n40
theorem R_his_F {f : Nat → Int} {z : Int} {S T : fS} {xs : Nat → Int} {c : Nat} (hc : c ≤ 60) (hI : x_I S) (hg : ∀ t, t < c → x_good S (194 + 3 * t)) (hok : ∀ k, k < c → p_okp f z (xs k) ∧ 0 ≤ xs k ∧ xs k ≤ 11999 ∧ xs k < z) (ht : ∀ i, i < c → S.1 (194 + 3 * i) 2 = xs i ∧ S.1 (194 + 3 * i) 3 = p_end f z (xs i) ∧ q_tab f z (xs i) (S.2 (194 + 3 * i + 1)) (S.2 (194 + 3 * i + 2))) : ∀ t, t ≤ c → R_his z (x_adF S c t) (m_lF f z T xs c t) t := by
  intro t
  induction t with
  | zero => intro _ r hr; exact absurd hr (by omega)
  | succ t ih =>
    intro htc
    obtain ⟨-, -, i3, i4⟩ := x_adF_I hI hc hg t (by omega)
    obtain ⟨k1, k2, k3, k4⟩ := hok (c - 1 - t) (by omega)
    obtain ⟨t1, t2, t3⟩ := ht (c - 1 - t) (by omega)
    refine R_his_s (p := 194 + 3 * (c - 1 - t)) (ih (by omega)) (by omega) (by omega) ⟨k2, k4⟩ k1 ?_ ?_ ?_
    · rw [i4 _ _ (by omega) (by omega)]; exact t1
    · rw [i4 _ _ (by omega) (by omega)]; exact t2
    · rw [i3 _ (by omega), i3 _ (by omega)]; exact t3
