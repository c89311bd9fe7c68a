/-! what learn leaves -/
def m_okL (σ : fS) : Prop := (∀ a b, m_okA a (σ.2 a b)) ∧ m_okS σ
theorem m_okL_cp {σ : fS} (h : m_okL σ) (t k : Nat) : m_okL (m_cp σ t k) := by
  refine ⟨fun a b => ?_, fun i hi => ?_⟩
  · show m_okA a (if (a = 10 ∨ a = 11 ∨ a = 12) ∧ 41 * t + 1 ≤ b ∧ b < 41 * t + k then (if t = 0 then (if a = 10 then -1 else 0) else σ.2 a (b - 41)) else σ.2 a b)
    split
    · rename_i g
      split
      · rcases g.1 with e | e | e
        · subst e; rw [if_pos rfl]; show (-1 : Int) ≤ -1 ∧ (-1 : Int) ≤ 99999; omega
        · exact m_okA_n _ _ (by omega)
        · subst e; rw [if_neg (by decide)]; show (0 : Int) ≤ 0 ∧ (0 : Int) ≤ 120; omega
      · exact h.1 a _
    · exact h.1 a b
  · have v : ∀ a, (a = 10 ∨ a = 11 ∨ a = 12) → (m_cp σ t k).2 a i = if 41 * t + 1 ≤ i ∧ i < 41 * t + k then (if t = 0 then (if a = 10 then -1 else 0) else σ.2 a (i - 41)) else σ.2 a i := fun a ha => by
      show (if (a = 10 ∨ a = 11 ∨ a = 12) ∧ 41 * t + 1 ≤ i ∧ i < 41 * t + k then (if t = 0 then (if a = 10 then -1 else 0) else σ.2 a (i - 41)) else σ.2 a i) = _
      by_cases g : 41 * t + 1 ≤ i ∧ i < 41 * t + k
      · rw [if_pos ⟨ha, g⟩, if_pos g]
      · rw [if_neg (fun q => g q.2), if_neg g]
    rw [v 10 (by decide)] at hi
    rw [v 11 (by decide), v 12 (by decide)]
    by_cases g : 41 * t + 1 ≤ i ∧ i < 41 * t + k
    · rw [if_pos g] at hi
      rw [if_pos g, if_pos g]
      by_cases g0 : t = 0
      · rw [if_pos g0, if_pos rfl] at hi; exact absurd rfl hi
      · rw [if_neg g0] at hi
        rw [if_neg g0, if_neg g0]
        exact h.2 _ hi
    · rw [if_neg g] at hi
      rw [if_neg g, if_neg g]
      exact h.2 i hi
theorem m_okL_rw1 {f : Nat → Int} {z x n : Int} {y : fS} (h : m_okL y) (i : Nat) (v : Int) (hv : -1 ≤ v ∧ v ≤ 99999) (hr : v = -1 ∨ p_rec f z v n x) (hx : x ≤ 12000) : m_okL (m_rw1 f z y i v) := by
  unfold m_rw1
  by_cases g : v = -1
  · rw [if_pos g]
    refine ⟨fun a b => ?_, fun j hj => ?_⟩
    · rw [p2_2]
      split
      · rename_i q; rw [q.1]; exact hv
      · exact h.1 a b
    · rw [p2_2] at hj
      rw [p2_2, if_neg (by omega), p2_2, if_neg (by omega)]
      by_cases q : 10 = 10 ∧ j = i
      · rw [if_pos q] at hj; exact absurd g hj
      · rw [if_neg q] at hj; exact h.2 j hj
  · rw [if_neg g]
    have hr : p_rec f z v n x := hr.elim (fun e => absurd e g) id
    have hl := p_rl_r hr
    have he := @p_eol_le f z v
    refine ⟨fun a b => ?_, fun j hj => ?_⟩
    · rw [p2_2]
      split
      · rename_i q; rw [q.1]; exact hl.1
      · rw [p2_2]
        split
        · rename_i q; exact m_okA_n _ _ (by omega)
        · rw [p2_2]
          split
          · rename_i q; rw [q.1]; exact hv
          · exact h.1 a b
    · rw [p2_2, if_neg (by omega), p2_2, if_neg (by omega), p2_2] at hj
      by_cases q : j = i
      · have e11 : (f_p2 (f_p2 (f_p2 y 10 i v) 11 i (p_eol f z v + 1)) 12 i (p_rl f z v)).2 11 j = p_eol f z v + 1 := by rw [p2_2, if_neg (by omega), p2_2, if_pos ⟨rfl, q⟩]
        have e12 : (f_p2 (f_p2 (f_p2 y 10 i v) 11 i (p_eol f z v + 1)) 12 i (p_rl f z v)).2 12 j = p_rl f z v := by rw [p2_2, if_pos ⟨rfl, q⟩]
        rw [e11, e12]
        omega
      · rw [if_neg (by omega)] at hj
        have e11 : (f_p2 (f_p2 (f_p2 y 10 i v) 11 i (p_eol f z v + 1)) 12 i (p_rl f z v)).2 11 j = y.2 11 j := by rw [p2_2, if_neg (by omega), p2_2, if_neg (by omega), p2_2, if_neg (by omega)]
        have e12 : (f_p2 (f_p2 (f_p2 y 10 i v) 11 i (p_eol f z v + 1)) 12 i (p_rl f z v)).2 12 j = y.2 12 j := by rw [p2_2, if_neg (by omega), p2_2, if_neg (by omega), p2_2, if_neg (by omega)]
        rw [e11, e12]
        exact h.2 j hj
theorem m_okL_rw {f : Nat → Int} {z x : Int} {σ : fS} (h : m_okL σ) (t : Nat) (hx : x ≤ 12000) (hk : p_okp f z x) : ∀ j, j ≤ p_many f z x → m_okL (m_rwF f z σ t x j) := by
  intro j
  induction j with
  | zero => intro _; exact h
  | succ j ih =>
    intro hj
    exact m_okL_rw1 (ih (by omega)) _ _ (p_rpv_r f z _) (hk.2.2.2.2 j (by omega)) hx
theorem m_okL_lF {f : Nat → Int} {z : Int} {σ : fS} {xs : Nat → Int} {pts : Nat} (h : m_okL σ) (hz : z ≤ 12000) (hok : ∀ k, k < pts → p_okp f z (xs k) ∧ 0 ≤ xs k ∧ xs k ≤ 11999 ∧ xs k < z) : ∀ t, t ≤ pts → m_okL (m_lF f z σ xs pts t) := by
  intro t
  induction t with
  | zero => intro _; exact h
  | succ t ih =>
    intro ht
    obtain ⟨hk, h0, h1, h2⟩ := hok (pts - 1 - t) (by omega)
    have hr := m_okL_rw (m_okL_cp (ih (by omega)) t 41) t (by omega) hk (p_many f z (xs (pts - 1 - t))) (Nat.le_refl _)
    have hat := p_at_r h0 hk.1 (p_many f z (xs (pts - 1 - t))) hk.2.1
    have e1 := hk.2.2.2.1.1.1
    have e2 := @p_eol_le f z (p_el f z (xs (pts - 1 - t)))
    have e3 := @p_eol_le f z (p_pl f z (xs (pts - 1 - t)))
    have e4 : p_el f z (xs (pts - 1 - t)) = p_eol f z (p_pl f z (xs (pts - 1 - t))) + 1 := rfl
    have e5 : p_end f z (xs (pts - 1 - t)) = p_eol f z (p_el f z (xs (pts - 1 - t))) + 1 := rfl
    have e6 : p_at f z (xs (pts - 1 - t)) (p_many f z (xs (pts - 1 - t))) = p_pl f z (xs (pts - 1 - t)) := rfl
    refine ⟨fun a b => ?_, fun i hi => ?_⟩
    · show m_okA a ((m_lp f z (m_lF f z σ xs pts t) t (xs (pts - 1 - t))).2 a b)
      unfold m_lp
      rw [p1_2, p2_2]
      split
      · rename_i q; rw [q.1]; show 0 ≤ xs (pts - 1 - t) ∧ xs (pts - 1 - t) ≤ 99999; omega
      · rw [p2_2]
        split
        · rename_i q; rw [q.1]; show 0 ≤ p_end f z (xs (pts - 1 - t)) ∧ p_end f z (xs (pts - 1 - t)) ≤ 12000; omega
        · exact hr.1 a b
    · have v : ∀ a, (a = 10 ∨ a = 11 ∨ a = 12) → (m_lF f z σ xs pts (t + 1)).2 a i = (m_rwF f z (m_cp (m_lF f z σ xs pts t) t 41) t (xs (pts - 1 - t)) (p_many f z (xs (pts - 1 - t)))).2 a i := fun a ha => by
        show (m_lp f z (m_lF f z σ xs pts t) t (xs (pts - 1 - t))).2 a i = _
        unfold m_lp
        rw [p1_2, p2_2, if_neg (by omega), p2_2, if_neg (by omega)]
      rw [v 10 (by decide)] at hi
      rw [v 11 (by decide), v 12 (by decide)]
      exact hr.2 i hi
/-- the x of the PARTS of a file that stands -/
theorem p_tv_r (f : Nat → Int) (z p : Int) : 0 ≤ p_tv f z p ∧ p_tv f z p ≤ 99999 := p_num_v _ _ _
theorem p_file_ok {f : Nat → Int} {z fl pts : Int} {xs : Nat → Int} (h : p_file f z 1 fl pts xs) (hz : 0 ≤ z ∧ z ≤ 12000) : ∃ n : Nat, pts = (n : Int) ∧ 1 ≤ n ∧ n ≤ 60 ∧ ∀ k, k < n → p_okp f z (xs k) ∧ 0 ≤ xs k ∧ xs k ≤ 11999 ∧ xs k < z := by
  rcases h with ⟨_, h, _⟩ | ⟨hf, ⟨_, h, _⟩ | ⟨_, ⟨_, h, _⟩ | ⟨⟨hL, hL2⟩, j, hj, hc, ⟨_, h⟩ | ⟨⟨g, hlk⟩, -, hp, hxs⟩⟩⟩⟩
  · exact absurd h (by decide)
  · exact absurd h (by decide)
  · exact absurd h (by decide)
  · exact absurd h (by decide)
  · have hz4 : 4 ≤ z := by
      have a := hf.1
      have b := hf.2.2.2.2
      omega
    have hl := lastF_le f (z - 1).toNat (z - 1)
    have hle : p_lst f z ≤ z - 1 := hl.2
    have rng : ∀ i, i ≤ j → 0 ≤ p_ch f z i ∧ p_ch f z i < p_lst f z := by
      intro i
      induction i with
      | zero => intro _; exact ⟨(p_tv_r f z _).1, hL2⟩
      | succ i ih =>
        intro hi
        obtain ⟨g, hg⟩ := (hc i (by omega)).1
        have hp := (hc i (by omega)).2
        have ho := (p_look_ok hg (by omega)).1.2.2.1.2
        have := ih (by omega)
        have e : p_ch f z (i + 1) = p_tv f z (p_pl f z (p_ch f z i)) := rfl
        have := p_tv_r f z (p_pl f z (p_ch f z i))
        omega
    refine ⟨j + 1, by push_cast; omega, by omega, by omega, fun k hk => ?_⟩
    have hr := rng k (by omega)
    rw [hxs k (by omega)]
    refine ⟨?_, by omega, by omega, by omega⟩
    by_cases e : k = j
    · subst e; exact (p_look_ok hlk (by decide)).1
    · obtain ⟨g, hg⟩ := (hc k (by omega)).1
      have hp := (hc k (by omega)).2
      exact (p_look_ok hg (by omega)).1
/-! the objects of the last revision -/
def m_ldo (f : Nat → Int) (y : fS) (n : Nat) (sz stt : Int) (k : Nat) : fS := (y.1, fun a i => if a = 6 ∧ 120 * n ≤ i ∧ i < 120 * n + k then (if ((i - 120 * n : Nat) : Int) < sz then f (stt + ((i - 120 * n : Nat) : Int)).toNat else 0) else y.2 a i)
theorem m_ldo_0 (f : Nat → Int) (y : fS) (n : Nat) (sz stt : Int) : y = m_ldo f y n sz stt 0 := fS_ext (fun _ _ => rfl) (fun a i => by
  show _ = if a = 6 ∧ 120 * n ≤ i ∧ i < 120 * n + 0 then (if ((i - 120 * n : Nat) : Int) < sz then f (stt + ((i - 120 * n : Nat) : Int)).toNat else 0) else y.2 a i
  rw [if_neg (by omega)])
theorem m_ldo_o (f : Nat → Int) (y : fS) (n : Nat) (sz stt : Int) (k a : Nat) (h : a ≠ 6) : (m_ldo f y n sz stt k).2 a = y.2 a := by
  funext i
  show (if a = 6 ∧ 120 * n ≤ i ∧ i < 120 * n + k then (if ((i - 120 * n : Nat) : Int) < sz then f (stt + ((i - 120 * n : Nat) : Int)).toNat else 0) else y.2 a i) = _
  rw [if_neg (by omega)]
theorem m_ldo_s (f : Nat → Int) (y : fS) (n : Nat) (sz stt : Int) (k : Nat) : f_p2 (m_ldo f y n sz stt k) 6 (120 * n + k) (if (k : Int) < sz then f (stt + (k : Int)).toNat else 0) = m_ldo f y n sz stt (k + 1) := by
  refine fS_ext (fun _ _ => rfl) (fun a i => ?_)
  rw [p2_2]
  show (if _ then _ else (if a = 6 ∧ 120 * n ≤ i ∧ i < 120 * n + k then (if ((i - 120 * n : Nat) : Int) < sz then f (stt + ((i - 120 * n : Nat) : Int)).toNat else 0) else y.2 a i)) = if a = 6 ∧ 120 * n ≤ i ∧ i < 120 * n + (k + 1) then (if ((i - 120 * n : Nat) : Int) < sz then f (stt + ((i - 120 * n : Nat) : Int)).toNat else 0) else y.2 a i
  by_cases g : a = 6 ∧ i = 120 * n + k
  · rw [if_pos g, if_pos (show a = 6 ∧ 120 * n ≤ i ∧ i < 120 * n + (k + 1) by omega), show i - 120 * n = k by omega]
  · rw [if_neg g]
    by_cases g2 : a = 6 ∧ 120 * n ≤ i ∧ i < 120 * n + k
    · rw [if_pos g2, if_pos (show a = 6 ∧ 120 * n ≤ i ∧ i < 120 * n + (k + 1) by omega)]
    · rw [if_neg g2, if_neg (show ¬ (a = 6 ∧ 120 * n ≤ i ∧ i < 120 * n + (k + 1)) by omega)]
def m_ld1 (L y : fS) (b n : Nat) : fS := f_p2 (f_p2 (f_p2 y 1 n (if L.2 10 (b + n) = -1 then 0 else 1)) 2 n 0) 5 n (if L.2 10 (b + n) = -1 then 0 else L.2 12 (b + n))
def m_ldn (f : Nat → Int) (L : fS) (b : Nat) : Nat → fS
  | 0 => L
  | k + 1 => m_ldo f (m_ld1 L (m_ldn f L b k) b (k + 1)) (k + 1) (if L.2 10 (b + (k + 1)) = -1 then 0 else L.2 12 (b + (k + 1))) (L.2 11 (b + (k + 1))) 120
theorem m_ld1_o (L y : fS) (b n a : Nat) (h : a ≠ 1 ∧ a ≠ 2 ∧ a ≠ 5) : (m_ld1 L y b n).2 a = y.2 a := by
  funext i
  unfold m_ld1
  rw [p2_2, if_neg (by omega), p2_2, if_neg (by omega), p2_2, if_neg (by omega)]
theorem m_ldn_o (f : Nat → Int) (L : fS) (b : Nat) : ∀ k, (m_ldn f L b k).1 = L.1 ∧ ∀ a, (a ≠ 1 ∧ a ≠ 2 ∧ a ≠ 5 ∧ a ≠ 6) → (m_ldn f L b k).2 a = L.2 a := by
  intro k
  induction k with
  | zero => exact ⟨rfl, fun _ _ => rfl⟩
  | succ k ih => exact ⟨ih.1, fun a h => by show (m_ldo _ _ _ _ _ _).2 a = _; rw [m_ldo_o _ _ _ _ _ _ a (by omega), m_ld1_o _ _ _ _ a (by omega)]; exact ih.2 a h⟩
theorem m_ldn_A {f : Nat → Int} {L : fS} {b : Nat} (h : ∀ a i, m_okA a (L.2 a i)) (hf : ∀ i, -128 ≤ f i ∧ f i ≤ 127) : ∀ k a i, m_okA a ((m_ldn f L b k).2 a i) := by
  intro k
  induction k with
  | zero => exact h
  | succ k ih =>
    intro a i
    have h1 : ∀ a i, m_okA a ((m_ld1 L (m_ldn f L b k) b (k + 1)).2 a i) := by
      intro a i
      unfold m_ld1
      rw [p2_2]
      split
      · rename_i q; rw [q.1]
        split
        · show (0 : Int) ≤ 0 ∧ (0 : Int) ≤ 120; omega
        · exact h 12 _
      · rw [p2_2]
        split
        · rename_i q; rw [q.1]; show (0 : Int) ≤ 0 ∧ (0 : Int) ≤ 1; omega
        · rw [p2_2]
          split
          · rename_i q; rw [q.1]
            split
            · show (0 : Int) ≤ 0 ∧ (0 : Int) ≤ 1; omega
            · show (0 : Int) ≤ 1 ∧ (1 : Int) ≤ 1; omega
          · exact ih a i
    show m_okA a (if a = 6 ∧ 120 * (k + 1) ≤ i ∧ i < 120 * (k + 1) + 120 then (if ((i - 120 * (k + 1) : Nat) : Int) < (if L.2 10 (b + (k + 1)) = -1 then 0 else L.2 12 (b + (k + 1))) then f (L.2 11 (b + (k + 1)) + ((i - 120 * (k + 1) : Nat) : Int)).toNat else 0) else (m_ld1 L (m_ldn f L b k) b (k + 1)).2 a i)
    split
    · rename_i q; rw [q.1]
      by_cases q2 : ((i - 120 * (k + 1) : Nat) : Int) < (if L.2 10 (b + (k + 1)) = -1 then 0 else L.2 12 (b + (k + 1)))
      · rw [if_pos q2]; exact hf _
      · rw [if_neg q2]; show (-128 : Int) ≤ 0 ∧ (0 : Int) ≤ 127; omega
    · exact h1 a i
theorem m_scr_sv {B S : fS} (h : m_scr B S) (k : Nat) : m_scr (m_save B k) (m_save S k) := by
  refine ⟨?_, h.2⟩
  unfold m_save
  show (fun a b => _) = (fun a b => _)
  rw [h.1]
noncomputable def m_fin (f : Nat → Int) (z : Int) (S : fS) (n : Nat) : fS := m_save (f_p1 (m_ldn f (m_lF f z S (S.2 15) n n) (41 * (n - 1)) 40) 0 9 0) 41
def m_rd (f : Nat → Int) (z : Int) (σ : fS) (v : Int) (σ1 : fS) : Prop :=
  (m_scx σ σ1 ∧ p_file f z 0 (σ1.1 0 23) (σ1.1 0 24) (σ1.2 15) ∧ v = -1 - σ1.1 0 23) ∨
  (∃ (S : fS) (n : Nat), m_scx σ S ∧ p_file f z 1 (S.1 0 23) (S.1 0 24) (S.2 15) ∧ S.1 0 24 = (n : Int) ∧ v = (n : Int) ∧ m_scr (m_fin f z S n) σ1)
theorem m_I_scx {σ S : fS} (h : m_I σ) (hs : m_scx σ S) : m_I S := by
  refine m_I_fr h (fun b => ?_) (fun a b => ?_)
  · by_cases g : b = 20 ∨ b = 21 ∨ b = 22 ∨ b = 23 ∨ b = 24 ∨ b = 26 ∨ b = 27
    · right; exact ⟨by omega, by omega, m_okF_n _ _ (by omega)⟩
    · left; exact hs.2 0 b (by omega)
  · by_cases g : a = 15
    · right; exact ⟨by omega, by omega, by omega, m_okA_n _ _ (by omega)⟩
    · left; exact hs.1 a b g
theorem m_I_scr {σ S : fS} (h : m_I σ) (hs : m_scr σ S) : m_I S := m_I_scx h (m_scx_of (m_scf_of hs))
theorem m_rd_I {f : Nat → Int} {z v : Int} {σ σ1 : fS} (hI : m_I σ) (hf : σ.2 7 = f) (hz : σ.1 0 7 = z) (h : m_rd f z σ v σ1) : m_I σ1 ∧ σ1.1 0 0 = σ.1 0 0 := by
  have hzr : 0 ≤ z ∧ z ≤ 12000 := by rw [← hz]; exact hI.1 7
  rcases h with ⟨hs, -, -⟩ | ⟨S, n, hs, hp, hn, -, hm⟩
  · exact ⟨m_I_scx hI hs, hs.2 0 0 (by decide)⟩
  · have hIS := m_I_scx hI hs
    obtain ⟨n2, e2, n1, n60, hok⟩ := p_file_ok hp hzr
    have e : n2 = n := by omega
    subst e
    have hL := m_okL_lF ⟨hIS.2.1, hIS.2.2.1⟩ hzr.2 hok n2 (Nat.le_refl _)
    obtain ⟨l1, l2, l3⟩ := m_lF_o f z S (S.2 15) n2 n2
    obtain ⟨o1, o2⟩ := m_ldn_o f (m_lF f z S (S.2 15) n2 n2) (41 * (n2 - 1)) 40
    have hA := m_ldn_A (f := f) (b := 41 * (n2 - 1)) hL.1 (fun i => by rw [← hf]; exact hI.2.1 7 i) 40
    have hfin : m_I (m_fin f z S n2) := by
      refine ⟨fun b => ?_, fun a b => ?_, fun i hi => ?_, fun _ => ?_⟩
      · show m_okF b ((f_p1 (m_ldn f (m_lF f z S (S.2 15) n2 n2) (41 * (n2 - 1)) 40) 0 9 0).1 0 b)
        rw [p1_1]
        by_cases g : 0 = 0 ∧ b = 9
        · rw [if_pos g, g.2]; show (0 : Int) ≤ 0 ∧ (0 : Int) ≤ 1; omega
        · rw [if_neg g, o1]
          by_cases g10 : b = 10
          · subst g10; rw [l2]; show 0 ≤ (n2 : Int) ∧ (n2 : Int) ≤ 60; omega
          · rw [l1 b g10]; exact hIS.1 b
      · show m_okA a (if a = 3 ∧ 1 ≤ b ∧ b < 41 then 0 else if a = 4 ∧ 1 ≤ b ∧ b < 41 then (m_ldn f (m_lF f z S (S.2 15) n2 n2) (41 * (n2 - 1)) 40).2 1 b else (m_ldn f (m_lF f z S (S.2 15) n2 n2) (41 * (n2 - 1)) 40).2 a b)
        split
        · rename_i q; rw [q.1]; show (0 : Int) ≤ 0 ∧ (0 : Int) ≤ 1; omega
        · split
          · rename_i q; rw [q.1]; exact hA 1 b
          · exact hA a b
      · have v : ∀ a, (a = 10 ∨ a = 11 ∨ a = 12) → (m_fin f z S n2).2 a i = (m_lF f z S (S.2 15) n2 n2).2 a i := fun a ha => by
          show (if a = 3 ∧ 1 ≤ i ∧ i < 41 then 0 else if a = 4 ∧ 1 ≤ i ∧ i < 41 then (m_ldn f (m_lF f z S (S.2 15) n2 n2) (41 * (n2 - 1)) 40).2 1 i else (m_ldn f (m_lF f z S (S.2 15) n2 n2) (41 * (n2 - 1)) 40).2 a i) = _
          rw [if_neg (by omega), if_neg (by omega), o2 a (by omega)]
        rw [v 10 (by decide)] at hi
        rw [v 11 (by decide), v 12 (by decide)]
        exact hL.2 i hi
      · show 1 ≤ (f_p1 (m_ldn f (m_lF f z S (S.2 15) n2 n2) (41 * (n2 - 1)) 40) 0 9 0).1 0 10
        rw [p1_1, if_neg (by decide), o1, l2]
        omega
    refine ⟨m_I_scr hfin hm, ?_⟩
    rw [hm.2 0 0 (by decide)]
    show (f_p1 (m_ldn f (m_lF f z S (S.2 15) n2 n2) (41 * (n2 - 1)) 40) 0 9 0).1 0 0 = _
    rw [p1_1, if_neg (by decide), o1, l1 0 (by decide)]
    exact hs.2 0 0 (by decide)
/-- take: the file is cut -/
def m_tkn (σ : fS) (k : Nat) : Int := if σ.2 8 k < σ.1 0 7 then σ.2 8 k else σ.1 0 7
def m_tk (σ : fS) (k : Nat) : fS := f_p1 (f_p1 (f_p1 σ 0 0 0) 0 7 (m_tkn σ k)) 0 9 1
theorem m_tk_I {σ : fS} {k : Nat} (h : m_I σ) : m_I (m_tk σ k) := by
  have h8 : 0 ≤ σ.2 8 k ∧ σ.2 8 k ≤ 12000 := h.2.1 8 k
  have h7 : 0 ≤ σ.1 0 7 ∧ σ.1 0 7 ≤ 12000 := h.1 7
  have hn : (0 ≤ m_tkn σ k ∧ m_tkn σ k ≤ 12000) ∧ (m_tkn σ k ≠ 0 → σ.1 0 7 ≠ 0) := by unfold m_tkn; split <;> omega
  refine ⟨fun b => ?_, h.2.1, h.2.2.1, fun g => ?_⟩
  · unfold m_tk
    rw [p1_1]
    by_cases g9 : 0 = 0 ∧ b = 9
    · rw [if_pos g9, g9.2]; show (0 : Int) ≤ 1 ∧ (1 : Int) ≤ 1; omega
    · rw [if_neg g9, p1_1]
      by_cases g7 : 0 = 0 ∧ b = 7
      · rw [if_pos g7, g7.2]; exact hn.1
      · rw [if_neg g7, p1_1]
        by_cases g0 : 0 = 0 ∧ b = 0
        · rw [if_pos g0, g0.2]; exact m_okF_n _ _ (by decide)
        · rw [if_neg g0]; exact h.1 b
  · have e7 : (m_tk σ k).1 0 7 = m_tkn σ k := rfl
    have e10 : (m_tk σ k).1 0 10 = σ.1 0 10 := rfl
    rw [e7] at g
    rw [e10]
    exact h.2.2.2 (hn.2 g)
set_option maxRecDepth 100000 in
set_option maxHeartbeats 4000000 in
theorem kM_readFile (l : Launch) (xCl : List vw_C) (D : va_G) (cA : Nat → ClassId) (ad : Nat → Nat) (hJ : f_J (mG xCl D cA ad)) (σ : fS) (f : Nat → Int) (fz : Int) (hf : σ.2 7 = f) (hz : σ.1 0 7 = fz) (hI : m_I σ) : f_M l (mG xCl D cA ad) mE yM_readFile (Cond.code yM_readFile cM_readFile 4 (some .int) :: A9) 5 σ [.ref (ad 0)] (f_QI (fun v σ1 => m_rd f fz σ v σ1) (mG xCl D cA ad)) := by
  refine f_enter (by decide +kernel) hJ rfl (Nat.le_of_ble_eq_true rfl) ?_
  intro z hzl hR C hRt hLk hEz
  subst hzl
  have h7 : ∀ i, -128 ≤ f i ∧ f i ≤ 127 := fun i => by rw [← hf]; exact hI.2.1 7 i
  have hz0 : 0 ≤ fz ∧ fz ≤ 12000 := by rw [← hz]; exact hI.1 7
  have LL : ∀ (S : fS) (n : Nat), m_scx σ S → p_file f fz 1 (S.1 0 23) (S.1 0 24) (S.2 15) → S.1 0 24 = (n : Int) → 1 ≤ n → n ≤ 60 → (∀ k, k < n → p_okp f fz (S.2 15 k) ∧ 0 ≤ S.2 15 k ∧ S.2 15 k ≤ 11999 ∧ S.2 15 k < fz) → ∀ (m k : Nat), m + k = 40 → ∀ (S2 : fS), m_scr (m_ldn f (m_lF f fz S (S.2 15) n n) (41 * (n - 1)) k) S2 → ∀ o3 : Option Value, fv z (mG xCl D cA ad) 4 (f_R z (mG xCl D cA ad) (f_QI (fun v σ1 => m_rd f fz σ v σ1) (mG xCl D cA ad))) 0 0 S2 30 [some (.ref (ad 0)), some (.int (fI (41 * ((n : Int) - 1)))), some (.int (fI ((k : Int) + 1))), o3] [] := by
    intro S n hs hpl hn n1 n60 hok m
    have hIS := m_I_scx hI hs
    obtain ⟨L, hL⟩ : ∃ s, s = m_lF f fz S (S.2 15) n n := ⟨_, rfl⟩
    have hLo := m_lF_o f fz S (S.2 15) n n
    have hLq := m_okL_lF ⟨hIS.2.1, hIS.2.2.1⟩ hz0.2 hok n (Nat.le_refl _)
    rw [← hL] at hLo hLq ⊢
    have hLf : L.2 7 = f := by rw [hLo.2.2 7 (by decide), m_scx_f hs]; exact hf
    induction m with
    | zero =>
      intro k hk S2 hS o3
      have hno := m_ldn_o f L (41 * (n - 1)) k
      obtain ⟨B, hB⟩ : ∃ s, s = m_ldn f L (41 * (n - 1)) k := ⟨_, rfl⟩
      rw [← hB] at hno hS
      have hB10 : B.1 0 10 = (n : Int) := by rw [hno.1]; exact hLo.2.1
      obtain rfl : k = 40 := by omega
      refine v_iload_n C dM_readFile_30 rfl rfl ?_
      refine v_bipush C dM_readFile_31 (by decide +kernel) ?_
      refine v_icmp_gt (tgt := 153) C dM_readFile_33 (by decide) (by omega) (by omega) (fun hc1 => ?_) (fun hc1 => ?_)
      · refine v_aload_n C dM_readFile_153 rfl rfl ?_
        refine v_iconst C dM_readFile_154 ?_
        refine v_putI (k := 0) (q := 9) C dM_readFile_155 (by show (0 : Nat) < 18; decide) rfl rfl (by decide) rfl inM tyM_ok nmM lM_123 rfl rfl rfl (fN_bool (by omega)) (fF_bool (by omega)) ?_
        obtain ⟨S3, hS3⟩ : ∃ s, s = f_p1 S2 0 9 0 := ⟨_, rfl⟩
        refine v_st hS3.symm ?_
        have hS3s : m_scr (f_p1 B 0 9 0) S3 := by rw [hS3]; exact m_scr_q1 hS 9 0
        refine v_aload_n C dM_readFile_158 rfl rfl ?_
        refine v_cVV (k := 0) (n := 0) C (mE_ok _) trivial hR (kM_save _ xCl D cA ad hJ S3 (fun i => by rw [hS3s.1]; show 0 ≤ B.2 1 i ∧ B.2 1 i ≤ 1; rw [hB]; exact m_ldn_A (b := 41 * (n - 1)) hLq.1 h7 40 1 i)) dM_readFile_159 (by show (0 : Nat) < 18; decide) rfl rfl gM_130 (by decide +kernel) (by decide) (by decide) rfl (Nat.le_of_ble_eq_true rfl) rfl ⟨rfl, rfl⟩ (fun σ1 hp1 => ?_)
        obtain ⟨T, hT⟩ : ∃ s, s = m_save S3 41 := ⟨_, rfl⟩
        subst σ1
        refine v_st hT.symm ?_
        have hTs : m_scr (m_save (f_p1 B 0 9 0) 41) T := by rw [hT]; exact m_scr_sv hS3s 41
        have hT10 : T.1 0 10 = (n : Int) := by rw [hTs.2 0 10 (by decide)]; show (f_p1 B 0 9 0).1 0 10 = _; rw [p1_1, if_neg (by decide)]; exact hB10
        refine v_aload_n C dM_readFile_162 rfl rfl ?_
        refine v_getI (k := 0) (q := 10) (v := (n : Int)) C dM_readFile_163 (by show (0 : Nat) < 18; decide) rfl rfl (by decide) rfl inM lM_110 rfl hT10 ?_
        exact v_iret C hRt hLk dM_readFile_166 (Or.inr ⟨S, n, hs, hpl, hn, rfl, by unfold m_fin; rw [← hL, ← hB]; exact hTs⟩)
      · exfalso; omega
    | succ m ih =>
      intro k hk S2 hS o3
      have hno := m_ldn_o f L (41 * (n - 1)) k
      obtain ⟨B, hB⟩ : ∃ s, s = m_ldn f L (41 * (n - 1)) k := ⟨_, rfl⟩
      rw [← hB] at hno hS
      have hB10 : B.1 0 10 = (n : Int) := by rw [hno.1]; exact hLo.2.1
      have hkt : ((k : Int) + 1).toNat = k + 1 := by omega
      have hbi : (41 * ((n : Int) - 1) + ((k : Int) + 1)).toNat = 41 * (n - 1) + (k + 1) := by omega
      obtain ⟨p, hp⟩ : ∃ v, v = L.2 10 (41 * (n - 1) + (k + 1)) := ⟨_, rfl⟩
      obtain ⟨stt, hst⟩ : ∃ v, v = L.2 11 (41 * (n - 1) + (k + 1)) := ⟨_, rfl⟩
      obtain ⟨cc9, hcc⟩ : ∃ v, v = L.2 12 (41 * (n - 1) + (k + 1)) := ⟨_, rfl⟩
      have hpr : -1 ≤ p ∧ p ≤ 99999 := by rw [hp]; exact hLq.1 10 _
      have hcr : 0 ≤ cc9 ∧ cc9 ≤ 120 := by rw [hcc]; exact hLq.1 12 _
      have hsr : p ≠ -1 → 0 ≤ stt ∧ stt + cc9 ≤ 12000 := fun g => by rw [hst, hcc]; exact hLq.2 _ (by rw [← hp]; exact g)
      have hs1 : m_ldn f L (41 * (n - 1)) (k + 1) = m_ldo f (m_ld1 L B (41 * (n - 1)) (k + 1)) (k + 1) (if p = -1 then 0 else cc9) stt 120 := by rw [hp, hcc, hst, hB]; rfl
      have LI : ∀ (w i : Nat), w + i = 120 → ∀ (S3 : fS), m_scr (m_ldo f (m_ld1 L B (41 * (n - 1)) (k + 1)) (k + 1) (if p = -1 then 0 else cc9) stt i) S3 → fv z (mG xCl D cA ad) 4 (f_R z (mG xCl D cA ad) (f_QI (fun v σ1 => m_rd f fz σ v σ1) (mG xCl D cA ad))) 0 0 S3 95 [some (.ref (ad 0)), some (.int (fI (41 * ((n : Int) - 1)))), some (.int (fI ((k : Int) + 1))), some (.int (fI (i : Int)))] [] := by
        intro w
        induction w with
        | zero =>
          intro i hi S3 hS3
          obtain rfl : i = 120 := by omega
          refine v_iload_n C dM_readFile_95 rfl rfl ?_
          refine v_bipush C dM_readFile_96 (by decide +kernel) ?_
          refine v_icmp_ge (tgt := 147) C dM_readFile_98 (by decide) (by omega) (by omega) (fun hc2 => ?_) (fun hc2 => ?_)
          · refine v_iinc C dM_readFile_147 rfl (by decide) ?_
            refine v_goto (tgt := 30) C dM_readFile_150 (by decide) ?_
            exact v_lv rfl (ih (k + 1) (by omega) S3 (by rw [hs1]; exact hS3) _)
          · exfalso; omega
        | succ w ihw =>
          intro i hi S3 hS3
          have hA : ∀ a, a ≠ 6 → S3.2 a = (m_ld1 L B (41 * (n - 1)) (k + 1)).2 a := fun a g => by rw [hS3.1, m_ldo_o _ _ _ _ _ _ a g]
          have hA2 : ∀ a, (a ≠ 1 ∧ a ≠ 2 ∧ a ≠ 5 ∧ a ≠ 6) → S3.2 a = L.2 a := fun a g => by rw [hA a (by omega), m_ld1_o _ _ _ _ a (by omega), hno.2 a g]
          have h5v : S3.2 5 ((k : Int) + 1).toNat = if p = -1 then 0 else cc9 := by rw [hkt, hA 5 (by decide)]; unfold m_ld1; rw [p2_2, if_pos ⟨rfl, rfl⟩, hp, hcc]
          have hcv : p = -1 ∨ ((if p = -1 then 0 else cc9) = cc9) := by by_cases g : p = -1; (· exact Or.inl g); (· right; rw [if_neg g])
          have hcv0 : p = -1 → (if p = -1 then 0 else cc9) = 0 := fun g => if_pos g
          have hci : (120 * ((k : Int) + 1) + (i : Int)).toNat = 120 * (k + 1) + i := by omega
          obtain ⟨sz, hsz⟩ : ∃ v, v = if p = -1 then 0 else cc9 := ⟨_, rfl⟩
          rw [← hsz] at h5v hcv hcv0 hS3
          have hls := m_ldo_s f (m_ld1 L B (41 * (n - 1)) (k + 1)) (k + 1) sz stt i
          have hszr : 0 ≤ sz ∧ sz ≤ 120 := by rcases hcv with g | g; (· rw [hcv0 g]; omega); (· omega)
          refine v_iload_n C dM_readFile_95 rfl rfl ?_
          refine v_bipush C dM_readFile_96 (by decide +kernel) ?_
          refine v_icmp_ge (tgt := 147) C dM_readFile_98 (by decide) (by omega) (by omega) (fun hc3 => ?_) (fun hc3 => ?_)
          · exfalso; omega
          · refine v_aload_n C dM_readFile_101 rfl rfl ?_
            refine v_getR (k := 0) (q := 6) C dM_readFile_102 (by show (0 : Nat) < 18; decide) rfl rfl (by decide) rfl inM lM_26 rfl ?_
            refine v_bipush C dM_readFile_105 (by decide +kernel) ?_
            refine v_iload_n C dM_readFile_107 rfl rfl ?_
            refine v_imul C dM_readFile_108 ?_
            refine v_iload_n C dM_readFile_109 rfl rfl ?_
            refine v_iadd C dM_readFile_110 ?_
            refine v_iload_n C dM_readFile_111 rfl rfl ?_
            refine v_aload_n C dM_readFile_112 rfl rfl ?_
            refine v_getR (k := 0) (q := 5) C dM_readFile_113 (by show (0 : Nat) < 18; decide) rfl rfl (by decide) rfl inM lM_22 rfl ?_
            refine v_iload_n C dM_readFile_116 rfl rfl ?_
            refine v_iald (k := 5) (v := sz) C dM_readFile_117 (by show (5 : Nat) < 18; decide) rfl rfl (by omega) (by decide) h5v ?_
            refine v_icmp_ge (tgt := 139) C dM_readFile_118 (by decide) (by omega) (by omega) (fun hc4 => ?_) (fun hc4 => ?_)
            · refine v_iconst C dM_readFile_139 ?_
              refine v_bast (k := 6) C dM_readFile_140 (by show (6 : Nat) < 18; decide) rfl rfl (by omega) (by decide) (by omega) ?_
              refine v_iinc C dM_readFile_141 rfl (by decide) ?_
              refine v_goto (tgt := 95) C dM_readFile_144 (by decide) ?_
              exact v_lv rfl (ihw (i + 1) (by omega) _ (by rw [← hsz, ← hls, hci]; first | (rw [if_pos (by omega)]; exact m_scr_q2 hS3 _ _ _) | (rw [if_neg (by omega)]; exact m_scr_q2 hS3 _ _ _)))
            · have hfb := h7 (stt + (i : Int)).toNat
              have hsr2 := hsr (fun g => by rw [hcv0 g] at *; omega)
              refine v_aload_n C dM_readFile_121 rfl rfl ?_
              refine v_getR (k := 0) (q := 8) C dM_readFile_122 (by show (0 : Nat) < 18; decide) rfl rfl (by decide) rfl inM lM_30 rfl ?_
              refine v_aload_n C dM_readFile_125 rfl rfl ?_
              refine v_getR (k := 0) (q := 14) C dM_readFile_126 (by show (0 : Nat) < 18; decide) rfl rfl (by decide) rfl inM lM_42 rfl ?_
              refine v_iload_n C dM_readFile_129 rfl rfl ?_
              refine v_iload_n C dM_readFile_130 rfl rfl ?_
              refine v_iadd C dM_readFile_131 ?_
              refine v_iald (k := 11) (v := stt) C dM_readFile_132 (by show (11 : Nat) < 18; decide) rfl rfl (by omega) (by decide) (by rw [hA2 11 (by decide), hbi]; exact hst.symm) ?_
              refine v_iload_n C dM_readFile_133 rfl rfl ?_
              refine v_iadd C dM_readFile_134 ?_
              refine v_bald (k := 7) (v := f (stt + (i : Int)).toNat) C dM_readFile_135 (by show (7 : Nat) < 18; decide) rfl rfl (by omega) (by decide) (by rw [hA2 7 (by decide), hLf]) ?_
              refine v_goto (tgt := 140) C dM_readFile_136 (by decide) ?_
              refine v_bast (k := 6) C dM_readFile_140 (by show (6 : Nat) < 18; decide) rfl rfl (by omega) (by decide) (by omega) ?_
              refine v_iinc C dM_readFile_141 rfl (by decide) ?_
              refine v_goto (tgt := 95) C dM_readFile_144 (by decide) ?_
              exact v_lv rfl (ihw (i + 1) (by omega) _ (by rw [← hsz, ← hls, hci]; first | (rw [if_pos (by omega)]; exact m_scr_q2 hS3 _ _ _) | (rw [if_neg (by omega)]; exact m_scr_q2 hS3 _ _ _)))
      refine v_iload_n C dM_readFile_30 rfl rfl ?_
      refine v_bipush C dM_readFile_31 (by decide +kernel) ?_
      refine v_icmp_gt (tgt := 153) C dM_readFile_33 (by decide) (by omega) (by omega) (fun hc5 => ?_) (fun hc5 => ?_)
      · exfalso; omega
      · refine v_aload_n C dM_readFile_36 rfl rfl ?_
        refine v_getR (k := 0) (q := 1) C dM_readFile_37 (by show (0 : Nat) < 18; decide) rfl rfl (by decide) rfl inM lM_7 rfl ?_
        refine v_iload_n C dM_readFile_40 rfl rfl ?_
        refine v_aload_n C dM_readFile_41 rfl rfl ?_
        refine v_getR (k := 0) (q := 13) C dM_readFile_42 (by show (0 : Nat) < 18; decide) rfl rfl (by decide) rfl inM lM_39 rfl ?_
        refine v_iload_n C dM_readFile_45 rfl rfl ?_
        refine v_iload_n C dM_readFile_46 rfl rfl ?_
        refine v_iadd C dM_readFile_47 ?_
        refine v_iald (k := 10) (v := p) C dM_readFile_48 (by show (10 : Nat) < 18; decide) rfl rfl (by omega) (by decide) (by rw [hS.1, hno.2 10 (by decide), hbi]; exact hp.symm) ?_
        refine v_iconst C dM_readFile_49 ?_
        refine v_icmp_eq (tgt := 57) C dM_readFile_50 (by decide) (by omega) (by omega) (fun hc6 => ?_) (fun hc6 => ?_)
        · refine v_iconst C dM_readFile_57 ?_
          refine v_zast (k := 1) C dM_readFile_58 (by show (1 : Nat) < 18; decide) rfl rfl (by omega) (by decide) (by omega) ?_
          refine v_aload_n C dM_readFile_59 rfl rfl ?_
          refine v_getR (k := 0) (q := 2) C dM_readFile_60 (by show (0 : Nat) < 18; decide) rfl rfl (by decide) rfl inM lM_13 rfl ?_
          refine v_iload_n C dM_readFile_63 rfl rfl ?_
          refine v_iconst C dM_readFile_64 ?_
          refine v_zast (k := 2) C dM_readFile_65 (by show (2 : Nat) < 18; decide) rfl rfl (by omega) (by decide) (by omega) ?_
          refine v_aload_n C dM_readFile_66 rfl rfl ?_
          refine v_getR (k := 0) (q := 5) C dM_readFile_67 (by show (0 : Nat) < 18; decide) rfl rfl (by decide) rfl inM lM_22 rfl ?_
          refine v_iload_n C dM_readFile_70 rfl rfl ?_
          refine v_aload_n C dM_readFile_71 rfl rfl ?_
          refine v_getR (k := 0) (q := 1) C dM_readFile_72 (by show (0 : Nat) < 18; decide) rfl rfl (by decide) rfl inM lM_7 rfl ?_
          refine v_iload_n C dM_readFile_75 rfl rfl ?_
          refine v_zald (k := 1) (v := 0) C dM_readFile_76 (by show (1 : Nat) < 18; decide) rfl rfl (by omega) (by decide) (by rw [p2_2, if_neg (by omega), p2_2, if_pos ⟨rfl, rfl⟩]) ?_
          refine v_if_eq (tgt := 91) C dM_readFile_77 (by decide) (by omega) (fun hc7 => ?_) (fun hc7 => ?_)
          · refine v_iconst C dM_readFile_91 ?_
            refine v_iast (k := 5) C dM_readFile_92 (by show (5 : Nat) < 18; decide) rfl rfl (by omega) (by decide) ?_
            refine v_iconst C dM_readFile_93 ?_
            refine v_istore_n C dM_readFile_94 rfl (by decide) ?_
            exact v_lv rfl (LI 120 0 (by omega) _ (by rw [← m_ldo_0]; unfold m_ld1; rw [← hp, ← hcc, hkt]; first | (rw [if_pos (by omega), if_pos (by omega)]; exact m_scr_q2 (m_scr_q2 (m_scr_q2 hS _ _ _) _ _ _) _ _ _) | (rw [if_neg (by omega), if_neg (by omega)]; exact m_scr_q2 (m_scr_q2 (m_scr_q2 hS _ _ _) _ _ _) _ _ _)))
          · exfalso; omega
        · refine v_iconst C dM_readFile_53 ?_
          refine v_goto (tgt := 58) C dM_readFile_54 (by decide) ?_
          refine v_zast (k := 1) C dM_readFile_58 (by show (1 : Nat) < 18; decide) rfl rfl (by omega) (by decide) (by omega) ?_
          refine v_aload_n C dM_readFile_59 rfl rfl ?_
          refine v_getR (k := 0) (q := 2) C dM_readFile_60 (by show (0 : Nat) < 18; decide) rfl rfl (by decide) rfl inM lM_13 rfl ?_
          refine v_iload_n C dM_readFile_63 rfl rfl ?_
          refine v_iconst C dM_readFile_64 ?_
          refine v_zast (k := 2) C dM_readFile_65 (by show (2 : Nat) < 18; decide) rfl rfl (by omega) (by decide) (by omega) ?_
          refine v_aload_n C dM_readFile_66 rfl rfl ?_
          refine v_getR (k := 0) (q := 5) C dM_readFile_67 (by show (0 : Nat) < 18; decide) rfl rfl (by decide) rfl inM lM_22 rfl ?_
          refine v_iload_n C dM_readFile_70 rfl rfl ?_
          refine v_aload_n C dM_readFile_71 rfl rfl ?_
          refine v_getR (k := 0) (q := 1) C dM_readFile_72 (by show (0 : Nat) < 18; decide) rfl rfl (by decide) rfl inM lM_7 rfl ?_
          refine v_iload_n C dM_readFile_75 rfl rfl ?_
          refine v_zald (k := 1) (v := 1) C dM_readFile_76 (by show (1 : Nat) < 18; decide) rfl rfl (by omega) (by decide) (by rw [p2_2, if_neg (by omega), p2_2, if_pos ⟨rfl, rfl⟩]) ?_
          refine v_if_eq (tgt := 91) C dM_readFile_77 (by decide) (by omega) (fun hc8 => ?_) (fun hc8 => ?_)
          · exfalso; omega
          · refine v_aload_n C dM_readFile_80 rfl rfl ?_
            refine v_getR (k := 0) (q := 15) C dM_readFile_81 (by show (0 : Nat) < 18; decide) rfl rfl (by decide) rfl inM lM_45 rfl ?_
            refine v_iload_n C dM_readFile_84 rfl rfl ?_
            refine v_iload_n C dM_readFile_85 rfl rfl ?_
            refine v_iadd C dM_readFile_86 ?_
            refine v_iald (k := 12) (v := cc9) C dM_readFile_87 (by show (12 : Nat) < 18; decide) rfl rfl (by omega) (by decide) (by rw [p2_2, if_neg (by omega), p2_2, if_neg (by omega), hS.1, hno.2 12 (by decide), hbi]; exact hcc.symm) ?_
            refine v_goto (tgt := 92) C dM_readFile_88 (by decide) ?_
            refine v_iast (k := 5) C dM_readFile_92 (by show (5 : Nat) < 18; decide) rfl rfl (by omega) (by decide) ?_
            refine v_iconst C dM_readFile_93 ?_
            refine v_istore_n C dM_readFile_94 rfl (by decide) ?_
            exact v_lv rfl (LI 120 0 (by omega) _ (by rw [← m_ldo_0]; unfold m_ld1; rw [← hp, ← hcc, hkt]; first | (rw [if_pos (by omega), if_pos (by omega)]; exact m_scr_q2 (m_scr_q2 (m_scr_q2 hS _ _ _) _ _ _) _ _ _) | (rw [if_neg (by omega), if_neg (by omega)]; exact m_scr_q2 (m_scr_q2 (m_scr_q2 hS _ _ _) _ _ _) _ _ _)))
  refine v_aload_n C dM_readFile_0 rfl rfl ?_
  refine v_cVI (k := 0) (n := 0) C (mE_ok _) trivial hR (kM_isFile _ xCl D cA ad hJ σ (hI.1 7) (fun i => hI.2.1 7 i)) dM_readFile_1 (by show (0 : Nat) < 18; decide) rfl rfl gM_192 (by decide +kernel) (by decide) (by decide) rfl (Nat.le_of_ble_eq_true rfl) rfl ⟨rfl, rfl⟩ (fun rf S hpf => ?_)
  obtain ⟨hs, hpl⟩ := hpf
  rw [hf, hz] at hpl
  have hIS := m_I_scx hI hs
  have hrf : rf = 0 ∨ rf = 1 := by rcases hpl with ⟨_, h, _⟩ | ⟨_, ⟨_, h, _⟩ | ⟨_, ⟨_, h, _⟩ | ⟨_, _, _, _, ⟨_, h⟩ | ⟨_, h, _⟩⟩⟩⟩ <;> omega
  rcases hrf with e9 | e9
  · subst rf
    refine v_if_ne (tgt := 14) C dM_readFile_4 (by decide) (by omega) (fun hc9 => ?_) (fun hc9 => ?_)
    · exfalso; omega
    · refine v_iconst C dM_readFile_7 ?_
      refine v_aload_n C dM_readFile_8 rfl rfl ?_
      refine v_getI (k := 0) (q := 23) (v := S.1 0 23) C dM_readFile_9 (by show (0 : Nat) < 18; decide) rfl rfl (by decide) rfl inM lM_166 rfl rfl ?_
      refine v_isub C dM_readFile_12 ?_
      exact v_iret C hRt hLk dM_readFile_13 (Or.inl ⟨hs, hpl, rfl⟩)
  · subst rf
    obtain ⟨n, hn, n1, n60, hok⟩ := p_file_ok hpl hz0
    refine v_if_ne (tgt := 14) C dM_readFile_4 (by decide) (by omega) (fun hc10 => ?_) (fun hc10 => ?_)
    · refine v_aload_n C dM_readFile_14 rfl rfl ?_
      have hfS : S.2 7 = f := by rw [m_scx_f hs]; exact hf
      have hzS : S.1 0 7 = fz := by rw [m_scx_z hs]; exact hz
      refine v_cVV (k := 0) (n := 0) C (mE_ok _) trivial hR (kM_learn _ xCl D cA ad hJ S f fz n (S.2 15) hfS hzS hn ⟨n1, n60⟩ (fun k hk => rfl) hok (fun i => by rw [← hf]; exact hI.2.1 7 i) hz0) dM_readFile_15 (by show (0 : Nat) < 18; decide) rfl rfl gM_195 (by decide +kernel) (by decide) (by decide) rfl (Nat.le_of_ble_eq_true rfl) rfl ⟨rfl, rfl⟩ (fun S2 hS => ?_)
      have hB10 : (m_lF f fz S (S.2 15) n n).1 0 10 = (n : Int) := (m_lF_o f fz S (S.2 15) n n).2.1
      refine v_bipush C dM_readFile_18 (by decide +kernel) ?_
      refine v_aload_n C dM_readFile_20 rfl rfl ?_
      refine v_getI (k := 0) (q := 10) (v := (n : Int)) C dM_readFile_21 (by show (0 : Nat) < 18; decide) rfl rfl (by decide) rfl inM lM_110 rfl ((hS.2 0 10 (by decide)).trans hB10) ?_
      refine v_iconst C dM_readFile_24 ?_
      refine v_isub C dM_readFile_25 ?_
      refine v_imul C dM_readFile_26 ?_
      refine v_istore_n C dM_readFile_27 rfl (by decide) ?_
      refine v_iconst C dM_readFile_28 ?_
      refine v_istore_n C dM_readFile_29 rfl (by decide) ?_
      exact v_lv rfl (LL S n hs hpl hn n1 n60 hok 40 0 (by omega) S2 hS none)
    · exfalso; omega
set_option maxRecDepth 100000 in
set_option maxHeartbeats 4000000 in
theorem kM_read (l : Launch) (xCl : List vw_C) (D : va_G) (cA : Nat → ClassId) (ad : Nat → Nat) (hJ : f_J (mG xCl D cA ad)) (σ : fS) (f : Nat → Int) (fz : Int) (hf : σ.2 7 = f) (hz : σ.1 0 7 = fz) (hI : m_I σ) : f_M l (mG xCl D cA ad) mE yM_read (Cond.code yM_read cM_read 1 (some .int) :: A9) 6 σ [.ref (ad 0)] (f_QI (fun v σ1 => m_rd f fz (f_p1 σ 0 0 0) v σ1) (mG xCl D cA ad)) := by
  refine f_enter (by decide +kernel) hJ rfl (Nat.le_of_ble_eq_true rfl) ?_
  intro z hzl hR C hRt hLk hEz
  subst hzl
  refine v_aload_n C dM_read_0 rfl rfl ?_
  refine v_iconst C dM_read_1 ?_
  refine v_putI (k := 0) (q := 0) C dM_read_2 (by show (0 : Nat) < 18; decide) rfl rfl (by decide) rfl inM tyM_ok nmM lM_63 rfl rfl rfl rfl rfl ?_
  refine v_aload_n C dM_read_5 rfl rfl ?_
  refine v_cVI (k := 0) (n := 0) C (mE_ok _) trivial hR (kM_readFile _ xCl D cA ad hJ (f_p1 σ 0 0 0) f fz hf hz (m_I_p hI 0 0 (by decide) (m_okF_n _ _ (by decide)))) dM_read_6 (by show (0 : Nat) < 18; decide) rfl rfl gM_198 (by decide +kernel) (by decide) (by decide) rfl (Nat.le_of_ble_eq_true rfl) rfl ⟨rfl, rfl⟩ (fun r1 σ1 hp1 => ?_)
  exact v_iret C hRt hLk dM_read_9 hp1
set_option maxRecDepth 100000 in
set_option maxHeartbeats 4000000 in
theorem kM_take (l : Launch) (xCl : List vw_C) (D : va_G) (cA : Nat → ClassId) (ad : Nat → Nat) (hJ : f_J (mG xCl D cA ad)) (σ : fS) (i : Int) (hI : m_I σ) (hg : 0 ≤ i ∧ i < σ.1 0 10) : f_M l (mG xCl D cA ad) mE yM_take (Cond.code yM_take cM_take 2 (some .int) :: A9) 6 σ [.ref (ad 0), .int (fI i)] (f_QI (fun v σ1 => m_rd (σ.2 7) (m_tkn σ i.toNat) (m_tk σ i.toNat) v σ1) (mG xCl D cA ad)) := by
  refine f_enter (by decide +kernel) hJ rfl (Nat.le_of_ble_eq_true rfl) ?_
  intro z hzl hR C hRt hLk hEz
  subst hzl
  have h10 : 0 ≤ σ.1 0 10 ∧ σ.1 0 10 ≤ 60 := hI.1 10
  have h7 : 0 ≤ σ.1 0 7 ∧ σ.1 0 7 ≤ 12000 := hI.1 7
  have h8 : 0 ≤ σ.2 8 i.toNat ∧ σ.2 8 i.toNat ≤ 12000 := hI.2.1 8 i.toNat
  refine v_aload_n C dM_take_0 rfl rfl ?_
  refine v_iload_n C dM_take_1 rfl rfl ?_
  refine v_cVI (k := 0) (n := 1) C (mE_ok _) trivial hR (kM_isRevision _ xCl D cA ad hJ σ i (by omega) (hI.1 10)) dM_take_2 (by show (0 : Nat) < 18; decide) rfl rfl gM_201 (by decide +kernel) (by decide) (by decide) rfl (Nat.le_of_ble_eq_true rfl) rfl ⟨rfl, rfl⟩ (fun r1 σ1 hp1 => ?_)
  have hq : r1 = 1 ∧ σ1 = f_p1 σ 0 0 0 := by rcases hp1 with ⟨e1, e2, e3⟩ | ⟨e1, e2, e3⟩; (· exact ⟨e2, e3⟩); (· exact absurd hg e1)
  obtain ⟨e2, e3⟩ := hq
  subst σ1
  subst r1
  refine v_if_ne (tgt := 10) C dM_take_5 (by decide) (by omega) (fun hc1 => ?_) (fun hc1 => ?_)
  · refine v_aload_n C dM_take_10 rfl rfl ?_
    refine v_aload_n C dM_take_11 rfl rfl ?_
    refine v_getR (k := 0) (q := 11) C dM_take_12 (by show (0 : Nat) < 18; decide) rfl rfl (by decide) rfl inM lM_33 rfl ?_
    refine v_iload_n C dM_take_15 rfl rfl ?_
    refine v_iald (k := 8) (v := σ.2 8 (i).toNat) C dM_take_16 (by show (8 : Nat) < 18; decide) rfl rfl (by omega) (by decide) rfl ?_
    refine v_aload_n C dM_take_17 rfl rfl ?_
    refine v_getI (k := 0) (q := 7) (v := σ.1 0 7) C dM_take_18 (by show (0 : Nat) < 18; decide) rfl rfl (by decide) rfl inM lM_116 rfl rfl ?_
    refine v_icmp_ge (tgt := 33) C dM_take_21 (by decide) (by omega) (by omega) (fun hc2 => ?_) (fun hc2 => ?_)
    · refine v_aload_n C dM_take_33 rfl rfl ?_
      refine v_getI (k := 0) (q := 7) (v := σ.1 0 7) C dM_take_34 (by show (0 : Nat) < 18; decide) rfl rfl (by decide) rfl inM lM_116 rfl rfl ?_
      refine v_putI (k := 0) (q := 7) C dM_take_37 (by show (0 : Nat) < 18; decide) rfl rfl (by decide) rfl inM tyM_ok nmM lM_116 rfl rfl rfl rfl rfl ?_
      refine v_aload_n C dM_take_40 rfl rfl ?_
      refine v_iconst C dM_take_41 ?_
      refine v_putI (k := 0) (q := 9) C dM_take_42 (by show (0 : Nat) < 18; decide) rfl rfl (by decide) rfl inM tyM_ok nmM lM_123 rfl rfl rfl (fN_bool (by omega)) (fF_bool (by omega)) ?_
      refine v_aload_n C dM_take_45 rfl rfl ?_
      obtain ⟨T, hT⟩ : ∃ s, s = m_tk σ i.toNat := ⟨_, rfl⟩
      refine v_st (σ1 := T) (by rw [hT]; unfold m_tk m_tkn; first | rw [if_pos (by omega)] | rw [if_neg (by omega)]) ?_
      refine v_cVI (k := 0) (n := 0) C (mE_ok _) trivial hR (kM_readFile _ xCl D cA ad hJ T (σ.2 7) (m_tkn σ i.toNat) (by rw [hT]; rfl) (by rw [hT]; rfl) (by rw [hT]; exact m_tk_I hI)) dM_take_46 (by show (0 : Nat) < 18; decide) rfl rfl gM_198 (by decide +kernel) (by decide) (by decide) rfl (Nat.le_of_ble_eq_true rfl) rfl ⟨rfl, rfl⟩ (fun r1 σ1 hp1 => ?_)
      rw [hT] at hp1
      exact v_iret C hRt hLk dM_take_49 hp1
    · refine v_aload_n C dM_take_24 rfl rfl ?_
      refine v_getR (k := 0) (q := 11) C dM_take_25 (by show (0 : Nat) < 18; decide) rfl rfl (by decide) rfl inM lM_33 rfl ?_
      refine v_iload_n C dM_take_28 rfl rfl ?_
      refine v_iald (k := 8) (v := σ.2 8 (i).toNat) C dM_take_29 (by show (8 : Nat) < 18; decide) rfl rfl (by omega) (by decide) rfl ?_
      refine v_goto (tgt := 37) C dM_take_30 (by decide) ?_
      refine v_putI (k := 0) (q := 7) C dM_take_37 (by show (0 : Nat) < 18; decide) rfl rfl (by decide) rfl inM tyM_ok nmM lM_116 rfl rfl rfl rfl rfl ?_
      refine v_aload_n C dM_take_40 rfl rfl ?_
      refine v_iconst C dM_take_41 ?_
      refine v_putI (k := 0) (q := 9) C dM_take_42 (by show (0 : Nat) < 18; decide) rfl rfl (by decide) rfl inM tyM_ok nmM lM_123 rfl rfl rfl (fN_bool (by omega)) (fF_bool (by omega)) ?_
      refine v_aload_n C dM_take_45 rfl rfl ?_
      obtain ⟨T, hT⟩ : ∃ s, s = m_tk σ i.toNat := ⟨_, rfl⟩
      refine v_st (σ1 := T) (by rw [hT]; unfold m_tk m_tkn; first | rw [if_pos (by omega)] | rw [if_neg (by omega)]) ?_
      refine v_cVI (k := 0) (n := 0) C (mE_ok _) trivial hR (kM_readFile _ xCl D cA ad hJ T (σ.2 7) (m_tkn σ i.toNat) (by rw [hT]; rfl) (by rw [hT]; rfl) (by rw [hT]; exact m_tk_I hI)) dM_take_46 (by show (0 : Nat) < 18; decide) rfl rfl gM_198 (by decide +kernel) (by decide) (by decide) rfl (Nat.le_of_ble_eq_true rfl) rfl ⟨rfl, rfl⟩ (fun r1 σ1 hp1 => ?_)
      rw [hT] at hp1
      exact v_iret C hRt hLk dM_take_49 hp1
  · exfalso; omega
