/-! READ and TAKE, by both -/
theorem x_ldF_at {f : Nat → Int} {z : Int} {σ : fS} {r : Nat} (hr : 9 < r) (hl : ∀ n, 0 ≤ σ.2 (r + 2) n ∧ σ.2 (r + 2) n ≤ 120) : ∀ k n : Nat, 1 ≤ n → n ≤ k → (x_ldF f z σ r k).2 2 n = (if σ.2 (r + 1) n = -1 then 0 else 1) ∧ (x_ldF f z σ r k).2 3 n = 0 ∧ (σ.2 (r + 1) n ≠ -1 → (x_ldF f z σ r k).2 4 n = σ.2 (r + 2) n ∧ ∀ i : Nat, (i : Int) < σ.2 (r + 2) n → (x_ldF f z σ r k).2 5 (120 * n + i) = (q_va f z (x_bp σ r (n : Int) + (i : Int))).bmod 256) := by
  intro k
  induction k with
  | zero => intro n h1 h2; omega
  | succ k ih =>
    intro n h1 h2
    obtain ⟨y, hy⟩ : ∃ s, s = x_ldF f z σ r k := ⟨_, rfl⟩
    have yo := (x_ldF_o f z σ r k).2
    rw [← hy] at yo ih
    obtain ⟨Y, hY⟩ : ∃ s, s = x_ld1 σ r k y := ⟨_, rfl⟩
    have Y2 : ∀ a b, Y.2 a b = if a = 3 ∧ b = k + 1 then 0 else if a = 2 ∧ b = k + 1 then (if σ.2 (r + 1) (k + 1) = -1 then 0 else 1) else y.2 a b := fun a b => by
      rw [hY]
      unfold x_ld1
      rw [p2_2, p2_2]
    have Yr : ∀ a b, 5 < a → Y.2 a b = σ.2 a b := fun a b g => by rw [Y2, if_neg (by omega), if_neg (by omega), yo a (by omega)]
    have e : x_ldF f z σ r (k + 1) = if σ.2 (r + 1) (k + 1) = -1 then Y else x_ldb f z Y r ((k : Int) + 1) := by rw [hY, hy]; rfl
    by_cases gp : σ.2 (r + 1) (k + 1) = -1
    · rw [e, if_pos gp]
      by_cases g : n = k + 1
      · subst g
        exact ⟨by rw [Y2, if_neg (by omega), if_pos ⟨rfl, rfl⟩], by rw [Y2, if_pos ⟨rfl, rfl⟩], fun q => absurd gp q⟩
      · have yy : ∀ a b, (a = 4 ∨ a = 5 ∨ b ≠ k + 1) → Y.2 a b = y.2 a b := fun a b q => by rw [Y2, if_neg (by omega), if_neg (by omega)]
        obtain ⟨i1, i2, i3⟩ := ih n h1 (by omega)
        rw [yy 2 n (by omega), yy 3 n (by omega), yy 4 n (by omega)]
        refine ⟨i1, i2, fun q => ⟨(i3 q).1, fun i hi => ?_⟩⟩
        rw [yy 5 _ (by omega)]
        exact (i3 q).2 i hi
    · rw [e, if_neg gp]
      have kt : ((k : Int) + 1).toNat = k + 1 := by omega
      have kt2 : (((k : Int) + 1) * 120).toNat = 120 * (k + 1) := by omega
      have bp : x_bp Y r ((k : Int) + 1) = x_bp σ r ((k : Int) + 1) := by unfold x_bp; rw [Yr _ _ (by omega), Yr _ _ (by omega)]
      have Z2 : ∀ a b, (x_ldb f z Y r ((k : Int) + 1)).2 a b = if a = 5 ∧ 120 * (k + 1) ≤ b ∧ b < 120 * (k + 1) + (σ.2 (r + 2) (k + 1)).toNat then (q_va f z (x_bp σ r ((k : Int) + 1) + ((b - 120 * (k + 1) : Nat) : Int))).bmod 256 else if a = 4 ∧ b = k + 1 then σ.2 (r + 2) (k + 1) else Y.2 a b := fun a b => by
        unfold x_ldb
        rw [bp, kt, Yr (r + 2) (k + 1) (by omega)]
        show (if a = 5 ∧ (((k : Int) + 1) * 120).toNat ≤ b ∧ b < (((k : Int) + 1) * 120).toNat + (σ.2 (r + 2) (k + 1)).toNat then (q_va f z (x_bp σ r ((k : Int) + 1) + ((b - (((k : Int) + 1) * 120).toNat : Nat) : Int))).bmod 256 else (f_p2 Y 4 (k + 1) (σ.2 (r + 2) (k + 1))).2 a b) = _
        rw [kt2, p2_2]
      by_cases g : n = k + 1
      · subst g
        refine ⟨by rw [Z2, if_neg (by omega), if_neg (by omega), Y2, if_neg (by omega), if_pos ⟨rfl, rfl⟩], by rw [Z2, if_neg (by omega), if_neg (by omega), Y2, if_pos ⟨rfl, rfl⟩], fun q => ⟨by rw [Z2, if_neg (by omega), if_pos ⟨rfl, rfl⟩], fun i hi => ?_⟩⟩
        rw [Z2, if_pos ⟨rfl, by omega, by omega⟩, show 120 * (k + 1) + i - 120 * (k + 1) = i by omega, show ((k + 1 : Nat) : Int) = (k : Int) + 1 by push_cast; rfl]
      · obtain ⟨i1, i2, i3⟩ := ih n h1 (by omega)
        have yy : ∀ a b, (a = 4 ∨ a = 5 ∨ b ≠ k + 1) → Y.2 a b = y.2 a b := fun a b q => by rw [Y2, if_neg (by omega), if_neg (by omega)]
        have zz : ∀ a, a ≠ 5 → (x_ldb f z Y r ((k : Int) + 1)).2 a n = y.2 a n := fun a q => by rw [Z2, if_neg (by omega), if_neg (by omega), yy a n (by omega)]
        rw [zz 2 (by decide), zz 3 (by decide), zz 4 (by decide)]
        refine ⟨i1, i2, fun q => ⟨(i3 q).1, fun i hi => ?_⟩⟩
        have := hl n
        rw [Z2, if_neg (by omega), if_neg (by omega), yy 5 _ (by omega)]
        exact (i3 q).2 i hi
theorem m_ldn_at {f : Nat → Int} {L : fS} {b : Nat} : ∀ k n : Nat, 1 ≤ n → n ≤ k → (m_ldn f L b k).2 1 n = (if L.2 10 (b + n) = -1 then 0 else 1) ∧ (m_ldn f L b k).2 2 n = 0 ∧ (m_ldn f L b k).2 5 n = (if L.2 10 (b + n) = -1 then 0 else L.2 12 (b + n)) ∧ (L.2 10 (b + n) ≠ -1 → ∀ i : Nat, i < 120 → (i : Int) < L.2 12 (b + n) → (m_ldn f L b k).2 6 (120 * n + i) = f (L.2 11 (b + n) + (i : Int)).toNat) := by
  intro k
  induction k with
  | zero => intro n h1 h2; omega
  | succ k ih =>
    intro n h1 h2
    obtain ⟨y, hy⟩ : ∃ s, s = m_ldn f L b k := ⟨_, rfl⟩
    rw [← hy] at ih
    obtain ⟨Y, hY⟩ : ∃ s, s = m_ld1 L y b (k + 1) := ⟨_, rfl⟩
    have Y2 : ∀ a i, Y.2 a i = if a = 5 ∧ i = k + 1 then (if L.2 10 (b + (k + 1)) = -1 then 0 else L.2 12 (b + (k + 1))) else if a = 2 ∧ i = k + 1 then 0 else if a = 1 ∧ i = k + 1 then (if L.2 10 (b + (k + 1)) = -1 then 0 else 1) else y.2 a i := fun a i => by
      rw [hY]
      unfold m_ld1
      rw [p2_2, p2_2, p2_2]
    have M2 : ∀ a i, (m_ldn f L b (k + 1)).2 a i = if a = 6 ∧ 120 * (k + 1) ≤ i ∧ i < 120 * (k + 1) + 120 then (if ((i - 120 * (k + 1) : Nat) : Int) < (if L.2 10 (b + (k + 1)) = -1 then 0 else L.2 12 (b + (k + 1))) then f (L.2 11 (b + (k + 1)) + ((i - 120 * (k + 1) : Nat) : Int)).toNat else 0) else Y.2 a i := fun a i => by rw [hY, hy]; rfl
    by_cases g : n = k + 1
    · subst g
      refine ⟨by rw [M2, if_neg (by omega), Y2, if_neg (by omega), if_neg (by omega), if_pos ⟨rfl, rfl⟩], by rw [M2, if_neg (by omega), Y2, if_neg (by omega), if_pos ⟨rfl, rfl⟩], by rw [M2, if_neg (by omega), Y2, if_pos ⟨rfl, rfl⟩], fun q i hi hi2 => ?_⟩
      rw [M2, if_pos ⟨rfl, by omega, by omega⟩, show 120 * (k + 1) + i - 120 * (k + 1) = i by omega, if_neg q, if_pos hi2]
    · obtain ⟨i1, i2, i3, i4⟩ := ih n h1 (by omega)
      have mm : ∀ a, a ≠ 6 → (m_ldn f L b (k + 1)).2 a n = y.2 a n := fun a q => by rw [M2, if_neg (by omega), Y2, if_neg (by omega), if_neg (by omega), if_neg (by omega)]
      rw [mm 1 (by decide), mm 2 (by decide), mm 5 (by decide)]
      refine ⟨i1, i2, i3, fun q i hi hi2 => ?_⟩
      rw [M2, if_neg (by omega), Y2, if_neg (by omega), if_neg (by omega), if_neg (by omega)]
      exact i4 q i hi hi2
theorem q_bm {v : Int} (h : -128 ≤ v ∧ v ≤ 127) : v.bmod 256 = v := by
  rw [Int.bmod_def]
  split <;> omega
theorem R_rd {f : Nat → Int} {z v r : Int} {σ τ σ1 τ1 : fS} (hs : Rs σ τ) (hh : Rh σ τ) (hf9 : σ.2 9 = f) (hf7 : τ.2 7 = f) (hz1 : σ.1 8 1 = z) (hz2 : τ.1 0 7 = z) (ha : σ.1 8 2 = τ.1 0 9) (hI : x_I σ) (hx : x_rd f z σ v σ1) (hm : m_rd f z τ r τ1) : Rr σ1 τ1 ∧ v = r ∧ -2147483648 ≤ r ∧ r ≤ 2147483647 := by
  have hz : 0 ≤ z ∧ z ≤ 12000 := by rw [← hz1]; exact hI.1 8 1
  have h60 : 0 ≤ σ.1 10 1 ∧ σ.1 10 1 ≤ 60 := hI.1 10 1
  have hvr := x_rd_r hx hz hI
  have hfb : ∀ i, -128 ≤ f i ∧ f i ≤ 127 := fun i => by rw [← hf9]; exact hI.2 9 i
  obtain ⟨w, S, hf, hx⟩ := hx
  obtain ⟨f1, f2, f3, f4⟩ := x_ff_I hz hI hf
  rcases hm with ⟨m1, m2, m3⟩ | ⟨T, n, m1, m2, m3, m4, m5⟩
  · rcases x_ff_eq hz hI hf m2 with ⟨e1, -, e3⟩ | ⟨-, e, -⟩
    · rcases hx with ⟨-, x2, x3⟩ | ⟨x1, -⟩
      · have hv : v = r := by omega
        subst x3
        refine ⟨⟨?_, ⟨?_, ?_, ?_⟩, ?_⟩, hv, by omega, by omega⟩
        · exact Rs_cg hs (fun a b g => by rw [f2.1 a (by omega)]) (fun a b g => m1.1 a b (by omega))
        · rw [f2.2 8 1 (by decide) (by decide), m1.2 0 7 (by decide)]; omega
        · rw [f2.1 9 (by decide), hf9]; funext i; rw [m1.1 7 i (by decide), hf7]
        · rw [f2.2 8 2 (by decide) (by decide), m1.2 0 9 (by decide)]; exact ha
        · exact Rh_cg hh (fun a b g => f2.2 a b (by omega) (by omega)) (fun a b g => by rw [f2.1 a (by omega)]) (m1.2 0 10 (by decide)) (fun a b g => m1.1 a b (by omega)) h60.2
      · exact absurd x1 e1
    · exact absurd e (by decide)
  · obtain ⟨n2, e2, n1, n60, hok⟩ := p_file_ok m2 hz
    rcases x_ff_eq hz hI hf m2 with ⟨-, e, -⟩ | ⟨e1, -, c, e3, c1, c60, e4, e5⟩
    · exact absurd e (by decide)
    · rcases hx with ⟨x1, -⟩ | ⟨-, c2, x2, -, -, x4, x5⟩
      · exact absurd e1 x1
      · have ec : c2 = c := by omega
        have en : n2 = c := by omega
        have em : n = c := by omega
        rw [ec] at x5 x4
        rw [en] at hok
        rw [em] at m4 m5
        obtain ⟨c3, g1, -, -, hg⟩ := f4 e1
        have ec3 : c3 = c := by omega
        rw [ec3] at hg
        have hH := R_his_F (T := T) c60 f1 hg hok e5 c (Nat.le_refl _)
        obtain ⟨a1, a2, a3, a4⟩ := x_adF_I f1 c60 hg c (Nat.le_refl _)
        obtain ⟨X, hX⟩ : ∃ s, s = x_adF S c c := ⟨_, rfl⟩
        obtain ⟨M, hMM⟩ : ∃ s, s = m_lF f z T (T.2 15) c c := ⟨_, rfl⟩
        obtain ⟨l1, l2, l3⟩ := m_lF_o f z T (T.2 15) c c
        rw [← hX] at hH a1 a2 a3 a4 x5
        rw [← hMM] at hH l1 l2 l3
        unfold m_fin at m5
        rw [← hMM] at m5
        obtain ⟨V, hV⟩ : ∃ s, s = m_ldn f M (41 * (c - 1)) 40 := ⟨_, rfl⟩
        obtain ⟨U, hU⟩ : ∃ s, s = x_ldF f z X (12 + 3 * (c - 1)) 40 := ⟨_, rfl⟩
        obtain ⟨o1, o2⟩ := m_ldn_o f M (41 * (c - 1)) 40
        obtain ⟨q1, q2⟩ := x_ldF_o f z X (12 + 3 * (c - 1)) 40
        rw [← hV] at o1 o2 m5
        rw [← hU] at q1 q2
        unfold x_ldd at x5
        rw [← hU] at x5
        have s2 : ∀ a b, σ1.2 a b = if 1 ≤ b ∧ b < 41 then (if a = 6 then 0 else if a = 7 then U.2 2 b else U.2 a b) else U.2 a b := fun a b => by rw [x5]; rfl
        have so : ∀ a b, a ≠ 6 → a ≠ 7 → σ1.2 a b = U.2 a b := fun a b h6 h7 => by rw [s2, if_neg h6, if_neg h7, ite_self]
        have s67 : ∀ b, 1 ≤ b ∧ b < 41 → σ1.2 6 b = 0 ∧ σ1.2 7 b = U.2 2 b := fun b hb => by
          refine ⟨?_, ?_⟩
          · rw [s2, if_pos hb, if_pos rfl]
          · rw [s2, if_pos hb, if_neg (by decide), if_pos rfl]
        have t2 : ∀ a b, τ1.2 a b = if a = 3 ∧ 1 ≤ b ∧ b < 41 then 0 else if a = 4 ∧ 1 ≤ b ∧ b < 41 then V.2 1 b else V.2 a b := fun a b => by rw [m5.1]; rfl
        have to : ∀ a b, a ≠ 3 → a ≠ 4 → τ1.2 a b = V.2 a b := fun a b h6 h7 => by rw [t2, if_neg (by omega), if_neg (by omega)]
        have t34 : ∀ b, 1 ≤ b ∧ b < 41 → τ1.2 3 b = 0 ∧ τ1.2 4 b = V.2 1 b := fun b hb => by
          refine ⟨?_, ?_⟩
          · rw [t2, if_pos ⟨rfl, hb⟩]
          · rw [t2, if_neg (by omega), if_pos ⟨rfl, hb⟩]
        have s1 : ∀ a b, ¬ (a = 8 ∧ b = 2) → σ1.1 a b = X.1 a b := fun a b g => by
          rw [x5, p1_1, if_neg g]
          show U.1 a b = _
          rw [q1]
        have t1 : ∀ b, b ≠ 9 → ¬ (b = 20 ∨ b = 21 ∨ b = 22 ∨ b = 26 ∨ b = 27) → τ1.1 0 b = M.1 0 b := fun b g g2 => by
          rw [m5.2 0 b (by omega)]
          show (f_p1 V 0 9 0).1 0 b = _
          rw [p1_1, if_neg (by omega), o1]
        refine ⟨⟨fun n n1 n40 => ?_, ⟨?_, ?_, ?_⟩, ?_, fun r hr => ?_⟩, by omega, by omega, by omega⟩
        · obtain ⟨u1, u2, u3⟩ := x_ldF_at (f := f) (z := z) (σ := X) (r := 12 + 3 * (c - 1)) (by omega) (fun q => (x_okA_hl (c - 1) (by omega) _).mp (a1.2 _ _)) 40 n n1 n40
          obtain ⟨w1, w2, w3, w4⟩ := m_ldn_at (f := f) (L := M) (b := 41 * (c - 1)) 40 n n1 n40
          rw [← hU] at u1 u2 u3
          rw [← hV] at w1 w2 w3 w4
          obtain ⟨E1, E2⟩ := (hH (c - 1) (by omega)).2.2 n n1 n40
          have hln := (x_okA_hl (c - 1) (by omega) _).mp (a1.2 (12 + 3 * (c - 1) + 2) n)
          rw [← E1] at w1 w3 w4
          have hb : 1 ≤ n ∧ n < 41 := ⟨n1, by omega⟩
          have hth : σ1.2 2 n = τ1.2 1 n := by rw [so 2 n (by decide) (by decide), to 1 n (by decide) (by decide), u1, w1]
          refine ⟨hth, ?_, ?_, fun g => ?_⟩
          · rw [(t34 n hb).1]
            unfold x_ch
            rw [so 2 n (by decide) (by decide), (s67 n hb).1, (s67 n hb).2, u1]
            by_cases gp : X.2 (12 + 3 * (c - 1) + 1) n = -1
            · rw [if_pos gp, if_neg (by decide)]
            · rw [if_neg gp, if_pos rfl]
          · rw [(s67 n hb).2, (t34 n hb).2, u1, w1]
          · rw [so 2 n (by decide) (by decide), u1] at g
            have gp : X.2 (12 + 3 * (c - 1) + 1) n ≠ -1 := fun q => by rw [if_pos q] at g; exact absurd g (by decide)
            obtain ⟨u4, u5⟩ := u3 gp
            obtain ⟨k1, k2, k3⟩ := E2 gp
            rw [so 3 n (by decide) (by decide), so 4 n (by decide) (by decide), to 2 n (by decide) (by decide), to 5 n (by decide) (by decide), u2, w2, u4, w3, if_neg gp]
            refine ⟨rfl, k1, fun i hi => ?_⟩
            rw [so 5 _ (by decide) (by decide), to 6 _ (by decide) (by decide), u5 i hi, w4 gp i (by omega) (by omega)]
            have hbp : x_bp X (12 + 3 * (c - 1)) (n : Int) = M.2 11 (41 * (c - 1) + n) := by
              unfold x_bp
              rw [show ((n : Int)).toNat = n by omega]
              exact k2
            rw [hbp, q_va_i (by omega), q_bm (hfb _)]
        · rw [s1 8 1 (by decide), a4 8 1 (by decide) (by decide), f2.2 8 1 (by decide) (by decide), t1 7 (by decide) (by decide), l1 7 (by decide), m1.2 0 7 (by decide)]; omega
        · funext i
          rw [so 9 i (by decide) (by decide), q2 9 (by decide), a3 9 (by decide), f2.1 9 (by decide), hf9, to 7 i (by decide) (by decide), o2 7 (by decide), l3 7 (by decide), m1.1 7 i (by decide), hf7]
        · rw [x5, p1_1, if_pos ⟨rfl, rfl⟩, m5.2 0 9 (by decide)]
          show 0 = (f_p1 V 0 9 0).1 0 9
          rw [p1_1, if_pos ⟨rfl, rfl⟩]
        · rw [s1 10 1 (by decide), a2, t1 10 (by decide) (by decide), l2]
        · rw [s1 10 1 (by decide), a2] at hr
          obtain ⟨k1, k2, k3⟩ := hH r (by omega)
          have tM : ∀ a b, 7 < a → τ1.2 a b = M.2 a b := fun a b g => by rw [to a b (by omega) (by omega), o2 a (by omega)]
          refine ⟨by rw [s1 _ 3 (by omega), tM 8 r (by decide)]; exact k1, by rw [s1 _ 2 (by omega), tM 9 r (by decide)]; exact k2, fun n n1 n40 => ?_⟩
          rw [so _ n (by omega) (by omega), q2 _ (by omega), tM 10 _ (by decide)]
          exact (k3 n n1 n40).1
section R15
variable {σ σ1 τ τ1 : fS} {k v r i : Int}
theorem rs_read (h : Rr σ τ) (hI : x_I σ) (hM : m_I τ) (hy : x_rd (σ.2 9) (σ.1 8 1) σ v σ1) (hu : u_read τ r τ1) : Rr σ1 τ1 ∧ v = r ∧ -2147483648 ≤ r ∧ r ≤ 2147483647 := by
  have h0 := Rr_0 h 0
  unfold u_read at hu
  rw [← h.2.1.2.1, ← h.2.1.1] at hu
  exact R_rd h0.1 h0.2.2 rfl h0.2.1.2.1.symm rfl h0.2.1.1.symm h0.2.1.2.2 hI hy hu
theorem rs_take (h : Rr σ τ) (hI : x_I σ) (hM : m_I τ) (hy : y_take σ i k v σ1) (hu : u_take τ i r τ1) : Rr σ1 τ1 ∧ τ1.1 0 0 = k ∧ (0 ≤ k ∧ k ≤ 2) ∧ (k = 0 → v = r) ∧ -2147483648 ≤ r ∧ r ≤ 2147483647 := by
  have h60 : 0 ≤ σ.1 10 1 ∧ σ.1 10 1 ≤ 60 := hI.1 10 1
  have z10 := h.2.2.1
  rcases hy with ⟨g, rfl, rfl⟩ | ⟨g, rfl, hx⟩
  · rcases hu with ⟨-, rfl, rfl⟩ | ⟨q, -⟩
    · exact ⟨Rr_0 h 1, rfl, by decide, fun e => absurd e (by decide), by decide⟩
    · exact absurd (by rw [z10]; exact q) g
  · rcases hu with ⟨q, -⟩ | ⟨-, hm⟩
    · exact absurd (by rw [← z10]; exact g) q
    · have en : x_tkn σ i.toNat = m_tkn τ i.toNat := by
        unfold x_tkn m_tkn
        rw [(h.2.2.2 i.toNat (by omega)).1, h.2.1.1]
      have hmI := (m_rd_I (m_tk_I hM) (f := τ.2 7) (z := m_tkn τ i.toNat) rfl rfl hm).2
      rw [← h.2.1.2.1, ← en] at hm
      have c1 : ∀ a b, a ≠ 8 → (x_tk σ i.toNat).1 a b = σ.1 a b := fun a b g => by
        unfold x_tk
        rw [p1_1, if_neg (by omega), p1_1, if_neg (by omega)]
      have hRs : Rs (x_tk σ i.toNat) (m_tk τ i.toNat) := Rs_cg h.1 (fun _ _ _ => rfl) (fun _ _ _ => rfl)
      have hRh : Rh (x_tk σ i.toNat) (m_tk τ i.toNat) := Rh_cg h.2.2 (fun a b g => c1 a b (by omega)) (fun _ _ _ => rfl) rfl (fun _ _ _ => rfl) h60.2
      obtain ⟨e1, e2, e3⟩ := R_rd hRs hRh rfl h.2.1.2.1.symm rfl en.symm rfl (x_tk_I hI (by omega)) hx hm
      exact ⟨e1, by rw [hmI]; rfl, by decide, fun _ => e2, e3⟩
end R15
