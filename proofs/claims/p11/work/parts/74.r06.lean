/-! the records: one walk of both -/
def x_recL (s : fS) (l : List Int) : fS := l.foldl (fun s n => x_puts (x_r0 s n) (x_rec s n)) s
theorem x_recs_L (C : fS) : ∀ k : Nat, k ≤ (C.1 374 4).toNat → x_recs C k = x_recL C ((x_ord C).take k) := by
  intro k
  induction k with
  | zero => intro _; rfl
  | succ k ih =>
    intro hk
    have e : (x_ord C).take (k + 1) = (x_ord C).take k ++ [C.2 376 k] := by
      rw [List.take_add_one, x_ord_get C k (by omega)]
      rfl
    show x_puts (x_r0 (x_recs C k) (C.2 376 k)) (x_rec (x_recs C k) (C.2 376 k)) = _
    rw [e, ih (by omega)]
    unfold x_recL
    rw [List.foldl_append]
    rfl
theorem x_rec_cg {s s1 : fS} (h4 : ∀ i, s1.2 4 i = s.2 4 i) (h5 : ∀ i, s1.2 5 i = s.2 5 i) (n : Int) : x_rec s1 n = x_rec s n := by
  unfold x_rec x_hd x_byt
  simp only [h4, h5]
theorem x_one_2 (s : fS) (n : Int) (a i : Nat) (h1 : a ≠ 375) (h2 : a ≠ 378) (h3 : a ≠ 379) : (x_puts (x_r0 s n) (x_rec s n)).2 a i = s.2 a i := by
  rw [x_puts_2 _ _ _ _ h1, x_r0_2 _ _ _ _ h2 h3]
theorem x_recs_sim : ∀ (l : List Int) (s t t0 : fS) (a : Int) (T U : List Int), 0 ≤ a → (∀ n ∈ l, x_rec s n = m_rec t n) → Dr s T → Mr t0 a t U → s.1 374 5 + s.1 374 6 = t.1 0 16 →
    Dr (x_recL s l) (T ++ l.flatMap (x_rec s)) ∧ Mr t0 a (m_recs t l) (U ++ l.flatMap (x_rec s)) ∧ (x_recL s l).1 374 5 + (x_recL s l).1 374 6 = (m_recs t l).1 0 16 ∧ (∀ a b, ¬ (a = 374 ∧ b = 6) → (x_recL s l).1 a b = s.1 a b) ∧ (∀ a b, a ≠ 375 → a ≠ 378 → a ≠ 379 → (x_recL s l).2 a b = s.2 a b) ∧ (∀ i, (s.2 378 i = t.2 13 i ∨ i ∈ l.map Int.toNat) → (x_recL s l).2 378 i = (m_recs t l).2 13 i) ∧ (∀ i, i ∉ l.map Int.toNat → (x_recL s l).2 378 i = s.2 378 i) := by
  intro l
  induction l with
  | nil =>
    intro s t t0 a T U ha hr hD hM he
    refine ⟨by show Dr s (T ++ []); rw [List.append_nil]; exact hD, by show Mr t0 a t (U ++ []); rw [List.append_nil]; exact hM, he, fun _ _ _ => rfl, fun _ _ _ _ _ => rfl, fun i h => ?_, fun _ _ => rfl⟩
    rcases h with h | h
    · exact h
    · cases h
  | cons n r ih =>
    intro s t t0 a T U ha hr hD hM he
    have hrn := hr n List.mem_cons_self
    obtain ⟨s1, hs1⟩ : ∃ s1, s1 = x_puts (x_r0 s n) (x_rec s n) := ⟨_, rfl⟩
    obtain ⟨t1, ht1⟩ : ∃ t1, t1 = m_puts (m_r0 t n) (m_rec t n) := ⟨_, rfl⟩
    have a2 : ∀ a i, a ≠ 375 → a ≠ 378 → a ≠ 379 → s1.2 a i = s.2 a i := fun a i g1 g2 g3 => by rw [hs1]; exact x_one_2 s n a i g1 g2 g3
    have b2 : ∀ a i, a ≠ 7 → a ≠ 13 → a ≠ 14 → t1.2 a i = t.2 a i := fun a i g1 g2 g3 => by rw [ht1]; exact m_one_2 t n a i g1 g2 g3
    have xr : ∀ x, x_rec s1 x = x_rec s x := fun x => x_rec_cg (fun i => a2 4 i (by decide) (by decide) (by decide)) (fun i => a2 5 i (by decide) (by decide) (by decide)) x
    have mr : ∀ x, m_rec t1 x = m_rec t x := fun x => (m_rec_congr (fun i => b2 5 i (by decide) (by decide) (by decide)) (fun i => b2 6 i (by decide) (by decide) (by decide)) x).1
    have D1 : Dr s1 (T ++ x_rec s n) := by
      rw [hs1]
      refine Dr_puts _ (Dr_cg hD rfl (fun j => ?_))
      rw [x_r0_2 _ _ _ _ (by decide) (by decide)]
    have M1 : Mr t0 a t1 (U ++ x_rec s n) := by
      rw [ht1, hrn]
      refine Mr_puts _ ha (Mr_cg hM rfl rfl (fun j => ?_))
      unfold m_r0
      rw [p2_2, if_neg (by omega), p2_2, if_neg (by omega)]
    have s6 : s1.1 374 6 = s.1 374 6 + (x_rec s n).length := by rw [hs1, x_puts_u]; rfl
    have s5 : s1.1 374 5 = s.1 374 5 := by rw [hs1, x_puts_1, if_neg (by decide)]; rfl
    have t6 : t1.1 0 16 = t.1 0 16 + (m_rec t n).length := by rw [ht1, m_one_1, if_pos ⟨rfl, rfl⟩]
    have he1 : s1.1 374 5 + s1.1 374 6 = t1.1 0 16 := by rw [s5, s6, t6, hrn]; omega
    obtain ⟨i1, i2, i3, i4, i5, i6, i7⟩ := ih s1 t1 t0 a (T ++ x_rec s n) (U ++ x_rec s n) ha (fun x hx => by rw [xr, mr]; exact hr x (List.mem_cons_of_mem _ hx)) D1 M1 he1
    have fe : r.flatMap (x_rec s1) = r.flatMap (x_rec s) := by
      have : x_rec s1 = x_rec s := funext xr
      rw [this]
    have ex : x_recL s (n :: r) = x_recL s1 r := by rw [hs1]; rfl
    have em : m_recs t (n :: r) = m_recs t1 r := by rw [ht1]; rfl
    have p378 : ∀ i, s1.2 378 i = if i = n.toNat then s.1 374 5 + s.1 374 6 else s.2 378 i := fun i => by
      rw [hs1, x_puts_2 _ _ _ _ (by decide)]
      unfold x_r0
      rw [p2_2, if_neg (by omega), p2_2]
      by_cases g : i = n.toNat
      · rw [if_pos ⟨rfl, g⟩, if_pos g]
      · rw [if_neg (by omega), if_neg g]
    have q13 : ∀ i, t1.2 13 i = if i = n.toNat then t.1 0 16 else t.2 13 i := fun i => by
      rw [ht1, m_puts_2 _ _ _ _ (by decide)]
      unfold m_r0
      rw [p2_2, if_neg (by omega), p2_2]
      by_cases g : i = n.toNat
      · rw [if_pos ⟨rfl, g⟩, if_pos g]
      · rw [if_neg (by omega), if_neg g]
    rw [ex, em, List.flatMap_cons, ← List.append_assoc, ← List.append_assoc, ← fe]
    refine ⟨i1, i2, i3, fun a b g => ?_, fun a b g1 g2 g3 => ?_, fun i h => ?_, fun i h => ?_⟩
    · rw [i4 a b g, hs1, x_puts_1, if_neg g]; rfl
    · rw [i5 a b g1 g2 g3, a2 a b g1 g2 g3]
    · refine i6 i ?_
      by_cases g : i = n.toNat
      · left; rw [p378, q13, if_pos g, if_pos g]; exact he
      · rcases h with h | h
        · left; rw [p378, q13, if_neg g, if_neg g]; exact h
        · right
          rcases List.mem_cons.mp h with h | h
          · exact absurd h g
          · exact h
    · have h1 : i ≠ n.toNat := fun e => h (by rw [e]; exact List.mem_cons_self)
      have h2 : i ∉ r.map Int.toNat := fun q => h (List.mem_cons_of_mem _ q)
      rw [i7 i h2, p378, if_neg h1]
/-- the rows and the ends -/
theorem x_tail_eq {R B : fS} {w q : Int} (h : ∀ n : Nat, 1 ≤ n → n ≤ 40 → (m_mv B w n = 1 ∧ B.2 1 n = 1 ∧ R.2 378 n = B.2 13 n ∧ 0 ≤ R.2 378 n) ∨ (m_mv B w n = 1 ∧ B.2 1 n = 0 ∧ R.2 378 n = -1) ∨ (m_mv B w n = 0 ∧ R.2 378 n = -2)) (he : R.1 374 5 + R.1 374 6 = B.1 0 16) : x_ftl R q = m_tail B w q := by
  have hc : m_cnt (x_has R 377) 40 = m_cnt (m_mv B w) 40 := m_cnt_eq 40 (fun i h1 h2 => by
    show (if R.2 378 i = -2 then 0 else 1) = _
    rcases h i h1 h2 with ⟨a, -, b, c⟩ | ⟨a, -, b⟩ | ⟨a, b⟩
    · rw [if_neg (by omega), a]
    · rw [if_neg (by omega), a]
    · rw [if_pos b, a])
  have hr : ∀ k, k ≤ 40 → x_rows R k = m_rows B w k := by
    intro k
    induction k with
    | zero => intro _; rfl
    | succ k ih =>
      intro hk
      show x_rows R k ++ (if R.2 378 (k + 1) = -2 then [] else x_row R ((k : Int) + 1)) = m_rows B w k ++ (if m_mv B w (k + 1) = 1 then m_row B ((k : Int) + 1) else [])
      rw [ih (by omega)]
      have hkt : ((k : Int) + 1).toNat = k + 1 := by omega
      congr 1
      rcases h (k + 1) (by omega) hk with ⟨a, b, c, d⟩ | ⟨a, b, c⟩ | ⟨a, b⟩
      · rw [if_neg (by omega), if_pos a]
        unfold x_row m_row
        rw [hkt, if_neg (by omega), if_pos b, c]
      · rw [if_neg (by omega), if_pos a]
        unfold x_row m_row
        rw [hkt, if_pos c, if_neg (by omega)]
      · rw [if_pos b, if_neg (by omega)]
  unfold x_ftl m_tail
  rw [hc, hr 40 (by omega), he]
theorem m_mv_cg {B t : fS} {w : Int} (h1 : ∀ i, B.2 1 i = t.2 1 i) (h3 : ∀ i, B.2 3 i = t.2 3 i) (n : Nat) : m_mv B w n = m_mv t w n := by
  unfold m_mv
  rw [h1, h3]
/-- a part, written by both -/
theorem R_part {C t : fS} {w how q a : Int} {T : List Int} (hC : x_rdy C) (ha : 0 ≤ a) (hb : C.1 374 5 = a) (hD : Dr C T) (hT : T = if w = 1 then [37, 70, 49, 10] else []) (hord : x_ord C = m_turns t w how (m_last how + 1)) (hrec : ∀ n ∈ x_ord C, x_rec C n = m_rec t n) (hq : m_pq t w = q)
    (htab : ∀ n : Nat, 1 ≤ n → n ≤ 40 → ((m_mv t w n = 1 ∧ t.2 1 n = 1) ∧ n ∈ (x_ord C).map Int.toNat) ∨ ((m_mv t w n = 1 ∧ t.2 1 n = 0) ∧ n ∉ (x_ord C).map Int.toNat ∧ C.2 378 n = -1) ∨ (m_mv t w n = 0 ∧ n ∉ (x_ord C).map Int.toNat ∧ C.2 378 n = -2)) :
    ∃ TL : List Int, Dr (x_fin C q) TL ∧ Mr t a (m_part t a w how) TL ∧ (x_fin C q).1 374 5 = a ∧ (x_fin C q).1 377 3 = (m_part t a w how).1 0 16 ∧ (x_fin C q).1 377 2 = (m_part t a w how).1 0 26 ∧ (∀ n : Nat, 1 ≤ n → n ≤ 40 → (m_mv t w n = 1 ∧ (x_fin C q).2 378 n = if t.2 1 n = 1 then (m_part t a w how).2 13 n else -1) ∨ (m_mv t w n = 0 ∧ (x_fin C q).2 378 n = -2)) ∧ (∀ a b, a ≠ 375 → a ≠ 378 → a ≠ 379 → (x_fin C q).2 a b = C.2 a b) := by
  have hc4 := hC.2.1
  obtain ⟨R, hR⟩ : ∃ s, s = x_recL C (x_ord C) := ⟨_, rfl⟩
  have eR : x_recs C (C.1 374 4).toNat = R := by
    rw [x_recs_L C _ (Nat.le_refl _), hR, ← x_ord_len, List.take_length]
  obtain ⟨t1, ht1⟩ : ∃ s, s = m_puts (f_p1 t 0 16 a) (if w = 1 then [37, 70, 49, 10] else []) := ⟨_, rfl⟩
  obtain ⟨B, hB⟩ : ∃ s, s = m_body t a w how := ⟨_, rfl⟩
  have eB : B = m_recs t1 (x_ord C) := by rw [hB, hord, ht1]; rfl
  have b2 : ∀ k i, k ≠ 7 → t1.2 k i = t.2 k i := fun k i g => by rw [ht1, m_puts_2 _ _ _ _ g]; rfl
  have M0 : Mr t a (f_p1 t 0 16 a) [] := ⟨by rw [p1_1, if_pos ⟨rfl, rfl⟩]; show a = a + 0; omega, fun _ i => by
    rw [if_neg (by show ¬ (a ≤ (i : Int) ∧ (i : Int) < a + 0); omega)]; rfl⟩
  have M1 : Mr t a t1 T := by
    have := Mr_puts (if w = 1 then [37, 70, 49, 10] else []) ha M0
    rw [← ht1, List.nil_append, ← hT] at this
    exact this
  have he1 : C.1 374 5 + C.1 374 6 = t1.1 0 16 := by rw [M1.1, hD.1, hb]
  have mr : ∀ n, m_rec t1 n = m_rec t n := fun n => (m_rec_congr (fun i => b2 5 i (by decide)) (fun i => b2 6 i (by decide)) n).1
  obtain ⟨i1, i2, i3, i4, i5, i6, i7⟩ := x_recs_sim (x_ord C) C t1 t a T T ha (fun n hn => by rw [mr]; exact hrec n hn) hD M1 he1
  rw [← hR] at i1 i3 i4 i5 i6 i7
  rw [← eB] at i2 i3 i6
  have B2 : ∀ k i, k ≠ 7 → k ≠ 13 → k ≠ 14 → B.2 k i = t.2 k i := fun k i g1 g2 g3 => by rw [hB]; exact m_body_2 _ _ _ _ _ _ g1 g2 g3
  have hmv : ∀ n, m_mv B w n = m_mv t w n := m_mv_cg (fun i => B2 1 i (by decide) (by decide) (by decide)) (fun i => B2 3 i (by decide) (by decide) (by decide))
  have hRb : 0 ≤ R.1 374 5 + R.1 374 6 := by
    rw [i3, (show B.1 0 16 = _ from i2.1)]
    omega
  have hpos : ∀ n : Nat, n ∈ (x_ord C).map Int.toNat → 0 ≤ R.2 378 n := by
    have hJ := x_recs_J (fun i => hC.1.2 4 i) (fun i => hC.1.2 5 i) hC.2.2.1 hc4.2 hC.2.2.2.1 hC.2.2.2.2 (fun i => hC.1.2 375 i) (fun i => hC.1.2 378 i) (fun i => hC.1.2 379 i) (C.1 374 4).toNat (by omega)
    intro n hn
    rw [i6 n (Or.inr hn), eB]
    have : ∀ (l : List Int) (s : fS), 0 ≤ s.1 0 16 → ∀ n : Nat, n ∈ l.map Int.toNat → 0 ≤ (m_recs s l).2 13 n := by
      intro l
      induction l with
      | nil => intro s _ n hn; cases hn
      | cons x r ih =>
        intro s h0 n hn
        have e : m_recs s (x :: r) = m_recs (m_puts (m_r0 s x) (m_rec s x)) r := rfl
        have e16 : (m_puts (m_r0 s x) (m_rec s x)).1 0 16 = s.1 0 16 + (m_rec s x).length := by rw [m_one_1, if_pos ⟨rfl, rfl⟩]
        rw [e]
        by_cases g : n ∈ r.map Int.toNat
        · exact ih _ (by rw [e16]; omega) n g
        · have hx : n = x.toNat := by
            rcases List.mem_cons.mp hn with h | h
            · exact h
            · exact absurd h g
          have keep : ∀ (l : List Int) (s : fS) (n : Nat), n ∉ l.map Int.toNat → (m_recs s l).2 13 n = s.2 13 n := by
            intro l
            induction l with
            | nil => intro s n _; rfl
            | cons y l ih2 =>
              intro s n hn
              have e2 : m_recs s (y :: l) = m_recs (m_puts (m_r0 s y) (m_rec s y)) l := rfl
              rw [e2, ih2 _ _ (fun q => hn (List.mem_cons_of_mem _ q)), m_puts_2 _ _ _ _ (by decide)]
              unfold m_r0
              rw [p2_2, if_neg (by omega), p2_2, if_neg (fun q => hn (by rw [q.2]; exact List.mem_cons_self))]
          rw [keep r _ n g, m_puts_2 _ _ _ _ (by decide)]
          unfold m_r0
          rw [p2_2, if_neg (by omega), p2_2, if_pos ⟨rfl, hx⟩]
          exact h0
    exact this (x_ord C) t1 (by rw [← he1]; have := hC.2.2.2; omega) n hn
  have htl : x_ftl R q = m_tail B w (m_pq t w) := by
    rw [hq]
    refine x_tail_eq (fun n n1 n40 => ?_) i3
    rw [hmv, B2 1 n (by decide) (by decide) (by decide)]
    rcases htab n n1 n40 with ⟨⟨g1, g2⟩, g3⟩ | ⟨⟨g1, g2⟩, g3, g4⟩ | ⟨g1, g2, g3⟩
    · exact Or.inl ⟨g1, g2, i6 n (Or.inr g3), hpos n g3⟩
    · exact Or.inr (Or.inl ⟨g1, g2, by rw [i7 n g3]; exact g4⟩)
    · exact Or.inr (Or.inr ⟨g1, by rw [i7 n g2]; exact g3⟩)
  have eF : x_fin C q = x_finx R q := by unfold x_fin; rw [eR]
  have eP : m_part t a w how = f_p1 (m_puts B (x_ftl R q)) 0 26 (B.1 0 16) := by rw [htl, hB]; rfl
  have DF : Dr (x_fin C q) (T ++ (x_ord C).flatMap (x_rec C) ++ x_ftl R q) := by
    rw [eF]
    exact Dr_cg (Dr_puts (x_ftl R q) (Dr_cg (s1 := f_p1 R 377 2 (R.1 374 5 + R.1 374 6)) i1 rfl (fun _ => rfl))) rfl (fun _ => rfl)
  have MF : Mr t a (m_part t a w how) (T ++ (x_ord C).flatMap (x_rec C) ++ x_ftl R q) := by
    rw [eP]
    exact Mr_cg (Mr_puts (x_ftl R q) ha i2) rfl rfl (fun _ => rfl)
  have f2 : ∀ a b, a ≠ 375 → (x_fin C q).2 a b = R.2 a b := fun a b g => by
    rw [eF]
    unfold x_finx
    rw [p1_2, x_puts_2 _ _ _ _ g]
    rfl
  have P13 : ∀ n, (m_part t a w how).2 13 n = B.2 13 n := fun n => by
    rw [eP, p1_2, m_puts_2 _ _ _ _ (by decide)]
  refine ⟨_, DF, MF, ?_, ?_, ?_, fun n n1 n40 => ?_, fun x b g1 g2 g3 => ?_⟩
  · rw [x_fin_o hC q 374 5 (by omega)]; exact hb
  · rw [(x_fin_n hC q).1, x_fin_o hC q 374 5 (by omega), hb, DF.1, MF.1]
  · have e1 : (x_fin C q).1 377 2 = R.1 374 5 + R.1 374 6 := by
      rw [eF]
      unfold x_finx
      rw [p1_1, if_neg (by omega), x_puts_1, if_neg (by omega), p1_1, if_pos ⟨rfl, rfl⟩]
    rw [e1, i3, eP, p1_1, if_pos ⟨rfl, rfl⟩]
  · rw [f2 378 n (by decide), P13]
    rcases htab n n1 n40 with ⟨⟨g1, g2⟩, g3⟩ | ⟨⟨g1, g2⟩, g3, g4⟩ | ⟨g1, g2, g3⟩
    · exact Or.inl ⟨g1, by rw [if_pos g2]; exact i6 n (Or.inr g3)⟩
    · exact Or.inl ⟨g1, by rw [if_neg (by omega), i7 n g3]; exact g4⟩
    · exact Or.inr ⟨g1, by rw [i7 n g2]; exact g3⟩
  · rw [f2 x b g1]; exact i5 x b g1 g2 g3
