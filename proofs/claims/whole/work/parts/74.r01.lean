section
/-! THE RELATION between the class and the reference -/
def Rs (σ τ : fS) : Prop := ∀ n : Nat, 1 ≤ n → n ≤ 40 → σ.2 2 n = τ.2 1 n ∧ x_ch σ n = τ.2 3 n ∧ σ.2 7 n = τ.2 4 n ∧ (σ.2 2 n = 1 → σ.2 3 n = τ.2 2 n ∧ σ.2 4 n = τ.2 5 n ∧ ∀ i : Nat, (i : Int) < σ.2 4 n → σ.2 5 (120 * n + i) = τ.2 6 (120 * n + i))
def Rf (σ τ : fS) : Prop := σ.1 8 1 = τ.1 0 7 ∧ σ.2 9 = τ.2 7 ∧ σ.1 8 2 = τ.1 0 9
def Rh (σ τ : fS) : Prop := σ.1 10 1 = τ.1 0 10 ∧ ∀ r : Nat, (r : Int) < σ.1 10 1 → σ.1 (12 + 3 * r) 3 = τ.2 8 r ∧ σ.1 (12 + 3 * r) 2 = τ.2 9 r ∧ ∀ n : Nat, 1 ≤ n → n ≤ 40 → σ.2 (12 + 3 * r + 1) n = τ.2 10 (41 * r + n)
def Rr (σ τ : fS) : Prop := Rs σ τ ∧ Rf σ τ ∧ Rh σ τ
theorem Rs_cg {σ σ1 τ τ1 : fS} (h : Rs σ τ) (h1 : ∀ a b, (a = 2 ∨ a = 3 ∨ a = 4 ∨ a = 5 ∨ a = 6 ∨ a = 7) → σ1.2 a b = σ.2 a b) (h2 : ∀ a b, (1 ≤ a ∧ a ≤ 6) → τ1.2 a b = τ.2 a b) : Rs σ1 τ1 := by
  intro n n1 n40
  obtain ⟨e1, e2, e3, e4⟩ := h n n1 n40
  have hch : x_ch σ1 n = x_ch σ n := by unfold x_ch; rw [h1 2 n (by decide), h1 6 n (by decide), h1 7 n (by decide)]
  refine ⟨by rw [h1 2 n (by decide), h2 1 n (by decide)]; exact e1, by rw [hch, h2 3 n (by decide)]; exact e2, by rw [h1 7 n (by decide), h2 4 n (by decide)]; exact e3, fun g => ?_⟩
  rw [h1 2 n (by decide)] at g
  obtain ⟨f1, f2, f3⟩ := e4 g
  refine ⟨by rw [h1 3 n (by decide), h2 2 n (by decide)]; exact f1, by rw [h1 4 n (by decide), h2 5 n (by decide)]; exact f2, fun i hi => ?_⟩
  rw [h1 4 n (by decide)] at hi
  rw [h1 5 _ (by decide), h2 6 _ (by decide)]
  exact f3 i hi
theorem Rh_cg {σ σ1 τ τ1 : fS} (h : Rh σ τ) (h1 : ∀ a b, (a = 10 ∨ (12 ≤ a ∧ a < 192)) → σ1.1 a b = σ.1 a b) (h2 : ∀ a b, (12 ≤ a ∧ a < 192) → σ1.2 a b = σ.2 a b) (h3 : τ1.1 0 10 = τ.1 0 10) (h4 : ∀ a b, (8 ≤ a ∧ a ≤ 10) → τ1.2 a b = τ.2 a b) (h60 : σ.1 10 1 ≤ 60) : Rh σ1 τ1 := by
  refine ⟨by rw [h1 10 1 (by decide), h3]; exact h.1, fun r hr => ?_⟩
  rw [h1 10 1 (by decide)] at hr
  obtain ⟨e1, e2, e3⟩ := h.2 r hr
  refine ⟨by rw [h1 _ 3 (by omega), h4 8 r (by decide)]; exact e1, by rw [h1 _ 2 (by omega), h4 9 r (by decide)]; exact e2, fun n n1 n40 => ?_⟩
  rw [h2 _ n (by omega), h4 10 _ (by decide)]
  exact e3 n n1 n40
theorem Rr_0 {σ τ : fS} (h : Rr σ τ) (q : Int) : Rr σ (f_p1 τ 0 0 q) := ⟨Rs_cg h.1 (fun _ _ _ => rfl) (fun _ _ _ => rfl), ⟨h.2.1.1, h.2.1.2.1, h.2.1.2.2⟩, ⟨h.2.2.1, h.2.2.2⟩⟩
end
section
/-! the short steps -/
section R2
variable {σ σ1 τ τ1 : fS} {k v r n i m b c w : Int}
theorem x_bring_2 (σ : fS) (n m : Int) (a q : Nat) : (x_bring σ n m).2 a q = if a = 5 then (if n * 120 ≤ (q : Int) ∧ (q : Int) < n * 120 + m then 0 else σ.2 5 q) else if a = 4 ∧ q = n.toNat then m else if a = 6 ∧ q = n.toNat then 1 else if a = 3 ∧ q = n.toNat then 0 else if a = 2 ∧ q = n.toNat then 1 else σ.2 a q := by
  unfold x_bring x_fill
  rw [pa_2]
  by_cases g : a = 5
  · subst g
    have e : (f_p2 (f_p2 (f_p2 (f_p2 σ 2 n.toNat 1) 3 n.toNat 0) 6 n.toNat 1) 4 n.toNat m).2 5 q = σ.2 5 q := by
      rw [p2_2, if_neg (by omega), p2_2, if_neg (by omega), p2_2, if_neg (by omega), p2_2, if_neg (by omega)]
    rw [if_pos rfl, if_pos rfl, e]
  · rw [if_neg g, if_neg g, p2_2, p2_2, p2_2, p2_2]
theorem m_bring_2 (τ : fS) (n m : Int) (a q : Nat) : (m_zero (m_bring τ n m) n 120).2 a q = if a = 6 ∧ (120 * n).toNat ≤ q ∧ q < (120 * n).toNat + 120 then 0 else if a = 5 ∧ q = n.toNat then m else if a = 3 ∧ q = n.toNat then 1 else if a = 2 ∧ q = n.toNat then 0 else if a = 1 ∧ q = n.toNat then 1 else τ.2 a q := by
  show (if a = 6 ∧ (120 * n).toNat ≤ q ∧ q < (120 * n).toNat + 120 then 0 else (m_bring τ n m).2 a q) = _
  unfold m_bring
  rw [p2_2, p2_2, p2_2, p2_2]
  rfl
theorem rs_object (h : Rr σ τ) (hI : x_I σ) (hy : y_object σ n m k v σ1) (hu : u_object τ n m τ1) : Rr σ1 τ1 ∧ τ1.1 0 0 = k ∧ 0 ≤ k ∧ k ≤ 2 := by
  rcases hy with ⟨g1, rfl, rfl⟩ | ⟨g1, g2, rfl, rfl⟩ | ⟨g1, g2, rfl, rfl⟩
  · rcases hu with ⟨-, rfl⟩ | ⟨q1, -, -⟩ | ⟨q1, -, -⟩
    · exact ⟨Rr_0 h 1, rfl, by decide, by decide⟩
    · exact absurd q1 g1
    · exact absurd q1 g1
  · rcases hu with ⟨q1, -⟩ | ⟨-, -, rfl⟩ | ⟨-, q2, -⟩
    · exact absurd g1 q1
    · exact ⟨Rr_0 h 2, rfl, by decide, by decide⟩
    · exact absurd q2 g2
  · rcases hu with ⟨q1, -⟩ | ⟨-, q2, -⟩ | ⟨-, -, rfl⟩
    · exact absurd g1 q1
    · exact absurd g2 q2
    · refine ⟨⟨fun j j1 j40 => ?_, ⟨h.2.1.1, ?_, h.2.1.2.2⟩, ?_⟩, rfl, by decide, by decide⟩
      · obtain ⟨e1, e2, e3, e4⟩ := h.1 j j1 j40
        have b2 : (x_bring σ n m).2 2 j = if j = n.toNat then 1 else σ.2 2 j := by rw [x_bring_2]; simp
        have b3 : (x_bring σ n m).2 3 j = if j = n.toNat then 0 else σ.2 3 j := by rw [x_bring_2]; simp
        have b4 : (x_bring σ n m).2 4 j = if j = n.toNat then m else σ.2 4 j := by rw [x_bring_2]; simp
        have b6 : (x_bring σ n m).2 6 j = if j = n.toNat then 1 else σ.2 6 j := by rw [x_bring_2]; simp
        have b7 : (x_bring σ n m).2 7 j = σ.2 7 j := by rw [x_bring_2]; simp
        have b5 : ∀ q, (x_bring σ n m).2 5 q = if n * 120 ≤ (q : Int) ∧ (q : Int) < n * 120 + m then 0 else σ.2 5 q := fun q => by rw [x_bring_2, if_pos rfl]
        have d1 : (m_zero (m_bring τ n m) n 120).2 1 j = if j = n.toNat then 1 else τ.2 1 j := by rw [m_bring_2]; simp
        have d2 : (m_zero (m_bring τ n m) n 120).2 2 j = if j = n.toNat then 0 else τ.2 2 j := by rw [m_bring_2]; simp
        have d3 : (m_zero (m_bring τ n m) n 120).2 3 j = if j = n.toNat then 1 else τ.2 3 j := by rw [m_bring_2]; simp
        have d4 : (m_zero (m_bring τ n m) n 120).2 4 j = τ.2 4 j := by rw [m_bring_2]; simp
        have d5 : (m_zero (m_bring τ n m) n 120).2 5 j = if j = n.toNat then m else τ.2 5 j := by rw [m_bring_2]; simp
        have d6 : ∀ q, (m_zero (m_bring τ n m) n 120).2 6 q = if (120 * n).toNat ≤ q ∧ q < (120 * n).toNat + 120 then 0 else τ.2 6 q := fun q => by rw [m_bring_2]; simp
        have hl : 0 ≤ σ.2 4 j ∧ σ.2 4 j ≤ 120 := hI.2 4 j
        by_cases gj : j = n.toNat
        · rw [if_pos gj] at b2 b3 b4 b6 d1 d2 d3 d5
          refine ⟨by rw [b2, d1], by unfold x_ch; rw [b2, if_pos rfl, b6, d3], by rw [b7, d4]; exact e3, fun _ => ⟨by rw [b3, d2], by rw [b4, d5], fun i hi => ?_⟩⟩
          rw [b4] at hi
          rw [b5, d6, if_pos (by omega), if_pos (by omega)]
        · rw [if_neg gj] at b2 b3 b4 b6 d1 d2 d3 d5
          refine ⟨by rw [b2, d1]; exact e1, ?_, by rw [b7, d4]; exact e3, fun g => ?_⟩
          · unfold x_ch
            rw [b2, b6, b7, d3]
            exact e2
          · rw [b2] at g
            obtain ⟨f1, f2, f3⟩ := e4 g
            refine ⟨by rw [b3, d2]; exact f1, by rw [b4, d5]; exact f2, fun i hi => ?_⟩
            rw [b4] at hi
            rw [b5, d6, if_neg (by omega), if_neg (by omega)]
            exact f3 i hi
      · funext q
        rw [x_bring_2, m_bring_2]
        simp only [show ¬ (9 = 5) by decide, show ¬ (9 = 4) by decide, show ¬ (9 = 6) by decide, show ¬ (9 = 3) by decide, show ¬ (9 = 2) by decide, show ¬ (7 = 6) by decide, show ¬ (7 = 5) by decide, show ¬ (7 = 3) by decide, show ¬ (7 = 2) by decide, show ¬ (7 = 1) by decide, false_and, if_false]
        exact congrFun h.2.1.2.1 q
      · refine Rh_cg h.2.2 (fun _ _ _ => rfl) (fun a q g => ?_) rfl (fun a q g => ?_) (hI.1 10 1).2
        · rw [x_bring_2, if_neg (by omega), if_neg (by omega), if_neg (by omega), if_neg (by omega), if_neg (by omega)]
        · rw [m_bring_2, if_neg (by omega), if_neg (by omega), if_neg (by omega), if_neg (by omega), if_neg (by omega)]
end R2
end
section
section R3
variable {σ σ1 τ τ1 : fS} {k v r n i m b c w : Int}
theorem rs_poke (h : Rr σ τ) (hI : x_I σ) (hM : m_I τ) (hy : y_poke σ i b k v σ1) (hu : u_poke τ i b r τ1) : Rr σ1 τ1 ∧ τ1.1 0 0 = k ∧ (0 ≤ k ∧ k ≤ 2) ∧ (k = 0 → v = r) ∧ -2147483648 ≤ r ∧ r ≤ 2147483647 := by
  have hz := h.2.1.1
  rcases hy with ⟨g, rfl, rfl⟩ | ⟨g, rfl, hv, rfl⟩
  · rcases hu with ⟨q, -⟩ | ⟨-, rfl, rfl⟩
    · exact absurd (by rw [hz]; exact q) g
    · exact ⟨Rr_0 h 1, rfl, by decide, fun e => absurd e (by decide), by decide⟩
  · rcases hu with ⟨-, rfl, rfl⟩ | ⟨q, -⟩
    · have h7 : -128 ≤ τ.2 7 i.toNat ∧ τ.2 7 i.toNat ≤ 127 := hM.2.1 7 _
      refine ⟨⟨Rs_cg h.1 (fun a q g9 => ?_) (fun a q g9 => ?_), ⟨h.2.1.1, ?_, rfl⟩, ?_⟩, rfl, by decide, fun _ => by rw [hv]; exact congrFun h.2.1.2.1 _, by omega⟩
      · rw [p1_2, p2_2, if_neg (by omega)]
      · rw [p1_2, p2_2, if_neg (by omega)]; rfl
      · funext q
        rw [p1_2, p1_2, p2_2, p2_2]
        by_cases e : q = i.toNat
        · rw [if_pos ⟨rfl, e⟩, if_pos ⟨rfl, e⟩]
        · rw [if_neg (by omega), if_neg (by omega)]; exact congrFun h.2.1.2.1 q
      · refine Rh_cg h.2.2 (fun a q g9 => ?_) (fun a q g9 => ?_) rfl (fun a q g9 => ?_) (hI.1 10 1).2
        · rw [p1_1, if_neg (by omega)]; rfl
        · rw [p1_2, p2_2, if_neg (by omega)]
        · rw [p1_2, p2_2, if_neg (by omega)]; rfl
    · exact absurd (by rw [← hz]; exact g) q
theorem rs_differ (h : Rr σ τ) (hI : x_I σ) (hy : y_differ σ b c k v σ1) (hu : u_differ τ b c r τ1) : Rr σ1 τ1 ∧ τ1.1 0 0 = k ∧ 0 ≤ k ∧ k ≤ 2 := by
  have hz := h.2.2.1
  rcases hy with ⟨g, rfl, rfl⟩ | ⟨g, rfl, hf, -⟩
  · rcases hu with ⟨-, rfl, rfl⟩ | ⟨q, -⟩
    · exact ⟨Rr_0 h 1, rfl, by decide, by decide⟩
    · exact absurd (by rw [hz]; exact q) g
  · rcases hu with ⟨q, -⟩ | ⟨-, hd, h0, -⟩
    · exact absurd (by rw [← hz]; exact g) q
    · refine ⟨⟨Rs_cg h.1 (fun a q g9 => by rw [hf.1 a (by omega) (by omega)]) (fun a q g9 => hd.1 a q (by omega) (by omega)), ⟨by rw [hf.2.1 8 1 (by omega), hd.2 0 7 (by omega)]; exact h.2.1.1, ?_, by rw [hf.2.1 8 2 (by omega), hd.2 0 9 (by omega)]; exact h.2.1.2.2⟩, ?_⟩, h0, by decide, by decide⟩
      · funext q
        rw [hf.1 9 (by omega) (by omega), hd.1 7 q (by omega) (by omega)]
        exact congrFun h.2.1.2.1 q
      · exact Rh_cg h.2.2 (fun a q g9 => hf.2.1 a q (by omega)) (fun a q g9 => by rw [hf.1 a (by omega) (by omega)]) (hd.2 0 10 (by omega)) (fun a q g9 => hd.1 a q (by omega) (by omega)) (hI.1 10 1).2
theorem m_cnt_eq {f g : Nat → Int} : ∀ k : Nat, (∀ i, 1 ≤ i → i ≤ k → f i = g i) → m_cnt f k = m_cnt g k := by
  intro k
  induction k with
  | zero => intro _; rfl
  | succ k ih =>
    intro h
    show m_cnt f k + (if f (k + 1) = 1 then 1 else 0) = m_cnt g k + (if g (k + 1) = 1 then 1 else 0)
    rw [ih (fun i h1 h2 => h i h1 (by omega)), h (k + 1) (by omega) (by omega)]
end R3
end
section
/-! the draft's bytes and the file's bytes, as lists -/
theorem getD_app {L M : List Int} {j : Nat} (h : j < L.length) : (L ++ M).getD j 0 = L.getD j 0 := by
  rw [List.getD_eq_getElem?_getD, List.getD_eq_getElem?_getD, List.getElem?_append_left h]
/-- the draft holds the list T -/
def Dr (s : fS) (T : List Int) : Prop := s.1 374 6 = (T.length : Int) ∧ ∀ j : Nat, j < T.length → s.2 375 j = T.getD j 0
theorem Dr_put {s : fS} {T : List Int} (h : Dr s T) (v : Int) : Dr (x_put s v) (T ++ [v]) := by
  refine ⟨?_, fun j hj => ?_⟩
  · rw [x_put_1, if_pos ⟨rfl, rfl⟩, h.1, List.length_append]; push_cast; rfl
  · unfold x_put
    rw [p1_2, p2_2, h.1]
    rw [List.length_append] at hj
    have hj : j < T.length + 1 := hj
    by_cases g : j = T.length
    · rw [if_pos ⟨rfl, by omega⟩, g]
      simp
    · rw [if_neg (by omega), h.2 j (by omega)]
      rw [getD_app (by omega)]
theorem Dr_puts : ∀ (L : List Int) {s : fS} {T : List Int}, Dr s T → Dr (x_puts s L) (T ++ L) := by
  intro L
  induction L with
  | nil => intro s T h; rw [List.append_nil]; exact h
  | cons x r ih =>
    intro s T h
    have := ih (Dr_put h x)
    rw [List.append_assoc] at this
    exact this
theorem Dr_cg {s s1 : fS} {T : List Int} (h : Dr s T) (h1 : s1.1 374 6 = s.1 374 6) (h2 : ∀ j, s1.2 375 j = s.2 375 j) : Dr s1 T := ⟨by rw [h1]; exact h.1, fun j hj => by rw [h2]; exact h.2 j hj⟩
/-- the file holds the list T from a place on, beside what was there -/
def Mr (t0 : fS) (a : Int) (t : fS) (T : List Int) : Prop := t.1 0 16 = a + (T.length : Int) ∧ (t.1 0 17 = 0 → ∀ i : Nat, t.2 7 i = if a ≤ (i : Int) ∧ (i : Int) < a + (T.length : Int) then T.getD (i - a.toNat) 0 else t0.2 7 i)
theorem Mr_put {t0 t : fS} {a : Int} {T : List Int} (ha : 0 ≤ a) (h : Mr t0 a t T) (v : Int) : Mr t0 a (m_put t v) (T ++ [v]) := by
  have hl : (T ++ [v]).length = T.length + 1 := by rw [List.length_append]; rfl
  refine ⟨?_, fun hc i => ?_⟩
  · rw [m_put_1, if_pos ⟨rfl, rfl⟩, h.1, hl]; push_cast; omega
  · have hc : t.1 0 17 = 0 := by rw [m_put_1, if_neg (by decide)] at hc; exact hc
    rw [m_put_2, h.1, hl]
    by_cases g : i = (a + (T.length : Int)).toNat
    · rw [if_pos ⟨rfl, g, by omega⟩, if_pos (by omega), show i - a.toNat = T.length by omega]
      simp
    · rw [if_neg (by omega), h.2 hc i]
      by_cases g2 : a ≤ (i : Int) ∧ (i : Int) < a + (T.length : Int)
      · rw [if_pos g2, if_pos (by omega), getD_app (by omega)]
      · rw [if_neg g2, if_neg (by omega)]
theorem Mr_puts : ∀ (L : List Int) {t0 t : fS} {a : Int} {T : List Int}, 0 ≤ a → Mr t0 a t T → Mr t0 a (m_puts t L) (T ++ L) := by
  intro L
  induction L with
  | nil => intro t0 t a T _ h; rw [List.append_nil]; exact h
  | cons x r ih =>
    intro t0 t a T ha h
    have := ih ha (Mr_put ha h x)
    rw [List.append_assoc] at this
    exact this
theorem Mr_cg {t0 t t1 : fS} {a : Int} {T : List Int} (h : Mr t0 a t T) (h1 : t1.1 0 16 = t.1 0 16) (h2 : t1.1 0 17 = t.1 0 17) (h3 : ∀ j, t1.2 7 j = t.2 7 j) : Mr t0 a t1 T := ⟨by rw [h1]; exact h.1, fun hc i => by rw [h3]; exact h.2 (by rw [← h2]; exact hc) i⟩
/-! the order of a draft as a list -/
def x_ord (s : fS) : List Int := (List.range (s.1 374 4).toNat).map (fun j => s.2 376 j)
theorem x_ord_len (s : fS) : (x_ord s).length = (s.1 374 4).toNat := by unfold x_ord; simp
theorem x_ord_get (s : fS) (j : Nat) (h : j < (s.1 374 4).toNat) : (x_ord s)[j]? = some (s.2 376 j) := by
  unfold x_ord
  rw [List.getElem?_map, List.getElem?_range h]
  rfl
theorem x_ord_ins (s : fS) (t : Nat) (n : Int) (hc : 0 ≤ s.1 374 4) (ht : (t : Int) ≤ s.1 374 4) : x_ord (x_insd s t n) = (x_ord s).take t ++ n :: (x_ord s).drop t := by
  have hl := x_ord_len s
  have h4 : (x_insd s t n).1 374 4 = s.1 374 4 + 1 := by unfold x_insd; rw [p1_1, if_pos ⟨rfl, rfl⟩]
  refine List.ext_getElem? fun j => ?_
  by_cases hj : j < (s.1 374 4).toNat + 1
  · rw [x_ord_get _ j (by rw [h4]; omega)]
    have v : (x_insd s t n).2 376 j = if j = t then n else if t < j ∧ j ≤ (s.1 374 4).toNat then s.2 376 (j - 1) else s.2 376 j := by
      unfold x_insd
      rw [p1_2, p2_2]
      by_cases g : j = t
      · rw [if_pos ⟨rfl, g⟩, if_pos g]
      · rw [if_neg (by omega), if_neg g]
        show (if 376 = 376 ∧ t < j ∧ j ≤ (s.1 374 4).toNat then s.2 376 (j - 1) else s.2 376 j) = _
        by_cases g2 : t < j ∧ j ≤ (s.1 374 4).toNat
        · rw [if_pos ⟨rfl, g2⟩, if_pos g2]
        · rw [if_neg (fun q => g2 q.2), if_neg g2]
    rw [v]
    have htl : ((x_ord s).take t).length = t := by rw [List.length_take, hl]; omega
    by_cases g1 : j < t
    · rw [if_neg (by omega), if_neg (by omega), List.getElem?_append_left (by omega), List.getElem?_take_of_lt g1, x_ord_get s j (by omega)]
    · rw [List.getElem?_append_right (by omega), htl]
      by_cases g2 : j = t
      · rw [if_pos g2, show j - t = 0 by omega]; rfl
      · rw [if_neg g2, if_pos (by omega), show j - t = (j - 1 - t) + 1 by omega, List.getElem?_cons_succ, List.getElem?_drop, show t + (j - 1 - t) = j - 1 by omega, x_ord_get s (j - 1) (by omega)]
  · rw [List.getElem?_eq_none (by rw [x_ord_len, h4]; omega), List.getElem?_eq_none]
    rw [List.length_append, List.length_cons, List.length_take, List.length_drop, hl]
    omega
/-! the turns up to object k -/
noncomputable def m_tk2 (τ : fS) (w how : Int) (k : Nat) : Nat → List Int
  | 0 => []
  | t + 1 => m_tk2 τ w how k t ++ m_turn τ w how (t : Int) k
theorem m_tk2_40 (τ : fS) (w how : Int) : ∀ t, m_tk2 τ w how 40 t = m_turns τ w how t := by
  intro t
  induction t with
  | zero => rfl
  | succ t ih => show m_tk2 τ w how 40 t ++ _ = m_turns τ w how t ++ _; rw [ih]
theorem m_tk2_0 (τ : fS) (w how : Int) : ∀ t, m_tk2 τ w how 0 t = [] := by
  intro t
  induction t with
  | zero => rfl
  | succ t ih => show m_tk2 τ w how 0 t ++ [] = []; rw [ih]; rfl
theorem m_tk2_no (τ : fS) (w how : Int) (k : Nat) : ∀ T, (∀ t : Nat, t < T → ¬ m_sel τ w how (t : Int) ((k : Int) + 1)) → m_tk2 τ w how (k + 1) T = m_tk2 τ w how k T := by
  intro T
  induction T with
  | zero => intro _; rfl
  | succ t ih =>
    intro h
    show m_tk2 τ w how (k + 1) t ++ (m_turn τ w how (t : Int) k ++ cif (m_sel τ w how (t : Int) ((k : Int) + 1)) [(k : Int) + 1] []) = m_tk2 τ w how k t ++ m_turn τ w how (t : Int) k
    rw [ih (fun u hu => h u (by omega)), cif_neg (h t (by omega)), List.append_nil]
/-- the objects of the turns from t on -/
noncomputable def m_tkr (τ : fS) (w how : Int) (k t : Nat) : Nat → List Int
  | 0 => []
  | u + 1 => m_tkr τ w how k t u ++ m_turn τ w how ((t + u : Nat) : Int) k
theorem m_tk2_add (τ : fS) (w how : Int) (k t : Nat) : ∀ u, m_tk2 τ w how k (t + u) = m_tk2 τ w how k t ++ m_tkr τ w how k t u := by
  intro u
  induction u with
  | zero => show _ = _ ++ []; rw [List.append_nil]; rfl
  | succ u ih =>
    show m_tk2 τ w how k (t + u) ++ m_turn τ w how ((t + u : Nat) : Int) k = _ ++ (m_tkr τ w how k t u ++ _)
    rw [ih, List.append_assoc]
theorem m_tkr_no (τ : fS) (w how : Int) (k t : Nat) : ∀ u, (∀ v : Nat, t ≤ v → v < t + u → ¬ m_sel τ w how (v : Int) ((k : Int) + 1)) → m_tkr τ w how (k + 1) t u = m_tkr τ w how k t u := by
  intro u
  induction u with
  | zero => intro _; rfl
  | succ u ih =>
    intro h
    show m_tkr τ w how (k + 1) t u ++ (m_turn τ w how ((t + u : Nat) : Int) k ++ cif (m_sel τ w how ((t + u : Nat) : Int) ((k : Int) + 1)) [(k : Int) + 1] []) = m_tkr τ w how k t u ++ m_turn τ w how ((t + u : Nat) : Int) k
    rw [ih (fun v h1 h2 => h v h1 (by omega)), cif_neg (h (t + u) (by omega) (by omega)), List.append_nil]
/-- object k + 1 comes at turn t alone -/
theorem m_tk2_in (τ : fS) (w how : Int) (k t u : Nat) (hs : m_sel τ w how (t : Int) ((k : Int) + 1)) (hu : ∀ v : Nat, v < t + 1 + u → v ≠ t → ¬ m_sel τ w how (v : Int) ((k : Int) + 1)) : m_tk2 τ w how (k + 1) (t + 1 + u) = m_tk2 τ w how k (t + 1) ++ ((k : Int) + 1) :: m_tkr τ w how k (t + 1) u := by
  rw [m_tk2_add, m_tkr_no τ w how k (t + 1) u (fun v h1 h2 => hu v h2 (by omega))]
  show (m_tk2 τ w how (k + 1) t ++ (m_turn τ w how (t : Int) k ++ cif (m_sel τ w how (t : Int) ((k : Int) + 1)) [(k : Int) + 1] [])) ++ _ = (m_tk2 τ w how k t ++ m_turn τ w how (t : Int) k) ++ _
  rw [m_tk2_no τ w how k t (fun v h => hu v (by omega) (by omega)), cif_pos hs]
  simp only [List.append_assoc, List.singleton_append]
theorem m_tk2_el (τ : fS) (w how : Int) (k : Nat) : ∀ T, ∀ x ∈ m_tk2 τ w how k T, ∃ t : Nat, t < T ∧ x ∈ m_turn τ w how (t : Int) k := by
  intro T
  induction T with
  | zero => intro x hx; cases hx
  | succ t ih =>
    intro x hx
    rcases List.mem_append.mp (show x ∈ m_tk2 τ w how k t ++ m_turn τ w how (t : Int) k from hx) with h | h
    · obtain ⟨u, h1, h2⟩ := ih x h
      exact ⟨u, by omega, h2⟩
    · exact ⟨t, by omega, h⟩
theorem m_tkr_el (τ : fS) (w how : Int) (k t : Nat) : ∀ u, ∀ x ∈ m_tkr τ w how k t u, ∃ v : Nat, t ≤ v ∧ v < t + u ∧ x ∈ m_turn τ w how (v : Int) k := by
  intro u
  induction u with
  | zero => intro x hx; cases hx
  | succ u ih =>
    intro x hx
    rcases List.mem_append.mp (show x ∈ m_tkr τ w how k t u ++ m_turn τ w how ((t + u : Nat) : Int) k from hx) with h | h
    · obtain ⟨v, h1, h2, h3⟩ := ih x h
      exact ⟨v, h1, by omega, h3⟩
    · exact ⟨t + u, by omega, by omega, h⟩
theorem m_turn_el (τ : fS) (w how t : Int) : ∀ k, ∀ x ∈ m_turn τ w how t k, m_sel τ w how t x ∧ 1 ≤ x ∧ x ≤ (k : Int) := by
  intro k
  induction k with
  | zero => intro x hx; cases hx
  | succ k ih =>
    intro x hx
    rcases List.mem_append.mp (show x ∈ m_turn τ w how t k ++ cif (m_sel τ w how t ((k : Int) + 1)) [(k : Int) + 1] [] from hx) with h | h
    · have := ih x h; exact ⟨this.1, by omega, by push_cast; omega⟩
    · by_cases g : m_sel τ w how t ((k : Int) + 1)
      · rw [cif_pos g, List.mem_singleton] at h; rw [h]; exact ⟨g, by omega, by push_cast; omega⟩
      · rw [cif_neg g] at h; cases h
end
section
/-! the choosing of a write is the turns' list -/
def x_key (s : fS) (how n : Int) : Int := if how = 1 then s.2 4 n.toNat else if how = 2 then (if s.2 3 n.toNat = 1 then 0 else 1) else 0
theorem x_gb_key {s : fS} {n o how : Int} (hh : 0 ≤ how ∧ how ≤ 2) (h3 : ∀ i, 0 ≤ s.2 3 i ∧ s.2 3 i ≤ 1) : x_gb s n o how = if x_key s how n < x_key s how o then 1 else 0 := by
  have a := h3 n.toNat
  have b := h3 o.toNat
  unfold x_gb x_key
  rcases (show how = 0 ∨ how = 1 ∨ how = 2 by omega) with e | e | e
  · subst e; simp
  · subst e; simp
  · subst e
    rcases (show s.2 3 n.toNat = 0 ∨ s.2 3 n.toNat = 1 by omega) with g1 | g1 <;> rcases (show s.2 3 o.toNat = 0 ∨ s.2 3 o.toNat = 1 by omega) with g2 | g2 <;> simp [g1, g2]
/-- an insertion into a list that is in order -/
theorem x_ins_ord {s s1 : fS} {n how : Int} {A B : List Int} (hh : 0 ≤ how ∧ how ≤ 2) (h3 : ∀ i, 0 ≤ s.2 3 i ∧ s.2 3 i ≤ 1) (hc : 0 ≤ s.1 374 4) (ho : x_ord s = A ++ B) (hA : ∀ x ∈ A, x_key s how x ≤ x_key s how n) (hB : ∀ x ∈ B, x_key s how n < x_key s how x) (h : x_insP s n how s1) : x_ord s1 = A ++ n :: B := by
  obtain ⟨t, ht, rfl, g1, g2⟩ := h
  have hl : (A ++ B).length = (s.1 374 4).toNat := by rw [← ho]; exact x_ord_len s
  rw [List.length_append] at hl
  have hget : ∀ j, j < (s.1 374 4).toNat → (A ++ B)[j]? = some (s.2 376 j) := fun j hj => by rw [← ho]; exact x_ord_get s j hj
  have e : t = A.length := by
    rcases Nat.lt_trichotomy t A.length with g | g | g
    · exfalso
      have h1 := g1 t (Nat.le_refl _) (by omega)
      have h2 := hget t (by omega)
      rw [List.getElem?_append_left g] at h2
      have h4 := hA _ (List.mem_of_getElem? h2)
      rw [x_gb_key hh h3] at h1
      split at h1 <;> omega
    · exact g
    · exfalso
      have h1 := g2 (by omega)
      have h2 := hget (t - 1) (by omega)
      rw [List.getElem?_append_right (by omega)] at h2
      have h4 := hB _ (List.mem_of_getElem? h2)
      rw [x_gb_key hh h3] at h1
      split at h1 <;> omega
  rw [x_ord_ins s t n hc ht, ho, e, List.take_left, List.drop_left]
theorem m_sel_key {σ τ : fS} {how t n : Int} (hh : 0 ≤ how ∧ how ≤ 2) (hR : Rs σ τ) (hn : 1 ≤ n ∧ n ≤ 40) (h3 : ∀ i, 0 ≤ σ.2 3 i ∧ σ.2 3 i ≤ 1) (ht : 0 ≤ t ∧ t ≤ m_last how) (hs : m_sel τ 1 how t n) : σ.2 2 n.toNat = 1 ∧ x_key σ how n = t := by
  obtain ⟨-, h1, h2⟩ := hs
  obtain ⟨e1, -, -, e4⟩ := hR n.toNat (by omega) (by omega)
  have hth : σ.2 2 n.toNat = 1 := by rw [e1]; exact h1
  obtain ⟨f1, f2, -⟩ := e4 hth
  refine ⟨hth, ?_⟩
  have a := h3 n.toNat
  unfold x_key
  unfold m_last at ht
  rcases (show how = 0 ∨ how = 1 ∨ how = 2 by omega) with e | e | e
  · subst e
    rw [if_neg (by decide), if_neg (by decide)] at ht ⊢
    omega
  · subst e
    rw [if_pos rfl]
    omega
  · subst e
    rw [if_neg (by decide), if_pos rfl] at ht ⊢
    rcases h2 with h2 | ⟨-, h2⟩ | h2
    · omega
    · rcases h2 with ⟨q1, q2⟩ | ⟨q1, q2⟩
      · rw [if_pos (by omega)]; omega
      · rw [if_neg (by omega)]; omega
    · omega
theorem m_sel_ex {σ τ : fS} {how n : Int} (hh : 0 ≤ how ∧ how ≤ 2) (hR : Rs σ τ) (hn : 1 ≤ n ∧ n ≤ 40) (h3 : ∀ i, 0 ≤ σ.2 3 i ∧ σ.2 3 i ≤ 1) (h4 : ∀ i, 0 ≤ σ.2 4 i ∧ σ.2 4 i ≤ 120) (hth : σ.2 2 n.toNat = 1) : ∃ t : Nat, t < m_last how + 1 ∧ (t : Int) = x_key σ how n ∧ m_sel τ 1 how (t : Int) n := by
  obtain ⟨e1, -, -, e4⟩ := hR n.toNat (by omega) (by omega)
  obtain ⟨f1, f2, -⟩ := e4 hth
  have a := h3 n.toNat
  have b := h4 n.toNat
  have h1 : τ.2 1 n.toNat = 1 := by rw [← e1]; exact hth
  unfold x_key m_last
  rcases (show how = 0 ∨ how = 1 ∨ how = 2 by omega) with e | e | e
  · subst e
    exact ⟨0, by omega, by simp, Or.inl ⟨rfl, h1⟩, h1, Or.inr (Or.inr ⟨by decide, by decide⟩)⟩
  · subst e
    rw [if_pos rfl, if_pos rfl]
    exact ⟨(σ.2 4 n.toNat).toNat, by omega, by omega, Or.inl ⟨rfl, h1⟩, h1, Or.inl ⟨rfl, by omega⟩⟩
  · subst e
    rw [if_neg (by decide), if_pos rfl, if_neg (by decide), if_pos rfl]
    by_cases g : σ.2 3 n.toNat = 1
    · rw [if_pos g]
      exact ⟨0, by omega, rfl, Or.inl ⟨rfl, h1⟩, h1, Or.inr (Or.inl ⟨rfl, Or.inl ⟨by omega, rfl⟩⟩)⟩
    · rw [if_neg g]
      exact ⟨1, by omega, rfl, Or.inl ⟨rfl, h1⟩, h1, Or.inr (Or.inl ⟨rfl, Or.inr ⟨by omega, by decide⟩⟩)⟩
theorem x_key_cg {s σ : fS} (h : ∀ a b, a ≠ 376 → s.2 a b = σ.2 a b) (how n : Int) : x_key s how n = x_key σ how n := by
  unfold x_key
  rw [h 4 _ (by decide), h 3 _ (by decide)]
theorem x_chR_ord {F τ : fS} {how : Int} (hh : 0 ≤ how ∧ how ≤ 2) (hR : Rs F τ) (h0 : F.1 374 4 = 0) (h2 : ∀ i, 0 ≤ F.2 2 i ∧ F.2 2 i ≤ 1) (h3 : ∀ i, 0 ≤ F.2 3 i ∧ F.2 3 i ≤ 1) (h4 : ∀ i, 0 ≤ F.2 4 i ∧ F.2 4 i ≤ 120) : ∀ (k : Nat) (C : fS), k ≤ 40 → x_chR F how k C → x_ord C = m_tk2 τ 1 how k (m_last how + 1) := by
  intro k
  induction k with
  | zero =>
    intro C _ h
    have e : C = F := h
    rw [e, m_tk2_0]
    unfold x_ord
    rw [h0]
    rfl
  | succ k ih =>
    intro C hk h
    obtain ⟨y, hy, h⟩ := h
    have io := ih y (by omega) hy
    obtain ⟨i1, i2, i3, i4⟩ := x_chR_I h0 k y (by omega) hy
    have hkt : ((k : Int) + 1).toNat = k + 1 := by omega
    rcases h with ⟨hth, hins⟩ | ⟨hth, rfl⟩
    · obtain ⟨t, ht, hkey, hsel⟩ := m_sel_ex (n := (k : Int) + 1) hh hR (by omega) h3 h4 (by rw [hkt]; exact hth)
      obtain ⟨u, hu⟩ : ∃ u, m_last how + 1 = t + 1 + u := ⟨m_last how - t, by omega⟩
      have huniq : ∀ v : Nat, v < t + 1 + u → v ≠ t → ¬ m_sel τ 1 how (v : Int) ((k : Int) + 1) := fun v hv hne hs => by
        have := m_sel_u hh (by omega) (by omega) hs hsel
        omega
      rw [hu, m_tk2_in τ 1 how k t u hsel huniq]
      rw [hu, m_tk2_add] at io
      refine x_ins_ord hh (fun i => by rw [i3 3 i (by decide)]; exact h3 i) i1.1 io (fun x hx => ?_) (fun x hx => ?_) hins
      · obtain ⟨v, hv, hm⟩ := m_tk2_el τ 1 how k (t + 1) x hx
        obtain ⟨hs, x1, x2⟩ := m_turn_el τ 1 how (v : Int) k x hm
        rw [x_key_cg i3, x_key_cg i3, (m_sel_key hh hR (by omega) h3 (by omega) hs).2, ← hkey]
        omega
      · obtain ⟨v, hv1, hv2, hm⟩ := m_tkr_el τ 1 how k (t + 1) u x hx
        obtain ⟨hs, x1, x2⟩ := m_turn_el τ 1 how (v : Int) k x hm
        rw [x_key_cg i3, x_key_cg i3, (m_sel_key hh hR (by omega) h3 (by omega) hs).2, ← hkey]
        omega
    · rw [io, m_tk2_no]
      intro t ht hs
      have := (m_sel_key hh hR (by omega) h3 (by omega) hs).1
      rw [hkt] at this
      omega
/-- the choosing of an append is the turn's list -/
theorem x_ccF_ord {F τ : fS} (hR : Rs F τ) (h0 : F.1 374 4 = 0) : ∀ (k : Nat), k ≤ 40 → x_ccR F k (x_ccF F k) → x_ord (x_ccF F k) = m_turn τ 0 0 0 k := by
  intro k
  induction k with
  | zero =>
    intro _ _
    show x_ord F = []
    unfold x_ord
    rw [h0]
    rfl
  | succ k ih =>
    intro hk h
    obtain ⟨y, hy, h⟩ := h
    have ey := x_ccR_F h0 k y (by omega) hy
    rw [ey] at hy h
    have io := ih (by omega) hy
    obtain ⟨i1, -⟩ := x_ccR_I h0 k _ (by omega) hy
    obtain ⟨e1, e2, -, -⟩ := hR (k + 1) (by omega) (by omega)
    have hkt : ((k : Int) + 1).toNat = k + 1 := by omega
    show _ = m_turn τ 0 0 0 k ++ cif (m_sel τ 0 0 0 ((k : Int) + 1)) [(k : Int) + 1] []
    rw [← io]
    rcases h with ⟨g1, g2⟩ | ⟨g1, g2, g3⟩ | ⟨g1, g2, g3⟩
    · rw [g2, cif_neg, List.append_nil]
      intro hs
      obtain ⟨hs, -, -⟩ := hs
      rw [hkt] at hs
      omega
    · rw [x_ins0 i1.1 g3, x_ord_ins _ _ _ i1.1 (by omega), ← x_ord_len, List.take_length, List.drop_length, cif_pos]
      refine ⟨Or.inr ⟨rfl, ?_⟩, ?_, Or.inr (Or.inr ⟨by decide, by decide⟩)⟩
      · rw [hkt, ← e2]; exact g1
      · rw [hkt, ← e1]; exact g2
    · rw [cif_neg, List.append_nil]
      · rw [g3]; rfl
      · intro hs
        have := hs.2.1
        rw [hkt] at this
        omega
end
section
/-! the records: one walk of both -/
def x_recL (s : fS) (l : List Int) : fS := l.foldl (fun s n => x_puts (x_r0 s n) (x_rec s n)) s
theorem x_recs_L (C : fS) : ∀ k : Nat, k ≤ (C.1 374 4).toNat → x_recs C k = x_recL C ((x_ord C).take k) := by
  intro k
  induction k with
  | zero => intro _; rfl
  | succ k ih =>
    intro hk
    have e : (x_ord C).take (k + 1) = (x_ord C).take k ++ [C.2 376 k] := by
      rw [List.take_add_one, x_ord_get C k (by omega)]
      rfl
    show x_puts (x_r0 (x_recs C k) (C.2 376 k)) (x_rec (x_recs C k) (C.2 376 k)) = _
    rw [e, ih (by omega)]
    unfold x_recL
    rw [List.foldl_append]
    rfl
theorem x_rec_cg {s s1 : fS} (h4 : ∀ i, s1.2 4 i = s.2 4 i) (h5 : ∀ i, s1.2 5 i = s.2 5 i) (n : Int) : x_rec s1 n = x_rec s n := by
  unfold x_rec x_hd x_byt
  simp only [h4, h5]
theorem x_one_2 (s : fS) (n : Int) (a i : Nat) (h1 : a ≠ 375) (h2 : a ≠ 378) (h3 : a ≠ 379) : (x_puts (x_r0 s n) (x_rec s n)).2 a i = s.2 a i := by
  rw [x_puts_2 _ _ _ _ h1, x_r0_2 _ _ _ _ h2 h3]
theorem x_recs_sim : ∀ (l : List Int) (s t t0 : fS) (a : Int) (T U : List Int), 0 ≤ a → (∀ n ∈ l, x_rec s n = m_rec t n) → Dr s T → Mr t0 a t U → s.1 374 5 + s.1 374 6 = t.1 0 16 →
    Dr (x_recL s l) (T ++ l.flatMap (x_rec s)) ∧ Mr t0 a (m_recs t l) (U ++ l.flatMap (x_rec s)) ∧ (x_recL s l).1 374 5 + (x_recL s l).1 374 6 = (m_recs t l).1 0 16 ∧ (∀ a b, ¬ (a = 374 ∧ b = 6) → (x_recL s l).1 a b = s.1 a b) ∧ (∀ a b, a ≠ 375 → a ≠ 378 → a ≠ 379 → (x_recL s l).2 a b = s.2 a b) ∧ (∀ i, (s.2 378 i = t.2 13 i ∨ i ∈ l.map Int.toNat) → (x_recL s l).2 378 i = (m_recs t l).2 13 i) ∧ (∀ i, i ∉ l.map Int.toNat → (x_recL s l).2 378 i = s.2 378 i) := by
  intro l
  induction l with
  | nil =>
    intro s t t0 a T U ha hr hD hM he
    refine ⟨by show Dr s (T ++ []); rw [List.append_nil]; exact hD, by show Mr t0 a t (U ++ []); rw [List.append_nil]; exact hM, he, fun _ _ _ => rfl, fun _ _ _ _ _ => rfl, fun i h => ?_, fun _ _ => rfl⟩
    rcases h with h | h
    · exact h
    · cases h
  | cons n r ih =>
    intro s t t0 a T U ha hr hD hM he
    have hrn := hr n List.mem_cons_self
    obtain ⟨s1, hs1⟩ : ∃ s1, s1 = x_puts (x_r0 s n) (x_rec s n) := ⟨_, rfl⟩
    obtain ⟨t1, ht1⟩ : ∃ t1, t1 = m_puts (m_r0 t n) (m_rec t n) := ⟨_, rfl⟩
    have a2 : ∀ a i, a ≠ 375 → a ≠ 378 → a ≠ 379 → s1.2 a i = s.2 a i := fun a i g1 g2 g3 => by rw [hs1]; exact x_one_2 s n a i g1 g2 g3
    have b2 : ∀ a i, a ≠ 7 → a ≠ 13 → a ≠ 14 → t1.2 a i = t.2 a i := fun a i g1 g2 g3 => by rw [ht1]; exact m_one_2 t n a i g1 g2 g3
    have xr : ∀ x, x_rec s1 x = x_rec s x := fun x => x_rec_cg (fun i => a2 4 i (by decide) (by decide) (by decide)) (fun i => a2 5 i (by decide) (by decide) (by decide)) x
    have mr : ∀ x, m_rec t1 x = m_rec t x := fun x => (m_rec_congr (fun i => b2 5 i (by decide) (by decide) (by decide)) (fun i => b2 6 i (by decide) (by decide) (by decide)) x).1
    have D1 : Dr s1 (T ++ x_rec s n) := by
      rw [hs1]
      refine Dr_puts _ (Dr_cg hD rfl (fun j => ?_))
      rw [x_r0_2 _ _ _ _ (by decide) (by decide)]
    have M1 : Mr t0 a t1 (U ++ x_rec s n) := by
      rw [ht1, hrn]
      refine Mr_puts _ ha (Mr_cg hM rfl rfl (fun j => ?_))
      unfold m_r0
      rw [p2_2, if_neg (by omega), p2_2, if_neg (by omega)]
    have s6 : s1.1 374 6 = s.1 374 6 + (x_rec s n).length := by rw [hs1, x_puts_u]; rfl
    have s5 : s1.1 374 5 = s.1 374 5 := by rw [hs1, x_puts_1, if_neg (by decide)]; rfl
    have t6 : t1.1 0 16 = t.1 0 16 + (m_rec t n).length := by rw [ht1, m_one_1, if_pos ⟨rfl, rfl⟩]
    have he1 : s1.1 374 5 + s1.1 374 6 = t1.1 0 16 := by rw [s5, s6, t6, hrn]; omega
    obtain ⟨i1, i2, i3, i4, i5, i6, i7⟩ := ih s1 t1 t0 a (T ++ x_rec s n) (U ++ x_rec s n) ha (fun x hx => by rw [xr, mr]; exact hr x (List.mem_cons_of_mem _ hx)) D1 M1 he1
    have fe : r.flatMap (x_rec s1) = r.flatMap (x_rec s) := by
      have : x_rec s1 = x_rec s := funext xr
      rw [this]
    have ex : x_recL s (n :: r) = x_recL s1 r := by rw [hs1]; rfl
    have em : m_recs t (n :: r) = m_recs t1 r := by rw [ht1]; rfl
    have p378 : ∀ i, s1.2 378 i = if i = n.toNat then s.1 374 5 + s.1 374 6 else s.2 378 i := fun i => by
      rw [hs1, x_puts_2 _ _ _ _ (by decide)]
      unfold x_r0
      rw [p2_2, if_neg (by omega), p2_2]
      by_cases g : i = n.toNat
      · rw [if_pos ⟨rfl, g⟩, if_pos g]
      · rw [if_neg (by omega), if_neg g]
    have q13 : ∀ i, t1.2 13 i = if i = n.toNat then t.1 0 16 else t.2 13 i := fun i => by
      rw [ht1, m_puts_2 _ _ _ _ (by decide)]
      unfold m_r0
      rw [p2_2, if_neg (by omega), p2_2]
      by_cases g : i = n.toNat
      · rw [if_pos ⟨rfl, g⟩, if_pos g]
      · rw [if_neg (by omega), if_neg g]
    rw [ex, em, List.flatMap_cons, ← List.append_assoc, ← List.append_assoc, ← fe]
    refine ⟨i1, i2, i3, fun a b g => ?_, fun a b g1 g2 g3 => ?_, fun i h => ?_, fun i h => ?_⟩
    · rw [i4 a b g, hs1, x_puts_1, if_neg g]; rfl
    · rw [i5 a b g1 g2 g3, a2 a b g1 g2 g3]
    · refine i6 i ?_
      by_cases g : i = n.toNat
      · left; rw [p378, q13, if_pos g, if_pos g]; exact he
      · rcases h with h | h
        · left; rw [p378, q13, if_neg g, if_neg g]; exact h
        · right
          rcases List.mem_cons.mp h with h | h
          · exact absurd h g
          · exact h
    · have h1 : i ≠ n.toNat := fun e => h (by rw [e]; exact List.mem_cons_self)
      have h2 : i ∉ r.map Int.toNat := fun q => h (List.mem_cons_of_mem _ q)
      rw [i7 i h2, p378, if_neg h1]
/-- the rows and the ends -/
theorem x_tail_eq {R B : fS} {w q : Int} (h : ∀ n : Nat, 1 ≤ n → n ≤ 40 → (m_mv B w n = 1 ∧ B.2 1 n = 1 ∧ R.2 378 n = B.2 13 n ∧ 0 ≤ R.2 378 n) ∨ (m_mv B w n = 1 ∧ B.2 1 n = 0 ∧ R.2 378 n = -1) ∨ (m_mv B w n = 0 ∧ R.2 378 n = -2)) (he : R.1 374 5 + R.1 374 6 = B.1 0 16) : x_ftl R q = m_tail B w q := by
  have hc : m_cnt (x_has R 377) 40 = m_cnt (m_mv B w) 40 := m_cnt_eq 40 (fun i h1 h2 => by
    show (if R.2 378 i = -2 then 0 else 1) = _
    rcases h i h1 h2 with ⟨a, -, b, c⟩ | ⟨a, -, b⟩ | ⟨a, b⟩
    · rw [if_neg (by omega), a]
    · rw [if_neg (by omega), a]
    · rw [if_pos b, a])
  have hr : ∀ k, k ≤ 40 → x_rows R k = m_rows B w k := by
    intro k
    induction k with
    | zero => intro _; rfl
    | succ k ih =>
      intro hk
      show x_rows R k ++ (if R.2 378 (k + 1) = -2 then [] else x_row R ((k : Int) + 1)) = m_rows B w k ++ (if m_mv B w (k + 1) = 1 then m_row B ((k : Int) + 1) else [])
      rw [ih (by omega)]
      have hkt : ((k : Int) + 1).toNat = k + 1 := by omega
      congr 1
      rcases h (k + 1) (by omega) hk with ⟨a, b, c, d⟩ | ⟨a, b, c⟩ | ⟨a, b⟩
      · rw [if_neg (by omega), if_pos a]
        unfold x_row m_row
        rw [hkt, if_neg (by omega), if_pos b, c]
      · rw [if_neg (by omega), if_pos a]
        unfold x_row m_row
        rw [hkt, if_pos c, if_neg (by omega)]
      · rw [if_pos b, if_neg (by omega)]
  unfold x_ftl m_tail
  rw [hc, hr 40 (by omega), he]
theorem m_mv_cg {B t : fS} {w : Int} (h1 : ∀ i, B.2 1 i = t.2 1 i) (h3 : ∀ i, B.2 3 i = t.2 3 i) (n : Nat) : m_mv B w n = m_mv t w n := by
  unfold m_mv
  rw [h1, h3]
/-- a part, written by both -/
theorem R_part {C t : fS} {w how q a : Int} {T : List Int} (hC : x_rdy C) (ha : 0 ≤ a) (hb : C.1 374 5 = a) (hD : Dr C T) (hT : T = if w = 1 then [37, 70, 49, 10] else []) (hord : x_ord C = m_turns t w how (m_last how + 1)) (hrec : ∀ n ∈ x_ord C, x_rec C n = m_rec t n) (hq : m_pq t w = q)
    (htab : ∀ n : Nat, 1 ≤ n → n ≤ 40 → ((m_mv t w n = 1 ∧ t.2 1 n = 1) ∧ n ∈ (x_ord C).map Int.toNat) ∨ ((m_mv t w n = 1 ∧ t.2 1 n = 0) ∧ n ∉ (x_ord C).map Int.toNat ∧ C.2 378 n = -1) ∨ (m_mv t w n = 0 ∧ n ∉ (x_ord C).map Int.toNat ∧ C.2 378 n = -2)) :
    ∃ TL : List Int, Dr (x_fin C q) TL ∧ Mr t a (m_part t a w how) TL ∧ (x_fin C q).1 374 5 = a ∧ (x_fin C q).1 377 3 = (m_part t a w how).1 0 16 ∧ (x_fin C q).1 377 2 = (m_part t a w how).1 0 26 ∧ (∀ n : Nat, 1 ≤ n → n ≤ 40 → (m_mv t w n = 1 ∧ (x_fin C q).2 378 n = if t.2 1 n = 1 then (m_part t a w how).2 13 n else -1) ∨ (m_mv t w n = 0 ∧ (x_fin C q).2 378 n = -2)) ∧ (∀ a b, a ≠ 375 → a ≠ 378 → a ≠ 379 → (x_fin C q).2 a b = C.2 a b) := by
  have hc4 := hC.2.1
  obtain ⟨R, hR⟩ : ∃ s, s = x_recL C (x_ord C) := ⟨_, rfl⟩
  have eR : x_recs C (C.1 374 4).toNat = R := by
    rw [x_recs_L C _ (Nat.le_refl _), hR, ← x_ord_len, List.take_length]
  obtain ⟨t1, ht1⟩ : ∃ s, s = m_puts (f_p1 t 0 16 a) (if w = 1 then [37, 70, 49, 10] else []) := ⟨_, rfl⟩
  obtain ⟨B, hB⟩ : ∃ s, s = m_body t a w how := ⟨_, rfl⟩
  have eB : B = m_recs t1 (x_ord C) := by rw [hB, hord, ht1]; rfl
  have b2 : ∀ k i, k ≠ 7 → t1.2 k i = t.2 k i := fun k i g => by rw [ht1, m_puts_2 _ _ _ _ g]; rfl
  have M0 : Mr t a (f_p1 t 0 16 a) [] := ⟨by rw [p1_1, if_pos ⟨rfl, rfl⟩]; show a = a + 0; omega, fun _ i => by
    rw [if_neg (by show ¬ (a ≤ (i : Int) ∧ (i : Int) < a + 0); omega)]; rfl⟩
  have M1 : Mr t a t1 T := by
    have := Mr_puts (if w = 1 then [37, 70, 49, 10] else []) ha M0
    rw [← ht1, List.nil_append, ← hT] at this
    exact this
  have he1 : C.1 374 5 + C.1 374 6 = t1.1 0 16 := by rw [M1.1, hD.1, hb]
  have mr : ∀ n, m_rec t1 n = m_rec t n := fun n => (m_rec_congr (fun i => b2 5 i (by decide)) (fun i => b2 6 i (by decide)) n).1
  obtain ⟨i1, i2, i3, i4, i5, i6, i7⟩ := x_recs_sim (x_ord C) C t1 t a T T ha (fun n hn => by rw [mr]; exact hrec n hn) hD M1 he1
  rw [← hR] at i1 i3 i4 i5 i6 i7
  rw [← eB] at i2 i3 i6
  have B2 : ∀ k i, k ≠ 7 → k ≠ 13 → k ≠ 14 → B.2 k i = t.2 k i := fun k i g1 g2 g3 => by rw [hB]; exact m_body_2 _ _ _ _ _ _ g1 g2 g3
  have hmv : ∀ n, m_mv B w n = m_mv t w n := m_mv_cg (fun i => B2 1 i (by decide) (by decide) (by decide)) (fun i => B2 3 i (by decide) (by decide) (by decide))
  have hRb : 0 ≤ R.1 374 5 + R.1 374 6 := by
    rw [i3, (show B.1 0 16 = _ from i2.1)]
    omega
  have hpos : ∀ n : Nat, n ∈ (x_ord C).map Int.toNat → 0 ≤ R.2 378 n := by
    have hJ := x_recs_J (fun i => hC.1.2 4 i) (fun i => hC.1.2 5 i) hC.2.2.1 hc4.2 hC.2.2.2.1 hC.2.2.2.2 (fun i => hC.1.2 375 i) (fun i => hC.1.2 378 i) (fun i => hC.1.2 379 i) (C.1 374 4).toNat (by omega)
    intro n hn
    rw [i6 n (Or.inr hn), eB]
    have : ∀ (l : List Int) (s : fS), 0 ≤ s.1 0 16 → ∀ n : Nat, n ∈ l.map Int.toNat → 0 ≤ (m_recs s l).2 13 n := by
      intro l
      induction l with
      | nil => intro s _ n hn; cases hn
      | cons x r ih =>
        intro s h0 n hn
        have e : m_recs s (x :: r) = m_recs (m_puts (m_r0 s x) (m_rec s x)) r := rfl
        have e16 : (m_puts (m_r0 s x) (m_rec s x)).1 0 16 = s.1 0 16 + (m_rec s x).length := by rw [m_one_1, if_pos ⟨rfl, rfl⟩]
        rw [e]
        by_cases g : n ∈ r.map Int.toNat
        · exact ih _ (by rw [e16]; omega) n g
        · have hx : n = x.toNat := by
            rcases List.mem_cons.mp hn with h | h
            · exact h
            · exact absurd h g
          have keep : ∀ (l : List Int) (s : fS) (n : Nat), n ∉ l.map Int.toNat → (m_recs s l).2 13 n = s.2 13 n := by
            intro l
            induction l with
            | nil => intro s n _; rfl
            | cons y l ih2 =>
              intro s n hn
              have e2 : m_recs s (y :: l) = m_recs (m_puts (m_r0 s y) (m_rec s y)) l := rfl
              rw [e2, ih2 _ _ (fun q => hn (List.mem_cons_of_mem _ q)), m_puts_2 _ _ _ _ (by decide)]
              unfold m_r0
              rw [p2_2, if_neg (by omega), p2_2, if_neg (fun q => hn (by rw [q.2]; exact List.mem_cons_self))]
          rw [keep r _ n g, m_puts_2 _ _ _ _ (by decide)]
          unfold m_r0
          rw [p2_2, if_neg (by omega), p2_2, if_pos ⟨rfl, hx⟩]
          exact h0
    exact this (x_ord C) t1 (by rw [← he1]; have := hC.2.2.2; omega) n hn
  have htl : x_ftl R q = m_tail B w (m_pq t w) := by
    rw [hq]
    refine x_tail_eq (fun n n1 n40 => ?_) i3
    rw [hmv, B2 1 n (by decide) (by decide) (by decide)]
    rcases htab n n1 n40 with ⟨⟨g1, g2⟩, g3⟩ | ⟨⟨g1, g2⟩, g3, g4⟩ | ⟨g1, g2, g3⟩
    · exact Or.inl ⟨g1, g2, i6 n (Or.inr g3), hpos n g3⟩
    · exact Or.inr (Or.inl ⟨g1, g2, by rw [i7 n g3]; exact g4⟩)
    · exact Or.inr (Or.inr ⟨g1, by rw [i7 n g2]; exact g3⟩)
  have eF : x_fin C q = x_finx R q := by unfold x_fin; rw [eR]
  have eP : m_part t a w how = f_p1 (m_puts B (x_ftl R q)) 0 26 (B.1 0 16) := by rw [htl, hB]; rfl
  have DF : Dr (x_fin C q) (T ++ (x_ord C).flatMap (x_rec C) ++ x_ftl R q) := by
    rw [eF]
    exact Dr_cg (Dr_puts (x_ftl R q) (Dr_cg (s1 := f_p1 R 377 2 (R.1 374 5 + R.1 374 6)) i1 rfl (fun _ => rfl))) rfl (fun _ => rfl)
  have MF : Mr t a (m_part t a w how) (T ++ (x_ord C).flatMap (x_rec C) ++ x_ftl R q) := by
    rw [eP]
    exact Mr_cg (Mr_puts (x_ftl R q) ha i2) rfl rfl (fun _ => rfl)
  have f2 : ∀ a b, a ≠ 375 → (x_fin C q).2 a b = R.2 a b := fun a b g => by
    rw [eF]
    unfold x_finx
    rw [p1_2, x_puts_2 _ _ _ _ g]
    rfl
  have P13 : ∀ n, (m_part t a w how).2 13 n = B.2 13 n := fun n => by
    rw [eP, p1_2, m_puts_2 _ _ _ _ (by decide)]
  refine ⟨_, DF, MF, ?_, ?_, ?_, fun n n1 n40 => ?_, fun x b g1 g2 g3 => ?_⟩
  · rw [x_fin_o hC q 374 5 (by omega)]; exact hb
  · rw [(x_fin_n hC q).1, x_fin_o hC q 374 5 (by omega), hb, DF.1, MF.1]
  · have e1 : (x_fin C q).1 377 2 = R.1 374 5 + R.1 374 6 := by
      rw [eF]
      unfold x_finx
      rw [p1_1, if_neg (by omega), x_puts_1, if_neg (by omega), p1_1, if_pos ⟨rfl, rfl⟩]
    rw [e1, i3, eP, p1_1, if_pos ⟨rfl, rfl⟩]
  · rw [f2 378 n (by decide), P13]
    rcases htab n n1 n40 with ⟨⟨g1, g2⟩, g3⟩ | ⟨⟨g1, g2⟩, g3, g4⟩ | ⟨g1, g2, g3⟩
    · exact Or.inl ⟨g1, by rw [if_pos g2]; exact i6 n (Or.inr g3)⟩
    · exact Or.inl ⟨g1, by rw [if_neg (by omega), i7 n g3]; exact g4⟩
    · exact Or.inr ⟨g1, by rw [i7 n g2]; exact g3⟩
  · rw [f2 x b g1]; exact i5 x b g1 g2 g3
end
section
/-! a part is kept by both -/
theorem m_puts_7c : ∀ (L : List Int) (t : fS), t.1 0 17 = 1 → ∀ i, (m_puts t L).2 7 i = t.2 7 i := by
  intro L
  induction L with
  | nil => intro t _ i; rfl
  | cons x r ih =>
    intro t h i
    have e : m_puts t (x :: r) = m_puts (m_put t x) r := rfl
    rw [e, ih (m_put t x) (by rw [m_put_1, if_neg (by decide)]; exact h), m_put_2, if_neg (by omega)]
theorem m_recs_7c : ∀ (l : List Int) (t : fS), t.1 0 17 = 1 → ∀ i, (m_recs t l).2 7 i = t.2 7 i := by
  intro l
  induction l with
  | nil => intro t _ i; rfl
  | cons n r ih =>
    intro t h i
    have e : m_recs t (n :: r) = m_recs (m_puts (m_r0 t n) (m_rec t n)) r := rfl
    rw [e, ih _ (by rw [m_one_1, if_neg (by decide)]; exact h), m_puts_7c _ (m_r0 t n) h]
    unfold m_r0
    rw [p2_2, if_neg (by omega), p2_2, if_neg (by omega)]
theorem m_part_7c (t : fS) (a w how : Int) (h : t.1 0 17 = 1) (i : Nat) : (m_part t a w how).2 7 i = t.2 7 i := by
  have h1 : (m_puts (f_p1 t 0 16 a) (if w = 1 then [37, 70, 49, 10] else [])).1 0 17 = 1 := by rw [m_puts_cnt]; exact h
  have h2 : (m_body t a w how).1 0 17 = 1 := by
    show (m_recs _ _).1 0 17 = 1
    rw [m_recs_cnt]; exact h1
  unfold m_part
  rw [p1_2, m_puts_7c _ _ h2]
  show (m_recs _ _).2 7 i = _
  rw [m_recs_7c _ _ h1, m_puts_7c _ (f_p1 t 0 16 a) h]
  rfl
theorem x_kept_2 (K : fS) (c a b : Nat) (h : a ≠ 6 ∧ a ≠ 7 ∧ a ≠ 9 ∧ a ≠ 12 + 3 * c + 1 ∧ a ≠ 12 + 3 * c + 2) : (x_kept K c).2 a b = K.2 a b := by
  show (if 1 ≤ b ∧ b < 41 then (if a = 6 then 0 else if a = 7 then (x_ad _ 377 c).2 2 b else (x_ad _ 377 c).2 a b) else (x_ad _ 377 c).2 a b) = _
  rw [if_neg h.1, if_neg h.2.1, ite_self, x_ad_o _ _ _ _ _ ⟨h.2.2.2.1, h.2.2.2.2⟩]
  show (x_behind K _ _).2 a b = _
  exact x_behind_2 _ _ _ _ _ h.2.2.1
theorem x_kept_9 (K : fS) (c i : Nat) : (x_kept K c).2 9 i = if (K.1 374 5).toNat ≤ i ∧ i < (K.1 374 5).toNat + (K.1 374 6).toNat then K.2 375 (i - (K.1 374 5).toNat) else K.2 9 i := by
  have e0 : (x_kept K c).2 9 i = (x_ad (f_p1 (x_behind K (K.1 374 5) (K.1 374 6)) 8 2 0) 377 c).2 9 i := by
    show (if 1 ≤ i ∧ i < 41 then (x_ad _ 377 c).2 9 i else (x_ad _ 377 c).2 9 i) = _
    rw [ite_self]
  rw [e0, x_ad_o _ _ _ _ _ (by omega)]
  show (if (K.1 374 5).toNat ≤ i ∧ i < (K.1 374 5).toNat + (K.1 374 6).toNat then K.2 375 ((0 : Int).toNat + (i - (K.1 374 5).toNat)) else K.2 9 i) = _
  by_cases g : (K.1 374 5).toNat ≤ i ∧ i < (K.1 374 5).toNat + (K.1 374 6).toNat
  · rw [if_pos g, if_pos g, show (0 : Int).toNat + (i - (K.1 374 5).toNat) = i - (K.1 374 5).toNat by simp]
  · rw [if_neg g, if_neg g]
theorem x_kept_sv (K : fS) (c b : Nat) (h : 1 ≤ b ∧ b < 41) : (x_kept K c).2 6 b = 0 ∧ (x_kept K c).2 7 b = K.2 2 b := by
  refine ⟨?_, ?_⟩
  · show (if 1 ≤ b ∧ b < 41 then (if 6 = 6 then 0 else _) else _) = _
    rw [if_pos h, if_pos rfl]
  · show (if 1 ≤ b ∧ b < 41 then (if 7 = 6 then 0 else if 7 = 7 then (x_ad _ 377 c).2 2 b else _) else _) = _
    rw [if_pos h, if_neg (by decide), if_pos rfl, x_ad_o _ _ _ _ _ (by omega)]
    exact x_behind_2 K (K.1 374 5) (K.1 374 6) 2 b (by decide)
theorem x_kept_pl (K : fS) (c b : Nat) (h : 1 ≤ b ∧ b < 41) : (x_kept K c).2 (12 + 3 * c + 1) b = if K.2 378 b ≠ -2 then K.2 378 b else if c = 0 then -1 else K.2 (12 + 3 * (c - 1) + 1) b := by
  obtain ⟨S, hS⟩ : ∃ s, s = f_p1 (x_behind K (K.1 374 5) (K.1 374 6)) 8 2 0 := ⟨_, rfl⟩
  have s2 : ∀ a q, a ≠ 9 → S.2 a q = K.2 a q := fun a q g => by rw [hS]; exact x_behind_2 _ _ _ _ _ g
  have e0 : (x_kept K c).2 (12 + 3 * c + 1) b = (x_layk (x_adr S c) (12 + 3 * c) 377 41).2 (12 + 3 * c + 1) b := by
    show (if 1 ≤ b ∧ b < 41 then (if 12 + 3 * c + 1 = 6 then 0 else if 12 + 3 * c + 1 = 7 then (x_ad _ 377 c).2 2 b else (x_ad _ 377 c).2 (12 + 3 * c + 1) b) else (x_ad _ 377 c).2 (12 + 3 * c + 1) b) = _
    rw [if_pos h, if_neg (by omega), if_neg (by omega), ← hS]
    rfl
  have e378 : (x_adr S c).2 378 b = K.2 378 b ∨ 60 ≤ c := by
    by_cases g : c < 60
    · left; rw [x_adr_o _ _ _ _ (by omega), s2 378 b (by decide)]
    · right; omega
  have e1 : (x_adr S c).2 (12 + 3 * c + 1) b = if c = 0 then -1 else K.2 (12 + 3 * (c - 1) + 1) b := by
    unfold x_adr
    by_cases g : c = 0
    · subst g
      rw [if_pos rfl, if_pos rfl]
      exact x_reset_p _ 12 _ b h.2
    · rw [if_neg g, if_neg g]
      unfold x_copy
      rw [pa_2, if_neg (by omega), pa_2, if_pos rfl, if_pos ⟨by simp, by simpa using h.2⟩, s2 _ _ (by omega)]
      simp
  rw [e0]
  show (if (1 ≤ b ∧ b < 41) ∧ (x_adr S c).2 (377 + 1) b ≠ -2 then (if 12 + 3 * c + 1 = 12 + 3 * c + 1 then (x_adr S c).2 (377 + 1) b else _) else (x_adr S c).2 (12 + 3 * c + 1) b) = _
  have e378 : (x_adr S c).2 378 b = K.2 378 b := by
    unfold x_adr
    split
    · rw [x_reset_o _ _ _ _ _ (by omega), s2 378 b (by decide)]
    · rename_i g
      by_cases g2 : 378 = 12 + 3 * c + 1 ∨ 378 = 12 + 3 * c + 2
      · omega
      · rw [x_copy_o _ _ _ _ _ (by omega), s2 378 b (by decide)]
  rw [if_pos rfl, e378, e1]
  by_cases g : K.2 378 b ≠ -2
  · rw [if_pos ⟨h, g⟩, if_pos g]
  · rw [if_neg (fun q => g q.2), if_neg g]
theorem R_keep {K P t : fS} {w a : Int} {c : Nat} {TL : List Int} (h60 : c < 60) (ha : 0 ≤ a) (hD : Dr K TL) (hM : Mr t a P TL) (hc0 : P.1 0 17 = 0) (hb : K.1 374 5 = a) (hf : K.2 9 = t.2 7)
    (he : K.1 377 3 = P.1 0 16) (hx : K.1 377 2 = P.1 0 26) (hw : w = 0 ∨ w = 1) (hwc : w = 1 → c = 0) (hw0 : w = 0 → 1 ≤ c)
    (hrow : ∀ n : Nat, 1 ≤ n → n ≤ 40 → (m_mv P w n = 1 ∧ K.2 378 n = if P.2 1 n = 1 then P.2 13 n else -1) ∨ (m_mv P w n = 0 ∧ K.2 378 n = -2)) (hp13 : ∀ i, 0 ≤ P.2 13 i)
    (hS : ∀ n : Nat, 1 ≤ n → n ≤ 40 → K.2 2 n = P.2 1 n ∧ (K.2 2 n = 1 → K.2 3 n = P.2 2 n ∧ K.2 4 n = P.2 5 n ∧ ∀ i : Nat, (i : Int) < K.2 4 n → K.2 5 (120 * n + i) = P.2 6 (120 * n + i))) (h2 : ∀ i, 0 ≤ K.2 2 i ∧ K.2 2 i ≤ 1)
    (hH : ∀ r : Nat, r < c → K.1 (12 + 3 * r) 3 = P.2 8 r ∧ K.1 (12 + 3 * r) 2 = P.2 9 r ∧ ∀ n : Nat, 1 ≤ n → n ≤ 40 → K.2 (12 + 3 * r + 1) n = P.2 10 (41 * r + n)) :
    Rr (x_kept K c) (m_save (m_remd (f_p1 (f_p1 P 0 7 (P.1 0 16)) 0 9 0) w c) 41) := by
  obtain ⟨Q, hQ⟩ : ∃ s, s = f_p1 (f_p1 P 0 7 (P.1 0 16)) 0 9 0 := ⟨_, rfl⟩
  have q2 : ∀ k i, Q.2 k i = P.2 k i := fun k i => by rw [hQ]; rfl
  have q7 : Q.1 0 7 = P.1 0 16 := by rw [hQ]; rfl
  have q26 : Q.1 0 26 = P.1 0 26 := by rw [hQ]; rfl
  obtain ⟨T1, hT1⟩ : ∃ s, s = m_save (m_remd Q w c) 41 := ⟨_, rfl⟩
  rw [← hQ, ← hT1]
  have d2 : ∀ k i, (m_remd Q w c).2 k i = if k = 9 ∧ i = c then Q.1 0 26 else if k = 8 ∧ i = c then Q.1 0 7 else (m_rem Q w c 41).2 k i := fun k i => by
    unfold m_remd
    rw [p1_2, p2_2, p2_2]
  have a2 : ∀ k i, T1.2 k i = if k = 3 ∧ 1 ≤ i ∧ i < 41 then 0 else if k = 4 ∧ 1 ≤ i ∧ i < 41 then (m_remd Q w c).2 1 i else (m_remd Q w c).2 k i := fun k i => by rw [hT1]; rfl
  have dl : ∀ k i, k ≤ 7 → (m_remd Q w c).2 k i = P.2 k i := fun k i g => by rw [d2, if_neg (by omega), if_neg (by omega), m_rem_o _ _ _ _ _ _ (by omega), q2]
  have tl : ∀ k i, k ≤ 7 → k ≠ 3 → k ≠ 4 → T1.2 k i = P.2 k i := fun k i g g3 g4 => by rw [a2, if_neg (by omega), if_neg (by omega), dl k i g]
  have t1 : ∀ b, T1.1 0 b = if b = 10 then (c : Int) + 1 else Q.1 0 b := fun b => by
    rw [hT1]
    show (m_remd Q w c).1 0 b = _
    unfold m_remd
    rw [p1_1]
    simp only [true_and]
    rfl
  have hmv : ∀ n, m_mv Q w n = m_mv P w n := m_mv_cg (fun i => q2 1 i) (fun i => q2 3 i)
  refine ⟨fun n n1 n40 => ?_, ⟨?_, ?_, ?_⟩, ?_, fun r hr => ?_⟩
  · obtain ⟨s1, s2⟩ := hS n n1 n40
    obtain ⟨v6, v7⟩ := x_kept_sv K c n ⟨n1, by omega⟩
    have k2 : (x_kept K c).2 2 n = K.2 2 n := x_kept_2 K c 2 n (by omega)
    have k3 : (x_kept K c).2 3 n = K.2 3 n := x_kept_2 K c 3 n (by omega)
    have k4 : (x_kept K c).2 4 n = K.2 4 n := x_kept_2 K c 4 n (by omega)
    have hh := h2 n
    refine ⟨by rw [k2, tl 1 n (by decide) (by decide) (by decide)]; exact s1, ?_, ?_, fun g => ?_⟩
    · rw [a2, if_pos ⟨rfl, n1, by omega⟩]
      unfold x_ch
      rw [k2, v6, v7]
      split
      · rfl
      · omega
    · rw [v7, a2, if_neg (by omega), if_pos ⟨rfl, n1, by omega⟩, dl 1 n (by decide)]; exact s1
    · rw [k2] at g
      obtain ⟨f1, f2, f3⟩ := s2 g
      refine ⟨by rw [k3, tl 2 n (by decide) (by decide) (by decide)]; exact f1, by rw [k4, tl 5 n (by decide) (by decide) (by decide)]; exact f2, fun i hi => ?_⟩
      rw [k4] at hi
      rw [x_kept_2 K c 5 _ (by omega), tl 6 _ (by decide) (by decide) (by decide)]
      exact f3 i hi
  · rw [x_kept_81, t1, if_neg (by decide), q7, hM.1, hb, hD.1]
  · funext i
    rw [x_kept_9, tl 7 i (by decide) (by decide) (by decide), hM.2 hc0 i, hb, hD.1]
    by_cases g : a ≤ (i : Int) ∧ (i : Int) < a + (TL.length : Int)
    · rw [if_pos g, if_pos (by omega), hD.2 _ (by omega)]
    · rw [if_neg g, if_neg (by omega)]; exact congrFun hf i
  · rw [t1, if_neg (by decide), hQ]
    show (x_ad (f_p1 (x_behind K (K.1 374 5) (K.1 374 6)) 8 2 0) 377 c).1 8 2 = 0
    rw [x_ad_1, if_neg (by omega), if_neg (by omega), if_neg (by omega), p1_1, if_pos ⟨rfl, rfl⟩]
  · rw [t1, if_pos rfl]
    show (x_ad (f_p1 (x_behind K (K.1 374 5) (K.1 374 6)) 8 2 0) 377 c).1 10 1 = _
    rw [x_ad_1, if_pos ⟨rfl, rfl⟩]
  · have hk10 : (x_kept K c).1 10 1 = (c : Int) + 1 := by
      show (x_ad (f_p1 (x_behind K (K.1 374 5) (K.1 374 6)) 8 2 0) 377 c).1 10 1 = _
      rw [x_ad_1, if_pos ⟨rfl, rfl⟩]
    rw [hk10] at hr
    have k377 : ∀ q, (f_p1 (x_behind K (K.1 374 5) (K.1 374 6)) 8 2 0).1 377 q = K.1 377 q := fun q => by
      rw [p1_1, if_neg (by omega)]
      unfold x_behind
      rw [p1_1, if_neg (by omega)]
      rfl
    by_cases g : r = c
    · subst g
      refine ⟨?_, ?_, fun n n1 n40 => ?_⟩
      · show (x_ad _ 377 r).1 (12 + 3 * r) 3 = _
        rw [x_ad_1, if_neg (by omega), if_pos ⟨rfl, rfl⟩, k377, a2, if_neg (by omega), if_neg (by omega), d2, if_neg (by omega), if_pos ⟨rfl, rfl⟩, q7]
        exact he
      · show (x_ad _ 377 r).1 (12 + 3 * r) 2 = _
        rw [x_ad_1, if_neg (by omega), if_neg (by omega), if_pos ⟨rfl, rfl⟩, k377, a2, if_neg (by omega), if_neg (by omega), d2, if_pos ⟨rfl, rfl⟩, q26]
        exact hx
      · rw [a2, if_neg (by omega), if_neg (by omega), d2, if_neg (by omega), if_neg (by omega), x_kept_pl K r n ⟨n1, by omega⟩]
        have e : (m_rem Q w r 41).2 10 (41 * r + n) = m_rv Q w 10 (41 * r + n) n := by
          show (if (10 = 10 ∨ 10 = 11 ∨ 10 = 12) ∧ 41 * r + 1 ≤ 41 * r + n ∧ 41 * r + n < 41 * r + 41 then m_rv Q w 10 (41 * r + n) (41 * r + n - 41 * r) else Q.2 10 (41 * r + n)) = _
          rw [if_pos ⟨by decide, by omega, by omega⟩, show 41 * r + n - 41 * r = n by omega]
        rw [e]
        unfold m_rv
        simp only [hmv, q2]
        rcases hrow n n1 n40 with ⟨g1, g2⟩ | ⟨g1, g2⟩
        · have hne : K.2 378 n ≠ -2 := by
            rw [g2]
            have := hp13 n
            split <;> omega
          rw [if_pos hne, if_pos g1, if_pos trivial]; exact g2
        · rw [if_neg (show ¬ (K.2 378 n ≠ -2) by omega), if_neg (show ¬ m_mv P w n = 1 by omega)]
          rcases hw with e | e
          · have hc1 := hw0 e
            rw [if_neg (show ¬ r = 0 by omega), if_neg (show ¬ w = 1 by omega), (hH (r - 1) (by omega)).2.2 n n1 n40, show 41 * r + n - 41 = 41 * (r - 1) + n by omega]
          · rw [if_pos (hwc e), if_pos e, if_pos trivial]
    · obtain ⟨h1, h2, h3⟩ := hH r (by omega)
      have kf : ∀ q, (q = 2 ∨ q = 3) → (x_kept K c).1 (12 + 3 * r) q = K.1 (12 + 3 * r) q := fun q hq => x_kept_1 _ _ _ _ (by omega)
      refine ⟨?_, ?_, fun n n1 n40 => ?_⟩
      · rw [kf 3 (Or.inr rfl), a2, if_neg (by omega), if_neg (by omega), d2, if_neg (by omega), if_neg (by omega), m_rem_o _ _ _ _ _ _ (by omega), q2]; exact h1
      · rw [kf 2 (Or.inl rfl), a2, if_neg (by omega), if_neg (by omega), d2, if_neg (by omega), if_neg (by omega), m_rem_o _ _ _ _ _ _ (by omega), q2]; exact h2
      · rw [x_kept_2 _ _ _ _ (by omega), a2, if_neg (by omega), if_neg (by omega), d2, if_neg (by omega), if_neg (by omega), m_rem_o _ _ _ _ _ _ (by omega), q2]
        exact h3 n n1 n40
end
