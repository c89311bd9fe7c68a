/-! THE STATES OF THE RUN object(1, 1); write(0); object(1, 1); append(); poke(0, 0); take(0) -/
def k_puts (s : fS) (L : List Int) : fS := (fun a b => if a = 0 ∧ b = 16 then s.1 0 16 + (L.length : Int) else s.1 a b, fun k i => if k = 7 ∧ s.1 0 17 = 0 ∧ s.1 0 16 ≤ (i : Int) ∧ (i : Int) < s.1 0 16 + (L.length : Int) then L.getD (i - (s.1 0 16).toNat) 0 else s.2 k i)
theorem k_puts_1 (s : fS) (L : List Int) (a b : Nat) : (k_puts s L).1 a b = if a = 0 ∧ b = 16 then s.1 0 16 + (L.length : Int) else s.1 a b := rfl
theorem k_puts_16 (s : fS) (L : List Int) : (k_puts s L).1 0 16 = s.1 0 16 + (L.length : Int) := by rw [k_puts_1, if_pos ⟨rfl, rfl⟩]
theorem k_puts_17 (s : fS) (L : List Int) : (k_puts s L).1 0 17 = s.1 0 17 := by rw [k_puts_1, if_neg (by omega)]
theorem k_puts_eq (s : fS) (L : List Int) (h16 : 0 ≤ s.1 0 16) (h17 : s.1 0 17 = 0 ∨ s.1 0 17 = 1) : m_puts s L = k_puts s L := by
  refine fS_ext (fun a b => m_puts_1 L s a b) (fun k i => ?_)
  show (m_puts s L).2 k i = if k = 7 ∧ s.1 0 17 = 0 ∧ s.1 0 16 ≤ (i : Int) ∧ (i : Int) < s.1 0 16 + (L.length : Int) then L.getD (i - (s.1 0 16).toNat) 0 else s.2 k i
  by_cases g7 : k = 7
  · subst g7
    rcases h17 with h | h
    · have hM : Mr s (s.1 0 16) s [] := ⟨by simp, fun _ i => by rw [if_neg (by simp)]⟩
      have h2 := (Mr_puts L h16 hM).2 (by rw [m_puts_cnt]; exact h) i
      rw [List.nil_append] at h2
      rw [h2]
      by_cases g : s.1 0 16 ≤ (i : Int) ∧ (i : Int) < s.1 0 16 + (L.length : Int)
      · rw [if_pos g, if_pos ⟨rfl, h, g⟩]
      · rw [if_neg g, if_neg (fun q => g q.2.2)]
    · rw [m_puts_7c L s h i, if_neg (fun q => by have := q.2.1; omega)]
  · rw [m_puts_2 L s k i g7, if_neg (fun q => g7 q.1)]
def k_bod (t : fS) (a w : Int) : fS := k_puts (m_r0 (k_puts (f_p1 t 0 16 a) (if w = 1 then [37, 70, 49, 10] else [])) 1) (m_rec (k_puts (f_p1 t 0 16 a) (if w = 1 then [37, 70, 49, 10] else [])) 1)
def k_part (t : fS) (a w : Int) : fS := f_p1 (k_puts (k_bod t a w) (m_tail (k_bod t a w) w (m_pq t w))) 0 26 ((k_bod t a w).1 0 16)
def k_all (s : fS) (a w : Int) : fS := m_save (m_remd (f_p1 (f_p1 (k_part (f_p1 s 0 17 0) a w) 0 7 ((k_part (f_p1 s 0 17 0) a w).1 0 16)) 0 9 0) w (m_rr (f_p1 (f_p1 (k_part (f_p1 s 0 17 0) a w) 0 7 ((k_part (f_p1 s 0 17 0) a w).1 0 16)) 0 9 0) w)) 41
theorem k_part_eq {t : fS} {a w : Int} (ht : m_turns t w 0 (m_last 0 + 1) = [1]) (ha : 0 ≤ a) (h17 : t.1 0 17 = 0 ∨ t.1 0 17 = 1) : m_part t a w 0 = k_part t a w := by
  have q16 : (f_p1 t 0 16 a).1 0 16 = a := by rw [p1_1, if_pos ⟨rfl, rfl⟩]
  have q17 : (f_p1 t 0 16 a).1 0 17 = t.1 0 17 := by rw [p1_1, if_neg (by omega)]
  obtain ⟨P, hP⟩ : ∃ l : List Int, l = (if w = 1 then [37, 70, 49, 10] else []) := ⟨_, rfl⟩
  have e1 : m_puts (f_p1 t 0 16 a) P = k_puts (f_p1 t 0 16 a) P := k_puts_eq _ _ (by rw [q16]; exact ha) (by rw [q17]; exact h17)
  obtain ⟨B, hB⟩ : ∃ s : fS, s = k_puts (f_p1 t 0 16 a) P := ⟨_, rfl⟩
  have b16 : 0 ≤ B.1 0 16 := by rw [hB, k_puts_16, q16]; omega
  have b17 : B.1 0 17 = t.1 0 17 := by rw [hB, k_puts_17, q17]
  have e2 : m_body t a w 0 = k_puts (m_r0 B 1) (m_rec B 1) := by
    unfold m_body
    rw [ht, ← hP, e1, ← hB]
    exact k_puts_eq (m_r0 B 1) (m_rec B 1) b16 (by rw [show (m_r0 B 1).1 0 17 = B.1 0 17 from rfl, b17]; exact h17)
  have e3 : k_bod t a w = k_puts (m_r0 B 1) (m_rec B 1) := by unfold k_bod; rw [← hP, ← hB]
  have e4 : m_body t a w 0 = k_bod t a w := e2.trans e3.symm
  have c16 : 0 ≤ (k_bod t a w).1 0 16 := by rw [e3, k_puts_16, show (m_r0 B 1).1 0 16 = B.1 0 16 from rfl]; omega
  have c17 : (k_bod t a w).1 0 17 = t.1 0 17 := by rw [e3, k_puts_17, show (m_r0 B 1).1 0 17 = B.1 0 17 from rfl, b17]
  unfold m_part k_part
  rw [e4, k_puts_eq _ _ c16 (by rw [c17]; exact h17)]
theorem k_all_eq {s : fS} {a w : Int} (ht : m_turns (f_p1 s 0 17 0) w 0 (m_last 0 + 1) = [1]) (ha : 0 ≤ a) : m_all s a w 0 = k_all s a w := by
  unfold m_all k_all m_Q m_pa
  rw [k_part_eq ht ha (Or.inl (by rw [p1_1, if_pos ⟨rfl, rfl⟩]))]
theorem k_turn_s (t : fS) (w how x : Int) (k : Nat) : m_turn t w how x (k + 1) = m_turn t w how x k ++ cif (m_sel t w how x ((k : Int) + 1)) [(k : Int) + 1] [] := rfl
theorem k_turns_s (t : fS) (w how : Int) (k : Nat) : m_turns t w how (k + 1) = m_turns t w how k ++ m_turn t w how (k : Int) 40 := rfl
theorem k_turn {t : fS} {w : Int} (h1 : t.2 1 1 = 1) (hw : w = 1 ∨ (w = 0 ∧ t.2 3 1 = 1)) (h2 : ∀ j : Nat, j < 39 → t.2 1 (j + 2) = 0) : m_turns t w 0 (m_last 0 + 1) = [1] := by
  have s1 : m_sel t w 0 0 1 := by
    refine ⟨?_, h1, Or.inr (Or.inr ⟨by decide, by decide⟩)⟩
    rcases hw with rfl | ⟨rfl, h⟩
    · exact Or.inl ⟨rfl, h1⟩
    · exact Or.inr ⟨rfl, h⟩
  have s2 : ∀ n : Int, 2 ≤ n → n ≤ 40 → ¬ m_sel t w 0 0 n := fun n g1 g2 hs => by
    have h3 := hs.2.1
    rw [show n.toNat = (n.toNat - 2) + 2 by omega, h2 (n.toNat - 2) (by omega)] at h3
    omega
  have e : ∀ k : Nat, k + 1 ≤ 40 → m_turn t w 0 0 (k + 1) = [1] := by
    intro k
    induction k with
    | zero =>
      intro _
      rw [k_turn_s, show ((0 : Nat) : Int) + 1 = 1 from rfl, cif_pos s1]
      rfl
    | succ k ih =>
      intro hk
      rw [k_turn_s, ih (by omega), cif_neg (s2 _ (by omega) (by omega))]
      rfl
  rw [show m_last 0 + 1 = 0 + 1 from rfl, k_turns_s, show m_turns t w 0 0 = [] from rfl, List.nil_append, show ((0 : Nat) : Int) = 0 from rfl]
  exact e 39 (by omega)
/-! the reference's states -/
def n1 : fS := m_zero (m_bring x_0 1 1) 1 120
def n1c : fS := k_part (f_p1 (f_p1 n1 0 0 0) 0 17 1) 0 1
def n2 : fS := k_all n1c 0 1
def n3 : fS := m_zero (m_bring n2 1 1) 1 120
def n3c : fS := k_part (f_p1 (f_p1 n3 0 0 0) 0 17 1) 29 0
def n4 : fS := k_all n3c 29 0
def n5 : fS := f_p1 (f_p2 (f_p1 n4 0 0 0) 7 0 0) 0 9 1
set_option maxRecDepth 100000 in
theorem n1_there : n1.2 1 1 = 1 ∧ (∀ j : Nat, j < 39 → n1.2 1 (j + 2) = 0) ∧ n1.2 5 1 = 1 := by decide +kernel
set_option maxRecDepth 100000 in
theorem n1c_there : n1c.2 1 1 = 1 ∧ (∀ j : Nat, j < 39 → n1c.2 1 (j + 2) = 0) := by decide +kernel
set_option maxRecDepth 100000 in
theorem n3_there : n3.2 1 1 = 1 ∧ (∀ j : Nat, j < 39 → n3.2 1 (j + 2) = 0) ∧ n3.2 3 1 = 1 ∧ n3.1 0 7 = 29 ∧ n3.1 0 9 = 0 ∧ n3.1 0 10 = 1 ∧ m_cnt (n3.2 3) 40 = 1 := by decide +kernel
set_option maxRecDepth 100000 in
theorem n3c_there : n3c.2 1 1 = 1 ∧ (∀ j : Nat, j < 39 → n3c.2 1 (j + 2) = 0) ∧ n3c.2 3 1 = 1 ∧ n3c.1 0 16 = 56 := by decide +kernel
set_option maxRecDepth 100000 in
theorem n5_num : n5.1 0 7 = 56 ∧ n5.1 0 10 = 2 ∧ n5.2 8 0 = 29 ∧ n5.2 10 1 = 4 ∧ n5.2 10 42 = 29 ∧ n5.2 11 1 = 10 ∧ n5.2 11 42 = 35 ∧ n5.2 12 1 = 1 ∧ n5.2 12 42 = 1 := by decide +kernel
set_option maxRecDepth 100000 in
theorem n5_byt : n5.2 7 0 = 0 ∧ n5.2 7 10 = 0 ∧ n5.2 7 35 = 0 := by decide +kernel
set_option maxRecDepth 100000 in
theorem n5_gone : ∀ j : Nat, j < 39 → n5.2 10 (j + 2) = -1 ∧ n5.2 10 (j + 43) = -1 := by decide +kernel
theorem n2_eq : m_all (m_part (f_p1 (f_p1 n1 0 0 0) 0 17 1) 0 1 0) 0 1 0 = n2 := by
  rw [k_part_eq (t := f_p1 (f_p1 n1 0 0 0) 0 17 1) (k_turn n1_there.1 (Or.inl rfl) n1_there.2.1) (by decide) (Or.inr rfl)]
  exact k_all_eq (k_turn (t := f_p1 n1c 0 17 0) n1c_there.1 (Or.inl rfl) n1c_there.2) (by decide)
theorem n3c_eq : m_part (f_p1 (f_p1 n3 0 0 0) 0 17 1) (n3.1 0 7) 0 0 = n3c := by
  rw [n3_there.2.2.2.1]
  exact k_part_eq (t := f_p1 (f_p1 n3 0 0 0) 0 17 1) (k_turn n3_there.1 (Or.inr ⟨rfl, n3_there.2.2.1⟩) n3_there.2.1) (by decide) (Or.inr rfl)
theorem n4_eq : m_all (m_part (f_p1 (f_p1 n3 0 0 0) 0 17 1) (n3.1 0 7) 0 0) (n3.1 0 7) 0 0 = n4 := by
  rw [n3c_eq, n3_there.2.2.2.1]
  exact k_all_eq (k_turn (t := f_p1 n3c 0 17 0) n3c_there.1 (Or.inr ⟨rfl, n3c_there.2.2.1⟩) n3c_there.2.1) (by decide)
/-! what the class keeps of the first writing: the length of object 1 -/
theorem x_kept_ln (K : fS) (c b : Nat) (h : 1 ≤ b ∧ b < 41) (h60 : c < 60) (hne : K.2 378 b ≠ -2) : (x_kept K c).2 (12 + 3 * c + 2) b = K.2 379 b := by
  obtain ⟨S, hS⟩ : ∃ s, s = f_p1 (x_behind K (K.1 374 5) (K.1 374 6)) 8 2 0 := ⟨_, rfl⟩
  have s2 : ∀ a q, a ≠ 9 → S.2 a q = K.2 a q := fun a q g => by rw [hS]; exact x_behind_2 _ _ _ _ _ g
  have e0 : (x_kept K c).2 (12 + 3 * c + 2) b = (x_layk (x_adr S c) (12 + 3 * c) 377 41).2 (12 + 3 * c + 2) b := by
    show (if 1 ≤ b ∧ b < 41 then (if 12 + 3 * c + 2 = 6 then 0 else if 12 + 3 * c + 2 = 7 then (x_ad _ 377 c).2 2 b else (x_ad _ 377 c).2 (12 + 3 * c + 2) b) else (x_ad _ 377 c).2 (12 + 3 * c + 2) b) = _
    rw [if_pos h, if_neg (by omega), if_neg (by omega), ← hS]
    rfl
  have e378 : (x_adr S c).2 (377 + 1) b = K.2 378 b := by rw [x_adr_o _ _ _ _ (by omega), s2 _ b (by decide)]
  have e379 : (x_adr S c).2 (377 + 2) b = K.2 379 b := by rw [x_adr_o _ _ _ _ (by omega), s2 _ b (by decide)]
  rw [e0]
  show (if (1 ≤ b ∧ b < 41) ∧ (x_adr S c).2 (377 + 1) b ≠ -2 then (if 12 + 3 * c + 2 = 12 + 3 * c + 1 then (x_adr S c).2 (377 + 1) b else if 12 + 3 * c + 2 = 12 + 3 * c + 2 then (x_adr S c).2 (377 + 2) b else (x_adr S c).2 (12 + 3 * c + 2) b) else (x_adr S c).2 (12 + 3 * c + 2) b) = _
  rw [if_pos ⟨h, by rw [e378]; exact hne⟩, if_neg (by omega), if_pos rfl, e379]
theorem x_fin_2 (C : fS) (q : Int) (a b : Nat) (h : a ≠ 375) : (x_fin C q).2 a b = (x_recs C (C.1 374 4).toNat).2 a b := by
  unfold x_fin x_finx
  rw [p1_2, x_puts_2 _ _ _ _ h]
  rfl
theorem x_recs_14 (C : fS) (b : Nat) : ∀ k : Nat, (x_recs C k).2 14 b = C.2 14 b := by
  intro k
  induction k with
  | zero => rfl
  | succ k ih => exact (x_one_2 (x_recs C k) (C.2 376 k) 14 b (by decide) (by decide) (by decide)).trans ih
theorem x_ccF_14 (F : fS) (b : Nat) : ∀ k : Nat, (x_ccF F k).2 14 b = F.2 14 b := by
  intro k
  induction k with
  | zero => rfl
  | succ k ih =>
    have e : x_ccF F (k + 1) = if x_ch F (k + 1) = 1 then (if F.2 2 (k + 1) = 1 then x_insd (x_ccF F k) ((x_ccF F k).1 374 4).toNat ((k : Int) + 1) else f_p2 (x_ccF F k) 378 (k + 1) (-1)) else x_ccF F k := rfl
    rw [e]
    split
    · split
      · unfold x_insd
        rw [p1_2, p2_2, if_neg (by omega), x_sh_2 _ _ _ _ _ (by decide)]
        exact ih
      · rw [p2_2, if_neg (by omega)]
        exact ih
    · exact ih
theorem x_apd_14 (σ : fS) (c b : Nat) : (x_apd σ c).2 14 b = σ.2 14 b := by
  unfold x_apd
  rw [x_fin_2 _ _ _ _ (by decide), x_recs_14, x_ccF_14, x_beg_2 _ _ _ _ ⟨by decide, by decide⟩]
theorem f_len {σ τ σ1 : fS} {k v : Int} (h : Rr σ τ) (hI : x_I σ) (hy : y_write σ 0 k v σ1) (ht : m_turns τ 1 0 (m_last 0 + 1) = [1]) (h41 : σ.2 4 1 = 1) : σ1.2 14 1 = 1 := by
  have hh : (0 : Int) ≤ 0 ∧ (0 : Int) ≤ 2 := by decide
  rcases hy with ⟨g, -⟩ | ⟨-, -, ⟨C, hC, rfl⟩, -⟩
  · exact absurd hh g
  · obtain ⟨F, hF⟩ : ∃ s, s = x_puts (x_beg σ 0) [37, 70, 49, 10] := ⟨_, rfl⟩
    have F2 : ∀ a b, a ≠ 375 → a ≠ 378 → a ≠ 379 → F.2 a b = σ.2 a b := fun a b g1 g2 g3 => by rw [hF, x_puts_2 _ _ _ _ g1, x_beg_2 _ _ _ _ ⟨g2, g3⟩]
    obtain ⟨b5, b6, b4⟩ := x_beg_1 σ 0
    have F4 : F.1 374 4 = 0 := by rw [hF, x_puts_1, if_neg (by omega)]; exact b4
    have hC' := hC
    rw [← hF] at hC'
    have hrd := x_rdy_w hI hC
    obtain ⟨c1, c2, c3, c4⟩ := x_chR_I F4 40 C (by omega) hC'
    have RF : Rs F τ := Rs_cg h.1 (fun a b g => F2 a b (by omega) (by omega) (by omega)) (fun _ _ _ => rfl)
    have hord : x_ord C = [1] := by
      rw [← ht, ← m_tk2_40]
      exact x_chR_ord hh RF F4 (fun i => by rw [F2 2 i (by decide) (by decide) (by decide)]; exact hI.2 2 i) (fun i => by rw [F2 3 i (by decide) (by decide) (by decide)]; exact hI.2 3 i) (fun i => by rw [F2 4 i (by decide) (by decide) (by decide)]; exact hI.2 4 i) 40 C (by omega) hC'
    have hcnt : (C.1 374 4).toNat = 1 := by rw [← x_ord_len, hord]; rfl
    have h376 : C.2 376 0 = 1 := by
      have h9 := x_ord_get C 0 (by omega)
      rw [hord] at h9
      exact (Option.some.inj h9).symm
    have hC4 : C.2 4 1 = 1 := by rw [c3 4 1 (by decide), F2 4 1 (by decide) (by decide) (by decide)]; exact h41
    obtain ⟨R, hR⟩ : ∃ s, s = x_r0 C 1 := ⟨_, rfl⟩
    have hr1 : ∀ a b, a ≠ 375 → (x_recs C (C.1 374 4).toNat).2 a b = R.2 a b := fun a b g => by
      rw [hcnt]
      show (x_puts (x_r0 C (C.2 376 0)) (x_rec C (C.2 376 0))).2 a b = _
      rw [x_puts_2 _ _ _ _ g, h376, hR]
    have r378 : R.2 378 1 = C.1 374 5 + C.1 374 6 := by
      rw [hR]
      unfold x_r0
      rw [p2_2, if_neg (by omega), p2_2]
      exact if_pos ⟨rfl, rfl⟩
    have r379 : R.2 379 1 = 1 := by
      rw [hR]
      unfold x_r0
      rw [p2_2]
      exact (if_pos ⟨rfl, rfl⟩).trans hC4
    have hK := x_kept_ln (f_p1 (x_fin C 0) 10 1 0) 0 1 (by decide) (by decide) (by
      rw [p1_2, x_fin_2 _ _ _ _ (by decide), hr1 _ _ (by decide), r378]
      obtain ⟨-, -, -, q5, q6⟩ := hrd
      omega)
    rw [p1_2, x_fin_2 _ _ _ _ (by decide), hr1 _ _ (by decide), r379] at hK
    exact hK
/-! the run, step by step -/
def Qf (n : fS) (σ τ : fS) : Prop := Jv σ τ ∧ τ = n ∧ σ.2 14 1 = 1
section FS
variable {σ σ1 τ τ1 : fS} {k v r : Int}
theorem f_0 (hy : y_object x_0 1 1 k v σ1) (hu : u_object x_0 1 1 τ1) : Jv σ1 τ1 ∧ τ1 = n1 := by
  refine ⟨sj_object Jv_0 hy hu, ?_⟩
  rcases hu with ⟨g, -⟩ | ⟨-, g, -⟩ | ⟨-, -, e⟩
  · exact absurd (by decide) g
  · exact absurd (by decide) g
  · exact e
theorem f_1 (h : Jv σ τ ∧ τ = n1) (hy : y_write σ 0 k v σ1) (hu : u_write τ 0 r τ1) : Qf n2 σ1 τ1 := by
  obtain ⟨hj, rfl⟩ := h
  have hs := hj.2.2.1 1 (by decide) (by decide)
  have h41 : σ.2 4 1 = 1 := by rw [(hs.2.2.2 (by rw [hs.1]; exact n1_there.1)).2.1]; exact n1_there.2.2
  refine ⟨sj_write hj hy hu, ?_, f_len hj.2.2 hj.1 hy (k_turn n1_there.1 (Or.inl rfl) n1_there.2.1) h41⟩
  rcases hu with ⟨g, -⟩ | ⟨-, e, -⟩
  · exact absurd (by decide) g
  · rw [e]; exact n2_eq
theorem x_bring_14 (σ : fS) (n m : Int) (b : Nat) : (x_bring σ n m).2 14 b = σ.2 14 b := by
  unfold x_bring
  rw [x_fill_o _ _ _ _ _ _ _ (by decide), p2_2, if_neg (by omega), p2_2, if_neg (by omega), p2_2, if_neg (by omega), p2_2, if_neg (by omega)]
theorem f_2 (h : Qf n2 σ τ) (hy : y_object σ 1 1 k v σ1) (hu : u_object τ 1 1 τ1) : Qf n3 σ1 τ1 := by
  obtain ⟨hj, rfl, h14⟩ := h
  refine ⟨sj_object hj hy hu, ?_, ?_⟩
  · rcases hu with ⟨g, -⟩ | ⟨-, g, -⟩ | ⟨-, -, e⟩
    · exact absurd (by decide) g
    · exact absurd (by decide) g
    · exact e
  · rcases hy with ⟨-, -, rfl⟩ | ⟨-, -, -, rfl⟩ | ⟨-, -, -, rfl⟩
    · exact h14
    · exact h14
    · rw [x_bring_14]; exact h14
theorem f_3 (h : Qf n3 σ τ) (hy : y_append σ k v σ1) (hu : u_append τ r τ1) : Qf n4 σ1 τ1 := by
  obtain ⟨hj, rfl, h14⟩ := h
  have h10 : σ.1 10 1 = 1 := by rw [hj.2.2.2.2.1]; exact n3_there.2.2.2.2.2.1
  refine ⟨sj_append hj hy hu, ?_, ?_⟩
  · rcases hu with ⟨g, -⟩ | ⟨-, g⟩
    · rw [n3_there.2.2.2.1, n3_there.2.2.2.2.1] at g
      exact absurd g (by decide)
    · rcases g with ⟨g, -⟩ | ⟨-, g, -⟩ | ⟨-, -, g, -⟩ | ⟨-, -, -, e, -⟩
      · rw [n3_there.2.2.2.2.2.2] at g
        exact absurd g (by decide)
      · rw [n3_there.2.2.2.2.2.1] at g
        exact absurd g (by decide)
      · rw [n3c_eq, n3c_there.2.2.2] at g
        exact absurd g (by decide)
      · rw [e]; exact n4_eq
  · unfold y_append at hy
    rw [h10] at hy
    rcases hy with ⟨-, -, rfl⟩ | ⟨-, -, -, -, rfl⟩ | ⟨-, -, -, -, rfl⟩ | ⟨-, -, -, -, -, -, rfl⟩ | ⟨-, -, -, -, -, -, rfl, -⟩
    · exact h14
    · exact h14
    · exact h14
    · rw [x_apd_14]; exact h14
    · rw [x_kept_2 _ _ _ _ (by decide), x_apd_14]; exact h14
theorem f_4 (h : Qf n4 σ τ) (hy : y_poke σ 0 ((0 : Int).bmod 256) k v σ1) (hu : u_poke τ 0 ((0 : Int).bmod 256) r τ1) : Qf n5 σ1 τ1 := by
  obtain ⟨hj, rfl, h14⟩ := h
  have e7 : n4.1 0 7 = 56 := n5_num.1
  refine ⟨sj_poke hj (x_bm 0) hy hu, ?_, ?_⟩
  · rcases hu with ⟨-, -, e⟩ | ⟨g, -⟩
    · rw [e]; rfl
    · rw [e7] at g
      exact absurd (by decide) g
  · rcases hy with ⟨-, -, rfl⟩ | ⟨-, -, -, rfl⟩
    · exact h14
    · rw [p1_2, p2_2, if_neg (by omega)]; exact h14
def Q6 (σ τ : fS) : Prop := Jv σ τ ∧ σ.2 14 1 = 1 ∧ τ.1 0 10 = 2 ∧ τ.1 0 7 = 29 ∧ ∀ a b, a ≠ 15 → τ.2 a b = n5.2 a b
theorem f_5 (h : Qf n5 σ τ) (hy : y_take σ 0 k v σ1) (hu : u_take τ 0 r τ1) : Q6 σ1 τ1 := by
  obtain ⟨hj, rfl, h14⟩ := h
  have hrs := rs_take hj.2.2 hj.1 hj.2.1 hy hu
  have hfirst : ∀ z, ¬ p_first (n5.2 7) z := fun z q => by
    have q1 : n5.2 7 (0 : Int).toNat = 37 := q.2.1.2
    rw [show (0 : Int).toNat = 0 from rfl, n5_byt.1] at q1
    exact absurd q1 (by decide)
  have hg : (0 : Int) ≤ 0 ∧ (0 : Int) < n5.1 0 10 := by rw [n5_num.2.1]; decide
  have e29 : m_tkn n5 (0 : Int).toNat = 29 := by
    unfold m_tkn
    rw [show (0 : Int).toNat = 0 from rfl, n5_num.2.2.1, n5_num.1]
    exact if_pos (by decide)
  rcases hu with ⟨g, -⟩ | ⟨-, hm⟩
  · exact absurd hg g
  · have hm' : m_scx (m_tk n5 (0 : Int).toNat) τ1 ∧ r = -1 := by
      rcases hm with ⟨h1, h2, h3⟩ | ⟨S, n, h1, h2, -⟩
      · rcases h2 with ⟨-, -, h4⟩ | ⟨q, -⟩
        · exact ⟨h1, by rw [h3, h4]; rfl⟩
        · exact absurd q (hfirst _)
      · rcases h2 with ⟨-, q, -⟩ | ⟨q, -⟩
        · exact absurd q (by decide)
        · exact absurd q (hfirst _)
    obtain ⟨hs, hr⟩ := hm'
    refine ⟨sj_take hj hy (Or.inr ⟨hg, hm⟩), ?_, ?_, ?_, fun a b g => hs.1 a b g⟩
    · rcases hy with ⟨-, -, rfl⟩ | ⟨g, hk, w, S, hff, hc⟩
      · exact h14
      · have h60 : 0 ≤ σ.1 10 1 ∧ σ.1 10 1 ≤ 60 := hj.1.1 10 1
        rcases hc with ⟨-, -, rfl⟩ | ⟨-, c, -, c1, -, hv, -⟩
        · obtain ⟨-, hfr, -⟩ := x_ff_I (x_tk_n hj.1 (by omega)) (x_tk_I hj.1 (by omega)) hff
          rw [hfr.1 14 (by omega)]
          exact h14
        · have := hrs.2.2.2.1 hk
          omega
    · rw [hs.2 0 10 (by omega)]
      unfold m_tk
      rw [p1_1, if_neg (by omega), p1_1, if_neg (by omega), p1_1, if_neg (by omega)]
      exact n5_num.2.1
    · rw [hs.2 0 7 (by omega)]
      unfold m_tk
      rw [p1_1, if_neg (by omega), p1_1, if_pos ⟨rfl, rfl⟩]
      exact e29
theorem f_6 (h : Q6 σ τ) (hy : y_differ3 σ 1 0 k v σ1) (hu : u_differ3 τ 1 0 r τ1) : Jv σ1 τ1 ∧ k = 0 ∧ τ1.1 0 0 = 0 ∧ (1 ≤ v ∧ v ≤ 40) ∧ v = σ1.1 380 2 ∧ r = 0 ∧ τ1.1 0 29 = 0 := by
  obtain ⟨hj, h14, t10, t7, t2⟩ := h
  have s10 : σ.1 10 1 = 2 := by rw [hj.2.2.2.2.1]; exact t10
  have s8 : σ.1 8 1 = 29 := by rw [hj.2.2.2.1.1]; exact t7
  have p13 : σ.2 13 1 = 4 := by
    have h9 := (hj.2.2.2.2.2 0 (by rw [s10]; decide)).2.2 1 (by decide) (by decide)
    rw [show 41 * 0 + 1 = 1 from rfl, t2 10 1 (by decide), n5_num.2.2.2.1] at h9
    exact h9
  have p16 : σ.2 16 1 = 29 := by
    have h9 := (hj.2.2.2.2.2 1 (by rw [s10]; decide)).2.2 1 (by decide) (by decide)
    rw [show 41 * 1 + 1 = 42 from rfl, t2 10 42 (by decide), n5_num.2.2.2.2.1] at h9
    exact h9
  have hjj := sj_differ hj (y_differ_of hy) (u_differ_of hu)
  rcases hy with ⟨g, -⟩ | ⟨-, hk, ⟨hf, hz⟩, hv⟩
  · rw [s10] at g
    exact absurd (by decide) g
  have hv1 : ¬ σ1.1 380 2 = 0 := fun h0 => by
    have hs : x_sm σ 15 12 (σ.2 9) (σ.1 8 1) 1 := hz h0 1 (by decide) (by decide)
    rcases hs with ⟨-, q⟩ | ⟨-, -, q1, q2⟩
    · have q : σ.2 13 1 = -1 := q
      omega
    · have q1 : σ.2 17 1 = σ.2 14 1 := q1
      have h17 : σ.2 17 1 = 1 := by rw [q1, h14]
      have q3 := q2 0 (by show ((0 : Nat) : Int) < σ.2 17 1; rw [h17]; decide)
      have b1 : x_bp σ 15 1 = 35 := by
        show σ.2 16 1 + 4 + x_dgs 1 + x_dgs (σ.2 17 1) = 35
        rw [p16, h17]; decide
      have b2 : x_bp σ 12 1 = 10 := by
        show σ.2 13 1 + 4 + x_dgs 1 + x_dgs (σ.2 14 1) = 10
        rw [p13, h14]; decide
      rw [b1, b2, s8] at q3
      unfold q_va at q3
      rw [if_neg (by decide), if_pos (by decide)] at q3
      have q4 : -128 ≤ σ.2 9 10 ∧ σ.2 9 10 ≤ 127 := hj.1.2 9 10
      have q5 : (256 : Int) = σ.2 9 10 := q3
      omega
  have hvr := hf.2.2.1
  rcases hu with ⟨g, -⟩ | ⟨-, -, u0, -, u29, -, hr⟩
  · rw [t10] at g
    exact absurd (by decide) g
  have hr0 : r = 0 := hr (fun t g1 g2 => by
    by_cases e : t = 1
    · subst e
      right
      have a1 : τ.2 10 (41 * 1 + 1 : Int).toNat = 29 := by rw [show (41 * 1 + 1 : Int).toNat = 42 from rfl, t2 10 42 (by decide)]; exact n5_num.2.2.2.2.1
      have a2 : τ.2 10 (41 * 0 + 1 : Int).toNat = 4 := by rw [show (41 * 0 + 1 : Int).toNat = 1 from rfl, t2 10 1 (by decide)]; exact n5_num.2.2.2.1
      have c1 : τ.2 12 (41 * 1 + 1 : Int).toNat = 1 := by rw [show (41 * 1 + 1 : Int).toNat = 42 from rfl, t2 12 42 (by decide)]; exact n5_num.2.2.2.2.2.2.2.2
      have c2 : τ.2 12 (41 * 0 + 1 : Int).toNat = 1 := by rw [show (41 * 0 + 1 : Int).toNat = 1 from rfl, t2 12 1 (by decide)]; exact n5_num.2.2.2.2.2.2.2.1
      have d1 : τ.2 11 (41 * 1 + 1 : Int).toNat = 35 := by rw [show (41 * 1 + 1 : Int).toNat = 42 from rfl, t2 11 42 (by decide)]; exact n5_num.2.2.2.2.2.2.1
      have d2 : τ.2 11 (41 * 0 + 1 : Int).toNat = 10 := by rw [show (41 * 0 + 1 : Int).toNat = 1 from rfl, t2 11 1 (by decide)]; exact n5_num.2.2.2.2.2.1
      refine ⟨by rw [a1]; decide, by rw [a2]; decide, by rw [c1, c2], fun s g3 g4 => ?_⟩
      rw [c1] at g4
      obtain rfl : s = 0 := by omega
      rw [d1, d2, show (35 + 0 : Int).toNat = 35 from rfl, show (10 + 0 : Int).toNat = 10 from rfl, t2 7 35 (by decide), t2 7 10 (by decide), n5_byt.2.1, n5_byt.2.2]
    · left
      have h9 := n5_gone (t.toNat - 2) (by omega)
      rw [show t.toNat - 2 + 2 = (41 * 0 + t).toNat by omega, show t.toNat - 2 + 43 = (41 * 1 + t).toNat by omega] at h9
      rw [t2 10 _ (by decide), t2 10 _ (by decide)]
      exact ⟨h9.2, h9.1⟩)
  exact ⟨hjj, hk, u0, by omega, hv, hr0, by rw [u29]; exact hr0⟩
end FS
