/-! ranges of what a draft holds -/
def x_byR (L : List Int) : Prop := ∀ x ∈ L, -128 ≤ x ∧ x ≤ 127
theorem x_byR_app {a b : List Int} (ha : x_byR a) (hb : x_byR b) : x_byR (a ++ b) := fun x h => (List.mem_append.mp h).elim (ha x) (hb x)
theorem x_byR_1 {v : Int} (h : -128 ≤ v ∧ v ≤ 127) : x_byR [v] := fun x hx => by rw [List.mem_singleton] at hx; rw [hx]; exact h
theorem x_byR_dig (v : Int) : x_byR (dig v) := fun x hx => by have := dg_byte (dl v) v x hx; omega
theorem x_byR_tell {c : Int} (hc : -128 ≤ c ∧ c ≤ 127) (v : Int) : x_byR (m_tell c v) := by
  unfold m_tell
  refine x_byR_app (x_byR_app (fun x hx => ?_) (x_byR_dig v)) (x_byR_1 (by omega))
  simp only [List.mem_cons, List.not_mem_nil, or_false] at hx
  rcases hx with rfl | rfl
  · exact hc
  · omega
theorem x_put_375 {σ : fS} {v : Int} (hv : -128 ≤ v ∧ v ≤ 127) (h : ∀ i, -128 ≤ σ.2 375 i ∧ σ.2 375 i ≤ 127) : ∀ i, -128 ≤ (x_put σ v).2 375 i ∧ (x_put σ v).2 375 i ≤ 127 := fun i => by
  unfold x_put
  rw [p1_2, p2_2]
  split
  · exact hv
  · exact h i
theorem x_puts_375 : ∀ (L : List Int) (σ : fS), x_byR L → (∀ i, -128 ≤ σ.2 375 i ∧ σ.2 375 i ≤ 127) → ∀ i, -128 ≤ (x_puts σ L).2 375 i ∧ (x_puts σ L).2 375 i ≤ 127 := by
  intro L
  induction L with
  | nil => intro σ _ h; exact h
  | cons x r ih =>
    intro σ hL h
    exact ih (x_put σ x) (fun y hy => hL y (List.mem_cons_of_mem _ hy)) (x_put_375 (hL x List.mem_cons_self) h)
theorem x_byR_rec {σ : fS} (n : Int) (h5 : ∀ i, -128 ≤ σ.2 5 i ∧ σ.2 5 i ≤ 127) : x_byR (x_rec σ n) := by
  unfold x_rec x_hd
  refine x_byR_app (x_byR_app (x_byR_app (x_byR_app (x_byR_app (x_byR_app (x_byR_app (x_byR_1 (by omega)) (x_byR_1 (by omega))) (x_byR_dig _)) (x_byR_1 (by omega))) (x_byR_dig _)) (x_byR_1 (by omega))) (fun x hx => ?_)) (x_byR_1 (by omega))
  unfold x_byt at hx
  obtain ⟨j, -, rfl⟩ := List.mem_map.mp hx
  exact h5 _
theorem x_byR_row (σ : fS) (n : Int) : x_byR (x_row σ n) := by
  unfold x_row
  refine x_byR_app (x_byR_app (x_byR_app (x_byR_dig _) (x_byR_1 (by omega))) ?_) (x_byR_1 (by omega))
  split
  · exact x_byR_1 (by omega)
  · exact x_byR_dig _
/-- the rows of a draft's table -/
def x_rows (B : fS) : Nat → List Int
  | 0 => []
  | k + 1 => x_rows B k ++ (if B.2 378 (k + 1) = -2 then [] else x_row B ((k : Int) + 1))
theorem x_rows_len (B : fS) : ∀ k : Nat, k ≤ 40 → (x_rows B k).length ≤ 9 * k := by
  intro k
  induction k with
  | zero => intro _; exact Nat.le_refl _
  | succ k ih =>
    intro hk
    have h1 := ih (by omega)
    show (x_rows B k ++ _).length ≤ _
    rw [List.length_append]
    split
    · show _ + 0 ≤ _; omega
    · have := x_row_len (σ := B) (n := (k : Int) + 1) (by omega)
      omega
theorem x_rows_byR (B : fS) : ∀ k : Nat, x_byR (x_rows B k) := by
  intro k
  induction k with
  | zero => intro x hx; cases hx
  | succ k ih =>
    show x_byR (x_rows B k ++ _)
    refine x_byR_app ih ?_
    split
    · intro x hx; cases hx
    · exact x_byR_row _ _
theorem x_row_eq {B C : fS} (h : ∀ i, C.2 378 i = B.2 378 i) (n : Int) : x_row C n = x_row B n := by
  unfold x_row
  rw [h]
/-- the part behind its records -/
def x_ftl (R : fS) (q : Int) : List Int := m_tell 120 (m_cnt (x_has R 377) 40) ++ x_rows R 40 ++ m_tell 112 q ++ m_tell 101 (R.1 374 5 + R.1 374 6)
theorem x_ftl_len (R : fS) (q : Int) : (x_ftl R q).length ≤ 384 := by
  have h1 := m_tell_len 120 (m_cnt (x_has R 377) 40)
  have h2 := m_tell_len 112 q
  have h3 := m_tell_len 101 (R.1 374 5 + R.1 374 6)
  have h4 := x_rows_len R 40 (by omega)
  unfold x_ftl
  simp only [List.length_append]
  omega
theorem x_ftl_byR (R : fS) (q : Int) : x_byR (x_ftl R q) := by
  unfold x_ftl
  exact x_byR_app (x_byR_app (x_byR_app (x_byR_tell (by omega) _) (x_rows_byR _ _)) (x_byR_tell (by omega) _)) (x_byR_tell (by omega) _)
def x_finx (R : fS) (q : Int) : fS := f_p1 (x_puts (f_p1 R 377 2 (R.1 374 5 + R.1 374 6)) (x_ftl R q)) 377 3 (R.1 374 5 + R.1 374 6 + (x_ftl R q).length)
/-- a draft is finished -/
def x_fin (σ : fS) (q : Int) : fS := x_finx (x_recs σ (σ.1 374 4).toNat) q
/-- the records leave the ranges -/
theorem x_recs_J {σ : fS} (h4 : ∀ i, 0 ≤ σ.2 4 i ∧ σ.2 4 i ≤ 120) (h5 : ∀ i, -128 ≤ σ.2 5 i ∧ σ.2 5 i ≤ 127) (ho : ∀ j : Nat, (j : Int) < σ.1 374 4 → 1 ≤ σ.2 376 j ∧ σ.2 376 j ≤ 40) (hc : σ.1 374 4 ≤ 40) (hb : 0 ≤ σ.1 374 5 ∧ σ.1 374 5 ≤ 12000) (hu : 0 ≤ σ.1 374 6 ∧ σ.1 374 6 ≤ 100) (h375 : ∀ i, -128 ≤ σ.2 375 i ∧ σ.2 375 i ≤ 127) (h378 : ∀ i, -2 ≤ σ.2 378 i ∧ σ.2 378 i ≤ 99999) (h379 : ∀ i, 0 ≤ σ.2 379 i ∧ σ.2 379 i ≤ 120) : ∀ k : Nat, (k : Int) ≤ σ.1 374 4 → (∀ i, -128 ≤ (x_recs σ k).2 375 i ∧ (x_recs σ k).2 375 i ≤ 127) ∧ (∀ i, -2 ≤ (x_recs σ k).2 378 i ∧ (x_recs σ k).2 378 i ≤ 99999) ∧ (∀ i, 0 ≤ (x_recs σ k).2 379 i ∧ (x_recs σ k).2 379 i ≤ 120) := by
  intro k
  induction k with
  | zero => intro _; exact ⟨h375, h378, h379⟩
  | succ k ih =>
    intro hk
    obtain ⟨i1, i2, i3⟩ := ih (by omega)
    obtain ⟨j1, j2, j3, j4⟩ := x_recs_I h4 ho k (by omega)
    have hn := ho k (by omega)
    have hb5 : (x_recs σ k).1 374 5 = σ.1 374 5 := j2 374 5 (by decide)
    refine ⟨fun i => ?_, fun i => ?_, fun i => ?_⟩
    · refine x_puts_375 _ _ (x_byR_rec _ (fun i => by rw [j1 5 i (by decide) (by decide) (by decide)]; exact h5 i)) (fun i => ?_) i
      rw [x_r0_2 _ _ _ _ (by decide) (by decide)]
      exact i1 i
    · show -2 ≤ (x_puts _ _).2 378 i ∧ (x_puts _ _).2 378 i ≤ 99999
      rw [x_puts_2 _ _ _ _ (by decide)]
      unfold x_r0
      rw [p2_2, if_neg (by omega), p2_2]
      split
      · omega
      · exact i2 i
    · show 0 ≤ (x_puts _ _).2 379 i ∧ (x_puts _ _).2 379 i ≤ 120
      rw [x_puts_2 _ _ _ _ (by decide)]
      unfold x_r0
      rw [p2_2]
      split
      · rw [j1 4 _ (by decide) (by decide) (by decide)]; exact h4 _
      · rw [p2_2, if_neg (by omega)]; exact i3 i
set_option maxRecDepth 100000 in
set_option maxHeartbeats 4000000 in
/-- finish -/
theorem kX_XD_finish (l : Launch) (D : va_G) (cA : Nat → ClassId) (ad : Nat → Nat) (hJ : f_J (xG D cA ad)) (σ : fS) (q : Int) (hq : 0 ≤ q ∧ q ≤ 99999) (hc : 0 ≤ σ.1 374 4 ∧ σ.1 374 4 ≤ 40) (ho : ∀ j : Nat, (j : Int) < σ.1 374 4 → 1 ≤ σ.2 376 j ∧ σ.2 376 j ≤ 40) (hb : 0 ≤ σ.1 374 5 ∧ σ.1 374 5 ≤ 12000) (hu : 0 ≤ σ.1 374 6 ∧ σ.1 374 6 ≤ 100) (h4 : ∀ i, 0 ≤ σ.2 4 i ∧ σ.2 4 i ≤ 120) (h5 : ∀ i, -128 ≤ σ.2 5 i ∧ σ.2 5 i ≤ 127) (h375 : ∀ i, -128 ≤ σ.2 375 i ∧ σ.2 375 i ≤ 127) (h378 : ∀ i, -2 ≤ σ.2 378 i ∧ σ.2 378 i ≤ 99999) (h379 : ∀ i, 0 ≤ σ.2 379 i ∧ σ.2 379 i ≤ 120) : f_M l (xG D cA ad) (xE (xG D cA ad)) yXD_finish (Cond.code yXD_finish cXD_finish 3 none :: A9) 3 σ [.ref (ad 374), .int (fI q)] (f_QV (fun σ1 => σ1 = x_fin σ q) (xG D cA ad)) := by
  refine f_enter (by decide +kernel) hJ rfl (Nat.le_of_ble_eq_true rfl) ?_
  intro z hzl hR C hRt hLk hEz
  subst hzl
  have hRR : 3 ≤ z.2.2.2.1.frames ∧ 40 * 3 ≤ z.2.2.2.1.locals ∧ 0 ≤ z.2.2.2.1.cells ∧ 0 ≤ z.2.2.2.1.slots := by rw [hR]; exact ⟨Nat.le_refl _, Nat.le_refl _, Nat.zero_le _, Nat.zero_le _⟩
  obtain ⟨R, hRe⟩ : ∃ s, s = x_recs σ (σ.1 374 4).toNat := ⟨_, rfl⟩
  obtain ⟨X, hXe⟩ : ∃ s, s = f_p1 R 377 2 (R.1 374 5 + R.1 374 6) := ⟨_, rfl⟩
  obtain ⟨r1, r2, r3, r4⟩ := x_recs_I h4 ho (σ.1 374 4).toNat (by omega)
  obtain ⟨-, hR378, -⟩ := x_recs_J h4 h5 ho hc.2 hb hu h375 h378 h379 (σ.1 374 4).toNat (by omega)
  rw [← hRe] at r1 r2 r3 r4 hR378
  have hR5 : R.1 374 5 = σ.1 374 5 := r2 374 5 (by decide)
  have hX2 : ∀ a i, X.2 a i = R.2 a i := fun a i => by rw [hXe]; rfl
  have hX6 : X.1 374 6 = R.1 374 6 := by rw [hXe]; rfl
  have hX5 : X.1 374 5 = R.1 374 5 := by rw [hXe]; rfl
  have hXx : X.1 377 2 = R.1 374 5 + R.1 374 6 := by rw [hXe, p1_1, if_pos ⟨rfl, rfl⟩]
  have h120 := m_tell_len 120 (m_cnt (x_has R 377) 40)
  have hcn := m_cnt_le (x_has R 377) 40
  have hfin : ∀ s : fS, s = f_p1 (x_puts X (m_tell 120 (m_cnt (x_has R 377) 40) ++ x_rows R 40 ++ m_tell 112 q ++ m_tell 101 (R.1 374 5 + R.1 374 6))) 377 3 (R.1 374 5 + R.1 374 6 + (m_tell 120 (m_cnt (x_has R 377) 40) ++ x_rows R 40 ++ m_tell 112 q ++ m_tell 101 (R.1 374 5 + R.1 374 6)).length) → s = x_fin σ q := fun s hs => by rw [hs, hXe, hRe]; rfl
  have L2 : ∀ (m k : Nat), m + k = 40 → fv z (xG D cA ad) 3 (f_R z (xG D cA ad) (f_QV (fun σ1 => σ1 = x_fin σ q) (xG D cA ad))) 0 0 (x_puts X (m_tell 120 (m_cnt (x_has R 377) 40) ++ x_rows R k)) 57 [some (.ref (ad 374)), some (.int (fI q)), some (.int (fI ((k : Int) + 1)))] [] := by
    intro m
    induction m with
    | zero =>
      intro k hk
      obtain rfl : k = 40 := by omega
      refine v_iload_n C dXD_finish_57 rfl rfl ?_
      refine v_bipush C dXD_finish_58 (by decide +kernel) ?_
      refine v_icmp_gt (tgt := 88) C dXD_finish_60 (by decide) (by omega) (by omega) (fun hc1 => ?_) (fun hc1 => ?_)
      · refine v_aload_n C dXD_finish_88 rfl rfl ?_
        refine v_bipush C dXD_finish_89 (by decide +kernel) ?_
        refine v_iload_n C dXD_finish_91 rfl rfl ?_
        have hx2 := x_puts_u X (m_tell 120 (m_cnt (x_has R 377) 40) ++ x_rows R 40)
        have h120 := m_tell_len 120 (m_cnt (x_has R 377) 40)
        have h112 := m_tell_len 112 q
        have hrl := x_rows_len R 40 (by omega)
        simp only [List.length_append, List.length_nil] at hx2
        refine v_cVV (k := 374) (n := 2) C (xE_ok _) hEz hR (kX_XD_putTagged _ D cA ad hJ (x_puts X (m_tell 120 (m_cnt (x_has R 377) 40) ++ x_rows R 40)) (112) (q) (by omega) (by omega) (by omega)) dXD_finish_92 (by show (374 : Nat) < 383; decide) rfl rfl gXD_81 (by decide +kernel) (by decide) (by decide) rfl (Nat.le_of_ble_eq_true rfl) rfl ⟨rfl, rfl⟩ (fun σ1 hp1 => ?_)
        subst σ1
        refine v_st (σ1 := x_puts X (m_tell 120 (m_cnt (x_has R 377) 40) ++ x_rows R 40 ++ m_tell (112) (q))) ((x_puts_app _ _ _).symm) ?_
        refine v_aload_n C dXD_finish_95 rfl rfl ?_
        refine v_bipush C dXD_finish_96 (by decide +kernel) ?_
        refine v_aload_n C dXD_finish_98 rfl rfl ?_
        refine v_getR (k := 374) (q := 3) C dXD_finish_99 (by show (374 : Nat) < 383; decide) rfl rfl (by decide) rfl inXD lXD_22 rfl ?_
        refine v_getI (k := 377) (q := 2) (v := X.1 377 2) C dXD_finish_102 (by show (377 : Nat) < 383; decide) rfl rfl (by decide) rfl inXT lXD_74 rfl (by rw [x_puts_1, if_neg (by decide)]) ?_
        refine v_top (b := R.1 374 5 + R.1 374 6) hXx ?_
        have hx3 := x_puts_u X (m_tell 120 (m_cnt (x_has R 377) 40) ++ x_rows R 40 ++ m_tell (112) (q))
        have h120 := m_tell_len 120 (m_cnt (x_has R 377) 40)
        have h112 := m_tell_len 112 q
        have hrl := x_rows_len R 40 (by omega)
        simp only [List.length_append, List.length_nil] at hx3
        refine v_cVV (k := 374) (n := 2) C (xE_ok _) hEz hR (kX_XD_putTagged _ D cA ad hJ (x_puts X (m_tell 120 (m_cnt (x_has R 377) 40) ++ x_rows R 40 ++ m_tell (112) (q))) (101) (R.1 374 5 + R.1 374 6) (by omega) (by omega) (by omega)) dXD_finish_105 (by show (374 : Nat) < 383; decide) rfl rfl gXD_81 (by decide +kernel) (by decide) (by decide) rfl (Nat.le_of_ble_eq_true rfl) rfl ⟨rfl, rfl⟩ (fun σ1 hp1 => ?_)
        subst σ1
        refine v_st (σ1 := x_puts X (m_tell 120 (m_cnt (x_has R 377) 40) ++ x_rows R 40 ++ m_tell (112) (q) ++ m_tell (101) (R.1 374 5 + R.1 374 6))) ((x_puts_app _ _ _).symm) ?_
        refine v_aload_n C dXD_finish_108 rfl rfl ?_
        refine v_getR (k := 374) (q := 3) C dXD_finish_109 (by show (374 : Nat) < 383; decide) rfl rfl (by decide) rfl inXD lXD_22 rfl ?_
        refine v_aload_n C dXD_finish_112 rfl rfl ?_
        refine v_getI (k := 374) (q := 5) (v := X.1 374 5) C dXD_finish_113 (by show (374 : Nat) < 383; decide) rfl rfl (by decide) rfl inXD lXD_30 rfl (by rw [x_puts_1, if_neg (by decide)]) ?_
        refine v_aload_n C dXD_finish_116 rfl rfl ?_
        refine v_getI (k := 374) (q := 6) (v := X.1 374 6 + (m_tell 120 (m_cnt (x_has R 377) 40) ++ x_rows R 40 ++ m_tell (112) (q) ++ m_tell (101) (R.1 374 5 + R.1 374 6) : List Int).length) C dXD_finish_117 (by show (374 : Nat) < 383; decide) rfl rfl (by decide) rfl inXD lXD_34 rfl (x_puts_u _ _) ?_
        refine v_iadd C dXD_finish_120 ?_
        refine v_top (b := R.1 374 5 + R.1 374 6 + (m_tell 120 (m_cnt (x_has R 377) 40) ++ x_rows R 40 ++ m_tell 112 q ++ m_tell 101 (R.1 374 5 + R.1 374 6)).length) (by simp only [List.length_append]; omega) ?_
        refine v_putI (k := 377) (q := 3) C dXD_finish_121 (by show (377 : Nat) < 383; decide) rfl rfl (by decide) rfl inXT tyXT_ok nmXT lXD_87 rfl rfl rfl rfl rfl ?_
        exact v_vret C hRt hLk dXD_finish_124 (hfin _ rfl)
      · exfalso; omega
    | succ m ih =>
      intro k hk
      have hkt : ((k : Int) + 1).toNat = k + 1 := by omega
      have hx8 := hR378 (k + 1)
      have hxe : X.2 378 ((k : Int) + 1).toNat = R.2 378 (k + 1) := by rw [hX2, hkt]
      refine v_iload_n C dXD_finish_57 rfl rfl ?_
      refine v_bipush C dXD_finish_58 (by decide +kernel) ?_
      refine v_icmp_gt (tgt := 88) C dXD_finish_60 (by decide) (by omega) (by omega) (fun hc4 => ?_) (fun hc4 => ?_)
      · exfalso; omega
      · refine v_aload_n C dXD_finish_63 rfl rfl ?_
        refine v_getR (k := 374) (q := 3) C dXD_finish_64 (by show (374 : Nat) < 383; decide) rfl rfl (by decide) rfl inXD lXD_22 rfl ?_
        refine v_getR (k := 377) (q := 0) C dXD_finish_67 (by show (377 : Nat) < 383; decide) rfl rfl (by decide) rfl inXT lXD_58 rfl ?_
        refine v_iload_n C dXD_finish_70 rfl rfl ?_
        refine v_iald (k := 378) (v := X.2 378 (((k : Int) + 1)).toNat) C dXD_finish_71 (by show (378 : Nat) < 383; decide) rfl rfl (by omega) (by decide) (x_puts_2 _ _ _ _ (by decide)) ?_
        refine v_bipush C dXD_finish_72 (by decide +kernel) ?_
        refine v_icmp_eq (tgt := 82) C dXD_finish_74 (by decide) (by omega) (by omega) (fun hc5 => ?_) (fun hc5 => ?_)
        · refine v_iinc C dXD_finish_82 rfl (by decide) ?_
          refine v_goto (tgt := 57) C dXD_finish_85 (by decide) ?_
          exact v_st (by first | (rw [← x_puts_app]; show _ = x_puts X (_ ++ (x_rows R k ++ _)); rw [if_neg (by omega), List.append_assoc, x_row_eq (B := R) (fun i => by rw [x_puts_2 _ _ _ _ (by decide), hX2])]) | (show _ = x_puts X (_ ++ (x_rows R k ++ _)); rw [if_pos (by omega), List.append_nil])) (ih (k + 1) (by omega))
        · refine v_aload_n C dXD_finish_77 rfl rfl ?_
          refine v_iload_n C dXD_finish_78 rfl rfl ?_
          have hpl := x_puts_u X (m_tell 120 (m_cnt (x_has R 377) 40) ++ x_rows R k)
          have hrl := x_rows_len R k (by omega)
          have hpp : (x_puts X (m_tell 120 (m_cnt (x_has R 377) 40) ++ x_rows R k)).2 378 ((k : Int) + 1).toNat = X.2 378 ((k : Int) + 1).toNat := x_puts_2 _ _ _ _ (by decide)
          simp only [List.length_append] at hpl
          refine v_cVV (k := 374) (n := 1) C (xE_ok _) hEz hR (kX_XD_putRow _ D cA ad hJ (x_puts X (m_tell 120 (m_cnt (x_has R 377) 40) ++ x_rows R k)) ((k : Int) + 1) (by omega) (by omega) (by omega)) dXD_finish_79 (by show (374 : Nat) < 383; decide) rfl rfl gXD_84 (by decide +kernel) (by decide) (by decide) rfl (Nat.le_of_ble_eq_true rfl) rfl ⟨rfl, rfl⟩ (fun σ1 hp1 => ?_)
          subst σ1
          refine v_iinc C dXD_finish_82 rfl (by decide) ?_
          refine v_goto (tgt := 57) C dXD_finish_85 (by decide) ?_
          exact v_st (by first | (rw [← x_puts_app]; show _ = x_puts X (_ ++ (x_rows R k ++ _)); rw [if_neg (by omega), List.append_assoc, x_row_eq (B := R) (fun i => by rw [x_puts_2 _ _ _ _ (by decide), hX2])]) | (show _ = x_puts X (_ ++ (x_rows R k ++ _)); rw [if_pos (by omega), List.append_nil])) (ih (k + 1) (by omega))
  have L1 : ∀ (m k : Nat), m + k = (σ.1 374 4).toNat → fv z (xG D cA ad) 3 (f_R z (xG D cA ad) (f_QV (fun σ1 => σ1 = x_fin σ q) (xG D cA ad))) 0 0 (x_recs σ k) 2 [some (.ref (ad 374)), some (.int (fI q)), some (.int (fI (k : Int)))] [] := by
    intro m
    induction m with
    | zero =>
      intro k hk
      obtain ⟨j1, j2, j3, j4⟩ := x_recs_I h4 ho k (by omega)
      refine v_iload_n C dXD_finish_2 rfl rfl ?_
      refine v_aload_n C dXD_finish_3 rfl rfl ?_
      refine v_getI (k := 374) (q := 4) (v := σ.1 374 4) C dXD_finish_4 (by show (374 : Nat) < 383; decide) rfl rfl (by decide) rfl inXD lXD_37 rfl (j2 374 4 (by decide)) ?_
      refine v_icmp_ge (tgt := 26) C dXD_finish_7 (by decide) (by omega) (by omega) (fun hc6 => ?_) (fun hc6 => ?_)
      · obtain rfl : k = (σ.1 374 4).toNat := by omega
        refine v_st hRe.symm ?_
        refine v_aload_n C dXD_finish_26 rfl rfl ?_
        refine v_getR (k := 374) (q := 3) C dXD_finish_27 (by show (374 : Nat) < 383; decide) rfl rfl (by decide) rfl inXD lXD_22 rfl ?_
        refine v_aload_n C dXD_finish_30 rfl rfl ?_
        refine v_getI (k := 374) (q := 5) (v := R.1 374 5) C dXD_finish_31 (by show (374 : Nat) < 383; decide) rfl rfl (by decide) rfl inXD lXD_30 rfl rfl ?_
        refine v_aload_n C dXD_finish_34 rfl rfl ?_
        refine v_getI (k := 374) (q := 6) (v := R.1 374 6) C dXD_finish_35 (by show (374 : Nat) < 383; decide) rfl rfl (by decide) rfl inXD lXD_34 rfl rfl ?_
        refine v_iadd C dXD_finish_38 ?_
        refine v_putI (k := 377) (q := 2) C dXD_finish_39 (by show (377 : Nat) < 383; decide) rfl rfl (by decide) rfl inXT tyXT_ok nmXT lXD_74 rfl rfl rfl rfl rfl ?_
        refine v_st hXe.symm ?_
        refine v_aload_n C dXD_finish_42 rfl rfl ?_
        refine v_bipush C dXD_finish_43 (by decide +kernel) ?_
        refine v_aload_n C dXD_finish_45 rfl rfl ?_
        refine v_getR (k := 374) (q := 3) C dXD_finish_46 (by show (374 : Nat) < 383; decide) rfl rfl (by decide) rfl inXD lXD_22 rfl ?_
        have hbr : ∀ i, -2 ≤ X.2 (377 + 1) i ∧ X.2 (377 + 1) i ≤ 99999 := fun i => by rw [hX2]; exact hR378 i
        refine v_cVI (k := 377) (n := 0) C (xE_ok _) hEz hR (kX_XT_countRows _ D cA ad hJ X 377 (by decide) rfl rfl rfl hbr) dXD_finish_49 (by show (377 : Nat) < 383; decide) rfl rfl gXD_77 (by decide +kernel) (by decide) (by decide) rfl (Nat.le_of_ble_eq_true rfl) rfl ⟨rfl, rfl⟩ (fun r1 σ1 hp1 => ?_)
        obtain ⟨e1, e2⟩ := hp1
        subst σ1
        have ecn : x_has X 377 = x_has R 377 := funext fun i => by unfold x_has; rw [hX2]
        rw [ecn] at e1
        subst r1
        refine v_st (σ1 := x_puts X []) rfl ?_
        have hx7 := x_puts_u X ([])
        have h120 := m_tell_len 120 (m_cnt (x_has R 377) 40)
        have h112 := m_tell_len 112 q
        have hrl := x_rows_len R 40 (by omega)
        simp only [List.length_append, List.length_nil] at hx7
        refine v_cVV (k := 374) (n := 2) C (xE_ok _) hEz hR (kX_XD_putTagged _ D cA ad hJ (x_puts X ([])) (120) ((m_cnt (x_has R 377) 40)) (by omega) (by omega) (by omega)) dXD_finish_52 (by show (374 : Nat) < 383; decide) rfl rfl gXD_81 (by decide +kernel) (by decide) (by decide) rfl (Nat.le_of_ble_eq_true rfl) rfl ⟨rfl, rfl⟩ (fun σ1 hp1 => ?_)
        subst σ1
        refine v_st (σ1 := x_puts X (m_tell (120) ((m_cnt (x_has R 377) 40)))) (rfl) ?_
        refine v_iconst C dXD_finish_55 ?_
        refine v_istore_n C dXD_finish_56 rfl (by decide) ?_
        exact v_st (by show _ = x_puts X (_ ++ []); rw [List.append_nil]) (v_lv rfl (L2 40 0 (by omega)))
      · exfalso; omega
    | succ m ih =>
      intro k hk
      obtain ⟨j1, j2, j3, j4⟩ := x_recs_I h4 ho k (by omega)
      refine v_iload_n C dXD_finish_2 rfl rfl ?_
      refine v_aload_n C dXD_finish_3 rfl rfl ?_
      refine v_getI (k := 374) (q := 4) (v := σ.1 374 4) C dXD_finish_4 (by show (374 : Nat) < 383; decide) rfl rfl (by decide) rfl inXD lXD_37 rfl (j2 374 4 (by decide)) ?_
      refine v_icmp_ge (tgt := 26) C dXD_finish_7 (by decide) (by omega) (by omega) (fun hc8 => ?_) (fun hc8 => ?_)
      · exfalso; omega
      · refine v_aload_n C dXD_finish_10 rfl rfl ?_
        refine v_aload_n C dXD_finish_11 rfl rfl ?_
        refine v_getR (k := 374) (q := 2) C dXD_finish_12 (by show (374 : Nat) < 383; decide) rfl rfl (by decide) rfl inXD lXD_15 rfl ?_
        refine v_iload_n C dXD_finish_15 rfl rfl ?_
        refine v_iald (k := 376) (v := σ.2 376 k) C dXD_finish_16 (by show (376 : Nat) < 383; decide) rfl rfl (by omega) (by decide) (j1 376 k (by decide) (by decide) (by decide)) ?_
        refine v_cVV (k := 374) (n := 1) C (xE_ok _) hEz hR (kX_XD_putRecord _ D cA ad hJ (x_recs σ k) (σ.2 376 k) (ho k (by omega)) (fun i => by rw [j1 4 i (by decide) (by decide) (by decide)]; exact h4 i) (fun i => by rw [j1 5 i (by decide) (by decide) (by decide)]; exact h5 i) (by rw [j2 374 5 (by decide)]; exact hb) (by omega)) dXD_finish_17 (by show (374 : Nat) < 383; decide) rfl rfl gXD_71 (by decide +kernel) (by decide) (by decide) rfl (Nat.le_of_ble_eq_true rfl) rfl ⟨rfl, rfl⟩ (fun σ1 hp1 => ?_)
        subst σ1
        refine v_iinc C dXD_finish_20 rfl (by decide) ?_
        refine v_goto (tgt := 2) C dXD_finish_23 (by decide) ?_
        exact v_st rfl (ih (k + 1) (by omega))
  refine v_iconst C dXD_finish_0 ?_
  refine v_istore_n C dXD_finish_1 rfl (by decide) ?_
  exact v_lv rfl (L1 (σ.1 374 4).toNat 0 (by omega))
