section XMM
variable {z : fZ} {G : fG} {cc : ByteArray} {nL : Nat} {own : String} {Q : State → Prop} {kc ks : Nat} {σ : fS} {pc : Nat} {lv : List (Option Value)} {st : List Value}
theorem v_mmin (C : fc z G cc nL own) {index : Nat} {a b : Int} (hlink : Cond.methodLink own index Lib.Math.min.name ∈ A9) (hstat : Cond.static Lib.Math.min.name ∈ A9) (hini : Cond.initialized "java/lang/Math" ∈ A9) (hcode : Cond.code Lib.Math.min.name Lib.Math.min.code 2 (some .int) ∈ A9) (ha : -2147483648 ≤ a ∧ a ≤ 2147483647) (hb : -2147483648 ≤ b ∧ b ≤ 2147483647)
    (hR : 1 ≤ z.2.2.2.1.frames ∧ (st.map fun v => v.category).sum + 13 ≤ z.2.2.2.1.locals ∧ kc ≤ z.2.2.2.1.cells ∧ ks ≤ z.2.2.2.1.slots) (dg : decode cc pc = .ok (.invokestatic index, 3))
    (kk : fv z G nL Q kc ks σ (pc + 3) lv (.int (fI (if b < a then b else a)) :: st)) : fv z G nL Q kc ks σ pc lv (.int (fI b) :: .int (fI a) :: st) := by
  intro H locs ls hP hS hl
  refine va_mmin C.1 C.2.1 (C.2.2.1.trans hl.1.symm) C.2.2.2.1 (C.2.2.2.2.1 _ hlink) (C.2.2.2.2.1 _ hstat) (C.2.2.2.2.1 _ hini) (C.2.2.2.2.1 _ hcode) hR.1 hR.2.1 hR.2.2.1 hR.2.2.2 dg ?_
  have e : (if fI b < fI a then fI b else fI a) = fI (if b < a then b else a) := by
    by_cases g : b < a
    · rw [if_pos g, if_pos ((fI_lt hb ha).mpr g)]
    · rw [if_neg g, if_neg (fun h => g ((fI_lt hb ha).mp h))]
  rw [e]
  exact kk H locs ls hP hS hl
end XMM
/-! loading -/
def x_dgs (n : Int) : Int := if n < 10 then 1 else if n < 100 then 2 else 3
theorem x_dgs_r (n : Int) : 1 ≤ x_dgs n ∧ x_dgs n ≤ 3 := by unfold x_dgs; (repeat' split) <;> omega
/-- where the bytes of an object's record begin, by a table -/
def x_bp (σ : fS) (r : Nat) (n : Int) : Int := σ.2 (r + 1) n.toNat + 4 + x_dgs n + x_dgs (σ.2 (r + 2) n.toNat)
theorem x_bm (v : Int) : -128 ≤ v.bmod 256 ∧ v.bmod 256 ≤ 127 := by
  have h1 := Int.le_bmod (x := v) (m := 256) (by omega)
  have h2 := Int.bmod_lt (x := v) (m := 256) (by omega)
  omega
def x_ldk (fb : Nat → Int) (fn : Int) (B : fS) (n fr : Int) (k : Nat) : fS := (B.1, fun a b => if a = 5 ∧ (n * 120).toNat ≤ b ∧ b < (n * 120).toNat + k then (q_va fb fn (fr + ((b - (n * 120).toNat : Nat) : Int))).bmod 256 else B.2 a b)
theorem x_ldk_0 (fb : Nat → Int) (fn : Int) (B : fS) (n fr : Int) : B = x_ldk fb fn B n fr 0 := fS_ext (fun _ _ => rfl) (fun a b => by show _ = if _ then _ else B.2 a b; rw [if_neg (by omega)])
theorem x_ldk_s (fb : Nat → Int) (fn : Int) (B : fS) (n fr : Int) (k : Nat) (hn : 0 ≤ n) : f_p2 (x_ldk fb fn B n fr k) 5 (n * 120 + (k : Int)).toNat ((q_va fb fn (fr + (k : Int))).bmod 256) = x_ldk fb fn B n fr (k + 1) := by
  refine fS_ext (fun _ _ => rfl) (fun a b => ?_)
  rw [p2_2]
  show (if _ then _ else (if a = 5 ∧ (n * 120).toNat ≤ b ∧ b < (n * 120).toNat + k then (q_va fb fn (fr + ((b - (n * 120).toNat : Nat) : Int))).bmod 256 else B.2 a b)) = if a = 5 ∧ (n * 120).toNat ≤ b ∧ b < (n * 120).toNat + (k + 1) then (q_va fb fn (fr + ((b - (n * 120).toNat : Nat) : Int))).bmod 256 else B.2 a b
  by_cases g : a = 5 ∧ b = (n * 120 + (k : Int)).toNat
  · rw [if_pos g, if_pos (by omega), show ((b - (n * 120).toNat : Nat) : Int) = (k : Int) by omega]
  · rw [if_neg g]
    by_cases g2 : a = 5 ∧ (n * 120).toNat ≤ b ∧ b < (n * 120).toNat + k
    · rw [if_pos g2, if_pos (by omega)]
    · rw [if_neg g2, if_neg (by omega)]
theorem x_ldk_o (fb : Nat → Int) (fn : Int) (B : fS) (n fr : Int) (k a : Nat) (h : a ≠ 5) : (x_ldk fb fn B n fr k).2 a = B.2 a := by
  funext b
  show (if a = 5 ∧ (n * 120).toNat ≤ b ∧ b < (n * 120).toNat + k then (q_va fb fn (fr + ((b - (n * 120).toNat : Nat) : Int))).bmod 256 else B.2 a b) = _
  rw [if_neg (by omega)]
def x_ldb (fb : Nat → Int) (fn : Int) (σ : fS) (r : Nat) (n : Int) : fS := x_ldk fb fn (f_p2 σ 4 n.toNat (σ.2 (r + 2) n.toNat)) n (x_bp σ r n) (σ.2 (r + 2) n.toNat).toNat
/-- the objects up to k are loaded from a table -/
def x_ld1 (σ : fS) (r k : Nat) (y : fS) : fS := f_p2 (f_p2 y 2 (k + 1) (if σ.2 (r + 1) (k + 1) = -1 then 0 else 1)) 3 (k + 1) 0
def x_ldF (fb : Nat → Int) (fn : Int) (σ : fS) (r : Nat) : Nat → fS
  | 0 => σ
  | k + 1 => if σ.2 (r + 1) (k + 1) = -1 then x_ld1 σ r k (x_ldF fb fn σ r k) else x_ldb fb fn (x_ld1 σ r k (x_ldF fb fn σ r k)) r ((k : Int) + 1)
theorem x_ldb_1 (fb : Nat → Int) (fn : Int) (σ : fS) (r : Nat) (n : Int) : (x_ldb fb fn σ r n).1 = σ.1 := rfl
theorem x_ldb_2 (fb : Nat → Int) (fn : Int) (σ : fS) (r : Nat) (n : Int) (a : Nat) (h : a ≠ 4 ∧ a ≠ 5) : (x_ldb fb fn σ r n).2 a = σ.2 a := by
  funext b
  show (if _ then _ else (f_p2 σ 4 _ _).2 a b) = _
  rw [if_neg (by omega), p2_2, if_neg (by omega)]
theorem x_ld1_2 (σ : fS) (r k : Nat) (y : fS) (a : Nat) (h : a ≠ 2 ∧ a ≠ 3) : (x_ld1 σ r k y).2 a = y.2 a := by
  funext b
  unfold x_ld1
  rw [p2_2, if_neg (by omega), p2_2, if_neg (by omega)]
theorem x_ldF_o (fb : Nat → Int) (fn : Int) (σ : fS) (r : Nat) : ∀ k, (x_ldF fb fn σ r k).1 = σ.1 ∧ ∀ a, (a ≠ 2 ∧ a ≠ 3 ∧ a ≠ 4 ∧ a ≠ 5) → (x_ldF fb fn σ r k).2 a = σ.2 a := by
  intro k
  induction k with
  | zero => exact ⟨rfl, fun _ _ => rfl⟩
  | succ k ih =>
    obtain ⟨i1, i2⟩ := ih
    have e : x_ldF fb fn σ r (k + 1) = if σ.2 (r + 1) (k + 1) = -1 then x_ld1 σ r k (x_ldF fb fn σ r k) else x_ldb fb fn (x_ld1 σ r k (x_ldF fb fn σ r k)) r ((k : Int) + 1) := rfl
    rw [e]
    split
    · exact ⟨i1, fun a h => by rw [x_ld1_2 _ _ _ _ a (by omega)]; exact i2 a h⟩
    · exact ⟨i1, fun a h => by rw [x_ldb_2 _ _ _ _ _ a (by omega), x_ld1_2 _ _ _ _ a (by omega)]; exact i2 a h⟩
theorem x_I_ld {fb : Nat → Int} {fn : Int} {σ : fS} {c : Nat} (h : x_I σ) (hc : c < 60) : ∀ k, x_I (x_ldF fb fn σ (12 + 3 * c) k) := by
  intro k
  induction k with
  | zero => exact h
  | succ k ih =>
    have h1 : x_I (x_ld1 σ (12 + 3 * c) k (x_ldF fb fn σ (12 + 3 * c) k)) := by
      refine x_I_p2 (x_I_p2 ih ?_) (show (0 : Int) ≤ 0 ∧ (0 : Int) ≤ 1 by omega)
      split
      · show (0 : Int) ≤ 0 ∧ (0 : Int) ≤ 1; omega
      · show (0 : Int) ≤ 1 ∧ (1 : Int) ≤ 1; omega
    show x_I (if _ then _ else _)
    split
    · exact h1
    · have h2 : x_I (f_p2 (x_ld1 σ (12 + 3 * c) k (x_ldF fb fn σ (12 + 3 * c) k)) 4 ((k : Int) + 1).toNat ((x_ld1 σ (12 + 3 * c) k (x_ldF fb fn σ (12 + 3 * c) k)).2 (12 + 3 * c + 2) ((k : Int) + 1).toNat)) := x_I_p2 h1 ((x_okA_hl c hc _).mp (h1.2 _ _))
      refine ⟨h2.1, fun a b => ?_⟩
      show x_okA a (if _ then _ else _)
      split
      · rename_i g
        rw [g.1]
        exact x_bm _
      · exact h2.2 a b
def x_ldd (fb : Nat → Int) (fn : Int) (σ : fS) (r : Nat) : fS := x_sav (x_ldF fb fn σ r 40) 41
set_option maxRecDepth 100000 in
set_option maxHeartbeats 4000000 in
/-- digits -/
theorem kX_XT_digits (l : Launch) (D : va_G) (cA : Nat → ClassId) (ad : Nat → Nat) (hJ : f_J (xG D cA ad)) (σ : fS) (n : Int) (hn : -2147483648 ≤ n ∧ n ≤ 2147483647) : f_M l (xG D cA ad) (xE (xG D cA ad)) yXT_digits (Cond.code yXT_digits cXT_digits 1 (some .int) :: A9) 0 σ [.int (fI n)] (f_QI (fun v σ1 => v = x_dgs n ∧ σ1 = σ) (xG D cA ad)) := by
  refine f_enter (by decide +kernel) hJ rfl (Nat.le_of_ble_eq_true rfl) ?_
  intro z hzl hR C hRt hLk hEz
  subst hzl
  have hRR : 0 ≤ z.2.2.2.1.frames ∧ 40 * 0 ≤ z.2.2.2.1.locals ∧ 0 ≤ z.2.2.2.1.cells ∧ 0 ≤ z.2.2.2.1.slots := by rw [hR]; exact ⟨Nat.le_refl _, Nat.le_refl _, Nat.zero_le _, Nat.zero_le _⟩
  refine v_iload_n C dXT_digits_0 rfl rfl ?_
  refine v_bipush C dXT_digits_1 (by decide +kernel) ?_
  refine v_icmp_ge (tgt := 10) C dXT_digits_3 (by decide) (by omega) (by omega) (fun hc1 => ?_) (fun hc1 => ?_)
  · refine v_iload_n C dXT_digits_10 rfl rfl ?_
    refine v_bipush C dXT_digits_11 (by decide +kernel) ?_
    refine v_icmp_ge (tgt := 20) C dXT_digits_13 (by decide) (by omega) (by omega) (fun hc2 => ?_) (fun hc2 => ?_)
    · refine v_iconst C dXT_digits_20 ?_
      exact v_iret C hRt hLk dXT_digits_21 ⟨by unfold x_dgs; first | rw [if_pos (by omega)] | rw [if_neg (by omega), if_pos (by omega)] | rw [if_neg (by omega), if_neg (by omega)], rfl⟩
    · refine v_iconst C dXT_digits_16 ?_
      refine v_goto (tgt := 21) C dXT_digits_17 (by decide) ?_
      exact v_iret C hRt hLk dXT_digits_21 ⟨by unfold x_dgs; first | rw [if_pos (by omega)] | rw [if_neg (by omega), if_pos (by omega)] | rw [if_neg (by omega), if_neg (by omega)], rfl⟩
  · refine v_iconst C dXT_digits_6 ?_
    refine v_goto (tgt := 21) C dXT_digits_7 (by decide) ?_
    exact v_iret C hRt hLk dXT_digits_21 ⟨by unfold x_dgs; first | rw [if_pos (by omega)] | rw [if_neg (by omega), if_pos (by omega)] | rw [if_neg (by omega), if_neg (by omega)], rfl⟩
set_option maxRecDepth 100000 in
set_option maxHeartbeats 4000000 in
/-- bytesPlace -/
theorem kX_XT_bytesPlace (l : Launch) (D : va_G) (cA : Nat → ClassId) (ad : Nat → Nat) (hJ : f_J (xG D cA ad)) (σ : fS) (r : Nat) (hr : r + 2 < 383) (hY0 : xY r = .inl (4, 4, fXT r)) (hY1 : xY (r + 1) = .inr (.inl (0, 41))) (hY2 : xY (r + 2) = .inr (.inl (0, 41))) (n : Int) (hn : 1 ≤ n ∧ n ≤ 40) (hl : -1 ≤ σ.2 (r + 2) n.toNat ∧ σ.2 (r + 2) n.toNat ≤ 120) : f_M l (xG D cA ad) (xE (xG D cA ad)) yXT_bytesPlace (Cond.code yXT_bytesPlace cXT_bytesPlace 2 (some .int) :: A9) 1 σ [.ref (ad (r)), .int (fI n)] (f_QI (fun v σ1 => v = x_bp σ r n ∧ σ1 = σ) (xG D cA ad)) := by
  refine f_enter (by decide +kernel) hJ rfl (Nat.le_of_ble_eq_true rfl) ?_
  intro z hzl hR C hRt hLk hEz
  subst hzl
  have hRR : 1 ≤ z.2.2.2.1.frames ∧ 40 * 1 ≤ z.2.2.2.1.locals ∧ 0 ≤ z.2.2.2.1.cells ∧ 0 ≤ z.2.2.2.1.slots := by rw [hR]; exact ⟨Nat.le_refl _, Nat.le_refl _, Nat.zero_le _, Nat.zero_le _⟩
  refine v_aload_n C dXT_bytesPlace_0 rfl rfl ?_
  refine v_getR (k := r) (q := 0) C dXT_bytesPlace_1 (by show (r : Nat) < 383; omega) (hY0) rfl (by decide) rfl inXT lXT_9 rfl ?_
  refine v_iload_n C dXT_bytesPlace_4 rfl rfl ?_
  refine v_iald (k := (r + 1)) (v := σ.2 (r + 1) (n).toNat) C dXT_bytesPlace_5 (by show ((r + 1) : Nat) < 383; omega) (hY1) rfl (by omega) (by decide) rfl ?_
  refine v_iconst C dXT_bytesPlace_6 ?_
  refine v_iadd C dXT_bytesPlace_7 ?_
  refine v_iload_n C dXT_bytesPlace_8 rfl rfl ?_
  refine v_cSI (n := 1) C (xE_ok _) hEz hR (kX_XT_digits _ D cA ad hJ σ (n) (by omega)) dXT_bytesPlace_9 gXT_37 (by decide +kernel) (by decide) (by decide) rfl (Nat.le_of_ble_eq_true rfl) rfl ⟨rfl, rfl⟩ (fun rg1 σg1 hpg1 => ?_)
  obtain ⟨eg1, fg1⟩ := hpg1
  subst σg1
  subst eg1
  have hg1 := x_dgs_r (n)
  refine v_iadd C dXT_bytesPlace_12 ?_
  refine v_aload_n C dXT_bytesPlace_13 rfl rfl ?_
  refine v_getR (k := r) (q := 1) C dXT_bytesPlace_14 (by show (r : Nat) < 383; omega) (hY0) rfl (by decide) rfl inXT lXT_15 rfl ?_
  refine v_iload_n C dXT_bytesPlace_17 rfl rfl ?_
  refine v_iald (k := (r + 2)) (v := σ.2 (r + 2) (n).toNat) C dXT_bytesPlace_18 (by show ((r + 2) : Nat) < 383; omega) (hY2) rfl (by omega) (by decide) rfl ?_
  refine v_cSI (n := 1) C (xE_ok _) hEz hR (kX_XT_digits _ D cA ad hJ σ (σ.2 (r + 2) (n).toNat) (by omega)) dXT_bytesPlace_19 gXT_37 (by decide +kernel) (by decide) (by decide) rfl (Nat.le_of_ble_eq_true rfl) rfl ⟨rfl, rfl⟩ (fun rg2 σg2 hpg2 => ?_)
  obtain ⟨eg2, fg2⟩ := hpg2
  subst σg2
  subst eg2
  have hg2 := x_dgs_r (σ.2 (r + 2) (n).toNat)
  refine v_iadd C dXT_bytesPlace_22 ?_
  exact v_iret C hRt hLk dXT_bytesPlace_23 ⟨rfl, rfl⟩
set_option maxRecDepth 100000 in
set_option maxHeartbeats 4000000 in
/-- loadBytes -/
theorem kX_XS_loadBytes (l : Launch) (D : va_G) (cA : Nat → ClassId) (ad : Nat → Nat) (hJ : f_J (xG D cA ad)) (σ : fS) (r : Nat) (hr : r + 2 < 383) (hY0 : xY r = .inl (4, 4, fXT r)) (hY1 : xY (r + 1) = .inr (.inl (0, 41))) (hY2 : xY (r + 2) = .inr (.inl (0, 41))) (n : Int) (hn : 1 ≤ n ∧ n ≤ 40) (fb : Nat → Int) (fn : Int) (hfb : σ.2 9 = fb) (hfn : σ.1 8 1 = fn) (hn0 : 0 ≤ fn ∧ fn ≤ 12000) (hb9 : ∀ i, -128 ≤ fb i ∧ fb i ≤ 127) (hp : -2 ≤ σ.2 (r + 1) n.toNat ∧ σ.2 (r + 1) n.toNat ≤ 99999) (hl : 0 ≤ σ.2 (r + 2) n.toNat ∧ σ.2 (r + 2) n.toNat ≤ 120) : f_M l (xG D cA ad) (xE (xG D cA ad)) yXS_loadBytes (Cond.code yXS_loadBytes cXS_loadBytes 7 none :: A9) 2 σ [.ref (ad 1), .int (fI n), .ref (ad 8), .ref (ad (r))] (f_QV (fun σ1 => σ1 = x_ldb fb fn σ r n) (xG D cA ad)) := by
  refine f_enter (by decide +kernel) hJ rfl (Nat.le_of_ble_eq_true rfl) ?_
  intro z hzl hR C hRt hLk hEz
  subst hzl
  have hRR : 2 ≤ z.2.2.2.1.frames ∧ 40 * 2 ≤ z.2.2.2.1.locals ∧ 0 ≤ z.2.2.2.1.cells ∧ 0 ≤ z.2.2.2.1.slots := by rw [hR]; exact ⟨Nat.le_refl _, Nat.le_refl _, Nat.zero_le _, Nat.zero_le _⟩
  obtain ⟨B, hB⟩ : ∃ s, s = f_p2 σ 4 n.toNat (σ.2 (r + 2) n.toNat) := ⟨_, rfl⟩
  have hBb : B.2 9 = fb := by rw [hB]; funext b; rw [p2_2, if_neg (by omega), hfb]
  have hBn : B.1 8 1 = fn := by rw [hB]; exact hfn
  have hbp1 : x_bp σ r n = σ.2 (r + 1) n.toNat + 4 + x_dgs n + x_dgs (σ.2 (r + 2) n.toNat) := rfl
  have hd1 := x_dgs_r n
  have hd2 := x_dgs_r (σ.2 (r + 2) n.toNat)
  have L : ∀ (m k : Nat), m + k = (σ.2 (r + 2) n.toNat).toNat → fv z (xG D cA ad) 7 (f_R z (xG D cA ad) (f_QV (fun σ1 => σ1 = x_ldb fb fn σ r n) (xG D cA ad))) 0 0 (x_ldk fb fn B n (x_bp σ r n) k) 26 [some (.ref (ad 1)), some (.int (fI n)), some (.ref (ad 8)), some (.ref (ad r)), some (.int (fI (σ.2 (r + 2) n.toNat))), some (.int (fI (x_bp σ r n))), some (.int (fI (k : Int)))] [] := by
    intro m
    induction m with
    | zero =>
      intro k hk
      obtain rfl : k = (σ.2 (r + 2) n.toNat).toNat := by omega
      refine v_iload C dXS_loadBytes_26 rfl ?_
      refine v_iload C dXS_loadBytes_28 rfl ?_
      refine v_icmp_ge (tgt := 61) C dXS_loadBytes_30 (by decide) (by omega) (by omega) (fun hc1 => ?_) (fun hc1 => ?_)
      · exact v_vret C hRt hLk dXS_loadBytes_61 (by rw [hB]; rfl)
      · exfalso; omega
    | succ m ih =>
      intro k hk
      have hKb : (x_ldk fb fn B n (x_bp σ r n) k).2 9 = fb := by rw [x_ldk_o _ _ _ _ _ _ 9 (by omega)]; exact hBb
      refine v_iload C dXS_loadBytes_26 rfl ?_
      refine v_iload C dXS_loadBytes_28 rfl ?_
      refine v_icmp_ge (tgt := 61) C dXS_loadBytes_30 (by decide) (by omega) (by omega) (fun hc2 => ?_) (fun hc2 => ?_)
      · exfalso; omega
      · refine v_aload_n C dXS_loadBytes_33 rfl rfl ?_
        refine v_getR (k := 1) (q := 3) C dXS_loadBytes_34 (by show (1 : Nat) < 383; decide) rfl rfl (by decide) rfl inXS lXS_22 rfl ?_
        refine v_iload_n C dXS_loadBytes_37 rfl rfl ?_
        refine v_bipush C dXS_loadBytes_38 (by decide +kernel) ?_
        refine v_imul C dXS_loadBytes_40 ?_
        refine v_iload C dXS_loadBytes_41 rfl ?_
        refine v_iadd C dXS_loadBytes_43 ?_
        refine v_aload_n C dXS_loadBytes_44 rfl rfl ?_
        refine v_iload C dXS_loadBytes_45 rfl ?_
        refine v_iload C dXS_loadBytes_47 rfl ?_
        refine v_iadd C dXS_loadBytes_49 ?_
        refine v_cVI (k := 8) (n := 1) C (xE_ok _) hEz hR (kX_XF_valueAtF _ D cA ad hJ (x_ldk fb fn B n (x_bp σ r n) k) (x_bp σ r n + (k : Int)) (by omega) fb fn hKb hBn hn0 hb9) dXS_loadBytes_50 (by show (8 : Nat) < 383; decide) rfl rfl gXS_65 (by decide +kernel) (by decide) (by decide) rfl (Nat.le_of_ble_eq_true rfl) rfl ⟨rfl, rfl⟩ (fun rb σb hpb => ?_)
        obtain ⟨eb, fbb⟩ := hpb
        subst σb
        subst eb
        refine v_i2b C dXS_loadBytes_53 ?_
        have hbm := x_bm (q_va fb fn (x_bp σ r n + (k : Int)))
        refine v_bast (k := 5) C dXS_loadBytes_54 (by show (5 : Nat) < 383; decide) rfl rfl (by omega) (by decide) (by omega) ?_
        refine v_iinc C dXS_loadBytes_55 rfl (by decide) ?_
        refine v_goto (tgt := 26) C dXS_loadBytes_58 (by decide) ?_
        exact v_st (x_ldk_s fb fn B n (x_bp σ r n) k (by omega)) (ih (k + 1) (by omega))
  refine v_aload_n C dXS_loadBytes_0 rfl rfl ?_
  refine v_getR (k := r) (q := 1) C dXS_loadBytes_1 (by show (r : Nat) < 383; omega) (hY0) rfl (by decide) rfl inXT lXS_60 rfl ?_
  refine v_iload_n C dXS_loadBytes_4 rfl rfl ?_
  refine v_iald (k := (r + 2)) (v := σ.2 (r + 2) (n).toNat) C dXS_loadBytes_5 (by show ((r + 2) : Nat) < 383; omega) (hY2) rfl (by omega) (by decide) rfl ?_
  refine v_istore C dXS_loadBytes_6 (by decide) ?_
  refine v_aload_n C dXS_loadBytes_8 rfl rfl ?_
  refine v_iload_n C dXS_loadBytes_9 rfl rfl ?_
  refine v_cVI (k := r) (n := 1) C (xE_ok _) hEz hR (kX_XT_bytesPlace _ D cA ad hJ σ r hr hY0 hY1 hY2 n hn (by omega)) dXS_loadBytes_10 (by show (r : Nat) < 383; omega) (hY0) rfl gXS_61 (by decide +kernel) (by decide) (by decide) rfl (Nat.le_of_ble_eq_true rfl) rfl ⟨rfl, rfl⟩ (fun rp σp hpp => ?_)
  obtain ⟨ep, fp⟩ := hpp
  subst σp
  subst ep
  have hbp1 : x_bp σ r n = σ.2 (r + 1) n.toNat + 4 + x_dgs n + x_dgs (σ.2 (r + 2) n.toNat) := rfl
  have hd1 := x_dgs_r n
  have hd2 := x_dgs_r (σ.2 (r + 2) n.toNat)
  refine v_istore C dXS_loadBytes_13 (by decide) ?_
  refine v_aload_n C dXS_loadBytes_15 rfl rfl ?_
  refine v_getR (k := 1) (q := 2) C dXS_loadBytes_16 (by show (1 : Nat) < 383; decide) rfl rfl (by decide) rfl inXS lXS_18 rfl ?_
  refine v_iload_n C dXS_loadBytes_19 rfl rfl ?_
  refine v_iload C dXS_loadBytes_20 rfl ?_
  refine v_iast (k := 4) C dXS_loadBytes_22 (by show (4 : Nat) < 383; decide) rfl rfl (by omega) (by decide) ?_
  refine v_iconst C dXS_loadBytes_23 ?_
  refine v_istore C dXS_loadBytes_24 (by decide) ?_
  exact v_st (by rw [← hB]; exact x_ldk_0 fb fn B n (x_bp σ r n)) (v_lv rfl (L (σ.2 (r + 2) n.toNat).toNat 0 (by omega)))
set_option maxRecDepth 100000 in
set_option maxHeartbeats 4000000 in
/-- load -/
theorem kX_XS_load (l : Launch) (D : va_G) (cA : Nat → ClassId) (ad : Nat → Nat) (hJ : f_J (xG D cA ad)) (σ : fS) (r : Nat) (hr : r + 2 < 383) (hY0 : xY r = .inl (4, 4, fXT r)) (hY1 : xY (r + 1) = .inr (.inl (0, 41))) (hY2 : xY (r + 2) = .inr (.inl (0, 41))) (hr3 : 9 < r) (fb : Nat → Int) (fn : Int) (hfb : σ.2 9 = fb) (hfn : σ.1 8 1 = fn) (hn0 : 0 ≤ fn ∧ fn ≤ 12000) (hb9 : ∀ i, -128 ≤ fb i ∧ fb i ≤ 127) (hbp : ∀ i, -2 ≤ σ.2 (r + 1) i ∧ σ.2 (r + 1) i ≤ 99999) (hbl : ∀ i, 0 ≤ σ.2 (r + 2) i ∧ σ.2 (r + 2) i ≤ 120) (hI40 : ∀ k, x_I (x_ldF fb fn σ r k)) : f_M l (xG D cA ad) (xE (xG D cA ad)) yXS_load (Cond.code yXS_load cXS_load 4 none :: A9) 3 σ [.ref (ad 1), .ref (ad 8), .ref (ad (r))] (f_QV (fun σ1 => σ1 = x_ldd fb fn σ r) (xG D cA ad)) := by
  refine f_enter (by decide +kernel) hJ rfl (Nat.le_of_ble_eq_true rfl) ?_
  intro z hzl hR C hRt hLk hEz
  subst hzl
  have hRR : 3 ≤ z.2.2.2.1.frames ∧ 40 * 3 ≤ z.2.2.2.1.locals ∧ 0 ≤ z.2.2.2.1.cells ∧ 0 ≤ z.2.2.2.1.slots := by rw [hR]; exact ⟨Nat.le_refl _, Nat.le_refl _, Nat.zero_le _, Nat.zero_le _⟩
  have L : ∀ (m k : Nat), m + k = 40 → fv z (xG D cA ad) 4 (f_R z (xG D cA ad) (f_QV (fun σ1 => σ1 = x_ldd fb fn σ r) (xG D cA ad))) 0 0 (x_ldF fb fn σ r k) 2 [some (.ref (ad 1)), some (.ref (ad 8)), some (.ref (ad r)), some (.int (fI ((k : Int) + 1)))] [] := by
    intro m
    induction m with
    | zero =>
      intro k hk
      obtain ⟨o1, o2⟩ := x_ldF_o fb fn σ r k
      obtain ⟨B, hB⟩ : ∃ s, s = x_ldF fb fn σ r k := ⟨_, rfl⟩
      rw [← hB] at o1 o2 ⊢
      obtain rfl : k = 40 := by omega
      refine v_iload_n C dXS_load_2 rfl rfl ?_
      refine v_bipush C dXS_load_3 (by decide +kernel) ?_
      refine v_icmp_gt (tgt := 58) C dXS_load_5 (by decide) (by omega) (by omega) (fun hc1 => ?_) (fun hc1 => ?_)
      · refine v_aload_n C dXS_load_58 rfl rfl ?_
        refine v_cVV (k := 1) (n := 0) C (xE_ok _) hEz hR (kX_XS_save _ D cA ad hJ B (fun i => by rw [hB]; exact (hI40 40).2 2 i)) dXS_load_59 (by show (1 : Nat) < 383; decide) rfl rfl gXS_57 (by decide +kernel) (by decide) (by decide) rfl (Nat.le_of_ble_eq_true rfl) rfl ⟨rfl, rfl⟩ (fun σ1 hp1 => ?_)
        subst σ1
        exact v_vret C hRt hLk dXS_load_62 (by rw [hB]; rfl)
      · exfalso; omega
    | succ m ih =>
      intro k hk
      obtain ⟨o1, o2⟩ := x_ldF_o fb fn σ r k
      obtain ⟨B, hB⟩ : ∃ s, s = x_ldF fb fn σ r k := ⟨_, rfl⟩
      rw [← hB] at o1 o2 ⊢
      have hkt : ((k : Int) + 1).toNat = k + 1 := by omega
      have hpl : B.2 (r + 1) ((k : Int) + 1).toNat = σ.2 (r + 1) (k + 1) := by rw [hkt, o2 (r + 1) (by omega)]
      have hLb : (x_ld1 σ r k B).2 9 = fb := by rw [x_ld1_2 _ _ _ _ 9 (by omega), o2 9 (by omega)]; exact hfb
      have hLn : (x_ld1 σ r k B).1 8 1 = fn := by show B.1 8 1 = _; rw [o1]; exact hfn
      have hLp : (x_ld1 σ r k B).2 (r + 1) = σ.2 (r + 1) := by rw [x_ld1_2 _ _ _ _ _ (by omega), o2 _ (by omega)]
      have hLl : (x_ld1 σ r k B).2 (r + 2) = σ.2 (r + 2) := by rw [x_ld1_2 _ _ _ _ _ (by omega), o2 _ (by omega)]
      have hpr := hbp (k + 1)
      have hs : ∀ s : fS, (σ.2 (r + 1) (k + 1) = -1 ∧ s = x_ld1 σ r k B) ∨ (σ.2 (r + 1) (k + 1) ≠ -1 ∧ s = x_ldb fb fn (x_ld1 σ r k B) r ((k : Int) + 1)) → s = x_ldF fb fn σ r (k + 1) := fun s h => by
          show s = if σ.2 (r + 1) (k + 1) = -1 then x_ld1 σ r k (x_ldF fb fn σ r k) else x_ldb fb fn (x_ld1 σ r k (x_ldF fb fn σ r k)) r ((k : Int) + 1)
          rw [← hB]
          rcases h with ⟨h1, h2⟩ | ⟨h1, h2⟩
          · rw [if_pos h1]; exact h2
          · rw [if_neg h1]; exact h2
      refine v_iload_n C dXS_load_2 rfl rfl ?_
      refine v_bipush C dXS_load_3 (by decide +kernel) ?_
      refine v_icmp_gt (tgt := 58) C dXS_load_5 (by decide) (by omega) (by omega) (fun hc2 => ?_) (fun hc2 => ?_)
      · exfalso; omega
      · refine v_aload_n C dXS_load_8 rfl rfl ?_
        refine v_getR (k := 1) (q := 0) C dXS_load_9 (by show (1 : Nat) < 383; decide) rfl rfl (by decide) rfl inXS lXS_9 rfl ?_
        refine v_iload_n C dXS_load_12 rfl rfl ?_
        refine v_aload_n C dXS_load_13 rfl rfl ?_
        refine v_getR (k := r) (q := 0) C dXS_load_14 (by show (r : Nat) < 383; omega) (hY0) rfl (by decide) rfl inXT lXS_48 rfl ?_
        refine v_iload_n C dXS_load_17 rfl rfl ?_
        refine v_iald (k := (r + 1)) (v := σ.2 (r + 1) (k + 1)) C dXS_load_18 (by show ((r + 1) : Nat) < 383; omega) (hY1) rfl (by omega) (by decide) hpl ?_
        refine v_iconst C dXS_load_19 ?_
        refine v_icmp_eq (tgt := 27) C dXS_load_20 (by decide) (by omega) (by omega) (fun hc3 => ?_) (fun hc3 => ?_)
        · refine v_iconst C dXS_load_27 ?_
          refine v_zast (k := 2) C dXS_load_28 (by show (2 : Nat) < 383; decide) rfl rfl (by omega) (by decide) (by omega) ?_
          refine v_aload_n C dXS_load_29 rfl rfl ?_
          refine v_getR (k := 1) (q := 1) C dXS_load_30 (by show (1 : Nat) < 383; decide) rfl rfl (by decide) rfl inXS lXS_15 rfl ?_
          refine v_iload_n C dXS_load_33 rfl rfl ?_
          refine v_iconst C dXS_load_34 ?_
          refine v_zast (k := 3) C dXS_load_35 (by show (3 : Nat) < 383; decide) rfl rfl (by omega) (by decide) (by omega) ?_
          refine v_st (σ1 := x_ld1 σ r k B) (by unfold x_ld1; rw [hkt]; first | rw [if_pos (by omega)] | rw [if_neg (by omega)]) ?_
          refine v_aload_n C dXS_load_36 rfl rfl ?_
          refine v_getR (k := 1) (q := 0) C dXS_load_37 (by show (1 : Nat) < 383; decide) rfl rfl (by decide) rfl inXS lXS_9 rfl ?_
          refine v_iload_n C dXS_load_40 rfl rfl ?_
          refine v_zald (k := 2) (v := 0) C dXS_load_41 (by show (2 : Nat) < 383; decide) rfl rfl (by omega) (by decide) (by rw [hkt]; show (f_p2 (f_p2 B 2 (k + 1) _) 3 (k + 1) 0).2 2 (k + 1) = _; rw [p2_2, if_neg (by omega), p2_2, if_pos ⟨rfl, rfl⟩]; first | rw [if_pos (by omega)] | rw [if_neg (by omega)]) ?_
          refine v_if_eq (tgt := 52) C dXS_load_42 (by decide) (by omega) (fun hc4 => ?_) (fun hc4 => ?_)
          · refine v_iinc C dXS_load_52 rfl (by decide) ?_
            refine v_goto (tgt := 2) C dXS_load_55 (by decide) ?_
            exact v_st (hs _ (by first | exact Or.inl ⟨by omega, rfl⟩ | exact Or.inr ⟨by omega, rfl⟩)) (ih (k + 1) (by omega))
          · exfalso; omega
        · refine v_iconst C dXS_load_23 ?_
          refine v_goto (tgt := 28) C dXS_load_24 (by decide) ?_
          refine v_zast (k := 2) C dXS_load_28 (by show (2 : Nat) < 383; decide) rfl rfl (by omega) (by decide) (by omega) ?_
          refine v_aload_n C dXS_load_29 rfl rfl ?_
          refine v_getR (k := 1) (q := 1) C dXS_load_30 (by show (1 : Nat) < 383; decide) rfl rfl (by decide) rfl inXS lXS_15 rfl ?_
          refine v_iload_n C dXS_load_33 rfl rfl ?_
          refine v_iconst C dXS_load_34 ?_
          refine v_zast (k := 3) C dXS_load_35 (by show (3 : Nat) < 383; decide) rfl rfl (by omega) (by decide) (by omega) ?_
          refine v_st (σ1 := x_ld1 σ r k B) (by unfold x_ld1; rw [hkt]; first | rw [if_pos (by omega)] | rw [if_neg (by omega)]) ?_
          refine v_aload_n C dXS_load_36 rfl rfl ?_
          refine v_getR (k := 1) (q := 0) C dXS_load_37 (by show (1 : Nat) < 383; decide) rfl rfl (by decide) rfl inXS lXS_9 rfl ?_
          refine v_iload_n C dXS_load_40 rfl rfl ?_
          refine v_zald (k := 2) (v := 1) C dXS_load_41 (by show (2 : Nat) < 383; decide) rfl rfl (by omega) (by decide) (by rw [hkt]; show (f_p2 (f_p2 B 2 (k + 1) _) 3 (k + 1) 0).2 2 (k + 1) = _; rw [p2_2, if_neg (by omega), p2_2, if_pos ⟨rfl, rfl⟩]; first | rw [if_pos (by omega)] | rw [if_neg (by omega)]) ?_
          refine v_if_eq (tgt := 52) C dXS_load_42 (by decide) (by omega) (fun hc5 => ?_) (fun hc5 => ?_)
          · exfalso; omega
          · refine v_aload_n C dXS_load_45 rfl rfl ?_
            refine v_iload_n C dXS_load_46 rfl rfl ?_
            refine v_aload_n C dXS_load_47 rfl rfl ?_
            refine v_aload_n C dXS_load_48 rfl rfl ?_
            refine v_cVV (k := 1) (n := 3) C (xE_ok _) hEz hR (kX_XS_loadBytes _ D cA ad hJ (x_ld1 σ r k B) r hr hY0 hY1 hY2 ((k : Int) + 1) (by omega) fb fn hLb hLn hn0 hb9 (by rw [hkt, hLp]; exact hbp _) (by rw [hkt, hLl]; exact hbl _)) dXS_load_49 (by show (1 : Nat) < 383; decide) rfl rfl gXS_53 (by decide +kernel) (by decide) (by decide) rfl (Nat.le_of_ble_eq_true rfl) rfl ⟨rfl, rfl⟩ (fun σ1 hp1 => ?_)
            subst σ1
            refine v_iinc C dXS_load_52 rfl (by decide) ?_
            refine v_goto (tgt := 2) C dXS_load_55 (by decide) ?_
            exact v_st (hs _ (by first | exact Or.inl ⟨by omega, rfl⟩ | exact Or.inr ⟨by omega, rfl⟩)) (ih (k + 1) (by omega))
  refine v_iconst C dXS_load_0 ?_
  refine v_istore_n C dXS_load_1 rfl (by decide) ?_
  exact v_lv rfl (L 40 0 (by omega))
