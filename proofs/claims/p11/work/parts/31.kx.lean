section XSW
variable {z : fZ} {G : fG} {cc : ByteArray} {nL : Nat} {own : String} {Q : State → Prop} {kc ks : Nat} {σ : fS} {pc : Nat} {lv : List (Option Value)} {st : List Value}
theorem v_tIn (C : fc z G cc nL own) {dflt lo hi off x : Int} {offs : Array Int} {len tgt : Nat} (d : decode cc pc = .ok (.tableswitch dflt lo hi offs, len)) (hx : -2147483648 ≤ x ∧ x ≤ 2147483647) (h1 : lo ≤ x) (h2 : x ≤ hi) (ho : offs[(x - lo).toNat]? = some off) (ht : (pc : Int) + off = (tgt : Int)) (kk : fv z G nL Q kc ks σ tgt lv st) : fv z G nL Q kc ks σ pc lv (.int (fI x) :: st) :=
  fun H locs ls hP hS hl => lv_tableIn C.1 C.2.1 d (by rw [fI_toInt hx.1 hx.2]; omega) (by rw [fI_toInt hx.1 hx.2]; omega) (by rw [fI_toInt hx.1 hx.2]; exact ho) ht (kk H locs ls hP hS hl)
theorem v_tOut (C : fc z G cc nL own) {dflt lo hi x : Int} {offs : Array Int} {len tgt : Nat} (d : decode cc pc = .ok (.tableswitch dflt lo hi offs, len)) (hx : -2147483648 ≤ x ∧ x ≤ 2147483647) (h1 : x < lo ∨ hi < x) (ht : (pc : Int) + dflt = (tgt : Int)) (kk : fv z G nL Q kc ks σ tgt lv st) : fv z G nL Q kc ks σ pc lv (.int (fI x) :: st) :=
  fun H locs ls hP hS hl => lv_tableOut C.1 C.2.1 d (by rw [fI_toInt hx.1 hx.2]; exact h1) ht (kk H locs ls hP hS hl)
end XSW
/-- a table's rows are set anew -/
def x_reset (σ : fS) (r : Nat) (v : Int) : fS := x_fill (x_fill σ (r + 1) 0 41 v) (r + 2) 0 41 0
/-- a part's rows are laid over a table's, those of the objects below k -/
def x_layk (σ : fS) (r p k : Nat) : fS := (σ.1, fun a b => if (1 ≤ b ∧ b < k) ∧ σ.2 (p + 1) b ≠ -2 then (if a = r + 1 then σ.2 (p + 1) b else if a = r + 2 then σ.2 (p + 2) b else σ.2 a b) else σ.2 a b)
def x_lay (σ : fS) (r p : Nat) : fS := f_p1 (f_p1 (x_layk σ r p 41) r 2 (σ.1 p 2)) r 3 (σ.1 p 3)
theorem x_layk_o (σ : fS) (r p k a b : Nat) (h : a ≠ r + 1 ∧ a ≠ r + 2) : (x_layk σ r p k).2 a b = σ.2 a b := by
  show (if (1 ≤ b ∧ b < k) ∧ σ.2 (p + 1) b ≠ -2 then (if a = r + 1 then σ.2 (p + 1) b else if a = r + 2 then σ.2 (p + 2) b else σ.2 a b) else σ.2 a b) = _
  rw [if_neg h.1, if_neg h.2]
  split <;> rfl
theorem x_layk_1 (σ : fS) (r p : Nat) : σ = x_layk σ r p 1 := fS_ext (fun _ _ => rfl) (fun a b => by show _ = if (1 ≤ b ∧ b < 1) ∧ _ then _ else σ.2 a b; rw [if_neg (by omega)])
theorem x_layk_n (σ : fS) (r p k : Nat) (h : σ.2 (p + 1) k = -2) : x_layk σ r p k = x_layk σ r p (k + 1) := by
  refine fS_ext (fun _ _ => rfl) (fun a b => ?_)
  show (if (1 ≤ b ∧ b < k) ∧ σ.2 (p + 1) b ≠ -2 then _ else σ.2 a b) = if (1 ≤ b ∧ b < k + 1) ∧ σ.2 (p + 1) b ≠ -2 then _ else σ.2 a b
  by_cases hb : b = k
  · subst hb; rw [if_neg (by omega), if_neg (by omega)]
  · by_cases h9 : (1 ≤ b ∧ b < k) ∧ σ.2 (p + 1) b ≠ -2
    · rw [if_pos h9, if_pos (show (1 ≤ b ∧ b < k + 1) ∧ σ.2 (p + 1) b ≠ -2 from ⟨by omega, h9.2⟩)]
    · rw [if_neg h9, if_neg (show ¬ ((1 ≤ b ∧ b < k + 1) ∧ σ.2 (p + 1) b ≠ -2) by omega)]
theorem x_layk_s (σ : fS) (r p k : Nat) (hk : 1 ≤ k) (h : σ.2 (p + 1) k ≠ -2) : f_p2 (f_p2 (x_layk σ r p k) (r + 1) k (σ.2 (p + 1) k)) (r + 2) k (σ.2 (p + 2) k) = x_layk σ r p (k + 1) := by
  refine fS_ext (fun _ _ => rfl) (fun a b => ?_)
  rw [p2_2, p2_2]
  show _ = if (1 ≤ b ∧ b < k + 1) ∧ σ.2 (p + 1) b ≠ -2 then (if a = r + 1 then σ.2 (p + 1) b else if a = r + 2 then σ.2 (p + 2) b else σ.2 a b) else σ.2 a b
  by_cases hb : b = k
  · subst hb
    rw [if_pos (show (1 ≤ b ∧ b < b + 1) ∧ σ.2 (p + 1) b ≠ -2 from ⟨by omega, h⟩)]
    by_cases g2 : a = r + 2
    · subst g2; rw [if_pos ⟨rfl, rfl⟩, if_neg (by omega), if_pos rfl]
    · rw [if_neg (by omega)]
      by_cases g1 : a = r + 1
      · subst g1; rw [if_pos ⟨rfl, rfl⟩, if_pos rfl]
      · rw [if_neg (by omega), if_neg g1, if_neg g2]
        exact x_layk_o σ r p b a b ⟨g1, g2⟩
  · rw [if_neg (by omega), if_neg (by omega)]
    show (if (1 ≤ b ∧ b < k) ∧ σ.2 (p + 1) b ≠ -2 then (if a = r + 1 then σ.2 (p + 1) b else if a = r + 2 then σ.2 (p + 2) b else σ.2 a b) else σ.2 a b) = _
    by_cases h9 : (1 ≤ b ∧ b < k) ∧ σ.2 (p + 1) b ≠ -2
    · rw [if_pos h9, if_pos (show (1 ≤ b ∧ b < k + 1) ∧ σ.2 (p + 1) b ≠ -2 from ⟨by omega, h9.2⟩)]
    · rw [if_neg h9, if_neg (show ¬ ((1 ≤ b ∧ b < k + 1) ∧ σ.2 (p + 1) b ≠ -2) by omega)]
/-- whether a table has a row of object i -/
def x_has (σ : fS) (r i : Nat) : Int := if σ.2 (r + 1) i = -2 then 0 else 1
/-- rows of another table are copied -/
def x_copy (σ : fS) (r o : Nat) : fS := f_pa (f_pa σ (r + 1) (fun q => if (0 : Int).toNat ≤ q ∧ q < (0 : Int).toNat + (41 : Int).toNat then σ.2 (o + 1) ((0 : Int).toNat + (q - (0 : Int).toNat)) else σ.2 (r + 1) q)) (r + 2) (fun q => if (0 : Int).toNat ≤ q ∧ q < (0 : Int).toNat + (41 : Int).toNat then σ.2 (o + 2) ((0 : Int).toNat + (q - (0 : Int).toNat)) else σ.2 (r + 2) q)
/-- the history takes a part -/
def x_add (σ : fS) (p : Nat) : fS := f_p1 (x_lay (if σ.1 10 1 = 0 then x_reset σ 12 (-1) else x_copy σ (12 + 3 * (σ.1 10 1).toNat) (12 + 3 * (σ.1 10 1 - 1).toNat)) (12 + 3 * (σ.1 10 1).toNat) p) 10 1 (σ.1 10 1 + 1)
set_option maxRecDepth 100000 in
set_option maxHeartbeats 4000000 in
/-- reset -/
theorem kX_XT_reset (l : Launch) (D : va_G) (cA : Nat → ClassId) (ad : Nat → Nat) (hJ : f_J (xG D cA ad)) (σ : fS) (r : Nat) (hr : r + 2 < 383) (hY0 : xY r = .inl (4, 4, fXT r)) (hY1 : xY (r + 1) = .inr (.inl (0, 41))) (hY2 : xY (r + 2) = .inr (.inl (0, 41))) (v : Int) : f_M l (xG D cA ad) (xE (xG D cA ad)) yXT_reset (Cond.code yXT_reset cXT_reset 2 none :: A9) 1 σ [.ref (ad (r)), .int (fI v)] (f_QV (fun σ1 => σ1 = x_reset σ r v) (xG D cA ad)) := by
  refine f_enter (by decide +kernel) hJ rfl (Nat.le_of_ble_eq_true rfl) ?_
  intro z hzl hR C hRt hLk hEz
  subst hzl
  have hRR : 1 ≤ z.2.2.2.1.frames ∧ 40 * 1 ≤ z.2.2.2.1.locals ∧ 0 ≤ z.2.2.2.1.cells ∧ 0 ≤ z.2.2.2.1.slots := by rw [hR]; exact ⟨Nat.le_refl _, Nat.le_refl _, Nat.zero_le _, Nat.zero_le _⟩
  refine v_aload_n C dXT_reset_0 rfl rfl ?_
  refine v_getR (k := r) (q := 0) C dXT_reset_1 (by show (r : Nat) < 383; omega) (hY0) rfl (by decide) rfl inXT lXT_9 rfl ?_
  refine v_iload_n C dXT_reset_4 rfl rfl ?_
  refine v_cSV (n := 2) C (xE_ok _) hEz hR (kX_XJ_fillI _ D cA ad hJ _ (r + 1) 41 (v) (by omega) (hY1) (by decide)) dXT_reset_5 gXT_18 (by decide +kernel) (by decide) (by decide) rfl (Nat.le_of_ble_eq_true rfl) rfl ⟨rfl, rfl⟩ (fun σ1 hp1 => ?_)
  subst σ1
  refine v_aload_n C dXT_reset_8 rfl rfl ?_
  refine v_getR (k := r) (q := 1) C dXT_reset_9 (by show (r : Nat) < 383; omega) (hY0) rfl (by decide) rfl inXT lXT_15 rfl ?_
  refine v_iconst C dXT_reset_12 ?_
  refine v_cSV (n := 2) C (xE_ok _) hEz hR (kX_XJ_fillI _ D cA ad hJ _ (r + 2) 41 (0) (by omega) (hY2) (by decide)) dXT_reset_13 gXT_18 (by decide +kernel) (by decide) (by decide) rfl (Nat.le_of_ble_eq_true rfl) rfl ⟨rfl, rfl⟩ (fun σ1 hp1 => ?_)
  subst σ1
  exact v_vret C hRt hLk dXT_reset_16 rfl
set_option maxRecDepth 100000 in
set_option maxHeartbeats 4000000 in
/-- countRows -/
theorem kX_XT_countRows (l : Launch) (D : va_G) (cA : Nat → ClassId) (ad : Nat → Nat) (hJ : f_J (xG D cA ad)) (σ : fS) (r : Nat) (hr : r + 2 < 383) (hY0 : xY r = .inl (4, 4, fXT r)) (hY1 : xY (r + 1) = .inr (.inl (0, 41))) (hY2 : xY (r + 2) = .inr (.inl (0, 41))) (hb : ∀ i, -2 ≤ σ.2 (r + 1) i ∧ σ.2 (r + 1) i ≤ 99999) : f_M l (xG D cA ad) (xE (xG D cA ad)) yXT_countRows (Cond.code yXT_countRows cXT_countRows 3 (some .int) :: A9) 0 σ [.ref (ad (r))] (f_QI (fun r1 σ1 => r1 = m_cnt (x_has σ r) 40 ∧ σ1 = σ) (xG D cA ad)) := by
  refine f_enter (by decide +kernel) hJ rfl (Nat.le_of_ble_eq_true rfl) ?_
  intro z hzl hR C hRt hLk hEz
  subst hzl
  have hRR : 0 ≤ z.2.2.2.1.frames ∧ 40 * 0 ≤ z.2.2.2.1.locals ∧ 0 ≤ z.2.2.2.1.cells ∧ 0 ≤ z.2.2.2.1.slots := by rw [hR]; exact ⟨Nat.le_refl _, Nat.le_refl _, Nat.zero_le _, Nat.zero_le _⟩
  have L : ∀ (m k : Nat), m + k = 40 → fv z (xG D cA ad) 3 (f_R z (xG D cA ad) (f_QI (fun r1 σ1 => r1 = m_cnt (x_has σ r) 40 ∧ σ1 = σ) (xG D cA ad))) 0 0 σ 4 [some (.ref (ad r)), some (.int (fI (m_cnt (x_has σ r) k))), some (.int (fI ((k : Int) + 1)))] [] := by
    intro m
    induction m with
    | zero =>
      intro k hk
      have hcl := m_cnt_le (x_has σ r) k
      have hk40 : k = 40 := by omega
      subst hk40
      refine v_iload_n C dXT_countRows_4 rfl rfl ?_
      refine v_bipush C dXT_countRows_5 (by decide +kernel) ?_
      refine v_icmp_gt (tgt := 30) C dXT_countRows_7 (by decide) (by omega) (by omega) (fun hc1 => ?_) (fun hc1 => ?_)
      · refine v_iload_n C dXT_countRows_30 rfl rfl ?_
        exact v_iret C hRt hLk dXT_countRows_31 ⟨rfl, rfl⟩
      · exfalso; omega
    | succ m ih =>
      intro k hk
      have hcl := m_cnt_le (x_has σ r) k
      have hkt : ((k : Int) + 1).toNat = k + 1 := by omega
      have hcs : m_cnt (x_has σ r) (k + 1) = m_cnt (x_has σ r) k + (if (x_has σ r) (k + 1) = 1 then 1 else 0) := rfl
      have hkx : σ.2 (r + 1) ((k : Int) + 1).toNat = σ.2 (r + 1) (k + 1) := by rw [hkt]
      have hbb := hb (k + 1)
      have hxd : x_has σ r (k + 1) = if σ.2 (r + 1) (k + 1) = -2 then 0 else 1 := rfl
      refine v_iload_n C dXT_countRows_4 rfl rfl ?_
      refine v_bipush C dXT_countRows_5 (by decide +kernel) ?_
      refine v_icmp_gt (tgt := 30) C dXT_countRows_7 (by decide) (by omega) (by omega) (fun hc2 => ?_) (fun hc2 => ?_)
      · exfalso; omega
      · refine v_aload_n C dXT_countRows_10 rfl rfl ?_
        refine v_getR (k := r) (q := 0) C dXT_countRows_11 (by show (r : Nat) < 383; omega) (hY0) rfl (by decide) rfl inXT lXT_9 rfl ?_
        refine v_iload_n C dXT_countRows_14 rfl rfl ?_
        refine v_iald (k := (r + 1)) (v := σ.2 (r + 1) (((k : Int) + 1)).toNat) C dXT_countRows_15 (by show ((r + 1) : Nat) < 383; omega) (hY1) rfl (by omega) (by decide) rfl ?_
        refine v_bipush C dXT_countRows_16 (by decide +kernel) ?_
        refine v_icmp_eq (tgt := 24) C dXT_countRows_18 (by decide) (by omega) (by omega) (fun hc3 => ?_) (fun hc3 => ?_)
        · refine v_iinc C dXT_countRows_24 rfl (by decide) ?_
          refine v_goto (tgt := 4) C dXT_countRows_27 (by decide) ?_
          exact v_lv (by rw [hcs, hxd]; (first | rw [if_pos (show σ.2 (r + 1) (k + 1) = -2 by omega), if_neg (by decide), Int.add_zero] | rw [if_neg (show ¬ σ.2 (r + 1) (k + 1) = -2 by omega), if_pos rfl]); rfl) (ih (k + 1) (by omega))
        · refine v_iinc C dXT_countRows_21 rfl (by decide) ?_
          refine v_iinc C dXT_countRows_24 rfl (by decide) ?_
          refine v_goto (tgt := 4) C dXT_countRows_27 (by decide) ?_
          exact v_lv (by rw [hcs, hxd]; (first | rw [if_pos (show σ.2 (r + 1) (k + 1) = -2 by omega), if_neg (by decide), Int.add_zero] | rw [if_neg (show ¬ σ.2 (r + 1) (k + 1) = -2 by omega), if_pos rfl]); rfl) (ih (k + 1) (by omega))
  refine v_iconst C dXT_countRows_0 ?_
  refine v_istore_n C dXT_countRows_1 rfl (by decide) ?_
  refine v_iconst C dXT_countRows_2 ?_
  refine v_istore_n C dXT_countRows_3 rfl (by decide) ?_
  exact v_lv rfl (L 40 0 (by omega))
set_option maxRecDepth 100000 in
set_option maxHeartbeats 4000000 in
/-- lay -/
theorem kX_XT_lay (l : Launch) (D : va_G) (cA : Nat → ClassId) (ad : Nat → Nat) (hJ : f_J (xG D cA ad)) (σ : fS) (r : Nat) (hr : r + 2 < 383) (hY0 : xY r = .inl (4, 4, fXT r)) (hY1 : xY (r + 1) = .inr (.inl (0, 41))) (hY2 : xY (r + 2) = .inr (.inl (0, 41))) (p : Nat) (hp : p + 2 < 383) (hZ0 : xY p = .inl (4, 4, fXT p)) (hZ1 : xY (p + 1) = .inr (.inl (0, 41))) (hZ2 : xY (p + 2) = .inr (.inl (0, 41))) (hrp : r + 2 < p ∨ p + 2 < r) (hb : ∀ i, -2 ≤ σ.2 (p + 1) i ∧ σ.2 (p + 1) i ≤ 99999) : f_M l (xG D cA ad) (xE (xG D cA ad)) yXT_lay (Cond.code yXT_lay cXT_lay 3 none :: A9) 0 σ [.ref (ad (r)), .ref (ad (p))] (f_QV (fun σ1 => σ1 = x_lay σ r p) (xG D cA ad)) := by
  refine f_enter (by decide +kernel) hJ rfl (Nat.le_of_ble_eq_true rfl) ?_
  intro z hzl hR C hRt hLk hEz
  subst hzl
  have hRR : 0 ≤ z.2.2.2.1.frames ∧ 40 * 0 ≤ z.2.2.2.1.locals ∧ 0 ≤ z.2.2.2.1.cells ∧ 0 ≤ z.2.2.2.1.slots := by rw [hR]; exact ⟨Nat.le_refl _, Nat.le_refl _, Nat.zero_le _, Nat.zero_le _⟩
  have L : ∀ (m k : Nat), m + k = 41 → 1 ≤ k → fv z (xG D cA ad) 3 (f_R z (xG D cA ad) (f_QV (fun σ1 => σ1 = x_lay σ r p) (xG D cA ad))) 0 0 (x_layk σ r p k) 2 [some (.ref (ad r)), some (.ref (ad p)), some (.int (fI (k : Int)))] [] := by
    intro m
    induction m with
    | zero =>
      intro k hk hk1
      have hk41 : k = 41 := by omega
      subst hk41
      refine v_iload_n C dXT_lay_2 rfl rfl ?_
      refine v_bipush C dXT_lay_3 (by decide +kernel) ?_
      refine v_icmp_gt (tgt := 49) C dXT_lay_5 (by decide) (by omega) (by omega) (fun hc1 => ?_) (fun hc1 => ?_)
      · refine v_aload_n C dXT_lay_49 rfl rfl ?_
        refine v_aload_n C dXT_lay_50 rfl rfl ?_
        refine v_getI (k := p) (q := 2) (v := σ.1 p 2) C dXT_lay_51 (by show (p : Nat) < 383; omega) hZ0 rfl (by decide) rfl inXT lXT_30 rfl rfl ?_
        refine v_putI (k := r) (q := 2) C dXT_lay_54 (by show (r : Nat) < 383; omega) (hY0) rfl (by decide) rfl inXT tyXT_ok nmXT lXT_30 rfl rfl rfl rfl rfl ?_
        refine v_aload_n C dXT_lay_57 rfl rfl ?_
        refine v_aload_n C dXT_lay_58 rfl rfl ?_
        refine v_getI (k := p) (q := 3) (v := σ.1 p 3) C dXT_lay_59 (by show (p : Nat) < 383; omega) hZ0 rfl (by decide) rfl inXT lXT_34 rfl (by rw [p1_1, if_neg (by omega)]; rfl) ?_
        refine v_putI (k := r) (q := 3) C dXT_lay_62 (by show (r : Nat) < 383; omega) (hY0) rfl (by decide) rfl inXT tyXT_ok nmXT lXT_34 rfl rfl rfl rfl rfl ?_
        exact v_vret C hRt hLk dXT_lay_65 rfl
      · exfalso; omega
    | succ m ih =>
      intro k hk hk1
      have hkn : ((k : Int)).toNat = k := by omega
      have hbb := hb k
      have hkx : σ.2 (p + 1) ((k : Int)).toNat = σ.2 (p + 1) k := by rw [hkn]
      refine v_iload_n C dXT_lay_2 rfl rfl ?_
      refine v_bipush C dXT_lay_3 (by decide +kernel) ?_
      refine v_icmp_gt (tgt := 49) C dXT_lay_5 (by decide) (by omega) (by omega) (fun hc2 => ?_) (fun hc2 => ?_)
      · exfalso; omega
      · refine v_aload_n C dXT_lay_8 rfl rfl ?_
        refine v_getR (k := p) (q := 0) C dXT_lay_9 (by show (p : Nat) < 383; omega) hZ0 rfl (by decide) rfl inXT lXT_9 rfl ?_
        refine v_iload_n C dXT_lay_12 rfl rfl ?_
        refine v_iald (k := (p + 1)) (v := σ.2 (p + 1) ((k : Int)).toNat) C dXT_lay_13 (by show ((p + 1) : Nat) < 383; omega) hZ1 rfl (by omega) (by decide) (by (try rw [p2_2, if_neg (by omega)]); exact x_layk_o _ _ _ _ _ _ (by omega)) ?_
        refine v_bipush C dXT_lay_14 (by decide +kernel) ?_
        refine v_icmp_eq (tgt := 43) C dXT_lay_16 (by decide) (by omega) (by omega) (fun hc3 => ?_) (fun hc3 => ?_)
        · refine v_iinc C dXT_lay_43 rfl (by decide) ?_
          refine v_goto (tgt := 2) C dXT_lay_46 (by decide) ?_
          exact v_st (by first | exact x_layk_n σ r p k (by omega) | (simp only [hkn]; exact x_layk_s σ r p k hk1 (by omega))) (ih (k + 1) (by omega) (by omega))
        · refine v_aload_n C dXT_lay_19 rfl rfl ?_
          refine v_getR (k := r) (q := 0) C dXT_lay_20 (by show (r : Nat) < 383; omega) (hY0) rfl (by decide) rfl inXT lXT_9 rfl ?_
          refine v_iload_n C dXT_lay_23 rfl rfl ?_
          refine v_aload_n C dXT_lay_24 rfl rfl ?_
          refine v_getR (k := p) (q := 0) C dXT_lay_25 (by show (p : Nat) < 383; omega) hZ0 rfl (by decide) rfl inXT lXT_9 rfl ?_
          refine v_iload_n C dXT_lay_28 rfl rfl ?_
          refine v_iald (k := (p + 1)) (v := σ.2 (p + 1) ((k : Int)).toNat) C dXT_lay_29 (by show ((p + 1) : Nat) < 383; omega) hZ1 rfl (by omega) (by decide) (by (try rw [p2_2, if_neg (by omega)]); exact x_layk_o _ _ _ _ _ _ (by omega)) ?_
          refine v_iast (k := (r + 1)) C dXT_lay_30 (by show ((r + 1) : Nat) < 383; omega) (hY1) rfl (by omega) (by decide) ?_
          refine v_aload_n C dXT_lay_31 rfl rfl ?_
          refine v_getR (k := r) (q := 1) C dXT_lay_32 (by show (r : Nat) < 383; omega) (hY0) rfl (by decide) rfl inXT lXT_15 rfl ?_
          refine v_iload_n C dXT_lay_35 rfl rfl ?_
          refine v_aload_n C dXT_lay_36 rfl rfl ?_
          refine v_getR (k := p) (q := 1) C dXT_lay_37 (by show (p : Nat) < 383; omega) hZ0 rfl (by decide) rfl inXT lXT_15 rfl ?_
          refine v_iload_n C dXT_lay_40 rfl rfl ?_
          refine v_iald (k := (p + 2)) (v := σ.2 (p + 2) ((k : Int)).toNat) C dXT_lay_41 (by show ((p + 2) : Nat) < 383; omega) hZ2 rfl (by omega) (by decide) (by (try rw [p2_2, if_neg (by omega)]); exact x_layk_o _ _ _ _ _ _ (by omega)) ?_
          refine v_iast (k := (r + 2)) C dXT_lay_42 (by show ((r + 2) : Nat) < 383; omega) (hY2) rfl (by omega) (by decide) ?_
          refine v_iinc C dXT_lay_43 rfl (by decide) ?_
          refine v_goto (tgt := 2) C dXT_lay_46 (by decide) ?_
          exact v_st (by first | exact x_layk_n σ r p k (by omega) | (simp only [hkn]; exact x_layk_s σ r p k hk1 (by omega))) (ih (k + 1) (by omega) (by omega))
  refine v_iconst C dXT_lay_0 ?_
  refine v_istore_n C dXT_lay_1 rfl (by decide) ?_
  exact v_st (x_layk_1 σ r p) (L 40 1 (by omega) (by omega))
set_option maxRecDepth 100000 in
set_option maxHeartbeats 4000000 in
/-- told -/
theorem kX_XA_told (l : Launch) (D : va_G) (cA : Nat → ClassId) (ad : Nat → Nat) (hJ : f_J (xG D cA ad)) (σ : fS) (w : Int) (hw : -2147483648 ≤ w ∧ w ≤ 2147483647) (h2 : ∀ i, 0 ≤ σ.2 2 i ∧ σ.2 2 i ≤ 1) (h6 : ∀ i, 0 ≤ σ.2 6 i ∧ σ.2 6 i ≤ 1) (h7 : ∀ i, 0 ≤ σ.2 7 i ∧ σ.2 7 i ≤ 1) (ha : 0 ≤ σ.1 8 2 ∧ σ.1 8 2 ≤ 1) : f_M l (xG D cA ad) (xE (xG D cA ad)) yXA_told (Cond.code yXA_told cXA_told 2 (some .int) :: A9) 2 σ [.ref (ad 0), .int (fI w)] (f_QI (fun r σ1 => r = (if w = 0 then σ.1 8 1 else if w = 1 then σ.1 10 1 else if w = 2 then m_cnt (σ.2 2) 40 else if w = 3 then m_cnt (x_ch σ) 40 else if w = 4 then σ.1 8 2 else -1) ∧ σ1 = σ) (xG D cA ad)) := by
  refine f_enter (by decide +kernel) hJ rfl (Nat.le_of_ble_eq_true rfl) ?_
  intro z hzl hR C hRt hLk hEz
  subst hzl
  have hRR : 2 ≤ z.2.2.2.1.frames ∧ 40 * 2 ≤ z.2.2.2.1.locals ∧ 0 ≤ z.2.2.2.1.cells ∧ 0 ≤ z.2.2.2.1.slots := by rw [hR]; exact ⟨Nat.le_refl _, Nat.le_refl _, Nat.zero_le _, Nat.zero_le _⟩
  refine v_iload_n C dXA_told_0 rfl rfl ?_
  by_cases hw0 : w = 0
  · subst hw0
    refine v_tIn (x := 0) (tgt := 36) C dXA_told_1 (by omega) (by decide) (by decide) rfl (by decide) ?_
    refine v_aload_n C dXA_told_36 rfl rfl ?_
    refine v_getR (k := 0) (q := 1) C dXA_told_37 (by show (0 : Nat) < 383; decide) rfl rfl (by decide) rfl inXA lXA_19 rfl ?_
    refine v_getI (k := 8) (q := 1) (v := σ.1 8 1) C dXA_told_40 (by show (8 : Nat) < 383; decide) rfl rfl (by decide) rfl inXF lXA_131 rfl rfl ?_
    exact v_iret C hRt hLk dXA_told_43 ⟨by simp only [*]; (first | rfl | omega | simp | (simp_all; omega)), rfl⟩
  by_cases hw1 : w = 1
  · subst hw1
    refine v_tIn (x := 1) (tgt := 44) C dXA_told_1 (by omega) (by decide) (by decide) rfl (by decide) ?_
    refine v_aload_n C dXA_told_44 rfl rfl ?_
    refine v_getR (k := 0) (q := 2) C dXA_told_45 (by show (0 : Nat) < 383; decide) rfl rfl (by decide) rfl inXA lXA_26 rfl ?_
    refine v_getI (k := 10) (q := 1) (v := σ.1 10 1) C dXA_told_48 (by show (10 : Nat) < 383; decide) rfl rfl (by decide) rfl inXH lXA_125 rfl rfl ?_
    exact v_iret C hRt hLk dXA_told_51 ⟨by simp only [*]; (first | rfl | omega | simp | (simp_all; omega)), rfl⟩
  by_cases hw2 : w = 2
  · subst hw2
    refine v_tIn (x := 2) (tgt := 52) C dXA_told_1 (by omega) (by decide) (by decide) rfl (by decide) ?_
    refine v_aload_n C dXA_told_52 rfl rfl ?_
    refine v_getR (k := 0) (q := 0) C dXA_told_53 (by show (0 : Nat) < 383; decide) rfl rfl (by decide) rfl inXA lXA_10 rfl ?_
    refine v_cVI (k := 1) (n := 0) C (xE_ok _) hEz hR (kX_XS_countThere _ D cA ad hJ σ h2) dXA_told_56 (by show (1 : Nat) < 383; decide) rfl rfl gXA_207 (by decide +kernel) (by decide) (by decide) rfl (Nat.le_of_ble_eq_true rfl) rfl ⟨rfl, rfl⟩ (fun r1 σ1 hp1 => ?_)
    obtain ⟨e1, e2⟩ := hp1
    subst σ1
    exact v_iret C hRt hLk dXA_told_59 ⟨by simp only [*]; (first | rfl | omega | simp | (simp_all; omega)), rfl⟩
  by_cases hw3 : w = 3
  · subst hw3
    refine v_tIn (x := 3) (tgt := 60) C dXA_told_1 (by omega) (by decide) (by decide) rfl (by decide) ?_
    refine v_aload_n C dXA_told_60 rfl rfl ?_
    refine v_getR (k := 0) (q := 0) C dXA_told_61 (by show (0 : Nat) < 383; decide) rfl rfl (by decide) rfl inXA lXA_10 rfl ?_
    refine v_cVI (k := 1) (n := 0) C (xE_ok _) hEz hR (kX_XS_countChanged _ D cA ad hJ σ h2 h6 h7) dXA_told_64 (by show (1 : Nat) < 383; decide) rfl rfl gXA_141 (by decide +kernel) (by decide) (by decide) rfl (Nat.le_of_ble_eq_true rfl) rfl ⟨rfl, rfl⟩ (fun r1 σ1 hp1 => ?_)
    obtain ⟨e1, e2⟩ := hp1
    subst σ1
    exact v_iret C hRt hLk dXA_told_67 ⟨by simp only [*]; (first | rfl | omega | simp | (simp_all; omega)), rfl⟩
  by_cases hw4 : w = 4
  · subst hw4
    refine v_tIn (x := 4) (tgt := 68) C dXA_told_1 (by omega) (by decide) (by decide) rfl (by decide) ?_
    refine v_aload_n C dXA_told_68 rfl rfl ?_
    refine v_getR (k := 0) (q := 1) C dXA_told_69 (by show (0 : Nat) < 383; decide) rfl rfl (by decide) rfl inXA lXA_19 rfl ?_
    refine v_getI (k := 8) (q := 2) (v := σ.1 8 2) C dXA_told_72 (by show (8 : Nat) < 383; decide) rfl rfl (by decide) rfl inXF lXA_132 rfl rfl ?_
    refine v_if_eq (tgt := 82) C dXA_told_75 (by decide) (by omega) (fun hc1 => ?_) (fun hc1 => ?_)
    · refine v_iconst C dXA_told_82 ?_
      exact v_iret C hRt hLk dXA_told_83 ⟨by rw [if_neg (by decide), if_neg (by decide), if_neg (by decide), if_neg (by decide), if_pos rfl]; omega, rfl⟩
    · refine v_iconst C dXA_told_78 ?_
      refine v_goto (tgt := 83) C dXA_told_79 (by decide) ?_
      exact v_iret C hRt hLk dXA_told_83 ⟨by rw [if_neg (by decide), if_neg (by decide), if_neg (by decide), if_neg (by decide), if_pos rfl]; omega, rfl⟩
  refine v_tOut (tgt := 84) C dXA_told_1 (by omega) (by omega) (by decide) ?_
  refine v_iconst C dXA_told_84 ?_
  exact v_iret C hRt hLk dXA_told_85 ⟨by simp only [*]; (first | rfl | omega | simp | (simp_all; omega)), rfl⟩
