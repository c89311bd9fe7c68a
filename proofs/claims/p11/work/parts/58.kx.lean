/-! THE RANGES OF THE CLASS'S NUMBERS -/
def x_okA (a : Nat) (v : Int) : Prop :=
  if a = 2 ∨ a = 3 ∨ a = 6 ∨ a = 7 then 0 ≤ v ∧ v ≤ 1
  else if a = 4 ∨ a = 379 then 0 ≤ v ∧ v ≤ 120
  else if a = 5 ∨ a = 9 ∨ a = 375 then -128 ≤ v ∧ v ≤ 127
  else if a = 378 then -2 ≤ v ∧ v ≤ 99999
  else if 12 ≤ a ∧ a < 192 then (if a % 3 = 1 then -2 ≤ v ∧ v ≤ 99999 else 0 ≤ v ∧ v ≤ 120)
  else if 194 ≤ a ∧ a < 374 then (if a % 3 = 0 then -2 ≤ v ∧ v ≤ 99999 else -1 ≤ v ∧ v ≤ 120)
  else if a = 381 ∨ a = 382 then 0 ≤ v ∧ v ≤ 40
  else True
def x_okF (a b : Nat) (v : Int) : Prop :=
  if a = 8 ∧ b = 1 then 0 ≤ v ∧ v ≤ 12000
  else if a = 8 ∧ b = 2 then 0 ≤ v ∧ v ≤ 1
  else if a = 10 ∧ b = 1 then 0 ≤ v ∧ v ≤ 60
  else if a = 380 ∧ b = 2 then 0 ≤ v ∧ v ≤ 40
  else if (12 ≤ a ∧ a < 192 ∨ 194 ≤ a ∧ a < 374) ∧ (b = 2 ∨ b = 3) then 0 ≤ v ∧ v ≤ 12000
  else True
def x_I (σ : fS) : Prop := (∀ a b, x_okF a b (σ.1 a b)) ∧ ∀ a b, x_okA a (σ.2 a b)
theorem x_okA_hp (i : Nat) (h : i < 60) (v : Int) : x_okA (12 + 3 * i + 1) v ↔ (-2 ≤ v ∧ v ≤ 99999) := by
  unfold x_okA
  rw [if_neg (by omega), if_neg (by omega), if_neg (by omega), if_neg (by omega), if_pos (by omega), if_pos (by omega)]
theorem x_okA_hl (i : Nat) (h : i < 60) (v : Int) : x_okA (12 + 3 * i + 2) v ↔ (0 ≤ v ∧ v ≤ 120) := by
  unfold x_okA
  rw [if_neg (by omega), if_neg (by omega), if_neg (by omega), if_neg (by omega), if_pos (by omega), if_neg (by omega)]
theorem x_okA_cp (i : Nat) (h : i < 60) (v : Int) : x_okA (194 + 3 * i + 1) v ↔ (-2 ≤ v ∧ v ≤ 99999) := by
  unfold x_okA
  rw [if_neg (by omega), if_neg (by omega), if_neg (by omega), if_neg (by omega), if_neg (by omega), if_pos (by omega), if_pos (by omega)]
theorem x_okA_cl (i : Nat) (h : i < 60) (v : Int) : x_okA (194 + 3 * i + 2) v ↔ (-1 ≤ v ∧ v ≤ 120) := by
  unfold x_okA
  rw [if_neg (by omega), if_neg (by omega), if_neg (by omega), if_neg (by omega), if_neg (by omega), if_pos (by omega), if_neg (by omega)]
theorem x_okF_h (i : Nat) (h : i < 60) (b : Nat) (hb : b = 2 ∨ b = 3) (v : Int) : x_okF (12 + 3 * i) b v ↔ (0 ≤ v ∧ v ≤ 12000) := by
  unfold x_okF
  rw [if_neg (by omega), if_neg (by omega), if_neg (by omega), if_neg (by omega), if_pos (by omega)]
theorem x_okF_c (i : Nat) (h : i < 60) (b : Nat) (hb : b = 2 ∨ b = 3) (v : Int) : x_okF (194 + 3 * i) b v ↔ (0 ≤ v ∧ v ≤ 12000) := by
  unfold x_okF
  rw [if_neg (by omega), if_neg (by omega), if_neg (by omega), if_neg (by omega), if_pos (by omega)]
theorem x_okF_n (a b : Nat) (v : Int) (h : ¬ (a = 8 ∨ a = 10 ∨ a = 380 ∨ (12 ≤ a ∧ a < 192 ∨ 194 ≤ a ∧ a < 374))) : x_okF a b v := by
  unfold x_okF
  rw [if_neg (by omega), if_neg (by omega), if_neg (by omega), if_neg (by omega), if_neg (by omega)]
  trivial
section XI
variable {σ : fS}
theorem x_I_p1 {k q : Nat} {v : Int} (h : x_I σ) (hv : x_okF k q v) : x_I (f_p1 σ k q v) := by
  refine ⟨fun a b => ?_, h.2⟩
  rw [p1_1]
  by_cases g : a = k ∧ b = q
  · rw [if_pos g, g.1, g.2]; exact hv
  · rw [if_neg g]; exact h.1 a b
theorem x_I_p2 {k q : Nat} {v : Int} (h : x_I σ) (hv : x_okA k v) : x_I (f_p2 σ k q v) := by
  refine ⟨h.1, fun a b => ?_⟩
  rw [p2_2]
  by_cases g : a = k ∧ b = q
  · rw [if_pos g, g.1]; exact hv
  · rw [if_neg g]; exact h.2 a b
theorem x_I_pa {k : Nat} {f : Nat → Int} (h : x_I σ) (hv : ∀ q, x_okA k (f q)) : x_I (f_pa σ k f) := by
  refine ⟨h.1, fun a b => ?_⟩
  rw [pa_2]
  by_cases g : a = k
  · rw [if_pos g, g]; exact hv b
  · rw [if_neg g]; exact h.2 a b
theorem x_I_fill {k : Nat} {a b v : Int} (h : x_I σ) (hv : x_okA k v) : x_I (x_fill σ k a b v) := x_I_pa h (fun q => by
  by_cases g : a ≤ q ∧ (q : Int) < b
  · rw [if_pos g]; exact hv
  · rw [if_neg g]; exact h.2 k q)
theorem x_I_reset {r : Nat} {v : Int} (h : x_I σ) (hv : x_okA (r + 1) v) (h0 : x_okA (r + 2) 0) : x_I (x_reset σ r v) := x_I_fill (x_I_fill h hv) h0
theorem x_I_copy {c d : Nat} (h : x_I σ) (hc : c < 60) (hd : d < 60) : x_I (x_copy σ (12 + 3 * c) (12 + 3 * d)) := by
  refine x_I_pa (x_I_pa h (fun q => ?_)) (fun q => ?_)
  · rw [x_okA_hp c hc]
    split
    · exact (x_okA_hp d hd _).mp (h.2 _ _)
    · exact (x_okA_hp c hc _).mp (h.2 _ _)
  · rw [x_okA_hl c hc]
    split
    · exact (x_okA_hl d hd _).mp (h.2 _ _)
    · exact (x_okA_hl c hc _).mp (h.2 _ _)
theorem x_I_lay {c p : Nat} (h : x_I σ) (hc : c < 60) (hp : ∀ b, 1 ≤ b → b < 41 → -2 ≤ σ.2 (p + 1) b ∧ σ.2 (p + 1) b ≤ 99999) (hl : ∀ b, 1 ≤ b → b < 41 → σ.2 (p + 1) b ≠ -2 → 0 ≤ σ.2 (p + 2) b ∧ σ.2 (p + 2) b ≤ 120) (hx : 0 ≤ σ.1 p 2 ∧ σ.1 p 2 ≤ 12000) (he : 0 ≤ σ.1 p 3 ∧ σ.1 p 3 ≤ 12000) : x_I (x_lay σ (12 + 3 * c) p) := by
  refine x_I_p1 (x_I_p1 ⟨h.1, fun a b => ?_⟩ ((x_okF_h c hc 2 (Or.inl rfl) _).mpr hx)) ((x_okF_h c hc 3 (Or.inr rfl) _).mpr he)
  show x_okA a (if (1 ≤ b ∧ b < 41) ∧ σ.2 (p + 1) b ≠ -2 then (if a = 12 + 3 * c + 1 then σ.2 (p + 1) b else if a = 12 + 3 * c + 2 then σ.2 (p + 2) b else σ.2 a b) else σ.2 a b)
  by_cases g : (1 ≤ b ∧ b < 41) ∧ σ.2 (p + 1) b ≠ -2
  · rw [if_pos g]
    by_cases g1 : a = 12 + 3 * c + 1
    · rw [if_pos g1, g1, x_okA_hp c hc]; exact hp b g.1.1 g.1.2
    · rw [if_neg g1]
      by_cases g2 : a = 12 + 3 * c + 2
      · rw [if_pos g2, g2, x_okA_hl c hc]; exact hl b g.1.1 g.1.2 g.2
      · rw [if_neg g2]; exact h.2 a b
  · rw [if_neg g]; exact h.2 a b
theorem x_I_sav {k : Nat} (h : x_I σ) : x_I (x_sav σ k) := by
  refine ⟨h.1, fun a b => ?_⟩
  show x_okA a (if 1 ≤ b ∧ b < k then (if a = 6 then 0 else if a = 7 then σ.2 2 b else σ.2 a b) else σ.2 a b)
  by_cases g : 1 ≤ b ∧ b < k
  · rw [if_pos g]
    by_cases g1 : a = 6
    · subst g1; rw [if_pos rfl]; show (0 : Int) ≤ 0 ∧ (0 : Int) ≤ 1; omega
    · rw [if_neg g1]
      by_cases g2 : a = 7
      · subst g2; rw [if_pos rfl]; exact h.2 2 b
      · rw [if_neg g2]; exact h.2 a b
  · rw [if_neg g]; exact h.2 a b
theorem x_I_behind {b n : Int} (h : x_I σ) (hb : 0 ≤ b + n ∧ b + n ≤ 12000) : x_I (x_behind σ b n) := x_I_p1 (x_I_pa h (fun q => by
  by_cases g : b.toNat ≤ q ∧ q < b.toNat + n.toNat
  · rw [if_pos g]; exact h.2 375 _
  · rw [if_neg g]; exact h.2 9 q)) hb
end XI
/-- the history takes a part, its count being c -/
def x_adr (σ : fS) (c : Nat) : fS := if c = 0 then x_reset σ 12 (-1) else x_copy σ (12 + 3 * c) (12 + 3 * (c - 1))
def x_ad (σ : fS) (p c : Nat) : fS := f_p1 (x_lay (x_adr σ c) (12 + 3 * c) p) 10 1 ((c : Int) + 1)
theorem x_copy_o (σ : fS) (r o x q : Nat) (h : x ≠ r + 1 ∧ x ≠ r + 2) : (x_copy σ r o).2 x q = σ.2 x q := by
  unfold x_copy
  rw [pa_2, if_neg h.2, pa_2, if_neg h.1]
theorem x_adr_o (σ : fS) (c x q : Nat) (h : x ≠ 12 + 3 * c + 1 ∧ x ≠ 12 + 3 * c + 2) : (x_adr σ c).2 x q = σ.2 x q := by
  unfold x_adr
  split
  · rename_i h0; subst h0; exact x_reset_o _ _ _ _ _ h
  · exact x_copy_o _ _ _ _ _ h
theorem x_adr_1 (σ : fS) (c a b : Nat) : (x_adr σ c).1 a b = σ.1 a b := by
  unfold x_adr
  split <;> rfl
theorem x_ad_o (σ : fS) (p c x q : Nat) (h : x ≠ 12 + 3 * c + 1 ∧ x ≠ 12 + 3 * c + 2) : (x_ad σ p c).2 x q = σ.2 x q := by
  show (x_layk (x_adr σ c) (12 + 3 * c) p 41).2 x q = _
  rw [x_layk_o _ _ _ _ _ _ h, x_adr_o _ _ _ _ h]
theorem x_ad_1 (σ : fS) (p c a b : Nat) : (x_ad σ p c).1 a b = if a = 10 ∧ b = 1 then (c : Int) + 1 else if a = 12 + 3 * c ∧ b = 3 then σ.1 p 3 else if a = 12 + 3 * c ∧ b = 2 then σ.1 p 2 else σ.1 a b := by
  unfold x_ad x_lay
  rw [p1_1, p1_1, p1_1, x_adr_1, x_adr_1]
  show (if a = 10 ∧ b = 1 then _ else if _ then _ else if _ then _ else (x_adr σ c).1 a b) = _
  rw [x_adr_1]
theorem x_I_ad {σ : fS} {p c : Nat} (h : x_I σ) (hc : c < 60) (hpr : 12 + 3 * c + 2 < p) (hp : ∀ b, 1 ≤ b → b < 41 → -2 ≤ σ.2 (p + 1) b ∧ σ.2 (p + 1) b ≤ 99999) (hl : ∀ b, 1 ≤ b → b < 41 → σ.2 (p + 1) b ≠ -2 → 0 ≤ σ.2 (p + 2) b ∧ σ.2 (p + 2) b ≤ 120) (hx : 0 ≤ σ.1 p 2 ∧ σ.1 p 2 ≤ 12000) (he : 0 ≤ σ.1 p 3 ∧ σ.1 p 3 ≤ 12000) : x_I (x_ad σ p c) := by
  refine x_I_p1 (x_I_lay ?_ hc ?_ ?_ ?_ ?_) (show (0 : Int) ≤ (c : Int) + 1 ∧ (c : Int) + 1 ≤ 60 by omega)
  · unfold x_adr
    split
    · exact x_I_reset h (show (-2 : Int) ≤ -1 ∧ (-1 : Int) ≤ 99999 by omega) (show (0 : Int) ≤ 0 ∧ (0 : Int) ≤ 120 by omega)
    · exact x_I_copy h hc (by omega)
  · intro b h1 h2; rw [x_adr_o _ _ _ _ (by omega)]; exact hp b h1 h2
  · intro b h1 h2; rw [x_adr_o _ _ _ _ (by omega), x_adr_o _ _ _ _ (by omega)]; exact hl b h1 h2
  · rw [x_adr_1]; exact hx
  · rw [x_adr_1]; exact he
/-- the draft is kept -/
def x_kept (σ : fS) (c : Nat) : fS := x_sav (x_ad (f_p1 (x_behind σ (σ.1 374 5) (σ.1 374 6)) 8 2 0) 377 c) 41
set_option maxRecDepth 100000 in
set_option maxHeartbeats 4000000 in
/-- copyRows -/
theorem kX_XT_copyRows (l : Launch) (D : va_G) (cA : Nat → ClassId) (ad : Nat → Nat) (hJ : f_J (xG D cA ad)) (σ : fS) (r : Nat) (hr : r + 2 < 383) (hY0 : xY r = .inl (4, 4, fXT r)) (hY1 : xY (r + 1) = .inr (.inl (0, 41))) (hY2 : xY (r + 2) = .inr (.inl (0, 41))) (p : Nat) (hp : p + 2 < 383) (hZ0 : xY p = .inl (4, 4, fXT p)) (hZ1 : xY (p + 1) = .inr (.inl (0, 41))) (hZ2 : xY (p + 2) = .inr (.inl (0, 41))) (hrp : r + 2 < p ∨ p + 2 < r) : f_M l (xG D cA ad) (xE (xG D cA ad)) yXT_copyRows (Cond.code yXT_copyRows cXT_copyRows 2 none :: A9) 1 σ [.ref (ad (r)), .ref (ad (p))] (f_QV (fun σ1 => σ1 = x_copy σ r p) (xG D cA ad)) := by
  refine f_enter (by decide +kernel) hJ rfl (Nat.le_of_ble_eq_true rfl) ?_
  intro z hzl hR C hRt hLk hEz
  subst hzl
  have hRR : 1 ≤ z.2.2.2.1.frames ∧ 40 * 1 ≤ z.2.2.2.1.locals ∧ 0 ≤ z.2.2.2.1.cells ∧ 0 ≤ z.2.2.2.1.slots := by rw [hR]; exact ⟨Nat.le_refl _, Nat.le_refl _, Nat.zero_le _, Nat.zero_le _⟩
  refine v_aload_n C dXT_copyRows_0 rfl rfl ?_
  refine v_getR (k := p) (q := 0) C dXT_copyRows_1 (by show (p : Nat) < 383; omega) hZ0 rfl (by decide) rfl inXT lXT_9 rfl ?_
  refine v_iconst C dXT_copyRows_4 ?_
  refine v_aload_n C dXT_copyRows_5 rfl rfl ?_
  refine v_getR (k := r) (q := 0) C dXT_copyRows_6 (by show (r : Nat) < 383; omega) (hY0) rfl (by decide) rfl inXT lXT_9 rfl ?_
  refine v_iconst C dXT_copyRows_9 ?_
  refine v_bipush C dXT_copyRows_10 (by decide +kernel) ?_
  refine v_copy (k0 := (p + 1)) (k1 := (r + 1)) (sp := 0) (dp := 0) (n := 41) C (in9 (by decide +kernel) rfl) (in9 (by decide +kernel) rfl) (in9 (by decide +kernel) rfl) (in9 (by decide +kernel) rfl) (by show ((p + 1) : Nat) < 383; omega) hZ1 (by show ((r + 1) : Nat) < 383; omega) (hY1) rfl rfl (by omega) (by omega) (by omega) (by omega) (by omega) (fun i => rfl) (by rw [hR]; exact ⟨by decide, by decide +kernel⟩) dXT_copyRows_12 ?_
  refine v_aload_n C dXT_copyRows_15 rfl rfl ?_
  refine v_getR (k := p) (q := 1) C dXT_copyRows_16 (by show (p : Nat) < 383; omega) hZ0 rfl (by decide) rfl inXT lXT_15 rfl ?_
  refine v_iconst C dXT_copyRows_19 ?_
  refine v_aload_n C dXT_copyRows_20 rfl rfl ?_
  refine v_getR (k := r) (q := 1) C dXT_copyRows_21 (by show (r : Nat) < 383; omega) (hY0) rfl (by decide) rfl inXT lXT_15 rfl ?_
  refine v_iconst C dXT_copyRows_24 ?_
  refine v_bipush C dXT_copyRows_25 (by decide +kernel) ?_
  refine v_copy (k0 := (p + 2)) (k1 := (r + 2)) (sp := 0) (dp := 0) (n := 41) C (in9 (by decide +kernel) rfl) (in9 (by decide +kernel) rfl) (in9 (by decide +kernel) rfl) (in9 (by decide +kernel) rfl) (by show ((p + 2) : Nat) < 383; omega) hZ2 (by show ((r + 2) : Nat) < 383; omega) (hY2) rfl rfl (by omega) (by omega) (by omega) (by omega) (by omega) (fun i => rfl) (by rw [hR]; exact ⟨by decide, by decide +kernel⟩) dXT_copyRows_27 ?_
  exact v_vret C hRt hLk dXT_copyRows_30 (by unfold x_copy; rw [show ∀ g, (f_pa σ (r + 1) g).2 (p + 2) = σ.2 (p + 2) from fun g => by rw [pa_2, if_neg (by omega)], show ∀ g, (f_pa σ (r + 1) g).2 (r + 2) = σ.2 (r + 2) from fun g => by rw [pa_2, if_neg (by omega)]])
set_option maxRecDepth 100000 in
set_option maxHeartbeats 4000000 in
/-- add -/
theorem kX_XH_add (l : Launch) (D : va_G) (cA : Nat → ClassId) (ad : Nat → Nat) (hJ : f_J (xG D cA ad)) (σ : fS) (c : Nat) (hc : σ.1 10 1 = (c : Int)) (h60 : c < 60) (p : Nat) (hp : p + 2 < 383) (hZ0 : xY p = .inl (4, 4, fXT p)) (hZ1 : xY (p + 1) = .inr (.inl (0, 41))) (hZ2 : xY (p + 2) = .inr (.inl (0, 41))) (hpr : 12 + 3 * c + 2 < p) (hb : ∀ i, -2 ≤ σ.2 (p + 1) i ∧ σ.2 (p + 1) i ≤ 99999) : f_M l (xG D cA ad) (xE (xG D cA ad)) yXH_add (Cond.code yXH_add cXH_add 3 none :: A9) 2 σ [.ref (ad 10), .ref (ad (p))] (f_QV (fun σ1 => σ1 = x_ad σ p c) (xG D cA ad)) := by
  refine f_enter (by decide +kernel) hJ rfl (Nat.le_of_ble_eq_true rfl) ?_
  intro z hzl hR C hRt hLk hEz
  subst hzl
  have hRR : 2 ≤ z.2.2.2.1.frames ∧ 40 * 2 ≤ z.2.2.2.1.locals ∧ 0 ≤ z.2.2.2.1.cells ∧ 0 ≤ z.2.2.2.1.slots := by rw [hR]; exact ⟨Nat.le_refl _, Nat.le_refl _, Nat.zero_le _, Nat.zero_le _⟩
  refine v_aload_n C dXH_add_0 rfl rfl ?_
  refine v_getI (k := 10) (q := 1) (v := (c : Int)) C dXH_add_1 (by show (10 : Nat) < 383; decide) rfl rfl (by decide) rfl inXH lXH_18 rfl hc ?_
  refine v_bipush C dXH_add_4 (by decide +kernel) ?_
  refine v_icmp_lt (tgt := 10) C dXH_add_6 (by decide) (by omega) (by omega) (fun hc1 => ?_) (fun hc1 => ?_)
  · refine v_aload_n C dXH_add_10 rfl rfl ?_
    refine v_getR (k := 10) (q := 0) C dXH_add_11 (by show (10 : Nat) < 383; decide) rfl rfl (by decide) rfl inXH lXH_11 rfl ?_
    refine v_aload_n C dXH_add_14 rfl rfl ?_
    refine v_getI (k := 10) (q := 1) (v := (c : Int)) C dXH_add_15 (by show (10 : Nat) < 383; decide) rfl rfl (by decide) rfl inXH lXH_18 rfl hc ?_
    refine v_aald (k := 11) C dXH_add_18 (by show (11 : Nat) < 383; decide) rfl rfl (by omega) (by decide) ?_
    refine v_astore_n C dXH_add_19 rfl (by decide) ?_
    refine v_aload_n C dXH_add_20 rfl rfl ?_
    refine v_getI (k := 10) (q := 1) (v := (c : Int)) C dXH_add_21 (by show (10 : Nat) < 383; decide) rfl rfl (by decide) rfl inXH lXH_18 rfl hc ?_
    refine v_if_ne (tgt := 35) C dXH_add_24 (by decide) (by omega) (fun hc2 => ?_) (fun hc2 => ?_)
    · refine v_aload_n C dXH_add_35 rfl rfl ?_
      refine v_aload_n C dXH_add_36 rfl rfl ?_
      refine v_getR (k := 10) (q := 0) C dXH_add_37 (by show (10 : Nat) < 383; decide) rfl rfl (by decide) rfl inXH lXH_11 rfl ?_
      refine v_aload_n C dXH_add_40 rfl rfl ?_
      refine v_getI (k := 10) (q := 1) (v := (c : Int)) C dXH_add_41 (by show (10 : Nat) < 383; decide) rfl rfl (by decide) rfl inXH lXH_18 rfl hc ?_
      refine v_iconst C dXH_add_44 ?_
      refine v_isub C dXH_add_45 ?_
      refine v_top (b := ((c - 1 : Nat) : Int)) (by omega) ?_
      refine v_aald (k := 11) C dXH_add_46 (by show (11 : Nat) < 383; decide) rfl rfl (by omega) (by decide) ?_
      refine v_cVV (k := (12 + 3 * c)) (n := 1) C (xE_ok _) hEz hR (kX_XT_copyRows _ D cA ad hJ σ (12 + 3 * c) (by omega) (xY_h0 c (by omega)) (xY_h1 c (by omega)) (xY_h2 c (by omega)) (12 + 3 * (c - 1)) (by omega) (xY_h0 (c - 1) (by omega)) (xY_h1 (c - 1) (by omega)) (xY_h2 (c - 1) (by omega)) (by omega)) dXH_add_47 (by show ((12 + 3 * c) : Nat) < 383; omega) (xY_h0 c (by omega)) rfl gXH_26 (by decide +kernel) (by decide) (by decide) rfl (Nat.le_of_ble_eq_true rfl) rfl ⟨rfl, rfl⟩ (fun σ1 hp1 => ?_)
      subst σ1
      refine v_st (σ1 := x_adr σ c) (by unfold x_adr; rw [if_neg (by omega)]) ?_
      refine v_aload_n C dXH_add_50 rfl rfl ?_
      refine v_aload_n C dXH_add_51 rfl rfl ?_
      refine v_cVV (k := (12 + 3 * c)) (n := 1) C (xE_ok _) hEz hR (kX_XT_lay _ D cA ad hJ (x_adr σ c) (12 + 3 * c) (by omega) (xY_h0 c (by omega)) (xY_h1 c (by omega)) (xY_h2 c (by omega)) p hp hZ0 hZ1 hZ2 (by omega) (fun i => by rw [x_adr_o _ _ _ _ (by omega)]; exact hb i)) dXH_add_52 (by show ((12 + 3 * c) : Nat) < 383; omega) (xY_h0 c (by omega)) rfl gXH_30 (by decide +kernel) (by decide) (by decide) rfl (Nat.le_of_ble_eq_true rfl) rfl ⟨rfl, rfl⟩ (fun σ1 hp1 => ?_)
      subst σ1
      have hc2 : (x_lay (x_adr σ c) (12 + 3 * c) p).1 10 1 = (c : Int) := by unfold x_lay; rw [p1_1, if_neg (by omega), p1_1, if_neg (by omega)]; show (x_adr σ c).1 10 1 = _; rw [x_adr_1]; exact hc
      refine v_aload_n C dXH_add_55 rfl rfl ?_
      refine v_dup C dXH_add_56 rfl ?_
      refine v_getI (k := 10) (q := 1) (v := (c : Int)) C dXH_add_57 (by show (10 : Nat) < 383; decide) rfl rfl (by decide) rfl inXH lXH_18 rfl hc2 ?_
      refine v_iconst C dXH_add_60 ?_
      refine v_iadd C dXH_add_61 ?_
      refine v_putI (k := 10) (q := 1) C dXH_add_62 (by show (10 : Nat) < 383; decide) rfl rfl (by decide) rfl inXH tyXH_ok nmXH lXH_18 rfl rfl rfl rfl rfl ?_
      exact v_vret C hRt hLk dXH_add_65 rfl
    · refine v_aload_n C dXH_add_27 rfl rfl ?_
      refine v_iconst C dXH_add_28 ?_
      refine v_cVV (k := (12 + 3 * c)) (n := 1) C (xE_ok _) hEz hR (kX_XT_reset _ D cA ad hJ σ (12 + 3 * c) (by omega) (xY_h0 c (by omega)) (xY_h1 c (by omega)) (xY_h2 c (by omega)) (-1)) dXH_add_29 (by show ((12 + 3 * c) : Nat) < 383; omega) (xY_h0 c (by omega)) rfl gXH_22 (by decide +kernel) (by decide) (by decide) rfl (Nat.le_of_ble_eq_true rfl) rfl ⟨rfl, rfl⟩ (fun σ1 hp1 => ?_)
      subst σ1
      refine v_st (σ1 := x_adr σ c) (by unfold x_adr; rw [if_pos (by omega), show c = 0 by omega]) ?_
      refine v_goto (tgt := 50) C dXH_add_32 (by decide) ?_
      refine v_aload_n C dXH_add_50 rfl rfl ?_
      refine v_aload_n C dXH_add_51 rfl rfl ?_
      refine v_cVV (k := (12 + 3 * c)) (n := 1) C (xE_ok _) hEz hR (kX_XT_lay _ D cA ad hJ (x_adr σ c) (12 + 3 * c) (by omega) (xY_h0 c (by omega)) (xY_h1 c (by omega)) (xY_h2 c (by omega)) p hp hZ0 hZ1 hZ2 (by omega) (fun i => by rw [x_adr_o _ _ _ _ (by omega)]; exact hb i)) dXH_add_52 (by show ((12 + 3 * c) : Nat) < 383; omega) (xY_h0 c (by omega)) rfl gXH_30 (by decide +kernel) (by decide) (by decide) rfl (Nat.le_of_ble_eq_true rfl) rfl ⟨rfl, rfl⟩ (fun σ1 hp1 => ?_)
      subst σ1
      have hc2 : (x_lay (x_adr σ c) (12 + 3 * c) p).1 10 1 = (c : Int) := by unfold x_lay; rw [p1_1, if_neg (by omega), p1_1, if_neg (by omega)]; show (x_adr σ c).1 10 1 = _; rw [x_adr_1]; exact hc
      refine v_aload_n C dXH_add_55 rfl rfl ?_
      refine v_dup C dXH_add_56 rfl ?_
      refine v_getI (k := 10) (q := 1) (v := (c : Int)) C dXH_add_57 (by show (10 : Nat) < 383; decide) rfl rfl (by decide) rfl inXH lXH_18 rfl hc2 ?_
      refine v_iconst C dXH_add_60 ?_
      refine v_iadd C dXH_add_61 ?_
      refine v_putI (k := 10) (q := 1) C dXH_add_62 (by show (10 : Nat) < 383; decide) rfl rfl (by decide) rfl inXH tyXH_ok nmXH lXH_18 rfl rfl rfl rfl rfl ?_
      exact v_vret C hRt hLk dXH_add_65 rfl
  · exfalso; omega
set_option maxRecDepth 100000 in
set_option maxHeartbeats 4000000 in
/-- latestX -/
theorem kX_XH_latestX (l : Launch) (D : va_G) (cA : Nat → ClassId) (ad : Nat → Nat) (hJ : f_J (xG D cA ad)) (σ : fS) (c : Nat) (hc : σ.1 10 1 = (c : Int)) (h60 : c ≤ 60) : f_M l (xG D cA ad) (xE (xG D cA ad)) yXH_latestX (Cond.code yXH_latestX cXH_latestX 1 (some .int) :: A9) 0 σ [.ref (ad 10)] (f_QI (fun r σ1 => r = (if c = 0 then 0 else σ.1 (12 + 3 * (c - 1)) 2) ∧ σ1 = σ) (xG D cA ad)) := by
  refine f_enter (by decide +kernel) hJ rfl (Nat.le_of_ble_eq_true rfl) ?_
  intro z hzl hR C hRt hLk hEz
  subst hzl
  have hRR : 0 ≤ z.2.2.2.1.frames ∧ 40 * 0 ≤ z.2.2.2.1.locals ∧ 0 ≤ z.2.2.2.1.cells ∧ 0 ≤ z.2.2.2.1.slots := by rw [hR]; exact ⟨Nat.le_refl _, Nat.le_refl _, Nat.zero_le _, Nat.zero_le _⟩
  refine v_aload_n C dXH_latestX_0 rfl rfl ?_
  refine v_getI (k := 10) (q := 1) (v := (c : Int)) C dXH_latestX_1 (by show (10 : Nat) < 383; decide) rfl rfl (by decide) rfl inXH lXH_18 rfl hc ?_
  refine v_if_le (tgt := 24) C dXH_latestX_4 (by decide) (by omega) (fun hc1 => ?_) (fun hc1 => ?_)
  · refine v_iconst C dXH_latestX_24 ?_
    exact v_iret C hRt hLk dXH_latestX_25 ⟨by first | rw [if_pos (by omega)] | rw [if_neg (by omega)], rfl⟩
  · refine v_aload_n C dXH_latestX_7 rfl rfl ?_
    refine v_getR (k := 10) (q := 0) C dXH_latestX_8 (by show (10 : Nat) < 383; decide) rfl rfl (by decide) rfl inXH lXH_11 rfl ?_
    refine v_aload_n C dXH_latestX_11 rfl rfl ?_
    refine v_getI (k := 10) (q := 1) (v := (c : Int)) C dXH_latestX_12 (by show (10 : Nat) < 383; decide) rfl rfl (by decide) rfl inXH lXH_18 rfl hc ?_
    refine v_iconst C dXH_latestX_15 ?_
    refine v_isub C dXH_latestX_16 ?_
    refine v_top (b := ((c - 1 : Nat) : Int)) (by omega) ?_
    refine v_aald (k := 11) C dXH_latestX_17 (by show (11 : Nat) < 383; decide) rfl rfl (by omega) (by decide) ?_
    refine v_getI (k := (12 + 3 * (c - 1))) (q := 2) (v := σ.1 (12 + 3 * (c - 1)) 2) C dXH_latestX_18 (by show ((12 + 3 * (c - 1)) : Nat) < 383; omega) (xY_h0 (c - 1) (by omega)) rfl (by decide) rfl inXT lXH_33 rfl rfl ?_
    refine v_goto (tgt := 25) C dXH_latestX_21 (by decide) ?_
    exact v_iret C hRt hLk dXH_latestX_25 ⟨by first | rw [if_pos (by omega)] | rw [if_neg (by omega)], rfl⟩
set_option maxRecDepth 100000 in
set_option maxHeartbeats 4000000 in
/-- keepDraft -/
theorem kX_XA_keepDraft (l : Launch) (D : va_G) (cA : Nat → ClassId) (ad : Nat → Nat) (hJ : f_J (xG D cA ad)) (σ : fS) (c : Nat) (hc : σ.1 10 1 = (c : Int)) (h60 : c < 60) (hI : x_I σ) (hb5 : 0 ≤ σ.1 374 5) (hb6 : 0 ≤ σ.1 374 6 ∧ σ.1 374 6 ≤ 6000) (hbn : σ.1 374 5 + σ.1 374 6 ≤ 12000) : f_M l (xG D cA ad) (xE (xG D cA ad)) yXA_keepDraft (Cond.code yXA_keepDraft cXA_keepDraft 1 none :: A9) 3 σ [.ref (ad 0)] (f_QV (fun σ1 => σ1 = x_kept σ c) (xG D cA ad)) := by
  refine f_enter (by decide +kernel) hJ rfl (Nat.le_of_ble_eq_true rfl) ?_
  intro z hzl hR C hRt hLk hEz
  subst hzl
  have hRR : 3 ≤ z.2.2.2.1.frames ∧ 40 * 3 ≤ z.2.2.2.1.locals ∧ 0 ≤ z.2.2.2.1.cells ∧ 0 ≤ z.2.2.2.1.slots := by rw [hR]; exact ⟨Nat.le_refl _, Nat.le_refl _, Nat.zero_le _, Nat.zero_le _⟩
  refine v_aload_n C dXA_keepDraft_0 rfl rfl ?_
  refine v_getR (k := 0) (q := 1) C dXA_keepDraft_1 (by show (0 : Nat) < 383; decide) rfl rfl (by decide) rfl inXA lXA_19 rfl ?_
  refine v_aload_n C dXA_keepDraft_4 rfl rfl ?_
  refine v_getR (k := 0) (q := 4) C dXA_keepDraft_5 (by show (0 : Nat) < 383; decide) rfl rfl (by decide) rfl inXA lXA_44 rfl ?_
  refine v_getI (k := 374) (q := 5) (v := σ.1 374 5) C dXA_keepDraft_8 (by show (374 : Nat) < 383; decide) rfl rfl (by decide) rfl inXD lXA_210 rfl rfl ?_
  refine v_aload_n C dXA_keepDraft_11 rfl rfl ?_
  refine v_getR (k := 0) (q := 4) C dXA_keepDraft_12 (by show (0 : Nat) < 383; decide) rfl rfl (by decide) rfl inXA lXA_44 rfl ?_
  refine v_getR (k := 374) (q := 1) C dXA_keepDraft_15 (by show (374 : Nat) < 383; decide) rfl rfl (by decide) rfl inXD lXA_213 rfl ?_
  refine v_aload_n C dXA_keepDraft_18 rfl rfl ?_
  refine v_getR (k := 0) (q := 4) C dXA_keepDraft_19 (by show (0 : Nat) < 383; decide) rfl rfl (by decide) rfl inXA lXA_44 rfl ?_
  refine v_getI (k := 374) (q := 6) (v := σ.1 374 6) C dXA_keepDraft_22 (by show (374 : Nat) < 383; decide) rfl rfl (by decide) rfl inXD lXA_153 rfl rfl ?_
  refine v_cVV (k := 8) (n := 3) C (xE_ok _) hEz hR (kX_XF_putBehind _ D cA ad hJ σ (σ.1 374 5) (σ.1 374 6) hb5 hb6 hbn (fun i => hI.2 375 i)) dXA_keepDraft_25 (by show (8 : Nat) < 383; decide) rfl rfl gXA_214 (by decide +kernel) (by decide) (by decide) rfl (Nat.le_of_ble_eq_true rfl) rfl ⟨rfl, rfl⟩ (fun σ1 hp1 => ?_)
  subst σ1
  refine v_aload_n C dXA_keepDraft_28 rfl rfl ?_
  refine v_getR (k := 0) (q := 1) C dXA_keepDraft_29 (by show (0 : Nat) < 383; decide) rfl rfl (by decide) rfl inXA lXA_19 rfl ?_
  refine v_iconst C dXA_keepDraft_32 ?_
  refine v_putI (k := 8) (q := 2) C dXA_keepDraft_33 (by show (8 : Nat) < 383; decide) rfl rfl (by decide) rfl inXF tyXF_ok nmXF lXA_132 rfl rfl rfl (fN_bool (by omega)) (fF_bool (by omega)) ?_
  refine v_aload_n C dXA_keepDraft_36 rfl rfl ?_
  refine v_getR (k := 0) (q := 2) C dXA_keepDraft_37 (by show (0 : Nat) < 383; decide) rfl rfl (by decide) rfl inXA lXA_26 rfl ?_
  refine v_aload_n C dXA_keepDraft_40 rfl rfl ?_
  refine v_getR (k := 0) (q := 4) C dXA_keepDraft_41 (by show (0 : Nat) < 383; decide) rfl rfl (by decide) rfl inXA lXA_44 rfl ?_
  refine v_getR (k := 374) (q := 3) C dXA_keepDraft_44 (by show (374 : Nat) < 383; decide) rfl rfl (by decide) rfl inXD lXA_110 rfl ?_
  refine v_cVV (k := 10) (n := 1) C (xE_ok _) hEz hR (kX_XH_add _ D cA ad hJ (f_p1 (x_behind σ (σ.1 374 5) (σ.1 374 6)) 8 2 0) c hc h60 377 (by decide) rfl rfl rfl (by omega) (fun i => by show _ ≤ (x_behind σ (σ.1 374 5) (σ.1 374 6)).2 378 i ∧ (x_behind σ (σ.1 374 5) (σ.1 374 6)).2 378 i ≤ _; rw [x_behind_2 _ _ _ _ _ (by decide)]; exact hI.2 378 i)) dXA_keepDraft_47 (by show (10 : Nat) < 383; decide) rfl rfl gXA_218 (by decide +kernel) (by decide) (by decide) rfl (Nat.le_of_ble_eq_true rfl) rfl ⟨rfl, rfl⟩ (fun σ1 hp1 => ?_)
  subst σ1
  refine v_aload_n C dXA_keepDraft_50 rfl rfl ?_
  refine v_getR (k := 0) (q := 0) C dXA_keepDraft_51 (by show (0 : Nat) < 383; decide) rfl rfl (by decide) rfl inXA lXA_10 rfl ?_
  refine v_cVV (k := 1) (n := 0) C (xE_ok _) hEz hR (kX_XS_save _ D cA ad hJ (x_ad (f_p1 (x_behind σ (σ.1 374 5) (σ.1 374 6)) 8 2 0) 377 c) (fun i => by rw [x_ad_o _ _ _ _ _ (by omega)]; show _ ≤ (x_behind σ (σ.1 374 5) (σ.1 374 6)).2 2 i ∧ (x_behind σ (σ.1 374 5) (σ.1 374 6)).2 2 i ≤ _; rw [x_behind_2 _ _ _ _ _ (by decide)]; exact hI.2 2 i)) dXA_keepDraft_54 (by show (1 : Nat) < 383; decide) rfl rfl gXA_222 (by decide +kernel) (by decide) (by decide) rfl (Nat.le_of_ble_eq_true rfl) rfl ⟨rfl, rfl⟩ (fun σ1 hp1 => ?_)
  subst σ1
  exact v_vret C hRt hLk dXA_keepDraft_57 rfl
