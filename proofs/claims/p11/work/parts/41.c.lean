def c_L0 (cA : Nat → ClassId) (h0 s a1 a2 a3 a4 a5 a6 f fb y r sc p d db dq t ta tb e n1 k1 : Nat) (g1 g2 : Nat → Nat) : va_W := [(h0, .inr (1, [.ref s, .ref f, .ref y, .ref sc, .ref d, .ref e])), (s, .inr (2, [.ref a1, .ref a2, .ref a3, .ref a4, .ref a5, .ref a6])), (a1, .inl (cA 2, 41, .inl (fun _ => fI 0))), (a2, .inl (cA 2, 41, .inl (fun _ => fI 0))), (a3, .inl (cA 0, 41, .inl (fun _ => fI 0))), (a4, .inl (cA 1, 4920, .inl (fun _ => fI 0))), (a5, .inl (cA 2, 41, .inl (fun _ => fI 0))), (a6, .inl (cA 2, 41, .inl (fun _ => fI 0))), (f, .inr (3, [.ref fb, .int (fI 0), .int (fI 0)])), (fb, .inl (cA 1, 12000, .inl (fun _ => fI 0))), (y, .inr (5, [.ref r, .int (fI 0)])), c_arr cA r 60 g1]
def c_L1 (cA : Nat → ClassId) (h0 s a1 a2 a3 a4 a5 a6 f fb y r sc p d db dq t ta tb e n1 k1 : Nat) (g1 g2 : Nat → Nat) : va_W := [(sc, .inr (6, [.ref f, .ref p, .int (fI 0), .int (fI 0), .int (fI 0)])), c_arr cA p 60 g2]
def c_L2 (cA : Nat → ClassId) (h0 s a1 a2 a3 a4 a5 a6 f fb y r sc p d db dq t ta tb e n1 k1 : Nat) (g1 g2 : Nat → Nat) : va_W := [(d, .inr (7, [.ref s, .ref db, .ref dq, .ref t, .int (fI 0), .int (fI 0), .int (fI 0)])), (db, .inl (cA 1, 6000, .inl (fun _ => fI 0))), (dq, .inl (cA 0, 40, .inl (fun _ => fI 0))), (t, .inr (4, [.ref ta, .ref tb, .int (fI 0), .int (fI 0)])), (ta, .inl (cA 0, 41, .inl (fun _ => fI 0))), (tb, .inl (cA 0, 41, .inl (fun _ => fI 0))), (e, .inr (8, [.ref n1, .ref k1, .int (fI 0)])), (n1, .inl (cA 0, 40, .inl (fun _ => fI 0))), (k1, .inl (cA 0, 40, .inl (fun _ => fI 0)))]
def c_all (cA : Nat → ClassId) (h0 s a1 a2 a3 a4 a5 a6 f fb y r sc p d db dq t ta tb e n1 k1 : Nat) (g1 g2 : Nat → Nat) : va_W := c_L0 cA h0 s a1 a2 a3 a4 a5 a6 f fb y r sc p d db dq t ta tb e n1 k1 g1 g2 ++ (c_tabs cA g1 60 ++ (c_L1 cA h0 s a1 a2 a3 a4 a5 a6 f fb y r sc p d db dq t ta tb e n1 k1 g1 g2 ++ (c_tabs cA g2 60 ++ c_L2 cA h0 s a1 a2 a3 a4 a5 a6 f fb y r sc p d db dq t ta tb e n1 k1 g1 g2)))
def c_adA (h0 s a1 a2 a3 a4 a5 a6 f fb y r sc p d db dq t ta tb e n1 k1 : Nat) (g1 g2 : Nat → Nat) : Nat → Nat := fun k => match k with
  | 0 => h0
  | 1 => s
  | 2 => a1
  | 3 => a2
  | 4 => a3
  | 5 => a4
  | 6 => a5
  | 7 => a6
  | 8 => f
  | 9 => fb
  | 10 => y
  | _ => r
def c_adB (h0 s a1 a2 a3 a4 a5 a6 f fb y r sc p d db dq t ta tb e n1 k1 : Nat) (g1 g2 : Nat → Nat) : Nat → Nat := fun k => match k with
  | 0 => d
  | 1 => db
  | 2 => dq
  | 3 => t
  | 4 => ta
  | 5 => tb
  | 6 => e
  | 7 => n1
  | _ => k1
def c_ad (h0 s a1 a2 a3 a4 a5 a6 f fb y r sc p d db dq t ta tb e n1 k1 : Nat) (g1 g2 : Nat → Nat) (k : Nat) : Nat := if k < 12 then c_adA h0 s a1 a2 a3 a4 a5 a6 f fb y r sc p d db dq t ta tb e n1 k1 g1 g2 k else if k < 192 then g1 (k - 12) else if k = 192 then sc else if k = 193 then p else if k < 374 then g2 (k - 194) else c_adB h0 s a1 a2 a3 a4 a5 a6 f fb y r sc p d db dq t ta tb e n1 k1 g1 g2 (k - 374)
theorem c_tabs_at (cA : Nat → ClassId) (g : Nat → Nat) (n i : Nat) (h : i < n) : (c_tabs cA g n)[3 * i]? = some (g (3 * i), .inr (4, [.ref (g (3 * i + 1)), .ref (g (3 * i + 2)), .int (fI 0), .int (fI 0)])) ∧ (c_tabs cA g n)[3 * i + 1]? = some (g (3 * i + 1), .inl (cA 0, 41, .inl (fun _ => fI 0))) ∧ (c_tabs cA g n)[3 * i + 2]? = some (g (3 * i + 2), .inl (cA 0, 41, .inl (fun _ => fI 0))) := by
  induction n with
  | zero => omega
  | succ n ih =>
    have hl := c_tabs_len cA g n
    unfold c_tabs
    by_cases e : i = n
    · subst e
      refine ⟨?_, ?_, ?_⟩
      · rw [List.getElem?_append_right (by omega), hl, show 3 * i - 3 * i = 0 by omega]; rfl
      · rw [List.getElem?_append_right (by omega), hl, show 3 * i + 1 - 3 * i = 1 by omega]; rfl
      · rw [List.getElem?_append_right (by omega), hl, show 3 * i + 2 - 3 * i = 2 by omega]; rfl
    · have h9 := ih (by omega)
      refine ⟨?_, ?_, ?_⟩
      · rw [List.getElem?_append_left (by omega)]; exact h9.1
      · rw [List.getElem?_append_left (by omega)]; exact h9.2.1
      · rw [List.getElem?_append_left (by omega)]; exact h9.2.2
theorem c_arrV {c : ClassId} {n : Nat} {f g : Nat → Value} (h : ∀ j, j < n → f j = g j) : arrV c n f = arrV c n g := by
  unfold arrV
  congr 1
  refine Array.ext (by simp) (fun i h1 h2 => ?_)
  simp
  exact h i (by simpa using h1)
section CF
variable {cA : Nat → ClassId} {h0 s a1 a2 a3 a4 a5 a6 f fb y r sc p d db dq t ta tb e n1 k1 : Nat} {g1 g2 : Nat → Nat}
theorem c_arr_at {D : va_G} {cl : List vw_C} {H : Heap} {q : Nat} {g : Nat → Nat} {F : Nat → Option Nat} (hF : ∀ j, j < 60 → F j = some (g (3 * j))) (h : va_at D cl (c_arr cA q 60 g) H) : va_at D cl (q, .inl (cA 3, 60, .inr (.inr (.inr (.inr F))))) H := by
  have h1 : H[q]? = some (vp_cell (cA 3) (60, .inr (.inr (.inr (.inr (fun j => if j < 60 then some (g (3 * j)) else none)))))) := h
  show H[q]? = some (vp_cell (cA 3) (60, .inr (.inr (.inr (.inr F)))))
  rw [h1, vp_cell_q, vp_cell_q]
  exact congrArg some (c_arrV (fun j hj => by show va_rf (if j < 60 then some (g (3 * j)) else none) = va_rf (F j); rw [if_pos hj, hF j hj]))
theorem c_idx (k : Nat) (hk : k < 383) : (k < 12 ∧ (c_all cA h0 s a1 a2 a3 a4 a5 a6 f fb y r sc p d db dq t ta tb e n1 k1 g1 g2)[k]? = (c_L0 cA h0 s a1 a2 a3 a4 a5 a6 f fb y r sc p d db dq t ta tb e n1 k1 g1 g2)[k]?) ∨ (∃ i j, i < 60 ∧ j < 3 ∧ k = 12 + 3 * i + j ∧ (c_all cA h0 s a1 a2 a3 a4 a5 a6 f fb y r sc p d db dq t ta tb e n1 k1 g1 g2)[k]? = (c_tabs cA g1 60)[3 * i + j]?) ∨ (192 ≤ k ∧ k < 194 ∧ (c_all cA h0 s a1 a2 a3 a4 a5 a6 f fb y r sc p d db dq t ta tb e n1 k1 g1 g2)[k]? = (c_L1 cA h0 s a1 a2 a3 a4 a5 a6 f fb y r sc p d db dq t ta tb e n1 k1 g1 g2)[k - 192]?) ∨ (∃ i j, i < 60 ∧ j < 3 ∧ k = 194 + 3 * i + j ∧ (c_all cA h0 s a1 a2 a3 a4 a5 a6 f fb y r sc p d db dq t ta tb e n1 k1 g1 g2)[k]? = (c_tabs cA g2 60)[3 * i + j]?) ∨ (374 ≤ k ∧ (c_all cA h0 s a1 a2 a3 a4 a5 a6 f fb y r sc p d db dq t ta tb e n1 k1 g1 g2)[k]? = (c_L2 cA h0 s a1 a2 a3 a4 a5 a6 f fb y r sc p d db dq t ta tb e n1 k1 g1 g2)[k - 374]?) := by
  have l0 : (c_L0 cA h0 s a1 a2 a3 a4 a5 a6 f fb y r sc p d db dq t ta tb e n1 k1 g1 g2).length = 12 := rfl
  have l1 : (c_L1 cA h0 s a1 a2 a3 a4 a5 a6 f fb y r sc p d db dq t ta tb e n1 k1 g1 g2).length = 2 := rfl
  have t1 := c_tabs_len cA g1 60
  have t2 := c_tabs_len cA g2 60
  unfold c_all
  by_cases h1 : k < 12
  · exact Or.inl ⟨h1, by rw [List.getElem?_append_left (by omega)]⟩
  rw [List.getElem?_append_right (by omega), l0]
  by_cases h2 : k < 192
  · refine Or.inr (Or.inl ⟨(k - 12) / 3, (k - 12) % 3, by omega, by omega, by omega, ?_⟩)
    rw [List.getElem?_append_left (by omega), show 3 * ((k - 12) / 3) + (k - 12) % 3 = k - 12 by omega]
  rw [List.getElem?_append_right (by omega), t1]
  by_cases h3 : k < 194
  · refine Or.inr (Or.inr (Or.inl ⟨by omega, h3, ?_⟩))
    rw [List.getElem?_append_left (by omega), show k - 12 - 3 * 60 = k - 192 by omega]
  rw [List.getElem?_append_right (by omega), l1]
  by_cases h4 : k < 374
  · refine Or.inr (Or.inr (Or.inr (Or.inl ⟨(k - 194) / 3, (k - 194) % 3, by omega, by omega, by omega, ?_⟩)))
    rw [List.getElem?_append_left (by omega), show 3 * ((k - 194) / 3) + (k - 194) % 3 = k - 12 - 3 * 60 - 2 by omega]
  rw [List.getElem?_append_right (by omega), t2]
  exact Or.inr (Or.inr (Or.inr (Or.inr ⟨by omega, by rw [show k - 12 - 3 * 60 - 2 - 3 * 60 = k - 374 by omega]⟩)))
theorem c_fit (D : va_G) (k : Nat) (hk : k < 383) : ∃ en, (c_all cA h0 s a1 a2 a3 a4 a5 a6 f fb y r sc p d db dq t ta tb e n1 k1 g1 g2)[k]? = some (c_ad h0 s a1 a2 a3 a4 a5 a6 f fb y r sc p d db dq t ta tb e n1 k1 g1 g2 k, en) ∧ ∀ H, va_at D ((RM, TM, 32) :: xCl) (c_ad h0 s a1 a2 a3 a4 a5 a6 f fb y r sc p d db dq t ta tb e n1 k1 g1 g2 k, en) H → va_at D ((RM, TM, 32) :: xCl) (c_ad h0 s a1 a2 a3 a4 a5 a6 f fb y r sc p d db dq t ta tb e n1 k1 g1 g2 k, f_cell (c_ad h0 s a1 a2 a3 a4 a5 a6 f fb y r sc p d db dq t ta tb e n1 k1 g1 g2) cA x_0 k (xY k)) H := by
  have hg1 : ∀ m, m < 180 → c_ad h0 s a1 a2 a3 a4 a5 a6 f fb y r sc p d db dq t ta tb e n1 k1 g1 g2 (12 + m) = g1 m := fun m hm => by
    unfold c_ad
    rw [if_neg (by omega), if_pos (by omega), show 12 + m - 12 = m by omega]
  have hg2 : ∀ m, m < 180 → c_ad h0 s a1 a2 a3 a4 a5 a6 f fb y r sc p d db dq t ta tb e n1 k1 g1 g2 (194 + m) = g2 m := fun m hm => by
    unfold c_ad
    rw [if_neg (by omega), if_neg (by omega), if_neg (by omega), if_neg (by omega), if_pos (by omega), show 194 + m - 194 = m by omega]
  rcases c_idx (cA := cA) (h0 := h0) (s := s) (a1 := a1) (a2 := a2) (a3 := a3) (a4 := a4) (a5 := a5) (a6 := a6) (f := f) (fb := fb) (y := y) (r := r) (sc := sc) (p := p) (d := d) (db := db) (dq := dq) (t := t) (ta := ta) (tb := tb) (e := e) (n1 := n1) (k1 := k1) (g1 := g1) (g2 := g2) k hk with ⟨h1, h2⟩ | ⟨i, j, hi, hj, rfl, h2⟩ | ⟨h1, h3, h2⟩ | ⟨i, j, hi, hj, rfl, h2⟩ | ⟨h1, h2⟩
  · rw [h2]
    rcases (show k = 0 ∨ k = 1 ∨ k = 2 ∨ k = 3 ∨ k = 4 ∨ k = 5 ∨ k = 6 ∨ k = 7 ∨ k = 8 ∨ k = 9 ∨ k = 10 ∨ k = 11 by omega) with rfl | rfl | rfl | rfl | rfl | rfl | rfl | rfl | rfl | rfl | rfl | rfl
    · exact ⟨_, rfl, fun H h => h⟩
    · exact ⟨_, rfl, fun H h => h⟩
    · exact ⟨_, rfl, fun H h => h⟩
    · exact ⟨_, rfl, fun H h => h⟩
    · exact ⟨_, rfl, fun H h => h⟩
    · exact ⟨_, rfl, fun H h => h⟩
    · exact ⟨_, rfl, fun H h => h⟩
    · exact ⟨_, rfl, fun H h => h⟩
    · exact ⟨_, rfl, fun H h => h⟩
    · exact ⟨_, rfl, fun H h => h⟩
    · exact ⟨_, rfl, fun H h => h⟩
    · refine ⟨_, rfl, fun H h => c_arr_at (g := g1) (fun q hq => ?_) h⟩
      show some (c_ad h0 s a1 a2 a3 a4 a5 a6 f fb y r sc p d db dq t ta tb e n1 k1 g1 g2 (12 + 3 * q)) = some (g1 (3 * q))
      rw [hg1 _ (by omega)]
  · have h9 := c_tabs_at cA g1 60 i hi
    rw [h2]
    rcases (show j = 0 ∨ j = 1 ∨ j = 2 by omega) with rfl | rfl | rfl
    · refine ⟨_, by rw [Nat.add_zero, Nat.add_zero, hg1 _ (by omega)]; exact h9.1, fun H h => ?_⟩
      rw [Nat.add_zero] at h ⊢
      rw [xY_h0 i hi]
      show va_at D _ (_, .inr (4, [.ref (c_ad h0 s a1 a2 a3 a4 a5 a6 f fb y r sc p d db dq t ta tb e n1 k1 g1 g2 (12 + 3 * i + 1)), .ref (c_ad h0 s a1 a2 a3 a4 a5 a6 f fb y r sc p d db dq t ta tb e n1 k1 g1 g2 (12 + 3 * i + 2)), .int (fI 0), .int (fI 0)])) H
      rw [show 12 + 3 * i + 1 = 12 + (3 * i + 1) by omega, show 12 + 3 * i + 2 = 12 + (3 * i + 2) by omega, hg1 (3 * i + 1) (by omega), hg1 (3 * i + 2) (by omega)]
      exact h
    · refine ⟨_, by rw [Nat.add_assoc, hg1 _ (by omega)]; exact h9.2.1, fun H h => ?_⟩
      rw [xY_h1 i hi]
      exact h
    · refine ⟨_, by rw [Nat.add_assoc, hg1 _ (by omega)]; exact h9.2.2, fun H h => ?_⟩
      rw [xY_h2 i hi]
      exact h
  · rw [h2]
    rcases (show k = 192 ∨ k = 193 by omega) with rfl | rfl
    · exact ⟨_, rfl, fun H h => h⟩
    · refine ⟨_, rfl, fun H h => c_arr_at (g := g2) (fun q hq => ?_) h⟩
      show some (c_ad h0 s a1 a2 a3 a4 a5 a6 f fb y r sc p d db dq t ta tb e n1 k1 g1 g2 (194 + 3 * q)) = some (g2 (3 * q))
      rw [hg2 _ (by omega)]
  · have h9 := c_tabs_at cA g2 60 i hi
    rw [h2]
    rcases (show j = 0 ∨ j = 1 ∨ j = 2 by omega) with rfl | rfl | rfl
    · refine ⟨_, by rw [Nat.add_zero, Nat.add_zero, hg2 _ (by omega)]; exact h9.1, fun H h => ?_⟩
      rw [Nat.add_zero] at h ⊢
      rw [xY_c0 i hi]
      show va_at D _ (_, .inr (4, [.ref (c_ad h0 s a1 a2 a3 a4 a5 a6 f fb y r sc p d db dq t ta tb e n1 k1 g1 g2 (194 + 3 * i + 1)), .ref (c_ad h0 s a1 a2 a3 a4 a5 a6 f fb y r sc p d db dq t ta tb e n1 k1 g1 g2 (194 + 3 * i + 2)), .int (fI 0), .int (fI 0)])) H
      rw [show 194 + 3 * i + 1 = 194 + (3 * i + 1) by omega, show 194 + 3 * i + 2 = 194 + (3 * i + 2) by omega, hg2 (3 * i + 1) (by omega), hg2 (3 * i + 2) (by omega)]
      exact h
    · refine ⟨_, by rw [Nat.add_assoc, hg2 _ (by omega)]; exact h9.2.1, fun H h => ?_⟩
      rw [xY_c1 i hi]
      exact h
    · refine ⟨_, by rw [Nat.add_assoc, hg2 _ (by omega)]; exact h9.2.2, fun H h => ?_⟩
      rw [xY_c2 i hi]
      exact h
  · rw [h2]
    rcases (show k = 374 ∨ k = 375 ∨ k = 376 ∨ k = 377 ∨ k = 378 ∨ k = 379 ∨ k = 380 ∨ k = 381 ∨ k = 382 by omega) with rfl | rfl | rfl | rfl | rfl | rfl | rfl | rfl | rfl
    · exact ⟨_, rfl, fun H h => h⟩
    · exact ⟨_, rfl, fun H h => h⟩
    · exact ⟨_, rfl, fun H h => h⟩
    · exact ⟨_, rfl, fun H h => h⟩
    · exact ⟨_, rfl, fun H h => h⟩
    · exact ⟨_, rfl, fun H h => h⟩
    · exact ⟨_, rfl, fun H h => h⟩
    · exact ⟨_, rfl, fun H h => h⟩
    · exact ⟨_, rfl, fun H h => h⟩
end CF
/-- cells that are the class's world, all its numbers 0 -/
def c_ok (D : va_G) (cA : Nat → ClassId) (h0 : Nat) (w : va_W) : Prop := ∃ ad : Nat → Nat, ad 0 = h0 ∧ (∀ k, k < 383 → ∃ en, w[k]? = some (ad k, en)) ∧ ∀ H, va_P D ((RM, TM, 32) :: xCl) w H → f_W (xG D cA ad) x_0 H
theorem c_fin (D : va_G) (cA : Nat → ClassId) (h0 s a1 a2 a3 a4 a5 a6 f fb y r sc p d db dq t ta tb e n1 k1 : Nat) (g1 g2 : Nat → Nat) : c_ok D cA h0 (c_all cA h0 s a1 a2 a3 a4 a5 a6 f fb y r sc p d db dq t ta tb e n1 k1 g1 g2) := by
  refine ⟨c_ad h0 s a1 a2 a3 a4 a5 a6 f fb y r sc p d db dq t ta tb e n1 k1 g1 g2, rfl, fun k hk => ?_, fun H hP k q hq => ?_⟩
  · obtain ⟨en, h1, -⟩ := c_fit (cA := cA) (h0 := h0) (s := s) (a1 := a1) (a2 := a2) (a3 := a3) (a4 := a4) (a5 := a5) (a6 := a6) (f := f) (fb := fb) (y := y) (r := r) (sc := sc) (p := p) (d := d) (db := db) (dq := dq) (t := t) (ta := ta) (tb := tb) (e := e) (n1 := n1) (k1 := k1) (g1 := g1) (g2 := g2) D k hk
    exact ⟨en, h1⟩
  · obtain ⟨hk, rfl⟩ := f_w_inv hq
    obtain ⟨en, h1, h2⟩ := c_fit (cA := cA) (h0 := h0) (s := s) (a1 := a1) (a2 := a2) (a3 := a3) (a4 := a4) (a5 := a5) (a6 := a6) (f := f) (fb := fb) (y := y) (r := r) (sc := sc) (p := p) (d := d) (db := db) (dq := dq) (t := t) (ta := ta) (tb := tb) (e := e) (n1 := n1) (k1 := k1) (g1 := g1) (g2 := g2) D k hk
    exact h2 H (hP k _ h1)
set_option maxRecDepth 100000 in
set_option maxHeartbeats 4000000 in
/-- a new RevisionWrite -/
theorem cX_XA (l : Launch) (D : va_G) (cA : Nat → ClassId) (h0 : Nat)  : c_M l D ((RM, TM, 32) :: xCl) (w_tys cA) yXA_init (Cond.code yXA_init cXA_init 1 none :: A9) 3 382 33797 h0 (.inr (1, [.null, .null, .null, .null, .null, .null])) [.ref h0] (fun w => c_ok D cA h0 w) := by
  refine c_enter (by decide +kernel) rfl rfl (Nat.le_of_ble_eq_true rfl) ?_
  intro z hzl hR C hRt hLk
  subst hzl
  refine c_aload_n C dXA_init_0 rfl rfl ?_
  refine c_obj C (in9 (by decide +kernel) rfl) (in9 (by decide +kernel) rfl) (in9 (by decide +kernel) rfl) dXA_init_1 (by rw [hR]; exact ⟨by decide, by decide⟩) ?_
  refine c_aload_n C dXA_init_4 rfl rfl ?_
  refine c_new (ci := 2) (fs := [.null, .null, .null, .null, .null, .null]) C inXS tyXS_ok (in9 (by decide +kernel) rfl) (in9 (by decide +kernel) rfl) iXS rfl (by decide +kernel) dXA_init_5 (by rw [hR]; exact ⟨by decide, by decide⟩) (fun q5 => ?_)
  refine c_dup C dXA_init_8 rfl ?_
  refine c_call (n := 0) C (cX_XS _ D cA q5) dXA_init_9 (Or.inl ⟨RXA, C.2.2.2.2.2.2.2.2.1 _ (by decide +kernel)⟩) (in9 (by decide +kernel) rfl) iXS wXS_init (by decide +kernel) (by rw [hR]; exact ⟨by decide, by decide, by decide, by decide⟩) rfl (Nat.le_of_ble_eq_true rfl) rfl (fun w9 hw9 => ?_)
  obtain ⟨a1, a2, a3, a4, a5, a6, hw9⟩ := hw9
  subst hw9
  refine c_put (q0 := 0) (k := 0) (ci := 1) C inXA tyXA_ok nmXA rfl rfl (by decide) lXA_10 rfl rfl rfl (tyXA_ok 0 (by decide)) rfl rfl (Nat.le_of_ble_eq_true rfl) dXA_init_12 ?_
  refine c_aload_n C dXA_init_15 rfl rfl ?_
  refine c_new (ci := 3) (fs := [.null, .int (fI 0), .int (fI 0)]) C inXF tyXF_ok (in9 (by decide +kernel) rfl) (in9 (by decide +kernel) rfl) iXF rfl (by decide +kernel) dXA_init_16 (by rw [hR]; exact ⟨by decide, by decide⟩) (fun q16 => ?_)
  refine c_dup C dXA_init_19 rfl ?_
  refine c_call (n := 0) C (cX_XF _ D cA q16) dXA_init_20 (Or.inl ⟨RXA, C.2.2.2.2.2.2.2.2.1 _ (by decide +kernel)⟩) (in9 (by decide +kernel) rfl) iXF wXF_init (by decide +kernel) (by rw [hR]; exact ⟨by decide, by decide, by decide, by decide⟩) rfl (Nat.le_of_ble_eq_true rfl) rfl (fun w20 hw20 => ?_)
  obtain ⟨fb, hw20⟩ := hw20
  subst hw20
  refine c_put (q0 := 0) (k := 1) (ci := 1) C inXA tyXA_ok nmXA rfl rfl (by decide) lXA_19 rfl rfl rfl (tyXA_ok 1 (by decide)) rfl rfl (Nat.le_of_ble_eq_true rfl) dXA_init_23 ?_
  refine c_aload_n C dXA_init_26 rfl rfl ?_
  refine c_new (ci := 5) (fs := [.null, .int (fI 0)]) C inXH tyXH_ok (in9 (by decide +kernel) rfl) (in9 (by decide +kernel) rfl) iXH rfl (by decide +kernel) dXA_init_27 (by rw [hR]; exact ⟨by decide, by decide⟩) (fun q27 => ?_)
  refine c_dup C dXA_init_30 rfl ?_
  refine c_call (n := 0) C (cX_XH _ D cA q27) dXA_init_31 (Or.inr (in9 (by decide +kernel) rfl)) (in9 (by decide +kernel) rfl) iXH wXH_init (by decide +kernel) (by rw [hR]; exact ⟨by decide, by decide, by decide, by decide⟩) rfl (Nat.le_of_ble_eq_true rfl) rfl (fun w31 hw31 => ?_)
  obtain ⟨r, g1, hw31⟩ := hw31
  subst hw31
  refine c_put (q0 := 0) (k := 2) (ci := 1) C inXA tyXA_ok nmXA rfl rfl (by decide) lXA_26 rfl rfl rfl (tyXA_ok 2 (by decide)) rfl rfl (Nat.le_of_ble_eq_true rfl) dXA_init_34 ?_
  refine c_aload_n C dXA_init_37 rfl rfl ?_
  refine c_new (ci := 6) (fs := [.null, .null, .int (fI 0), .int (fI 0), .int (fI 0)]) C inXC tyXC_ok (in9 (by decide +kernel) rfl) (in9 (by decide +kernel) rfl) iXC rfl (by decide +kernel) dXA_init_38 (by rw [hR]; exact ⟨by decide, by decide⟩) (fun q38 => ?_)
  refine c_dup C dXA_init_41 rfl ?_
  refine c_aload_n C dXA_init_42 rfl rfl ?_
  refine c_get (q0 := 0) (k := 1) (ci := 1) C inXA rfl rfl (by decide) lXA_19 rfl rfl dXA_init_43 ?_
  refine c_call (n := 1) C (cX_XC _ D cA q38 q16) dXA_init_46 (Or.inr (in9 (by decide +kernel) rfl)) (in9 (by decide +kernel) rfl) iXC wXC_init (by decide +kernel) (by rw [hR]; exact ⟨by decide, by decide, by decide, by decide⟩) rfl (Nat.le_of_ble_eq_true rfl) rfl (fun w46 hw46 => ?_)
  obtain ⟨p, g2, hw46⟩ := hw46
  subst hw46
  refine c_put (q0 := 0) (k := 3) (ci := 1) C inXA tyXA_ok nmXA rfl rfl (by decide) lXA_35 rfl rfl rfl (tyXA_ok 3 (by decide)) rfl rfl (Nat.le_of_ble_eq_true rfl) dXA_init_49 ?_
  refine c_aload_n C dXA_init_52 rfl rfl ?_
  refine c_new (ci := 7) (fs := [.null, .null, .null, .null, .int (fI 0), .int (fI 0), .int (fI 0)]) C inXD tyXD_ok (in9 (by decide +kernel) rfl) (in9 (by decide +kernel) rfl) iXD rfl (by decide +kernel) dXA_init_53 (by rw [hR]; exact ⟨by decide, by decide⟩) (fun q53 => ?_)
  refine c_dup C dXA_init_56 rfl ?_
  refine c_aload_n C dXA_init_57 rfl rfl ?_
  refine c_get (q0 := 0) (k := 0) (ci := 1) C inXA rfl rfl (by decide) lXA_10 rfl rfl dXA_init_58 ?_
  refine c_call (n := 1) C (cX_XD _ D cA q53 q5) dXA_init_61 (Or.inr (in9 (by decide +kernel) rfl)) (in9 (by decide +kernel) rfl) iXD wXD_init (by decide +kernel) (by rw [hR]; exact ⟨by decide, by decide, by decide, by decide⟩) rfl (Nat.le_of_ble_eq_true rfl) rfl (fun w61 hw61 => ?_)
  obtain ⟨db, dq, t, ta, tb, hw61⟩ := hw61
  subst hw61
  refine c_put (q0 := 0) (k := 4) (ci := 1) C inXA tyXA_ok nmXA rfl rfl (by decide) lXA_44 rfl rfl rfl (tyXA_ok 4 (by decide)) rfl rfl (Nat.le_of_ble_eq_true rfl) dXA_init_64 ?_
  refine c_aload_n C dXA_init_67 rfl rfl ?_
  refine c_new (ci := 8) (fs := [.null, .null, .int (fI 0)]) C inXG tyXG_ok (in9 (by decide +kernel) rfl) (in9 (by decide +kernel) rfl) iXG rfl (by decide +kernel) dXA_init_68 (by rw [hR]; exact ⟨by decide, by decide⟩) (fun q68 => ?_)
  refine c_dup C dXA_init_71 rfl ?_
  refine c_call (n := 0) C (cX_XG _ D cA q68) dXA_init_72 (Or.inl ⟨RXA, C.2.2.2.2.2.2.2.2.1 _ (by decide +kernel)⟩) (in9 (by decide +kernel) rfl) iXG wXG_init (by decide +kernel) (by rw [hR]; exact ⟨by decide, by decide, by decide, by decide⟩) rfl (Nat.le_of_ble_eq_true rfl) rfl (fun w72 hw72 => ?_)
  obtain ⟨n1, k1, hw72⟩ := hw72
  subst hw72
  refine c_put (q0 := 0) (k := 5) (ci := 1) C inXA tyXA_ok nmXA rfl rfl (by decide) lXA_51 rfl rfl rfl (tyXA_ok 5 (by decide)) rfl rfl (Nat.le_of_ble_eq_true rfl) dXA_init_75 ?_
  exact c_ret C hRt hLk dXA_init_78 ⟨by decide, by decide⟩ (by have hfin := c_fin D cA h0 q5 a1 a2 a3 a4 a5 a6 q16 fb q27 r q38 p q53 db dq t ta tb q68 n1 k1 g1 g2; unfold c_all c_L0 c_L1 c_L2 at hfin; simpa only [c_tab, List.append_assoc, List.cons_append, List.nil_append, List.singleton_append, List.set_cons_zero, List.set_cons_succ] using hfin)
