def RXJ : String := "java/util/Arrays"
theorem iXJ : Cond.initialized RXJ ∈ A9 := in9 (by decide +kernel) rfl
abbrev cXJ_fillB : ByteArray := prog_28_method_110_code
def yXJ_fillB : MethodName := ⟨RXJ, "fill", "([BIIB)V"⟩
theorem wXJ_fillB : Cond.code yXJ_fillB cXJ_fillB 5 none ∈ A9 := in9 (by decide +kernel) rfl
theorem dXJ_fillB_0 : decode cXJ_fillB 0 = .ok (.aload_n 0, 1) := by decide +kernel
theorem dXJ_fillB_1 : decode cXJ_fillB 1 = .ok (.arraylength, 1) := by decide +kernel
theorem dXJ_fillB_2 : decode cXJ_fillB 2 = .ok (.iload_n 1, 1) := by decide +kernel
theorem dXJ_fillB_3 : decode cXJ_fillB 3 = .ok (.iload_n 2, 1) := by decide +kernel
theorem dXJ_fillB_4 : decode cXJ_fillB 4 = .ok (.invokestatic 13, 3) := by decide +kernel
theorem dXJ_fillB_7 : decode cXJ_fillB 7 = .ok (.iload_n 1, 1) := by decide +kernel
theorem dXJ_fillB_8 : decode cXJ_fillB 8 = .ok (.istore 4, 2) := by decide +kernel
theorem dXJ_fillB_10 : decode cXJ_fillB 10 = .ok (.iload 4, 2) := by decide +kernel
theorem dXJ_fillB_12 : decode cXJ_fillB 12 = .ok (.iload_n 2, 1) := by decide +kernel
theorem dXJ_fillB_13 : decode cXJ_fillB 13 = .ok (.if_icmp .ge 14, 3) := by decide +kernel
theorem dXJ_fillB_16 : decode cXJ_fillB 16 = .ok (.aload_n 0, 1) := by decide +kernel
theorem dXJ_fillB_17 : decode cXJ_fillB 17 = .ok (.iload 4, 2) := by decide +kernel
theorem dXJ_fillB_19 : decode cXJ_fillB 19 = .ok (.iload_n 3, 1) := by decide +kernel
theorem dXJ_fillB_20 : decode cXJ_fillB 20 = .ok (.bastore, 1) := by decide +kernel
theorem dXJ_fillB_21 : decode cXJ_fillB 21 = .ok (.iinc 4 1, 3) := by decide +kernel
theorem dXJ_fillB_24 : decode cXJ_fillB 24 = .ok (.goto (-14), 3) := by decide +kernel
theorem dXJ_fillB_27 : decode cXJ_fillB 27 = .ok (.return_, 1) := by decide +kernel
abbrev cXJ_fillI : ByteArray := prog_28_method_103_code
def yXJ_fillI : MethodName := ⟨RXJ, "fill", "([II)V"⟩
theorem wXJ_fillI : Cond.code yXJ_fillI cXJ_fillI 4 none ∈ A9 := in9 (by decide +kernel) rfl
theorem dXJ_fillI_0 : decode cXJ_fillI 0 = .ok (.iconst 0, 1) := by decide +kernel
theorem dXJ_fillI_1 : decode cXJ_fillI 1 = .ok (.istore_n 2, 1) := by decide +kernel
theorem dXJ_fillI_2 : decode cXJ_fillI 2 = .ok (.aload_n 0, 1) := by decide +kernel
theorem dXJ_fillI_3 : decode cXJ_fillI 3 = .ok (.arraylength, 1) := by decide +kernel
theorem dXJ_fillI_4 : decode cXJ_fillI 4 = .ok (.istore_n 3, 1) := by decide +kernel
theorem dXJ_fillI_5 : decode cXJ_fillI 5 = .ok (.iload_n 2, 1) := by decide +kernel
theorem dXJ_fillI_6 : decode cXJ_fillI 6 = .ok (.iload_n 3, 1) := by decide +kernel
theorem dXJ_fillI_7 : decode cXJ_fillI 7 = .ok (.if_icmp .ge 13, 3) := by decide +kernel
theorem dXJ_fillI_10 : decode cXJ_fillI 10 = .ok (.aload_n 0, 1) := by decide +kernel
theorem dXJ_fillI_11 : decode cXJ_fillI 11 = .ok (.iload_n 2, 1) := by decide +kernel
theorem dXJ_fillI_12 : decode cXJ_fillI 12 = .ok (.iload_n 1, 1) := by decide +kernel
theorem dXJ_fillI_13 : decode cXJ_fillI 13 = .ok (.iastore, 1) := by decide +kernel
theorem dXJ_fillI_14 : decode cXJ_fillI 14 = .ok (.iinc 2 1, 3) := by decide +kernel
theorem dXJ_fillI_17 : decode cXJ_fillI 17 = .ok (.goto (-12), 3) := by decide +kernel
theorem dXJ_fillI_20 : decode cXJ_fillI 20 = .ok (.return_, 1) := by decide +kernel
abbrev cXJ_rangeCheck : ByteArray := prog_28_method_30_code
def yXJ_rangeCheck : MethodName := ⟨RXJ, "rangeCheck", "(III)V"⟩
theorem wXJ_rangeCheck : Cond.code yXJ_rangeCheck cXJ_rangeCheck 3 none ∈ A9 := in9 (by decide +kernel) rfl
theorem dXJ_rangeCheck_0 : decode cXJ_rangeCheck 0 = .ok (.iload_n 1, 1) := by decide +kernel
theorem dXJ_rangeCheck_1 : decode cXJ_rangeCheck 1 = .ok (.iload_n 2, 1) := by decide +kernel
theorem dXJ_rangeCheck_2 : decode cXJ_rangeCheck 2 = .ok (.if_icmp .le 44, 3) := by decide +kernel
theorem dXJ_rangeCheck_21 : decode cXJ_rangeCheck 21 = .ok (.iload_n 1, 1) := by decide +kernel
theorem dXJ_rangeCheck_30 : decode cXJ_rangeCheck 30 = .ok (.iload_n 2, 1) := by decide +kernel
theorem dXJ_rangeCheck_46 : decode cXJ_rangeCheck 46 = .ok (.iload_n 1, 1) := by decide +kernel
theorem dXJ_rangeCheck_47 : decode cXJ_rangeCheck 47 = .ok (.ifCond .ge 12, 3) := by decide +kernel
theorem dXJ_rangeCheck_54 : decode cXJ_rangeCheck 54 = .ok (.iload_n 1, 1) := by decide +kernel
theorem dXJ_rangeCheck_59 : decode cXJ_rangeCheck 59 = .ok (.iload_n 2, 1) := by decide +kernel
theorem dXJ_rangeCheck_60 : decode cXJ_rangeCheck 60 = .ok (.iload_n 0, 1) := by decide +kernel
theorem dXJ_rangeCheck_61 : decode cXJ_rangeCheck 61 = .ok (.if_icmp .le 12, 3) := by decide +kernel
theorem dXJ_rangeCheck_68 : decode cXJ_rangeCheck 68 = .ok (.iload_n 2, 1) := by decide +kernel
theorem dXJ_rangeCheck_73 : decode cXJ_rangeCheck 73 = .ok (.return_, 1) := by decide +kernel
theorem gXJ_13 : GoodIn A9 (va_wsS RXJ 13 yXJ_rangeCheck (Cond.code yXJ_rangeCheck cXJ_rangeCheck 3 none :: A9)) := g9S (in9 (by decide +kernel) rfl) (in9 (by decide +kernel) rfl) iXJ wXJ_rangeCheck
theorem gXS_39 : GoodIn A9 (va_wsS RXS 39 yXJ_fillB (Cond.code yXJ_fillB cXJ_fillB 5 none :: A9)) := g9S (in9 (by decide +kernel) rfl) (in9 (by decide +kernel) rfl) iXJ wXJ_fillB
theorem gXT_18 : GoodIn A9 (va_wsS RXT 18 yXJ_fillI (Cond.code yXJ_fillI cXJ_fillI 4 none :: A9)) := g9S (in9 (by decide +kernel) rfl) (in9 (by decide +kernel) rfl) iXJ wXJ_fillI
theorem v_less0 {z : fZ} {G : fG} {nL : Nat} {Q : State → Prop} {kc ks : Nat} {σ σ1 : fS} {pc : Nat} {lv : List (Option Value)} {st : List Value} (h : σ = σ1) (k : fv z G nL Q kc ks σ1 pc lv st) : fv z G nL Q kc ks σ pc lv st := h ▸ k
def x_fill (σ : fS) (k : Nat) (a b v : Int) : fS := f_pa σ k (fun q => if a ≤ q ∧ (q : Int) < b then v else σ.2 k q)
theorem x_fill_0 (σ : fS) (k : Nat) (a v : Int) : x_fill σ k a a v = σ := by
  refine fS_ext (fun _ _ => rfl) (fun x q => ?_)
  show (f_pa σ k _).2 x q = _
  rw [pa_2]
  split
  · rename_i h; subst h; exact if_neg (by omega)
  · rfl
theorem x_fill_s (σ : fS) (k : Nat) (a j v : Int) (h : 0 ≤ a) (ha : a ≤ j) : f_p2 (x_fill σ k a j v) k j.toNat v = x_fill σ k a (j + 1) v := by
  refine fS_ext (fun _ _ => rfl) (fun x q => ?_)
  rw [p2_2]
  show _ = (f_pa σ k _).2 x q
  rw [pa_2]
  by_cases hx : x = k
  · subst hx
    rw [if_pos rfl]
    by_cases hq : q = j.toNat
    · rw [if_pos ⟨rfl, hq⟩, if_pos (by omega)]
    · rw [if_neg (by omega)]
      show (f_pa σ x _).2 x q = _
      rw [pa_2, if_pos rfl]
      by_cases h2 : a ≤ (q : Int) ∧ (q : Int) < j
      · rw [if_pos h2, if_pos (by omega)]
      · rw [if_neg h2, if_neg (by omega)]
  · rw [if_neg (by omega), if_neg hx]
    show (f_pa σ k _).2 x q = _
    rw [pa_2, if_neg hx]
section XJ
variable {z : fZ} {G : fG} {cc : ByteArray} {nL : Nat} {own : String} {Q : State → Prop} {kc ks : Nat} {σ : fS} {pc : Nat} {lv : List (Option Value)} {st : List Value}
/-- System.arraycopy between two arrays of numbers -/
theorem v_copy (C : fc z G cc nL own) {k0 k1 t n0 n1 index : Nat} {sp dp n : Int} {ty : FieldType} (hlink : Cond.methodLink own index arraycopyName ∈ A9) (hnat : Cond.native arraycopyName ∈ A9) (hstat : Cond.static arraycopyName ∈ A9) (hini : Cond.initialized "java/lang/System" ∈ A9)
    (hN0 : k0 < G.2.2.2.2.2.2) (hY0 : G.2.2.2.2.2.1 k0 = .inr (.inl (t, n0))) (hN1 : k1 < G.2.2.2.2.2.2) (hY1 : G.2.2.2.2.2.1 k1 = .inr (.inl (t, n1))) (ht : G.2.2.1[t]? = some (G.2.2.2.2.1 t, ty)) (hprim : refKind ty = false) (hs : 0 ≤ sp ∧ sp ≤ 2147483647) (hd : 0 ≤ dp ∧ dp ≤ 2147483647) (hn : 0 ≤ n ∧ n ≤ 2147483647) (h0 : sp + n ≤ n0) (h1 : dp + n ≤ n1)
    (hfit : ∀ i, fits ty (.int (fI (σ.2 k0 i))) = true) (hR : 1 ≤ z.2.2.2.1.frames ∧ (st.map fun v => v.category).sum + (nativeFrameWords "java/lang/System" "arraycopy" 5 + 11) ≤ z.2.2.2.1.locals) (dg : decode cc pc = .ok (.invokestatic index, 3))
    (kk : fv z G nL Q kc ks (f_pa σ k1 (fun q => if dp.toNat ≤ q ∧ q < dp.toNat + n.toNat then σ.2 k0 (sp.toNat + (q - dp.toNat)) else σ.2 k1 q)) (pc + 3) lv st) : fv z G nL Q kc ks σ pc lv (.int (fI n) :: .int (fI dp) :: .ref (G.2.2.2.1 k1) :: .int (fI sp) :: .ref (G.2.2.2.1 k0) :: st) := by
  intro H locs ls hP hS hl
  have c1 := fI_clamp hs.1 hs.2
  have c2 := fI_clamp hd.1 hd.2
  have c3 := fI_clamp hn.1 hn.2
  refine va_copyi (ty := ty) C.1 C.2.1 (C.2.2.1.trans hl.1.symm) C.2.2.2.1 (C.2.2.2.2.1 _ hlink) (C.2.2.2.2.1 _ hnat) (C.2.2.2.2.1 _ hstat) (C.2.2.2.2.1 _ hini) C.2.2.2.2.2.1 hP (f_D C.2.2.2.2.2.2) hS k0 k1 t t (f_at2 hN0 hY0) (f_at2 hN1 hY1) ht ht hprim ?_ ?_ ?_ (by rw [c1, c3]; omega) (by rw [c2, c3]; omega) (fun i _ => hfit _) hR.1 hR.2 dg ?_
  · rw [← fI_0, fI_lt (by omega) (by omega)]; omega
  · rw [← fI_0, fI_lt (by omega) (by omega)]; omega
  · rw [← fI_0, fI_lt (by omega) (by omega)]; omega
  · intro H1 locs1 hP1 _ hS1
    refine kk H1 locs1 ls ?_ hS1 hl
    rw [c1, c2, c3, f_set2 (g := fun q => if dp.toNat ≤ q ∧ q < dp.toNat + n.toNat then σ.2 k0 (sp.toNat + (q - dp.toNat)) else σ.2 k1 q) hY1 (fun q => by unfold va_cpy; split <;> rfl)] at hP1
    exact hP1
/-- the first line's static array: its reference, length, bytes -/
theorem v_fl (C : fc z G cc nL own) (hE : xE G z.2.2.2.2.1.heap.size z.2.2.2.2.1) {index : Nat} (hlink : Cond.fieldLinkNest own index RXA "FIRST_LINE" "[B" RXA ∈ x_nest) (dg : decode cc pc = .ok (.getstatic index, 3))
    (kk : ∀ t, va_T .byte t 4 (fun j => .int (fI (x_fl j))) (f_A G z.2.2.2.2.1.heap.size) z.2.2.2.2.1 z.2.2.2.2.1.heap → fv z G nL Q kc ks σ (pc + 3) lv (.ref t :: st)) : fv z G nL Q kc ks σ pc lv st := by
  obtain ⟨-, -, -, h4, -, -, t, h5, h6⟩ := hE
  intro H locs ls hP hS hl
  exact va_getsN C.1 C.2.1 h5 hS C.2.2.2.1 (va_Nw.use rfl (h4 _ hlink)) (fun x h => h) dg (kk t h6 H locs ls hP hS hl)
theorem v_fln (C : fc z G cc nL own) {t : Nat} (hT : va_T .byte t 4 (fun j => .int (fI (x_fl j))) (f_A G z.2.2.2.2.1.heap.size) z.2.2.2.2.1 z.2.2.2.2.1.heap) (dg : decode cc pc = .ok (.arraylength, 1)) (kk : fv z G nL Q kc ks σ (pc + 1) lv (.int (fI 4) :: st)) : fv z G nL Q kc ks σ pc lv (.ref t :: st) :=
  fun H locs ls hP hS hl => va_tlen C.1 C.2.1 hT hS (by decide +kernel) dg (kk H locs ls hP hS hl)
theorem v_flb (C : fc z G cc nL own) {t : Nat} {i : Int} (hT : va_T .byte t 4 (fun j => .int (fI (x_fl j))) (f_A G z.2.2.2.2.1.heap.size) z.2.2.2.2.1 z.2.2.2.2.1.heap) (hi : 0 ≤ i ∧ i < 4) (dg : decode cc pc = .ok (.baload, 1)) (kk : fv z G nL Q kc ks σ (pc + 1) lv (.int (fI (x_fl i.toNat)) :: st)) : fv z G nL Q kc ks σ pc lv (.int (fI i) :: .ref t :: st) :=
  fun H locs ls hP hS hl => va_tb C.1 C.2.1 hT hS (fI_in hi.1 hi.2 (by decide)) (by rw [fI_clamp hi.1 (by omega)]) dg (kk H locs ls hP hS hl)
end XJ
set_option maxRecDepth 100000 in
set_option maxHeartbeats 4000000 in
/-- rangeCheck -/
theorem kX_XJ_rangeCheck (l : Launch) (D : va_G) (cA : Nat → ClassId) (ad : Nat → Nat) (hJ : f_J (xG D cA ad)) (σ : fS) (len a b : Int) (h : 0 ≤ a ∧ a ≤ b ∧ b ≤ len ∧ len ≤ 100000) : f_M l (xG D cA ad) (xE (xG D cA ad)) yXJ_rangeCheck (Cond.code yXJ_rangeCheck cXJ_rangeCheck 3 none :: A9) 0 σ [.int (fI len), .int (fI a), .int (fI b)] (f_QV (fun σ1 => σ1 = σ) (xG D cA ad)) := by
  refine f_enter (by decide +kernel) hJ rfl (Nat.le_of_ble_eq_true rfl) ?_
  intro z hzl hR C hRt hLk hEz
  subst hzl
  have hRR : 0 ≤ z.2.2.2.1.frames ∧ 40 * 0 ≤ z.2.2.2.1.locals ∧ 0 ≤ z.2.2.2.1.cells ∧ 0 ≤ z.2.2.2.1.slots := by rw [hR]; exact ⟨Nat.le_refl _, Nat.le_refl _, Nat.zero_le _, Nat.zero_le _⟩
  refine v_iload_n C dXJ_rangeCheck_0 rfl rfl ?_
  refine v_iload_n C dXJ_rangeCheck_1 rfl rfl ?_
  refine v_icmp_le (tgt := 46) C dXJ_rangeCheck_2 (by decide) (by omega) (by omega) (fun hc1 => ?_) (fun hc1 => ?_)
  · refine v_iload_n C dXJ_rangeCheck_46 rfl rfl ?_
    refine v_if_ge (tgt := 59) C dXJ_rangeCheck_47 (by decide) (by omega) (fun hc2 => ?_) (fun hc2 => ?_)
    · refine v_iload_n C dXJ_rangeCheck_59 rfl rfl ?_
      refine v_iload_n C dXJ_rangeCheck_60 rfl rfl ?_
      refine v_icmp_le (tgt := 73) C dXJ_rangeCheck_61 (by decide) (by omega) (by omega) (fun hc3 => ?_) (fun hc3 => ?_)
      · exact v_vret C hRt hLk dXJ_rangeCheck_73 rfl
      · exfalso; omega
    · exfalso; omega
  · exfalso; omega
set_option maxRecDepth 100000 in
set_option maxHeartbeats 4000000 in
/-- fillI -/
theorem kX_XJ_fillI (l : Launch) (D : va_G) (cA : Nat → ClassId) (ad : Nat → Nat) (hJ : f_J (xG D cA ad)) (σ : fS) (k m : Nat) (v : Int) (hk : k < 383) (hYk : xY k = .inr (.inl (0, m))) (hm : m ≤ 100000) : f_M l (xG D cA ad) (xE (xG D cA ad)) yXJ_fillI (Cond.code yXJ_fillI cXJ_fillI 4 none :: A9) 0 σ [.ref (ad (k)), .int (fI v)] (f_QV (fun σ1 => σ1 = x_fill σ k 0 m v) (xG D cA ad)) := by
  refine f_enter (by decide +kernel) hJ rfl (Nat.le_of_ble_eq_true rfl) ?_
  intro z hzl hR C hRt hLk hEz
  subst hzl
  have hRR : 0 ≤ z.2.2.2.1.frames ∧ 40 * 0 ≤ z.2.2.2.1.locals ∧ 0 ≤ z.2.2.2.1.cells ∧ 0 ≤ z.2.2.2.1.slots := by rw [hR]; exact ⟨Nat.le_refl _, Nat.le_refl _, Nat.zero_le _, Nat.zero_le _⟩
  have L : ∀ (n : Nat) (j : Int), j + n = m → 0 ≤ j → fv z (xG D cA ad) 4 (f_R z (xG D cA ad) (f_QV (fun σ1 => σ1 = x_fill σ k 0 m v) (xG D cA ad))) 0 0 (x_fill σ k 0 j v) 5 [some (.ref (ad k)), some (.int (fI v)), some (.int (fI j)), some (.int (fI m))] [] := by
    intro n
    induction n with
    | zero =>
      intro j hj h0
      have hjm : j = m := by omega
      subst j
      refine v_iload_n C dXJ_fillI_5 rfl rfl ?_
      refine v_iload_n C dXJ_fillI_6 rfl rfl ?_
      refine v_icmp_ge (tgt := 20) C dXJ_fillI_7 (by decide) (by omega) (by omega) (fun hc1 => ?_) (fun hc1 => ?_)
      · exact v_vret C hRt hLk dXJ_fillI_20 rfl
      · exfalso; omega
    | succ n ih =>
      intro j hj h0
      refine v_iload_n C dXJ_fillI_5 rfl rfl ?_
      refine v_iload_n C dXJ_fillI_6 rfl rfl ?_
      refine v_icmp_ge (tgt := 20) C dXJ_fillI_7 (by decide) (by omega) (by omega) (fun hc2 => ?_) (fun hc2 => ?_)
      · exfalso; omega
      · refine v_aload_n C dXJ_fillI_10 rfl rfl ?_
        refine v_iload_n C dXJ_fillI_11 rfl rfl ?_
        refine v_iload_n C dXJ_fillI_12 rfl rfl ?_
        refine v_iast (k := k) C dXJ_fillI_13 hk hYk rfl (by omega) (by omega) ?_
        refine v_iinc C dXJ_fillI_14 rfl (by decide) ?_
        refine v_goto (tgt := 5) C dXJ_fillI_17 (by decide) ?_
        exact v_less0 (x_fill_s σ k 0 j v (by omega) h0) (ih (j + 1) (by omega) (by omega))
  refine v_iconst C dXJ_fillI_0 ?_
  refine v_istore_n C dXJ_fillI_1 rfl (by decide) ?_
  refine v_aload_n C dXJ_fillI_2 rfl rfl ?_
  refine v_alen (k := k) C dXJ_fillI_3 hk hYk rfl ?_
  refine v_istore_n C dXJ_fillI_4 rfl (by decide) ?_
  exact v_less0 (x_fill_0 σ k 0 v).symm (L m 0 (by omega) (by omega))
set_option maxRecDepth 100000 in
set_option maxHeartbeats 4000000 in
/-- fillB -/
theorem kX_XJ_fillB (l : Launch) (D : va_G) (cA : Nat → ClassId) (ad : Nat → Nat) (hJ : f_J (xG D cA ad)) (σ : fS) (k m : Nat) (a b v : Int) (hk : k < 383) (hYk : xY k = .inr (.inl (1, m))) (hm : m ≤ 100000) (hab : 0 ≤ a ∧ a ≤ b ∧ b ≤ m) (hv : -128 ≤ v ∧ v ≤ 127) : f_M l (xG D cA ad) (xE (xG D cA ad)) yXJ_fillB (Cond.code yXJ_fillB cXJ_fillB 5 none :: A9) 1 σ [.ref (ad (k)), .int (fI a), .int (fI b), .int (fI v)] (f_QV (fun σ1 => σ1 = x_fill σ k a b v) (xG D cA ad)) := by
  refine f_enter (by decide +kernel) hJ rfl (Nat.le_of_ble_eq_true rfl) ?_
  intro z hzl hR C hRt hLk hEz
  subst hzl
  have hRR : 1 ≤ z.2.2.2.1.frames ∧ 40 * 1 ≤ z.2.2.2.1.locals ∧ 0 ≤ z.2.2.2.1.cells ∧ 0 ≤ z.2.2.2.1.slots := by rw [hR]; exact ⟨Nat.le_refl _, Nat.le_refl _, Nat.zero_le _, Nat.zero_le _⟩
  have L : ∀ (n : Nat) (j : Int), j + n = b → a ≤ j → fv z (xG D cA ad) 5 (f_R z (xG D cA ad) (f_QV (fun σ1 => σ1 = x_fill σ k a b v) (xG D cA ad))) 0 0 (x_fill σ k a j v) 10 [some (.ref (ad k)), some (.int (fI a)), some (.int (fI b)), some (.int (fI v)), some (.int (fI j))] [] := by
    intro n
    induction n with
    | zero =>
      intro j hj h0
      have hjm : j = b := by omega
      subst j
      refine v_iload C dXJ_fillB_10 rfl ?_
      refine v_iload_n C dXJ_fillB_12 rfl rfl ?_
      refine v_icmp_ge (tgt := 27) C dXJ_fillB_13 (by decide) (by omega) (by omega) (fun hc1 => ?_) (fun hc1 => ?_)
      · exact v_vret C hRt hLk dXJ_fillB_27 rfl
      · exfalso; omega
    | succ n ih =>
      intro j hj h0
      refine v_iload C dXJ_fillB_10 rfl ?_
      refine v_iload_n C dXJ_fillB_12 rfl rfl ?_
      refine v_icmp_ge (tgt := 27) C dXJ_fillB_13 (by decide) (by omega) (by omega) (fun hc2 => ?_) (fun hc2 => ?_)
      · exfalso; omega
      · refine v_aload_n C dXJ_fillB_16 rfl rfl ?_
        refine v_iload C dXJ_fillB_17 rfl ?_
        refine v_iload_n C dXJ_fillB_19 rfl rfl ?_
        refine v_bast (k := k) C dXJ_fillB_20 hk hYk rfl (by omega) (by omega) (by omega) ?_
        refine v_iinc C dXJ_fillB_21 rfl (by decide) ?_
        refine v_goto (tgt := 10) C dXJ_fillB_24 (by decide) ?_
        exact v_less0 (x_fill_s σ k a j v (by omega) h0) (ih (j + 1) (by omega) (by omega))
  refine v_aload_n C dXJ_fillB_0 rfl rfl ?_
  refine v_alen (k := k) C dXJ_fillB_1 hk hYk rfl ?_
  refine v_iload_n C dXJ_fillB_2 rfl rfl ?_
  refine v_iload_n C dXJ_fillB_3 rfl rfl ?_
  refine v_cSV (n := 3) C (xE_ok _) hEz hR (kX_XJ_rangeCheck _ D cA ad hJ σ (m : Int) a b (by omega)) dXJ_fillB_4 gXJ_13 (by decide +kernel) (by decide) (by decide) rfl (Nat.le_of_ble_eq_true rfl) rfl ⟨rfl, rfl⟩ (fun σ1 hp1 => ?_)
  subst σ1
  refine v_iload_n C dXJ_fillB_7 rfl rfl ?_
  refine v_istore C dXJ_fillB_8 (by decide) ?_
  exact v_less0 (x_fill_0 σ k a v).symm (L (b - a).toNat a (by omega) (by omega))
