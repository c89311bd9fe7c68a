def c_tab (cA : Nat → ClassId) (t a b : Nat) : va_W := [(t, .inr (4, [.ref a, .ref b, .int (fI 0), .int (fI 0)])), (a, .inl (cA 0, 41, .inl (fun _ => fI 0))), (b, .inl (cA 0, 41, .inl (fun _ => fI 0)))]
def c_tabs (cA : Nat → ClassId) (ad : Nat → Nat) : Nat → va_W
  | 0 => []
  | n + 1 => c_tabs cA ad n ++ c_tab cA (ad (3 * n)) (ad (3 * n + 1)) (ad (3 * n + 2))
theorem c_tabs_congr {cA : Nat → ClassId} {ad ad' : Nat → Nat} (n : Nat) (h : ∀ k, k < 3 * n → ad' k = ad k) : c_tabs cA ad' n = c_tabs cA ad n := by
  induction n with
  | zero => rfl
  | succ n ih =>
    unfold c_tabs
    rw [ih (fun k hk => h k (by omega)), h (3 * n) (by omega), h (3 * n + 1) (by omega), h (3 * n + 2) (by omega)]
theorem c_tabs_len (cA : Nat → ClassId) (ad : Nat → Nat) (n : Nat) : (c_tabs cA ad n).length = 3 * n := by
  induction n with
  | zero => rfl
  | succ n ih => unfold c_tabs; rw [List.length_append, ih]; show 3 * n + 3 = _; omega
def c_arr (cA : Nat → ClassId) (r i : Nat) (ad : Nat → Nat) : Nat × va_E := (r, .inl (cA 3, 60, .inr (.inr (.inr (.inr (fun j => if j < i then some (ad (3 * j)) else none))))))
theorem c_at {ws r : va_W} {n : Nat} {x : Nat × va_E} (h : ws.length = n) : (ws ++ x :: r)[n]? = some x := by subst h; simp
theorem c_cw {z : fZ} {D : va_G} {cl : List vw_C} {A : Nat → Prop} {nL : Nat} {Q : State → Prop} {kc ks kc2 ks2 : Nat} {ws ws2 : va_W} {pc : Nat} {lv : List (Option Value)} {st : List Value} (h1 : kc = kc2) (h2 : ks = ks2) (h3 : ws = ws2) (k : cj z D cl A nL Q kc2 ks2 ws2 pc lv st) : cj z D cl A nL Q kc ks ws pc lv st := by
  subst h1; subst h2; subst h3; exact k
set_option maxRecDepth 100000 in
set_option maxHeartbeats 4000000 in
/-- a table -/
theorem cX_XT (l : Launch) (D : va_G) (cA : Nat → ClassId) (h0 : Nat)  : c_M l D ((RM, TM, 32) :: xCl) (w_tys cA) yXT_init (Cond.code yXT_init cXT_init 1 none :: A9) 1 2 82 h0 (.inr (4, [.null, .null, .int (fI 0), .int (fI 0)])) [.ref h0] (fun w => ∃ q7 q15 : Nat, w = [(h0, .inr (4, [.ref q7, .ref q15, .int (fI 0), .int (fI 0)])), (q7, .inl (cA 0, 41, .inl (fun _ => fI 0))), (q15, .inl (cA 0, 41, .inl (fun _ => fI 0)))]) := by
  refine c_enter (by decide +kernel) rfl rfl (Nat.le_of_ble_eq_true rfl) ?_
  intro z hzl hR C hRt hLk
  subst hzl
  refine c_aload_n C dXT_init_0 rfl rfl ?_
  refine c_obj C (in9 (by decide +kernel) rfl) (in9 (by decide +kernel) rfl) (in9 (by decide +kernel) rfl) dXT_init_1 (by rw [hR]; exact ⟨by decide, by decide⟩) ?_
  refine c_aload_n C dXT_init_4 rfl rfl ?_
  refine c_bipush C dXT_init_5 (by decide +kernel) ?_
  refine c_newa (t := 0) C (in9 (by decide +kernel) rfl) rfl rfl (by decide) (by decide) dXT_init_7 (by rw [hR]; exact ⟨by decide, by decide⟩) (fun q7 => ?_)
  refine c_put (q0 := 0) (k := 0) (ci := 4) C inXT tyXT_ok nmXT rfl rfl (by decide) lXT_9 rfl rfl rfl (tyXT_ok 0 (by decide)) rfl rfl (Nat.le_of_ble_eq_true rfl) dXT_init_9 ?_
  refine c_aload_n C dXT_init_12 rfl rfl ?_
  refine c_bipush C dXT_init_13 (by decide +kernel) ?_
  refine c_newa (t := 0) C (in9 (by decide +kernel) rfl) rfl rfl (by decide) (by decide) dXT_init_15 (by rw [hR]; exact ⟨by decide, by decide⟩) (fun q15 => ?_)
  refine c_put (q0 := 0) (k := 1) (ci := 4) C inXT tyXT_ok nmXT rfl rfl (by decide) lXT_15 rfl rfl rfl (tyXT_ok 1 (by decide)) rfl rfl (Nat.le_of_ble_eq_true rfl) dXT_init_17 ?_
  exact c_ret C hRt hLk dXT_init_20 ⟨by decide, by decide⟩ ⟨q7, q15, rfl⟩
set_option maxRecDepth 100000 in
set_option maxHeartbeats 4000000 in
/-- the shelf -/
theorem cX_XS (l : Launch) (D : va_G) (cA : Nat → ClassId) (h0 : Nat)  : c_M l D ((RM, TM, 32) :: xCl) (w_tys cA) yXS_init (Cond.code yXS_init cXS_init 1 none :: A9) 1 6 5125 h0 (.inr (2, [.null, .null, .null, .null, .null, .null])) [.ref h0] (fun w => ∃ q7 q15 q23 q32 q40 q48 : Nat, w = [(h0, .inr (2, [.ref q7, .ref q15, .ref q23, .ref q32, .ref q40, .ref q48])), (q7, .inl (cA 2, 41, .inl (fun _ => fI 0))), (q15, .inl (cA 2, 41, .inl (fun _ => fI 0))), (q23, .inl (cA 0, 41, .inl (fun _ => fI 0))), (q32, .inl (cA 1, 4920, .inl (fun _ => fI 0))), (q40, .inl (cA 2, 41, .inl (fun _ => fI 0))), (q48, .inl (cA 2, 41, .inl (fun _ => fI 0)))]) := by
  refine c_enter (by decide +kernel) rfl rfl (Nat.le_of_ble_eq_true rfl) ?_
  intro z hzl hR C hRt hLk
  subst hzl
  refine c_aload_n C dXS_init_0 rfl rfl ?_
  refine c_obj C (in9 (by decide +kernel) rfl) (in9 (by decide +kernel) rfl) (in9 (by decide +kernel) rfl) dXS_init_1 (by rw [hR]; exact ⟨by decide, by decide⟩) ?_
  refine c_aload_n C dXS_init_4 rfl rfl ?_
  refine c_bipush C dXS_init_5 (by decide +kernel) ?_
  refine c_newa (t := 2) C (in9 (by decide +kernel) rfl) rfl rfl (by decide) (by decide) dXS_init_7 (by rw [hR]; exact ⟨by decide, by decide⟩) (fun q7 => ?_)
  refine c_put (q0 := 0) (k := 0) (ci := 2) C inXS tyXS_ok nmXS rfl rfl (by decide) lXS_9 rfl rfl rfl (tyXS_ok 0 (by decide)) rfl rfl (Nat.le_of_ble_eq_true rfl) dXS_init_9 ?_
  refine c_aload_n C dXS_init_12 rfl rfl ?_
  refine c_bipush C dXS_init_13 (by decide +kernel) ?_
  refine c_newa (t := 2) C (in9 (by decide +kernel) rfl) rfl rfl (by decide) (by decide) dXS_init_15 (by rw [hR]; exact ⟨by decide, by decide⟩) (fun q15 => ?_)
  refine c_put (q0 := 0) (k := 1) (ci := 2) C inXS tyXS_ok nmXS rfl rfl (by decide) lXS_15 rfl rfl rfl (tyXS_ok 1 (by decide)) rfl rfl (Nat.le_of_ble_eq_true rfl) dXS_init_17 ?_
  refine c_aload_n C dXS_init_20 rfl rfl ?_
  refine c_bipush C dXS_init_21 (by decide +kernel) ?_
  refine c_newa (t := 0) C (in9 (by decide +kernel) rfl) rfl rfl (by decide) (by decide) dXS_init_23 (by rw [hR]; exact ⟨by decide, by decide⟩) (fun q23 => ?_)
  refine c_put (q0 := 0) (k := 2) (ci := 2) C inXS tyXS_ok nmXS rfl rfl (by decide) lXS_18 rfl rfl rfl (tyXS_ok 2 (by decide)) rfl rfl (Nat.le_of_ble_eq_true rfl) dXS_init_25 ?_
  refine c_aload_n C dXS_init_28 rfl rfl ?_
  refine c_sipush C dXS_init_29 (by decide +kernel) ?_
  refine c_newa (t := 1) C (in9 (by decide +kernel) rfl) rfl rfl (by decide) (by decide) dXS_init_32 (by rw [hR]; exact ⟨by decide, by decide⟩) (fun q32 => ?_)
  refine c_put (q0 := 0) (k := 3) (ci := 2) C inXS tyXS_ok nmXS rfl rfl (by decide) lXS_22 rfl rfl rfl (tyXS_ok 3 (by decide)) rfl rfl (Nat.le_of_ble_eq_true rfl) dXS_init_34 ?_
  refine c_aload_n C dXS_init_37 rfl rfl ?_
  refine c_bipush C dXS_init_38 (by decide +kernel) ?_
  refine c_newa (t := 2) C (in9 (by decide +kernel) rfl) rfl rfl (by decide) (by decide) dXS_init_40 (by rw [hR]; exact ⟨by decide, by decide⟩) (fun q40 => ?_)
  refine c_put (q0 := 0) (k := 4) (ci := 2) C inXS tyXS_ok nmXS rfl rfl (by decide) lXS_26 rfl rfl rfl (tyXS_ok 4 (by decide)) rfl rfl (Nat.le_of_ble_eq_true rfl) dXS_init_42 ?_
  refine c_aload_n C dXS_init_45 rfl rfl ?_
  refine c_bipush C dXS_init_46 (by decide +kernel) ?_
  refine c_newa (t := 2) C (in9 (by decide +kernel) rfl) rfl rfl (by decide) (by decide) dXS_init_48 (by rw [hR]; exact ⟨by decide, by decide⟩) (fun q48 => ?_)
  refine c_put (q0 := 0) (k := 5) (ci := 2) C inXS tyXS_ok nmXS rfl rfl (by decide) lXS_29 rfl rfl rfl (tyXS_ok 5 (by decide)) rfl rfl (Nat.le_of_ble_eq_true rfl) dXS_init_50 ?_
  exact c_ret C hRt hLk dXS_init_53 ⟨by decide, by decide⟩ ⟨q7, q15, q23, q32, q40, q48, rfl⟩
set_option maxRecDepth 100000 in
set_option maxHeartbeats 4000000 in
/-- the file -/
theorem cX_XF (l : Launch) (D : va_G) (cA : Nat → ClassId) (h0 : Nat)  : c_M l D ((RM, TM, 32) :: xCl) (w_tys cA) yXF_init (Cond.code yXF_init cXF_init 1 none :: A9) 1 1 12000 h0 (.inr (3, [.null, .int (fI 0), .int (fI 0)])) [.ref h0] (fun w => ∃ q8 : Nat, w = [(h0, .inr (3, [.ref q8, .int (fI 0), .int (fI 0)])), (q8, .inl (cA 1, 12000, .inl (fun _ => fI 0)))]) := by
  refine c_enter (by decide +kernel) rfl rfl (Nat.le_of_ble_eq_true rfl) ?_
  intro z hzl hR C hRt hLk
  subst hzl
  refine c_aload_n C dXF_init_0 rfl rfl ?_
  refine c_obj C (in9 (by decide +kernel) rfl) (in9 (by decide +kernel) rfl) (in9 (by decide +kernel) rfl) dXF_init_1 (by rw [hR]; exact ⟨by decide, by decide⟩) ?_
  refine c_aload_n C dXF_init_4 rfl rfl ?_
  refine c_sipush C dXF_init_5 (by decide +kernel) ?_
  refine c_newa (t := 1) C (in9 (by decide +kernel) rfl) rfl rfl (by decide) (by decide) dXF_init_8 (by rw [hR]; exact ⟨by decide, by decide⟩) (fun q8 => ?_)
  refine c_put (q0 := 0) (k := 0) (ci := 3) C inXF tyXF_ok nmXF rfl rfl (by decide) lXF_9 rfl rfl rfl (tyXF_ok 0 (by decide)) rfl rfl (Nat.le_of_ble_eq_true rfl) dXF_init_10 ?_
  exact c_ret C hRt hLk dXF_init_13 ⟨by decide, by decide⟩ ⟨q8, rfl⟩
set_option maxRecDepth 100000 in
set_option maxHeartbeats 4000000 in
/-- the differences -/
theorem cX_XG (l : Launch) (D : va_G) (cA : Nat → ClassId) (h0 : Nat)  : c_M l D ((RM, TM, 32) :: xCl) (w_tys cA) yXG_init (Cond.code yXG_init cXG_init 1 none :: A9) 1 2 80 h0 (.inr (8, [.null, .null, .int (fI 0)])) [.ref h0] (fun w => ∃ q7 q15 : Nat, w = [(h0, .inr (8, [.ref q7, .ref q15, .int (fI 0)])), (q7, .inl (cA 0, 40, .inl (fun _ => fI 0))), (q15, .inl (cA 0, 40, .inl (fun _ => fI 0)))]) := by
  refine c_enter (by decide +kernel) rfl rfl (Nat.le_of_ble_eq_true rfl) ?_
  intro z hzl hR C hRt hLk
  subst hzl
  refine c_aload_n C dXG_init_0 rfl rfl ?_
  refine c_obj C (in9 (by decide +kernel) rfl) (in9 (by decide +kernel) rfl) (in9 (by decide +kernel) rfl) dXG_init_1 (by rw [hR]; exact ⟨by decide, by decide⟩) ?_
  refine c_aload_n C dXG_init_4 rfl rfl ?_
  refine c_bipush C dXG_init_5 (by decide +kernel) ?_
  refine c_newa (t := 0) C (in9 (by decide +kernel) rfl) rfl rfl (by decide) (by decide) dXG_init_7 (by rw [hR]; exact ⟨by decide, by decide⟩) (fun q7 => ?_)
  refine c_put (q0 := 0) (k := 0) (ci := 8) C inXG tyXG_ok nmXG rfl rfl (by decide) lXG_9 rfl rfl rfl (tyXG_ok 0 (by decide)) rfl rfl (Nat.le_of_ble_eq_true rfl) dXG_init_9 ?_
  refine c_aload_n C dXG_init_12 rfl rfl ?_
  refine c_bipush C dXG_init_13 (by decide +kernel) ?_
  refine c_newa (t := 0) C (in9 (by decide +kernel) rfl) rfl rfl (by decide) (by decide) dXG_init_15 (by rw [hR]; exact ⟨by decide, by decide⟩) (fun q15 => ?_)
  refine c_put (q0 := 0) (k := 1) (ci := 8) C inXG tyXG_ok nmXG rfl rfl (by decide) lXG_15 rfl rfl rfl (tyXG_ok 1 (by decide)) rfl rfl (Nat.le_of_ble_eq_true rfl) dXG_init_17 ?_
  exact c_ret C hRt hLk dXG_init_20 ⟨by decide, by decide⟩ ⟨q7, q15, rfl⟩
set_option maxRecDepth 100000 in
set_option maxHeartbeats 4000000 in
/-- the history -/
theorem cX_XH (l : Launch) (D : va_G) (cA : Nat → ClassId) (h0 : Nat)  : c_M l D ((RM, TM, 32) :: xCl) (w_tys cA) yXH_init (Cond.code yXH_init cXH_init 2 none :: A9) 2 181 5220 h0 (.inr (5, [.null, .int (fI 0)])) [.ref h0] (fun w => ∃ (r : Nat) (ad : Nat → Nat), w = [(h0, .inr (5, [.ref r, .int (fI 0)])), c_arr cA r 60 ad] ++ c_tabs cA ad 60) := by
  refine c_enter (by decide +kernel) rfl rfl (Nat.le_of_ble_eq_true rfl) ?_
  intro z hzl hR C hRt hLk
  subst hzl
  have L : ∀ (m i r : Nat) (ad : Nat → Nat), m + i = 60 → cj z D ((RM, TM, 32) :: xCl) (va_A [(h0, (.inr (5, [.null, .int (fI 0)])))] z.2.2.2.2.1.heap.size) 2 (c_R z D ((RM, TM, 32) :: xCl) h0 (.inr (5, [.null, .int (fI 0)])) (fun w => ∃ (r : Nat) (ad : Nat → Nat), w = [(h0, .inr (5, [.ref r, .int (fI 0)])), c_arr cA r 60 ad] ++ c_tabs cA ad 60) 181 5220) (1 + 3 * i) (60 + 86 * i) ([(h0, .inr (5, [.ref r, .int (fI 0)])), c_arr cA r i ad] ++ c_tabs cA ad i) 15 [some (.ref h0), some (.int (fI (i : Int)))] [] := by
    intro m
    induction m with
    | zero =>
      intro i r ad hi
      have h60 : i = 60 := by omega
      subst h60
      refine c_iload_n C dXH_init_15 rfl rfl ?_
      refine c_bipush C dXH_init_16 (by decide +kernel) ?_
      refine c_icmp_ge (tgt := 40) C dXH_init_18 (by decide) (by omega) (by omega) (fun hc => ?_) (fun hc => absurd (by omega) hc)
      exact c_ret C hRt hLk dXH_init_40 ⟨by decide, by decide⟩ ⟨r, ad, rfl⟩
    | succ m ih =>
      intro i r ad hi
      refine c_iload_n C dXH_init_15 rfl rfl ?_
      refine c_bipush C dXH_init_16 (by decide +kernel) ?_
      refine c_icmp_ge (tgt := 40) C dXH_init_18 (by decide) (by omega) (by omega) (fun hc => absurd hc (by omega)) (fun hc => ?_)
      refine c_aload_n C dXH_init_21 rfl rfl ?_
      refine c_get (q0 := 0) (k := 0) (ci := 5) C inXH rfl rfl (by decide) lXH_11 rfl rfl dXH_init_22 ?_
      refine c_iload_n C dXH_init_25 rfl rfl ?_
      refine c_new (ci := 4) (fs := [.null, .null, .int (fI 0), .int (fI 0)]) C inXT tyXT_ok (in9 (by decide +kernel) rfl) (in9 (by decide +kernel) rfl) iXT rfl (by decide +kernel) dXH_init_26 (by rw [hR]; exact ⟨by show _ ≤ 181; omega, by show _ ≤ 5220; omega⟩) (fun q => ?_)
      refine c_dup C dXH_init_29 rfl ?_
      refine c_call (n := 0) C (cX_XT _ D cA q) dXH_init_30 (Or.inl ⟨RXA, C.2.2.2.2.2.2.2.2.1 _ (by decide +kernel)⟩) (in9 (by decide +kernel) rfl) iXT wXT_init (by decide +kernel) (by rw [hR]; exact ⟨by decide, by decide, by show _ ≤ 181; omega, by show _ ≤ 5220; omega⟩) rfl (Nat.le_of_ble_eq_true rfl) rfl (fun w hw => ?_)
      obtain ⟨a, b, hw⟩ := hw
      subst hw
      have hlen := c_tabs_len cA ad i
      refine c_ast (q0 := 1) (t0 := 3) (qk := 2 + 3 * i) (ci := 4) (i := (i : Int)) (r := (RXT, TXT, 4)) C rfl rfl (c_at (by simp [hlen]; omega)) rfl (by omega) (by decide) dXH_init_33 ?_
      refine c_iinc C dXH_init_34 rfl (by decide) ?_
      refine c_goto (tgt := 15) C dXH_init_37 (by decide) ?_
      have hn : ((i : Int)).toNat = i := by omega
      obtain ⟨ad2, had⟩ : ∃ g : Nat → Nat, g = fun k => if k < 3 * i then ad k else if k = 3 * i then q else if k = 3 * i + 1 then a else b := ⟨_, rfl⟩
      have h1 : ∀ k, k < 3 * i → ad2 k = ad k := fun k hk => by rw [had]; exact if_pos hk
      have h2 : ad2 (3 * i) = q := by rw [had]; show (if 3 * i < 3 * i then _ else if 3 * i = 3 * i then q else _) = q; rw [if_neg (by omega), if_pos rfl]
      have h3 : ad2 (3 * i + 1) = a := by rw [had]; show (if 3 * i + 1 < 3 * i then _ else if 3 * i + 1 = 3 * i then q else if 3 * i + 1 = 3 * i + 1 then a else b) = a; rw [if_neg (by omega), if_neg (by omega), if_pos rfl]
      have h4 : ad2 (3 * i + 2) = b := by rw [had]; show (if 3 * i + 2 < 3 * i then _ else if 3 * i + 2 = 3 * i then q else if 3 * i + 2 = 3 * i + 1 then a else b) = b; rw [if_neg (by omega), if_neg (by omega), if_neg (by omega)]
      have hws : ([(h0, .inr (5, [.ref r, .int (fI 0)])), c_arr cA r (i + 1) ad2] ++ c_tabs cA ad2 (i + 1) : va_W) = [(h0, .inr (5, [.ref r, .int (fI 0)])), (r, .inl (cA 3, 60, .inr (.inr (.inr (.inr (va_up (fun j => if j < i then some (ad (3 * j)) else none) ((i : Int)).toNat (some q)))))))] ++ c_tabs cA ad i ++ c_tab cA q a b := by
        show _ ++ (c_tabs cA ad2 i ++ c_tab cA (ad2 (3 * i)) (ad2 (3 * i + 1)) (ad2 (3 * i + 2))) = _
        rw [c_tabs_congr i h1, h2, h3, h4, List.append_assoc, hn]
        unfold c_arr
        have hf : (fun j => if j < i + 1 then some (ad2 (3 * j)) else none) = va_up (fun j => if j < i then some (ad (3 * j)) else none) i (some q) := by
          funext j
          unfold va_up
          by_cases e : j = i
          · subst e; rw [if_pos rfl, if_pos (by omega), h2]
          · rw [if_neg e]
            show _ = if j < i then some (ad (3 * j)) else none
            by_cases e2 : j < i
            · rw [if_pos e2, if_pos (by omega), h1 _ (by omega)]
            · rw [if_neg e2, if_neg (by omega)]
        rw [hf]
      refine c_cw (by omega) (by omega) hws.symm (ih (i + 1) r ad2 (by omega))
  refine c_aload_n C dXH_init_0 rfl rfl ?_
  refine c_obj C (in9 (by decide +kernel) rfl) (in9 (by decide +kernel) rfl) (in9 (by decide +kernel) rfl) dXH_init_1 (by rw [hR]; exact ⟨by decide, by decide⟩) ?_
  refine c_aload_n C dXH_init_4 rfl rfl ?_
  refine c_bipush C dXH_init_5 (by decide +kernel) ?_
  refine c_newq (t := 3) C (in9 (by decide +kernel) rfl) rfl (by decide) dXH_init_7 (by rw [hR]; exact ⟨by decide, by decide⟩) (fun q7 => ?_)
  refine c_put (q0 := 0) (k := 0) (ci := 5) C inXH tyXH_ok nmXH rfl rfl (by decide) lXH_11 rfl rfl rfl (tyXH_ok 0 (by decide)) rfl rfl (Nat.le_of_ble_eq_true rfl) dXH_init_10 ?_
  refine c_iconst C dXH_init_13 ?_
  refine c_istore_n C dXH_init_14 rfl (by decide) ?_
  exact L 60 0 q7 (fun _ => 0) (by omega)
set_option maxRecDepth 100000 in
set_option maxHeartbeats 4000000 in
/-- the scan -/
theorem cX_XC (l : Launch) (D : va_G) (cA : Nat → ClassId) (h0 : Nat) (f0 : Nat) : c_M l D ((RM, TM, 32) :: xCl) (w_tys cA) yXC_init (Cond.code yXC_init cXC_init 3 none :: A9) 2 181 5220 h0 (.inr (6, [.null, .null, .int (fI 0), .int (fI 0), .int (fI 0)])) [.ref h0, .ref f0] (fun w => ∃ (r : Nat) (ad : Nat → Nat), w = [(h0, .inr (6, [.ref f0, .ref r, .int (fI 0), .int (fI 0), .int (fI 0)])), c_arr cA r 60 ad] ++ c_tabs cA ad 60) := by
  refine c_enter (by decide +kernel) rfl rfl (Nat.le_of_ble_eq_true rfl) ?_
  intro z hzl hR C hRt hLk
  subst hzl
  have L : ∀ (m i r : Nat) (ad : Nat → Nat), m + i = 60 → cj z D ((RM, TM, 32) :: xCl) (va_A [(h0, (.inr (6, [.null, .null, .int (fI 0), .int (fI 0), .int (fI 0)])))] z.2.2.2.2.1.heap.size) 3 (c_R z D ((RM, TM, 32) :: xCl) h0 (.inr (6, [.null, .null, .int (fI 0), .int (fI 0), .int (fI 0)])) (fun w => ∃ (r : Nat) (ad : Nat → Nat), w = [(h0, .inr (6, [.ref f0, .ref r, .int (fI 0), .int (fI 0), .int (fI 0)])), c_arr cA r 60 ad] ++ c_tabs cA ad 60) 181 5220) (1 + 3 * i) (60 + 86 * i) ([(h0, .inr (6, [.ref f0, .ref r, .int (fI 0), .int (fI 0), .int (fI 0)])), c_arr cA r i ad] ++ c_tabs cA ad i) 20 [some (.ref h0), some (.ref f0), some (.int (fI (i : Int)))] [] := by
    intro m
    induction m with
    | zero =>
      intro i r ad hi
      have h60 : i = 60 := by omega
      subst h60
      refine c_iload_n C dXC_init_20 rfl rfl ?_
      refine c_bipush C dXC_init_21 (by decide +kernel) ?_
      refine c_icmp_ge (tgt := 45) C dXC_init_23 (by decide) (by omega) (by omega) (fun hc => ?_) (fun hc => absurd (by omega) hc)
      exact c_ret C hRt hLk dXC_init_45 ⟨by decide, by decide⟩ ⟨r, ad, rfl⟩
    | succ m ih =>
      intro i r ad hi
      refine c_iload_n C dXC_init_20 rfl rfl ?_
      refine c_bipush C dXC_init_21 (by decide +kernel) ?_
      refine c_icmp_ge (tgt := 45) C dXC_init_23 (by decide) (by omega) (by omega) (fun hc => absurd hc (by omega)) (fun hc => ?_)
      refine c_aload_n C dXC_init_26 rfl rfl ?_
      refine c_get (q0 := 0) (k := 1) (ci := 6) C inXC rfl rfl (by decide) lXC_11 rfl rfl dXC_init_27 ?_
      refine c_iload_n C dXC_init_30 rfl rfl ?_
      refine c_new (ci := 4) (fs := [.null, .null, .int (fI 0), .int (fI 0)]) C inXT tyXT_ok (in9 (by decide +kernel) rfl) (in9 (by decide +kernel) rfl) iXT rfl (by decide +kernel) dXC_init_31 (by rw [hR]; exact ⟨by show _ ≤ 181; omega, by show _ ≤ 5220; omega⟩) (fun q => ?_)
      refine c_dup C dXC_init_34 rfl ?_
      refine c_call (n := 0) C (cX_XT _ D cA q) dXC_init_35 (Or.inl ⟨RXA, C.2.2.2.2.2.2.2.2.1 _ (by decide +kernel)⟩) (in9 (by decide +kernel) rfl) iXT wXT_init (by decide +kernel) (by rw [hR]; exact ⟨by decide, by decide, by show _ ≤ 181; omega, by show _ ≤ 5220; omega⟩) rfl (Nat.le_of_ble_eq_true rfl) rfl (fun w hw => ?_)
      obtain ⟨a, b, hw⟩ := hw
      subst hw
      have hlen := c_tabs_len cA ad i
      refine c_ast (q0 := 1) (t0 := 3) (qk := 2 + 3 * i) (ci := 4) (i := (i : Int)) (r := (RXT, TXT, 4)) C rfl rfl (c_at (by simp [hlen]; omega)) rfl (by omega) (by decide) dXC_init_38 ?_
      refine c_iinc C dXC_init_39 rfl (by decide) ?_
      refine c_goto (tgt := 20) C dXC_init_42 (by decide) ?_
      have hn : ((i : Int)).toNat = i := by omega
      obtain ⟨ad2, had⟩ : ∃ g : Nat → Nat, g = fun k => if k < 3 * i then ad k else if k = 3 * i then q else if k = 3 * i + 1 then a else b := ⟨_, rfl⟩
      have h1 : ∀ k, k < 3 * i → ad2 k = ad k := fun k hk => by rw [had]; exact if_pos hk
      have h2 : ad2 (3 * i) = q := by rw [had]; show (if 3 * i < 3 * i then _ else if 3 * i = 3 * i then q else _) = q; rw [if_neg (by omega), if_pos rfl]
      have h3 : ad2 (3 * i + 1) = a := by rw [had]; show (if 3 * i + 1 < 3 * i then _ else if 3 * i + 1 = 3 * i then q else if 3 * i + 1 = 3 * i + 1 then a else b) = a; rw [if_neg (by omega), if_neg (by omega), if_pos rfl]
      have h4 : ad2 (3 * i + 2) = b := by rw [had]; show (if 3 * i + 2 < 3 * i then _ else if 3 * i + 2 = 3 * i then q else if 3 * i + 2 = 3 * i + 1 then a else b) = b; rw [if_neg (by omega), if_neg (by omega), if_neg (by omega)]
      have hws : ([(h0, .inr (6, [.ref f0, .ref r, .int (fI 0), .int (fI 0), .int (fI 0)])), c_arr cA r (i + 1) ad2] ++ c_tabs cA ad2 (i + 1) : va_W) = [(h0, .inr (6, [.ref f0, .ref r, .int (fI 0), .int (fI 0), .int (fI 0)])), (r, .inl (cA 3, 60, .inr (.inr (.inr (.inr (va_up (fun j => if j < i then some (ad (3 * j)) else none) ((i : Int)).toNat (some q)))))))] ++ c_tabs cA ad i ++ c_tab cA q a b := by
        show _ ++ (c_tabs cA ad2 i ++ c_tab cA (ad2 (3 * i)) (ad2 (3 * i + 1)) (ad2 (3 * i + 2))) = _
        rw [c_tabs_congr i h1, h2, h3, h4, List.append_assoc, hn]
        unfold c_arr
        have hf : (fun j => if j < i + 1 then some (ad2 (3 * j)) else none) = va_up (fun j => if j < i then some (ad (3 * j)) else none) i (some q) := by
          funext j
          unfold va_up
          by_cases e : j = i
          · subst e; rw [if_pos rfl, if_pos (by omega), h2]
          · rw [if_neg e]
            show _ = if j < i then some (ad (3 * j)) else none
            by_cases e2 : j < i
            · rw [if_pos e2, if_pos (by omega), h1 _ (by omega)]
            · rw [if_neg e2, if_neg (by omega)]
        rw [hf]
      refine c_cw (by omega) (by omega) hws.symm (ih (i + 1) r ad2 (by omega))
  refine c_aload_n C dXC_init_0 rfl rfl ?_
  refine c_obj C (in9 (by decide +kernel) rfl) (in9 (by decide +kernel) rfl) (in9 (by decide +kernel) rfl) dXC_init_1 (by rw [hR]; exact ⟨by decide, by decide⟩) ?_
  refine c_aload_n C dXC_init_4 rfl rfl ?_
  refine c_bipush C dXC_init_5 (by decide +kernel) ?_
  refine c_newq (t := 3) C (in9 (by decide +kernel) rfl) rfl (by decide) dXC_init_7 (by rw [hR]; exact ⟨by decide, by decide⟩) (fun q7 => ?_)
  refine c_put (q0 := 0) (k := 1) (ci := 6) C inXC tyXC_ok nmXC rfl rfl (by decide) lXC_11 rfl rfl rfl (tyXC_ok 1 (by decide)) rfl rfl (Nat.le_of_ble_eq_true rfl) dXC_init_10 ?_
  refine c_aload_n C dXC_init_13 rfl rfl ?_
  refine c_aload_n C dXC_init_14 rfl rfl ?_
  refine c_put (q0 := 0) (k := 0) (ci := 6) C inXC tyXC_ok nmXC rfl rfl (by decide) lXC_17 rfl rfl rfl (tyXC_ok 0 (by decide)) rfl rfl (Nat.le_of_ble_eq_true rfl) dXC_init_15 ?_
  refine c_iconst C dXC_init_18 ?_
  refine c_istore_n C dXC_init_19 rfl (by decide) ?_
  exact L 60 0 q7 (fun _ => 0) (by omega)
set_option maxRecDepth 100000 in
set_option maxHeartbeats 4000000 in
/-- the draft -/
theorem cX_XD (l : Launch) (D : va_G) (cA : Nat → ClassId) (h0 : Nat) (s0 : Nat) : c_M l D ((RM, TM, 32) :: xCl) (w_tys cA) yXD_init (Cond.code yXD_init cXD_init 2 none :: A9) 2 5 6126 h0 (.inr (7, [.null, .null, .null, .null, .int (fI 0), .int (fI 0), .int (fI 0)])) [.ref h0, .ref s0] (fun w => ∃ qb qo t a b : Nat, w = [(h0, .inr (7, [.ref s0, .ref qb, .ref qo, .ref t, .int (fI 0), .int (fI 0), .int (fI 0)])), (qb, .inl (cA 1, 6000, .inl (fun _ => fI 0))), (qo, .inl (cA 0, 40, .inl (fun _ => fI 0)))] ++ c_tab cA t a b) := by
  refine c_enter (by decide +kernel) rfl rfl (Nat.le_of_ble_eq_true rfl) ?_
  intro z hzl hR C hRt hLk
  subst hzl
  refine c_aload_n C dXD_init_0 rfl rfl ?_
  refine c_obj C (in9 (by decide +kernel) rfl) (in9 (by decide +kernel) rfl) (in9 (by decide +kernel) rfl) dXD_init_1 (by rw [hR]; exact ⟨by decide, by decide⟩) ?_
  refine c_aload_n C dXD_init_4 rfl rfl ?_
  refine c_sipush C dXD_init_5 (by decide +kernel) ?_
  refine c_newa (t := 1) C (in9 (by decide +kernel) rfl) rfl rfl (by decide) (by decide) dXD_init_8 (by rw [hR]; exact ⟨by decide, by decide⟩) (fun q8 => ?_)
  refine c_put (q0 := 0) (k := 1) (ci := 7) C inXD tyXD_ok nmXD rfl rfl (by decide) lXD_9 rfl rfl rfl (tyXD_ok 1 (by decide)) rfl rfl (Nat.le_of_ble_eq_true rfl) dXD_init_10 ?_
  refine c_aload_n C dXD_init_13 rfl rfl ?_
  refine c_bipush C dXD_init_14 (by decide +kernel) ?_
  refine c_newa (t := 0) C (in9 (by decide +kernel) rfl) rfl rfl (by decide) (by decide) dXD_init_16 (by rw [hR]; exact ⟨by decide, by decide⟩) (fun q16 => ?_)
  refine c_put (q0 := 0) (k := 2) (ci := 7) C inXD tyXD_ok nmXD rfl rfl (by decide) lXD_15 rfl rfl rfl (tyXD_ok 2 (by decide)) rfl rfl (Nat.le_of_ble_eq_true rfl) dXD_init_18 ?_
  refine c_aload_n C dXD_init_21 rfl rfl ?_
  refine c_new (ci := 4) (fs := [.null, .null, .int (fI 0), .int (fI 0)]) C inXT tyXT_ok (in9 (by decide +kernel) rfl) (in9 (by decide +kernel) rfl) iXT rfl (by decide +kernel) dXD_init_22 (by rw [hR]; exact ⟨by decide, by decide⟩) (fun q22 => ?_)
  refine c_dup C dXD_init_25 rfl ?_
  refine c_call (n := 0) C (cX_XT _ D cA q22) dXD_init_26 (Or.inl ⟨RXA, C.2.2.2.2.2.2.2.2.1 _ (by decide +kernel)⟩) (in9 (by decide +kernel) rfl) iXT wXT_init (by decide +kernel) (by rw [hR]; exact ⟨by decide, by decide, by decide, by decide⟩) rfl (Nat.le_of_ble_eq_true rfl) rfl (fun w26 hw26 => ?_)
  obtain ⟨a26, b26, hw26⟩ := hw26
  subst hw26
  refine c_put (q0 := 0) (k := 3) (ci := 7) C inXD tyXD_ok nmXD rfl rfl (by decide) lXD_22 rfl rfl rfl (tyXD_ok 3 (by decide)) rfl rfl (Nat.le_of_ble_eq_true rfl) dXD_init_29 ?_
  refine c_aload_n C dXD_init_32 rfl rfl ?_
  refine c_aload_n C dXD_init_33 rfl rfl ?_
  refine c_put (q0 := 0) (k := 0) (ci := 7) C inXD tyXD_ok nmXD rfl rfl (by decide) lXD_26 rfl rfl rfl (tyXD_ok 0 (by decide)) rfl rfl (Nat.le_of_ble_eq_true rfl) dXD_init_34 ?_
  exact c_ret C hRt hLk dXD_init_37 ⟨by decide, by decide⟩ ⟨q8, q16, q22, a26, b26, rfl⟩
