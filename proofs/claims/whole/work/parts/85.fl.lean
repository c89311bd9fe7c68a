/-! THE LAW'S WALK OF ONE SCRIPT -/
section LB
variable {z : fZ} {D : va_G} {cA : Nat → ClassId} {ad am : Nat → Nat} {a b L i : Nat} {xs : Nat → Int32} {Q : State → Prop} {kc ks : Nat} {v : Int} {σ τ : fS} {o5 o6 : Option Value}
theorem l_rng (x : Int32) : -2147483648 ≤ x.toInt ∧ x.toInt ≤ 2147483647 := ⟨by have := Int32.le_toInt x; omega, by have := Int32.toInt_lt x; omega⟩
theorem l_andc {nL pc : Nat} {cc : ByteArray} {own : String} {lv : List (Option Value)} {st : List Value} (C : lfc z D cA ad am a nL b L xs cc own) {x j : Int} (d : decode cc pc = .ok (.iand, 1)) (he : fI x &&& fI 31 = fI j) (kk : lj z D cA ad am a nL Q kc ks σ τ v (pc + 1) lv (.int (fI j) :: st)) : lj z D cA ad am a nL Q kc ks σ τ v pc lv (.int (fI 31) :: .int (fI x) :: st) := by
  intro H locs ls hP hM hO hS hl
  refine lv_iand C.1 C.2.1 d ?_
  rw [he]
  exact kk H locs ls hP hM hO hS hl
theorem l_cmp1 {v : Int} (h : 1 ≤ v ∧ v ≤ 40) : lg_cmp (Int64.ofInt v) (Int64.ofInt 0) = fI 1 := by
  have h1 : ∀ n : Nat, n < 40 → lg_cmp (Int64.ofInt ((n : Int) + 1)) (Int64.ofInt 0) = fI 1 := by decide +kernel
  have h2 := h1 (v - 1).toNat (by omega)
  rw [show (((v - 1).toNat : Nat) : Int) + 1 = v by omega] at h2
  exact h2
theorem l_lcmp1 {nL pc : Nat} {cc : ByteArray} {own : String} {lv : List (Option Value)} {st : List Value} (C : lfc z D cA ad am a nL b L xs cc own) {w : Int} (d : decode cc pc = .ok (.lcmp, 1)) (hw : 1 ≤ w ∧ w ≤ 40) (kk : lj z D cA ad am a nL Q kc ks σ τ v (pc + 1) lv (.int (fI 1) :: st)) : lj z D cA ad am a nL Q kc ks σ τ v pc lv (.long (Int64.ofInt 0) :: .long (Int64.ofInt w) :: st) :=
  fun H locs ls hP hM hO hS hl => W.lcmp C.1 C.2.1 d (by rw [l_cmp1 hw]; exact kk H locs ls hP hM hO hS hl)
theorem f_00 {σ σ1 τ τ1 : fS} {k v : Int} (hp : σ = x_0 ∧ τ = x_0) (hy : y_object σ 1 1 k v σ1) (hu : u_object τ 1 1 τ1) : Jv σ1 τ1 ∧ τ1 = n1 := by
  obtain ⟨rfl, rfl⟩ := hp
  exact f_0 hy hu
set_option maxHeartbeats 4000000 in
theorem l_f0 (C : lfc z D cA ad am a 7 b L xs cL_law RL) (hl0 : z.2.1.stackTraces = false) (hR : 10 ≤ z.2.2.2.1.frames ∧ 40 * 10 ≤ z.2.2.2.1.locals ∧ kc + 1 ≤ z.2.2.2.1.cells ∧ ks + 6 ≤ z.2.2.2.1.slots) (hiL : i + 4 ≤ L) (hL : L ≤ 2048) (hw0 : (xs ((i : Int)).toNat).toInt = 0) (hw1 : (xs ((i : Int) + 1).toNat).toInt = 1) (hw2 : (xs ((i : Int) + 2).toNat).toInt = 1) (hp : (σ = x_0 ∧ τ = x_0)) (kend : ∀ (kc' ks' : Nat) (σ τ : fS) (v : Int) (x5 x6 : Option Value), kc' ≤ kc + 1 → ks' ≤ ks + 6 → (Jv σ τ ∧ τ = n1) → lj z D cA ad am a 7 Q kc' ks' σ τ v 1108 [some (.ref b), some (.ref (ad 0)), some (.ref (am 0)), some (.ref a), some (.int (fI (i : Int))), x5, x6] []) : lj z D cA ad am a 7 Q kc ks σ τ v 23 [some (.ref b), some (.ref (ad 0)), some (.ref (am 0)), some (.ref a), some (.int (fI (i : Int))), o5, o6] [] := by
  have hJ := C.2.2.2.2.2.2.1
  have hJm := C.2.2.2.2.2.2.2.1
  have hoff := C.2.2.2.2.2.2.2.2.1
  have hv : Jv σ τ := (by obtain ⟨rfl, rfl⟩ := hp; exact Jv_0)
  refine l_iload C dL_law_23 rfl ?_
  refine l_aload_n C dL_law_25 rfl rfl ?_
  refine l_slen C dL_law_26 ?_
  refine l_iconst C dL_law_27 ?_
  refine l_isub C dL_law_28 ?_
  refine l_icmp_gt (tgt := 1114) C dL_law_29 (by decide) (by omega) (by omega) (fun h => absurd h (by omega)) (fun _ => ?_)
  refine l_aload_n C dL_law_32 rfl rfl ?_
  refine l_iload C dL_law_33 rfl ?_
  refine l_sld C (by omega) (by omega) dL_law_35 ?_
  refine l_bipush C dL_law_36 (by decide) ?_
  refine l_andc (j := 0) C dL_law_38 (by rw [hw0]; decide +kernel) ?_
  refine l_tIn (tgt := 120) C dL_law_39 (by decide) (by decide) (by decide) rfl (by decide) ?_
  refine l_aload_n C dL_law_120 rfl rfl ?_
  refine l_aload_n C dL_law_121 rfl rfl ?_
  refine l_iload C dL_law_122 rfl ?_
  refine l_iconst C dL_law_124 ?_
  refine l_iadd C dL_law_125 ?_
  refine l_sld C (by omega) (by omega) dL_law_126 ?_
  refine l_aload_n C dL_law_127 rfl rfl ?_
  refine l_iload C dL_law_128 rfl ?_
  refine l_iconst C dL_law_130 ?_
  refine l_iadd C dL_law_131 ?_
  refine l_sld C (by omega) (by omega) dL_law_132 ?_
  refine l_h (dd := 10) (mc := 1) (ms := 6) (np := 3) (st := []) C hR (kG_object z.2.1 D cA ad hJ hl0 a hoff v σ (Jv_x hv) ((xs ((i : Int) + 1).toNat).toInt) ((xs ((i : Int) + 2).toNat).toInt) (l_rng _) (l_rng _) ) dL_law_133 mL_object sL_object iL wL_object ⟨by decide +kernel, by decide +kernel, by decide +kernel⟩ (by decide) (by decide) rfl (by decide) rfl (fun k v1 σ1 hy => ?_)
  refine l_istore C dL_law_136 (by decide) ?_
  show lj z D cA ad am a 7 Q (kc + 1) (ks + 6) σ1 τ v1 138 [some (.ref b), some (.ref (ad 0)), some (.ref (am 0)), some (.ref a), some (.int (fI (i : Int))), some (.int (fI k)), o6] []
  refine l_aload_n C dL_law_138 rfl rfl ?_
  refine l_aload_n C dL_law_139 rfl rfl ?_
  refine l_iload C dL_law_140 rfl ?_
  refine l_iconst C dL_law_142 ?_
  refine l_iadd C dL_law_143 ?_
  refine l_sld C (by omega) (by omega) dL_law_144 ?_
  refine l_aload_n C dL_law_145 rfl rfl ?_
  refine l_iload C dL_law_146 rfl ?_
  refine l_iconst C dL_law_148 ?_
  refine l_iadd C dL_law_149 ?_
  refine l_sld C (by omega) (by omega) dL_law_150 ?_
  refine l_mV (dd := 10) (np := 2) (st := []) C hR (kU_object z.2.1 D cA am hJm τ (Jv_m hv) ((xs ((i : Int) + 1).toNat).toInt) ((xs ((i : Int) + 2).toNat).toInt) (l_rng _) (l_rng _) ) dL_law_151 gW_81 ⟨rfl, by decide +kernel, by decide +kernel, by decide +kernel⟩ (by decide) (by decide) rfl (by decide) rfl (fun τ1 hu => ?_)
  have hy2 := hy
  have hu2 := hu
  rw [hw1, hw2] at hy2 hu2
  have hq := (f_00 hp hy2 hu2)
  obtain ⟨hj, he, hk⟩ := st_object hv  hy hu
  clear hy hu hy2 hu2
  refine l_aload_n C dL_law_154 rfl rfl ?_
  refine l_mI (dd := 10) (np := 0) (st := []) C hR (kM_thrown z.2.1 xCl D cA am hJm τ1) dL_law_155 gW_82 ⟨rfl, by decide +kernel, by decide +kernel, by decide +kernel⟩ (by decide) (by decide) rfl (by decide) rfl (fun t τ2 hp3 => ?_)
  obtain ⟨ht3, hs3⟩ := hp3
  subst τ2
  subst ht3
  refine l_iload C dL_law_158 rfl ?_
  refine l_icmp_eq (tgt := 165) C dL_law_160 (by decide) (by omega) (by omega) (fun _ => ?_) (fun hne => absurd he hne)
  refine l_goto (tgt := 1108) C dL_law_165 (by decide) ?_
  exact kend _ _ _ _ _ _ _ (Nat.le_refl _) (Nat.le_refl _) hq
set_option maxHeartbeats 4000000 in
theorem l_f1 (C : lfc z D cA ad am a 7 b L xs cL_law RL) (hl0 : z.2.1.stackTraces = false) (hR : 10 ≤ z.2.2.2.1.frames ∧ 40 * 10 ≤ z.2.2.2.1.locals ∧ kc + 1 ≤ z.2.2.2.1.cells ∧ ks + 6 ≤ z.2.2.2.1.slots) (hiL : i + 4 ≤ L) (hL : L ≤ 2048) (hw0 : (xs ((i : Int)).toNat).toInt = 4) (hw1 : (xs ((i : Int) + 1).toNat).toInt = 0) (hp : (Jv σ τ ∧ τ = n1)) (kend : ∀ (kc' ks' : Nat) (σ τ : fS) (v : Int) (x5 x6 : Option Value), kc' ≤ kc + 1 → ks' ≤ ks + 6 → Qf n2 σ τ → lj z D cA ad am a 7 Q kc' ks' σ τ v 1108 [some (.ref b), some (.ref (ad 0)), some (.ref (am 0)), some (.ref a), some (.int (fI (i : Int))), x5, x6] []) : lj z D cA ad am a 7 Q kc ks σ τ v 23 [some (.ref b), some (.ref (ad 0)), some (.ref (am 0)), some (.ref a), some (.int (fI (i : Int))), o5, o6] [] := by
  have hJ := C.2.2.2.2.2.2.1
  have hJm := C.2.2.2.2.2.2.2.1
  have hoff := C.2.2.2.2.2.2.2.2.1
  have hv : Jv σ τ := hp.1
  refine l_iload C dL_law_23 rfl ?_
  refine l_aload_n C dL_law_25 rfl rfl ?_
  refine l_slen C dL_law_26 ?_
  refine l_iconst C dL_law_27 ?_
  refine l_isub C dL_law_28 ?_
  refine l_icmp_gt (tgt := 1114) C dL_law_29 (by decide) (by omega) (by omega) (fun h => absurd h (by omega)) (fun _ => ?_)
  refine l_aload_n C dL_law_32 rfl rfl ?_
  refine l_iload C dL_law_33 rfl ?_
  refine l_sld C (by omega) (by omega) dL_law_35 ?_
  refine l_bipush C dL_law_36 (by decide) ?_
  refine l_andc (j := 4) C dL_law_38 (by rw [hw0]; decide +kernel) ?_
  refine l_tIn (tgt := 404) C dL_law_39 (by decide) (by decide) (by decide) rfl (by decide) ?_
  refine l_aload_n C dL_law_404 rfl rfl ?_
  refine l_aload_n C dL_law_405 rfl rfl ?_
  refine l_iload C dL_law_406 rfl ?_
  refine l_iconst C dL_law_408 ?_
  refine l_iadd C dL_law_409 ?_
  refine l_sld C (by omega) (by omega) dL_law_410 ?_
  refine l_aload_n C dL_law_411 rfl rfl ?_
  refine l_h (dd := 10) (mc := 1) (ms := 6) (np := 3) (st := []) C hR (kG_write z.2.1 D cA ad hJ hl0 a hoff v σ (Jv_x hv) ((xs ((i : Int) + 1).toNat).toInt) (l_rng _) ) dL_law_412 mL_write sL_write iL wL_write ⟨by decide +kernel, by decide +kernel, by decide +kernel⟩ (by decide) (by decide) rfl (by decide) rfl (fun k v1 σ1 hy => ?_)
  refine l_istore C dL_law_415 (by decide) ?_
  show lj z D cA ad am a 7 Q (kc + 1) (ks + 6) σ1 τ v1 417 [some (.ref b), some (.ref (ad 0)), some (.ref (am 0)), some (.ref a), some (.int (fI (i : Int))), some (.int (fI k)), o6] []
  refine l_aload_n C dL_law_417 rfl rfl ?_
  refine l_aload_n C dL_law_418 rfl rfl ?_
  refine l_iload C dL_law_419 rfl ?_
  refine l_iconst C dL_law_421 ?_
  refine l_iadd C dL_law_422 ?_
  refine l_sld C (by omega) (by omega) dL_law_423 ?_
  refine l_mI (dd := 10) (np := 1) (st := []) C hR (kU_write z.2.1 D cA am hJm τ (Jv_m hv) ((xs ((i : Int) + 1).toNat).toInt) (l_rng _) ) dL_law_424 gW_99 ⟨rfl, by decide +kernel, by decide +kernel, by decide +kernel⟩ (by decide) (by decide) rfl (by decide) rfl (fun r τ1 hu => ?_)
  refine l_istore C dL_law_427 (by decide) ?_
  show lj z D cA ad am a 7 Q (kc + 1) (ks + 6) σ1 τ1 v1 429 [some (.ref b), some (.ref (ad 0)), some (.ref (am 0)), some (.ref a), some (.int (fI (i : Int))), some (.int (fI k)), some (.int (fI r))] []
  have hy2 := hy
  have hu2 := hu
  rw [hw1] at hy2 hu2
  have hq := (f_1 hp hy2 hu2)
  obtain ⟨hj, he, hk, hvv, hr⟩ := st_write hv  hy hu
  clear hy hu hy2 hu2
  refine l_aload_n C dL_law_429 rfl rfl ?_
  refine l_mI (dd := 10) (np := 0) (st := []) C hR (kM_thrown z.2.1 xCl D cA am hJm τ1) dL_law_430 gW_82 ⟨rfl, by decide +kernel, by decide +kernel, by decide +kernel⟩ (by decide) (by decide) rfl (by decide) rfl (fun t τ2 hp3 => ?_)
  obtain ⟨ht3, hs3⟩ := hp3
  subst τ2
  subst ht3
  refine l_iload C dL_law_433 rfl ?_
  refine l_icmp_eq (tgt := 440) C dL_law_435 (by decide) (by omega) (by omega) (fun _ => ?_) (fun hne => absurd he hne)
  refine l_iload C dL_law_440 rfl ?_
  refine l_if_ne (tgt := 457) C dL_law_442 (by decide) (by omega) (fun _ => ?_) (fun h0 => ?_)
  · skip
    refine l_goto (tgt := 1108) C dL_law_457 (by decide) ?_
    exact kend _ _ _ _ _ _ _ (Nat.le_refl _) (Nat.le_refl _) hq
  have e9 := hvv h0
  subst e9
  refine l_aload_n C dL_law_445 rfl rfl ?_
  refine l_iconst C dL_law_446 ?_
  refine l_lald C dL_law_447 ?_
  refine l_iload C dL_law_448 rfl ?_
  refine l_i2l C dL_law_450 hr ?_
  refine l_lcmp C dL_law_451 ?_
  refine l_if_eq (tgt := 457) C dL_law_452 (by decide) (by decide) (fun _ => ?_) (fun h => absurd rfl h)
  refine l_goto (tgt := 1108) C dL_law_457 (by decide) ?_
  exact kend _ _ _ _ _ _ _ (Nat.le_refl _) (Nat.le_refl _) hq
set_option maxHeartbeats 4000000 in
theorem l_f2 (C : lfc z D cA ad am a 7 b L xs cL_law RL) (hl0 : z.2.1.stackTraces = false) (hR : 10 ≤ z.2.2.2.1.frames ∧ 40 * 10 ≤ z.2.2.2.1.locals ∧ kc + 1 ≤ z.2.2.2.1.cells ∧ ks + 6 ≤ z.2.2.2.1.slots) (hiL : i + 4 ≤ L) (hL : L ≤ 2048) (hw0 : (xs ((i : Int)).toNat).toInt = 0) (hw1 : (xs ((i : Int) + 1).toNat).toInt = 1) (hw2 : (xs ((i : Int) + 2).toNat).toInt = 1) (hp : Qf n2 σ τ) (kend : ∀ (kc' ks' : Nat) (σ τ : fS) (v : Int) (x5 x6 : Option Value), kc' ≤ kc + 1 → ks' ≤ ks + 6 → Qf n3 σ τ → lj z D cA ad am a 7 Q kc' ks' σ τ v 1108 [some (.ref b), some (.ref (ad 0)), some (.ref (am 0)), some (.ref a), some (.int (fI (i : Int))), x5, x6] []) : lj z D cA ad am a 7 Q kc ks σ τ v 23 [some (.ref b), some (.ref (ad 0)), some (.ref (am 0)), some (.ref a), some (.int (fI (i : Int))), o5, o6] [] := by
  have hJ := C.2.2.2.2.2.2.1
  have hJm := C.2.2.2.2.2.2.2.1
  have hoff := C.2.2.2.2.2.2.2.2.1
  have hv : Jv σ τ := hp.1
  refine l_iload C dL_law_23 rfl ?_
  refine l_aload_n C dL_law_25 rfl rfl ?_
  refine l_slen C dL_law_26 ?_
  refine l_iconst C dL_law_27 ?_
  refine l_isub C dL_law_28 ?_
  refine l_icmp_gt (tgt := 1114) C dL_law_29 (by decide) (by omega) (by omega) (fun h => absurd h (by omega)) (fun _ => ?_)
  refine l_aload_n C dL_law_32 rfl rfl ?_
  refine l_iload C dL_law_33 rfl ?_
  refine l_sld C (by omega) (by omega) dL_law_35 ?_
  refine l_bipush C dL_law_36 (by decide) ?_
  refine l_andc (j := 0) C dL_law_38 (by rw [hw0]; decide +kernel) ?_
  refine l_tIn (tgt := 120) C dL_law_39 (by decide) (by decide) (by decide) rfl (by decide) ?_
  refine l_aload_n C dL_law_120 rfl rfl ?_
  refine l_aload_n C dL_law_121 rfl rfl ?_
  refine l_iload C dL_law_122 rfl ?_
  refine l_iconst C dL_law_124 ?_
  refine l_iadd C dL_law_125 ?_
  refine l_sld C (by omega) (by omega) dL_law_126 ?_
  refine l_aload_n C dL_law_127 rfl rfl ?_
  refine l_iload C dL_law_128 rfl ?_
  refine l_iconst C dL_law_130 ?_
  refine l_iadd C dL_law_131 ?_
  refine l_sld C (by omega) (by omega) dL_law_132 ?_
  refine l_h (dd := 10) (mc := 1) (ms := 6) (np := 3) (st := []) C hR (kG_object z.2.1 D cA ad hJ hl0 a hoff v σ (Jv_x hv) ((xs ((i : Int) + 1).toNat).toInt) ((xs ((i : Int) + 2).toNat).toInt) (l_rng _) (l_rng _) ) dL_law_133 mL_object sL_object iL wL_object ⟨by decide +kernel, by decide +kernel, by decide +kernel⟩ (by decide) (by decide) rfl (by decide) rfl (fun k v1 σ1 hy => ?_)
  refine l_istore C dL_law_136 (by decide) ?_
  show lj z D cA ad am a 7 Q (kc + 1) (ks + 6) σ1 τ v1 138 [some (.ref b), some (.ref (ad 0)), some (.ref (am 0)), some (.ref a), some (.int (fI (i : Int))), some (.int (fI k)), o6] []
  refine l_aload_n C dL_law_138 rfl rfl ?_
  refine l_aload_n C dL_law_139 rfl rfl ?_
  refine l_iload C dL_law_140 rfl ?_
  refine l_iconst C dL_law_142 ?_
  refine l_iadd C dL_law_143 ?_
  refine l_sld C (by omega) (by omega) dL_law_144 ?_
  refine l_aload_n C dL_law_145 rfl rfl ?_
  refine l_iload C dL_law_146 rfl ?_
  refine l_iconst C dL_law_148 ?_
  refine l_iadd C dL_law_149 ?_
  refine l_sld C (by omega) (by omega) dL_law_150 ?_
  refine l_mV (dd := 10) (np := 2) (st := []) C hR (kU_object z.2.1 D cA am hJm τ (Jv_m hv) ((xs ((i : Int) + 1).toNat).toInt) ((xs ((i : Int) + 2).toNat).toInt) (l_rng _) (l_rng _) ) dL_law_151 gW_81 ⟨rfl, by decide +kernel, by decide +kernel, by decide +kernel⟩ (by decide) (by decide) rfl (by decide) rfl (fun τ1 hu => ?_)
  have hy2 := hy
  have hu2 := hu
  rw [hw1, hw2] at hy2 hu2
  have hq := (f_2 hp hy2 hu2)
  obtain ⟨hj, he, hk⟩ := st_object hv  hy hu
  clear hy hu hy2 hu2
  refine l_aload_n C dL_law_154 rfl rfl ?_
  refine l_mI (dd := 10) (np := 0) (st := []) C hR (kM_thrown z.2.1 xCl D cA am hJm τ1) dL_law_155 gW_82 ⟨rfl, by decide +kernel, by decide +kernel, by decide +kernel⟩ (by decide) (by decide) rfl (by decide) rfl (fun t τ2 hp3 => ?_)
  obtain ⟨ht3, hs3⟩ := hp3
  subst τ2
  subst ht3
  refine l_iload C dL_law_158 rfl ?_
  refine l_icmp_eq (tgt := 165) C dL_law_160 (by decide) (by omega) (by omega) (fun _ => ?_) (fun hne => absurd he hne)
  refine l_goto (tgt := 1108) C dL_law_165 (by decide) ?_
  exact kend _ _ _ _ _ _ _ (Nat.le_refl _) (Nat.le_refl _) hq
set_option maxHeartbeats 4000000 in
theorem l_f3 (C : lfc z D cA ad am a 7 b L xs cL_law RL) (hl0 : z.2.1.stackTraces = false) (hR : 10 ≤ z.2.2.2.1.frames ∧ 40 * 10 ≤ z.2.2.2.1.locals ∧ kc + 1 ≤ z.2.2.2.1.cells ∧ ks + 6 ≤ z.2.2.2.1.slots) (hiL : i + 4 ≤ L) (hL : L ≤ 2048) (hw0 : (xs ((i : Int)).toNat).toInt = 5)  (hp : Qf n3 σ τ) (kend : ∀ (kc' ks' : Nat) (σ τ : fS) (v : Int) (x5 x6 : Option Value), kc' ≤ kc + 1 → ks' ≤ ks + 6 → Qf n4 σ τ → lj z D cA ad am a 7 Q kc' ks' σ τ v 1108 [some (.ref b), some (.ref (ad 0)), some (.ref (am 0)), some (.ref a), some (.int (fI (i : Int))), x5, x6] []) : lj z D cA ad am a 7 Q kc ks σ τ v 23 [some (.ref b), some (.ref (ad 0)), some (.ref (am 0)), some (.ref a), some (.int (fI (i : Int))), o5, o6] [] := by
  have hJ := C.2.2.2.2.2.2.1
  have hJm := C.2.2.2.2.2.2.2.1
  have hoff := C.2.2.2.2.2.2.2.2.1
  have hv : Jv σ τ := hp.1
  refine l_iload C dL_law_23 rfl ?_
  refine l_aload_n C dL_law_25 rfl rfl ?_
  refine l_slen C dL_law_26 ?_
  refine l_iconst C dL_law_27 ?_
  refine l_isub C dL_law_28 ?_
  refine l_icmp_gt (tgt := 1114) C dL_law_29 (by decide) (by omega) (by omega) (fun h => absurd h (by omega)) (fun _ => ?_)
  refine l_aload_n C dL_law_32 rfl rfl ?_
  refine l_iload C dL_law_33 rfl ?_
  refine l_sld C (by omega) (by omega) dL_law_35 ?_
  refine l_bipush C dL_law_36 (by decide) ?_
  refine l_andc (j := 5) C dL_law_38 (by rw [hw0]; decide +kernel) ?_
  refine l_tIn (tgt := 460) C dL_law_39 (by decide) (by decide) (by decide) rfl (by decide) ?_
  refine l_aload_n C dL_law_460 rfl rfl ?_
  refine l_aload_n C dL_law_461 rfl rfl ?_
  refine l_h (dd := 10) (mc := 1) (ms := 6) (np := 2) (st := []) C hR (kG_append z.2.1 D cA ad hJ hl0 a hoff v σ (Jv_x hv) ()  ) dL_law_462 mL_append sL_append iL wL_append ⟨by decide +kernel, by decide +kernel, by decide +kernel⟩ (by decide) (by decide) rfl (by decide) rfl (fun k v1 σ1 hy => ?_)
  refine l_istore C dL_law_465 (by decide) ?_
  show lj z D cA ad am a 7 Q (kc + 1) (ks + 6) σ1 τ v1 467 [some (.ref b), some (.ref (ad 0)), some (.ref (am 0)), some (.ref a), some (.int (fI (i : Int))), some (.int (fI k)), o6] []
  refine l_aload_n C dL_law_467 rfl rfl ?_
  refine l_mI (dd := 10) (np := 0) (st := []) C hR (kU_append z.2.1 D cA am hJm τ (Jv_m hv)   ) dL_law_468 gW_103 ⟨rfl, by decide +kernel, by decide +kernel, by decide +kernel⟩ (by decide) (by decide) rfl (by decide) rfl (fun r τ1 hu => ?_)
  refine l_istore C dL_law_471 (by decide) ?_
  show lj z D cA ad am a 7 Q (kc + 1) (ks + 6) σ1 τ1 v1 473 [some (.ref b), some (.ref (ad 0)), some (.ref (am 0)), some (.ref a), some (.int (fI (i : Int))), some (.int (fI k)), some (.int (fI r))] []
  have hy2 := hy
  have hu2 := hu
  have hq := (f_3 hp hy2 hu2)
  obtain ⟨hj, he, hk, hvv, hr⟩ := st_append hv  hy hu
  clear hy hu hy2 hu2
  refine l_aload_n C dL_law_473 rfl rfl ?_
  refine l_mI (dd := 10) (np := 0) (st := []) C hR (kM_thrown z.2.1 xCl D cA am hJm τ1) dL_law_474 gW_82 ⟨rfl, by decide +kernel, by decide +kernel, by decide +kernel⟩ (by decide) (by decide) rfl (by decide) rfl (fun t τ2 hp3 => ?_)
  obtain ⟨ht3, hs3⟩ := hp3
  subst τ2
  subst ht3
  refine l_iload C dL_law_477 rfl ?_
  refine l_icmp_eq (tgt := 484) C dL_law_479 (by decide) (by omega) (by omega) (fun _ => ?_) (fun hne => absurd he hne)
  refine l_iload C dL_law_484 rfl ?_
  refine l_if_ne (tgt := 501) C dL_law_486 (by decide) (by omega) (fun _ => ?_) (fun h0 => ?_)
  · skip
    refine l_goto (tgt := 1108) C dL_law_501 (by decide) ?_
    exact kend _ _ _ _ _ _ _ (Nat.le_refl _) (Nat.le_refl _) hq
  have e9 := hvv h0
  subst e9
  refine l_aload_n C dL_law_489 rfl rfl ?_
  refine l_iconst C dL_law_490 ?_
  refine l_lald C dL_law_491 ?_
  refine l_iload C dL_law_492 rfl ?_
  refine l_i2l C dL_law_494 hr ?_
  refine l_lcmp C dL_law_495 ?_
  refine l_if_eq (tgt := 501) C dL_law_496 (by decide) (by decide) (fun _ => ?_) (fun h => absurd rfl h)
  refine l_goto (tgt := 1108) C dL_law_501 (by decide) ?_
  exact kend _ _ _ _ _ _ _ (Nat.le_refl _) (Nat.le_refl _) hq
set_option maxHeartbeats 4000000 in
theorem l_f4 (C : lfc z D cA ad am a 7 b L xs cL_law RL) (hl0 : z.2.1.stackTraces = false) (hR : 10 ≤ z.2.2.2.1.frames ∧ 40 * 10 ≤ z.2.2.2.1.locals ∧ kc + 1 ≤ z.2.2.2.1.cells ∧ ks + 6 ≤ z.2.2.2.1.slots) (hiL : i + 4 ≤ L) (hL : L ≤ 2048) (hw0 : (xs ((i : Int)).toNat).toInt = 7) (hw1 : (xs ((i : Int) + 1).toNat).toInt = 0) (hw2 : (xs ((i : Int) + 2).toNat).toInt = 0) (hp : Qf n4 σ τ) (kend : ∀ (kc' ks' : Nat) (σ τ : fS) (v : Int) (x5 x6 : Option Value), kc' ≤ kc + 1 → ks' ≤ ks + 6 → Qf n5 σ τ → lj z D cA ad am a 7 Q kc' ks' σ τ v 1108 [some (.ref b), some (.ref (ad 0)), some (.ref (am 0)), some (.ref a), some (.int (fI (i : Int))), x5, x6] []) : lj z D cA ad am a 7 Q kc ks σ τ v 23 [some (.ref b), some (.ref (ad 0)), some (.ref (am 0)), some (.ref a), some (.int (fI (i : Int))), o5, o6] [] := by
  have hJ := C.2.2.2.2.2.2.1
  have hJm := C.2.2.2.2.2.2.2.1
  have hoff := C.2.2.2.2.2.2.2.2.1
  have hv : Jv σ τ := hp.1
  refine l_iload C dL_law_23 rfl ?_
  refine l_aload_n C dL_law_25 rfl rfl ?_
  refine l_slen C dL_law_26 ?_
  refine l_iconst C dL_law_27 ?_
  refine l_isub C dL_law_28 ?_
  refine l_icmp_gt (tgt := 1114) C dL_law_29 (by decide) (by omega) (by omega) (fun h => absurd h (by omega)) (fun _ => ?_)
  refine l_aload_n C dL_law_32 rfl rfl ?_
  refine l_iload C dL_law_33 rfl ?_
  refine l_sld C (by omega) (by omega) dL_law_35 ?_
  refine l_bipush C dL_law_36 (by decide) ?_
  refine l_andc (j := 7) C dL_law_38 (by rw [hw0]; decide +kernel) ?_
  refine l_tIn (tgt := 517) C dL_law_39 (by decide) (by decide) (by decide) rfl (by decide) ?_
  refine l_aload_n C dL_law_517 rfl rfl ?_
  refine l_aload_n C dL_law_518 rfl rfl ?_
  refine l_iload C dL_law_519 rfl ?_
  refine l_iconst C dL_law_521 ?_
  refine l_iadd C dL_law_522 ?_
  refine l_sld C (by omega) (by omega) dL_law_523 ?_
  refine l_aload_n C dL_law_524 rfl rfl ?_
  refine l_iload C dL_law_525 rfl ?_
  refine l_iconst C dL_law_527 ?_
  refine l_iadd C dL_law_528 ?_
  refine l_sld C (by omega) (by omega) dL_law_529 ?_
  refine l_i2b C dL_law_530 ?_
  refine l_aload_n C dL_law_531 rfl rfl ?_
  refine l_h (dd := 10) (mc := 1) (ms := 6) (np := 4) (st := []) C hR (kG_poke z.2.1 D cA ad hJ hl0 a hoff v σ (Jv_x hv) ((xs ((i : Int) + 1).toNat).toInt) (((xs ((i : Int) + 2).toNat).toInt.bmod 256)) (l_rng _) (by have := x_bm (xs ((i : Int) + 2).toNat).toInt; omega) (x_bm (xs ((i : Int) + 2).toNat).toInt)) dL_law_532 mL_poke sL_poke iL wL_poke ⟨by decide +kernel, by decide +kernel, by decide +kernel⟩ (by decide) (by decide) rfl (by decide) rfl (fun k v1 σ1 hy => ?_)
  refine l_istore C dL_law_535 (by decide) ?_
  show lj z D cA ad am a 7 Q (kc + 1) (ks + 6) σ1 τ v1 537 [some (.ref b), some (.ref (ad 0)), some (.ref (am 0)), some (.ref a), some (.int (fI (i : Int))), some (.int (fI k)), o6] []
  refine l_aload_n C dL_law_537 rfl rfl ?_
  refine l_aload_n C dL_law_538 rfl rfl ?_
  refine l_iload C dL_law_539 rfl ?_
  refine l_iconst C dL_law_541 ?_
  refine l_iadd C dL_law_542 ?_
  refine l_sld C (by omega) (by omega) dL_law_543 ?_
  refine l_aload_n C dL_law_544 rfl rfl ?_
  refine l_iload C dL_law_545 rfl ?_
  refine l_iconst C dL_law_547 ?_
  refine l_iadd C dL_law_548 ?_
  refine l_sld C (by omega) (by omega) dL_law_549 ?_
  refine l_i2b C dL_law_550 ?_
  refine l_mI (dd := 10) (np := 2) (st := []) C hR (kU_poke z.2.1 D cA am hJm τ (Jv_m hv) ((xs ((i : Int) + 1).toNat).toInt) (((xs ((i : Int) + 2).toNat).toInt.bmod 256)) (l_rng _) (by have := x_bm (xs ((i : Int) + 2).toNat).toInt; omega) (x_bm (xs ((i : Int) + 2).toNat).toInt)) dL_law_551 gW_111 ⟨rfl, by decide +kernel, by decide +kernel, by decide +kernel⟩ (by decide) (by decide) rfl (by decide) rfl (fun r τ1 hu => ?_)
  refine l_istore C dL_law_554 (by decide) ?_
  show lj z D cA ad am a 7 Q (kc + 1) (ks + 6) σ1 τ1 v1 556 [some (.ref b), some (.ref (ad 0)), some (.ref (am 0)), some (.ref a), some (.int (fI (i : Int))), some (.int (fI k)), some (.int (fI r))] []
  have hy2 := hy
  have hu2 := hu
  rw [hw1, hw2] at hy2 hu2
  have hq := (f_4 hp hy2 hu2)
  obtain ⟨hj, he, hk, hvv, hr⟩ := st_poke hv (x_bm (xs ((i : Int) + 2).toNat).toInt) hy hu
  clear hy hu hy2 hu2
  refine l_aload_n C dL_law_556 rfl rfl ?_
  refine l_mI (dd := 10) (np := 0) (st := []) C hR (kM_thrown z.2.1 xCl D cA am hJm τ1) dL_law_557 gW_82 ⟨rfl, by decide +kernel, by decide +kernel, by decide +kernel⟩ (by decide) (by decide) rfl (by decide) rfl (fun t τ2 hp3 => ?_)
  obtain ⟨ht3, hs3⟩ := hp3
  subst τ2
  subst ht3
  refine l_iload C dL_law_560 rfl ?_
  refine l_icmp_eq (tgt := 567) C dL_law_562 (by decide) (by omega) (by omega) (fun _ => ?_) (fun hne => absurd he hne)
  refine l_iload C dL_law_567 rfl ?_
  refine l_if_ne (tgt := 584) C dL_law_569 (by decide) (by omega) (fun _ => ?_) (fun h0 => ?_)
  · skip
    refine l_goto (tgt := 1108) C dL_law_584 (by decide) ?_
    exact kend _ _ _ _ _ _ _ (Nat.le_refl _) (Nat.le_refl _) hq
  have e9 := hvv h0
  subst e9
  refine l_aload_n C dL_law_572 rfl rfl ?_
  refine l_iconst C dL_law_573 ?_
  refine l_lald C dL_law_574 ?_
  refine l_iload C dL_law_575 rfl ?_
  refine l_i2l C dL_law_577 hr ?_
  refine l_lcmp C dL_law_578 ?_
  refine l_if_eq (tgt := 584) C dL_law_579 (by decide) (by decide) (fun _ => ?_) (fun h => absurd rfl h)
  refine l_goto (tgt := 1108) C dL_law_584 (by decide) ?_
  exact kend _ _ _ _ _ _ _ (Nat.le_refl _) (Nat.le_refl _) hq
set_option maxHeartbeats 4000000 in
theorem l_f5 (C : lfc z D cA ad am a 7 b L xs cL_law RL) (hl0 : z.2.1.stackTraces = false) (hR : 10 ≤ z.2.2.2.1.frames ∧ 40 * 10 ≤ z.2.2.2.1.locals ∧ kc + 1 ≤ z.2.2.2.1.cells ∧ ks + 6 ≤ z.2.2.2.1.slots) (hiL : i + 4 ≤ L) (hL : L ≤ 2048) (hw0 : (xs ((i : Int)).toNat).toInt = 8) (hw1 : (xs ((i : Int) + 1).toNat).toInt = 0) (hp : Qf n5 σ τ) (kend : ∀ (kc' ks' : Nat) (σ τ : fS) (v : Int) (x5 x6 : Option Value), kc' ≤ kc + 1 → ks' ≤ ks + 6 → Q6 σ τ → lj z D cA ad am a 7 Q kc' ks' σ τ v 1108 [some (.ref b), some (.ref (ad 0)), some (.ref (am 0)), some (.ref a), some (.int (fI (i : Int))), x5, x6] []) : lj z D cA ad am a 7 Q kc ks σ τ v 23 [some (.ref b), some (.ref (ad 0)), some (.ref (am 0)), some (.ref a), some (.int (fI (i : Int))), o5, o6] [] := by
  have hJ := C.2.2.2.2.2.2.1
  have hJm := C.2.2.2.2.2.2.2.1
  have hoff := C.2.2.2.2.2.2.2.2.1
  have hv : Jv σ τ := hp.1
  refine l_iload C dL_law_23 rfl ?_
  refine l_aload_n C dL_law_25 rfl rfl ?_
  refine l_slen C dL_law_26 ?_
  refine l_iconst C dL_law_27 ?_
  refine l_isub C dL_law_28 ?_
  refine l_icmp_gt (tgt := 1114) C dL_law_29 (by decide) (by omega) (by omega) (fun h => absurd h (by omega)) (fun _ => ?_)
  refine l_aload_n C dL_law_32 rfl rfl ?_
  refine l_iload C dL_law_33 rfl ?_
  refine l_sld C (by omega) (by omega) dL_law_35 ?_
  refine l_bipush C dL_law_36 (by decide) ?_
  refine l_andc (j := 8) C dL_law_38 (by rw [hw0]; decide +kernel) ?_
  refine l_tIn (tgt := 587) C dL_law_39 (by decide) (by decide) (by decide) rfl (by decide) ?_
  refine l_aload_n C dL_law_587 rfl rfl ?_
  refine l_aload_n C dL_law_588 rfl rfl ?_
  refine l_iload C dL_law_589 rfl ?_
  refine l_iconst C dL_law_591 ?_
  refine l_iadd C dL_law_592 ?_
  refine l_sld C (by omega) (by omega) dL_law_593 ?_
  refine l_aload_n C dL_law_594 rfl rfl ?_
  refine l_h (dd := 10) (mc := 1) (ms := 6) (np := 3) (st := []) C hR (kG_take z.2.1 D cA ad hJ hl0 a hoff v σ (Jv_x hv) ((xs ((i : Int) + 1).toNat).toInt) (l_rng _) ) dL_law_595 mL_take sL_take iL wL_take ⟨by decide +kernel, by decide +kernel, by decide +kernel⟩ (by decide) (by decide) rfl (by decide) rfl (fun k v1 σ1 hy => ?_)
  refine l_istore C dL_law_598 (by decide) ?_
  show lj z D cA ad am a 7 Q (kc + 1) (ks + 6) σ1 τ v1 600 [some (.ref b), some (.ref (ad 0)), some (.ref (am 0)), some (.ref a), some (.int (fI (i : Int))), some (.int (fI k)), o6] []
  refine l_aload_n C dL_law_600 rfl rfl ?_
  refine l_aload_n C dL_law_601 rfl rfl ?_
  refine l_iload C dL_law_602 rfl ?_
  refine l_iconst C dL_law_604 ?_
  refine l_iadd C dL_law_605 ?_
  refine l_sld C (by omega) (by omega) dL_law_606 ?_
  refine l_mI (dd := 10) (np := 1) (st := []) C hR (kU_take z.2.1 D cA am hJm τ (Jv_m hv) ((xs ((i : Int) + 1).toNat).toInt) (l_rng _) ) dL_law_607 gW_114 ⟨rfl, by decide +kernel, by decide +kernel, by decide +kernel⟩ (by decide) (by decide) rfl (by decide) rfl (fun r τ1 hu => ?_)
  refine l_istore C dL_law_610 (by decide) ?_
  show lj z D cA ad am a 7 Q (kc + 1) (ks + 6) σ1 τ1 v1 612 [some (.ref b), some (.ref (ad 0)), some (.ref (am 0)), some (.ref a), some (.int (fI (i : Int))), some (.int (fI k)), some (.int (fI r))] []
  have hy2 := hy
  have hu2 := hu
  rw [hw1] at hy2 hu2
  have hq := (f_5 hp hy2 hu2)
  obtain ⟨hj, he, hk, hvv, hr⟩ := st_take hv  hy hu
  clear hy hu hy2 hu2
  refine l_aload_n C dL_law_612 rfl rfl ?_
  refine l_mI (dd := 10) (np := 0) (st := []) C hR (kM_thrown z.2.1 xCl D cA am hJm τ1) dL_law_613 gW_82 ⟨rfl, by decide +kernel, by decide +kernel, by decide +kernel⟩ (by decide) (by decide) rfl (by decide) rfl (fun t τ2 hp3 => ?_)
  obtain ⟨ht3, hs3⟩ := hp3
  subst τ2
  subst ht3
  refine l_iload C dL_law_616 rfl ?_
  refine l_icmp_eq (tgt := 623) C dL_law_618 (by decide) (by omega) (by omega) (fun _ => ?_) (fun hne => absurd he hne)
  refine l_iload C dL_law_623 rfl ?_
  refine l_if_ne (tgt := 640) C dL_law_625 (by decide) (by omega) (fun _ => ?_) (fun h0 => ?_)
  · skip
    refine l_goto (tgt := 1108) C dL_law_640 (by decide) ?_
    exact kend _ _ _ _ _ _ _ (Nat.le_refl _) (Nat.le_refl _) hq
  have e9 := hvv h0
  subst e9
  refine l_aload_n C dL_law_628 rfl rfl ?_
  refine l_iconst C dL_law_629 ?_
  refine l_lald C dL_law_630 ?_
  refine l_iload C dL_law_631 rfl ?_
  refine l_i2l C dL_law_633 hr ?_
  refine l_lcmp C dL_law_634 ?_
  refine l_if_eq (tgt := 640) C dL_law_635 (by decide) (by decide) (fun _ => ?_) (fun h => absurd rfl h)
  refine l_goto (tgt := 1108) C dL_law_640 (by decide) ?_
  exact kend _ _ _ _ _ _ _ (Nat.le_refl _) (Nat.le_refl _) hq
set_option maxHeartbeats 4000000 in
theorem l_f6 (C : lfc z D cA ad am a 7 b L xs cL_law RL) (hl0 : z.2.1.stackTraces = false) (hR : 10 ≤ z.2.2.2.1.frames ∧ 40 * 10 ≤ z.2.2.2.1.locals ∧ kc + 1 ≤ z.2.2.2.1.cells ∧ ks + 6 ≤ z.2.2.2.1.slots) (hiL : i + 4 ≤ L) (hL : L ≤ 2048) (hw0 : (xs ((i : Int)).toNat).toInt = 14) (hw1 : (xs ((i : Int) + 1).toNat).toInt = 1) (hw2 : (xs ((i : Int) + 2).toNat).toInt = 0) (hp : Q6 σ τ) (kret : ∀ (kc' ks' : Nat) (σ τ : fS) (v : Int) (lv : List (Option Value)), kc' ≤ kc + 1 → ks' ≤ ks + 6 → lj z D cA ad am a 7 Q kc' ks' σ τ v 1011 lv [.int (fI 0)]) : lj z D cA ad am a 7 Q kc ks σ τ v 23 [some (.ref b), some (.ref (ad 0)), some (.ref (am 0)), some (.ref a), some (.int (fI (i : Int))), o5, o6] [] := by
  have hJ := C.2.2.2.2.2.2.1
  have hJm := C.2.2.2.2.2.2.2.1
  have hoff := C.2.2.2.2.2.2.2.2.1
  have hv : Jv σ τ := hp.1
  refine l_iload C dL_law_23 rfl ?_
  refine l_aload_n C dL_law_25 rfl rfl ?_
  refine l_slen C dL_law_26 ?_
  refine l_iconst C dL_law_27 ?_
  refine l_isub C dL_law_28 ?_
  refine l_icmp_gt (tgt := 1114) C dL_law_29 (by decide) (by omega) (by omega) (fun h => absurd h (by omega)) (fun _ => ?_)
  refine l_aload_n C dL_law_32 rfl rfl ?_
  refine l_iload C dL_law_33 rfl ?_
  refine l_sld C (by omega) (by omega) dL_law_35 ?_
  refine l_bipush C dL_law_36 (by decide) ?_
  refine l_andc (j := 14) C dL_law_38 (by rw [hw0]; decide +kernel) ?_
  refine l_tIn (tgt := 947) C dL_law_39 (by decide) (by decide) (by decide) rfl (by decide) ?_
  refine l_aload_n C dL_law_947 rfl rfl ?_
  refine l_aload_n C dL_law_948 rfl rfl ?_
  refine l_iload C dL_law_949 rfl ?_
  refine l_iconst C dL_law_951 ?_
  refine l_iadd C dL_law_952 ?_
  refine l_sld C (by omega) (by omega) dL_law_953 ?_
  refine l_aload_n C dL_law_954 rfl rfl ?_
  refine l_iload C dL_law_955 rfl ?_
  refine l_iconst C dL_law_957 ?_
  refine l_iadd C dL_law_958 ?_
  refine l_sld C (by omega) (by omega) dL_law_959 ?_
  refine l_aload_n C dL_law_960 rfl rfl ?_
  refine l_h (dd := 10) (mc := 1) (ms := 6) (np := 4) (st := []) C hR (kG_differ3 z.2.1 D cA ad hJ hl0 a hoff v σ (Jv_x hv) ((xs ((i : Int) + 1).toNat).toInt) ((xs ((i : Int) + 2).toNat).toInt) (l_rng _) (l_rng _) ) dL_law_961 mL_differ sL_differ iL wL_differ ⟨by decide +kernel, by decide +kernel, by decide +kernel⟩ (by decide) (by decide) rfl (by decide) rfl (fun k v1 σ1 hy => ?_)
  refine l_istore C dL_law_964 (by decide) ?_
  show lj z D cA ad am a 7 Q (kc + 1) (ks + 6) σ1 τ v1 966 [some (.ref b), some (.ref (ad 0)), some (.ref (am 0)), some (.ref a), some (.int (fI (i : Int))), some (.int (fI k)), o6] []
  refine l_aload_n C dL_law_966 rfl rfl ?_
  refine l_aload_n C dL_law_967 rfl rfl ?_
  refine l_iload C dL_law_968 rfl ?_
  refine l_iconst C dL_law_970 ?_
  refine l_iadd C dL_law_971 ?_
  refine l_sld C (by omega) (by omega) dL_law_972 ?_
  refine l_aload_n C dL_law_973 rfl rfl ?_
  refine l_iload C dL_law_974 rfl ?_
  refine l_iconst C dL_law_976 ?_
  refine l_iadd C dL_law_977 ?_
  refine l_sld C (by omega) (by omega) dL_law_978 ?_
  refine l_mI (dd := 10) (np := 2) (st := []) C hR (kU_differ3 z.2.1 D cA am hJm τ (Jv_m hv) ((xs ((i : Int) + 1).toNat).toInt) ((xs ((i : Int) + 2).toNat).toInt) (l_rng _) (l_rng _) ) dL_law_979 gW_133 ⟨rfl, by decide +kernel, by decide +kernel, by decide +kernel⟩ (by decide) (by decide) rfl (by decide) rfl (fun r τ1 hu => ?_)
  refine l_istore C dL_law_982 (by decide) ?_
  show lj z D cA ad am a 7 Q (kc + 1) (ks + 6) σ1 τ1 v1 984 [some (.ref b), some (.ref (ad 0)), some (.ref (am 0)), some (.ref a), some (.int (fI (i : Int))), some (.int (fI k)), some (.int (fI r))] []
  have hy2 := hy
  have hu2 := hu
  rw [hw1, hw2] at hy2 hu2
  obtain ⟨hj, hk, u0, hv1, hv2, hr0, h29⟩ := f_6 hp hy2 hu2
  clear hy hu hy2 hu2
  subst hk
  subst hr0
  refine l_aload_n C dL_law_984 rfl rfl ?_
  refine l_mI (dd := 10) (np := 0) (st := []) C hR (kM_thrown z.2.1 xCl D cA am hJm τ1) dL_law_985 gW_82 ⟨rfl, by decide +kernel, by decide +kernel, by decide +kernel⟩ (by decide) (by decide) rfl (by decide) rfl (fun t τ2 hp3 => ?_)
  obtain ⟨ht3, hs3⟩ := hp3
  subst τ2
  subst ht3
  refine l_iload C dL_law_988 rfl ?_
  refine l_icmp_eq (tgt := 995) C dL_law_990 (by decide) (by omega) (by omega) (fun _ => ?_) (fun hne => absurd u0 hne)
  refine l_iload C dL_law_995 rfl ?_
  refine l_if_ne (tgt := 1012) C dL_law_997 (by decide) (by decide) (fun h => absurd rfl h) (fun _ => ?_)
  refine l_aload_n C dL_law_1000 rfl rfl ?_
  refine l_iconst C dL_law_1001 ?_
  refine l_lald C dL_law_1002 ?_
  refine l_iload C dL_law_1003 rfl ?_
  refine l_i2l C dL_law_1005 (by decide) ?_
  refine l_lcmp1 C dL_law_1006 hv1 ?_
  refine l_if_eq (tgt := 1012) C dL_law_1007 (by decide) (by decide) (fun h => absurd h (by decide)) (fun _ => ?_)
  refine l_iconst C dL_law_1010 ?_
  exact kret _ _ _ _ _ _ (Nat.le_refl _) (Nat.le_refl _)
def f_scr : List Int32 := [0, 1, 1, 0, 4, 0, 0, 0, 0, 1, 1, 0, 5, 0, 0, 0, 7, 0, 0, 0, 8, 0, 0, 0, 14, 1, 0, 0]
theorem f_xs (hx : ∀ j : Nat, j < 28 → xs j = f_scr.getD j 0) (t : Int) (j : Nat) (c : Int) (ht : t.toNat = j) (hj : j < 28) (hc : (f_scr.getD j 0).toInt = c) : (xs t.toNat).toInt = c := by
  rw [ht, hx j hj]
  exact hc
theorem f_step {p : Prop} (C : lfc z D cA ad am a 7 b L xs cL_law RL) (k : lj z D cA ad am a 7 Q kc ks σ τ v 23 [some (.ref b), some (.ref (ad 0)), some (.ref (am 0)), some (.ref a), some (.int (fI ((i + 4 : Nat) : Int))), o5, o6] []) : lj z D cA ad am a 7 Q kc ks σ τ v 1108 [some (.ref b), some (.ref (ad 0)), some (.ref (am 0)), some (.ref a), some (.int (fI (i : Int))), o5, o6] [] := by
  refine l_iinc C dL_law_1108 rfl (by decide) ?_
  have e : ((i : Int) + 4) = ((i + 4 : Nat) : Int) := by omega
  show lj z D cA ad am a 7 Q kc ks σ τ v 1111 [some (.ref b), some (.ref (ad 0)), some (.ref (am 0)), some (.ref a), some (.int (fI ((i : Int) + 4))), o5, o6] []
  rw [e]
  exact l_goto (tgt := 23) C dL_law_1111 (by decide) k
set_option maxHeartbeats 4000000 in
theorem l_run (C : lfc z D cA ad am a 7 b L xs cL_law RL) (hL : L = 28) (hl0 : z.2.1.stackTraces = false) (hx : ∀ j : Nat, j < 28 → xs j = f_scr.getD j 0) {KC KS : Nat} (hF : 10 ≤ z.2.2.2.1.frames ∧ 40 * 10 ≤ z.2.2.2.1.locals ∧ KC ≤ z.2.2.2.1.cells ∧ KS ≤ z.2.2.2.1.slots) (h3 : kc + 7 ≤ KC) (h4 : ks + 42 ≤ KS) (kret : ∀ (kc' ks' : Nat) (σ τ : fS) (v : Int) (lv : List (Option Value)), kc' ≤ KC → ks' ≤ KS → lj z D cA ad am a 7 Q kc' ks' σ τ v 1011 lv [.int (fI 0)]) : lj z D cA ad am a 7 Q kc ks x_0 x_0 v 23 [some (.ref b), some (.ref (ad 0)), some (.ref (am 0)), some (.ref a), some (.int (fI ((0 : Nat) : Int))), o5, o6] [] := by
  refine l_f0 (i := 0) C hl0 ⟨hF.1, hF.2.1, by omega, by omega⟩ (by omega) (by omega) (f_xs hx _ 0 0 rfl (by decide) (by decide +kernel)) (f_xs hx _ 1 1 rfl (by decide) (by decide +kernel)) (f_xs hx _ 2 1 rfl (by decide) (by decide +kernel)) (⟨rfl, rfl⟩) (fun kc0 ks0 σ0 τ0 v0 x0 y0 g0 k0 p0 => ?_)
  refine f_step (p := True) (i := 0) C ?_
  refine l_f1 (i := 4) C hl0 ⟨hF.1, hF.2.1, by omega, by omega⟩ (by omega) (by omega) (f_xs hx _ 4 4 rfl (by decide) (by decide +kernel)) (f_xs hx _ 5 0 rfl (by decide) (by decide +kernel)) p0 (fun kc1 ks1 σ1 τ1 v1 x1 y1 g1 k1 p1 => ?_)
  refine f_step (p := True) (i := 4) C ?_
  refine l_f2 (i := 8) C hl0 ⟨hF.1, hF.2.1, by omega, by omega⟩ (by omega) (by omega) (f_xs hx _ 8 0 rfl (by decide) (by decide +kernel)) (f_xs hx _ 9 1 rfl (by decide) (by decide +kernel)) (f_xs hx _ 10 1 rfl (by decide) (by decide +kernel)) p1 (fun kc2 ks2 σ2 τ2 v2 x2 y2 g2 k2 p2 => ?_)
  refine f_step (p := True) (i := 8) C ?_
  refine l_f3 (i := 12) C hl0 ⟨hF.1, hF.2.1, by omega, by omega⟩ (by omega) (by omega) (f_xs hx _ 12 5 rfl (by decide) (by decide +kernel))  p2 (fun kc3 ks3 σ3 τ3 v3 x3 y3 g3 k3 p3 => ?_)
  refine f_step (p := True) (i := 12) C ?_
  refine l_f4 (i := 16) C hl0 ⟨hF.1, hF.2.1, by omega, by omega⟩ (by omega) (by omega) (f_xs hx _ 16 7 rfl (by decide) (by decide +kernel)) (f_xs hx _ 17 0 rfl (by decide) (by decide +kernel)) (f_xs hx _ 18 0 rfl (by decide) (by decide +kernel)) p3 (fun kc4 ks4 σ4 τ4 v4 x4 y4 g4 k4 p4 => ?_)
  refine f_step (p := True) (i := 16) C ?_
  refine l_f5 (i := 20) C hl0 ⟨hF.1, hF.2.1, by omega, by omega⟩ (by omega) (by omega) (f_xs hx _ 20 8 rfl (by decide) (by decide +kernel)) (f_xs hx _ 21 0 rfl (by decide) (by decide +kernel)) p4 (fun kc5 ks5 σ5 τ5 v5 x5 y5 g5 k5 p5 => ?_)
  refine f_step (p := True) (i := 20) C ?_
  exact l_f6 (i := 24) C hl0 ⟨hF.1, hF.2.1, by omega, by omega⟩ (by omega) (by omega) (f_xs hx _ 24 14 rfl (by decide) (by decide +kernel)) (f_xs hx _ 25 1 rfl (by decide) (by decide +kernel)) (f_xs hx _ 26 0 rfl (by decide) (by decide +kernel)) p5 (fun kc9 ks9 σ9 τ9 v9 lv9 g9 k9 => kret kc9 ks9 σ9 τ9 v9 lv9 (by omega) (by omega))
end LB
