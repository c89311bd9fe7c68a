/-! THE LAW'S WALK OF ONE SCRIPT -/
section LB
variable {z : fZ} {D : va_G} {cA : Nat → ClassId} {ad am : Nat → Nat} {a b L i : Nat} {xs : Nat → Int32} {Q : State → Prop} {kc ks : Nat} {v : Int} {σ τ : fS} {o5 o6 : Option Value}
theorem l_rng (x : Int32) : -2147483648 ≤ x.toInt ∧ x.toInt ≤ 2147483647 := ⟨by have := Int32.le_toInt x; omega, by have := Int32.toInt_lt x; omega⟩
theorem l_andc {nL pc : Nat} {cc : ByteArray} {own : String} {lv : List (Option Value)} {st : List Value} (C : lfc z D cA ad am a nL b L xs cc own) {x j : Int} (d : decode cc pc = .ok (.iand, 1)) (he : fI x &&& fI 31 = fI j) (kk : lj z D cA ad am a nL Q kc ks σ τ v (pc + 1) lv (.int (fI j) :: st)) : lj z D cA ad am a nL Q kc ks σ τ v pc lv (.int (fI 31) :: .int (fI x) :: st) := by
  intro H locs ls hP hM hO hS hl
  refine lv_iand C.1 C.2.1 d ?_
  rw [he]
  exact kk H locs ls hP hM hO hS hl
theorem f_00 {σ σ1 τ τ1 : fS} {k v : Int} (hp : σ = x_0 ∧ τ = x_0) (hy : y_object σ 1 1 k v σ1) (hu : u_object τ 1 1 τ1) : Jv σ1 τ1 ∧ τ1 = n1 := by
  obtain ⟨rfl, rfl⟩ := hp
  exact f_0 hy hu
def Q7 (σ τ : fS) : Prop := Jv σ τ ∧ 1 ≤ σ.1 380 2 ∧ τ.1 0 29 = 0
set_option maxHeartbeats 4000000 in
theorem l_f0 (C : lfc z D cA ad am a 7 b L xs cL_law RL) (hl0 : z.2.1.stackTraces = false) (hR : 10 ≤ z.2.2.2.1.frames ∧ 40 * 10 ≤ z.2.2.2.1.locals ∧ kc + 1 ≤ z.2.2.2.1.cells ∧ ks + 6 ≤ z.2.2.2.1.slots) (hiL : i + 4 ≤ L) (hL : L ≤ 2048) (hw0 : (xs ((i : Int)).toNat).toInt = 0) (hw1 : (xs ((i : Int) + 1).toNat).toInt = 1) (hw2 : (xs ((i : Int) + 2).toNat).toInt = 1) (hp : (σ = x_0 ∧ τ = x_0)) (kend : ∀ (kc' ks' : Nat) (σ τ : fS) (v : Int) (x5 x6 : Option Value), kc' ≤ kc + 1 → ks' ≤ ks + 6 → (Jv σ τ ∧ τ = n1) → lj z D cA ad am a 7 Q kc' ks' σ τ v 719 [some (.ref b), some (.ref (ad 0)), some (.ref (am 0)), some (.ref a), some (.int (fI (i : Int))), x5, x6] []) : lj z D cA ad am a 7 Q kc ks σ τ v 23 [some (.ref b), some (.ref (ad 0)), some (.ref (am 0)), some (.ref a), some (.int (fI (i : Int))), o5, o6] [] := by
  have hJ := C.2.2.2.2.2.2.1
  have hJm := C.2.2.2.2.2.2.2.1
  have hoff := C.2.2.2.2.2.2.2.2.1
  have hv : Jv σ τ := (by obtain ⟨rfl, rfl⟩ := hp; exact Jv_0)
  refine l_iload C dL_law_23 rfl ?_
  refine l_aload_n C dL_law_25 rfl rfl ?_
  refine l_slen C dL_law_26 ?_
  refine l_iconst C dL_law_27 ?_
  refine l_isub C dL_law_28 ?_
  refine l_icmp_gt (tgt := 725) C dL_law_29 (by decide) (by omega) (by omega) (fun h => absurd h (by omega)) (fun _ => ?_)
  refine l_aload_n C dL_law_32 rfl rfl ?_
  refine l_iload C dL_law_33 rfl ?_
  refine l_sld C (by omega) (by omega) dL_law_35 ?_
  refine l_bipush C dL_law_36 (by decide) ?_
  refine l_andc (j := 0) C dL_law_38 (by rw [hw0]; decide +kernel) ?_
  refine l_tIn (tgt := 120) C dL_law_39 (by decide) (by decide) (by decide) rfl (by decide) ?_
  refine l_aload_n C dL_law_120 rfl rfl ?_
  refine l_aload_n C dL_law_121 rfl rfl ?_
  refine l_iload C dL_law_122 rfl ?_
  refine l_iconst C dL_law_124 ?_
  refine l_iadd C dL_law_125 ?_
  refine l_sld C (by omega) (by omega) dL_law_126 ?_
  refine l_aload_n C dL_law_127 rfl rfl ?_
  refine l_iload C dL_law_128 rfl ?_
  refine l_iconst C dL_law_130 ?_
  refine l_iadd C dL_law_131 ?_
  refine l_sld C (by omega) (by omega) dL_law_132 ?_
  refine l_h (dd := 10) (mc := 1) (ms := 6) (np := 3) (st := []) C hR (kG_object z.2.1 D cA ad hJ hl0 a hoff v σ (Jv_x hv) ((xs ((i : Int) + 1).toNat).toInt) ((xs ((i : Int) + 2).toNat).toInt) (l_rng _) (l_rng _) ) dL_law_133 mL_object sL_object iL wL_object ⟨by decide +kernel, by decide +kernel, by decide +kernel⟩ (by decide) (by decide) rfl (by decide) rfl (fun k v1 σ1 hy => ?_)
  refine l_istore C dL_law_136 (by decide) ?_
  show lj z D cA ad am a 7 Q (kc + 1) (ks + 6) σ1 τ v1 138 [some (.ref b), some (.ref (ad 0)), some (.ref (am 0)), some (.ref a), some (.int (fI (i : Int))), some (.int (fI k)), o6] []
  refine l_aload_n C dL_law_138 rfl rfl ?_
  refine l_aload_n C dL_law_139 rfl rfl ?_
  refine l_iload C dL_law_140 rfl ?_
  refine l_iconst C dL_law_142 ?_
  refine l_iadd C dL_law_143 ?_
  refine l_sld C (by omega) (by omega) dL_law_144 ?_
  refine l_aload_n C dL_law_145 rfl rfl ?_
  refine l_iload C dL_law_146 rfl ?_
  refine l_iconst C dL_law_148 ?_
  refine l_iadd C dL_law_149 ?_
  refine l_sld C (by omega) (by omega) dL_law_150 ?_
  refine l_mV (dd := 10) (np := 2) (st := []) C hR (kU_object z.2.1 D cA am hJm τ (Jv_m hv) ((xs ((i : Int) + 1).toNat).toInt) ((xs ((i : Int) + 2).toNat).toInt) (l_rng _) (l_rng _) ) dL_law_151 gW_81 ⟨rfl, by decide +kernel, by decide +kernel, by decide +kernel⟩ (by decide) (by decide) rfl (by decide) rfl (fun τ1 hu => ?_)
  have hy2 := hy
  have hu2 := hu
  rw [hw1, hw2] at hy2 hu2
  have hq := (f_00 hp hy2 hu2)
  refine l_goto (tgt := 719) C dL_law_154 (by decide) ?_
  exact kend _ _ _ _ _ _ _ (Nat.le_refl _) (Nat.le_refl _) hq
set_option maxHeartbeats 4000000 in
theorem l_f1 (C : lfc z D cA ad am a 7 b L xs cL_law RL) (hl0 : z.2.1.stackTraces = false) (hR : 10 ≤ z.2.2.2.1.frames ∧ 40 * 10 ≤ z.2.2.2.1.locals ∧ kc + 1 ≤ z.2.2.2.1.cells ∧ ks + 6 ≤ z.2.2.2.1.slots) (hiL : i + 4 ≤ L) (hL : L ≤ 2048) (hw0 : (xs ((i : Int)).toNat).toInt = 4) (hw1 : (xs ((i : Int) + 1).toNat).toInt = 0) (hp : (Jv σ τ ∧ τ = n1)) (kend : ∀ (kc' ks' : Nat) (σ τ : fS) (v : Int) (x5 x6 : Option Value), kc' ≤ kc + 1 → ks' ≤ ks + 6 → Qf n2 σ τ → lj z D cA ad am a 7 Q kc' ks' σ τ v 719 [some (.ref b), some (.ref (ad 0)), some (.ref (am 0)), some (.ref a), some (.int (fI (i : Int))), x5, x6] []) : lj z D cA ad am a 7 Q kc ks σ τ v 23 [some (.ref b), some (.ref (ad 0)), some (.ref (am 0)), some (.ref a), some (.int (fI (i : Int))), o5, o6] [] := by
  have hJ := C.2.2.2.2.2.2.1
  have hJm := C.2.2.2.2.2.2.2.1
  have hoff := C.2.2.2.2.2.2.2.2.1
  have hv : Jv σ τ := hp.1
  refine l_iload C dL_law_23 rfl ?_
  refine l_aload_n C dL_law_25 rfl rfl ?_
  refine l_slen C dL_law_26 ?_
  refine l_iconst C dL_law_27 ?_
  refine l_isub C dL_law_28 ?_
  refine l_icmp_gt (tgt := 725) C dL_law_29 (by decide) (by omega) (by omega) (fun h => absurd h (by omega)) (fun _ => ?_)
  refine l_aload_n C dL_law_32 rfl rfl ?_
  refine l_iload C dL_law_33 rfl ?_
  refine l_sld C (by omega) (by omega) dL_law_35 ?_
  refine l_bipush C dL_law_36 (by decide) ?_
  refine l_andc (j := 4) C dL_law_38 (by rw [hw0]; decide +kernel) ?_
  refine l_tIn (tgt := 295) C dL_law_39 (by decide) (by decide) (by decide) rfl (by decide) ?_
  refine l_aload_n C dL_law_295 rfl rfl ?_
  refine l_aload_n C dL_law_296 rfl rfl ?_
  refine l_iload C dL_law_297 rfl ?_
  refine l_iconst C dL_law_299 ?_
  refine l_iadd C dL_law_300 ?_
  refine l_sld C (by omega) (by omega) dL_law_301 ?_
  refine l_aload_n C dL_law_302 rfl rfl ?_
  refine l_h (dd := 10) (mc := 1) (ms := 6) (np := 3) (st := []) C hR (kG_write z.2.1 D cA ad hJ hl0 a hoff v σ (Jv_x hv) ((xs ((i : Int) + 1).toNat).toInt) (l_rng _) ) dL_law_303 mL_write sL_write iL wL_write ⟨by decide +kernel, by decide +kernel, by decide +kernel⟩ (by decide) (by decide) rfl (by decide) rfl (fun k v1 σ1 hy => ?_)
  refine l_istore C dL_law_306 (by decide) ?_
  show lj z D cA ad am a 7 Q (kc + 1) (ks + 6) σ1 τ v1 308 [some (.ref b), some (.ref (ad 0)), some (.ref (am 0)), some (.ref a), some (.int (fI (i : Int))), some (.int (fI k)), o6] []
  refine l_aload_n C dL_law_308 rfl rfl ?_
  refine l_aload_n C dL_law_309 rfl rfl ?_
  refine l_iload C dL_law_310 rfl ?_
  refine l_iconst C dL_law_312 ?_
  refine l_iadd C dL_law_313 ?_
  refine l_sld C (by omega) (by omega) dL_law_314 ?_
  refine l_mI (dd := 10) (np := 1) (st := []) C hR (kU_write z.2.1 D cA am hJm τ (Jv_m hv) ((xs ((i : Int) + 1).toNat).toInt) (l_rng _) ) dL_law_315 gW_96 ⟨rfl, by decide +kernel, by decide +kernel, by decide +kernel⟩ (by decide) (by decide) rfl (by decide) rfl (fun r τ1 hu => ?_)
  refine l_istore C dL_law_318 (by decide) ?_
  show lj z D cA ad am a 7 Q (kc + 1) (ks + 6) σ1 τ1 v1 320 [some (.ref b), some (.ref (ad 0)), some (.ref (am 0)), some (.ref a), some (.int (fI (i : Int))), some (.int (fI k)), some (.int (fI r))] []
  have hy2 := hy
  have hu2 := hu
  rw [hw1] at hy2 hu2
  have hq := (f_1 hp hy2 hu2)
  refine l_goto (tgt := 719) C dL_law_320 (by decide) ?_
  exact kend _ _ _ _ _ _ _ (Nat.le_refl _) (Nat.le_refl _) hq
set_option maxHeartbeats 4000000 in
theorem l_f2 (C : lfc z D cA ad am a 7 b L xs cL_law RL) (hl0 : z.2.1.stackTraces = false) (hR : 10 ≤ z.2.2.2.1.frames ∧ 40 * 10 ≤ z.2.2.2.1.locals ∧ kc + 1 ≤ z.2.2.2.1.cells ∧ ks + 6 ≤ z.2.2.2.1.slots) (hiL : i + 4 ≤ L) (hL : L ≤ 2048) (hw0 : (xs ((i : Int)).toNat).toInt = 0) (hw1 : (xs ((i : Int) + 1).toNat).toInt = 1) (hw2 : (xs ((i : Int) + 2).toNat).toInt = 1) (hp : Qf n2 σ τ) (kend : ∀ (kc' ks' : Nat) (σ τ : fS) (v : Int) (x5 x6 : Option Value), kc' ≤ kc + 1 → ks' ≤ ks + 6 → Qf n3 σ τ → lj z D cA ad am a 7 Q kc' ks' σ τ v 719 [some (.ref b), some (.ref (ad 0)), some (.ref (am 0)), some (.ref a), some (.int (fI (i : Int))), x5, x6] []) : lj z D cA ad am a 7 Q kc ks σ τ v 23 [some (.ref b), some (.ref (ad 0)), some (.ref (am 0)), some (.ref a), some (.int (fI (i : Int))), o5, o6] [] := by
  have hJ := C.2.2.2.2.2.2.1
  have hJm := C.2.2.2.2.2.2.2.1
  have hoff := C.2.2.2.2.2.2.2.2.1
  have hv : Jv σ τ := hp.1
  refine l_iload C dL_law_23 rfl ?_
  refine l_aload_n C dL_law_25 rfl rfl ?_
  refine l_slen C dL_law_26 ?_
  refine l_iconst C dL_law_27 ?_
  refine l_isub C dL_law_28 ?_
  refine l_icmp_gt (tgt := 725) C dL_law_29 (by decide) (by omega) (by omega) (fun h => absurd h (by omega)) (fun _ => ?_)
  refine l_aload_n C dL_law_32 rfl rfl ?_
  refine l_iload C dL_law_33 rfl ?_
  refine l_sld C (by omega) (by omega) dL_law_35 ?_
  refine l_bipush C dL_law_36 (by decide) ?_
  refine l_andc (j := 0) C dL_law_38 (by rw [hw0]; decide +kernel) ?_
  refine l_tIn (tgt := 120) C dL_law_39 (by decide) (by decide) (by decide) rfl (by decide) ?_
  refine l_aload_n C dL_law_120 rfl rfl ?_
  refine l_aload_n C dL_law_121 rfl rfl ?_
  refine l_iload C dL_law_122 rfl ?_
  refine l_iconst C dL_law_124 ?_
  refine l_iadd C dL_law_125 ?_
  refine l_sld C (by omega) (by omega) dL_law_126 ?_
  refine l_aload_n C dL_law_127 rfl rfl ?_
  refine l_iload C dL_law_128 rfl ?_
  refine l_iconst C dL_law_130 ?_
  refine l_iadd C dL_law_131 ?_
  refine l_sld C (by omega) (by omega) dL_law_132 ?_
  refine l_h (dd := 10) (mc := 1) (ms := 6) (np := 3) (st := []) C hR (kG_object z.2.1 D cA ad hJ hl0 a hoff v σ (Jv_x hv) ((xs ((i : Int) + 1).toNat).toInt) ((xs ((i : Int) + 2).toNat).toInt) (l_rng _) (l_rng _) ) dL_law_133 mL_object sL_object iL wL_object ⟨by decide +kernel, by decide +kernel, by decide +kernel⟩ (by decide) (by decide) rfl (by decide) rfl (fun k v1 σ1 hy => ?_)
  refine l_istore C dL_law_136 (by decide) ?_
  show lj z D cA ad am a 7 Q (kc + 1) (ks + 6) σ1 τ v1 138 [some (.ref b), some (.ref (ad 0)), some (.ref (am 0)), some (.ref a), some (.int (fI (i : Int))), some (.int (fI k)), o6] []
  refine l_aload_n C dL_law_138 rfl rfl ?_
  refine l_aload_n C dL_law_139 rfl rfl ?_
  refine l_iload C dL_law_140 rfl ?_
  refine l_iconst C dL_law_142 ?_
  refine l_iadd C dL_law_143 ?_
  refine l_sld C (by omega) (by omega) dL_law_144 ?_
  refine l_aload_n C dL_law_145 rfl rfl ?_
  refine l_iload C dL_law_146 rfl ?_
  refine l_iconst C dL_law_148 ?_
  refine l_iadd C dL_law_149 ?_
  refine l_sld C (by omega) (by omega) dL_law_150 ?_
  refine l_mV (dd := 10) (np := 2) (st := []) C hR (kU_object z.2.1 D cA am hJm τ (Jv_m hv) ((xs ((i : Int) + 1).toNat).toInt) ((xs ((i : Int) + 2).toNat).toInt) (l_rng _) (l_rng _) ) dL_law_151 gW_81 ⟨rfl, by decide +kernel, by decide +kernel, by decide +kernel⟩ (by decide) (by decide) rfl (by decide) rfl (fun τ1 hu => ?_)
  have hy2 := hy
  have hu2 := hu
  rw [hw1, hw2] at hy2 hu2
  have hq := (f_2 hp hy2 hu2)
  refine l_goto (tgt := 719) C dL_law_154 (by decide) ?_
  exact kend _ _ _ _ _ _ _ (Nat.le_refl _) (Nat.le_refl _) hq
set_option maxHeartbeats 4000000 in
theorem l_f3 (C : lfc z D cA ad am a 7 b L xs cL_law RL) (hl0 : z.2.1.stackTraces = false) (hR : 10 ≤ z.2.2.2.1.frames ∧ 40 * 10 ≤ z.2.2.2.1.locals ∧ kc + 1 ≤ z.2.2.2.1.cells ∧ ks + 6 ≤ z.2.2.2.1.slots) (hiL : i + 4 ≤ L) (hL : L ≤ 2048) (hw0 : (xs ((i : Int)).toNat).toInt = 5)  (hp : Qf n3 σ τ) (kend : ∀ (kc' ks' : Nat) (σ τ : fS) (v : Int) (x5 x6 : Option Value), kc' ≤ kc + 1 → ks' ≤ ks + 6 → Qf n4 σ τ → lj z D cA ad am a 7 Q kc' ks' σ τ v 719 [some (.ref b), some (.ref (ad 0)), some (.ref (am 0)), some (.ref a), some (.int (fI (i : Int))), x5, x6] []) : lj z D cA ad am a 7 Q kc ks σ τ v 23 [some (.ref b), some (.ref (ad 0)), some (.ref (am 0)), some (.ref a), some (.int (fI (i : Int))), o5, o6] [] := by
  have hJ := C.2.2.2.2.2.2.1
  have hJm := C.2.2.2.2.2.2.2.1
  have hoff := C.2.2.2.2.2.2.2.2.1
  have hv : Jv σ τ := hp.1
  refine l_iload C dL_law_23 rfl ?_
  refine l_aload_n C dL_law_25 rfl rfl ?_
  refine l_slen C dL_law_26 ?_
  refine l_iconst C dL_law_27 ?_
  refine l_isub C dL_law_28 ?_
  refine l_icmp_gt (tgt := 725) C dL_law_29 (by decide) (by omega) (by omega) (fun h => absurd h (by omega)) (fun _ => ?_)
  refine l_aload_n C dL_law_32 rfl rfl ?_
  refine l_iload C dL_law_33 rfl ?_
  refine l_sld C (by omega) (by omega) dL_law_35 ?_
  refine l_bipush C dL_law_36 (by decide) ?_
  refine l_andc (j := 5) C dL_law_38 (by rw [hw0]; decide +kernel) ?_
  refine l_tIn (tgt := 323) C dL_law_39 (by decide) (by decide) (by decide) rfl (by decide) ?_
  refine l_aload_n C dL_law_323 rfl rfl ?_
  refine l_aload_n C dL_law_324 rfl rfl ?_
  refine l_h (dd := 10) (mc := 1) (ms := 6) (np := 2) (st := []) C hR (kG_append z.2.1 D cA ad hJ hl0 a hoff v σ (Jv_x hv) ()  ) dL_law_325 mL_append sL_append iL wL_append ⟨by decide +kernel, by decide +kernel, by decide +kernel⟩ (by decide) (by decide) rfl (by decide) rfl (fun k v1 σ1 hy => ?_)
  refine l_istore C dL_law_328 (by decide) ?_
  show lj z D cA ad am a 7 Q (kc + 1) (ks + 6) σ1 τ v1 330 [some (.ref b), some (.ref (ad 0)), some (.ref (am 0)), some (.ref a), some (.int (fI (i : Int))), some (.int (fI k)), o6] []
  refine l_aload_n C dL_law_330 rfl rfl ?_
  refine l_mI (dd := 10) (np := 0) (st := []) C hR (kU_append z.2.1 D cA am hJm τ (Jv_m hv)   ) dL_law_331 gW_100 ⟨rfl, by decide +kernel, by decide +kernel, by decide +kernel⟩ (by decide) (by decide) rfl (by decide) rfl (fun r τ1 hu => ?_)
  refine l_istore C dL_law_334 (by decide) ?_
  show lj z D cA ad am a 7 Q (kc + 1) (ks + 6) σ1 τ1 v1 336 [some (.ref b), some (.ref (ad 0)), some (.ref (am 0)), some (.ref a), some (.int (fI (i : Int))), some (.int (fI k)), some (.int (fI r))] []
  have hy2 := hy
  have hu2 := hu
  have hq := (f_3 hp hy2 hu2)
  refine l_goto (tgt := 719) C dL_law_336 (by decide) ?_
  exact kend _ _ _ _ _ _ _ (Nat.le_refl _) (Nat.le_refl _) hq
set_option maxHeartbeats 4000000 in
theorem l_f4 (C : lfc z D cA ad am a 7 b L xs cL_law RL) (hl0 : z.2.1.stackTraces = false) (hR : 10 ≤ z.2.2.2.1.frames ∧ 40 * 10 ≤ z.2.2.2.1.locals ∧ kc + 1 ≤ z.2.2.2.1.cells ∧ ks + 6 ≤ z.2.2.2.1.slots) (hiL : i + 4 ≤ L) (hL : L ≤ 2048) (hw0 : (xs ((i : Int)).toNat).toInt = 7) (hw1 : (xs ((i : Int) + 1).toNat).toInt = 0) (hw2 : (xs ((i : Int) + 2).toNat).toInt = 0) (hp : Qf n4 σ τ) (kend : ∀ (kc' ks' : Nat) (σ τ : fS) (v : Int) (x5 x6 : Option Value), kc' ≤ kc + 1 → ks' ≤ ks + 6 → Qf n5 σ τ → lj z D cA ad am a 7 Q kc' ks' σ τ v 719 [some (.ref b), some (.ref (ad 0)), some (.ref (am 0)), some (.ref a), some (.int (fI (i : Int))), x5, x6] []) : lj z D cA ad am a 7 Q kc ks σ τ v 23 [some (.ref b), some (.ref (ad 0)), some (.ref (am 0)), some (.ref a), some (.int (fI (i : Int))), o5, o6] [] := by
  have hJ := C.2.2.2.2.2.2.1
  have hJm := C.2.2.2.2.2.2.2.1
  have hoff := C.2.2.2.2.2.2.2.2.1
  have hv : Jv σ τ := hp.1
  refine l_iload C dL_law_23 rfl ?_
  refine l_aload_n C dL_law_25 rfl rfl ?_
  refine l_slen C dL_law_26 ?_
  refine l_iconst C dL_law_27 ?_
  refine l_isub C dL_law_28 ?_
  refine l_icmp_gt (tgt := 725) C dL_law_29 (by decide) (by omega) (by omega) (fun h => absurd h (by omega)) (fun _ => ?_)
  refine l_aload_n C dL_law_32 rfl rfl ?_
  refine l_iload C dL_law_33 rfl ?_
  refine l_sld C (by omega) (by omega) dL_law_35 ?_
  refine l_bipush C dL_law_36 (by decide) ?_
  refine l_andc (j := 7) C dL_law_38 (by rw [hw0]; decide +kernel) ?_
  refine l_tIn (tgt := 352) C dL_law_39 (by decide) (by decide) (by decide) rfl (by decide) ?_
  refine l_aload_n C dL_law_352 rfl rfl ?_
  refine l_aload_n C dL_law_353 rfl rfl ?_
  refine l_iload C dL_law_354 rfl ?_
  refine l_iconst C dL_law_356 ?_
  refine l_iadd C dL_law_357 ?_
  refine l_sld C (by omega) (by omega) dL_law_358 ?_
  refine l_aload_n C dL_law_359 rfl rfl ?_
  refine l_iload C dL_law_360 rfl ?_
  refine l_iconst C dL_law_362 ?_
  refine l_iadd C dL_law_363 ?_
  refine l_sld C (by omega) (by omega) dL_law_364 ?_
  refine l_i2b C dL_law_365 ?_
  refine l_aload_n C dL_law_366 rfl rfl ?_
  refine l_h (dd := 10) (mc := 1) (ms := 6) (np := 4) (st := []) C hR (kG_poke z.2.1 D cA ad hJ hl0 a hoff v σ (Jv_x hv) ((xs ((i : Int) + 1).toNat).toInt) (((xs ((i : Int) + 2).toNat).toInt.bmod 256)) (l_rng _) (by have := x_bm (xs ((i : Int) + 2).toNat).toInt; omega) (x_bm (xs ((i : Int) + 2).toNat).toInt)) dL_law_367 mL_poke sL_poke iL wL_poke ⟨by decide +kernel, by decide +kernel, by decide +kernel⟩ (by decide) (by decide) rfl (by decide) rfl (fun k v1 σ1 hy => ?_)
  refine l_istore C dL_law_370 (by decide) ?_
  show lj z D cA ad am a 7 Q (kc + 1) (ks + 6) σ1 τ v1 372 [some (.ref b), some (.ref (ad 0)), some (.ref (am 0)), some (.ref a), some (.int (fI (i : Int))), some (.int (fI k)), o6] []
  refine l_aload_n C dL_law_372 rfl rfl ?_
  refine l_aload_n C dL_law_373 rfl rfl ?_
  refine l_iload C dL_law_374 rfl ?_
  refine l_iconst C dL_law_376 ?_
  refine l_iadd C dL_law_377 ?_
  refine l_sld C (by omega) (by omega) dL_law_378 ?_
  refine l_aload_n C dL_law_379 rfl rfl ?_
  refine l_iload C dL_law_380 rfl ?_
  refine l_iconst C dL_law_382 ?_
  refine l_iadd C dL_law_383 ?_
  refine l_sld C (by omega) (by omega) dL_law_384 ?_
  refine l_i2b C dL_law_385 ?_
  refine l_mI (dd := 10) (np := 2) (st := []) C hR (kU_poke z.2.1 D cA am hJm τ (Jv_m hv) ((xs ((i : Int) + 1).toNat).toInt) (((xs ((i : Int) + 2).toNat).toInt.bmod 256)) (l_rng _) (by have := x_bm (xs ((i : Int) + 2).toNat).toInt; omega) (x_bm (xs ((i : Int) + 2).toNat).toInt)) dL_law_386 gW_108 ⟨rfl, by decide +kernel, by decide +kernel, by decide +kernel⟩ (by decide) (by decide) rfl (by decide) rfl (fun r τ1 hu => ?_)
  refine l_istore C dL_law_389 (by decide) ?_
  show lj z D cA ad am a 7 Q (kc + 1) (ks + 6) σ1 τ1 v1 391 [some (.ref b), some (.ref (ad 0)), some (.ref (am 0)), some (.ref a), some (.int (fI (i : Int))), some (.int (fI k)), some (.int (fI r))] []
  have hy2 := hy
  have hu2 := hu
  rw [hw1, hw2] at hy2 hu2
  have hq := (f_4 hp hy2 hu2)
  refine l_goto (tgt := 719) C dL_law_391 (by decide) ?_
  exact kend _ _ _ _ _ _ _ (Nat.le_refl _) (Nat.le_refl _) hq
set_option maxHeartbeats 4000000 in
theorem l_f5 (C : lfc z D cA ad am a 7 b L xs cL_law RL) (hl0 : z.2.1.stackTraces = false) (hR : 10 ≤ z.2.2.2.1.frames ∧ 40 * 10 ≤ z.2.2.2.1.locals ∧ kc + 1 ≤ z.2.2.2.1.cells ∧ ks + 6 ≤ z.2.2.2.1.slots) (hiL : i + 4 ≤ L) (hL : L ≤ 2048) (hw0 : (xs ((i : Int)).toNat).toInt = 8) (hw1 : (xs ((i : Int) + 1).toNat).toInt = 0) (hp : Qf n5 σ τ) (kend : ∀ (kc' ks' : Nat) (σ τ : fS) (v : Int) (x5 x6 : Option Value), kc' ≤ kc + 1 → ks' ≤ ks + 6 → Q6 σ τ → lj z D cA ad am a 7 Q kc' ks' σ τ v 719 [some (.ref b), some (.ref (ad 0)), some (.ref (am 0)), some (.ref a), some (.int (fI (i : Int))), x5, x6] []) : lj z D cA ad am a 7 Q kc ks σ τ v 23 [some (.ref b), some (.ref (ad 0)), some (.ref (am 0)), some (.ref a), some (.int (fI (i : Int))), o5, o6] [] := by
  have hJ := C.2.2.2.2.2.2.1
  have hJm := C.2.2.2.2.2.2.2.1
  have hoff := C.2.2.2.2.2.2.2.2.1
  have hv : Jv σ τ := hp.1
  refine l_iload C dL_law_23 rfl ?_
  refine l_aload_n C dL_law_25 rfl rfl ?_
  refine l_slen C dL_law_26 ?_
  refine l_iconst C dL_law_27 ?_
  refine l_isub C dL_law_28 ?_
  refine l_icmp_gt (tgt := 725) C dL_law_29 (by decide) (by omega) (by omega) (fun h => absurd h (by omega)) (fun _ => ?_)
  refine l_aload_n C dL_law_32 rfl rfl ?_
  refine l_iload C dL_law_33 rfl ?_
  refine l_sld C (by omega) (by omega) dL_law_35 ?_
  refine l_bipush C dL_law_36 (by decide) ?_
  refine l_andc (j := 8) C dL_law_38 (by rw [hw0]; decide +kernel) ?_
  refine l_tIn (tgt := 394) C dL_law_39 (by decide) (by decide) (by decide) rfl (by decide) ?_
  refine l_aload_n C dL_law_394 rfl rfl ?_
  refine l_aload_n C dL_law_395 rfl rfl ?_
  refine l_iload C dL_law_396 rfl ?_
  refine l_iconst C dL_law_398 ?_
  refine l_iadd C dL_law_399 ?_
  refine l_sld C (by omega) (by omega) dL_law_400 ?_
  refine l_aload_n C dL_law_401 rfl rfl ?_
  refine l_h (dd := 10) (mc := 1) (ms := 6) (np := 3) (st := []) C hR (kG_take z.2.1 D cA ad hJ hl0 a hoff v σ (Jv_x hv) ((xs ((i : Int) + 1).toNat).toInt) (l_rng _) ) dL_law_402 mL_take sL_take iL wL_take ⟨by decide +kernel, by decide +kernel, by decide +kernel⟩ (by decide) (by decide) rfl (by decide) rfl (fun k v1 σ1 hy => ?_)
  refine l_istore C dL_law_405 (by decide) ?_
  show lj z D cA ad am a 7 Q (kc + 1) (ks + 6) σ1 τ v1 407 [some (.ref b), some (.ref (ad 0)), some (.ref (am 0)), some (.ref a), some (.int (fI (i : Int))), some (.int (fI k)), o6] []
  refine l_aload_n C dL_law_407 rfl rfl ?_
  refine l_aload_n C dL_law_408 rfl rfl ?_
  refine l_iload C dL_law_409 rfl ?_
  refine l_iconst C dL_law_411 ?_
  refine l_iadd C dL_law_412 ?_
  refine l_sld C (by omega) (by omega) dL_law_413 ?_
  refine l_mI (dd := 10) (np := 1) (st := []) C hR (kU_take z.2.1 D cA am hJm τ (Jv_m hv) ((xs ((i : Int) + 1).toNat).toInt) (l_rng _) ) dL_law_414 gW_111 ⟨rfl, by decide +kernel, by decide +kernel, by decide +kernel⟩ (by decide) (by decide) rfl (by decide) rfl (fun r τ1 hu => ?_)
  refine l_istore C dL_law_417 (by decide) ?_
  show lj z D cA ad am a 7 Q (kc + 1) (ks + 6) σ1 τ1 v1 419 [some (.ref b), some (.ref (ad 0)), some (.ref (am 0)), some (.ref a), some (.int (fI (i : Int))), some (.int (fI k)), some (.int (fI r))] []
  have hy2 := hy
  have hu2 := hu
  rw [hw1] at hy2 hu2
  have hq := (f_5 hp hy2 hu2)
  refine l_goto (tgt := 719) C dL_law_419 (by decide) ?_
  exact kend _ _ _ _ _ _ _ (Nat.le_refl _) (Nat.le_refl _) hq
set_option maxHeartbeats 4000000 in
theorem l_f6 (C : lfc z D cA ad am a 7 b L xs cL_law RL) (hl0 : z.2.1.stackTraces = false) (hR : 10 ≤ z.2.2.2.1.frames ∧ 40 * 10 ≤ z.2.2.2.1.locals ∧ kc + 1 ≤ z.2.2.2.1.cells ∧ ks + 6 ≤ z.2.2.2.1.slots) (hiL : i + 4 ≤ L) (hL : L ≤ 2048) (hw0 : (xs ((i : Int)).toNat).toInt = 14) (hw1 : (xs ((i : Int) + 1).toNat).toInt = 1) (hw2 : (xs ((i : Int) + 2).toNat).toInt = 0) (hp : Q6 σ τ) (kend : ∀ (kc' ks' : Nat) (σ τ : fS) (v : Int) (x5 x6 : Option Value), kc' ≤ kc + 1 → ks' ≤ ks + 6 → Q7 σ τ → lj z D cA ad am a 7 Q kc' ks' σ τ v 719 [some (.ref b), some (.ref (ad 0)), some (.ref (am 0)), some (.ref a), some (.int (fI (i : Int))), x5, x6] []) : lj z D cA ad am a 7 Q kc ks σ τ v 23 [some (.ref b), some (.ref (ad 0)), some (.ref (am 0)), some (.ref a), some (.int (fI (i : Int))), o5, o6] [] := by
  have hJ := C.2.2.2.2.2.2.1
  have hJm := C.2.2.2.2.2.2.2.1
  have hoff := C.2.2.2.2.2.2.2.2.1
  have hv : Jv σ τ := hp.1
  refine l_iload C dL_law_23 rfl ?_
  refine l_aload_n C dL_law_25 rfl rfl ?_
  refine l_slen C dL_law_26 ?_
  refine l_iconst C dL_law_27 ?_
  refine l_isub C dL_law_28 ?_
  refine l_icmp_gt (tgt := 725) C dL_law_29 (by decide) (by omega) (by omega) (fun h => absurd h (by omega)) (fun _ => ?_)
  refine l_aload_n C dL_law_32 rfl rfl ?_
  refine l_iload C dL_law_33 rfl ?_
  refine l_sld C (by omega) (by omega) dL_law_35 ?_
  refine l_bipush C dL_law_36 (by decide) ?_
  refine l_andc (j := 14) C dL_law_38 (by rw [hw0]; decide +kernel) ?_
  refine l_tIn (tgt := 586) C dL_law_39 (by decide) (by decide) (by decide) rfl (by decide) ?_
  refine l_aload_n C dL_law_586 rfl rfl ?_
  refine l_aload_n C dL_law_587 rfl rfl ?_
  refine l_iload C dL_law_588 rfl ?_
  refine l_iconst C dL_law_590 ?_
  refine l_iadd C dL_law_591 ?_
  refine l_sld C (by omega) (by omega) dL_law_592 ?_
  refine l_aload_n C dL_law_593 rfl rfl ?_
  refine l_iload C dL_law_594 rfl ?_
  refine l_iconst C dL_law_596 ?_
  refine l_iadd C dL_law_597 ?_
  refine l_sld C (by omega) (by omega) dL_law_598 ?_
  refine l_aload_n C dL_law_599 rfl rfl ?_
  refine l_h (dd := 10) (mc := 1) (ms := 6) (np := 4) (st := []) C hR (kG_differ3 z.2.1 D cA ad hJ hl0 a hoff v σ (Jv_x hv) ((xs ((i : Int) + 1).toNat).toInt) ((xs ((i : Int) + 2).toNat).toInt) (l_rng _) (l_rng _) ) dL_law_600 mL_differ sL_differ iL wL_differ ⟨by decide +kernel, by decide +kernel, by decide +kernel⟩ (by decide) (by decide) rfl (by decide) rfl (fun k v1 σ1 hy => ?_)
  refine l_istore C dL_law_603 (by decide) ?_
  show lj z D cA ad am a 7 Q (kc + 1) (ks + 6) σ1 τ v1 605 [some (.ref b), some (.ref (ad 0)), some (.ref (am 0)), some (.ref a), some (.int (fI (i : Int))), some (.int (fI k)), o6] []
  refine l_aload_n C dL_law_605 rfl rfl ?_
  refine l_aload_n C dL_law_606 rfl rfl ?_
  refine l_iload C dL_law_607 rfl ?_
  refine l_iconst C dL_law_609 ?_
  refine l_iadd C dL_law_610 ?_
  refine l_sld C (by omega) (by omega) dL_law_611 ?_
  refine l_aload_n C dL_law_612 rfl rfl ?_
  refine l_iload C dL_law_613 rfl ?_
  refine l_iconst C dL_law_615 ?_
  refine l_iadd C dL_law_616 ?_
  refine l_sld C (by omega) (by omega) dL_law_617 ?_
  refine l_mI (dd := 10) (np := 2) (st := []) C hR (kU_differ3 z.2.1 D cA am hJm τ (Jv_m hv) ((xs ((i : Int) + 1).toNat).toInt) ((xs ((i : Int) + 2).toNat).toInt) (l_rng _) (l_rng _) ) dL_law_618 gW_130 ⟨rfl, by decide +kernel, by decide +kernel, by decide +kernel⟩ (by decide) (by decide) rfl (by decide) rfl (fun r τ1 hu => ?_)
  refine l_istore C dL_law_621 (by decide) ?_
  show lj z D cA ad am a 7 Q (kc + 1) (ks + 6) σ1 τ1 v1 623 [some (.ref b), some (.ref (ad 0)), some (.ref (am 0)), some (.ref a), some (.int (fI (i : Int))), some (.int (fI k)), some (.int (fI r))] []
  have hy2 := hy
  have hu2 := hu
  rw [hw1, hw2] at hy2 hu2
  obtain ⟨hj, hk, u0, hv1, hv2, hr0, h29⟩ := f_6 hp hy2 hu2
  refine l_goto (tgt := 719) C dL_law_623 (by decide) ?_
  exact kend _ _ _ _ _ _ _ (Nat.le_refl _) (Nat.le_refl _) ⟨hj, by omega, h29⟩
set_option maxHeartbeats 4000000 in
theorem l_f7 (C : lfc z D cA ad am a 7 b L xs cL_law RL) (hl0 : z.2.1.stackTraces = false) (hR : 10 ≤ z.2.2.2.1.frames ∧ 40 * 10 ≤ z.2.2.2.1.locals ∧ kc + 1 ≤ z.2.2.2.1.cells ∧ ks + 6 ≤ z.2.2.2.1.slots) (hiL : i + 4 ≤ L) (hL : L ≤ 2048) (hw0 : (xs ((i : Int)).toNat).toInt = 15) (hw1 : (xs ((i : Int) + 1).toNat).toInt = 0) (hw2 : (xs ((i : Int) + 2).toNat).toInt = 0) (hp : Q7 σ τ) (kret : ∀ (kc' ks' : Nat) (σ τ : fS) (v : Int) (lv : List (Option Value)), kc' ≤ kc + 1 → ks' ≤ ks + 6 → lj z D cA ad am a 7 Q kc' ks' σ τ v 673 lv [.int (fI 0)]) : lj z D cA ad am a 7 Q kc ks σ τ v 23 [some (.ref b), some (.ref (ad 0)), some (.ref (am 0)), some (.ref a), some (.int (fI (i : Int))), o5, o6] [] := by
  have hJ := C.2.2.2.2.2.2.1
  have hJm := C.2.2.2.2.2.2.2.1
  have hoff := C.2.2.2.2.2.2.2.2.1
  have hv : Jv σ τ := hp.1
  refine l_iload C dL_law_23 rfl ?_
  refine l_aload_n C dL_law_25 rfl rfl ?_
  refine l_slen C dL_law_26 ?_
  refine l_iconst C dL_law_27 ?_
  refine l_isub C dL_law_28 ?_
  refine l_icmp_gt (tgt := 725) C dL_law_29 (by decide) (by omega) (by omega) (fun h => absurd h (by omega)) (fun _ => ?_)
  refine l_aload_n C dL_law_32 rfl rfl ?_
  refine l_iload C dL_law_33 rfl ?_
  refine l_sld C (by omega) (by omega) dL_law_35 ?_
  refine l_bipush C dL_law_36 (by decide) ?_
  refine l_andc (j := 15) C dL_law_38 (by rw [hw0]; decide +kernel) ?_
  refine l_tIn (tgt := 626) C dL_law_39 (by decide) (by decide) (by decide) rfl (by decide) ?_
  refine l_aload_n C dL_law_626 rfl rfl ?_
  refine l_aload_n C dL_law_627 rfl rfl ?_
  refine l_iload C dL_law_628 rfl ?_
  refine l_iconst C dL_law_630 ?_
  refine l_iadd C dL_law_631 ?_
  refine l_sld C (by omega) (by omega) dL_law_632 ?_
  refine l_aload_n C dL_law_633 rfl rfl ?_
  refine l_iload C dL_law_634 rfl ?_
  refine l_iconst C dL_law_636 ?_
  refine l_iadd C dL_law_637 ?_
  refine l_sld C (by omega) (by omega) dL_law_638 ?_
  refine l_aload_n C dL_law_639 rfl rfl ?_
  refine l_h (dd := 10) (mc := 1) (ms := 6) (np := 4) (st := []) C hR (kG_row z.2.1 D cA ad hJ hl0 a hoff v σ (Jv_x hv) ((xs ((i : Int) + 1).toNat).toInt) ((xs ((i : Int) + 2).toNat).toInt) (l_rng _) (l_rng _) ) dL_law_640 mL_row sL_row iL wL_row ⟨by decide +kernel, by decide +kernel, by decide +kernel⟩ (by decide) (by decide) rfl (by decide) rfl (fun k v1 σ1 hy => ?_)
  refine l_istore C dL_law_643 (by decide) ?_
  show lj z D cA ad am a 7 Q (kc + 1) (ks + 6) σ1 τ v1 645 [some (.ref b), some (.ref (ad 0)), some (.ref (am 0)), some (.ref a), some (.int (fI (i : Int))), some (.int (fI k)), o6] []
  refine l_aload_n C dL_law_645 rfl rfl ?_
  refine l_aload_n C dL_law_646 rfl rfl ?_
  refine l_iload C dL_law_647 rfl ?_
  refine l_iconst C dL_law_649 ?_
  refine l_iadd C dL_law_650 ?_
  refine l_sld C (by omega) (by omega) dL_law_651 ?_
  refine l_aload_n C dL_law_652 rfl rfl ?_
  refine l_iload C dL_law_653 rfl ?_
  refine l_iconst C dL_law_655 ?_
  refine l_iadd C dL_law_656 ?_
  refine l_sld C (by omega) (by omega) dL_law_657 ?_
  refine l_mI (dd := 10) (np := 2) (st := []) C hR (kU_row z.2.1 D cA am hJm τ (Jv_m hv) ((xs ((i : Int) + 1).toNat).toInt) ((xs ((i : Int) + 2).toNat).toInt) (l_rng _) (l_rng _) ) dL_law_658 gW_133 ⟨rfl, by decide +kernel, by decide +kernel, by decide +kernel⟩ (by decide) (by decide) rfl (by decide) rfl (fun r τ1 hu => ?_)
  refine l_istore C dL_law_661 (by decide) ?_
  show lj z D cA ad am a 7 Q (kc + 1) (ks + 6) σ1 τ1 v1 663 [some (.ref b), some (.ref (ad 0)), some (.ref (am 0)), some (.ref a), some (.int (fI (i : Int))), some (.int (fI k)), some (.int (fI r))] []
  have hy2 := hy
  have hu2 := hu
  rw [hw1, hw2] at hy2 hu2
  have hk : k = 0 := by
    rcases hy2 with ⟨g, -⟩ | ⟨-, g, -⟩
    · exact absurd ⟨⟨by decide, by have := hp.2.1; omega⟩, by decide, by decide⟩ g
    · exact g
  have ht : τ1.1 0 0 = 1 := by
    rcases hu2 with ⟨⟨-, g, -⟩, -⟩ | ⟨-, -, g⟩
    · rw [hp.2.2] at g; exact absurd g.2 (by decide)
    · rw [g]; rfl
  clear hy hu hy2 hu2
  subst hk
  refine l_aload_n C dL_law_663 rfl rfl ?_
  refine l_mI (dd := 10) (np := 0) (st := []) C hR (kM_thrown z.2.1 xCl D cA am hJm τ1) dL_law_664 gW_134 ⟨rfl, by decide +kernel, by decide +kernel, by decide +kernel⟩ (by decide) (by decide) rfl (by decide) rfl (fun t τ2 hp3 => ?_)
  obtain ⟨ht3, hs3⟩ := hp3
  subst τ2
  subst ht3
  refine l_iload C dL_law_667 rfl ?_
  refine l_icmp_eq (tgt := 674) C dL_law_669 (by decide) (by omega) (by omega) (fun h => absurd h (by omega)) (fun _ => ?_)
  refine l_iconst C dL_law_672 ?_
  exact kret _ _ _ _ _ _ (Nat.le_refl _) (Nat.le_refl _)
def f_scr : List Int32 := [0, 1, 1, 0, 4, 0, 0, 0, 0, 1, 1, 0, 5, 0, 0, 0, 7, 0, 0, 0, 8, 0, 0, 0, 14, 1, 0, 0, 15, 0, 0, 0]
theorem f_xs (hx : ∀ j : Nat, j < 32 → xs j = f_scr.getD j 0) (t : Int) (j : Nat) (c : Int) (ht : t.toNat = j) (hj : j < 32) (hc : (f_scr.getD j 0).toInt = c) : (xs t.toNat).toInt = c := by
  rw [ht, hx j hj]
  exact hc
theorem f_step {p : Prop} (C : lfc z D cA ad am a 7 b L xs cL_law RL) (k : lj z D cA ad am a 7 Q kc ks σ τ v 23 [some (.ref b), some (.ref (ad 0)), some (.ref (am 0)), some (.ref a), some (.int (fI ((i + 4 : Nat) : Int))), o5, o6] []) : lj z D cA ad am a 7 Q kc ks σ τ v 719 [some (.ref b), some (.ref (ad 0)), some (.ref (am 0)), some (.ref a), some (.int (fI (i : Int))), o5, o6] [] := by
  refine l_iinc C dL_law_719 rfl (by decide) ?_
  have e : ((i : Int) + 4) = ((i + 4 : Nat) : Int) := by omega
  show lj z D cA ad am a 7 Q kc ks σ τ v 722 [some (.ref b), some (.ref (ad 0)), some (.ref (am 0)), some (.ref a), some (.int (fI ((i : Int) + 4))), o5, o6] []
  rw [e]
  exact l_goto (tgt := 23) C dL_law_722 (by decide) k
set_option maxHeartbeats 4000000 in
theorem l_run (C : lfc z D cA ad am a 7 b L xs cL_law RL) (hL : L = 32) (hl0 : z.2.1.stackTraces = false) (hx : ∀ j : Nat, j < 32 → xs j = f_scr.getD j 0) {KC KS : Nat} (hF : 10 ≤ z.2.2.2.1.frames ∧ 40 * 10 ≤ z.2.2.2.1.locals ∧ KC ≤ z.2.2.2.1.cells ∧ KS ≤ z.2.2.2.1.slots) (h3 : kc + 8 ≤ KC) (h4 : ks + 48 ≤ KS) (kret : ∀ (kc' ks' : Nat) (σ τ : fS) (v : Int) (lv : List (Option Value)), kc' ≤ KC → ks' ≤ KS → lj z D cA ad am a 7 Q kc' ks' σ τ v 673 lv [.int (fI 0)]) : lj z D cA ad am a 7 Q kc ks x_0 x_0 v 23 [some (.ref b), some (.ref (ad 0)), some (.ref (am 0)), some (.ref a), some (.int (fI ((0 : Nat) : Int))), o5, o6] [] := by
  refine l_f0 (i := 0) C hl0 ⟨hF.1, hF.2.1, by omega, by omega⟩ (by omega) (by omega) (f_xs hx _ 0 0 rfl (by decide) (by decide +kernel)) (f_xs hx _ 1 1 rfl (by decide) (by decide +kernel)) (f_xs hx _ 2 1 rfl (by decide) (by decide +kernel)) (⟨rfl, rfl⟩) (fun kc0 ks0 σ0 τ0 v0 x0 y0 g0 k0 p0 => ?_)
  refine f_step (p := True) (i := 0) C ?_
  refine l_f1 (i := 4) C hl0 ⟨hF.1, hF.2.1, by omega, by omega⟩ (by omega) (by omega) (f_xs hx _ 4 4 rfl (by decide) (by decide +kernel)) (f_xs hx _ 5 0 rfl (by decide) (by decide +kernel)) p0 (fun kc1 ks1 σ1 τ1 v1 x1 y1 g1 k1 p1 => ?_)
  refine f_step (p := True) (i := 4) C ?_
  refine l_f2 (i := 8) C hl0 ⟨hF.1, hF.2.1, by omega, by omega⟩ (by omega) (by omega) (f_xs hx _ 8 0 rfl (by decide) (by decide +kernel)) (f_xs hx _ 9 1 rfl (by decide) (by decide +kernel)) (f_xs hx _ 10 1 rfl (by decide) (by decide +kernel)) p1 (fun kc2 ks2 σ2 τ2 v2 x2 y2 g2 k2 p2 => ?_)
  refine f_step (p := True) (i := 8) C ?_
  refine l_f3 (i := 12) C hl0 ⟨hF.1, hF.2.1, by omega, by omega⟩ (by omega) (by omega) (f_xs hx _ 12 5 rfl (by decide) (by decide +kernel))  p2 (fun kc3 ks3 σ3 τ3 v3 x3 y3 g3 k3 p3 => ?_)
  refine f_step (p := True) (i := 12) C ?_
  refine l_f4 (i := 16) C hl0 ⟨hF.1, hF.2.1, by omega, by omega⟩ (by omega) (by omega) (f_xs hx _ 16 7 rfl (by decide) (by decide +kernel)) (f_xs hx _ 17 0 rfl (by decide) (by decide +kernel)) (f_xs hx _ 18 0 rfl (by decide) (by decide +kernel)) p3 (fun kc4 ks4 σ4 τ4 v4 x4 y4 g4 k4 p4 => ?_)
  refine f_step (p := True) (i := 16) C ?_
  refine l_f5 (i := 20) C hl0 ⟨hF.1, hF.2.1, by omega, by omega⟩ (by omega) (by omega) (f_xs hx _ 20 8 rfl (by decide) (by decide +kernel)) (f_xs hx _ 21 0 rfl (by decide) (by decide +kernel)) p4 (fun kc5 ks5 σ5 τ5 v5 x5 y5 g5 k5 p5 => ?_)
  refine f_step (p := True) (i := 20) C ?_
  refine l_f6 (i := 24) C hl0 ⟨hF.1, hF.2.1, by omega, by omega⟩ (by omega) (by omega) (f_xs hx _ 24 14 rfl (by decide) (by decide +kernel)) (f_xs hx _ 25 1 rfl (by decide) (by decide +kernel)) (f_xs hx _ 26 0 rfl (by decide) (by decide +kernel)) p5 (fun kc6 ks6 σ6 τ6 v6 x6 y6 g6 k6 p6 => ?_)
  refine f_step (p := True) (i := 24) C ?_
  exact l_f7 (i := 28) C hl0 ⟨hF.1, hF.2.1, by omega, by omega⟩ (by omega) (by omega) (f_xs hx _ 28 15 rfl (by decide) (by decide +kernel)) (f_xs hx _ 29 0 rfl (by decide) (by decide +kernel)) (f_xs hx _ 30 0 rfl (by decide) (by decide +kernel)) p6 (fun kc9 ks9 σ9 τ9 v9 lv9 g9 k9 => kret kc9 ks9 σ9 τ9 v9 lv9 (by omega) (by omega))
end LB
