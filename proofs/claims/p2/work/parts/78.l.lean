section LB
variable {z : fZ} {D : va_G} {cA : Nat → ClassId} {ad am : Nat → Nat} {a b L i : Nat} {xs : Nat → Int32} {Q : State → Prop} {kc ks : Nat} {v : Int} {σ τ : fS} {o5 o6 : Option Value}
theorem l_rng (x : Int32) : -2147483648 ≤ x.toInt ∧ x.toInt ≤ 2147483647 := ⟨by have := Int32.le_toInt x; omega, by have := Int32.toInt_lt x; omega⟩
theorem l_pop {nL pc : Nat} {cc : ByteArray} {own : String} {lv : List (Option Value)} {st : List Value} (C : lfc z D cA ad am a nL b L xs cc own) {x : Value} (d : decode cc pc = .ok (.pop, 1)) (hx : x.category = 1) (kk : lj z D cA ad am a nL Q kc ks σ τ v (pc + 1) lv st) : lj z D cA ad am a nL Q kc ks σ τ v pc lv (x :: st) :=
  fun H locs ls hP hM hO hS hl => lv_pop C.1 C.2.1 d hx (kk H locs ls hP hM hO hS hl)
theorem l_case0 (C : lfc z D cA ad am a 7 b L xs cL_law RL) (hl0 : z.2.1.stackTraces = false) (hR : 10 ≤ z.2.2.2.1.frames ∧ 40 * 10 ≤ z.2.2.2.1.locals ∧ kc + 1 ≤ z.2.2.2.1.cells ∧ ks + 6 ≤ z.2.2.2.1.slots) (hiL : i + 4 ≤ L) (hL : L ≤ 2048) (hv : Jv σ τ) (kend : ∀ (kc' ks' : Nat) (σ τ : fS) (v : Int) (x5 x6 : Option Value), kc' ≤ kc + 1 → ks' ≤ ks + 6 → Jv σ τ → lj z D cA ad am a 7 Q kc' ks' σ τ v 702 [some (.ref b), some (.ref (ad 0)), some (.ref (am 0)), some (.ref a), some (.int (fI (i : Int))), x5, x6] []) : lj z D cA ad am a 7 Q kc ks σ τ v 120 [some (.ref b), some (.ref (ad 0)), some (.ref (am 0)), some (.ref a), some (.int (fI (i : Int))), o5, o6] [] := by
  have hJ := C.2.2.2.2.2.2.1
  have hJm := C.2.2.2.2.2.2.2.1
  have hoff := C.2.2.2.2.2.2.2.2.1
  have hR0 : 10 ≤ z.2.2.2.1.frames ∧ 40 * 10 ≤ z.2.2.2.1.locals ∧ kc ≤ z.2.2.2.1.cells ∧ ks ≤ z.2.2.2.1.slots := ⟨hR.1, hR.2.1, by omega, by omega⟩
  refine l_aload_n C dL_law_120 rfl rfl ?_
  refine l_aload_n C dL_law_121 rfl rfl ?_
  refine l_iload C dL_law_122 rfl ?_
  refine l_iconst C dL_law_124 ?_
  refine l_iadd C dL_law_125 ?_
  refine l_sld C (by omega) (by omega) dL_law_126 ?_
  refine l_aload_n C dL_law_127 rfl rfl ?_
  refine l_iload C dL_law_128 rfl ?_
  refine l_iconst C dL_law_130 ?_
  refine l_iadd C dL_law_131 ?_
  refine l_sld C (by omega) (by omega) dL_law_132 ?_
  refine l_h (dd := 10) (mc := 1) (ms := 6) (np := 3) (st := []) C hR (kG_object z.2.1 D cA ad hJ hl0 a hoff v σ hv.1 ((xs ((i : Int) + 1).toNat).toInt) ((xs ((i : Int) + 2).toNat).toInt) (l_rng _) (l_rng _) ) dL_law_133 mL_object sL_object iL wL_object ⟨by decide +kernel, by decide +kernel, by decide +kernel⟩ (by decide) (by decide) rfl (by decide) rfl (fun k v1 σ1 hy => ?_)
  refine l_istore C dL_law_136 (by decide) ?_
  show lj z D cA ad am a 7 Q (kc + 1) (ks + 6) σ1 τ v1 138 [some (.ref b), some (.ref (ad 0)), some (.ref (am 0)), some (.ref a), some (.int (fI (i : Int))), some (.int (fI k)), o6] []
  refine l_aload_n C dL_law_138 rfl rfl ?_
  refine l_aload_n C dL_law_139 rfl rfl ?_
  refine l_iload C dL_law_140 rfl ?_
  refine l_iconst C dL_law_142 ?_
  refine l_iadd C dL_law_143 ?_
  refine l_sld C (by omega) (by omega) dL_law_144 ?_
  refine l_aload_n C dL_law_145 rfl rfl ?_
  refine l_iload C dL_law_146 rfl ?_
  refine l_iconst C dL_law_148 ?_
  refine l_iadd C dL_law_149 ?_
  refine l_sld C (by omega) (by omega) dL_law_150 ?_
  refine l_mV (dd := 10) (np := 2) (st := []) C hR (kU_object z.2.1 D cA am hJm τ hv.2 ((xs ((i : Int) + 1).toNat).toInt) ((xs ((i : Int) + 2).toNat).toInt) (l_rng _) (l_rng _) ) dL_law_151 gW_81 ⟨rfl, by decide +kernel, by decide +kernel, by decide +kernel⟩ (by decide) (by decide) rfl (by decide) rfl (fun τ1 hu => ?_)
  obtain ⟨hj, he, hk⟩ := st_object hv  hy hu
  clear hy hu
  refine l_aload_n C dL_law_154 rfl rfl ?_
  refine l_mI (dd := 10) (np := 0) (st := []) C hR (kM_thrown z.2.1 xCl D cA am hJm τ1) dL_law_155 gW_82 ⟨rfl, by decide +kernel, by decide +kernel, by decide +kernel⟩ (by decide) (by decide) rfl (by decide) rfl (fun t τ2 hp3 => ?_)
  obtain ⟨ht3, hs3⟩ := hp3
  subst τ2
  subst ht3
  refine l_iload C dL_law_158 rfl ?_
  refine l_icmp_eq (tgt := 165) C dL_law_160 (by decide) (by omega) (by omega) (fun _ => ?_) (fun hne => absurd he hne)
  refine l_goto (tgt := 702) C dL_law_165 (by decide) ?_
  exact kend _ _ _ _ _ _ _ (Nat.le_refl _) (Nat.le_refl _) hj
theorem l_case1 (C : lfc z D cA ad am a 7 b L xs cL_law RL) (hl0 : z.2.1.stackTraces = false) (hR : 10 ≤ z.2.2.2.1.frames ∧ 40 * 10 ≤ z.2.2.2.1.locals ∧ kc + 1 ≤ z.2.2.2.1.cells ∧ ks + 6 ≤ z.2.2.2.1.slots) (hiL : i + 4 ≤ L) (hL : L ≤ 2048) (hv : Jv σ τ) (kend : ∀ (kc' ks' : Nat) (σ τ : fS) (v : Int) (x5 x6 : Option Value), kc' ≤ kc + 1 → ks' ≤ ks + 6 → Jv σ τ → lj z D cA ad am a 7 Q kc' ks' σ τ v 702 [some (.ref b), some (.ref (ad 0)), some (.ref (am 0)), some (.ref a), some (.int (fI (i : Int))), x5, x6] []) : lj z D cA ad am a 7 Q kc ks σ τ v 168 [some (.ref b), some (.ref (ad 0)), some (.ref (am 0)), some (.ref a), some (.int (fI (i : Int))), o5, o6] [] := by
  have hJ := C.2.2.2.2.2.2.1
  have hJm := C.2.2.2.2.2.2.2.1
  have hoff := C.2.2.2.2.2.2.2.2.1
  have hR0 : 10 ≤ z.2.2.2.1.frames ∧ 40 * 10 ≤ z.2.2.2.1.locals ∧ kc ≤ z.2.2.2.1.cells ∧ ks ≤ z.2.2.2.1.slots := ⟨hR.1, hR.2.1, by omega, by omega⟩
  refine l_aload_n C dL_law_168 rfl rfl ?_
  refine l_aload_n C dL_law_169 rfl rfl ?_
  refine l_iload C dL_law_170 rfl ?_
  refine l_iconst C dL_law_172 ?_
  refine l_iadd C dL_law_173 ?_
  refine l_sld C (by omega) (by omega) dL_law_174 ?_
  refine l_aload_n C dL_law_175 rfl rfl ?_
  refine l_iload C dL_law_176 rfl ?_
  refine l_iconst C dL_law_178 ?_
  refine l_iadd C dL_law_179 ?_
  refine l_sld C (by omega) (by omega) dL_law_180 ?_
  refine l_aload_n C dL_law_181 rfl rfl ?_
  refine l_iload C dL_law_182 rfl ?_
  refine l_iconst C dL_law_184 ?_
  refine l_iadd C dL_law_185 ?_
  refine l_sld C (by omega) (by omega) dL_law_186 ?_
  refine l_i2b C dL_law_187 ?_
  refine l_aload_n C dL_law_188 rfl rfl ?_
  refine l_h (dd := 10) (mc := 1) (ms := 6) (np := 5) (st := []) C hR (kG_octet z.2.1 D cA ad hJ hl0 a hoff v σ hv.1 ((xs ((i : Int) + 1).toNat).toInt) ((xs ((i : Int) + 2).toNat).toInt) (((xs ((i : Int) + 3).toNat).toInt.bmod 256)) (l_rng _) (l_rng _) (by have := x_bm (xs ((i : Int) + 3).toNat).toInt; omega) (x_bm (xs ((i : Int) + 3).toNat).toInt)) dL_law_189 mL_octet sL_octet iL wL_octet ⟨by decide +kernel, by decide +kernel, by decide +kernel⟩ (by decide) (by decide) rfl (by decide) rfl (fun k v1 σ1 hy => ?_)
  refine l_istore C dL_law_192 (by decide) ?_
  show lj z D cA ad am a 7 Q (kc + 1) (ks + 6) σ1 τ v1 194 [some (.ref b), some (.ref (ad 0)), some (.ref (am 0)), some (.ref a), some (.int (fI (i : Int))), some (.int (fI k)), o6] []
  refine l_aload_n C dL_law_194 rfl rfl ?_
  refine l_aload_n C dL_law_195 rfl rfl ?_
  refine l_iload C dL_law_196 rfl ?_
  refine l_iconst C dL_law_198 ?_
  refine l_iadd C dL_law_199 ?_
  refine l_sld C (by omega) (by omega) dL_law_200 ?_
  refine l_aload_n C dL_law_201 rfl rfl ?_
  refine l_iload C dL_law_202 rfl ?_
  refine l_iconst C dL_law_204 ?_
  refine l_iadd C dL_law_205 ?_
  refine l_sld C (by omega) (by omega) dL_law_206 ?_
  refine l_aload_n C dL_law_207 rfl rfl ?_
  refine l_iload C dL_law_208 rfl ?_
  refine l_iconst C dL_law_210 ?_
  refine l_iadd C dL_law_211 ?_
  refine l_sld C (by omega) (by omega) dL_law_212 ?_
  refine l_i2b C dL_law_213 ?_
  refine l_mI (dd := 10) (np := 3) (st := []) C hR (kU_octet z.2.1 D cA am hJm τ hv.2 ((xs ((i : Int) + 1).toNat).toInt) ((xs ((i : Int) + 2).toNat).toInt) (((xs ((i : Int) + 3).toNat).toInt.bmod 256)) (l_rng _) (l_rng _) (by have := x_bm (xs ((i : Int) + 3).toNat).toInt; omega) (x_bm (xs ((i : Int) + 3).toNat).toInt)) dL_law_214 gW_88 ⟨rfl, by decide +kernel, by decide +kernel, by decide +kernel⟩ (by decide) (by decide) rfl (by decide) rfl (fun r τ1 hu => ?_)
  refine l_istore C dL_law_217 (by decide) ?_
  show lj z D cA ad am a 7 Q (kc + 1) (ks + 6) σ1 τ1 v1 219 [some (.ref b), some (.ref (ad 0)), some (.ref (am 0)), some (.ref a), some (.int (fI (i : Int))), some (.int (fI k)), some (.int (fI r))] []
  refine l_goto (tgt := 702) C dL_law_219 (by decide) ?_
  exact kend _ _ _ _ _ _ _ (Nat.le_refl _) (Nat.le_refl _) (st_octet hv (x_bm (xs ((i : Int) + 3).toNat).toInt) hy hu)
theorem l_case2 (C : lfc z D cA ad am a 7 b L xs cL_law RL) (hl0 : z.2.1.stackTraces = false) (hR : 10 ≤ z.2.2.2.1.frames ∧ 40 * 10 ≤ z.2.2.2.1.locals ∧ kc + 1 ≤ z.2.2.2.1.cells ∧ ks + 6 ≤ z.2.2.2.1.slots) (hiL : i + 4 ≤ L) (hL : L ≤ 2048) (hv : Jv σ τ) (kend : ∀ (kc' ks' : Nat) (σ τ : fS) (v : Int) (x5 x6 : Option Value), kc' ≤ kc + 1 → ks' ≤ ks + 6 → Jv σ τ → lj z D cA ad am a 7 Q kc' ks' σ τ v 702 [some (.ref b), some (.ref (ad 0)), some (.ref (am 0)), some (.ref a), some (.int (fI (i : Int))), x5, x6] []) : lj z D cA ad am a 7 Q kc ks σ τ v 222 [some (.ref b), some (.ref (ad 0)), some (.ref (am 0)), some (.ref a), some (.int (fI (i : Int))), o5, o6] [] := by
  have hJ := C.2.2.2.2.2.2.1
  have hJm := C.2.2.2.2.2.2.2.1
  have hoff := C.2.2.2.2.2.2.2.2.1
  have hR0 : 10 ≤ z.2.2.2.1.frames ∧ 40 * 10 ≤ z.2.2.2.1.locals ∧ kc ≤ z.2.2.2.1.cells ∧ ks ≤ z.2.2.2.1.slots := ⟨hR.1, hR.2.1, by omega, by omega⟩
  refine l_aload_n C dL_law_222 rfl rfl ?_
  refine l_aload_n C dL_law_223 rfl rfl ?_
  refine l_iload C dL_law_224 rfl ?_
  refine l_iconst C dL_law_226 ?_
  refine l_iadd C dL_law_227 ?_
  refine l_sld C (by omega) (by omega) dL_law_228 ?_
  refine l_aload_n C dL_law_229 rfl rfl ?_
  refine l_h (dd := 10) (mc := 1) (ms := 6) (np := 3) (st := []) C hR (kG_drop z.2.1 D cA ad hJ hl0 a hoff v σ hv.1 ((xs ((i : Int) + 1).toNat).toInt) (l_rng _) ) dL_law_230 mL_drop sL_drop iL wL_drop ⟨by decide +kernel, by decide +kernel, by decide +kernel⟩ (by decide) (by decide) rfl (by decide) rfl (fun k v1 σ1 hy => ?_)
  refine l_istore C dL_law_233 (by decide) ?_
  show lj z D cA ad am a 7 Q (kc + 1) (ks + 6) σ1 τ v1 235 [some (.ref b), some (.ref (ad 0)), some (.ref (am 0)), some (.ref a), some (.int (fI (i : Int))), some (.int (fI k)), o6] []
  refine l_aload_n C dL_law_235 rfl rfl ?_
  refine l_aload_n C dL_law_236 rfl rfl ?_
  refine l_iload C dL_law_237 rfl ?_
  refine l_iconst C dL_law_239 ?_
  refine l_iadd C dL_law_240 ?_
  refine l_sld C (by omega) (by omega) dL_law_241 ?_
  refine l_mI (dd := 10) (np := 1) (st := []) C hR (kU_drop z.2.1 D cA am hJm τ hv.2 ((xs ((i : Int) + 1).toNat).toInt) (l_rng _) ) dL_law_242 gW_92 ⟨rfl, by decide +kernel, by decide +kernel, by decide +kernel⟩ (by decide) (by decide) rfl (by decide) rfl (fun r τ1 hu => ?_)
  refine l_istore C dL_law_245 (by decide) ?_
  show lj z D cA ad am a 7 Q (kc + 1) (ks + 6) σ1 τ1 v1 247 [some (.ref b), some (.ref (ad 0)), some (.ref (am 0)), some (.ref a), some (.int (fI (i : Int))), some (.int (fI k)), some (.int (fI r))] []
  refine l_goto (tgt := 702) C dL_law_247 (by decide) ?_
  exact kend _ _ _ _ _ _ _ (Nat.le_refl _) (Nat.le_refl _) (st_drop hv  hy hu)
theorem l_case3 (C : lfc z D cA ad am a 7 b L xs cL_law RL) (hl0 : z.2.1.stackTraces = false) (hR : 10 ≤ z.2.2.2.1.frames ∧ 40 * 10 ≤ z.2.2.2.1.locals ∧ kc + 1 ≤ z.2.2.2.1.cells ∧ ks + 6 ≤ z.2.2.2.1.slots) (hiL : i + 4 ≤ L) (hL : L ≤ 2048) (hv : Jv σ τ) (kend : ∀ (kc' ks' : Nat) (σ τ : fS) (v : Int) (x5 x6 : Option Value), kc' ≤ kc + 1 → ks' ≤ ks + 6 → Jv σ τ → lj z D cA ad am a 7 Q kc' ks' σ τ v 702 [some (.ref b), some (.ref (ad 0)), some (.ref (am 0)), some (.ref a), some (.int (fI (i : Int))), x5, x6] []) : lj z D cA ad am a 7 Q kc ks σ τ v 250 [some (.ref b), some (.ref (ad 0)), some (.ref (am 0)), some (.ref a), some (.int (fI (i : Int))), o5, o6] [] := by
  have hJ := C.2.2.2.2.2.2.1
  have hJm := C.2.2.2.2.2.2.2.1
  have hoff := C.2.2.2.2.2.2.2.2.1
  have hR0 : 10 ≤ z.2.2.2.1.frames ∧ 40 * 10 ≤ z.2.2.2.1.locals ∧ kc ≤ z.2.2.2.1.cells ∧ ks ≤ z.2.2.2.1.slots := ⟨hR.1, hR.2.1, by omega, by omega⟩
  refine l_aload_n C dL_law_250 rfl rfl ?_
  refine l_aload_n C dL_law_251 rfl rfl ?_
  refine l_iload C dL_law_252 rfl ?_
  refine l_iconst C dL_law_254 ?_
  refine l_iadd C dL_law_255 ?_
  refine l_sld C (by omega) (by omega) dL_law_256 ?_
  refine l_aload_n C dL_law_257 rfl rfl ?_
  refine l_iload C dL_law_258 rfl ?_
  refine l_iconst C dL_law_260 ?_
  refine l_iadd C dL_law_261 ?_
  refine l_sld C (by omega) (by omega) dL_law_262 ?_
  suffices hj1 : ∀ w : Int, ((w = 0 ∧ (xs ((i : Int) + 2).toNat).toInt = 0) ∨ (w = 1 ∧ (xs ((i : Int) + 2).toNat).toInt ≠ 0)) → lj z D cA ad am a 7 Q kc ks σ τ v 271 [some (.ref b), some (.ref (ad 0)), some (.ref (am 0)), some (.ref a), some (.int (fI (i : Int))), o5, o6] [.int (fI w), .int (fI (xs ((i : Int) + 1).toNat).toInt), .ref (ad 0)] by
    refine l_if_eq (tgt := 270) C dL_law_263 (by decide) (l_rng _) (fun h => ?_) (fun h => ?_)
    · refine l_iconst C dL_law_270 ?_
      exact hj1 0 (Or.inl ⟨rfl, h⟩)
    · refine l_iconst C dL_law_266 ?_
      refine l_goto (tgt := 271) C dL_law_267 (by decide) ?_
      exact hj1 1 (Or.inr ⟨rfl, h⟩)
  intro w hw
  refine l_aload_n C dL_law_271 rfl rfl ?_
  refine l_h (dd := 10) (mc := 1) (ms := 6) (np := 4) (st := []) C hR (kG_first z.2.1 D cA ad hJ hl0 a hoff v σ hv.1 ((xs ((i : Int) + 1).toNat).toInt) (w) (l_rng _) (by omega) (by omega)) dL_law_272 mL_first sL_first iL wL_first ⟨by decide +kernel, by decide +kernel, by decide +kernel⟩ (by decide) (by decide) rfl (by decide) rfl (fun k v1 σ1 hy => ?_)
  refine l_istore C dL_law_275 (by decide) ?_
  show lj z D cA ad am a 7 Q (kc + 1) (ks + 6) σ1 τ v1 277 [some (.ref b), some (.ref (ad 0)), some (.ref (am 0)), some (.ref a), some (.int (fI (i : Int))), some (.int (fI k)), o6] []
  refine l_aload_n C dL_law_277 rfl rfl ?_
  refine l_aload_n C dL_law_278 rfl rfl ?_
  refine l_iload C dL_law_279 rfl ?_
  refine l_iconst C dL_law_281 ?_
  refine l_iadd C dL_law_282 ?_
  refine l_sld C (by omega) (by omega) dL_law_283 ?_
  refine l_aload_n C dL_law_284 rfl rfl ?_
  refine l_iload C dL_law_285 rfl ?_
  refine l_iconst C dL_law_287 ?_
  refine l_iadd C dL_law_288 ?_
  refine l_sld C (by omega) (by omega) dL_law_289 ?_
  suffices hj2 : ∀ w2 : Int, ((w2 = 0 ∧ (xs ((i : Int) + 2).toNat).toInt = 0) ∨ (w2 = 1 ∧ (xs ((i : Int) + 2).toNat).toInt ≠ 0)) → lj z D cA ad am a 7 Q (kc + 1) (ks + 6) σ1 τ v1 298 [some (.ref b), some (.ref (ad 0)), some (.ref (am 0)), some (.ref a), some (.int (fI (i : Int))), some (.int (fI k)), o6] [.int (fI w2), .int (fI (xs ((i : Int) + 1).toNat).toInt), .ref (am 0)] by
    refine l_if_eq (tgt := 297) C dL_law_290 (by decide) (l_rng _) (fun h => ?_) (fun h => ?_)
    · refine l_iconst C dL_law_297 ?_
      exact hj2 0 (Or.inl ⟨rfl, h⟩)
    · refine l_iconst C dL_law_293 ?_
      refine l_goto (tgt := 298) C dL_law_294 (by decide) ?_
      exact hj2 1 (Or.inr ⟨rfl, h⟩)
  intro w2 hw2
  have hww : w2 = w := by omega
  subst hww
  refine l_mI (dd := 10) (np := 2) (st := []) C hR (kU_first z.2.1 D cA am hJm τ hv.2 ((xs ((i : Int) + 1).toNat).toInt) (w2) (l_rng _) (by omega) (by omega)) dL_law_298 gW_96 ⟨rfl, by decide +kernel, by decide +kernel, by decide +kernel⟩ (by decide) (by decide) rfl (by decide) rfl (fun r τ1 hu => ?_)
  refine l_istore C dL_law_301 (by decide) ?_
  show lj z D cA ad am a 7 Q (kc + 1) (ks + 6) σ1 τ1 v1 303 [some (.ref b), some (.ref (ad 0)), some (.ref (am 0)), some (.ref a), some (.int (fI (i : Int))), some (.int (fI k)), some (.int (fI r))] []
  refine l_goto (tgt := 702) C dL_law_303 (by decide) ?_
  exact kend _ _ _ _ _ _ _ (Nat.le_refl _) (Nat.le_refl _) (st_first hv (by omega) hy hu)
theorem l_case4 (C : lfc z D cA ad am a 7 b L xs cL_law RL) (hl0 : z.2.1.stackTraces = false) (hR : 10 ≤ z.2.2.2.1.frames ∧ 40 * 10 ≤ z.2.2.2.1.locals ∧ kc + 1 ≤ z.2.2.2.1.cells ∧ ks + 6 ≤ z.2.2.2.1.slots) (hiL : i + 4 ≤ L) (hL : L ≤ 2048) (hv : Jv σ τ) (kend : ∀ (kc' ks' : Nat) (σ τ : fS) (v : Int) (x5 x6 : Option Value), kc' ≤ kc + 1 → ks' ≤ ks + 6 → Jv σ τ → lj z D cA ad am a 7 Q kc' ks' σ τ v 702 [some (.ref b), some (.ref (ad 0)), some (.ref (am 0)), some (.ref a), some (.int (fI (i : Int))), x5, x6] []) : lj z D cA ad am a 7 Q kc ks σ τ v 306 [some (.ref b), some (.ref (ad 0)), some (.ref (am 0)), some (.ref a), some (.int (fI (i : Int))), o5, o6] [] := by
  have hJ := C.2.2.2.2.2.2.1
  have hJm := C.2.2.2.2.2.2.2.1
  have hoff := C.2.2.2.2.2.2.2.2.1
  have hR0 : 10 ≤ z.2.2.2.1.frames ∧ 40 * 10 ≤ z.2.2.2.1.locals ∧ kc ≤ z.2.2.2.1.cells ∧ ks ≤ z.2.2.2.1.slots := ⟨hR.1, hR.2.1, by omega, by omega⟩
  refine l_aload_n C dL_law_306 rfl rfl ?_
  refine l_aload_n C dL_law_307 rfl rfl ?_
  refine l_iload C dL_law_308 rfl ?_
  refine l_iconst C dL_law_310 ?_
  refine l_iadd C dL_law_311 ?_
  refine l_sld C (by omega) (by omega) dL_law_312 ?_
  refine l_aload_n C dL_law_313 rfl rfl ?_
  refine l_h (dd := 10) (mc := 1) (ms := 6) (np := 3) (st := []) C hR (kG_write z.2.1 D cA ad hJ hl0 a hoff v σ hv.1 ((xs ((i : Int) + 1).toNat).toInt) (l_rng _) ) dL_law_314 mL_write sL_write iL wL_write ⟨by decide +kernel, by decide +kernel, by decide +kernel⟩ (by decide) (by decide) rfl (by decide) rfl (fun k v1 σ1 hy => ?_)
  refine l_istore C dL_law_317 (by decide) ?_
  show lj z D cA ad am a 7 Q (kc + 1) (ks + 6) σ1 τ v1 319 [some (.ref b), some (.ref (ad 0)), some (.ref (am 0)), some (.ref a), some (.int (fI (i : Int))), some (.int (fI k)), o6] []
  refine l_aload_n C dL_law_319 rfl rfl ?_
  refine l_aload_n C dL_law_320 rfl rfl ?_
  refine l_iload C dL_law_321 rfl ?_
  refine l_iconst C dL_law_323 ?_
  refine l_iadd C dL_law_324 ?_
  refine l_sld C (by omega) (by omega) dL_law_325 ?_
  refine l_mI (dd := 10) (np := 1) (st := []) C hR (kU_write z.2.1 D cA am hJm τ hv.2 ((xs ((i : Int) + 1).toNat).toInt) (l_rng _) ) dL_law_326 gW_99 ⟨rfl, by decide +kernel, by decide +kernel, by decide +kernel⟩ (by decide) (by decide) rfl (by decide) rfl (fun r τ1 hu => ?_)
  refine l_istore C dL_law_329 (by decide) ?_
  show lj z D cA ad am a 7 Q (kc + 1) (ks + 6) σ1 τ1 v1 331 [some (.ref b), some (.ref (ad 0)), some (.ref (am 0)), some (.ref a), some (.int (fI (i : Int))), some (.int (fI k)), some (.int (fI r))] []
  refine l_goto (tgt := 702) C dL_law_331 (by decide) ?_
  exact kend _ _ _ _ _ _ _ (Nat.le_refl _) (Nat.le_refl _) (st_write hv  hy hu)
theorem l_case5 (C : lfc z D cA ad am a 7 b L xs cL_law RL) (hl0 : z.2.1.stackTraces = false) (hR : 10 ≤ z.2.2.2.1.frames ∧ 40 * 10 ≤ z.2.2.2.1.locals ∧ kc + 1 ≤ z.2.2.2.1.cells ∧ ks + 6 ≤ z.2.2.2.1.slots) (hiL : i + 4 ≤ L) (hL : L ≤ 2048) (hv : Jv σ τ) (kend : ∀ (kc' ks' : Nat) (σ τ : fS) (v : Int) (x5 x6 : Option Value), kc' ≤ kc + 1 → ks' ≤ ks + 6 → Jv σ τ → lj z D cA ad am a 7 Q kc' ks' σ τ v 702 [some (.ref b), some (.ref (ad 0)), some (.ref (am 0)), some (.ref a), some (.int (fI (i : Int))), x5, x6] []) : lj z D cA ad am a 7 Q kc ks σ τ v 334 [some (.ref b), some (.ref (ad 0)), some (.ref (am 0)), some (.ref a), some (.int (fI (i : Int))), o5, o6] [] := by
  have hJ := C.2.2.2.2.2.2.1
  have hJm := C.2.2.2.2.2.2.2.1
  have hoff := C.2.2.2.2.2.2.2.2.1
  have hR0 : 10 ≤ z.2.2.2.1.frames ∧ 40 * 10 ≤ z.2.2.2.1.locals ∧ kc ≤ z.2.2.2.1.cells ∧ ks ≤ z.2.2.2.1.slots := ⟨hR.1, hR.2.1, by omega, by omega⟩
  refine l_aload_n C dL_law_334 rfl rfl ?_
  refine l_aload_n C dL_law_335 rfl rfl ?_
  refine l_h (dd := 10) (mc := 1) (ms := 6) (np := 2) (st := []) C hR (kG_append z.2.1 D cA ad hJ hl0 a hoff v σ hv.1 ()  ) dL_law_336 mL_append sL_append iL wL_append ⟨by decide +kernel, by decide +kernel, by decide +kernel⟩ (by decide) (by decide) rfl (by decide) rfl (fun k v1 σ1 hy => ?_)
  refine l_istore C dL_law_339 (by decide) ?_
  show lj z D cA ad am a 7 Q (kc + 1) (ks + 6) σ1 τ v1 341 [some (.ref b), some (.ref (ad 0)), some (.ref (am 0)), some (.ref a), some (.int (fI (i : Int))), some (.int (fI k)), o6] []
  refine l_aload_n C dL_law_341 rfl rfl ?_
  refine l_mI (dd := 10) (np := 0) (st := []) C hR (kU_append z.2.1 D cA am hJm τ hv.2   ) dL_law_342 gW_103 ⟨rfl, by decide +kernel, by decide +kernel, by decide +kernel⟩ (by decide) (by decide) rfl (by decide) rfl (fun r τ1 hu => ?_)
  refine l_istore C dL_law_345 (by decide) ?_
  show lj z D cA ad am a 7 Q (kc + 1) (ks + 6) σ1 τ1 v1 347 [some (.ref b), some (.ref (ad 0)), some (.ref (am 0)), some (.ref a), some (.int (fI (i : Int))), some (.int (fI k)), some (.int (fI r))] []
  refine l_goto (tgt := 702) C dL_law_347 (by decide) ?_
  exact kend _ _ _ _ _ _ _ (Nat.le_refl _) (Nat.le_refl _) (st_append hv  hy hu)
theorem l_case7 (C : lfc z D cA ad am a 7 b L xs cL_law RL) (hl0 : z.2.1.stackTraces = false) (hR : 10 ≤ z.2.2.2.1.frames ∧ 40 * 10 ≤ z.2.2.2.1.locals ∧ kc + 1 ≤ z.2.2.2.1.cells ∧ ks + 6 ≤ z.2.2.2.1.slots) (hiL : i + 4 ≤ L) (hL : L ≤ 2048) (hv : Jv σ τ) (kend : ∀ (kc' ks' : Nat) (σ τ : fS) (v : Int) (x5 x6 : Option Value), kc' ≤ kc + 1 → ks' ≤ ks + 6 → Jv σ τ → lj z D cA ad am a 7 Q kc' ks' σ τ v 702 [some (.ref b), some (.ref (ad 0)), some (.ref (am 0)), some (.ref a), some (.int (fI (i : Int))), x5, x6] []) : lj z D cA ad am a 7 Q kc ks σ τ v 363 [some (.ref b), some (.ref (ad 0)), some (.ref (am 0)), some (.ref a), some (.int (fI (i : Int))), o5, o6] [] := by
  have hJ := C.2.2.2.2.2.2.1
  have hJm := C.2.2.2.2.2.2.2.1
  have hoff := C.2.2.2.2.2.2.2.2.1
  have hR0 : 10 ≤ z.2.2.2.1.frames ∧ 40 * 10 ≤ z.2.2.2.1.locals ∧ kc ≤ z.2.2.2.1.cells ∧ ks ≤ z.2.2.2.1.slots := ⟨hR.1, hR.2.1, by omega, by omega⟩
  refine l_aload_n C dL_law_363 rfl rfl ?_
  refine l_aload_n C dL_law_364 rfl rfl ?_
  refine l_iload C dL_law_365 rfl ?_
  refine l_iconst C dL_law_367 ?_
  refine l_iadd C dL_law_368 ?_
  refine l_sld C (by omega) (by omega) dL_law_369 ?_
  refine l_aload_n C dL_law_370 rfl rfl ?_
  refine l_iload C dL_law_371 rfl ?_
  refine l_iconst C dL_law_373 ?_
  refine l_iadd C dL_law_374 ?_
  refine l_sld C (by omega) (by omega) dL_law_375 ?_
  refine l_i2b C dL_law_376 ?_
  refine l_aload_n C dL_law_377 rfl rfl ?_
  refine l_h (dd := 10) (mc := 1) (ms := 6) (np := 4) (st := []) C hR (kG_poke z.2.1 D cA ad hJ hl0 a hoff v σ hv.1 ((xs ((i : Int) + 1).toNat).toInt) (((xs ((i : Int) + 2).toNat).toInt.bmod 256)) (l_rng _) (by have := x_bm (xs ((i : Int) + 2).toNat).toInt; omega) (x_bm (xs ((i : Int) + 2).toNat).toInt)) dL_law_378 mL_poke sL_poke iL wL_poke ⟨by decide +kernel, by decide +kernel, by decide +kernel⟩ (by decide) (by decide) rfl (by decide) rfl (fun k v1 σ1 hy => ?_)
  refine l_istore C dL_law_381 (by decide) ?_
  show lj z D cA ad am a 7 Q (kc + 1) (ks + 6) σ1 τ v1 383 [some (.ref b), some (.ref (ad 0)), some (.ref (am 0)), some (.ref a), some (.int (fI (i : Int))), some (.int (fI k)), o6] []
  refine l_aload_n C dL_law_383 rfl rfl ?_
  refine l_aload_n C dL_law_384 rfl rfl ?_
  refine l_iload C dL_law_385 rfl ?_
  refine l_iconst C dL_law_387 ?_
  refine l_iadd C dL_law_388 ?_
  refine l_sld C (by omega) (by omega) dL_law_389 ?_
  refine l_aload_n C dL_law_390 rfl rfl ?_
  refine l_iload C dL_law_391 rfl ?_
  refine l_iconst C dL_law_393 ?_
  refine l_iadd C dL_law_394 ?_
  refine l_sld C (by omega) (by omega) dL_law_395 ?_
  refine l_i2b C dL_law_396 ?_
  refine l_mI (dd := 10) (np := 2) (st := []) C hR (kU_poke z.2.1 D cA am hJm τ hv.2 ((xs ((i : Int) + 1).toNat).toInt) (((xs ((i : Int) + 2).toNat).toInt.bmod 256)) (l_rng _) (by have := x_bm (xs ((i : Int) + 2).toNat).toInt; omega) (x_bm (xs ((i : Int) + 2).toNat).toInt)) dL_law_397 gW_111 ⟨rfl, by decide +kernel, by decide +kernel, by decide +kernel⟩ (by decide) (by decide) rfl (by decide) rfl (fun r τ1 hu => ?_)
  refine l_istore C dL_law_400 (by decide) ?_
  show lj z D cA ad am a 7 Q (kc + 1) (ks + 6) σ1 τ1 v1 402 [some (.ref b), some (.ref (ad 0)), some (.ref (am 0)), some (.ref a), some (.int (fI (i : Int))), some (.int (fI k)), some (.int (fI r))] []
  refine l_goto (tgt := 702) C dL_law_402 (by decide) ?_
  exact kend _ _ _ _ _ _ _ (Nat.le_refl _) (Nat.le_refl _) (st_poke hv (x_bm (xs ((i : Int) + 2).toNat).toInt) hy hu)
theorem l_case8 (C : lfc z D cA ad am a 7 b L xs cL_law RL) (hl0 : z.2.1.stackTraces = false) (hR : 10 ≤ z.2.2.2.1.frames ∧ 40 * 10 ≤ z.2.2.2.1.locals ∧ kc + 1 ≤ z.2.2.2.1.cells ∧ ks + 6 ≤ z.2.2.2.1.slots) (hiL : i + 4 ≤ L) (hL : L ≤ 2048) (hv : Jv σ τ) (kend : ∀ (kc' ks' : Nat) (σ τ : fS) (v : Int) (x5 x6 : Option Value), kc' ≤ kc + 1 → ks' ≤ ks + 6 → Jv σ τ → lj z D cA ad am a 7 Q kc' ks' σ τ v 702 [some (.ref b), some (.ref (ad 0)), some (.ref (am 0)), some (.ref a), some (.int (fI (i : Int))), x5, x6] []) : lj z D cA ad am a 7 Q kc ks σ τ v 405 [some (.ref b), some (.ref (ad 0)), some (.ref (am 0)), some (.ref a), some (.int (fI (i : Int))), o5, o6] [] := by
  have hJ := C.2.2.2.2.2.2.1
  have hJm := C.2.2.2.2.2.2.2.1
  have hoff := C.2.2.2.2.2.2.2.2.1
  have hR0 : 10 ≤ z.2.2.2.1.frames ∧ 40 * 10 ≤ z.2.2.2.1.locals ∧ kc ≤ z.2.2.2.1.cells ∧ ks ≤ z.2.2.2.1.slots := ⟨hR.1, hR.2.1, by omega, by omega⟩
  refine l_aload_n C dL_law_405 rfl rfl ?_
  refine l_aload_n C dL_law_406 rfl rfl ?_
  refine l_iload C dL_law_407 rfl ?_
  refine l_iconst C dL_law_409 ?_
  refine l_iadd C dL_law_410 ?_
  refine l_sld C (by omega) (by omega) dL_law_411 ?_
  refine l_aload_n C dL_law_412 rfl rfl ?_
  refine l_h (dd := 10) (mc := 1) (ms := 6) (np := 3) (st := []) C hR (kG_take z.2.1 D cA ad hJ hl0 a hoff v σ hv.1 ((xs ((i : Int) + 1).toNat).toInt) (l_rng _) ) dL_law_413 mL_take sL_take iL wL_take ⟨by decide +kernel, by decide +kernel, by decide +kernel⟩ (by decide) (by decide) rfl (by decide) rfl (fun k v1 σ1 hy => ?_)
  refine l_istore C dL_law_416 (by decide) ?_
  show lj z D cA ad am a 7 Q (kc + 1) (ks + 6) σ1 τ v1 418 [some (.ref b), some (.ref (ad 0)), some (.ref (am 0)), some (.ref a), some (.int (fI (i : Int))), some (.int (fI k)), o6] []
  refine l_aload_n C dL_law_418 rfl rfl ?_
  refine l_aload_n C dL_law_419 rfl rfl ?_
  refine l_iload C dL_law_420 rfl ?_
  refine l_iconst C dL_law_422 ?_
  refine l_iadd C dL_law_423 ?_
  refine l_sld C (by omega) (by omega) dL_law_424 ?_
  refine l_mI (dd := 10) (np := 1) (st := []) C hR (kU_take z.2.1 D cA am hJm τ hv.2 ((xs ((i : Int) + 1).toNat).toInt) (l_rng _) ) dL_law_425 gW_114 ⟨rfl, by decide +kernel, by decide +kernel, by decide +kernel⟩ (by decide) (by decide) rfl (by decide) rfl (fun r τ1 hu => ?_)
  refine l_istore C dL_law_428 (by decide) ?_
  show lj z D cA ad am a 7 Q (kc + 1) (ks + 6) σ1 τ1 v1 430 [some (.ref b), some (.ref (ad 0)), some (.ref (am 0)), some (.ref a), some (.int (fI (i : Int))), some (.int (fI k)), some (.int (fI r))] []
  refine l_goto (tgt := 702) C dL_law_430 (by decide) ?_
  exact kend _ _ _ _ _ _ _ (Nat.le_refl _) (Nat.le_refl _) (st_take hv  hy hu)
theorem l_case9 (C : lfc z D cA ad am a 7 b L xs cL_law RL) (hl0 : z.2.1.stackTraces = false) (hR : 10 ≤ z.2.2.2.1.frames ∧ 40 * 10 ≤ z.2.2.2.1.locals ∧ kc + 1 ≤ z.2.2.2.1.cells ∧ ks + 6 ≤ z.2.2.2.1.slots) (hiL : i + 4 ≤ L) (hL : L ≤ 2048) (hv : Jv σ τ) (kend : ∀ (kc' ks' : Nat) (σ τ : fS) (v : Int) (x5 x6 : Option Value), kc' ≤ kc + 1 → ks' ≤ ks + 6 → Jv σ τ → lj z D cA ad am a 7 Q kc' ks' σ τ v 702 [some (.ref b), some (.ref (ad 0)), some (.ref (am 0)), some (.ref a), some (.int (fI (i : Int))), x5, x6] []) : lj z D cA ad am a 7 Q kc ks σ τ v 433 [some (.ref b), some (.ref (ad 0)), some (.ref (am 0)), some (.ref a), some (.int (fI (i : Int))), o5, o6] [] := by
  have hJ := C.2.2.2.2.2.2.1
  have hJm := C.2.2.2.2.2.2.2.1
  have hoff := C.2.2.2.2.2.2.2.2.1
  have hR0 : 10 ≤ z.2.2.2.1.frames ∧ 40 * 10 ≤ z.2.2.2.1.locals ∧ kc ≤ z.2.2.2.1.cells ∧ ks ≤ z.2.2.2.1.slots := ⟨hR.1, hR.2.1, by omega, by omega⟩
  refine l_aload_n C dL_law_433 rfl rfl ?_
  refine l_aload_n C dL_law_434 rfl rfl ?_
  refine l_iload C dL_law_435 rfl ?_
  refine l_iconst C dL_law_437 ?_
  refine l_iadd C dL_law_438 ?_
  refine l_sld C (by omega) (by omega) dL_law_439 ?_
  refine l_aload_n C dL_law_440 rfl rfl ?_
  refine l_h (dd := 10) (mc := 1) (ms := 6) (np := 3) (st := []) C hR (kG_at z.2.1 D cA ad hJ hl0 a hoff v σ hv.1 ((xs ((i : Int) + 1).toNat).toInt) (l_rng _) ) dL_law_441 mL_at sL_at iL wL_at ⟨by decide +kernel, by decide +kernel, by decide +kernel⟩ (by decide) (by decide) rfl (by decide) rfl (fun k v1 σ1 hy => ?_)
  refine l_istore C dL_law_444 (by decide) ?_
  show lj z D cA ad am a 7 Q (kc + 1) (ks + 6) σ1 τ v1 446 [some (.ref b), some (.ref (ad 0)), some (.ref (am 0)), some (.ref a), some (.int (fI (i : Int))), some (.int (fI k)), o6] []
  refine l_aload_n C dL_law_446 rfl rfl ?_
  refine l_aload_n C dL_law_447 rfl rfl ?_
  refine l_iload C dL_law_448 rfl ?_
  refine l_iconst C dL_law_450 ?_
  refine l_iadd C dL_law_451 ?_
  refine l_sld C (by omega) (by omega) dL_law_452 ?_
  refine l_mI (dd := 10) (np := 1) (st := []) C hR (kU_at z.2.1 D cA am hJm τ hv.2 ((xs ((i : Int) + 1).toNat).toInt) (l_rng _) ) dL_law_453 gW_117 ⟨rfl, by decide +kernel, by decide +kernel, by decide +kernel⟩ (by decide) (by decide) rfl (by decide) rfl (fun r τ1 hu => ?_)
  refine l_istore C dL_law_456 (by decide) ?_
  show lj z D cA ad am a 7 Q (kc + 1) (ks + 6) σ1 τ1 v1 458 [some (.ref b), some (.ref (ad 0)), some (.ref (am 0)), some (.ref a), some (.int (fI (i : Int))), some (.int (fI k)), some (.int (fI r))] []
  refine l_goto (tgt := 702) C dL_law_458 (by decide) ?_
  exact kend _ _ _ _ _ _ _ (Nat.le_refl _) (Nat.le_refl _) (st_at hv  hy hu)
theorem l_case10 (C : lfc z D cA ad am a 7 b L xs cL_law RL) (hl0 : z.2.1.stackTraces = false) (hR : 10 ≤ z.2.2.2.1.frames ∧ 40 * 10 ≤ z.2.2.2.1.locals ∧ kc + 1 ≤ z.2.2.2.1.cells ∧ ks + 6 ≤ z.2.2.2.1.slots) (hiL : i + 4 ≤ L) (hL : L ≤ 2048) (hv : Jv σ τ) (kend : ∀ (kc' ks' : Nat) (σ τ : fS) (v : Int) (x5 x6 : Option Value), kc' ≤ kc + 1 → ks' ≤ ks + 6 → Jv σ τ → lj z D cA ad am a 7 Q kc' ks' σ τ v 702 [some (.ref b), some (.ref (ad 0)), some (.ref (am 0)), some (.ref a), some (.int (fI (i : Int))), x5, x6] []) : lj z D cA ad am a 7 Q kc ks σ τ v 461 [some (.ref b), some (.ref (ad 0)), some (.ref (am 0)), some (.ref a), some (.int (fI (i : Int))), o5, o6] [] := by
  have hJ := C.2.2.2.2.2.2.1
  have hJm := C.2.2.2.2.2.2.2.1
  have hoff := C.2.2.2.2.2.2.2.2.1
  have hR0 : 10 ≤ z.2.2.2.1.frames ∧ 40 * 10 ≤ z.2.2.2.1.locals ∧ kc ≤ z.2.2.2.1.cells ∧ ks ≤ z.2.2.2.1.slots := ⟨hR.1, hR.2.1, by omega, by omega⟩
  refine l_aload_n C dL_law_461 rfl rfl ?_
  refine l_aload_n C dL_law_462 rfl rfl ?_
  refine l_iload C dL_law_463 rfl ?_
  refine l_iconst C dL_law_465 ?_
  refine l_iadd C dL_law_466 ?_
  refine l_sld C (by omega) (by omega) dL_law_467 ?_
  refine l_aload_n C dL_law_468 rfl rfl ?_
  refine l_h (dd := 10) (mc := 1) (ms := 6) (np := 3) (st := []) C hR (kG_length z.2.1 D cA ad hJ hl0 a hoff v σ hv.1 ((xs ((i : Int) + 1).toNat).toInt) (l_rng _) ) dL_law_469 mL_length sL_length iL wL_length ⟨by decide +kernel, by decide +kernel, by decide +kernel⟩ (by decide) (by decide) rfl (by decide) rfl (fun k v1 σ1 hy => ?_)
  refine l_istore C dL_law_472 (by decide) ?_
  show lj z D cA ad am a 7 Q (kc + 1) (ks + 6) σ1 τ v1 474 [some (.ref b), some (.ref (ad 0)), some (.ref (am 0)), some (.ref a), some (.int (fI (i : Int))), some (.int (fI k)), o6] []
  refine l_aload_n C dL_law_474 rfl rfl ?_
  refine l_aload_n C dL_law_475 rfl rfl ?_
  refine l_iload C dL_law_476 rfl ?_
  refine l_iconst C dL_law_478 ?_
  refine l_iadd C dL_law_479 ?_
  refine l_sld C (by omega) (by omega) dL_law_480 ?_
  refine l_mI (dd := 10) (np := 1) (st := []) C hR (kU_length z.2.1 D cA am hJm τ hv.2 ((xs ((i : Int) + 1).toNat).toInt) (l_rng _) ) dL_law_481 gW_120 ⟨rfl, by decide +kernel, by decide +kernel, by decide +kernel⟩ (by decide) (by decide) rfl (by decide) rfl (fun r τ1 hu => ?_)
  refine l_istore C dL_law_484 (by decide) ?_
  show lj z D cA ad am a 7 Q (kc + 1) (ks + 6) σ1 τ1 v1 486 [some (.ref b), some (.ref (ad 0)), some (.ref (am 0)), some (.ref a), some (.int (fI (i : Int))), some (.int (fI k)), some (.int (fI r))] []
  refine l_goto (tgt := 702) C dL_law_486 (by decide) ?_
  exact kend _ _ _ _ _ _ _ (Nat.le_refl _) (Nat.le_refl _) (st_length hv  hy hu)
theorem l_case11 (C : lfc z D cA ad am a 7 b L xs cL_law RL) (hl0 : z.2.1.stackTraces = false) (hR : 10 ≤ z.2.2.2.1.frames ∧ 40 * 10 ≤ z.2.2.2.1.locals ∧ kc + 1 ≤ z.2.2.2.1.cells ∧ ks + 6 ≤ z.2.2.2.1.slots) (hiL : i + 4 ≤ L) (hL : L ≤ 2048) (hv : Jv σ τ) (kend : ∀ (kc' ks' : Nat) (σ τ : fS) (v : Int) (x5 x6 : Option Value), kc' ≤ kc + 1 → ks' ≤ ks + 6 → Jv σ τ → lj z D cA ad am a 7 Q kc' ks' σ τ v 702 [some (.ref b), some (.ref (ad 0)), some (.ref (am 0)), some (.ref a), some (.int (fI (i : Int))), x5, x6] []) : lj z D cA ad am a 7 Q kc ks σ τ v 489 [some (.ref b), some (.ref (ad 0)), some (.ref (am 0)), some (.ref a), some (.int (fI (i : Int))), o5, o6] [] := by
  have hJ := C.2.2.2.2.2.2.1
  have hJm := C.2.2.2.2.2.2.2.1
  have hoff := C.2.2.2.2.2.2.2.2.1
  have hR0 : 10 ≤ z.2.2.2.1.frames ∧ 40 * 10 ≤ z.2.2.2.1.locals ∧ kc ≤ z.2.2.2.1.cells ∧ ks ≤ z.2.2.2.1.slots := ⟨hR.1, hR.2.1, by omega, by omega⟩
  refine l_aload_n C dL_law_489 rfl rfl ?_
  refine l_aload_n C dL_law_490 rfl rfl ?_
  refine l_iload C dL_law_491 rfl ?_
  refine l_iconst C dL_law_493 ?_
  refine l_iadd C dL_law_494 ?_
  refine l_sld C (by omega) (by omega) dL_law_495 ?_
  refine l_aload_n C dL_law_496 rfl rfl ?_
  refine l_iload C dL_law_497 rfl ?_
  refine l_iconst C dL_law_499 ?_
  refine l_iadd C dL_law_500 ?_
  refine l_sld C (by omega) (by omega) dL_law_501 ?_
  refine l_aload_n C dL_law_502 rfl rfl ?_
  refine l_h (dd := 10) (mc := 1) (ms := 6) (np := 4) (st := []) C hR (kG_byteOf z.2.1 D cA ad hJ hl0 a hoff v σ hv.1 ((xs ((i : Int) + 1).toNat).toInt) ((xs ((i : Int) + 2).toNat).toInt) (l_rng _) (l_rng _) ) dL_law_503 mL_byteOf sL_byteOf iL wL_byteOf ⟨by decide +kernel, by decide +kernel, by decide +kernel⟩ (by decide) (by decide) rfl (by decide) rfl (fun k v1 σ1 hy => ?_)
  refine l_istore C dL_law_506 (by decide) ?_
  show lj z D cA ad am a 7 Q (kc + 1) (ks + 6) σ1 τ v1 508 [some (.ref b), some (.ref (ad 0)), some (.ref (am 0)), some (.ref a), some (.int (fI (i : Int))), some (.int (fI k)), o6] []
  refine l_aload_n C dL_law_508 rfl rfl ?_
  refine l_aload_n C dL_law_509 rfl rfl ?_
  refine l_iload C dL_law_510 rfl ?_
  refine l_iconst C dL_law_512 ?_
  refine l_iadd C dL_law_513 ?_
  refine l_sld C (by omega) (by omega) dL_law_514 ?_
  refine l_aload_n C dL_law_515 rfl rfl ?_
  refine l_iload C dL_law_516 rfl ?_
  refine l_iconst C dL_law_518 ?_
  refine l_iadd C dL_law_519 ?_
  refine l_sld C (by omega) (by omega) dL_law_520 ?_
  refine l_mI (dd := 10) (np := 2) (st := []) C hR (kU_byteOf z.2.1 D cA am hJm τ hv.2 ((xs ((i : Int) + 1).toNat).toInt) ((xs ((i : Int) + 2).toNat).toInt) (l_rng _) (l_rng _) ) dL_law_521 gW_124 ⟨rfl, by decide +kernel, by decide +kernel, by decide +kernel⟩ (by decide) (by decide) rfl (by decide) rfl (fun r τ1 hu => ?_)
  refine l_istore C dL_law_524 (by decide) ?_
  show lj z D cA ad am a 7 Q (kc + 1) (ks + 6) σ1 τ1 v1 526 [some (.ref b), some (.ref (ad 0)), some (.ref (am 0)), some (.ref a), some (.int (fI (i : Int))), some (.int (fI k)), some (.int (fI r))] []
  refine l_goto (tgt := 702) C dL_law_526 (by decide) ?_
  exact kend _ _ _ _ _ _ _ (Nat.le_refl _) (Nat.le_refl _) (st_byteOf hv  hy hu)
theorem l_case12 (C : lfc z D cA ad am a 7 b L xs cL_law RL) (hl0 : z.2.1.stackTraces = false) (hR : 10 ≤ z.2.2.2.1.frames ∧ 40 * 10 ≤ z.2.2.2.1.locals ∧ kc + 1 ≤ z.2.2.2.1.cells ∧ ks + 6 ≤ z.2.2.2.1.slots) (hiL : i + 4 ≤ L) (hL : L ≤ 2048) (hv : Jv σ τ) (kend : ∀ (kc' ks' : Nat) (σ τ : fS) (v : Int) (x5 x6 : Option Value), kc' ≤ kc + 1 → ks' ≤ ks + 6 → Jv σ τ → lj z D cA ad am a 7 Q kc' ks' σ τ v 702 [some (.ref b), some (.ref (ad 0)), some (.ref (am 0)), some (.ref a), some (.int (fI (i : Int))), x5, x6] []) : lj z D cA ad am a 7 Q kc ks σ τ v 529 [some (.ref b), some (.ref (ad 0)), some (.ref (am 0)), some (.ref a), some (.int (fI (i : Int))), o5, o6] [] := by
  have hJ := C.2.2.2.2.2.2.1
  have hJm := C.2.2.2.2.2.2.2.1
  have hoff := C.2.2.2.2.2.2.2.2.1
  have hR0 : 10 ≤ z.2.2.2.1.frames ∧ 40 * 10 ≤ z.2.2.2.1.locals ∧ kc ≤ z.2.2.2.1.cells ∧ ks ≤ z.2.2.2.1.slots := ⟨hR.1, hR.2.1, by omega, by omega⟩
  refine l_aload_n C dL_law_529 rfl rfl ?_
  refine l_aload_n C dL_law_530 rfl rfl ?_
  refine l_iload C dL_law_531 rfl ?_
  refine l_iconst C dL_law_533 ?_
  refine l_iadd C dL_law_534 ?_
  refine l_sld C (by omega) (by omega) dL_law_535 ?_
  refine l_aload_n C dL_law_536 rfl rfl ?_
  refine l_h (dd := 10) (mc := 1) (ms := 6) (np := 3) (st := []) C hR (kG_size z.2.1 D cA ad hJ hl0 a hoff v σ hv.1 ((xs ((i : Int) + 1).toNat).toInt) (l_rng _) ) dL_law_537 mL_size sL_size iL wL_size ⟨by decide +kernel, by decide +kernel, by decide +kernel⟩ (by decide) (by decide) rfl (by decide) rfl (fun k v1 σ1 hy => ?_)
  refine l_istore C dL_law_540 (by decide) ?_
  show lj z D cA ad am a 7 Q (kc + 1) (ks + 6) σ1 τ v1 542 [some (.ref b), some (.ref (ad 0)), some (.ref (am 0)), some (.ref a), some (.int (fI (i : Int))), some (.int (fI k)), o6] []
  refine l_aload_n C dL_law_542 rfl rfl ?_
  refine l_aload_n C dL_law_543 rfl rfl ?_
  refine l_iload C dL_law_544 rfl ?_
  refine l_iconst C dL_law_546 ?_
  refine l_iadd C dL_law_547 ?_
  refine l_sld C (by omega) (by omega) dL_law_548 ?_
  refine l_mI (dd := 10) (np := 1) (st := []) C hR (kU_size z.2.1 D cA am hJm τ hv.2 ((xs ((i : Int) + 1).toNat).toInt) (l_rng _) ) dL_law_549 gW_127 ⟨rfl, by decide +kernel, by decide +kernel, by decide +kernel⟩ (by decide) (by decide) rfl (by decide) rfl (fun r τ1 hu => ?_)
  refine l_istore C dL_law_552 (by decide) ?_
  show lj z D cA ad am a 7 Q (kc + 1) (ks + 6) σ1 τ1 v1 554 [some (.ref b), some (.ref (ad 0)), some (.ref (am 0)), some (.ref a), some (.int (fI (i : Int))), some (.int (fI k)), some (.int (fI r))] []
  refine l_goto (tgt := 702) C dL_law_554 (by decide) ?_
  exact kend _ _ _ _ _ _ _ (Nat.le_refl _) (Nat.le_refl _) (st_size hv  hy hu)
theorem l_case13 (C : lfc z D cA ad am a 7 b L xs cL_law RL) (hl0 : z.2.1.stackTraces = false) (hR : 10 ≤ z.2.2.2.1.frames ∧ 40 * 10 ≤ z.2.2.2.1.locals ∧ kc + 1 ≤ z.2.2.2.1.cells ∧ ks + 6 ≤ z.2.2.2.1.slots) (hiL : i + 4 ≤ L) (hL : L ≤ 2048) (hv : Jv σ τ) (kend : ∀ (kc' ks' : Nat) (σ τ : fS) (v : Int) (x5 x6 : Option Value), kc' ≤ kc + 1 → ks' ≤ ks + 6 → Jv σ τ → lj z D cA ad am a 7 Q kc' ks' σ τ v 702 [some (.ref b), some (.ref (ad 0)), some (.ref (am 0)), some (.ref a), some (.int (fI (i : Int))), x5, x6] []) : lj z D cA ad am a 7 Q kc ks σ τ v 557 [some (.ref b), some (.ref (ad 0)), some (.ref (am 0)), some (.ref a), some (.int (fI (i : Int))), o5, o6] [] := by
  have hJ := C.2.2.2.2.2.2.1
  have hJm := C.2.2.2.2.2.2.2.1
  have hoff := C.2.2.2.2.2.2.2.2.1
  have hR0 : 10 ≤ z.2.2.2.1.frames ∧ 40 * 10 ≤ z.2.2.2.1.locals ∧ kc ≤ z.2.2.2.1.cells ∧ ks ≤ z.2.2.2.1.slots := ⟨hR.1, hR.2.1, by omega, by omega⟩
  refine l_aload_n C dL_law_557 rfl rfl ?_
  refine l_aload_n C dL_law_558 rfl rfl ?_
  refine l_iload C dL_law_559 rfl ?_
  refine l_iconst C dL_law_561 ?_
  refine l_iadd C dL_law_562 ?_
  refine l_sld C (by omega) (by omega) dL_law_563 ?_
  refine l_aload_n C dL_law_564 rfl rfl ?_
  refine l_iload C dL_law_565 rfl ?_
  refine l_iconst C dL_law_567 ?_
  refine l_iadd C dL_law_568 ?_
  refine l_sld C (by omega) (by omega) dL_law_569 ?_
  refine l_aload_n C dL_law_570 rfl rfl ?_
  refine l_h (dd := 10) (mc := 1) (ms := 6) (np := 4) (st := []) C hR (kG_place z.2.1 D cA ad hJ hl0 a hoff v σ hv.1 ((xs ((i : Int) + 1).toNat).toInt) ((xs ((i : Int) + 2).toNat).toInt) (l_rng _) (l_rng _) ) dL_law_571 mL_place sL_place iL wL_place ⟨by decide +kernel, by decide +kernel, by decide +kernel⟩ (by decide) (by decide) rfl (by decide) rfl (fun k v1 σ1 hy => ?_)
  refine l_istore C dL_law_574 (by decide) ?_
  show lj z D cA ad am a 7 Q (kc + 1) (ks + 6) σ1 τ v1 576 [some (.ref b), some (.ref (ad 0)), some (.ref (am 0)), some (.ref a), some (.int (fI (i : Int))), some (.int (fI k)), o6] []
  refine l_aload_n C dL_law_576 rfl rfl ?_
  refine l_aload_n C dL_law_577 rfl rfl ?_
  refine l_iload C dL_law_578 rfl ?_
  refine l_iconst C dL_law_580 ?_
  refine l_iadd C dL_law_581 ?_
  refine l_sld C (by omega) (by omega) dL_law_582 ?_
  refine l_aload_n C dL_law_583 rfl rfl ?_
  refine l_iload C dL_law_584 rfl ?_
  refine l_iconst C dL_law_586 ?_
  refine l_iadd C dL_law_587 ?_
  refine l_sld C (by omega) (by omega) dL_law_588 ?_
  refine l_mI (dd := 10) (np := 2) (st := []) C hR (kU_place z.2.1 D cA am hJm τ hv.2 ((xs ((i : Int) + 1).toNat).toInt) ((xs ((i : Int) + 2).toNat).toInt) (l_rng _) (l_rng _) ) dL_law_589 gW_130 ⟨rfl, by decide +kernel, by decide +kernel, by decide +kernel⟩ (by decide) (by decide) rfl (by decide) rfl (fun r τ1 hu => ?_)
  refine l_istore C dL_law_592 (by decide) ?_
  show lj z D cA ad am a 7 Q (kc + 1) (ks + 6) σ1 τ1 v1 594 [some (.ref b), some (.ref (ad 0)), some (.ref (am 0)), some (.ref a), some (.int (fI (i : Int))), some (.int (fI k)), some (.int (fI r))] []
  refine l_goto (tgt := 702) C dL_law_594 (by decide) ?_
  exact kend _ _ _ _ _ _ _ (Nat.le_refl _) (Nat.le_refl _) (st_place hv  hy hu)
theorem l_case14 (C : lfc z D cA ad am a 7 b L xs cL_law RL) (hl0 : z.2.1.stackTraces = false) (hR : 10 ≤ z.2.2.2.1.frames ∧ 40 * 10 ≤ z.2.2.2.1.locals ∧ kc + 1 ≤ z.2.2.2.1.cells ∧ ks + 6 ≤ z.2.2.2.1.slots) (hiL : i + 4 ≤ L) (hL : L ≤ 2048) (hv : Jv σ τ) (kend : ∀ (kc' ks' : Nat) (σ τ : fS) (v : Int) (x5 x6 : Option Value), kc' ≤ kc + 1 → ks' ≤ ks + 6 → Jv σ τ → lj z D cA ad am a 7 Q kc' ks' σ τ v 702 [some (.ref b), some (.ref (ad 0)), some (.ref (am 0)), some (.ref a), some (.int (fI (i : Int))), x5, x6] []) : lj z D cA ad am a 7 Q kc ks σ τ v 597 [some (.ref b), some (.ref (ad 0)), some (.ref (am 0)), some (.ref a), some (.int (fI (i : Int))), o5, o6] [] := by
  have hJ := C.2.2.2.2.2.2.1
  have hJm := C.2.2.2.2.2.2.2.1
  have hoff := C.2.2.2.2.2.2.2.2.1
  have hR0 : 10 ≤ z.2.2.2.1.frames ∧ 40 * 10 ≤ z.2.2.2.1.locals ∧ kc ≤ z.2.2.2.1.cells ∧ ks ≤ z.2.2.2.1.slots := ⟨hR.1, hR.2.1, by omega, by omega⟩
  refine l_aload_n C dL_law_597 rfl rfl ?_
  refine l_aload_n C dL_law_598 rfl rfl ?_
  refine l_iload C dL_law_599 rfl ?_
  refine l_iconst C dL_law_601 ?_
  refine l_iadd C dL_law_602 ?_
  refine l_sld C (by omega) (by omega) dL_law_603 ?_
  refine l_aload_n C dL_law_604 rfl rfl ?_
  refine l_iload C dL_law_605 rfl ?_
  refine l_iconst C dL_law_607 ?_
  refine l_iadd C dL_law_608 ?_
  refine l_sld C (by omega) (by omega) dL_law_609 ?_
  refine l_aload_n C dL_law_610 rfl rfl ?_
  refine l_h (dd := 10) (mc := 1) (ms := 6) (np := 4) (st := []) C hR (kG_differ z.2.1 D cA ad hJ hl0 a hoff v σ hv.1 ((xs ((i : Int) + 1).toNat).toInt) ((xs ((i : Int) + 2).toNat).toInt) (l_rng _) (l_rng _) ) dL_law_611 mL_differ sL_differ iL wL_differ ⟨by decide +kernel, by decide +kernel, by decide +kernel⟩ (by decide) (by decide) rfl (by decide) rfl (fun k v1 σ1 hy => ?_)
  refine l_istore C dL_law_614 (by decide) ?_
  show lj z D cA ad am a 7 Q (kc + 1) (ks + 6) σ1 τ v1 616 [some (.ref b), some (.ref (ad 0)), some (.ref (am 0)), some (.ref a), some (.int (fI (i : Int))), some (.int (fI k)), o6] []
  refine l_aload_n C dL_law_616 rfl rfl ?_
  refine l_aload_n C dL_law_617 rfl rfl ?_
  refine l_iload C dL_law_618 rfl ?_
  refine l_iconst C dL_law_620 ?_
  refine l_iadd C dL_law_621 ?_
  refine l_sld C (by omega) (by omega) dL_law_622 ?_
  refine l_aload_n C dL_law_623 rfl rfl ?_
  refine l_iload C dL_law_624 rfl ?_
  refine l_iconst C dL_law_626 ?_
  refine l_iadd C dL_law_627 ?_
  refine l_sld C (by omega) (by omega) dL_law_628 ?_
  refine l_mI (dd := 10) (np := 2) (st := []) C hR (kU_differ z.2.1 D cA am hJm τ hv.2 ((xs ((i : Int) + 1).toNat).toInt) ((xs ((i : Int) + 2).toNat).toInt) (l_rng _) (l_rng _) ) dL_law_629 gW_133 ⟨rfl, by decide +kernel, by decide +kernel, by decide +kernel⟩ (by decide) (by decide) rfl (by decide) rfl (fun r τ1 hu => ?_)
  refine l_istore C dL_law_632 (by decide) ?_
  show lj z D cA ad am a 7 Q (kc + 1) (ks + 6) σ1 τ1 v1 634 [some (.ref b), some (.ref (ad 0)), some (.ref (am 0)), some (.ref a), some (.int (fI (i : Int))), some (.int (fI k)), some (.int (fI r))] []
  refine l_goto (tgt := 702) C dL_law_634 (by decide) ?_
  exact kend _ _ _ _ _ _ _ (Nat.le_refl _) (Nat.le_refl _) (st_differ hv  hy hu)
theorem l_case15 (C : lfc z D cA ad am a 7 b L xs cL_law RL) (hl0 : z.2.1.stackTraces = false) (hR : 10 ≤ z.2.2.2.1.frames ∧ 40 * 10 ≤ z.2.2.2.1.locals ∧ kc + 1 ≤ z.2.2.2.1.cells ∧ ks + 6 ≤ z.2.2.2.1.slots) (hiL : i + 4 ≤ L) (hL : L ≤ 2048) (hv : Jv σ τ) (kend : ∀ (kc' ks' : Nat) (σ τ : fS) (v : Int) (x5 x6 : Option Value), kc' ≤ kc + 1 → ks' ≤ ks + 6 → Jv σ τ → lj z D cA ad am a 7 Q kc' ks' σ τ v 702 [some (.ref b), some (.ref (ad 0)), some (.ref (am 0)), some (.ref a), some (.int (fI (i : Int))), x5, x6] []) : lj z D cA ad am a 7 Q kc ks σ τ v 637 [some (.ref b), some (.ref (ad 0)), some (.ref (am 0)), some (.ref a), some (.int (fI (i : Int))), o5, o6] [] := by
  have hJ := C.2.2.2.2.2.2.1
  have hJm := C.2.2.2.2.2.2.2.1
  have hoff := C.2.2.2.2.2.2.2.2.1
  have hR0 : 10 ≤ z.2.2.2.1.frames ∧ 40 * 10 ≤ z.2.2.2.1.locals ∧ kc ≤ z.2.2.2.1.cells ∧ ks ≤ z.2.2.2.1.slots := ⟨hR.1, hR.2.1, by omega, by omega⟩
  refine l_aload_n C dL_law_637 rfl rfl ?_
  refine l_aload_n C dL_law_638 rfl rfl ?_
  refine l_iload C dL_law_639 rfl ?_
  refine l_iconst C dL_law_641 ?_
  refine l_iadd C dL_law_642 ?_
  refine l_sld C (by omega) (by omega) dL_law_643 ?_
  refine l_aload_n C dL_law_644 rfl rfl ?_
  refine l_iload C dL_law_645 rfl ?_
  refine l_iconst C dL_law_647 ?_
  refine l_iadd C dL_law_648 ?_
  refine l_sld C (by omega) (by omega) dL_law_649 ?_
  refine l_aload_n C dL_law_650 rfl rfl ?_
  refine l_h (dd := 10) (mc := 1) (ms := 6) (np := 4) (st := []) C hR (kG_row z.2.1 D cA ad hJ hl0 a hoff v σ hv.1 ((xs ((i : Int) + 1).toNat).toInt) ((xs ((i : Int) + 2).toNat).toInt) (l_rng _) (l_rng _) ) dL_law_651 mL_row sL_row iL wL_row ⟨by decide +kernel, by decide +kernel, by decide +kernel⟩ (by decide) (by decide) rfl (by decide) rfl (fun k v1 σ1 hy => ?_)
  refine l_istore C dL_law_654 (by decide) ?_
  show lj z D cA ad am a 7 Q (kc + 1) (ks + 6) σ1 τ v1 656 [some (.ref b), some (.ref (ad 0)), some (.ref (am 0)), some (.ref a), some (.int (fI (i : Int))), some (.int (fI k)), o6] []
  refine l_aload_n C dL_law_656 rfl rfl ?_
  refine l_aload_n C dL_law_657 rfl rfl ?_
  refine l_iload C dL_law_658 rfl ?_
  refine l_iconst C dL_law_660 ?_
  refine l_iadd C dL_law_661 ?_
  refine l_sld C (by omega) (by omega) dL_law_662 ?_
  refine l_aload_n C dL_law_663 rfl rfl ?_
  refine l_iload C dL_law_664 rfl ?_
  refine l_iconst C dL_law_666 ?_
  refine l_iadd C dL_law_667 ?_
  refine l_sld C (by omega) (by omega) dL_law_668 ?_
  refine l_mI (dd := 10) (np := 2) (st := []) C hR (kU_row z.2.1 D cA am hJm τ hv.2 ((xs ((i : Int) + 1).toNat).toInt) ((xs ((i : Int) + 2).toNat).toInt) (l_rng _) (l_rng _) ) dL_law_669 gW_136 ⟨rfl, by decide +kernel, by decide +kernel, by decide +kernel⟩ (by decide) (by decide) rfl (by decide) rfl (fun r τ1 hu => ?_)
  refine l_istore C dL_law_672 (by decide) ?_
  show lj z D cA ad am a 7 Q (kc + 1) (ks + 6) σ1 τ1 v1 674 [some (.ref b), some (.ref (ad 0)), some (.ref (am 0)), some (.ref a), some (.int (fI (i : Int))), some (.int (fI k)), some (.int (fI r))] []
  refine l_goto (tgt := 702) C dL_law_674 (by decide) ?_
  exact kend _ _ _ _ _ _ _ (Nat.le_refl _) (Nat.le_refl _) (st_row hv  hy hu)
theorem l_case6 (C : lfc z D cA ad am a 7 b L xs cL_law RL) (hl0 : z.2.1.stackTraces = false) (hR : 10 ≤ z.2.2.2.1.frames ∧ 40 * 10 ≤ z.2.2.2.1.locals ∧ kc + 1 ≤ z.2.2.2.1.cells ∧ ks + 6 ≤ z.2.2.2.1.slots) (hiL : i + 4 ≤ L) (hL : L ≤ 2048) (hv : Jv σ τ) (kend : ∀ (kc' ks' : Nat) (σ τ : fS) (v : Int) (x5 x6 : Option Value), kc' ≤ kc + 1 → ks' ≤ ks + 6 → Jv σ τ → lj z D cA ad am a 7 Q kc' ks' σ τ v 702 [some (.ref b), some (.ref (ad 0)), some (.ref (am 0)), some (.ref a), some (.int (fI (i : Int))), x5, x6] []) : lj z D cA ad am a 7 Q kc ks σ τ v 350 [some (.ref b), some (.ref (ad 0)), some (.ref (am 0)), some (.ref a), some (.int (fI (i : Int))), o5, o6] [] := by
  have hJ := C.2.2.2.2.2.2.1
  have hJm := C.2.2.2.2.2.2.2.1
  have hoff := C.2.2.2.2.2.2.2.2.1
  have hR0 : 10 ≤ z.2.2.2.1.frames ∧ 40 * 10 ≤ z.2.2.2.1.locals ∧ kc ≤ z.2.2.2.1.cells ∧ ks ≤ z.2.2.2.1.slots := ⟨hR.1, hR.2.1, by omega, by omega⟩
  refine l_aload_n C dL_law_350 rfl rfl ?_
  refine l_xI (dd := 10) (np := 0) (st := []) C hR0 (kX_XA_read z.2.1 D cA ad hJ σ (σ.2 9) (σ.1 8 1) rfl rfl (hv.1.1 8 1) (fun q => hv.1.2 9 q) hv.1) dL_law_351 gW_104 ⟨rfl, by decide +kernel, by decide +kernel, by decide +kernel⟩ (by decide) (by decide) rfl (by decide) rfl (fun v1 σ1 hy => ?_)
  refine l_pop C dL_law_354 rfl ?_
  refine l_aload_n C dL_law_355 rfl rfl ?_
  refine l_mI (dd := 10) (np := 0) (st := []) C hR0 (kU_read z.2.1 D cA am hJm τ hv.2) dL_law_356 gW_107 ⟨rfl, by decide +kernel, by decide +kernel, by decide +kernel⟩ (by decide) (by decide) rfl (Nat.le_of_ble_eq_true rfl) rfl (fun r τ1 hu => ?_)
  refine l_pop C dL_law_359 rfl ?_
  refine l_goto (tgt := 702) C dL_law_360 (by decide) ?_
  exact kend _ _ _ _ _ _ _ (Nat.le_succ _) (Nat.le_add_right _ _) (st_read hv hy hu)
theorem l_case16 (C : lfc z D cA ad am a 7 b L xs cL_law RL) (hl0 : z.2.1.stackTraces = false) (hR : 10 ≤ z.2.2.2.1.frames ∧ 40 * 10 ≤ z.2.2.2.1.locals ∧ kc + 1 ≤ z.2.2.2.1.cells ∧ ks + 6 ≤ z.2.2.2.1.slots) (hiL : i + 4 ≤ L) (hL : L ≤ 2048) (hv : Jv σ τ) (kend : ∀ (kc' ks' : Nat) (σ τ : fS) (v : Int) (x5 x6 : Option Value), kc' ≤ kc + 1 → ks' ≤ ks + 6 → Jv σ τ → lj z D cA ad am a 7 Q kc' ks' σ τ v 702 [some (.ref b), some (.ref (ad 0)), some (.ref (am 0)), some (.ref a), some (.int (fI (i : Int))), x5, x6] []) : lj z D cA ad am a 7 Q kc ks σ τ v 677 [some (.ref b), some (.ref (ad 0)), some (.ref (am 0)), some (.ref a), some (.int (fI (i : Int))), o5, o6] [] := by
  have hJ := C.2.2.2.2.2.2.1
  have hJm := C.2.2.2.2.2.2.2.1
  have hoff := C.2.2.2.2.2.2.2.2.1
  have hR0 : 10 ≤ z.2.2.2.1.frames ∧ 40 * 10 ≤ z.2.2.2.1.locals ∧ kc ≤ z.2.2.2.1.cells ∧ ks ≤ z.2.2.2.1.slots := ⟨hR.1, hR.2.1, by omega, by omega⟩
  refine l_aload_n C dL_law_677 rfl rfl ?_
  refine l_aload_n C dL_law_678 rfl rfl ?_
  refine l_iload C dL_law_679 rfl ?_
  refine l_iconst C dL_law_681 ?_
  refine l_iadd C dL_law_682 ?_
  refine l_sld C (by omega) (by omega) dL_law_683 ?_
  refine l_xI (dd := 10) (np := 1) (st := []) C hR0 (kX_XA_told z.2.1 D cA ad hJ σ (xs ((i : Int) + 1).toNat).toInt (l_rng _) (fun q => hv.1.2 2 q) (fun q => hv.1.2 6 q) (fun q => hv.1.2 7 q) (hv.1.1 8 2)) dL_law_684 gW_137 ⟨rfl, by decide +kernel, by decide +kernel, by decide +kernel⟩ (by decide) (by decide) rfl (by decide) rfl (fun v1 σ1 hy => ?_)
  refine l_pop C dL_law_687 rfl ?_
  obtain ⟨hy, hs1⟩ := hy
  subst σ1
  refine l_aload_n C dL_law_688 rfl rfl ?_
  refine l_aload_n C dL_law_689 rfl rfl ?_
  refine l_iload C dL_law_690 rfl ?_
  refine l_iconst C dL_law_692 ?_
  refine l_iadd C dL_law_693 ?_
  refine l_sld C (by omega) (by omega) dL_law_694 ?_
  refine l_mI (dd := 10) (np := 1) (st := []) C hR0 (kU_told z.2.1 D cA am hJm τ hv.2 (xs ((i : Int) + 1).toNat).toInt (l_rng _)) dL_law_695 gW_140 ⟨rfl, by decide +kernel, by decide +kernel, by decide +kernel⟩ (by decide) (by decide) rfl (Nat.le_of_ble_eq_true rfl) rfl (fun r τ1 hu => ?_)
  refine l_pop C dL_law_698 rfl ?_
  refine l_goto (tgt := 702) C dL_law_699 (by decide) ?_
  exact kend _ _ _ _ _ _ _ (Nat.le_succ _) (Nat.le_add_right _ _) (st_told hv hu)
theorem l_loop (C : lfc z D cA ad am a 7 b L xs cL_law RL) (hL : L ≤ 2048) (hl0 : z.2.1.stackTraces = false) {KC KS : Nat} (hF : 10 ≤ z.2.2.2.1.frames ∧ 40 * 10 ≤ z.2.2.2.1.locals ∧ KC ≤ z.2.2.2.1.cells ∧ KS ≤ z.2.2.2.1.slots) (kret : ∀ (kc' ks' : Nat) (σ τ : fS) (v : Int) (lv : List (Option Value)), kc' ≤ KC → ks' ≤ KS → lj z D cA ad am a 7 Q kc' ks' σ τ v 709 lv [.int (fI 1)]) : ∀ (m i kc ks : Nat) (σ τ : fS) (v : Int) (o5 o6 : Option Value), L ≤ i + 4 * m + 3 → i ≤ L → kc + m ≤ KC → ks + 6 * m ≤ KS → Jv σ τ → lj z D cA ad am a 7 Q kc ks σ τ v 23 [some (.ref b), some (.ref (ad 0)), some (.ref (am 0)), some (.ref a), some (.int (fI (i : Int))), o5, o6] [] := by
  intro m
  induction m with
  | zero =>
    intro i kc ks σ τ v o5 o6 h1 h2 h3 h4 hv
    refine l_iload C dL_law_23 rfl ?_
    refine l_aload_n C dL_law_25 rfl rfl ?_
    refine l_slen C dL_law_26 ?_
    refine l_iconst C dL_law_27 ?_
    refine l_isub C dL_law_28 ?_
    refine l_icmp_gt (tgt := 708) C dL_law_29 (by decide) (by omega) (by omega) (fun _ => ?_) (fun h => absurd (show (L : Int) - 4 < (i : Int) by omega) h)
    refine l_iconst C dL_law_708 ?_
    exact kret _ _ _ _ _ _ (by omega) (by omega)
  | succ m ih =>
    intro i kc ks σ τ v o5 o6 h1 h2 h3 h4 hv
    refine l_iload C dL_law_23 rfl ?_
    refine l_aload_n C dL_law_25 rfl rfl ?_
    refine l_slen C dL_law_26 ?_
    refine l_iconst C dL_law_27 ?_
    refine l_isub C dL_law_28 ?_
    refine l_icmp_gt (tgt := 708) C dL_law_29 (by decide) (by omega) (by omega) (fun _ => ?_) (fun h => ?_)
    · refine l_iconst C dL_law_708 ?_
      exact kret _ _ _ _ _ _ (by omega) (by omega)
    have hiL : i + 4 ≤ L := by omega
    have hR : 10 ≤ z.2.2.2.1.frames ∧ 40 * 10 ≤ z.2.2.2.1.locals ∧ kc + 1 ≤ z.2.2.2.1.cells ∧ ks + 6 ≤ z.2.2.2.1.slots := ⟨hF.1, hF.2.1, by omega, by omega⟩
    have kend : ∀ (kc' ks' : Nat) (σ τ : fS) (v : Int) (x5 x6 : Option Value), kc' ≤ kc + 1 → ks' ≤ ks + 6 → Jv σ τ → lj z D cA ad am a 7 Q kc' ks' σ τ v 702 [some (.ref b), some (.ref (ad 0)), some (.ref (am 0)), some (.ref a), some (.int (fI (i : Int))), x5, x6] [] := by
      intro kc' ks' σ τ v x5 x6 g1 g2 g3
      refine l_iinc C dL_law_702 rfl (by decide) ?_
      have e : ((i : Int) + 4) = ((i + 4 : Nat) : Int) := by omega
      show lj z D cA ad am a 7 Q kc' ks' σ τ v 705 [some (.ref b), some (.ref (ad 0)), some (.ref (am 0)), some (.ref a), some (.int (fI ((i : Int) + 4))), x5, x6] []
      rw [e]
      refine l_goto (tgt := 23) C dL_law_705 (by decide) ?_
      exact ih (i + 4) kc' ks' σ τ v x5 x6 (by omega) (by omega) (by omega) (by omega) g3
    refine l_aload_n C dL_law_32 rfl rfl ?_
    refine l_iload C dL_law_33 rfl ?_
    refine l_sld C (by omega) (by omega) dL_law_35 ?_
    refine l_bipush C dL_law_36 (by decide) ?_
    refine l_and C dL_law_38 (fun j hj => ?_)
    by_cases h17 : j < 17
    · obtain rfl | rfl | rfl | rfl | rfl | rfl | rfl | rfl | rfl | rfl | rfl | rfl | rfl | rfl | rfl | rfl | rfl : j = 0 ∨ j = 1 ∨ j = 2 ∨ j = 3 ∨ j = 4 ∨ j = 5 ∨ j = 6 ∨ j = 7 ∨ j = 8 ∨ j = 9 ∨ j = 10 ∨ j = 11 ∨ j = 12 ∨ j = 13 ∨ j = 14 ∨ j = 15 ∨ j = 16 := by omega
      · refine l_tIn (tgt := 120) C dL_law_39 (by decide) (by decide) (by decide) rfl (by decide) ?_
        exact l_case0 C hl0 hR hiL hL hv kend
      · refine l_tIn (tgt := 168) C dL_law_39 (by decide) (by decide) (by decide) rfl (by decide) ?_
        exact l_case1 C hl0 hR hiL hL hv kend
      · refine l_tIn (tgt := 222) C dL_law_39 (by decide) (by decide) (by decide) rfl (by decide) ?_
        exact l_case2 C hl0 hR hiL hL hv kend
      · refine l_tIn (tgt := 250) C dL_law_39 (by decide) (by decide) (by decide) rfl (by decide) ?_
        exact l_case3 C hl0 hR hiL hL hv kend
      · refine l_tIn (tgt := 306) C dL_law_39 (by decide) (by decide) (by decide) rfl (by decide) ?_
        exact l_case4 C hl0 hR hiL hL hv kend
      · refine l_tIn (tgt := 334) C dL_law_39 (by decide) (by decide) (by decide) rfl (by decide) ?_
        exact l_case5 C hl0 hR hiL hL hv kend
      · refine l_tIn (tgt := 350) C dL_law_39 (by decide) (by decide) (by decide) rfl (by decide) ?_
        exact l_case6 C hl0 hR hiL hL hv kend
      · refine l_tIn (tgt := 363) C dL_law_39 (by decide) (by decide) (by decide) rfl (by decide) ?_
        exact l_case7 C hl0 hR hiL hL hv kend
      · refine l_tIn (tgt := 405) C dL_law_39 (by decide) (by decide) (by decide) rfl (by decide) ?_
        exact l_case8 C hl0 hR hiL hL hv kend
      · refine l_tIn (tgt := 433) C dL_law_39 (by decide) (by decide) (by decide) rfl (by decide) ?_
        exact l_case9 C hl0 hR hiL hL hv kend
      · refine l_tIn (tgt := 461) C dL_law_39 (by decide) (by decide) (by decide) rfl (by decide) ?_
        exact l_case10 C hl0 hR hiL hL hv kend
      · refine l_tIn (tgt := 489) C dL_law_39 (by decide) (by decide) (by decide) rfl (by decide) ?_
        exact l_case11 C hl0 hR hiL hL hv kend
      · refine l_tIn (tgt := 529) C dL_law_39 (by decide) (by decide) (by decide) rfl (by decide) ?_
        exact l_case12 C hl0 hR hiL hL hv kend
      · refine l_tIn (tgt := 557) C dL_law_39 (by decide) (by decide) (by decide) rfl (by decide) ?_
        exact l_case13 C hl0 hR hiL hL hv kend
      · refine l_tIn (tgt := 597) C dL_law_39 (by decide) (by decide) (by decide) rfl (by decide) ?_
        exact l_case14 C hl0 hR hiL hL hv kend
      · refine l_tIn (tgt := 637) C dL_law_39 (by decide) (by decide) (by decide) rfl (by decide) ?_
        exact l_case15 C hl0 hR hiL hL hv kend
      · refine l_tIn (tgt := 677) C dL_law_39 (by decide) (by decide) (by decide) rfl (by decide) ?_
        exact l_case16 C hl0 hR hiL hL hv kend
    · refine l_tOut (tgt := 702) C dL_law_39 (by omega) (Or.inr (by omega)) (by decide) ?_
      exact kend _ _ _ _ _ _ _ (Nat.le_succ _) (Nat.le_add_right _ _) hv
end LB
