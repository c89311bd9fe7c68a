section LB
variable {z : fZ} {D : va_G} {cA : Nat → ClassId} {ad am : Nat → Nat} {a b L i : Nat} {xs : Nat → Int32} {Q : State → Prop} {kc ks : Nat} {v : Int} {σ τ : fS} {o5 o6 : Option Value}
theorem l_rng (x : Int32) : -2147483648 ≤ x.toInt ∧ x.toInt ≤ 2147483647 := ⟨by have := Int32.le_toInt x; omega, by have := Int32.toInt_lt x; omega⟩
theorem l_pop {nL pc : Nat} {cc : ByteArray} {own : String} {lv : List (Option Value)} {st : List Value} (C : lfc z D cA ad am a nL b L xs cc own) {x : Value} (d : decode cc pc = .ok (.pop, 1)) (hx : x.category = 1) (kk : lj z D cA ad am a nL Q kc ks σ τ v (pc + 1) lv st) : lj z D cA ad am a nL Q kc ks σ τ v pc lv (x :: st) :=
  fun H locs ls hP hM hO hS hl => lv_pop C.1 C.2.1 d hx (kk H locs ls hP hM hO hS hl)
theorem l_case0 (C : lfc z D cA ad am a 7 b L xs cL_law RL) (hl0 : z.2.1.stackTraces = false) (hR : 10 ≤ z.2.2.2.1.frames ∧ 40 * 10 ≤ z.2.2.2.1.locals ∧ kc + 1 ≤ z.2.2.2.1.cells ∧ ks + 6 ≤ z.2.2.2.1.slots) (hiL : i + 4 ≤ L) (hL : L ≤ 2048) (hv : Jv σ τ) (kend : ∀ (kc' ks' : Nat) (σ τ : fS) (v : Int) (x5 x6 : Option Value), kc' ≤ kc + 1 → ks' ≤ ks + 6 → Jv σ τ → lj z D cA ad am a 7 Q kc' ks' σ τ v 691 [some (.ref b), some (.ref (ad 0)), some (.ref (am 0)), some (.ref a), some (.int (fI (i : Int))), x5, x6] []) : lj z D cA ad am a 7 Q kc ks σ τ v 120 [some (.ref b), some (.ref (ad 0)), some (.ref (am 0)), some (.ref a), some (.int (fI (i : Int))), o5, o6] [] := by
  have hJ := C.2.2.2.2.2.2.1
  have hJm := C.2.2.2.2.2.2.2.1
  have hoff := C.2.2.2.2.2.2.2.2.1
  have hR0 : 10 ≤ z.2.2.2.1.frames ∧ 40 * 10 ≤ z.2.2.2.1.locals ∧ kc ≤ z.2.2.2.1.cells ∧ ks ≤ z.2.2.2.1.slots := ⟨hR.1, hR.2.1, by omega, by omega⟩
  refine l_aload_n C dL_law_120 rfl rfl ?_
  refine l_aload_n C dL_law_121 rfl rfl ?_
  refine l_iload C dL_law_122 rfl ?_
  refine l_iconst C dL_law_124 ?_
  refine l_iadd C dL_law_125 ?_
  refine l_sld C (by omega) (by omega) dL_law_126 ?_
  refine l_aload_n C dL_law_127 rfl rfl ?_
  refine l_iload C dL_law_128 rfl ?_
  refine l_iconst C dL_law_130 ?_
  refine l_iadd C dL_law_131 ?_
  refine l_sld C (by omega) (by omega) dL_law_132 ?_
  refine l_h (dd := 10) (mc := 1) (ms := 6) (np := 3) (st := []) C hR (kG_object z.2.1 D cA ad hJ hl0 a hoff v σ (Jv_x hv) ((xs ((i : Int) + 1).toNat).toInt) ((xs ((i : Int) + 2).toNat).toInt) (l_rng _) (l_rng _) ) dL_law_133 mL_object sL_object iL wL_object ⟨by decide +kernel, by decide +kernel, by decide +kernel⟩ (by decide) (by decide) rfl (by decide) rfl (fun k v1 σ1 hy => ?_)
  refine l_istore C dL_law_136 (by decide) ?_
  show lj z D cA ad am a 7 Q (kc + 1) (ks + 6) σ1 τ v1 138 [some (.ref b), some (.ref (ad 0)), some (.ref (am 0)), some (.ref a), some (.int (fI (i : Int))), some (.int (fI k)), o6] []
  refine l_aload_n C dL_law_138 rfl rfl ?_
  refine l_aload_n C dL_law_139 rfl rfl ?_
  refine l_iload C dL_law_140 rfl ?_
  refine l_iconst C dL_law_142 ?_
  refine l_iadd C dL_law_143 ?_
  refine l_sld C (by omega) (by omega) dL_law_144 ?_
  refine l_aload_n C dL_law_145 rfl rfl ?_
  refine l_iload C dL_law_146 rfl ?_
  refine l_iconst C dL_law_148 ?_
  refine l_iadd C dL_law_149 ?_
  refine l_sld C (by omega) (by omega) dL_law_150 ?_
  refine l_mV (dd := 10) (np := 2) (st := []) C hR (kU_object z.2.1 D cA am hJm τ (Jv_m hv) ((xs ((i : Int) + 1).toNat).toInt) ((xs ((i : Int) + 2).toNat).toInt) (l_rng _) (l_rng _) ) dL_law_151 gW_81 ⟨rfl, by decide +kernel, by decide +kernel, by decide +kernel⟩ (by decide) (by decide) rfl (by decide) rfl (fun τ1 hu => ?_)
  refine l_goto (tgt := 691) C dL_law_154 (by decide) ?_
  exact kend _ _ _ _ _ _ _ (Nat.le_refl _) (Nat.le_refl _) (sj_object hv  hy hu)
theorem l_case1 (C : lfc z D cA ad am a 7 b L xs cL_law RL) (hl0 : z.2.1.stackTraces = false) (hR : 10 ≤ z.2.2.2.1.frames ∧ 40 * 10 ≤ z.2.2.2.1.locals ∧ kc + 1 ≤ z.2.2.2.1.cells ∧ ks + 6 ≤ z.2.2.2.1.slots) (hiL : i + 4 ≤ L) (hL : L ≤ 2048) (hv : Jv σ τ) (kend : ∀ (kc' ks' : Nat) (σ τ : fS) (v : Int) (x5 x6 : Option Value), kc' ≤ kc + 1 → ks' ≤ ks + 6 → Jv σ τ → lj z D cA ad am a 7 Q kc' ks' σ τ v 691 [some (.ref b), some (.ref (ad 0)), some (.ref (am 0)), some (.ref a), some (.int (fI (i : Int))), x5, x6] []) : lj z D cA ad am a 7 Q kc ks σ τ v 157 [some (.ref b), some (.ref (ad 0)), some (.ref (am 0)), some (.ref a), some (.int (fI (i : Int))), o5, o6] [] := by
  have hJ := C.2.2.2.2.2.2.1
  have hJm := C.2.2.2.2.2.2.2.1
  have hoff := C.2.2.2.2.2.2.2.2.1
  have hR0 : 10 ≤ z.2.2.2.1.frames ∧ 40 * 10 ≤ z.2.2.2.1.locals ∧ kc ≤ z.2.2.2.1.cells ∧ ks ≤ z.2.2.2.1.slots := ⟨hR.1, hR.2.1, by omega, by omega⟩
  refine l_aload_n C dL_law_157 rfl rfl ?_
  refine l_aload_n C dL_law_158 rfl rfl ?_
  refine l_iload C dL_law_159 rfl ?_
  refine l_iconst C dL_law_161 ?_
  refine l_iadd C dL_law_162 ?_
  refine l_sld C (by omega) (by omega) dL_law_163 ?_
  refine l_aload_n C dL_law_164 rfl rfl ?_
  refine l_iload C dL_law_165 rfl ?_
  refine l_iconst C dL_law_167 ?_
  refine l_iadd C dL_law_168 ?_
  refine l_sld C (by omega) (by omega) dL_law_169 ?_
  refine l_aload_n C dL_law_170 rfl rfl ?_
  refine l_iload C dL_law_171 rfl ?_
  refine l_iconst C dL_law_173 ?_
  refine l_iadd C dL_law_174 ?_
  refine l_sld C (by omega) (by omega) dL_law_175 ?_
  refine l_i2b C dL_law_176 ?_
  refine l_aload_n C dL_law_177 rfl rfl ?_
  refine l_h (dd := 10) (mc := 1) (ms := 6) (np := 5) (st := []) C hR (kG_octet z.2.1 D cA ad hJ hl0 a hoff v σ (Jv_x hv) ((xs ((i : Int) + 1).toNat).toInt) ((xs ((i : Int) + 2).toNat).toInt) (((xs ((i : Int) + 3).toNat).toInt.bmod 256)) (l_rng _) (l_rng _) (by have := x_bm (xs ((i : Int) + 3).toNat).toInt; omega) (x_bm (xs ((i : Int) + 3).toNat).toInt)) dL_law_178 mL_octet sL_octet iL wL_octet ⟨by decide +kernel, by decide +kernel, by decide +kernel⟩ (by decide) (by decide) rfl (by decide) rfl (fun k v1 σ1 hy => ?_)
  refine l_istore C dL_law_181 (by decide) ?_
  show lj z D cA ad am a 7 Q (kc + 1) (ks + 6) σ1 τ v1 183 [some (.ref b), some (.ref (ad 0)), some (.ref (am 0)), some (.ref a), some (.int (fI (i : Int))), some (.int (fI k)), o6] []
  refine l_aload_n C dL_law_183 rfl rfl ?_
  refine l_aload_n C dL_law_184 rfl rfl ?_
  refine l_iload C dL_law_185 rfl ?_
  refine l_iconst C dL_law_187 ?_
  refine l_iadd C dL_law_188 ?_
  refine l_sld C (by omega) (by omega) dL_law_189 ?_
  refine l_aload_n C dL_law_190 rfl rfl ?_
  refine l_iload C dL_law_191 rfl ?_
  refine l_iconst C dL_law_193 ?_
  refine l_iadd C dL_law_194 ?_
  refine l_sld C (by omega) (by omega) dL_law_195 ?_
  refine l_aload_n C dL_law_196 rfl rfl ?_
  refine l_iload C dL_law_197 rfl ?_
  refine l_iconst C dL_law_199 ?_
  refine l_iadd C dL_law_200 ?_
  refine l_sld C (by omega) (by omega) dL_law_201 ?_
  refine l_i2b C dL_law_202 ?_
  refine l_mI (dd := 10) (np := 3) (st := []) C hR (kU_octet z.2.1 D cA am hJm τ (Jv_m hv) ((xs ((i : Int) + 1).toNat).toInt) ((xs ((i : Int) + 2).toNat).toInt) (((xs ((i : Int) + 3).toNat).toInt.bmod 256)) (l_rng _) (l_rng _) (by have := x_bm (xs ((i : Int) + 3).toNat).toInt; omega) (x_bm (xs ((i : Int) + 3).toNat).toInt)) dL_law_203 gW_85 ⟨rfl, by decide +kernel, by decide +kernel, by decide +kernel⟩ (by decide) (by decide) rfl (by decide) rfl (fun r τ1 hu => ?_)
  refine l_istore C dL_law_206 (by decide) ?_
  show lj z D cA ad am a 7 Q (kc + 1) (ks + 6) σ1 τ1 v1 208 [some (.ref b), some (.ref (ad 0)), some (.ref (am 0)), some (.ref a), some (.int (fI (i : Int))), some (.int (fI k)), some (.int (fI r))] []
  refine l_goto (tgt := 691) C dL_law_208 (by decide) ?_
  exact kend _ _ _ _ _ _ _ (Nat.le_refl _) (Nat.le_refl _) (sj_octet hv (x_bm (xs ((i : Int) + 3).toNat).toInt) hy hu)
theorem l_case2 (C : lfc z D cA ad am a 7 b L xs cL_law RL) (hl0 : z.2.1.stackTraces = false) (hR : 10 ≤ z.2.2.2.1.frames ∧ 40 * 10 ≤ z.2.2.2.1.locals ∧ kc + 1 ≤ z.2.2.2.1.cells ∧ ks + 6 ≤ z.2.2.2.1.slots) (hiL : i + 4 ≤ L) (hL : L ≤ 2048) (hv : Jv σ τ) (kend : ∀ (kc' ks' : Nat) (σ τ : fS) (v : Int) (x5 x6 : Option Value), kc' ≤ kc + 1 → ks' ≤ ks + 6 → Jv σ τ → lj z D cA ad am a 7 Q kc' ks' σ τ v 691 [some (.ref b), some (.ref (ad 0)), some (.ref (am 0)), some (.ref a), some (.int (fI (i : Int))), x5, x6] []) : lj z D cA ad am a 7 Q kc ks σ τ v 211 [some (.ref b), some (.ref (ad 0)), some (.ref (am 0)), some (.ref a), some (.int (fI (i : Int))), o5, o6] [] := by
  have hJ := C.2.2.2.2.2.2.1
  have hJm := C.2.2.2.2.2.2.2.1
  have hoff := C.2.2.2.2.2.2.2.2.1
  have hR0 : 10 ≤ z.2.2.2.1.frames ∧ 40 * 10 ≤ z.2.2.2.1.locals ∧ kc ≤ z.2.2.2.1.cells ∧ ks ≤ z.2.2.2.1.slots := ⟨hR.1, hR.2.1, by omega, by omega⟩
  refine l_aload_n C dL_law_211 rfl rfl ?_
  refine l_aload_n C dL_law_212 rfl rfl ?_
  refine l_iload C dL_law_213 rfl ?_
  refine l_iconst C dL_law_215 ?_
  refine l_iadd C dL_law_216 ?_
  refine l_sld C (by omega) (by omega) dL_law_217 ?_
  refine l_aload_n C dL_law_218 rfl rfl ?_
  refine l_h (dd := 10) (mc := 1) (ms := 6) (np := 3) (st := []) C hR (kG_drop z.2.1 D cA ad hJ hl0 a hoff v σ (Jv_x hv) ((xs ((i : Int) + 1).toNat).toInt) (l_rng _) ) dL_law_219 mL_drop sL_drop iL wL_drop ⟨by decide +kernel, by decide +kernel, by decide +kernel⟩ (by decide) (by decide) rfl (by decide) rfl (fun k v1 σ1 hy => ?_)
  refine l_istore C dL_law_222 (by decide) ?_
  show lj z D cA ad am a 7 Q (kc + 1) (ks + 6) σ1 τ v1 224 [some (.ref b), some (.ref (ad 0)), some (.ref (am 0)), some (.ref a), some (.int (fI (i : Int))), some (.int (fI k)), o6] []
  refine l_aload_n C dL_law_224 rfl rfl ?_
  refine l_aload_n C dL_law_225 rfl rfl ?_
  refine l_iload C dL_law_226 rfl ?_
  refine l_iconst C dL_law_228 ?_
  refine l_iadd C dL_law_229 ?_
  refine l_sld C (by omega) (by omega) dL_law_230 ?_
  refine l_mI (dd := 10) (np := 1) (st := []) C hR (kU_drop z.2.1 D cA am hJm τ (Jv_m hv) ((xs ((i : Int) + 1).toNat).toInt) (l_rng _) ) dL_law_231 gW_89 ⟨rfl, by decide +kernel, by decide +kernel, by decide +kernel⟩ (by decide) (by decide) rfl (by decide) rfl (fun r τ1 hu => ?_)
  refine l_istore C dL_law_234 (by decide) ?_
  show lj z D cA ad am a 7 Q (kc + 1) (ks + 6) σ1 τ1 v1 236 [some (.ref b), some (.ref (ad 0)), some (.ref (am 0)), some (.ref a), some (.int (fI (i : Int))), some (.int (fI k)), some (.int (fI r))] []
  refine l_goto (tgt := 691) C dL_law_236 (by decide) ?_
  exact kend _ _ _ _ _ _ _ (Nat.le_refl _) (Nat.le_refl _) (sj_drop hv  hy hu)
theorem l_case3 (C : lfc z D cA ad am a 7 b L xs cL_law RL) (hl0 : z.2.1.stackTraces = false) (hR : 10 ≤ z.2.2.2.1.frames ∧ 40 * 10 ≤ z.2.2.2.1.locals ∧ kc + 1 ≤ z.2.2.2.1.cells ∧ ks + 6 ≤ z.2.2.2.1.slots) (hiL : i + 4 ≤ L) (hL : L ≤ 2048) (hv : Jv σ τ) (kend : ∀ (kc' ks' : Nat) (σ τ : fS) (v : Int) (x5 x6 : Option Value), kc' ≤ kc + 1 → ks' ≤ ks + 6 → Jv σ τ → lj z D cA ad am a 7 Q kc' ks' σ τ v 691 [some (.ref b), some (.ref (ad 0)), some (.ref (am 0)), some (.ref a), some (.int (fI (i : Int))), x5, x6] []) : lj z D cA ad am a 7 Q kc ks σ τ v 239 [some (.ref b), some (.ref (ad 0)), some (.ref (am 0)), some (.ref a), some (.int (fI (i : Int))), o5, o6] [] := by
  have hJ := C.2.2.2.2.2.2.1
  have hJm := C.2.2.2.2.2.2.2.1
  have hoff := C.2.2.2.2.2.2.2.2.1
  have hR0 : 10 ≤ z.2.2.2.1.frames ∧ 40 * 10 ≤ z.2.2.2.1.locals ∧ kc ≤ z.2.2.2.1.cells ∧ ks ≤ z.2.2.2.1.slots := ⟨hR.1, hR.2.1, by omega, by omega⟩
  refine l_aload_n C dL_law_239 rfl rfl ?_
  refine l_aload_n C dL_law_240 rfl rfl ?_
  refine l_iload C dL_law_241 rfl ?_
  refine l_iconst C dL_law_243 ?_
  refine l_iadd C dL_law_244 ?_
  refine l_sld C (by omega) (by omega) dL_law_245 ?_
  refine l_aload_n C dL_law_246 rfl rfl ?_
  refine l_iload C dL_law_247 rfl ?_
  refine l_iconst C dL_law_249 ?_
  refine l_iadd C dL_law_250 ?_
  refine l_sld C (by omega) (by omega) dL_law_251 ?_
  suffices hj1 : ∀ w : Int, ((w = 0 ∧ (xs ((i : Int) + 2).toNat).toInt = 0) ∨ (w = 1 ∧ (xs ((i : Int) + 2).toNat).toInt ≠ 0)) → lj z D cA ad am a 7 Q kc ks σ τ v 260 [some (.ref b), some (.ref (ad 0)), some (.ref (am 0)), some (.ref a), some (.int (fI (i : Int))), o5, o6] [.int (fI w), .int (fI (xs ((i : Int) + 1).toNat).toInt), .ref (ad 0)] by
    refine l_if_eq (tgt := 259) C dL_law_252 (by decide) (l_rng _) (fun h => ?_) (fun h => ?_)
    · refine l_iconst C dL_law_259 ?_
      exact hj1 0 (Or.inl ⟨rfl, h⟩)
    · refine l_iconst C dL_law_255 ?_
      refine l_goto (tgt := 260) C dL_law_256 (by decide) ?_
      exact hj1 1 (Or.inr ⟨rfl, h⟩)
  intro w hw
  refine l_aload_n C dL_law_260 rfl rfl ?_
  refine l_h (dd := 10) (mc := 1) (ms := 6) (np := 4) (st := []) C hR (kG_first z.2.1 D cA ad hJ hl0 a hoff v σ (Jv_x hv) ((xs ((i : Int) + 1).toNat).toInt) (w) (l_rng _) (by omega) (by omega)) dL_law_261 mL_first sL_first iL wL_first ⟨by decide +kernel, by decide +kernel, by decide +kernel⟩ (by decide) (by decide) rfl (by decide) rfl (fun k v1 σ1 hy => ?_)
  refine l_istore C dL_law_264 (by decide) ?_
  show lj z D cA ad am a 7 Q (kc + 1) (ks + 6) σ1 τ v1 266 [some (.ref b), some (.ref (ad 0)), some (.ref (am 0)), some (.ref a), some (.int (fI (i : Int))), some (.int (fI k)), o6] []
  refine l_aload_n C dL_law_266 rfl rfl ?_
  refine l_aload_n C dL_law_267 rfl rfl ?_
  refine l_iload C dL_law_268 rfl ?_
  refine l_iconst C dL_law_270 ?_
  refine l_iadd C dL_law_271 ?_
  refine l_sld C (by omega) (by omega) dL_law_272 ?_
  refine l_aload_n C dL_law_273 rfl rfl ?_
  refine l_iload C dL_law_274 rfl ?_
  refine l_iconst C dL_law_276 ?_
  refine l_iadd C dL_law_277 ?_
  refine l_sld C (by omega) (by omega) dL_law_278 ?_
  suffices hj2 : ∀ w2 : Int, ((w2 = 0 ∧ (xs ((i : Int) + 2).toNat).toInt = 0) ∨ (w2 = 1 ∧ (xs ((i : Int) + 2).toNat).toInt ≠ 0)) → lj z D cA ad am a 7 Q (kc + 1) (ks + 6) σ1 τ v1 287 [some (.ref b), some (.ref (ad 0)), some (.ref (am 0)), some (.ref a), some (.int (fI (i : Int))), some (.int (fI k)), o6] [.int (fI w2), .int (fI (xs ((i : Int) + 1).toNat).toInt), .ref (am 0)] by
    refine l_if_eq (tgt := 286) C dL_law_279 (by decide) (l_rng _) (fun h => ?_) (fun h => ?_)
    · refine l_iconst C dL_law_286 ?_
      exact hj2 0 (Or.inl ⟨rfl, h⟩)
    · refine l_iconst C dL_law_282 ?_
      refine l_goto (tgt := 287) C dL_law_283 (by decide) ?_
      exact hj2 1 (Or.inr ⟨rfl, h⟩)
  intro w2 hw2
  have hww : w2 = w := by omega
  subst hww
  refine l_mI (dd := 10) (np := 2) (st := []) C hR (kU_first z.2.1 D cA am hJm τ (Jv_m hv) ((xs ((i : Int) + 1).toNat).toInt) (w2) (l_rng _) (by omega) (by omega)) dL_law_287 gW_93 ⟨rfl, by decide +kernel, by decide +kernel, by decide +kernel⟩ (by decide) (by decide) rfl (by decide) rfl (fun r τ1 hu => ?_)
  refine l_istore C dL_law_290 (by decide) ?_
  show lj z D cA ad am a 7 Q (kc + 1) (ks + 6) σ1 τ1 v1 292 [some (.ref b), some (.ref (ad 0)), some (.ref (am 0)), some (.ref a), some (.int (fI (i : Int))), some (.int (fI k)), some (.int (fI r))] []
  refine l_goto (tgt := 691) C dL_law_292 (by decide) ?_
  exact kend _ _ _ _ _ _ _ (Nat.le_refl _) (Nat.le_refl _) (sj_first hv (by omega) hy hu)
theorem l_case4 (C : lfc z D cA ad am a 7 b L xs cL_law RL) (hl0 : z.2.1.stackTraces = false) (hR : 10 ≤ z.2.2.2.1.frames ∧ 40 * 10 ≤ z.2.2.2.1.locals ∧ kc + 1 ≤ z.2.2.2.1.cells ∧ ks + 6 ≤ z.2.2.2.1.slots) (hiL : i + 4 ≤ L) (hL : L ≤ 2048) (hv : Jv σ τ) (kend : ∀ (kc' ks' : Nat) (σ τ : fS) (v : Int) (x5 x6 : Option Value), kc' ≤ kc + 1 → ks' ≤ ks + 6 → Jv σ τ → lj z D cA ad am a 7 Q kc' ks' σ τ v 691 [some (.ref b), some (.ref (ad 0)), some (.ref (am 0)), some (.ref a), some (.int (fI (i : Int))), x5, x6] []) : lj z D cA ad am a 7 Q kc ks σ τ v 295 [some (.ref b), some (.ref (ad 0)), some (.ref (am 0)), some (.ref a), some (.int (fI (i : Int))), o5, o6] [] := by
  have hJ := C.2.2.2.2.2.2.1
  have hJm := C.2.2.2.2.2.2.2.1
  have hoff := C.2.2.2.2.2.2.2.2.1
  have hR0 : 10 ≤ z.2.2.2.1.frames ∧ 40 * 10 ≤ z.2.2.2.1.locals ∧ kc ≤ z.2.2.2.1.cells ∧ ks ≤ z.2.2.2.1.slots := ⟨hR.1, hR.2.1, by omega, by omega⟩
  refine l_aload_n C dL_law_295 rfl rfl ?_
  refine l_aload_n C dL_law_296 rfl rfl ?_
  refine l_iload C dL_law_297 rfl ?_
  refine l_iconst C dL_law_299 ?_
  refine l_iadd C dL_law_300 ?_
  refine l_sld C (by omega) (by omega) dL_law_301 ?_
  refine l_aload_n C dL_law_302 rfl rfl ?_
  refine l_h (dd := 10) (mc := 1) (ms := 6) (np := 3) (st := []) C hR (kG_write z.2.1 D cA ad hJ hl0 a hoff v σ (Jv_x hv) ((xs ((i : Int) + 1).toNat).toInt) (l_rng _) ) dL_law_303 mL_write sL_write iL wL_write ⟨by decide +kernel, by decide +kernel, by decide +kernel⟩ (by decide) (by decide) rfl (by decide) rfl (fun k v1 σ1 hy => ?_)
  refine l_istore C dL_law_306 (by decide) ?_
  show lj z D cA ad am a 7 Q (kc + 1) (ks + 6) σ1 τ v1 308 [some (.ref b), some (.ref (ad 0)), some (.ref (am 0)), some (.ref a), some (.int (fI (i : Int))), some (.int (fI k)), o6] []
  refine l_aload_n C dL_law_308 rfl rfl ?_
  refine l_aload_n C dL_law_309 rfl rfl ?_
  refine l_iload C dL_law_310 rfl ?_
  refine l_iconst C dL_law_312 ?_
  refine l_iadd C dL_law_313 ?_
  refine l_sld C (by omega) (by omega) dL_law_314 ?_
  refine l_mI (dd := 10) (np := 1) (st := []) C hR (kU_write z.2.1 D cA am hJm τ (Jv_m hv) ((xs ((i : Int) + 1).toNat).toInt) (l_rng _) ) dL_law_315 gW_96 ⟨rfl, by decide +kernel, by decide +kernel, by decide +kernel⟩ (by decide) (by decide) rfl (by decide) rfl (fun r τ1 hu => ?_)
  refine l_istore C dL_law_318 (by decide) ?_
  show lj z D cA ad am a 7 Q (kc + 1) (ks + 6) σ1 τ1 v1 320 [some (.ref b), some (.ref (ad 0)), some (.ref (am 0)), some (.ref a), some (.int (fI (i : Int))), some (.int (fI k)), some (.int (fI r))] []
  refine l_goto (tgt := 691) C dL_law_320 (by decide) ?_
  exact kend _ _ _ _ _ _ _ (Nat.le_refl _) (Nat.le_refl _) (sj_write hv  hy hu)
theorem l_case5 (C : lfc z D cA ad am a 7 b L xs cL_law RL) (hl0 : z.2.1.stackTraces = false) (hR : 10 ≤ z.2.2.2.1.frames ∧ 40 * 10 ≤ z.2.2.2.1.locals ∧ kc + 1 ≤ z.2.2.2.1.cells ∧ ks + 6 ≤ z.2.2.2.1.slots) (hiL : i + 4 ≤ L) (hL : L ≤ 2048) (hv : Jv σ τ) (kend : ∀ (kc' ks' : Nat) (σ τ : fS) (v : Int) (x5 x6 : Option Value), kc' ≤ kc + 1 → ks' ≤ ks + 6 → Jv σ τ → lj z D cA ad am a 7 Q kc' ks' σ τ v 691 [some (.ref b), some (.ref (ad 0)), some (.ref (am 0)), some (.ref a), some (.int (fI (i : Int))), x5, x6] []) : lj z D cA ad am a 7 Q kc ks σ τ v 323 [some (.ref b), some (.ref (ad 0)), some (.ref (am 0)), some (.ref a), some (.int (fI (i : Int))), o5, o6] [] := by
  have hJ := C.2.2.2.2.2.2.1
  have hJm := C.2.2.2.2.2.2.2.1
  have hoff := C.2.2.2.2.2.2.2.2.1
  have hR0 : 10 ≤ z.2.2.2.1.frames ∧ 40 * 10 ≤ z.2.2.2.1.locals ∧ kc ≤ z.2.2.2.1.cells ∧ ks ≤ z.2.2.2.1.slots := ⟨hR.1, hR.2.1, by omega, by omega⟩
  refine l_aload_n C dL_law_323 rfl rfl ?_
  refine l_aload_n C dL_law_324 rfl rfl ?_
  refine l_h (dd := 10) (mc := 1) (ms := 6) (np := 2) (st := []) C hR (kG_append z.2.1 D cA ad hJ hl0 a hoff v σ (Jv_x hv) ()  ) dL_law_325 mL_append sL_append iL wL_append ⟨by decide +kernel, by decide +kernel, by decide +kernel⟩ (by decide) (by decide) rfl (by decide) rfl (fun k v1 σ1 hy => ?_)
  refine l_istore C dL_law_328 (by decide) ?_
  show lj z D cA ad am a 7 Q (kc + 1) (ks + 6) σ1 τ v1 330 [some (.ref b), some (.ref (ad 0)), some (.ref (am 0)), some (.ref a), some (.int (fI (i : Int))), some (.int (fI k)), o6] []
  refine l_aload_n C dL_law_330 rfl rfl ?_
  refine l_mI (dd := 10) (np := 0) (st := []) C hR (kU_append z.2.1 D cA am hJm τ (Jv_m hv)   ) dL_law_331 gW_100 ⟨rfl, by decide +kernel, by decide +kernel, by decide +kernel⟩ (by decide) (by decide) rfl (by decide) rfl (fun r τ1 hu => ?_)
  refine l_istore C dL_law_334 (by decide) ?_
  show lj z D cA ad am a 7 Q (kc + 1) (ks + 6) σ1 τ1 v1 336 [some (.ref b), some (.ref (ad 0)), some (.ref (am 0)), some (.ref a), some (.int (fI (i : Int))), some (.int (fI k)), some (.int (fI r))] []
  refine l_goto (tgt := 691) C dL_law_336 (by decide) ?_
  exact kend _ _ _ _ _ _ _ (Nat.le_refl _) (Nat.le_refl _) (sj_append hv  hy hu)
theorem l_case7 (C : lfc z D cA ad am a 7 b L xs cL_law RL) (hl0 : z.2.1.stackTraces = false) (hR : 10 ≤ z.2.2.2.1.frames ∧ 40 * 10 ≤ z.2.2.2.1.locals ∧ kc + 1 ≤ z.2.2.2.1.cells ∧ ks + 6 ≤ z.2.2.2.1.slots) (hiL : i + 4 ≤ L) (hL : L ≤ 2048) (hv : Jv σ τ) (kend : ∀ (kc' ks' : Nat) (σ τ : fS) (v : Int) (x5 x6 : Option Value), kc' ≤ kc + 1 → ks' ≤ ks + 6 → Jv σ τ → lj z D cA ad am a 7 Q kc' ks' σ τ v 691 [some (.ref b), some (.ref (ad 0)), some (.ref (am 0)), some (.ref a), some (.int (fI (i : Int))), x5, x6] []) : lj z D cA ad am a 7 Q kc ks σ τ v 352 [some (.ref b), some (.ref (ad 0)), some (.ref (am 0)), some (.ref a), some (.int (fI (i : Int))), o5, o6] [] := by
  have hJ := C.2.2.2.2.2.2.1
  have hJm := C.2.2.2.2.2.2.2.1
  have hoff := C.2.2.2.2.2.2.2.2.1
  have hR0 : 10 ≤ z.2.2.2.1.frames ∧ 40 * 10 ≤ z.2.2.2.1.locals ∧ kc ≤ z.2.2.2.1.cells ∧ ks ≤ z.2.2.2.1.slots := ⟨hR.1, hR.2.1, by omega, by omega⟩
  refine l_aload_n C dL_law_352 rfl rfl ?_
  refine l_aload_n C dL_law_353 rfl rfl ?_
  refine l_iload C dL_law_354 rfl ?_
  refine l_iconst C dL_law_356 ?_
  refine l_iadd C dL_law_357 ?_
  refine l_sld C (by omega) (by omega) dL_law_358 ?_
  refine l_aload_n C dL_law_359 rfl rfl ?_
  refine l_iload C dL_law_360 rfl ?_
  refine l_iconst C dL_law_362 ?_
  refine l_iadd C dL_law_363 ?_
  refine l_sld C (by omega) (by omega) dL_law_364 ?_
  refine l_i2b C dL_law_365 ?_
  refine l_aload_n C dL_law_366 rfl rfl ?_
  refine l_h (dd := 10) (mc := 1) (ms := 6) (np := 4) (st := []) C hR (kG_poke z.2.1 D cA ad hJ hl0 a hoff v σ (Jv_x hv) ((xs ((i : Int) + 1).toNat).toInt) (((xs ((i : Int) + 2).toNat).toInt.bmod 256)) (l_rng _) (by have := x_bm (xs ((i : Int) + 2).toNat).toInt; omega) (x_bm (xs ((i : Int) + 2).toNat).toInt)) dL_law_367 mL_poke sL_poke iL wL_poke ⟨by decide +kernel, by decide +kernel, by decide +kernel⟩ (by decide) (by decide) rfl (by decide) rfl (fun k v1 σ1 hy => ?_)
  refine l_istore C dL_law_370 (by decide) ?_
  show lj z D cA ad am a 7 Q (kc + 1) (ks + 6) σ1 τ v1 372 [some (.ref b), some (.ref (ad 0)), some (.ref (am 0)), some (.ref a), some (.int (fI (i : Int))), some (.int (fI k)), o6] []
  refine l_aload_n C dL_law_372 rfl rfl ?_
  refine l_aload_n C dL_law_373 rfl rfl ?_
  refine l_iload C dL_law_374 rfl ?_
  refine l_iconst C dL_law_376 ?_
  refine l_iadd C dL_law_377 ?_
  refine l_sld C (by omega) (by omega) dL_law_378 ?_
  refine l_aload_n C dL_law_379 rfl rfl ?_
  refine l_iload C dL_law_380 rfl ?_
  refine l_iconst C dL_law_382 ?_
  refine l_iadd C dL_law_383 ?_
  refine l_sld C (by omega) (by omega) dL_law_384 ?_
  refine l_i2b C dL_law_385 ?_
  refine l_mI (dd := 10) (np := 2) (st := []) C hR (kU_poke z.2.1 D cA am hJm τ (Jv_m hv) ((xs ((i : Int) + 1).toNat).toInt) (((xs ((i : Int) + 2).toNat).toInt.bmod 256)) (l_rng _) (by have := x_bm (xs ((i : Int) + 2).toNat).toInt; omega) (x_bm (xs ((i : Int) + 2).toNat).toInt)) dL_law_386 gW_108 ⟨rfl, by decide +kernel, by decide +kernel, by decide +kernel⟩ (by decide) (by decide) rfl (by decide) rfl (fun r τ1 hu => ?_)
  refine l_istore C dL_law_389 (by decide) ?_
  show lj z D cA ad am a 7 Q (kc + 1) (ks + 6) σ1 τ1 v1 391 [some (.ref b), some (.ref (ad 0)), some (.ref (am 0)), some (.ref a), some (.int (fI (i : Int))), some (.int (fI k)), some (.int (fI r))] []
  refine l_goto (tgt := 691) C dL_law_391 (by decide) ?_
  exact kend _ _ _ _ _ _ _ (Nat.le_refl _) (Nat.le_refl _) (sj_poke hv (x_bm (xs ((i : Int) + 2).toNat).toInt) hy hu)
theorem l_case8 (C : lfc z D cA ad am a 7 b L xs cL_law RL) (hl0 : z.2.1.stackTraces = false) (hR : 10 ≤ z.2.2.2.1.frames ∧ 40 * 10 ≤ z.2.2.2.1.locals ∧ kc + 1 ≤ z.2.2.2.1.cells ∧ ks + 6 ≤ z.2.2.2.1.slots) (hiL : i + 4 ≤ L) (hL : L ≤ 2048) (hv : Jv σ τ) (kend : ∀ (kc' ks' : Nat) (σ τ : fS) (v : Int) (x5 x6 : Option Value), kc' ≤ kc + 1 → ks' ≤ ks + 6 → Jv σ τ → lj z D cA ad am a 7 Q kc' ks' σ τ v 691 [some (.ref b), some (.ref (ad 0)), some (.ref (am 0)), some (.ref a), some (.int (fI (i : Int))), x5, x6] []) : lj z D cA ad am a 7 Q kc ks σ τ v 394 [some (.ref b), some (.ref (ad 0)), some (.ref (am 0)), some (.ref a), some (.int (fI (i : Int))), o5, o6] [] := by
  have hJ := C.2.2.2.2.2.2.1
  have hJm := C.2.2.2.2.2.2.2.1
  have hoff := C.2.2.2.2.2.2.2.2.1
  have hR0 : 10 ≤ z.2.2.2.1.frames ∧ 40 * 10 ≤ z.2.2.2.1.locals ∧ kc ≤ z.2.2.2.1.cells ∧ ks ≤ z.2.2.2.1.slots := ⟨hR.1, hR.2.1, by omega, by omega⟩
  refine l_aload_n C dL_law_394 rfl rfl ?_
  refine l_aload_n C dL_law_395 rfl rfl ?_
  refine l_iload C dL_law_396 rfl ?_
  refine l_iconst C dL_law_398 ?_
  refine l_iadd C dL_law_399 ?_
  refine l_sld C (by omega) (by omega) dL_law_400 ?_
  refine l_aload_n C dL_law_401 rfl rfl ?_
  refine l_h (dd := 10) (mc := 1) (ms := 6) (np := 3) (st := []) C hR (kG_take z.2.1 D cA ad hJ hl0 a hoff v σ (Jv_x hv) ((xs ((i : Int) + 1).toNat).toInt) (l_rng _) ) dL_law_402 mL_take sL_take iL wL_take ⟨by decide +kernel, by decide +kernel, by decide +kernel⟩ (by decide) (by decide) rfl (by decide) rfl (fun k v1 σ1 hy => ?_)
  refine l_istore C dL_law_405 (by decide) ?_
  show lj z D cA ad am a 7 Q (kc + 1) (ks + 6) σ1 τ v1 407 [some (.ref b), some (.ref (ad 0)), some (.ref (am 0)), some (.ref a), some (.int (fI (i : Int))), some (.int (fI k)), o6] []
  refine l_aload_n C dL_law_407 rfl rfl ?_
  refine l_aload_n C dL_law_408 rfl rfl ?_
  refine l_iload C dL_law_409 rfl ?_
  refine l_iconst C dL_law_411 ?_
  refine l_iadd C dL_law_412 ?_
  refine l_sld C (by omega) (by omega) dL_law_413 ?_
  refine l_mI (dd := 10) (np := 1) (st := []) C hR (kU_take z.2.1 D cA am hJm τ (Jv_m hv) ((xs ((i : Int) + 1).toNat).toInt) (l_rng _) ) dL_law_414 gW_111 ⟨rfl, by decide +kernel, by decide +kernel, by decide +kernel⟩ (by decide) (by decide) rfl (by decide) rfl (fun r τ1 hu => ?_)
  refine l_istore C dL_law_417 (by decide) ?_
  show lj z D cA ad am a 7 Q (kc + 1) (ks + 6) σ1 τ1 v1 419 [some (.ref b), some (.ref (ad 0)), some (.ref (am 0)), some (.ref a), some (.int (fI (i : Int))), some (.int (fI k)), some (.int (fI r))] []
  refine l_goto (tgt := 691) C dL_law_419 (by decide) ?_
  exact kend _ _ _ _ _ _ _ (Nat.le_refl _) (Nat.le_refl _) (sj_take hv  hy hu)
theorem l_case9 (C : lfc z D cA ad am a 7 b L xs cL_law RL) (hl0 : z.2.1.stackTraces = false) (hR : 10 ≤ z.2.2.2.1.frames ∧ 40 * 10 ≤ z.2.2.2.1.locals ∧ kc + 1 ≤ z.2.2.2.1.cells ∧ ks + 6 ≤ z.2.2.2.1.slots) (hiL : i + 4 ≤ L) (hL : L ≤ 2048) (hv : Jv σ τ) (kend : ∀ (kc' ks' : Nat) (σ τ : fS) (v : Int) (x5 x6 : Option Value), kc' ≤ kc + 1 → ks' ≤ ks + 6 → Jv σ τ → lj z D cA ad am a 7 Q kc' ks' σ τ v 691 [some (.ref b), some (.ref (ad 0)), some (.ref (am 0)), some (.ref a), some (.int (fI (i : Int))), x5, x6] []) : lj z D cA ad am a 7 Q kc ks σ τ v 422 [some (.ref b), some (.ref (ad 0)), some (.ref (am 0)), some (.ref a), some (.int (fI (i : Int))), o5, o6] [] := by
  have hJ := C.2.2.2.2.2.2.1
  have hJm := C.2.2.2.2.2.2.2.1
  have hoff := C.2.2.2.2.2.2.2.2.1
  have hR0 : 10 ≤ z.2.2.2.1.frames ∧ 40 * 10 ≤ z.2.2.2.1.locals ∧ kc ≤ z.2.2.2.1.cells ∧ ks ≤ z.2.2.2.1.slots := ⟨hR.1, hR.2.1, by omega, by omega⟩
  refine l_aload_n C dL_law_422 rfl rfl ?_
  refine l_aload_n C dL_law_423 rfl rfl ?_
  refine l_iload C dL_law_424 rfl ?_
  refine l_iconst C dL_law_426 ?_
  refine l_iadd C dL_law_427 ?_
  refine l_sld C (by omega) (by omega) dL_law_428 ?_
  refine l_aload_n C dL_law_429 rfl rfl ?_
  refine l_h (dd := 10) (mc := 1) (ms := 6) (np := 3) (st := []) C hR (kG_at z.2.1 D cA ad hJ hl0 a hoff v σ (Jv_x hv) ((xs ((i : Int) + 1).toNat).toInt) (l_rng _) ) dL_law_430 mL_at sL_at iL wL_at ⟨by decide +kernel, by decide +kernel, by decide +kernel⟩ (by decide) (by decide) rfl (by decide) rfl (fun k v1 σ1 hy => ?_)
  refine l_istore C dL_law_433 (by decide) ?_
  show lj z D cA ad am a 7 Q (kc + 1) (ks + 6) σ1 τ v1 435 [some (.ref b), some (.ref (ad 0)), some (.ref (am 0)), some (.ref a), some (.int (fI (i : Int))), some (.int (fI k)), o6] []
  refine l_aload_n C dL_law_435 rfl rfl ?_
  refine l_aload_n C dL_law_436 rfl rfl ?_
  refine l_iload C dL_law_437 rfl ?_
  refine l_iconst C dL_law_439 ?_
  refine l_iadd C dL_law_440 ?_
  refine l_sld C (by omega) (by omega) dL_law_441 ?_
  refine l_mI (dd := 10) (np := 1) (st := []) C hR (kU_at z.2.1 D cA am hJm τ (Jv_m hv) ((xs ((i : Int) + 1).toNat).toInt) (l_rng _) ) dL_law_442 gW_114 ⟨rfl, by decide +kernel, by decide +kernel, by decide +kernel⟩ (by decide) (by decide) rfl (by decide) rfl (fun r τ1 hu => ?_)
  refine l_istore C dL_law_445 (by decide) ?_
  show lj z D cA ad am a 7 Q (kc + 1) (ks + 6) σ1 τ1 v1 447 [some (.ref b), some (.ref (ad 0)), some (.ref (am 0)), some (.ref a), some (.int (fI (i : Int))), some (.int (fI k)), some (.int (fI r))] []
  refine l_goto (tgt := 691) C dL_law_447 (by decide) ?_
  exact kend _ _ _ _ _ _ _ (Nat.le_refl _) (Nat.le_refl _) (sj_at hv  hy hu)
theorem l_case10 (C : lfc z D cA ad am a 7 b L xs cL_law RL) (hl0 : z.2.1.stackTraces = false) (hR : 10 ≤ z.2.2.2.1.frames ∧ 40 * 10 ≤ z.2.2.2.1.locals ∧ kc + 1 ≤ z.2.2.2.1.cells ∧ ks + 6 ≤ z.2.2.2.1.slots) (hiL : i + 4 ≤ L) (hL : L ≤ 2048) (hv : Jv σ τ) (kend : ∀ (kc' ks' : Nat) (σ τ : fS) (v : Int) (x5 x6 : Option Value), kc' ≤ kc + 1 → ks' ≤ ks + 6 → Jv σ τ → lj z D cA ad am a 7 Q kc' ks' σ τ v 691 [some (.ref b), some (.ref (ad 0)), some (.ref (am 0)), some (.ref a), some (.int (fI (i : Int))), x5, x6] []) : lj z D cA ad am a 7 Q kc ks σ τ v 450 [some (.ref b), some (.ref (ad 0)), some (.ref (am 0)), some (.ref a), some (.int (fI (i : Int))), o5, o6] [] := by
  have hJ := C.2.2.2.2.2.2.1
  have hJm := C.2.2.2.2.2.2.2.1
  have hoff := C.2.2.2.2.2.2.2.2.1
  have hR0 : 10 ≤ z.2.2.2.1.frames ∧ 40 * 10 ≤ z.2.2.2.1.locals ∧ kc ≤ z.2.2.2.1.cells ∧ ks ≤ z.2.2.2.1.slots := ⟨hR.1, hR.2.1, by omega, by omega⟩
  refine l_aload_n C dL_law_450 rfl rfl ?_
  refine l_aload_n C dL_law_451 rfl rfl ?_
  refine l_iload C dL_law_452 rfl ?_
  refine l_iconst C dL_law_454 ?_
  refine l_iadd C dL_law_455 ?_
  refine l_sld C (by omega) (by omega) dL_law_456 ?_
  refine l_aload_n C dL_law_457 rfl rfl ?_
  refine l_h (dd := 10) (mc := 1) (ms := 6) (np := 3) (st := []) C hR (kG_length z.2.1 D cA ad hJ hl0 a hoff v σ (Jv_x hv) ((xs ((i : Int) + 1).toNat).toInt) (l_rng _) ) dL_law_458 mL_length sL_length iL wL_length ⟨by decide +kernel, by decide +kernel, by decide +kernel⟩ (by decide) (by decide) rfl (by decide) rfl (fun k v1 σ1 hy => ?_)
  refine l_istore C dL_law_461 (by decide) ?_
  show lj z D cA ad am a 7 Q (kc + 1) (ks + 6) σ1 τ v1 463 [some (.ref b), some (.ref (ad 0)), some (.ref (am 0)), some (.ref a), some (.int (fI (i : Int))), some (.int (fI k)), o6] []
  refine l_aload_n C dL_law_463 rfl rfl ?_
  refine l_aload_n C dL_law_464 rfl rfl ?_
  refine l_iload C dL_law_465 rfl ?_
  refine l_iconst C dL_law_467 ?_
  refine l_iadd C dL_law_468 ?_
  refine l_sld C (by omega) (by omega) dL_law_469 ?_
  refine l_mI (dd := 10) (np := 1) (st := []) C hR (kU_length z.2.1 D cA am hJm τ (Jv_m hv) ((xs ((i : Int) + 1).toNat).toInt) (l_rng _) ) dL_law_470 gW_117 ⟨rfl, by decide +kernel, by decide +kernel, by decide +kernel⟩ (by decide) (by decide) rfl (by decide) rfl (fun r τ1 hu => ?_)
  refine l_istore C dL_law_473 (by decide) ?_
  show lj z D cA ad am a 7 Q (kc + 1) (ks + 6) σ1 τ1 v1 475 [some (.ref b), some (.ref (ad 0)), some (.ref (am 0)), some (.ref a), some (.int (fI (i : Int))), some (.int (fI k)), some (.int (fI r))] []
  refine l_goto (tgt := 691) C dL_law_475 (by decide) ?_
  exact kend _ _ _ _ _ _ _ (Nat.le_refl _) (Nat.le_refl _) (sj_length hv  hy hu)
theorem l_case11 (C : lfc z D cA ad am a 7 b L xs cL_law RL) (hl0 : z.2.1.stackTraces = false) (hR : 10 ≤ z.2.2.2.1.frames ∧ 40 * 10 ≤ z.2.2.2.1.locals ∧ kc + 1 ≤ z.2.2.2.1.cells ∧ ks + 6 ≤ z.2.2.2.1.slots) (hiL : i + 4 ≤ L) (hL : L ≤ 2048) (hv : Jv σ τ) (kend : ∀ (kc' ks' : Nat) (σ τ : fS) (v : Int) (x5 x6 : Option Value), kc' ≤ kc + 1 → ks' ≤ ks + 6 → Jv σ τ → lj z D cA ad am a 7 Q kc' ks' σ τ v 691 [some (.ref b), some (.ref (ad 0)), some (.ref (am 0)), some (.ref a), some (.int (fI (i : Int))), x5, x6] []) : lj z D cA ad am a 7 Q kc ks σ τ v 478 [some (.ref b), some (.ref (ad 0)), some (.ref (am 0)), some (.ref a), some (.int (fI (i : Int))), o5, o6] [] := by
  have hJ := C.2.2.2.2.2.2.1
  have hJm := C.2.2.2.2.2.2.2.1
  have hoff := C.2.2.2.2.2.2.2.2.1
  have hR0 : 10 ≤ z.2.2.2.1.frames ∧ 40 * 10 ≤ z.2.2.2.1.locals ∧ kc ≤ z.2.2.2.1.cells ∧ ks ≤ z.2.2.2.1.slots := ⟨hR.1, hR.2.1, by omega, by omega⟩
  refine l_aload_n C dL_law_478 rfl rfl ?_
  refine l_aload_n C dL_law_479 rfl rfl ?_
  refine l_iload C dL_law_480 rfl ?_
  refine l_iconst C dL_law_482 ?_
  refine l_iadd C dL_law_483 ?_
  refine l_sld C (by omega) (by omega) dL_law_484 ?_
  refine l_aload_n C dL_law_485 rfl rfl ?_
  refine l_iload C dL_law_486 rfl ?_
  refine l_iconst C dL_law_488 ?_
  refine l_iadd C dL_law_489 ?_
  refine l_sld C (by omega) (by omega) dL_law_490 ?_
  refine l_aload_n C dL_law_491 rfl rfl ?_
  refine l_h (dd := 10) (mc := 1) (ms := 6) (np := 4) (st := []) C hR (kG_byteOf z.2.1 D cA ad hJ hl0 a hoff v σ (Jv_x hv) ((xs ((i : Int) + 1).toNat).toInt) ((xs ((i : Int) + 2).toNat).toInt) (l_rng _) (l_rng _) ) dL_law_492 mL_byteOf sL_byteOf iL wL_byteOf ⟨by decide +kernel, by decide +kernel, by decide +kernel⟩ (by decide) (by decide) rfl (by decide) rfl (fun k v1 σ1 hy => ?_)
  refine l_istore C dL_law_495 (by decide) ?_
  show lj z D cA ad am a 7 Q (kc + 1) (ks + 6) σ1 τ v1 497 [some (.ref b), some (.ref (ad 0)), some (.ref (am 0)), some (.ref a), some (.int (fI (i : Int))), some (.int (fI k)), o6] []
  refine l_aload_n C dL_law_497 rfl rfl ?_
  refine l_aload_n C dL_law_498 rfl rfl ?_
  refine l_iload C dL_law_499 rfl ?_
  refine l_iconst C dL_law_501 ?_
  refine l_iadd C dL_law_502 ?_
  refine l_sld C (by omega) (by omega) dL_law_503 ?_
  refine l_aload_n C dL_law_504 rfl rfl ?_
  refine l_iload C dL_law_505 rfl ?_
  refine l_iconst C dL_law_507 ?_
  refine l_iadd C dL_law_508 ?_
  refine l_sld C (by omega) (by omega) dL_law_509 ?_
  refine l_mI (dd := 10) (np := 2) (st := []) C hR (kU_byteOf z.2.1 D cA am hJm τ (Jv_m hv) ((xs ((i : Int) + 1).toNat).toInt) ((xs ((i : Int) + 2).toNat).toInt) (l_rng _) (l_rng _) ) dL_law_510 gW_121 ⟨rfl, by decide +kernel, by decide +kernel, by decide +kernel⟩ (by decide) (by decide) rfl (by decide) rfl (fun r τ1 hu => ?_)
  refine l_istore C dL_law_513 (by decide) ?_
  show lj z D cA ad am a 7 Q (kc + 1) (ks + 6) σ1 τ1 v1 515 [some (.ref b), some (.ref (ad 0)), some (.ref (am 0)), some (.ref a), some (.int (fI (i : Int))), some (.int (fI k)), some (.int (fI r))] []
  refine l_goto (tgt := 691) C dL_law_515 (by decide) ?_
  exact kend _ _ _ _ _ _ _ (Nat.le_refl _) (Nat.le_refl _) (sj_byteOf hv  hy hu)
theorem l_case12 (C : lfc z D cA ad am a 7 b L xs cL_law RL) (hl0 : z.2.1.stackTraces = false) (hR : 10 ≤ z.2.2.2.1.frames ∧ 40 * 10 ≤ z.2.2.2.1.locals ∧ kc + 1 ≤ z.2.2.2.1.cells ∧ ks + 6 ≤ z.2.2.2.1.slots) (hiL : i + 4 ≤ L) (hL : L ≤ 2048) (hv : Jv σ τ) (kend : ∀ (kc' ks' : Nat) (σ τ : fS) (v : Int) (x5 x6 : Option Value), kc' ≤ kc + 1 → ks' ≤ ks + 6 → Jv σ τ → lj z D cA ad am a 7 Q kc' ks' σ τ v 691 [some (.ref b), some (.ref (ad 0)), some (.ref (am 0)), some (.ref a), some (.int (fI (i : Int))), x5, x6] []) : lj z D cA ad am a 7 Q kc ks σ τ v 518 [some (.ref b), some (.ref (ad 0)), some (.ref (am 0)), some (.ref a), some (.int (fI (i : Int))), o5, o6] [] := by
  have hJ := C.2.2.2.2.2.2.1
  have hJm := C.2.2.2.2.2.2.2.1
  have hoff := C.2.2.2.2.2.2.2.2.1
  have hR0 : 10 ≤ z.2.2.2.1.frames ∧ 40 * 10 ≤ z.2.2.2.1.locals ∧ kc ≤ z.2.2.2.1.cells ∧ ks ≤ z.2.2.2.1.slots := ⟨hR.1, hR.2.1, by omega, by omega⟩
  refine l_aload_n C dL_law_518 rfl rfl ?_
  refine l_aload_n C dL_law_519 rfl rfl ?_
  refine l_iload C dL_law_520 rfl ?_
  refine l_iconst C dL_law_522 ?_
  refine l_iadd C dL_law_523 ?_
  refine l_sld C (by omega) (by omega) dL_law_524 ?_
  refine l_aload_n C dL_law_525 rfl rfl ?_
  refine l_h (dd := 10) (mc := 1) (ms := 6) (np := 3) (st := []) C hR (kG_size z.2.1 D cA ad hJ hl0 a hoff v σ (Jv_x hv) ((xs ((i : Int) + 1).toNat).toInt) (l_rng _) ) dL_law_526 mL_size sL_size iL wL_size ⟨by decide +kernel, by decide +kernel, by decide +kernel⟩ (by decide) (by decide) rfl (by decide) rfl (fun k v1 σ1 hy => ?_)
  refine l_istore C dL_law_529 (by decide) ?_
  show lj z D cA ad am a 7 Q (kc + 1) (ks + 6) σ1 τ v1 531 [some (.ref b), some (.ref (ad 0)), some (.ref (am 0)), some (.ref a), some (.int (fI (i : Int))), some (.int (fI k)), o6] []
  refine l_aload_n C dL_law_531 rfl rfl ?_
  refine l_aload_n C dL_law_532 rfl rfl ?_
  refine l_iload C dL_law_533 rfl ?_
  refine l_iconst C dL_law_535 ?_
  refine l_iadd C dL_law_536 ?_
  refine l_sld C (by omega) (by omega) dL_law_537 ?_
  refine l_mI (dd := 10) (np := 1) (st := []) C hR (kU_size z.2.1 D cA am hJm τ (Jv_m hv) ((xs ((i : Int) + 1).toNat).toInt) (l_rng _) ) dL_law_538 gW_124 ⟨rfl, by decide +kernel, by decide +kernel, by decide +kernel⟩ (by decide) (by decide) rfl (by decide) rfl (fun r τ1 hu => ?_)
  refine l_istore C dL_law_541 (by decide) ?_
  show lj z D cA ad am a 7 Q (kc + 1) (ks + 6) σ1 τ1 v1 543 [some (.ref b), some (.ref (ad 0)), some (.ref (am 0)), some (.ref a), some (.int (fI (i : Int))), some (.int (fI k)), some (.int (fI r))] []
  refine l_goto (tgt := 691) C dL_law_543 (by decide) ?_
  exact kend _ _ _ _ _ _ _ (Nat.le_refl _) (Nat.le_refl _) (sj_size hv  hy hu)
theorem l_case13 (C : lfc z D cA ad am a 7 b L xs cL_law RL) (hl0 : z.2.1.stackTraces = false) (hR : 10 ≤ z.2.2.2.1.frames ∧ 40 * 10 ≤ z.2.2.2.1.locals ∧ kc + 1 ≤ z.2.2.2.1.cells ∧ ks + 6 ≤ z.2.2.2.1.slots) (hiL : i + 4 ≤ L) (hL : L ≤ 2048) (hv : Jv σ τ) (kend : ∀ (kc' ks' : Nat) (σ τ : fS) (v : Int) (x5 x6 : Option Value), kc' ≤ kc + 1 → ks' ≤ ks + 6 → Jv σ τ → lj z D cA ad am a 7 Q kc' ks' σ τ v 691 [some (.ref b), some (.ref (ad 0)), some (.ref (am 0)), some (.ref a), some (.int (fI (i : Int))), x5, x6] []) : lj z D cA ad am a 7 Q kc ks σ τ v 546 [some (.ref b), some (.ref (ad 0)), some (.ref (am 0)), some (.ref a), some (.int (fI (i : Int))), o5, o6] [] := by
  have hJ := C.2.2.2.2.2.2.1
  have hJm := C.2.2.2.2.2.2.2.1
  have hoff := C.2.2.2.2.2.2.2.2.1
  have hR0 : 10 ≤ z.2.2.2.1.frames ∧ 40 * 10 ≤ z.2.2.2.1.locals ∧ kc ≤ z.2.2.2.1.cells ∧ ks ≤ z.2.2.2.1.slots := ⟨hR.1, hR.2.1, by omega, by omega⟩
  refine l_aload_n C dL_law_546 rfl rfl ?_
  refine l_aload_n C dL_law_547 rfl rfl ?_
  refine l_iload C dL_law_548 rfl ?_
  refine l_iconst C dL_law_550 ?_
  refine l_iadd C dL_law_551 ?_
  refine l_sld C (by omega) (by omega) dL_law_552 ?_
  refine l_aload_n C dL_law_553 rfl rfl ?_
  refine l_iload C dL_law_554 rfl ?_
  refine l_iconst C dL_law_556 ?_
  refine l_iadd C dL_law_557 ?_
  refine l_sld C (by omega) (by omega) dL_law_558 ?_
  refine l_aload_n C dL_law_559 rfl rfl ?_
  refine l_h (dd := 10) (mc := 1) (ms := 6) (np := 4) (st := []) C hR (kG_place z.2.1 D cA ad hJ hl0 a hoff v σ (Jv_x hv) ((xs ((i : Int) + 1).toNat).toInt) ((xs ((i : Int) + 2).toNat).toInt) (l_rng _) (l_rng _) ) dL_law_560 mL_place sL_place iL wL_place ⟨by decide +kernel, by decide +kernel, by decide +kernel⟩ (by decide) (by decide) rfl (by decide) rfl (fun k v1 σ1 hy => ?_)
  refine l_istore C dL_law_563 (by decide) ?_
  show lj z D cA ad am a 7 Q (kc + 1) (ks + 6) σ1 τ v1 565 [some (.ref b), some (.ref (ad 0)), some (.ref (am 0)), some (.ref a), some (.int (fI (i : Int))), some (.int (fI k)), o6] []
  refine l_aload_n C dL_law_565 rfl rfl ?_
  refine l_aload_n C dL_law_566 rfl rfl ?_
  refine l_iload C dL_law_567 rfl ?_
  refine l_iconst C dL_law_569 ?_
  refine l_iadd C dL_law_570 ?_
  refine l_sld C (by omega) (by omega) dL_law_571 ?_
  refine l_aload_n C dL_law_572 rfl rfl ?_
  refine l_iload C dL_law_573 rfl ?_
  refine l_iconst C dL_law_575 ?_
  refine l_iadd C dL_law_576 ?_
  refine l_sld C (by omega) (by omega) dL_law_577 ?_
  refine l_mI (dd := 10) (np := 2) (st := []) C hR (kU_place z.2.1 D cA am hJm τ (Jv_m hv) ((xs ((i : Int) + 1).toNat).toInt) ((xs ((i : Int) + 2).toNat).toInt) (l_rng _) (l_rng _) ) dL_law_578 gW_127 ⟨rfl, by decide +kernel, by decide +kernel, by decide +kernel⟩ (by decide) (by decide) rfl (by decide) rfl (fun r τ1 hu => ?_)
  refine l_istore C dL_law_581 (by decide) ?_
  show lj z D cA ad am a 7 Q (kc + 1) (ks + 6) σ1 τ1 v1 583 [some (.ref b), some (.ref (ad 0)), some (.ref (am 0)), some (.ref a), some (.int (fI (i : Int))), some (.int (fI k)), some (.int (fI r))] []
  refine l_goto (tgt := 691) C dL_law_583 (by decide) ?_
  exact kend _ _ _ _ _ _ _ (Nat.le_refl _) (Nat.le_refl _) (sj_place hv  hy hu)
theorem l_case14 (C : lfc z D cA ad am a 7 b L xs cL_law RL) (hl0 : z.2.1.stackTraces = false) (hR : 10 ≤ z.2.2.2.1.frames ∧ 40 * 10 ≤ z.2.2.2.1.locals ∧ kc + 1 ≤ z.2.2.2.1.cells ∧ ks + 6 ≤ z.2.2.2.1.slots) (hiL : i + 4 ≤ L) (hL : L ≤ 2048) (hv : Jv σ τ) (kend : ∀ (kc' ks' : Nat) (σ τ : fS) (v : Int) (x5 x6 : Option Value), kc' ≤ kc + 1 → ks' ≤ ks + 6 → Jv σ τ → lj z D cA ad am a 7 Q kc' ks' σ τ v 691 [some (.ref b), some (.ref (ad 0)), some (.ref (am 0)), some (.ref a), some (.int (fI (i : Int))), x5, x6] []) : lj z D cA ad am a 7 Q kc ks σ τ v 586 [some (.ref b), some (.ref (ad 0)), some (.ref (am 0)), some (.ref a), some (.int (fI (i : Int))), o5, o6] [] := by
  have hJ := C.2.2.2.2.2.2.1
  have hJm := C.2.2.2.2.2.2.2.1
  have hoff := C.2.2.2.2.2.2.2.2.1
  have hR0 : 10 ≤ z.2.2.2.1.frames ∧ 40 * 10 ≤ z.2.2.2.1.locals ∧ kc ≤ z.2.2.2.1.cells ∧ ks ≤ z.2.2.2.1.slots := ⟨hR.1, hR.2.1, by omega, by omega⟩
  refine l_aload_n C dL_law_586 rfl rfl ?_
  refine l_aload_n C dL_law_587 rfl rfl ?_
  refine l_iload C dL_law_588 rfl ?_
  refine l_iconst C dL_law_590 ?_
  refine l_iadd C dL_law_591 ?_
  refine l_sld C (by omega) (by omega) dL_law_592 ?_
  refine l_aload_n C dL_law_593 rfl rfl ?_
  refine l_iload C dL_law_594 rfl ?_
  refine l_iconst C dL_law_596 ?_
  refine l_iadd C dL_law_597 ?_
  refine l_sld C (by omega) (by omega) dL_law_598 ?_
  refine l_aload_n C dL_law_599 rfl rfl ?_
  refine l_h (dd := 10) (mc := 1) (ms := 6) (np := 4) (st := []) C hR (kG_differ z.2.1 D cA ad hJ hl0 a hoff v σ (Jv_x hv) ((xs ((i : Int) + 1).toNat).toInt) ((xs ((i : Int) + 2).toNat).toInt) (l_rng _) (l_rng _) ) dL_law_600 mL_differ sL_differ iL wL_differ ⟨by decide +kernel, by decide +kernel, by decide +kernel⟩ (by decide) (by decide) rfl (by decide) rfl (fun k v1 σ1 hy => ?_)
  refine l_istore C dL_law_603 (by decide) ?_
  show lj z D cA ad am a 7 Q (kc + 1) (ks + 6) σ1 τ v1 605 [some (.ref b), some (.ref (ad 0)), some (.ref (am 0)), some (.ref a), some (.int (fI (i : Int))), some (.int (fI k)), o6] []
  refine l_aload_n C dL_law_605 rfl rfl ?_
  refine l_aload_n C dL_law_606 rfl rfl ?_
  refine l_iload C dL_law_607 rfl ?_
  refine l_iconst C dL_law_609 ?_
  refine l_iadd C dL_law_610 ?_
  refine l_sld C (by omega) (by omega) dL_law_611 ?_
  refine l_aload_n C dL_law_612 rfl rfl ?_
  refine l_iload C dL_law_613 rfl ?_
  refine l_iconst C dL_law_615 ?_
  refine l_iadd C dL_law_616 ?_
  refine l_sld C (by omega) (by omega) dL_law_617 ?_
  refine l_mI (dd := 10) (np := 2) (st := []) C hR (kU_differ z.2.1 D cA am hJm τ (Jv_m hv) ((xs ((i : Int) + 1).toNat).toInt) ((xs ((i : Int) + 2).toNat).toInt) (l_rng _) (l_rng _) ) dL_law_618 gW_130 ⟨rfl, by decide +kernel, by decide +kernel, by decide +kernel⟩ (by decide) (by decide) rfl (by decide) rfl (fun r τ1 hu => ?_)
  refine l_istore C dL_law_621 (by decide) ?_
  show lj z D cA ad am a 7 Q (kc + 1) (ks + 6) σ1 τ1 v1 623 [some (.ref b), some (.ref (ad 0)), some (.ref (am 0)), some (.ref a), some (.int (fI (i : Int))), some (.int (fI k)), some (.int (fI r))] []
  refine l_goto (tgt := 691) C dL_law_623 (by decide) ?_
  exact kend _ _ _ _ _ _ _ (Nat.le_refl _) (Nat.le_refl _) (sj_differ hv  hy hu)
theorem l_case15 (C : lfc z D cA ad am a 7 b L xs cL_law RL) (hl0 : z.2.1.stackTraces = false) (hR : 10 ≤ z.2.2.2.1.frames ∧ 40 * 10 ≤ z.2.2.2.1.locals ∧ kc + 1 ≤ z.2.2.2.1.cells ∧ ks + 6 ≤ z.2.2.2.1.slots) (hiL : i + 4 ≤ L) (hL : L ≤ 2048) (hv : Jv σ τ) (kend : ∀ (kc' ks' : Nat) (σ τ : fS) (v : Int) (x5 x6 : Option Value), kc' ≤ kc + 1 → ks' ≤ ks + 6 → Jv σ τ → lj z D cA ad am a 7 Q kc' ks' σ τ v 691 [some (.ref b), some (.ref (ad 0)), some (.ref (am 0)), some (.ref a), some (.int (fI (i : Int))), x5, x6] []) : lj z D cA ad am a 7 Q kc ks σ τ v 626 [some (.ref b), some (.ref (ad 0)), some (.ref (am 0)), some (.ref a), some (.int (fI (i : Int))), o5, o6] [] := by
  have hJ := C.2.2.2.2.2.2.1
  have hJm := C.2.2.2.2.2.2.2.1
  have hoff := C.2.2.2.2.2.2.2.2.1
  have hR0 : 10 ≤ z.2.2.2.1.frames ∧ 40 * 10 ≤ z.2.2.2.1.locals ∧ kc ≤ z.2.2.2.1.cells ∧ ks ≤ z.2.2.2.1.slots := ⟨hR.1, hR.2.1, by omega, by omega⟩
  refine l_aload_n C dL_law_626 rfl rfl ?_
  refine l_aload_n C dL_law_627 rfl rfl ?_
  refine l_iload C dL_law_628 rfl ?_
  refine l_iconst C dL_law_630 ?_
  refine l_iadd C dL_law_631 ?_
  refine l_sld C (by omega) (by omega) dL_law_632 ?_
  refine l_aload_n C dL_law_633 rfl rfl ?_
  refine l_iload C dL_law_634 rfl ?_
  refine l_iconst C dL_law_636 ?_
  refine l_iadd C dL_law_637 ?_
  refine l_sld C (by omega) (by omega) dL_law_638 ?_
  refine l_aload_n C dL_law_639 rfl rfl ?_
  refine l_h (dd := 10) (mc := 1) (ms := 6) (np := 4) (st := []) C hR (kG_row z.2.1 D cA ad hJ hl0 a hoff v σ (Jv_x hv) ((xs ((i : Int) + 1).toNat).toInt) ((xs ((i : Int) + 2).toNat).toInt) (l_rng _) (l_rng _) ) dL_law_640 mL_row sL_row iL wL_row ⟨by decide +kernel, by decide +kernel, by decide +kernel⟩ (by decide) (by decide) rfl (by decide) rfl (fun k v1 σ1 hy => ?_)
  refine l_istore C dL_law_643 (by decide) ?_
  show lj z D cA ad am a 7 Q (kc + 1) (ks + 6) σ1 τ v1 645 [some (.ref b), some (.ref (ad 0)), some (.ref (am 0)), some (.ref a), some (.int (fI (i : Int))), some (.int (fI k)), o6] []
  refine l_aload_n C dL_law_645 rfl rfl ?_
  refine l_aload_n C dL_law_646 rfl rfl ?_
  refine l_iload C dL_law_647 rfl ?_
  refine l_iconst C dL_law_649 ?_
  refine l_iadd C dL_law_650 ?_
  refine l_sld C (by omega) (by omega) dL_law_651 ?_
  refine l_aload_n C dL_law_652 rfl rfl ?_
  refine l_iload C dL_law_653 rfl ?_
  refine l_iconst C dL_law_655 ?_
  refine l_iadd C dL_law_656 ?_
  refine l_sld C (by omega) (by omega) dL_law_657 ?_
  refine l_mI (dd := 10) (np := 2) (st := []) C hR (kU_row z.2.1 D cA am hJm τ (Jv_m hv) ((xs ((i : Int) + 1).toNat).toInt) ((xs ((i : Int) + 2).toNat).toInt) (l_rng _) (l_rng _) ) dL_law_658 gW_133 ⟨rfl, by decide +kernel, by decide +kernel, by decide +kernel⟩ (by decide) (by decide) rfl (by decide) rfl (fun r τ1 hu => ?_)
  refine l_istore C dL_law_661 (by decide) ?_
  show lj z D cA ad am a 7 Q (kc + 1) (ks + 6) σ1 τ1 v1 663 [some (.ref b), some (.ref (ad 0)), some (.ref (am 0)), some (.ref a), some (.int (fI (i : Int))), some (.int (fI k)), some (.int (fI r))] []
  refine l_goto (tgt := 691) C dL_law_663 (by decide) ?_
  exact kend _ _ _ _ _ _ _ (Nat.le_refl _) (Nat.le_refl _) (sj_row hv  hy hu)
theorem l_case6 (C : lfc z D cA ad am a 7 b L xs cL_law RL) (hl0 : z.2.1.stackTraces = false) (hR : 10 ≤ z.2.2.2.1.frames ∧ 40 * 10 ≤ z.2.2.2.1.locals ∧ kc + 1 ≤ z.2.2.2.1.cells ∧ ks + 6 ≤ z.2.2.2.1.slots) (hiL : i + 4 ≤ L) (hL : L ≤ 2048) (hv : Jv σ τ) (kend : ∀ (kc' ks' : Nat) (σ τ : fS) (v : Int) (x5 x6 : Option Value), kc' ≤ kc + 1 → ks' ≤ ks + 6 → Jv σ τ → lj z D cA ad am a 7 Q kc' ks' σ τ v 691 [some (.ref b), some (.ref (ad 0)), some (.ref (am 0)), some (.ref a), some (.int (fI (i : Int))), x5, x6] []) : lj z D cA ad am a 7 Q kc ks σ τ v 339 [some (.ref b), some (.ref (ad 0)), some (.ref (am 0)), some (.ref a), some (.int (fI (i : Int))), o5, o6] [] := by
  have hJ := C.2.2.2.2.2.2.1
  have hJm := C.2.2.2.2.2.2.2.1
  have hoff := C.2.2.2.2.2.2.2.2.1
  have hR0 : 10 ≤ z.2.2.2.1.frames ∧ 40 * 10 ≤ z.2.2.2.1.locals ∧ kc ≤ z.2.2.2.1.cells ∧ ks ≤ z.2.2.2.1.slots := ⟨hR.1, hR.2.1, by omega, by omega⟩
  refine l_aload_n C dL_law_339 rfl rfl ?_
  refine l_xI (dd := 10) (np := 0) (st := []) C hR0 (kX_XA_read z.2.1 D cA ad hJ σ (σ.2 9) (σ.1 8 1) rfl rfl ((Jv_x hv).1 8 1) (fun q => (Jv_x hv).2 9 q) (Jv_x hv)) dL_law_340 gW_101 ⟨rfl, by decide +kernel, by decide +kernel, by decide +kernel⟩ (by decide) (by decide) rfl (by decide) rfl (fun v1 σ1 hy => ?_)
  refine l_pop C dL_law_343 rfl ?_
  refine l_aload_n C dL_law_344 rfl rfl ?_
  refine l_mI (dd := 10) (np := 0) (st := []) C hR0 (kU_read z.2.1 D cA am hJm τ (Jv_m hv)) dL_law_345 gW_104 ⟨rfl, by decide +kernel, by decide +kernel, by decide +kernel⟩ (by decide) (by decide) rfl (Nat.le_of_ble_eq_true rfl) rfl (fun r τ1 hu => ?_)
  refine l_pop C dL_law_348 rfl ?_
  refine l_goto (tgt := 691) C dL_law_349 (by decide) ?_
  exact kend _ _ _ _ _ _ _ (Nat.le_succ _) (Nat.le_add_right _ _) (sj_read hv hy hu)
theorem l_case16 (C : lfc z D cA ad am a 7 b L xs cL_law RL) (hl0 : z.2.1.stackTraces = false) (hR : 10 ≤ z.2.2.2.1.frames ∧ 40 * 10 ≤ z.2.2.2.1.locals ∧ kc + 1 ≤ z.2.2.2.1.cells ∧ ks + 6 ≤ z.2.2.2.1.slots) (hiL : i + 4 ≤ L) (hL : L ≤ 2048) (hv : Jv σ τ) (kend : ∀ (kc' ks' : Nat) (σ τ : fS) (v : Int) (x5 x6 : Option Value), kc' ≤ kc + 1 → ks' ≤ ks + 6 → Jv σ τ → lj z D cA ad am a 7 Q kc' ks' σ τ v 691 [some (.ref b), some (.ref (ad 0)), some (.ref (am 0)), some (.ref a), some (.int (fI (i : Int))), x5, x6] []) : lj z D cA ad am a 7 Q kc ks σ τ v 666 [some (.ref b), some (.ref (ad 0)), some (.ref (am 0)), some (.ref a), some (.int (fI (i : Int))), o5, o6] [] := by
  have hJ := C.2.2.2.2.2.2.1
  have hJm := C.2.2.2.2.2.2.2.1
  have hoff := C.2.2.2.2.2.2.2.2.1
  have hR0 : 10 ≤ z.2.2.2.1.frames ∧ 40 * 10 ≤ z.2.2.2.1.locals ∧ kc ≤ z.2.2.2.1.cells ∧ ks ≤ z.2.2.2.1.slots := ⟨hR.1, hR.2.1, by omega, by omega⟩
  refine l_aload_n C dL_law_666 rfl rfl ?_
  refine l_aload_n C dL_law_667 rfl rfl ?_
  refine l_iload C dL_law_668 rfl ?_
  refine l_iconst C dL_law_670 ?_
  refine l_iadd C dL_law_671 ?_
  refine l_sld C (by omega) (by omega) dL_law_672 ?_
  refine l_xI (dd := 10) (np := 1) (st := []) C hR0 (kX_XA_told z.2.1 D cA ad hJ σ (xs ((i : Int) + 1).toNat).toInt (l_rng _) (fun q => (Jv_x hv).2 2 q) (fun q => (Jv_x hv).2 6 q) (fun q => (Jv_x hv).2 7 q) ((Jv_x hv).1 8 2)) dL_law_673 gW_134 ⟨rfl, by decide +kernel, by decide +kernel, by decide +kernel⟩ (by decide) (by decide) rfl (by decide) rfl (fun v1 σ1 hy => ?_)
  obtain ⟨hy, hs1⟩ := hy
  subst σ1
  refine l_aload_n C dL_law_676 rfl rfl ?_
  refine l_aload_n C dL_law_677 rfl rfl ?_
  refine l_iload C dL_law_678 rfl ?_
  refine l_iconst C dL_law_680 ?_
  refine l_iadd C dL_law_681 ?_
  refine l_sld C (by omega) (by omega) dL_law_682 ?_
  refine l_mI (dd := 10) (np := 1) (st := [.int (fI v1)]) C hR0 (kU_told z.2.1 D cA am hJm τ (Jv_m hv) (xs ((i : Int) + 1).toNat).toInt (l_rng _)) dL_law_683 gW_137 ⟨rfl, by decide +kernel, by decide +kernel, by decide +kernel⟩ (by decide) (by decide) rfl (Nat.le_of_ble_eq_true rfl) rfl (fun r τ1 hu => ?_)
  obtain ⟨hj, hvr, hr⟩ := st_told hv hy hu
  subst hvr
  clear hy hu
  refine l_icmp_eq (tgt := 691) C dL_law_686 (by decide) hr hr (fun _ => ?_) (fun h => absurd rfl h)
  exact kend _ _ _ _ _ _ _ (Nat.le_succ _) (Nat.le_add_right _ _) hj
theorem l_loop (C : lfc z D cA ad am a 7 b L xs cL_law RL) (hL : L ≤ 2048) (hl0 : z.2.1.stackTraces = false) {KC KS : Nat} (hF : 10 ≤ z.2.2.2.1.frames ∧ 40 * 10 ≤ z.2.2.2.1.locals ∧ KC ≤ z.2.2.2.1.cells ∧ KS ≤ z.2.2.2.1.slots) (kret : ∀ (kc' ks' : Nat) (σ τ : fS) (v : Int) (lv : List (Option Value)), kc' ≤ KC → ks' ≤ KS → lj z D cA ad am a 7 Q kc' ks' σ τ v 698 lv [.int (fI 1)]) : ∀ (m i kc ks : Nat) (σ τ : fS) (v : Int) (o5 o6 : Option Value), L ≤ i + 4 * m + 3 → i ≤ L → kc + m ≤ KC → ks + 6 * m ≤ KS → Jv σ τ → lj z D cA ad am a 7 Q kc ks σ τ v 23 [some (.ref b), some (.ref (ad 0)), some (.ref (am 0)), some (.ref a), some (.int (fI (i : Int))), o5, o6] [] := by
  intro m
  induction m with
  | zero =>
    intro i kc ks σ τ v o5 o6 h1 h2 h3 h4 hv
    refine l_iload C dL_law_23 rfl ?_
    refine l_aload_n C dL_law_25 rfl rfl ?_
    refine l_slen C dL_law_26 ?_
    refine l_iconst C dL_law_27 ?_
    refine l_isub C dL_law_28 ?_
    refine l_icmp_gt (tgt := 697) C dL_law_29 (by decide) (by omega) (by omega) (fun _ => ?_) (fun h => absurd (show (L : Int) - 4 < (i : Int) by omega) h)
    refine l_iconst C dL_law_697 ?_
    exact kret _ _ _ _ _ _ (by omega) (by omega)
  | succ m ih =>
    intro i kc ks σ τ v o5 o6 h1 h2 h3 h4 hv
    refine l_iload C dL_law_23 rfl ?_
    refine l_aload_n C dL_law_25 rfl rfl ?_
    refine l_slen C dL_law_26 ?_
    refine l_iconst C dL_law_27 ?_
    refine l_isub C dL_law_28 ?_
    refine l_icmp_gt (tgt := 697) C dL_law_29 (by decide) (by omega) (by omega) (fun _ => ?_) (fun h => ?_)
    · refine l_iconst C dL_law_697 ?_
      exact kret _ _ _ _ _ _ (by omega) (by omega)
    have hiL : i + 4 ≤ L := by omega
    have hR : 10 ≤ z.2.2.2.1.frames ∧ 40 * 10 ≤ z.2.2.2.1.locals ∧ kc + 1 ≤ z.2.2.2.1.cells ∧ ks + 6 ≤ z.2.2.2.1.slots := ⟨hF.1, hF.2.1, by omega, by omega⟩
    have kend : ∀ (kc' ks' : Nat) (σ τ : fS) (v : Int) (x5 x6 : Option Value), kc' ≤ kc + 1 → ks' ≤ ks + 6 → Jv σ τ → lj z D cA ad am a 7 Q kc' ks' σ τ v 691 [some (.ref b), some (.ref (ad 0)), some (.ref (am 0)), some (.ref a), some (.int (fI (i : Int))), x5, x6] [] := by
      intro kc' ks' σ τ v x5 x6 g1 g2 g3
      refine l_iinc C dL_law_691 rfl (by decide) ?_
      have e : ((i : Int) + 4) = ((i + 4 : Nat) : Int) := by omega
      show lj z D cA ad am a 7 Q kc' ks' σ τ v 694 [some (.ref b), some (.ref (ad 0)), some (.ref (am 0)), some (.ref a), some (.int (fI ((i : Int) + 4))), x5, x6] []
      rw [e]
      refine l_goto (tgt := 23) C dL_law_694 (by decide) ?_
      exact ih (i + 4) kc' ks' σ τ v x5 x6 (by omega) (by omega) (by omega) (by omega) g3
    refine l_aload_n C dL_law_32 rfl rfl ?_
    refine l_iload C dL_law_33 rfl ?_
    refine l_sld C (by omega) (by omega) dL_law_35 ?_
    refine l_bipush C dL_law_36 (by decide) ?_
    refine l_and C dL_law_38 (fun j hj => ?_)
    by_cases h17 : j < 17
    · obtain rfl | rfl | rfl | rfl | rfl | rfl | rfl | rfl | rfl | rfl | rfl | rfl | rfl | rfl | rfl | rfl | rfl : j = 0 ∨ j = 1 ∨ j = 2 ∨ j = 3 ∨ j = 4 ∨ j = 5 ∨ j = 6 ∨ j = 7 ∨ j = 8 ∨ j = 9 ∨ j = 10 ∨ j = 11 ∨ j = 12 ∨ j = 13 ∨ j = 14 ∨ j = 15 ∨ j = 16 := by omega
      · refine l_tIn (tgt := 120) C dL_law_39 (by decide) (by decide) (by decide) rfl (by decide) ?_
        exact l_case0 C hl0 hR hiL hL hv kend
      · refine l_tIn (tgt := 157) C dL_law_39 (by decide) (by decide) (by decide) rfl (by decide) ?_
        exact l_case1 C hl0 hR hiL hL hv kend
      · refine l_tIn (tgt := 211) C dL_law_39 (by decide) (by decide) (by decide) rfl (by decide) ?_
        exact l_case2 C hl0 hR hiL hL hv kend
      · refine l_tIn (tgt := 239) C dL_law_39 (by decide) (by decide) (by decide) rfl (by decide) ?_
        exact l_case3 C hl0 hR hiL hL hv kend
      · refine l_tIn (tgt := 295) C dL_law_39 (by decide) (by decide) (by decide) rfl (by decide) ?_
        exact l_case4 C hl0 hR hiL hL hv kend
      · refine l_tIn (tgt := 323) C dL_law_39 (by decide) (by decide) (by decide) rfl (by decide) ?_
        exact l_case5 C hl0 hR hiL hL hv kend
      · refine l_tIn (tgt := 339) C dL_law_39 (by decide) (by decide) (by decide) rfl (by decide) ?_
        exact l_case6 C hl0 hR hiL hL hv kend
      · refine l_tIn (tgt := 352) C dL_law_39 (by decide) (by decide) (by decide) rfl (by decide) ?_
        exact l_case7 C hl0 hR hiL hL hv kend
      · refine l_tIn (tgt := 394) C dL_law_39 (by decide) (by decide) (by decide) rfl (by decide) ?_
        exact l_case8 C hl0 hR hiL hL hv kend
      · refine l_tIn (tgt := 422) C dL_law_39 (by decide) (by decide) (by decide) rfl (by decide) ?_
        exact l_case9 C hl0 hR hiL hL hv kend
      · refine l_tIn (tgt := 450) C dL_law_39 (by decide) (by decide) (by decide) rfl (by decide) ?_
        exact l_case10 C hl0 hR hiL hL hv kend
      · refine l_tIn (tgt := 478) C dL_law_39 (by decide) (by decide) (by decide) rfl (by decide) ?_
        exact l_case11 C hl0 hR hiL hL hv kend
      · refine l_tIn (tgt := 518) C dL_law_39 (by decide) (by decide) (by decide) rfl (by decide) ?_
        exact l_case12 C hl0 hR hiL hL hv kend
      · refine l_tIn (tgt := 546) C dL_law_39 (by decide) (by decide) (by decide) rfl (by decide) ?_
        exact l_case13 C hl0 hR hiL hL hv kend
      · refine l_tIn (tgt := 586) C dL_law_39 (by decide) (by decide) (by decide) rfl (by decide) ?_
        exact l_case14 C hl0 hR hiL hL hv kend
      · refine l_tIn (tgt := 626) C dL_law_39 (by decide) (by decide) (by decide) rfl (by decide) ?_
        exact l_case15 C hl0 hR hiL hL hv kend
      · refine l_tIn (tgt := 666) C dL_law_39 (by decide) (by decide) (by decide) rfl (by decide) ?_
        exact l_case16 C hl0 hR hiL hL hv kend
    · refine l_tOut (tgt := 691) C dL_law_39 (by omega) (Or.inr (by omega)) (by decide) ?_
      exact kend _ _ _ _ _ _ _ (Nat.le_succ _) (Nat.le_add_right _ _) hv
end LB
