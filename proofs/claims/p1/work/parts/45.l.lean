section LB
variable {z : fZ} {D : va_G} {cA : Nat → ClassId} {ad am : Nat → Nat} {a b : Nat} {xs : Nat → Int32} {Q : State → Prop} {kc ks : Nat} {v : Int}
theorem l_rng (x : Int32) : -2147483648 ≤ x.toInt ∧ x.toInt ≤ 2147483647 := ⟨by have := Int32.le_toInt x; omega, by have := Int32.toInt_lt x; omega⟩
theorem l_brng (z : Int) : -128 ≤ z.bmod 256 ∧ z.bmod 256 ≤ 127 := ⟨by have := Int.le_bmod (x := z) (m := 256) (by omega); omega, by have := Int.bmod_lt (x := z) (m := 256) (by omega); omega⟩
theorem l_case0 (C : lfc z D cA ad am a 7 b 4 xs cL_law RL) (hl0 : z.2.1.stackTraces = false) (hR : 9 ≤ z.2.2.2.1.frames ∧ 40 * 9 ≤ z.2.2.2.1.locals ∧ kc + 1 ≤ z.2.2.2.1.cells ∧ ks + 6 ≤ z.2.2.2.1.slots) (kend : ∀ (kc' ks' : Nat) (σ τ : fS) (v : Int) (x5 x6 : Option Value), kc' ≤ kc + 1 → ks' ≤ ks + 6 → lj z D cA ad am a 7 Q kc' ks' σ τ v 1108 [some (.ref b), some (.ref (ad 0)), some (.ref (am 0)), some (.ref a), some (.int (fI 0)), x5, x6] []) : lj z D cA ad am a 7 Q kc ks x_0 x_0 v 120 [some (.ref b), some (.ref (ad 0)), some (.ref (am 0)), some (.ref a), some (.int (fI 0)), none, none] [] := by
  obtain ⟨g1, g2, g3, g4⟩ := hR
  have hR : 9 ≤ z.2.2.2.1.frames ∧ 40 * 9 ≤ z.2.2.2.1.locals ∧ kc + 1 ≤ z.2.2.2.1.cells ∧ ks + 6 ≤ z.2.2.2.1.slots := ⟨g1, g2, g3, g4⟩
  have hR0 : 9 ≤ z.2.2.2.1.frames ∧ 40 * 9 ≤ z.2.2.2.1.locals ∧ kc ≤ z.2.2.2.1.cells ∧ ks ≤ z.2.2.2.1.slots := ⟨g1, g2, by omega, by omega⟩
  have hJ := C.2.2.2.2.2.2.1
  have hJm := C.2.2.2.2.2.2.2.1
  have hoff := C.2.2.2.2.2.2.2.2.1
  have hx : ∀ i, -2147483648 ≤ (xs i).toInt ∧ (xs i).toInt ≤ 2147483647 := fun i => l_rng _
  have hb : ∀ i, -128 ≤ (xs i).toInt.bmod 256 ∧ (xs i).toInt.bmod 256 ≤ 127 := fun i => l_brng _
  have hbb : ∀ i, -2147483648 ≤ (xs i).toInt.bmod 256 ∧ (xs i).toInt.bmod 256 ≤ 2147483647 := fun i => by have := hb i; omega
  have hw9 : ∀ w : Int, w = 0 ∨ w = 1 → -2147483648 ≤ w ∧ w ≤ 2147483647 := fun w h => by omega
  refine l_aload_n C dL_law_120 rfl rfl ?_
  refine l_aload_n C dL_law_121 rfl rfl ?_
  refine l_iload C dL_law_122 rfl ?_
  refine l_iconst C dL_law_124 ?_
  refine l_iadd C dL_law_125 ?_
  refine l_sld C (by decide) (by decide) dL_law_126 ?_
  show lj z D cA ad am a 7 Q kc ks x_0 x_0 v 127 [some (.ref b), some (.ref (ad 0)), some (.ref (am 0)), some (.ref a), some (.int (fI 0)), none, none] [.int (fI (xs 1).toInt), .ref (ad 0)]
  refine l_aload_n C dL_law_127 rfl rfl ?_
  refine l_iload C dL_law_128 rfl ?_
  refine l_iconst C dL_law_130 ?_
  refine l_iadd C dL_law_131 ?_
  refine l_sld C (by decide) (by decide) dL_law_132 ?_
  show lj z D cA ad am a 7 Q kc ks x_0 x_0 v 133 [some (.ref b), some (.ref (ad 0)), some (.ref (am 0)), some (.ref a), some (.int (fI 0)), none, none] [.int (fI (xs 2).toInt), .int (fI (xs 1).toInt), .ref (ad 0)]
  refine l_h (dd := 9) (mc := 1) (ms := 6) (np := 3) (st := []) C hR (kL_object z.2.1 D cA ad hJ hl0 a hoff v ((xs 1).toInt) ((xs 2).toInt) (hx 1) (hx 2)) dL_law_133 mL_object sL_object iL wL_object ⟨by decide +kernel, by decide +kernel, by decide +kernel⟩ (by decide) (by decide) rfl (by decide) rfl (fun k v1 σ1 hp => ?_)
  refine l_istore C dL_law_136 (by decide) ?_
  show lj z D cA ad am a 7 Q (kc + 1) (ks + 6) σ1 x_0 v1 138 [some (.ref b), some (.ref (ad 0)), some (.ref (am 0)), some (.ref a), some (.int (fI 0)), some (.int (fI k)), none] []
  refine l_aload_n C dL_law_138 rfl rfl ?_
  refine l_aload_n C dL_law_139 rfl rfl ?_
  refine l_iload C dL_law_140 rfl ?_
  refine l_iconst C dL_law_142 ?_
  refine l_iadd C dL_law_143 ?_
  refine l_sld C (by decide) (by decide) dL_law_144 ?_
  show lj z D cA ad am a 7 Q (kc + 1) (ks + 6) σ1 x_0 v1 145 [some (.ref b), some (.ref (ad 0)), some (.ref (am 0)), some (.ref a), some (.int (fI 0)), some (.int (fI k)), none] [.int (fI (xs 1).toInt), .ref (am 0)]
  refine l_aload_n C dL_law_145 rfl rfl ?_
  refine l_iload C dL_law_146 rfl ?_
  refine l_iconst C dL_law_148 ?_
  refine l_iadd C dL_law_149 ?_
  refine l_sld C (by decide) (by decide) dL_law_150 ?_
  show lj z D cA ad am a 7 Q (kc + 1) (ks + 6) σ1 x_0 v1 151 [some (.ref b), some (.ref (ad 0)), some (.ref (am 0)), some (.ref a), some (.int (fI 0)), some (.int (fI k)), none] [.int (fI (xs 2).toInt), .int (fI (xs 1).toInt), .ref (am 0)]
  refine l_mV (dd := 9) (np := 2) (st := []) C hR (kM_object z.2.1 xCl D cA am hJm x_0 ((xs 1).toInt) ((xs 2).toInt) (hx 1) (hx 2)) dL_law_151 gW_81 ⟨rfl, by decide +kernel, by decide +kernel, by decide +kernel⟩ (by decide) (by decide) rfl (by decide) rfl (fun τ1 hp2 => ?_)
  have he : τ1.1 0 0 = k := by
    rw [hp]
    rcases hp2 with ⟨h, rfl⟩ | ⟨h, h2, rfl⟩ | ⟨h, h2, rfl⟩
    · rw [if_neg h]; rfl
    · rw [if_pos h, if_neg h2]; rfl
    · rw [if_pos h, if_pos h2]; rfl
  have hk : -2147483648 ≤ k ∧ k ≤ 2147483647 := by
    rw [hp]
    split
    · split <;> decide
    · decide
  clear hp hp2
  refine l_aload_n C dL_law_154 rfl rfl ?_
  refine l_mI (dd := 9) (np := 0) (st := []) C hR (kM_thrown z.2.1 xCl D cA am hJm τ1) dL_law_155 gW_82 ⟨rfl, by decide +kernel, by decide +kernel, by decide +kernel⟩ (by decide) (by decide) rfl (by decide) rfl (fun t τ2 hp3 => ?_)
  obtain ⟨rfl, rfl⟩ := hp3
  refine l_iload C dL_law_158 rfl ?_
  refine l_icmp_eq (tgt := 165) C dL_law_160 (by decide) (by rw [he]; exact hk) hk (fun _ => ?_) (fun hne => absurd he hne)
  refine l_goto (tgt := 1108) C dL_law_165 (by decide) ?_
  exact kend _ _ _ _ _ _ _ (Nat.le_refl _) (Nat.le_refl _)
theorem l_case1 (C : lfc z D cA ad am a 7 b 4 xs cL_law RL) (hl0 : z.2.1.stackTraces = false) (hR : 9 ≤ z.2.2.2.1.frames ∧ 40 * 9 ≤ z.2.2.2.1.locals ∧ kc + 1 ≤ z.2.2.2.1.cells ∧ ks + 6 ≤ z.2.2.2.1.slots) (kend : ∀ (kc' ks' : Nat) (σ τ : fS) (v : Int) (x5 x6 : Option Value), kc' ≤ kc + 1 → ks' ≤ ks + 6 → lj z D cA ad am a 7 Q kc' ks' σ τ v 1108 [some (.ref b), some (.ref (ad 0)), some (.ref (am 0)), some (.ref a), some (.int (fI 0)), x5, x6] []) : lj z D cA ad am a 7 Q kc ks x_0 x_0 v 168 [some (.ref b), some (.ref (ad 0)), some (.ref (am 0)), some (.ref a), some (.int (fI 0)), none, none] [] := by
  obtain ⟨g1, g2, g3, g4⟩ := hR
  have hR : 9 ≤ z.2.2.2.1.frames ∧ 40 * 9 ≤ z.2.2.2.1.locals ∧ kc + 1 ≤ z.2.2.2.1.cells ∧ ks + 6 ≤ z.2.2.2.1.slots := ⟨g1, g2, g3, g4⟩
  have hR0 : 9 ≤ z.2.2.2.1.frames ∧ 40 * 9 ≤ z.2.2.2.1.locals ∧ kc ≤ z.2.2.2.1.cells ∧ ks ≤ z.2.2.2.1.slots := ⟨g1, g2, by omega, by omega⟩
  have hJ := C.2.2.2.2.2.2.1
  have hJm := C.2.2.2.2.2.2.2.1
  have hoff := C.2.2.2.2.2.2.2.2.1
  have hx : ∀ i, -2147483648 ≤ (xs i).toInt ∧ (xs i).toInt ≤ 2147483647 := fun i => l_rng _
  have hb : ∀ i, -128 ≤ (xs i).toInt.bmod 256 ∧ (xs i).toInt.bmod 256 ≤ 127 := fun i => l_brng _
  have hbb : ∀ i, -2147483648 ≤ (xs i).toInt.bmod 256 ∧ (xs i).toInt.bmod 256 ≤ 2147483647 := fun i => by have := hb i; omega
  have hw9 : ∀ w : Int, w = 0 ∨ w = 1 → -2147483648 ≤ w ∧ w ≤ 2147483647 := fun w h => by omega
  refine l_aload_n C dL_law_168 rfl rfl ?_
  refine l_aload_n C dL_law_169 rfl rfl ?_
  refine l_iload C dL_law_170 rfl ?_
  refine l_iconst C dL_law_172 ?_
  refine l_iadd C dL_law_173 ?_
  refine l_sld C (by decide) (by decide) dL_law_174 ?_
  show lj z D cA ad am a 7 Q kc ks x_0 x_0 v 175 [some (.ref b), some (.ref (ad 0)), some (.ref (am 0)), some (.ref a), some (.int (fI 0)), none, none] [.int (fI (xs 1).toInt), .ref (ad 0)]
  refine l_aload_n C dL_law_175 rfl rfl ?_
  refine l_iload C dL_law_176 rfl ?_
  refine l_iconst C dL_law_178 ?_
  refine l_iadd C dL_law_179 ?_
  refine l_sld C (by decide) (by decide) dL_law_180 ?_
  show lj z D cA ad am a 7 Q kc ks x_0 x_0 v 181 [some (.ref b), some (.ref (ad 0)), some (.ref (am 0)), some (.ref a), some (.int (fI 0)), none, none] [.int (fI (xs 2).toInt), .int (fI (xs 1).toInt), .ref (ad 0)]
  refine l_aload_n C dL_law_181 rfl rfl ?_
  refine l_iload C dL_law_182 rfl ?_
  refine l_iconst C dL_law_184 ?_
  refine l_iadd C dL_law_185 ?_
  refine l_sld C (by decide) (by decide) dL_law_186 ?_
  show lj z D cA ad am a 7 Q kc ks x_0 x_0 v 187 [some (.ref b), some (.ref (ad 0)), some (.ref (am 0)), some (.ref a), some (.int (fI 0)), none, none] [.int (fI (xs 3).toInt), .int (fI (xs 2).toInt), .int (fI (xs 1).toInt), .ref (ad 0)]
  refine l_i2b C dL_law_187 ?_
  refine l_aload_n C dL_law_188 rfl rfl ?_
  refine l_h (dd := 9) (mc := 1) (ms := 6) (np := 5) (st := []) C hR (kL_octet z.2.1 D cA ad hJ hl0 a hoff v ((xs 1).toInt) ((xs 2).toInt) (((xs 3).toInt.bmod 256)) (hx 1) (hx 2) (hbb 3)) dL_law_189 mL_octet sL_octet iL wL_octet ⟨by decide +kernel, by decide +kernel, by decide +kernel⟩ (by decide) (by decide) rfl (by decide) rfl (fun k v1 σ1 hp => ?_)
  obtain rfl := hp
  refine l_istore C dL_law_192 (by decide) ?_
  show lj z D cA ad am a 7 Q (kc + 1) (ks + 6) σ1 x_0 v1 194 [some (.ref b), some (.ref (ad 0)), some (.ref (am 0)), some (.ref a), some (.int (fI 0)), some (.int (fI 1)), none] []
  refine l_aload_n C dL_law_194 rfl rfl ?_
  refine l_aload_n C dL_law_195 rfl rfl ?_
  refine l_iload C dL_law_196 rfl ?_
  refine l_iconst C dL_law_198 ?_
  refine l_iadd C dL_law_199 ?_
  refine l_sld C (by decide) (by decide) dL_law_200 ?_
  show lj z D cA ad am a 7 Q (kc + 1) (ks + 6) σ1 x_0 v1 201 [some (.ref b), some (.ref (ad 0)), some (.ref (am 0)), some (.ref a), some (.int (fI 0)), some (.int (fI 1)), none] [.int (fI (xs 1).toInt), .ref (am 0)]
  refine l_aload_n C dL_law_201 rfl rfl ?_
  refine l_iload C dL_law_202 rfl ?_
  refine l_iconst C dL_law_204 ?_
  refine l_iadd C dL_law_205 ?_
  refine l_sld C (by decide) (by decide) dL_law_206 ?_
  show lj z D cA ad am a 7 Q (kc + 1) (ks + 6) σ1 x_0 v1 207 [some (.ref b), some (.ref (ad 0)), some (.ref (am 0)), some (.ref a), some (.int (fI 0)), some (.int (fI 1)), none] [.int (fI (xs 2).toInt), .int (fI (xs 1).toInt), .ref (am 0)]
  refine l_aload_n C dL_law_207 rfl rfl ?_
  refine l_iload C dL_law_208 rfl ?_
  refine l_iconst C dL_law_210 ?_
  refine l_iadd C dL_law_211 ?_
  refine l_sld C (by decide) (by decide) dL_law_212 ?_
  show lj z D cA ad am a 7 Q (kc + 1) (ks + 6) σ1 x_0 v1 213 [some (.ref b), some (.ref (ad 0)), some (.ref (am 0)), some (.ref a), some (.int (fI 0)), some (.int (fI 1)), none] [.int (fI (xs 3).toInt), .int (fI (xs 2).toInt), .int (fI (xs 1).toInt), .ref (am 0)]
  refine l_i2b C dL_law_213 ?_
  refine l_mI (dd := 9) (np := 3) (st := []) C hR (kM_octet z.2.1 xCl D cA am hJm x_0 ((xs 1).toInt) ((xs 2).toInt) (((xs 3).toInt.bmod 256)) (hx 1) (hx 2) (hb 3) (fun _ => (show (0 : Int) ≤ 0 ∧ (0 : Int) ≤ 1 by omega)) (fun _ => (show (0 : Int) ≤ 0 ∧ (0 : Int) ≤ 1 by omega)) (fun _ => (show (0 : Int) ≤ 0 ∧ (0 : Int) ≤ 120 by omega)) (fun _ => (show (-128 : Int) ≤ 0 ∧ (0 : Int) ≤ 127 by omega))) dL_law_214 gW_88 ⟨rfl, by decide +kernel, by decide +kernel, by decide +kernel⟩ (by decide) (by decide) rfl (by decide) rfl (fun r τ1 hp2 => ?_)
  have he : τ1.1 0 0 = 1 := by
    rcases hp2 with ⟨h, -⟩ | ⟨-, -, rfl⟩
    · exact absurd (show (0 : Int) = 1 from h.1.2) (by decide)
    · rfl
  have hk : -2147483648 ≤ (1 : Int) ∧ (1 : Int) ≤ 2147483647 := by decide
  clear hp2
  refine l_istore C dL_law_217 (by decide) ?_
  show lj z D cA ad am a 7 Q (kc + 1) (ks + 6) σ1 τ1 v1 219 [some (.ref b), some (.ref (ad 0)), some (.ref (am 0)), some (.ref a), some (.int (fI 0)), some (.int (fI 1)), some (.int (fI r))] []
  refine l_aload_n C dL_law_219 rfl rfl ?_
  refine l_mI (dd := 9) (np := 0) (st := []) C hR (kM_thrown z.2.1 xCl D cA am hJm τ1) dL_law_220 gW_82 ⟨rfl, by decide +kernel, by decide +kernel, by decide +kernel⟩ (by decide) (by decide) rfl (by decide) rfl (fun t τ2 hp3 => ?_)
  obtain ⟨rfl, rfl⟩ := hp3
  refine l_iload C dL_law_223 rfl ?_
  refine l_icmp_eq (tgt := 230) C dL_law_225 (by decide) (by rw [he]; exact hk) hk (fun _ => ?_) (fun hne => absurd he hne)
  refine l_iload C dL_law_230 rfl ?_
  refine l_if_ne (tgt := 247) C dL_law_232 (by decide) hk (fun _ => ?_) (fun h0 => absurd h0 (by decide))
  refine l_goto (tgt := 1108) C dL_law_247 (by decide) ?_
  exact kend _ _ _ _ _ _ _ (Nat.le_refl _) (Nat.le_refl _)
theorem l_case2 (C : lfc z D cA ad am a 7 b 4 xs cL_law RL) (hl0 : z.2.1.stackTraces = false) (hR : 9 ≤ z.2.2.2.1.frames ∧ 40 * 9 ≤ z.2.2.2.1.locals ∧ kc + 1 ≤ z.2.2.2.1.cells ∧ ks + 6 ≤ z.2.2.2.1.slots) (kend : ∀ (kc' ks' : Nat) (σ τ : fS) (v : Int) (x5 x6 : Option Value), kc' ≤ kc + 1 → ks' ≤ ks + 6 → lj z D cA ad am a 7 Q kc' ks' σ τ v 1108 [some (.ref b), some (.ref (ad 0)), some (.ref (am 0)), some (.ref a), some (.int (fI 0)), x5, x6] []) : lj z D cA ad am a 7 Q kc ks x_0 x_0 v 250 [some (.ref b), some (.ref (ad 0)), some (.ref (am 0)), some (.ref a), some (.int (fI 0)), none, none] [] := by
  obtain ⟨g1, g2, g3, g4⟩ := hR
  have hR : 9 ≤ z.2.2.2.1.frames ∧ 40 * 9 ≤ z.2.2.2.1.locals ∧ kc + 1 ≤ z.2.2.2.1.cells ∧ ks + 6 ≤ z.2.2.2.1.slots := ⟨g1, g2, g3, g4⟩
  have hR0 : 9 ≤ z.2.2.2.1.frames ∧ 40 * 9 ≤ z.2.2.2.1.locals ∧ kc ≤ z.2.2.2.1.cells ∧ ks ≤ z.2.2.2.1.slots := ⟨g1, g2, by omega, by omega⟩
  have hJ := C.2.2.2.2.2.2.1
  have hJm := C.2.2.2.2.2.2.2.1
  have hoff := C.2.2.2.2.2.2.2.2.1
  have hx : ∀ i, -2147483648 ≤ (xs i).toInt ∧ (xs i).toInt ≤ 2147483647 := fun i => l_rng _
  have hb : ∀ i, -128 ≤ (xs i).toInt.bmod 256 ∧ (xs i).toInt.bmod 256 ≤ 127 := fun i => l_brng _
  have hbb : ∀ i, -2147483648 ≤ (xs i).toInt.bmod 256 ∧ (xs i).toInt.bmod 256 ≤ 2147483647 := fun i => by have := hb i; omega
  have hw9 : ∀ w : Int, w = 0 ∨ w = 1 → -2147483648 ≤ w ∧ w ≤ 2147483647 := fun w h => by omega
  refine l_aload_n C dL_law_250 rfl rfl ?_
  refine l_aload_n C dL_law_251 rfl rfl ?_
  refine l_iload C dL_law_252 rfl ?_
  refine l_iconst C dL_law_254 ?_
  refine l_iadd C dL_law_255 ?_
  refine l_sld C (by decide) (by decide) dL_law_256 ?_
  show lj z D cA ad am a 7 Q kc ks x_0 x_0 v 257 [some (.ref b), some (.ref (ad 0)), some (.ref (am 0)), some (.ref a), some (.int (fI 0)), none, none] [.int (fI (xs 1).toInt), .ref (ad 0)]
  refine l_aload_n C dL_law_257 rfl rfl ?_
  refine l_h (dd := 9) (mc := 1) (ms := 6) (np := 3) (st := []) C hR (kL_drop z.2.1 D cA ad hJ hl0 a hoff v ((xs 1).toInt) (hx 1)) dL_law_258 mL_drop sL_drop iL wL_drop ⟨by decide +kernel, by decide +kernel, by decide +kernel⟩ (by decide) (by decide) rfl (by decide) rfl (fun k v1 σ1 hp => ?_)
  refine l_istore C dL_law_261 (by decide) ?_
  show lj z D cA ad am a 7 Q (kc + 1) (ks + 6) σ1 x_0 v1 263 [some (.ref b), some (.ref (ad 0)), some (.ref (am 0)), some (.ref a), some (.int (fI 0)), some (.int (fI k)), none] []
  refine l_aload_n C dL_law_263 rfl rfl ?_
  refine l_aload_n C dL_law_264 rfl rfl ?_
  refine l_iload C dL_law_265 rfl ?_
  refine l_iconst C dL_law_267 ?_
  refine l_iadd C dL_law_268 ?_
  refine l_sld C (by decide) (by decide) dL_law_269 ?_
  show lj z D cA ad am a 7 Q (kc + 1) (ks + 6) σ1 x_0 v1 270 [some (.ref b), some (.ref (ad 0)), some (.ref (am 0)), some (.ref a), some (.int (fI 0)), some (.int (fI k)), none] [.int (fI (xs 1).toInt), .ref (am 0)]
  refine l_mI (dd := 9) (np := 1) (st := []) C hR (kM_drop z.2.1 xCl D cA am hJm x_0 ((xs 1).toInt) (hx 1) (fun _ => (show (0 : Int) ≤ 0 ∧ (0 : Int) ≤ 1 by omega)) (fun _ => (show (0 : Int) ≤ 0 ∧ (0 : Int) ≤ 1 by omega))) dL_law_270 gW_92 ⟨rfl, by decide +kernel, by decide +kernel, by decide +kernel⟩ (by decide) (by decide) rfl (by decide) rfl (fun r τ1 hp2 => ?_)
  have hr0 : r = 0 ∧ τ1.1 0 0 = k := by
    rw [hp.1]
    rcases hp2 with ⟨-, h, -⟩ | ⟨h, -, h2, rfl⟩ | ⟨h, h2, rfl⟩
    · exact absurd (show (0 : Int) = 1 from h) (by decide)
    · rw [if_pos h]; exact ⟨h2, rfl⟩
    · rw [if_neg h]; exact ⟨h2, rfl⟩
  obtain ⟨rfl, he⟩ := hr0
  have hk : -2147483648 ≤ k ∧ k ≤ 2147483647 := by
    rw [hp.1]
    split <;> decide
  have hv := hp.2
  clear hp hp2
  refine l_istore C dL_law_273 (by decide) ?_
  show lj z D cA ad am a 7 Q (kc + 1) (ks + 6) σ1 τ1 v1 275 [some (.ref b), some (.ref (ad 0)), some (.ref (am 0)), some (.ref a), some (.int (fI 0)), some (.int (fI k)), some (.int (fI 0))] []
  refine l_aload_n C dL_law_275 rfl rfl ?_
  refine l_mI (dd := 9) (np := 0) (st := []) C hR (kM_thrown z.2.1 xCl D cA am hJm τ1) dL_law_276 gW_82 ⟨rfl, by decide +kernel, by decide +kernel, by decide +kernel⟩ (by decide) (by decide) rfl (by decide) rfl (fun t τ2 hp3 => ?_)
  obtain ⟨rfl, rfl⟩ := hp3
  refine l_iload C dL_law_279 rfl ?_
  refine l_icmp_eq (tgt := 286) C dL_law_281 (by decide) (by rw [he]; exact hk) hk (fun _ => ?_) (fun hne => absurd he hne)
  refine l_iload C dL_law_286 rfl ?_
  refine l_if_ne (tgt := 310) C dL_law_288 (by decide) hk (fun _ => ?_) (fun h0 => ?_)
  · skip
    refine l_goto (tgt := 1108) C dL_law_310 (by decide) ?_
    exact kend _ _ _ _ _ _ _ (Nat.le_refl _) (Nat.le_refl _)
  · have e9 := hv h0
    subst e9
    refine l_aload_n C dL_law_291 rfl rfl ?_
    refine l_iconst C dL_law_292 ?_
    refine l_lald C dL_law_293 ?_
    refine l_iload C dL_law_294 rfl ?_
    refine l_if_eq (tgt := 303) C dL_law_296 (by decide) (by decide) (fun _ => ?_) (fun h => absurd rfl h)
    refine l_lconst (i := 0) C dL_law_303 (by decide) ?_
    refine l_lcmp C dL_law_304 ?_
    refine l_if_eq (tgt := 310) C dL_law_305 (by decide) (by decide) (fun _ => ?_) (fun h => absurd rfl h)
    refine l_goto (tgt := 1108) C dL_law_310 (by decide) ?_
    exact kend _ _ _ _ _ _ _ (Nat.le_refl _) (Nat.le_refl _)
theorem l_case3 (C : lfc z D cA ad am a 7 b 4 xs cL_law RL) (hl0 : z.2.1.stackTraces = false) (hR : 9 ≤ z.2.2.2.1.frames ∧ 40 * 9 ≤ z.2.2.2.1.locals ∧ kc + 1 ≤ z.2.2.2.1.cells ∧ ks + 6 ≤ z.2.2.2.1.slots) (kend : ∀ (kc' ks' : Nat) (σ τ : fS) (v : Int) (x5 x6 : Option Value), kc' ≤ kc + 1 → ks' ≤ ks + 6 → lj z D cA ad am a 7 Q kc' ks' σ τ v 1108 [some (.ref b), some (.ref (ad 0)), some (.ref (am 0)), some (.ref a), some (.int (fI 0)), x5, x6] []) : lj z D cA ad am a 7 Q kc ks x_0 x_0 v 313 [some (.ref b), some (.ref (ad 0)), some (.ref (am 0)), some (.ref a), some (.int (fI 0)), none, none] [] := by
  obtain ⟨g1, g2, g3, g4⟩ := hR
  have hR : 9 ≤ z.2.2.2.1.frames ∧ 40 * 9 ≤ z.2.2.2.1.locals ∧ kc + 1 ≤ z.2.2.2.1.cells ∧ ks + 6 ≤ z.2.2.2.1.slots := ⟨g1, g2, g3, g4⟩
  have hR0 : 9 ≤ z.2.2.2.1.frames ∧ 40 * 9 ≤ z.2.2.2.1.locals ∧ kc ≤ z.2.2.2.1.cells ∧ ks ≤ z.2.2.2.1.slots := ⟨g1, g2, by omega, by omega⟩
  have hJ := C.2.2.2.2.2.2.1
  have hJm := C.2.2.2.2.2.2.2.1
  have hoff := C.2.2.2.2.2.2.2.2.1
  have hx : ∀ i, -2147483648 ≤ (xs i).toInt ∧ (xs i).toInt ≤ 2147483647 := fun i => l_rng _
  have hb : ∀ i, -128 ≤ (xs i).toInt.bmod 256 ∧ (xs i).toInt.bmod 256 ≤ 127 := fun i => l_brng _
  have hbb : ∀ i, -2147483648 ≤ (xs i).toInt.bmod 256 ∧ (xs i).toInt.bmod 256 ≤ 2147483647 := fun i => by have := hb i; omega
  have hw9 : ∀ w : Int, w = 0 ∨ w = 1 → -2147483648 ≤ w ∧ w ≤ 2147483647 := fun w h => by omega
  refine l_aload_n C dL_law_313 rfl rfl ?_
  refine l_aload_n C dL_law_314 rfl rfl ?_
  refine l_iload C dL_law_315 rfl ?_
  refine l_iconst C dL_law_317 ?_
  refine l_iadd C dL_law_318 ?_
  refine l_sld C (by decide) (by decide) dL_law_319 ?_
  show lj z D cA ad am a 7 Q kc ks x_0 x_0 v 320 [some (.ref b), some (.ref (ad 0)), some (.ref (am 0)), some (.ref a), some (.int (fI 0)), none, none] [.int (fI (xs 1).toInt), .ref (ad 0)]
  refine l_aload_n C dL_law_320 rfl rfl ?_
  refine l_iload C dL_law_321 rfl ?_
  refine l_iconst C dL_law_323 ?_
  refine l_iadd C dL_law_324 ?_
  refine l_sld C (by decide) (by decide) dL_law_325 ?_
  show lj z D cA ad am a 7 Q kc ks x_0 x_0 v 326 [some (.ref b), some (.ref (ad 0)), some (.ref (am 0)), some (.ref a), some (.int (fI 0)), none, none] [.int (fI (xs 2).toInt), .int (fI (xs 1).toInt), .ref (ad 0)]
  suffices hj1 : ∀ w : Int, w = 0 ∨ w = 1 → lj z D cA ad am a 7 Q kc ks x_0 x_0 v 334 [some (.ref b), some (.ref (ad 0)), some (.ref (am 0)), some (.ref a), some (.int (fI 0)), none, none] [.int (fI w), .int (fI (xs 1).toInt), .ref (ad 0)] by
    refine l_if_eq (tgt := 333) C dL_law_326 (by decide) (hx 2) (fun _ => ?_) (fun _ => ?_)
    · refine l_iconst C dL_law_333 ?_
      exact hj1 0 (Or.inl rfl)
    · refine l_iconst C dL_law_329 ?_
      refine l_goto (tgt := 334) C dL_law_330 (by decide) ?_
      exact hj1 1 (Or.inr rfl)
  intro w hw
  refine l_aload_n C dL_law_334 rfl rfl ?_
  refine l_h (dd := 9) (mc := 1) (ms := 6) (np := 4) (st := []) C hR (kL_first z.2.1 D cA ad hJ hl0 a hoff v ((xs 1).toInt) (w) (hx 1) (hw9 w hw)) dL_law_335 mL_first sL_first iL wL_first ⟨by decide +kernel, by decide +kernel, by decide +kernel⟩ (by decide) (by decide) rfl (by decide) rfl (fun k v1 σ1 hp => ?_)
  obtain rfl := hp
  refine l_istore C dL_law_338 (by decide) ?_
  show lj z D cA ad am a 7 Q (kc + 1) (ks + 6) σ1 x_0 v1 340 [some (.ref b), some (.ref (ad 0)), some (.ref (am 0)), some (.ref a), some (.int (fI 0)), some (.int (fI 1)), none] []
  refine l_aload_n C dL_law_340 rfl rfl ?_
  refine l_aload_n C dL_law_341 rfl rfl ?_
  refine l_iload C dL_law_342 rfl ?_
  refine l_iconst C dL_law_344 ?_
  refine l_iadd C dL_law_345 ?_
  refine l_sld C (by decide) (by decide) dL_law_346 ?_
  show lj z D cA ad am a 7 Q (kc + 1) (ks + 6) σ1 x_0 v1 347 [some (.ref b), some (.ref (ad 0)), some (.ref (am 0)), some (.ref a), some (.int (fI 0)), some (.int (fI 1)), none] [.int (fI (xs 1).toInt), .ref (am 0)]
  refine l_aload_n C dL_law_347 rfl rfl ?_
  refine l_iload C dL_law_348 rfl ?_
  refine l_iconst C dL_law_350 ?_
  refine l_iadd C dL_law_351 ?_
  refine l_sld C (by decide) (by decide) dL_law_352 ?_
  show lj z D cA ad am a 7 Q (kc + 1) (ks + 6) σ1 x_0 v1 353 [some (.ref b), some (.ref (ad 0)), some (.ref (am 0)), some (.ref a), some (.int (fI 0)), some (.int (fI 1)), none] [.int (fI (xs 2).toInt), .int (fI (xs 1).toInt), .ref (am 0)]
  suffices hj2 : ∀ w2 : Int, w2 = 0 ∨ w2 = 1 → lj z D cA ad am a 7 Q (kc + 1) (ks + 6) σ1 x_0 v1 361 [some (.ref b), some (.ref (ad 0)), some (.ref (am 0)), some (.ref a), some (.int (fI 0)), some (.int (fI 1)), none] [.int (fI w2), .int (fI (xs 1).toInt), .ref (am 0)] by
    refine l_if_eq (tgt := 360) C dL_law_353 (by decide) (hx 2) (fun _ => ?_) (fun _ => ?_)
    · refine l_iconst C dL_law_360 ?_
      exact hj2 0 (Or.inl rfl)
    · refine l_iconst C dL_law_356 ?_
      refine l_goto (tgt := 361) C dL_law_357 (by decide) ?_
      exact hj2 1 (Or.inr rfl)
  intro w2 hw2
  refine l_mI (dd := 9) (np := 2) (st := []) C hR (kM_first z.2.1 xCl D cA am hJm x_0 ((xs 1).toInt) (w2) (hx 1) hw2 (fun _ => (show (0 : Int) ≤ 0 ∧ (0 : Int) ≤ 1 by omega)) (fun _ => (show (0 : Int) ≤ 0 ∧ (0 : Int) ≤ 1 by omega))) dL_law_361 gW_96 ⟨rfl, by decide +kernel, by decide +kernel, by decide +kernel⟩ (by decide) (by decide) rfl (by decide) rfl (fun r τ1 hp2 => ?_)
  have he : τ1.1 0 0 = 1 := by
    rcases hp2 with ⟨h, -⟩ | ⟨h, -⟩ | ⟨-, -, rfl⟩
    · exact absurd (show (0 : Int) = 1 from h.2) (by decide)
    · exact absurd (show (0 : Int) = 1 from h.2) (by decide)
    · rfl
  have hk : -2147483648 ≤ (1 : Int) ∧ (1 : Int) ≤ 2147483647 := by decide
  clear hp2
  refine l_istore C dL_law_364 (by decide) ?_
  show lj z D cA ad am a 7 Q (kc + 1) (ks + 6) σ1 τ1 v1 366 [some (.ref b), some (.ref (ad 0)), some (.ref (am 0)), some (.ref a), some (.int (fI 0)), some (.int (fI 1)), some (.int (fI r))] []
  refine l_aload_n C dL_law_366 rfl rfl ?_
  refine l_mI (dd := 9) (np := 0) (st := []) C hR (kM_thrown z.2.1 xCl D cA am hJm τ1) dL_law_367 gW_82 ⟨rfl, by decide +kernel, by decide +kernel, by decide +kernel⟩ (by decide) (by decide) rfl (by decide) rfl (fun t τ2 hp3 => ?_)
  obtain ⟨rfl, rfl⟩ := hp3
  refine l_iload C dL_law_370 rfl ?_
  refine l_icmp_eq (tgt := 377) C dL_law_372 (by decide) (by rw [he]; exact hk) hk (fun _ => ?_) (fun hne => absurd he hne)
  refine l_iload C dL_law_377 rfl ?_
  refine l_if_ne (tgt := 401) C dL_law_379 (by decide) hk (fun _ => ?_) (fun h0 => absurd h0 (by decide))
  refine l_goto (tgt := 1108) C dL_law_401 (by decide) ?_
  exact kend _ _ _ _ _ _ _ (Nat.le_refl _) (Nat.le_refl _)
theorem l_case4 (C : lfc z D cA ad am a 7 b 4 xs cL_law RL) (hl0 : z.2.1.stackTraces = false) (hR : 9 ≤ z.2.2.2.1.frames ∧ 40 * 9 ≤ z.2.2.2.1.locals ∧ kc + 1 ≤ z.2.2.2.1.cells ∧ ks + 6 ≤ z.2.2.2.1.slots) (kend : ∀ (kc' ks' : Nat) (σ τ : fS) (v : Int) (x5 x6 : Option Value), kc' ≤ kc + 1 → ks' ≤ ks + 6 → lj z D cA ad am a 7 Q kc' ks' σ τ v 1108 [some (.ref b), some (.ref (ad 0)), some (.ref (am 0)), some (.ref a), some (.int (fI 0)), x5, x6] []) : lj z D cA ad am a 7 Q kc ks x_0 x_0 v 404 [some (.ref b), some (.ref (ad 0)), some (.ref (am 0)), some (.ref a), some (.int (fI 0)), none, none] [] := by
  obtain ⟨g1, g2, g3, g4⟩ := hR
  have hR : 9 ≤ z.2.2.2.1.frames ∧ 40 * 9 ≤ z.2.2.2.1.locals ∧ kc + 1 ≤ z.2.2.2.1.cells ∧ ks + 6 ≤ z.2.2.2.1.slots := ⟨g1, g2, g3, g4⟩
  have hR0 : 9 ≤ z.2.2.2.1.frames ∧ 40 * 9 ≤ z.2.2.2.1.locals ∧ kc ≤ z.2.2.2.1.cells ∧ ks ≤ z.2.2.2.1.slots := ⟨g1, g2, by omega, by omega⟩
  have hJ := C.2.2.2.2.2.2.1
  have hJm := C.2.2.2.2.2.2.2.1
  have hoff := C.2.2.2.2.2.2.2.2.1
  have hx : ∀ i, -2147483648 ≤ (xs i).toInt ∧ (xs i).toInt ≤ 2147483647 := fun i => l_rng _
  have hb : ∀ i, -128 ≤ (xs i).toInt.bmod 256 ∧ (xs i).toInt.bmod 256 ≤ 127 := fun i => l_brng _
  have hbb : ∀ i, -2147483648 ≤ (xs i).toInt.bmod 256 ∧ (xs i).toInt.bmod 256 ≤ 2147483647 := fun i => by have := hb i; omega
  have hw9 : ∀ w : Int, w = 0 ∨ w = 1 → -2147483648 ≤ w ∧ w ≤ 2147483647 := fun w h => by omega
  refine l_aload_n C dL_law_404 rfl rfl ?_
  refine l_aload_n C dL_law_405 rfl rfl ?_
  refine l_iload C dL_law_406 rfl ?_
  refine l_iconst C dL_law_408 ?_
  refine l_iadd C dL_law_409 ?_
  refine l_sld C (by decide) (by decide) dL_law_410 ?_
  show lj z D cA ad am a 7 Q kc ks x_0 x_0 v 411 [some (.ref b), some (.ref (ad 0)), some (.ref (am 0)), some (.ref a), some (.int (fI 0)), none, none] [.int (fI (xs 1).toInt), .ref (ad 0)]
  refine l_aload_n C dL_law_411 rfl rfl ?_
  refine l_h (dd := 9) (mc := 1) (ms := 6) (np := 3) (st := []) C hR (kL_write z.2.1 D cA ad hJ hl0 a hoff v ((xs 1).toInt) (hx 1)) dL_law_412 mL_write sL_write iL wL_write ⟨by decide +kernel, by decide +kernel, by decide +kernel⟩ (by decide) (by decide) rfl (by decide) rfl (fun k v1 σ1 hp => ?_)
  refine l_istore C dL_law_415 (by decide) ?_
  show lj z D cA ad am a 7 Q (kc + 1) (ks + 6) σ1 x_0 v1 417 [some (.ref b), some (.ref (ad 0)), some (.ref (am 0)), some (.ref a), some (.int (fI 0)), some (.int (fI k)), none] []
  refine l_aload_n C dL_law_417 rfl rfl ?_
  refine l_aload_n C dL_law_418 rfl rfl ?_
  refine l_iload C dL_law_419 rfl ?_
  refine l_iconst C dL_law_421 ?_
  refine l_iadd C dL_law_422 ?_
  refine l_sld C (by decide) (by decide) dL_law_423 ?_
  show lj z D cA ad am a 7 Q (kc + 1) (ks + 6) σ1 x_0 v1 424 [some (.ref b), some (.ref (ad 0)), some (.ref (am 0)), some (.ref a), some (.int (fI 0)), some (.int (fI k)), none] [.int (fI (xs 1).toInt), .ref (am 0)]
  have hk : -2147483648 ≤ k ∧ k ≤ 2147483647 := by
    rw [hp.1]
    split <;> decide
  by_cases hh : 0 ≤ (xs 1).toInt ∧ (xs 1).toInt ≤ 2
  · skip
    refine l_mI (dd := 9) (np := 1) (st := []) C hR (kM_write0 z.2.1 xCl D cA am hJm x_0 ((xs 1).toInt) hh (fun _ => rfl) (fun _ => (show (0 : Int) ≤ 0 ∧ (0 : Int) ≤ 1 by omega)) (fun _ => (show (0 : Int) ≤ 0 ∧ (0 : Int) ≤ 1 by omega)) (fun _ => (show (0 : Int) ≤ 0 ∧ (0 : Int) ≤ 120 by omega)) (fun _ => (show (-128 : Int) ≤ 0 ∧ (0 : Int) ≤ 127 by omega)) (fun _ => (show (0 : Int) ≤ 0 ∧ (0 : Int) ≤ 99999 by omega)) (fun _ => (show (0 : Int) ≤ 0 ∧ (0 : Int) ≤ 99999 by omega))) dL_law_424 gW_99 ⟨rfl, by decide +kernel, by decide +kernel, by decide +kernel⟩ (by decide) (by decide) rfl (by decide) rfl (fun r τ1 hp2 => ?_)
    obtain ⟨h2, he0⟩ := hp2
    have hr : -2147483648 ≤ r ∧ r ≤ 2147483647 := by rw [h2]; decide
    have hv : k = 0 → v1 = r := fun h0 => (hp.2 h0).trans h2.symm
    have he : τ1.1 0 0 = k := by rw [he0, hp.1, if_pos hh]
    clear hp
    refine l_istore C dL_law_427 (by decide) ?_
    show lj z D cA ad am a 7 Q (kc + 1) (ks + 6) σ1 τ1 v1 429 [some (.ref b), some (.ref (ad 0)), some (.ref (am 0)), some (.ref a), some (.int (fI 0)), some (.int (fI k)), some (.int (fI r))] []
    refine l_aload_n C dL_law_429 rfl rfl ?_
    refine l_mI (dd := 9) (np := 0) (st := []) C hR (kM_thrown z.2.1 xCl D cA am hJm τ1) dL_law_430 gW_82 ⟨rfl, by decide +kernel, by decide +kernel, by decide +kernel⟩ (by decide) (by decide) rfl (by decide) rfl (fun t τ2 hp3 => ?_)
    obtain ⟨rfl, rfl⟩ := hp3
    refine l_iload C dL_law_433 rfl ?_
    refine l_icmp_eq (tgt := 440) C dL_law_435 (by decide) (by rw [he]; exact hk) hk (fun _ => ?_) (fun hne => absurd he hne)
    refine l_iload C dL_law_440 rfl ?_
    refine l_if_ne (tgt := 457) C dL_law_442 (by decide) hk (fun _ => ?_) (fun h0 => ?_)
    · skip
      refine l_goto (tgt := 1108) C dL_law_457 (by decide) ?_
      exact kend _ _ _ _ _ _ _ (Nat.le_refl _) (Nat.le_refl _)
    · have e9 := hv h0
      subst e9
      refine l_aload_n C dL_law_445 rfl rfl ?_
      refine l_iconst C dL_law_446 ?_
      refine l_lald C dL_law_447 ?_
      refine l_iload C dL_law_448 rfl ?_
      refine l_i2l C dL_law_450 hr ?_
      refine l_lcmp C dL_law_451 ?_
      refine l_if_eq (tgt := 457) C dL_law_452 (by decide) (by decide) (fun _ => ?_) (fun h => absurd rfl h)
      refine l_goto (tgt := 1108) C dL_law_457 (by decide) ?_
      exact kend _ _ _ _ _ _ _ (Nat.le_refl _) (Nat.le_refl _)
  · skip
    refine l_mI (dd := 9) (np := 1) (st := []) C hR (kM_writeR z.2.1 xCl D cA am hJm x_0 ((xs 1).toInt) (hx 1) hh) dL_law_424 gW_99 ⟨rfl, by decide +kernel, by decide +kernel, by decide +kernel⟩ (by decide) (by decide) rfl (by decide) rfl (fun r τ1 hp2 => ?_)
    obtain ⟨h2, h3⟩ := hp2
    have hr : -2147483648 ≤ r ∧ r ≤ 2147483647 := by rw [h2]; decide
    have hv : k = 0 → v1 = r := fun h0 => absurd h0 (by rw [hp.1, if_neg hh]; decide)
    have he : τ1.1 0 0 = k := by rw [h3, hp.1, if_neg hh]; rfl
    clear hp h3
    refine l_istore C dL_law_427 (by decide) ?_
    show lj z D cA ad am a 7 Q (kc + 1) (ks + 6) σ1 τ1 v1 429 [some (.ref b), some (.ref (ad 0)), some (.ref (am 0)), some (.ref a), some (.int (fI 0)), some (.int (fI k)), some (.int (fI r))] []
    refine l_aload_n C dL_law_429 rfl rfl ?_
    refine l_mI (dd := 9) (np := 0) (st := []) C hR (kM_thrown z.2.1 xCl D cA am hJm τ1) dL_law_430 gW_82 ⟨rfl, by decide +kernel, by decide +kernel, by decide +kernel⟩ (by decide) (by decide) rfl (by decide) rfl (fun t τ2 hp3 => ?_)
    obtain ⟨rfl, rfl⟩ := hp3
    refine l_iload C dL_law_433 rfl ?_
    refine l_icmp_eq (tgt := 440) C dL_law_435 (by decide) (by rw [he]; exact hk) hk (fun _ => ?_) (fun hne => absurd he hne)
    refine l_iload C dL_law_440 rfl ?_
    refine l_if_ne (tgt := 457) C dL_law_442 (by decide) hk (fun _ => ?_) (fun h0 => ?_)
    · skip
      refine l_goto (tgt := 1108) C dL_law_457 (by decide) ?_
      exact kend _ _ _ _ _ _ _ (Nat.le_refl _) (Nat.le_refl _)
    · have e9 := hv h0
      subst e9
      refine l_aload_n C dL_law_445 rfl rfl ?_
      refine l_iconst C dL_law_446 ?_
      refine l_lald C dL_law_447 ?_
      refine l_iload C dL_law_448 rfl ?_
      refine l_i2l C dL_law_450 hr ?_
      refine l_lcmp C dL_law_451 ?_
      refine l_if_eq (tgt := 457) C dL_law_452 (by decide) (by decide) (fun _ => ?_) (fun h => absurd rfl h)
      refine l_goto (tgt := 1108) C dL_law_457 (by decide) ?_
      exact kend _ _ _ _ _ _ _ (Nat.le_refl _) (Nat.le_refl _)
theorem l_case5 (C : lfc z D cA ad am a 7 b 4 xs cL_law RL) (hl0 : z.2.1.stackTraces = false) (hR : 9 ≤ z.2.2.2.1.frames ∧ 40 * 9 ≤ z.2.2.2.1.locals ∧ kc + 1 ≤ z.2.2.2.1.cells ∧ ks + 6 ≤ z.2.2.2.1.slots) (kend : ∀ (kc' ks' : Nat) (σ τ : fS) (v : Int) (x5 x6 : Option Value), kc' ≤ kc + 1 → ks' ≤ ks + 6 → lj z D cA ad am a 7 Q kc' ks' σ τ v 1108 [some (.ref b), some (.ref (ad 0)), some (.ref (am 0)), some (.ref a), some (.int (fI 0)), x5, x6] []) : lj z D cA ad am a 7 Q kc ks x_0 x_0 v 460 [some (.ref b), some (.ref (ad 0)), some (.ref (am 0)), some (.ref a), some (.int (fI 0)), none, none] [] := by
  obtain ⟨g1, g2, g3, g4⟩ := hR
  have hR : 9 ≤ z.2.2.2.1.frames ∧ 40 * 9 ≤ z.2.2.2.1.locals ∧ kc + 1 ≤ z.2.2.2.1.cells ∧ ks + 6 ≤ z.2.2.2.1.slots := ⟨g1, g2, g3, g4⟩
  have hR0 : 9 ≤ z.2.2.2.1.frames ∧ 40 * 9 ≤ z.2.2.2.1.locals ∧ kc ≤ z.2.2.2.1.cells ∧ ks ≤ z.2.2.2.1.slots := ⟨g1, g2, by omega, by omega⟩
  have hJ := C.2.2.2.2.2.2.1
  have hJm := C.2.2.2.2.2.2.2.1
  have hoff := C.2.2.2.2.2.2.2.2.1
  have hx : ∀ i, -2147483648 ≤ (xs i).toInt ∧ (xs i).toInt ≤ 2147483647 := fun i => l_rng _
  have hb : ∀ i, -128 ≤ (xs i).toInt.bmod 256 ∧ (xs i).toInt.bmod 256 ≤ 127 := fun i => l_brng _
  have hbb : ∀ i, -2147483648 ≤ (xs i).toInt.bmod 256 ∧ (xs i).toInt.bmod 256 ≤ 2147483647 := fun i => by have := hb i; omega
  have hw9 : ∀ w : Int, w = 0 ∨ w = 1 → -2147483648 ≤ w ∧ w ≤ 2147483647 := fun w h => by omega
  refine l_aload_n C dL_law_460 rfl rfl ?_
  refine l_aload_n C dL_law_461 rfl rfl ?_
  refine l_h (dd := 9) (mc := 1) (ms := 6) (np := 2) (st := []) C hR (kL_append z.2.1 D cA ad hJ hl0 a hoff v  ()) dL_law_462 mL_append sL_append iL wL_append ⟨by decide +kernel, by decide +kernel, by decide +kernel⟩ (by decide) (by decide) rfl (by decide) rfl (fun k v1 σ1 hp => ?_)
  obtain rfl := hp
  refine l_istore C dL_law_465 (by decide) ?_
  show lj z D cA ad am a 7 Q (kc + 1) (ks + 6) σ1 x_0 v1 467 [some (.ref b), some (.ref (ad 0)), some (.ref (am 0)), some (.ref a), some (.int (fI 0)), some (.int (fI 1)), none] []
  refine l_aload_n C dL_law_467 rfl rfl ?_
  refine l_mI (dd := 9) (np := 0) (st := []) C hR (kM_appendR z.2.1 xCl D cA am hJm x_0  (show (0 : Int) ≤ 0 ∧ (0 : Int) ≤ 12000 by omega) (show (0 : Int) ≤ 0 ∧ (0 : Int) ≤ 1 by omega) (Or.inl rfl)) dL_law_468 gW_103 ⟨rfl, by decide +kernel, by decide +kernel, by decide +kernel⟩ (by decide) (by decide) rfl (by decide) rfl (fun r τ1 hp2 => ?_)
  have he : τ1.1 0 0 = 1 := by
    obtain ⟨-, rfl⟩ := hp2
    rfl
  have hk : -2147483648 ≤ (1 : Int) ∧ (1 : Int) ≤ 2147483647 := by decide
  clear hp2
  refine l_istore C dL_law_471 (by decide) ?_
  show lj z D cA ad am a 7 Q (kc + 1) (ks + 6) σ1 τ1 v1 473 [some (.ref b), some (.ref (ad 0)), some (.ref (am 0)), some (.ref a), some (.int (fI 0)), some (.int (fI 1)), some (.int (fI r))] []
  refine l_aload_n C dL_law_473 rfl rfl ?_
  refine l_mI (dd := 9) (np := 0) (st := []) C hR (kM_thrown z.2.1 xCl D cA am hJm τ1) dL_law_474 gW_82 ⟨rfl, by decide +kernel, by decide +kernel, by decide +kernel⟩ (by decide) (by decide) rfl (by decide) rfl (fun t τ2 hp3 => ?_)
  obtain ⟨rfl, rfl⟩ := hp3
  refine l_iload C dL_law_477 rfl ?_
  refine l_icmp_eq (tgt := 484) C dL_law_479 (by decide) (by rw [he]; exact hk) hk (fun _ => ?_) (fun hne => absurd he hne)
  refine l_iload C dL_law_484 rfl ?_
  refine l_if_ne (tgt := 501) C dL_law_486 (by decide) hk (fun _ => ?_) (fun h0 => absurd h0 (by decide))
  refine l_goto (tgt := 1108) C dL_law_501 (by decide) ?_
  exact kend _ _ _ _ _ _ _ (Nat.le_refl _) (Nat.le_refl _)
theorem l_case7 (C : lfc z D cA ad am a 7 b 4 xs cL_law RL) (hl0 : z.2.1.stackTraces = false) (hR : 9 ≤ z.2.2.2.1.frames ∧ 40 * 9 ≤ z.2.2.2.1.locals ∧ kc + 1 ≤ z.2.2.2.1.cells ∧ ks + 6 ≤ z.2.2.2.1.slots) (kend : ∀ (kc' ks' : Nat) (σ τ : fS) (v : Int) (x5 x6 : Option Value), kc' ≤ kc + 1 → ks' ≤ ks + 6 → lj z D cA ad am a 7 Q kc' ks' σ τ v 1108 [some (.ref b), some (.ref (ad 0)), some (.ref (am 0)), some (.ref a), some (.int (fI 0)), x5, x6] []) : lj z D cA ad am a 7 Q kc ks x_0 x_0 v 517 [some (.ref b), some (.ref (ad 0)), some (.ref (am 0)), some (.ref a), some (.int (fI 0)), none, none] [] := by
  obtain ⟨g1, g2, g3, g4⟩ := hR
  have hR : 9 ≤ z.2.2.2.1.frames ∧ 40 * 9 ≤ z.2.2.2.1.locals ∧ kc + 1 ≤ z.2.2.2.1.cells ∧ ks + 6 ≤ z.2.2.2.1.slots := ⟨g1, g2, g3, g4⟩
  have hR0 : 9 ≤ z.2.2.2.1.frames ∧ 40 * 9 ≤ z.2.2.2.1.locals ∧ kc ≤ z.2.2.2.1.cells ∧ ks ≤ z.2.2.2.1.slots := ⟨g1, g2, by omega, by omega⟩
  have hJ := C.2.2.2.2.2.2.1
  have hJm := C.2.2.2.2.2.2.2.1
  have hoff := C.2.2.2.2.2.2.2.2.1
  have hx : ∀ i, -2147483648 ≤ (xs i).toInt ∧ (xs i).toInt ≤ 2147483647 := fun i => l_rng _
  have hb : ∀ i, -128 ≤ (xs i).toInt.bmod 256 ∧ (xs i).toInt.bmod 256 ≤ 127 := fun i => l_brng _
  have hbb : ∀ i, -2147483648 ≤ (xs i).toInt.bmod 256 ∧ (xs i).toInt.bmod 256 ≤ 2147483647 := fun i => by have := hb i; omega
  have hw9 : ∀ w : Int, w = 0 ∨ w = 1 → -2147483648 ≤ w ∧ w ≤ 2147483647 := fun w h => by omega
  refine l_aload_n C dL_law_517 rfl rfl ?_
  refine l_aload_n C dL_law_518 rfl rfl ?_
  refine l_iload C dL_law_519 rfl ?_
  refine l_iconst C dL_law_521 ?_
  refine l_iadd C dL_law_522 ?_
  refine l_sld C (by decide) (by decide) dL_law_523 ?_
  show lj z D cA ad am a 7 Q kc ks x_0 x_0 v 524 [some (.ref b), some (.ref (ad 0)), some (.ref (am 0)), some (.ref a), some (.int (fI 0)), none, none] [.int (fI (xs 1).toInt), .ref (ad 0)]
  refine l_aload_n C dL_law_524 rfl rfl ?_
  refine l_iload C dL_law_525 rfl ?_
  refine l_iconst C dL_law_527 ?_
  refine l_iadd C dL_law_528 ?_
  refine l_sld C (by decide) (by decide) dL_law_529 ?_
  show lj z D cA ad am a 7 Q kc ks x_0 x_0 v 530 [some (.ref b), some (.ref (ad 0)), some (.ref (am 0)), some (.ref a), some (.int (fI 0)), none, none] [.int (fI (xs 2).toInt), .int (fI (xs 1).toInt), .ref (ad 0)]
  refine l_i2b C dL_law_530 ?_
  refine l_aload_n C dL_law_531 rfl rfl ?_
  refine l_h (dd := 9) (mc := 1) (ms := 6) (np := 4) (st := []) C hR (kL_poke z.2.1 D cA ad hJ hl0 a hoff v ((xs 1).toInt) (((xs 2).toInt.bmod 256)) (hx 1) (hbb 2)) dL_law_532 mL_poke sL_poke iL wL_poke ⟨by decide +kernel, by decide +kernel, by decide +kernel⟩ (by decide) (by decide) rfl (by decide) rfl (fun k v1 σ1 hp => ?_)
  obtain rfl := hp
  refine l_istore C dL_law_535 (by decide) ?_
  show lj z D cA ad am a 7 Q (kc + 1) (ks + 6) σ1 x_0 v1 537 [some (.ref b), some (.ref (ad 0)), some (.ref (am 0)), some (.ref a), some (.int (fI 0)), some (.int (fI 1)), none] []
  refine l_aload_n C dL_law_537 rfl rfl ?_
  refine l_aload_n C dL_law_538 rfl rfl ?_
  refine l_iload C dL_law_539 rfl ?_
  refine l_iconst C dL_law_541 ?_
  refine l_iadd C dL_law_542 ?_
  refine l_sld C (by decide) (by decide) dL_law_543 ?_
  show lj z D cA ad am a 7 Q (kc + 1) (ks + 6) σ1 x_0 v1 544 [some (.ref b), some (.ref (ad 0)), some (.ref (am 0)), some (.ref a), some (.int (fI 0)), some (.int (fI 1)), none] [.int (fI (xs 1).toInt), .ref (am 0)]
  refine l_aload_n C dL_law_544 rfl rfl ?_
  refine l_iload C dL_law_545 rfl ?_
  refine l_iconst C dL_law_547 ?_
  refine l_iadd C dL_law_548 ?_
  refine l_sld C (by decide) (by decide) dL_law_549 ?_
  show lj z D cA ad am a 7 Q (kc + 1) (ks + 6) σ1 x_0 v1 550 [some (.ref b), some (.ref (ad 0)), some (.ref (am 0)), some (.ref a), some (.int (fI 0)), some (.int (fI 1)), none] [.int (fI (xs 2).toInt), .int (fI (xs 1).toInt), .ref (am 0)]
  refine l_i2b C dL_law_550 ?_
  refine l_mI (dd := 9) (np := 2) (st := []) C hR (kM_poke z.2.1 xCl D cA am hJm x_0 ((xs 1).toInt) (((xs 2).toInt.bmod 256)) (hx 1) (hb 2) (show (0 : Int) ≤ 0 ∧ (0 : Int) ≤ 12000 by omega) (fun _ => (show (-128 : Int) ≤ 0 ∧ (0 : Int) ≤ 127 by omega))) dL_law_551 gW_111 ⟨rfl, by decide +kernel, by decide +kernel, by decide +kernel⟩ (by decide) (by decide) rfl (by decide) rfl (fun r τ1 hp2 => ?_)
  have he : τ1.1 0 0 = 1 := by
    rcases hp2 with ⟨h, -⟩ | ⟨-, -, rfl⟩
    · exact absurd (show (0 : Int) ≤ (xs 1).toInt ∧ (xs 1).toInt < 0 from h) (by omega)
    · rfl
  have hk : -2147483648 ≤ (1 : Int) ∧ (1 : Int) ≤ 2147483647 := by decide
  clear hp2
  refine l_istore C dL_law_554 (by decide) ?_
  show lj z D cA ad am a 7 Q (kc + 1) (ks + 6) σ1 τ1 v1 556 [some (.ref b), some (.ref (ad 0)), some (.ref (am 0)), some (.ref a), some (.int (fI 0)), some (.int (fI 1)), some (.int (fI r))] []
  refine l_aload_n C dL_law_556 rfl rfl ?_
  refine l_mI (dd := 9) (np := 0) (st := []) C hR (kM_thrown z.2.1 xCl D cA am hJm τ1) dL_law_557 gW_82 ⟨rfl, by decide +kernel, by decide +kernel, by decide +kernel⟩ (by decide) (by decide) rfl (by decide) rfl (fun t τ2 hp3 => ?_)
  obtain ⟨rfl, rfl⟩ := hp3
  refine l_iload C dL_law_560 rfl ?_
  refine l_icmp_eq (tgt := 567) C dL_law_562 (by decide) (by rw [he]; exact hk) hk (fun _ => ?_) (fun hne => absurd he hne)
  refine l_iload C dL_law_567 rfl ?_
  refine l_if_ne (tgt := 584) C dL_law_569 (by decide) hk (fun _ => ?_) (fun h0 => absurd h0 (by decide))
  refine l_goto (tgt := 1108) C dL_law_584 (by decide) ?_
  exact kend _ _ _ _ _ _ _ (Nat.le_refl _) (Nat.le_refl _)
theorem l_case8 (C : lfc z D cA ad am a 7 b 4 xs cL_law RL) (hl0 : z.2.1.stackTraces = false) (hR : 9 ≤ z.2.2.2.1.frames ∧ 40 * 9 ≤ z.2.2.2.1.locals ∧ kc + 1 ≤ z.2.2.2.1.cells ∧ ks + 6 ≤ z.2.2.2.1.slots) (kend : ∀ (kc' ks' : Nat) (σ τ : fS) (v : Int) (x5 x6 : Option Value), kc' ≤ kc + 1 → ks' ≤ ks + 6 → lj z D cA ad am a 7 Q kc' ks' σ τ v 1108 [some (.ref b), some (.ref (ad 0)), some (.ref (am 0)), some (.ref a), some (.int (fI 0)), x5, x6] []) : lj z D cA ad am a 7 Q kc ks x_0 x_0 v 587 [some (.ref b), some (.ref (ad 0)), some (.ref (am 0)), some (.ref a), some (.int (fI 0)), none, none] [] := by
  obtain ⟨g1, g2, g3, g4⟩ := hR
  have hR : 9 ≤ z.2.2.2.1.frames ∧ 40 * 9 ≤ z.2.2.2.1.locals ∧ kc + 1 ≤ z.2.2.2.1.cells ∧ ks + 6 ≤ z.2.2.2.1.slots := ⟨g1, g2, g3, g4⟩
  have hR0 : 9 ≤ z.2.2.2.1.frames ∧ 40 * 9 ≤ z.2.2.2.1.locals ∧ kc ≤ z.2.2.2.1.cells ∧ ks ≤ z.2.2.2.1.slots := ⟨g1, g2, by omega, by omega⟩
  have hJ := C.2.2.2.2.2.2.1
  have hJm := C.2.2.2.2.2.2.2.1
  have hoff := C.2.2.2.2.2.2.2.2.1
  have hx : ∀ i, -2147483648 ≤ (xs i).toInt ∧ (xs i).toInt ≤ 2147483647 := fun i => l_rng _
  have hb : ∀ i, -128 ≤ (xs i).toInt.bmod 256 ∧ (xs i).toInt.bmod 256 ≤ 127 := fun i => l_brng _
  have hbb : ∀ i, -2147483648 ≤ (xs i).toInt.bmod 256 ∧ (xs i).toInt.bmod 256 ≤ 2147483647 := fun i => by have := hb i; omega
  have hw9 : ∀ w : Int, w = 0 ∨ w = 1 → -2147483648 ≤ w ∧ w ≤ 2147483647 := fun w h => by omega
  refine l_aload_n C dL_law_587 rfl rfl ?_
  refine l_aload_n C dL_law_588 rfl rfl ?_
  refine l_iload C dL_law_589 rfl ?_
  refine l_iconst C dL_law_591 ?_
  refine l_iadd C dL_law_592 ?_
  refine l_sld C (by decide) (by decide) dL_law_593 ?_
  show lj z D cA ad am a 7 Q kc ks x_0 x_0 v 594 [some (.ref b), some (.ref (ad 0)), some (.ref (am 0)), some (.ref a), some (.int (fI 0)), none, none] [.int (fI (xs 1).toInt), .ref (ad 0)]
  refine l_aload_n C dL_law_594 rfl rfl ?_
  refine l_h (dd := 9) (mc := 1) (ms := 6) (np := 3) (st := []) C hR (kL_take z.2.1 D cA ad hJ hl0 a hoff v ((xs 1).toInt) (hx 1)) dL_law_595 mL_take sL_take iL wL_take ⟨by decide +kernel, by decide +kernel, by decide +kernel⟩ (by decide) (by decide) rfl (by decide) rfl (fun k v1 σ1 hp => ?_)
  obtain rfl := hp
  refine l_istore C dL_law_598 (by decide) ?_
  show lj z D cA ad am a 7 Q (kc + 1) (ks + 6) σ1 x_0 v1 600 [some (.ref b), some (.ref (ad 0)), some (.ref (am 0)), some (.ref a), some (.int (fI 0)), some (.int (fI 1)), none] []
  refine l_aload_n C dL_law_600 rfl rfl ?_
  refine l_aload_n C dL_law_601 rfl rfl ?_
  refine l_iload C dL_law_602 rfl ?_
  refine l_iconst C dL_law_604 ?_
  refine l_iadd C dL_law_605 ?_
  refine l_sld C (by decide) (by decide) dL_law_606 ?_
  show lj z D cA ad am a 7 Q (kc + 1) (ks + 6) σ1 x_0 v1 607 [some (.ref b), some (.ref (ad 0)), some (.ref (am 0)), some (.ref a), some (.int (fI 0)), some (.int (fI 1)), none] [.int (fI (xs 1).toInt), .ref (am 0)]
  refine l_mI (dd := 9) (np := 1) (st := []) C hR (kM_takeR z.2.1 xCl D cA am hJm x_0 ((xs 1).toInt) (hx 1) (show (0 : Int) ≤ 0 ∧ (0 : Int) ≤ 60 by omega) (show ¬ ((0 : Int) ≤ (xs 1).toInt ∧ (xs 1).toInt < 0) by omega)) dL_law_607 gW_114 ⟨rfl, by decide +kernel, by decide +kernel, by decide +kernel⟩ (by decide) (by decide) rfl (by decide) rfl (fun r τ1 hp2 => ?_)
  have he : τ1.1 0 0 = 1 := by
    obtain ⟨-, rfl⟩ := hp2
    rfl
  have hk : -2147483648 ≤ (1 : Int) ∧ (1 : Int) ≤ 2147483647 := by decide
  clear hp2
  refine l_istore C dL_law_610 (by decide) ?_
  show lj z D cA ad am a 7 Q (kc + 1) (ks + 6) σ1 τ1 v1 612 [some (.ref b), some (.ref (ad 0)), some (.ref (am 0)), some (.ref a), some (.int (fI 0)), some (.int (fI 1)), some (.int (fI r))] []
  refine l_aload_n C dL_law_612 rfl rfl ?_
  refine l_mI (dd := 9) (np := 0) (st := []) C hR (kM_thrown z.2.1 xCl D cA am hJm τ1) dL_law_613 gW_82 ⟨rfl, by decide +kernel, by decide +kernel, by decide +kernel⟩ (by decide) (by decide) rfl (by decide) rfl (fun t τ2 hp3 => ?_)
  obtain ⟨rfl, rfl⟩ := hp3
  refine l_iload C dL_law_616 rfl ?_
  refine l_icmp_eq (tgt := 623) C dL_law_618 (by decide) (by rw [he]; exact hk) hk (fun _ => ?_) (fun hne => absurd he hne)
  refine l_iload C dL_law_623 rfl ?_
  refine l_if_ne (tgt := 640) C dL_law_625 (by decide) hk (fun _ => ?_) (fun h0 => absurd h0 (by decide))
  refine l_goto (tgt := 1108) C dL_law_640 (by decide) ?_
  exact kend _ _ _ _ _ _ _ (Nat.le_refl _) (Nat.le_refl _)
theorem l_case9 (C : lfc z D cA ad am a 7 b 4 xs cL_law RL) (hl0 : z.2.1.stackTraces = false) (hR : 9 ≤ z.2.2.2.1.frames ∧ 40 * 9 ≤ z.2.2.2.1.locals ∧ kc + 1 ≤ z.2.2.2.1.cells ∧ ks + 6 ≤ z.2.2.2.1.slots) (kend : ∀ (kc' ks' : Nat) (σ τ : fS) (v : Int) (x5 x6 : Option Value), kc' ≤ kc + 1 → ks' ≤ ks + 6 → lj z D cA ad am a 7 Q kc' ks' σ τ v 1108 [some (.ref b), some (.ref (ad 0)), some (.ref (am 0)), some (.ref a), some (.int (fI 0)), x5, x6] []) : lj z D cA ad am a 7 Q kc ks x_0 x_0 v 643 [some (.ref b), some (.ref (ad 0)), some (.ref (am 0)), some (.ref a), some (.int (fI 0)), none, none] [] := by
  obtain ⟨g1, g2, g3, g4⟩ := hR
  have hR : 9 ≤ z.2.2.2.1.frames ∧ 40 * 9 ≤ z.2.2.2.1.locals ∧ kc + 1 ≤ z.2.2.2.1.cells ∧ ks + 6 ≤ z.2.2.2.1.slots := ⟨g1, g2, g3, g4⟩
  have hR0 : 9 ≤ z.2.2.2.1.frames ∧ 40 * 9 ≤ z.2.2.2.1.locals ∧ kc ≤ z.2.2.2.1.cells ∧ ks ≤ z.2.2.2.1.slots := ⟨g1, g2, by omega, by omega⟩
  have hJ := C.2.2.2.2.2.2.1
  have hJm := C.2.2.2.2.2.2.2.1
  have hoff := C.2.2.2.2.2.2.2.2.1
  have hx : ∀ i, -2147483648 ≤ (xs i).toInt ∧ (xs i).toInt ≤ 2147483647 := fun i => l_rng _
  have hb : ∀ i, -128 ≤ (xs i).toInt.bmod 256 ∧ (xs i).toInt.bmod 256 ≤ 127 := fun i => l_brng _
  have hbb : ∀ i, -2147483648 ≤ (xs i).toInt.bmod 256 ∧ (xs i).toInt.bmod 256 ≤ 2147483647 := fun i => by have := hb i; omega
  have hw9 : ∀ w : Int, w = 0 ∨ w = 1 → -2147483648 ≤ w ∧ w ≤ 2147483647 := fun w h => by omega
  refine l_aload_n C dL_law_643 rfl rfl ?_
  refine l_aload_n C dL_law_644 rfl rfl ?_
  refine l_iload C dL_law_645 rfl ?_
  refine l_iconst C dL_law_647 ?_
  refine l_iadd C dL_law_648 ?_
  refine l_sld C (by decide) (by decide) dL_law_649 ?_
  show lj z D cA ad am a 7 Q kc ks x_0 x_0 v 650 [some (.ref b), some (.ref (ad 0)), some (.ref (am 0)), some (.ref a), some (.int (fI 0)), none, none] [.int (fI (xs 1).toInt), .ref (ad 0)]
  refine l_aload_n C dL_law_650 rfl rfl ?_
  refine l_h (dd := 9) (mc := 1) (ms := 6) (np := 3) (st := []) C hR (kL_at z.2.1 D cA ad hJ hl0 a hoff v ((xs 1).toInt) (hx 1)) dL_law_651 mL_at sL_at iL wL_at ⟨by decide +kernel, by decide +kernel, by decide +kernel⟩ (by decide) (by decide) rfl (by decide) rfl (fun k v1 σ1 hp => ?_)
  obtain rfl := hp
  refine l_istore C dL_law_654 (by decide) ?_
  show lj z D cA ad am a 7 Q (kc + 1) (ks + 6) σ1 x_0 v1 656 [some (.ref b), some (.ref (ad 0)), some (.ref (am 0)), some (.ref a), some (.int (fI 0)), some (.int (fI 1)), none] []
  refine l_aload_n C dL_law_656 rfl rfl ?_
  refine l_aload_n C dL_law_657 rfl rfl ?_
  refine l_iload C dL_law_658 rfl ?_
  refine l_iconst C dL_law_660 ?_
  refine l_iadd C dL_law_661 ?_
  refine l_sld C (by decide) (by decide) dL_law_662 ?_
  show lj z D cA ad am a 7 Q (kc + 1) (ks + 6) σ1 x_0 v1 663 [some (.ref b), some (.ref (ad 0)), some (.ref (am 0)), some (.ref a), some (.int (fI 0)), some (.int (fI 1)), none] [.int (fI (xs 1).toInt), .ref (am 0)]
  refine l_mI (dd := 9) (np := 1) (st := []) C hR (kM_at z.2.1 xCl D cA am hJm x_0 ((xs 1).toInt) (hx 1) (show (0 : Int) ≤ 0 ∧ (0 : Int) ≤ 12000 by omega) (fun _ => (show (-128 : Int) ≤ 0 ∧ (0 : Int) ≤ 127 by omega))) dL_law_663 gW_117 ⟨rfl, by decide +kernel, by decide +kernel, by decide +kernel⟩ (by decide) (by decide) rfl (by decide) rfl (fun r τ1 hp2 => ?_)
  have he : τ1.1 0 0 = 1 := by
    rcases hp2 with ⟨h, -⟩ | ⟨-, -, rfl⟩
    · exact absurd (show (0 : Int) ≤ (xs 1).toInt ∧ (xs 1).toInt < 0 from h) (by omega)
    · rfl
  have hk : -2147483648 ≤ (1 : Int) ∧ (1 : Int) ≤ 2147483647 := by decide
  clear hp2
  refine l_istore C dL_law_666 (by decide) ?_
  show lj z D cA ad am a 7 Q (kc + 1) (ks + 6) σ1 τ1 v1 668 [some (.ref b), some (.ref (ad 0)), some (.ref (am 0)), some (.ref a), some (.int (fI 0)), some (.int (fI 1)), some (.int (fI r))] []
  refine l_aload_n C dL_law_668 rfl rfl ?_
  refine l_mI (dd := 9) (np := 0) (st := []) C hR (kM_thrown z.2.1 xCl D cA am hJm τ1) dL_law_669 gW_82 ⟨rfl, by decide +kernel, by decide +kernel, by decide +kernel⟩ (by decide) (by decide) rfl (by decide) rfl (fun t τ2 hp3 => ?_)
  obtain ⟨rfl, rfl⟩ := hp3
  refine l_iload C dL_law_672 rfl ?_
  refine l_icmp_eq (tgt := 679) C dL_law_674 (by decide) (by rw [he]; exact hk) hk (fun _ => ?_) (fun hne => absurd he hne)
  refine l_iload C dL_law_679 rfl ?_
  refine l_if_ne (tgt := 696) C dL_law_681 (by decide) hk (fun _ => ?_) (fun h0 => absurd h0 (by decide))
  refine l_goto (tgt := 1108) C dL_law_696 (by decide) ?_
  exact kend _ _ _ _ _ _ _ (Nat.le_refl _) (Nat.le_refl _)
theorem l_case10 (C : lfc z D cA ad am a 7 b 4 xs cL_law RL) (hl0 : z.2.1.stackTraces = false) (hR : 9 ≤ z.2.2.2.1.frames ∧ 40 * 9 ≤ z.2.2.2.1.locals ∧ kc + 1 ≤ z.2.2.2.1.cells ∧ ks + 6 ≤ z.2.2.2.1.slots) (kend : ∀ (kc' ks' : Nat) (σ τ : fS) (v : Int) (x5 x6 : Option Value), kc' ≤ kc + 1 → ks' ≤ ks + 6 → lj z D cA ad am a 7 Q kc' ks' σ τ v 1108 [some (.ref b), some (.ref (ad 0)), some (.ref (am 0)), some (.ref a), some (.int (fI 0)), x5, x6] []) : lj z D cA ad am a 7 Q kc ks x_0 x_0 v 699 [some (.ref b), some (.ref (ad 0)), some (.ref (am 0)), some (.ref a), some (.int (fI 0)), none, none] [] := by
  obtain ⟨g1, g2, g3, g4⟩ := hR
  have hR : 9 ≤ z.2.2.2.1.frames ∧ 40 * 9 ≤ z.2.2.2.1.locals ∧ kc + 1 ≤ z.2.2.2.1.cells ∧ ks + 6 ≤ z.2.2.2.1.slots := ⟨g1, g2, g3, g4⟩
  have hR0 : 9 ≤ z.2.2.2.1.frames ∧ 40 * 9 ≤ z.2.2.2.1.locals ∧ kc ≤ z.2.2.2.1.cells ∧ ks ≤ z.2.2.2.1.slots := ⟨g1, g2, by omega, by omega⟩
  have hJ := C.2.2.2.2.2.2.1
  have hJm := C.2.2.2.2.2.2.2.1
  have hoff := C.2.2.2.2.2.2.2.2.1
  have hx : ∀ i, -2147483648 ≤ (xs i).toInt ∧ (xs i).toInt ≤ 2147483647 := fun i => l_rng _
  have hb : ∀ i, -128 ≤ (xs i).toInt.bmod 256 ∧ (xs i).toInt.bmod 256 ≤ 127 := fun i => l_brng _
  have hbb : ∀ i, -2147483648 ≤ (xs i).toInt.bmod 256 ∧ (xs i).toInt.bmod 256 ≤ 2147483647 := fun i => by have := hb i; omega
  have hw9 : ∀ w : Int, w = 0 ∨ w = 1 → -2147483648 ≤ w ∧ w ≤ 2147483647 := fun w h => by omega
  refine l_aload_n C dL_law_699 rfl rfl ?_
  refine l_aload_n C dL_law_700 rfl rfl ?_
  refine l_iload C dL_law_701 rfl ?_
  refine l_iconst C dL_law_703 ?_
  refine l_iadd C dL_law_704 ?_
  refine l_sld C (by decide) (by decide) dL_law_705 ?_
  show lj z D cA ad am a 7 Q kc ks x_0 x_0 v 706 [some (.ref b), some (.ref (ad 0)), some (.ref (am 0)), some (.ref a), some (.int (fI 0)), none, none] [.int (fI (xs 1).toInt), .ref (ad 0)]
  refine l_aload_n C dL_law_706 rfl rfl ?_
  refine l_h (dd := 9) (mc := 1) (ms := 6) (np := 3) (st := []) C hR (kL_length z.2.1 D cA ad hJ hl0 a hoff v ((xs 1).toInt) (hx 1)) dL_law_707 mL_length sL_length iL wL_length ⟨by decide +kernel, by decide +kernel, by decide +kernel⟩ (by decide) (by decide) rfl (by decide) rfl (fun k v1 σ1 hp => ?_)
  refine l_istore C dL_law_710 (by decide) ?_
  show lj z D cA ad am a 7 Q (kc + 1) (ks + 6) σ1 x_0 v1 712 [some (.ref b), some (.ref (ad 0)), some (.ref (am 0)), some (.ref a), some (.int (fI 0)), some (.int (fI k)), none] []
  refine l_aload_n C dL_law_712 rfl rfl ?_
  refine l_aload_n C dL_law_713 rfl rfl ?_
  refine l_iload C dL_law_714 rfl ?_
  refine l_iconst C dL_law_716 ?_
  refine l_iadd C dL_law_717 ?_
  refine l_sld C (by decide) (by decide) dL_law_718 ?_
  show lj z D cA ad am a 7 Q (kc + 1) (ks + 6) σ1 x_0 v1 719 [some (.ref b), some (.ref (ad 0)), some (.ref (am 0)), some (.ref a), some (.int (fI 0)), some (.int (fI k)), none] [.int (fI (xs 1).toInt), .ref (am 0)]
  refine l_mI (dd := 9) (np := 1) (st := []) C hR (kM_length z.2.1 xCl D cA am hJm x_0 ((xs 1).toInt) (hx 1) (fun _ => (show (0 : Int) ≤ 0 ∧ (0 : Int) ≤ 1 by omega)) (fun _ => (show (0 : Int) ≤ 0 ∧ (0 : Int) ≤ 120 by omega))) dL_law_719 gW_120 ⟨rfl, by decide +kernel, by decide +kernel, by decide +kernel⟩ (by decide) (by decide) rfl (by decide) rfl (fun r τ1 hp2 => ?_)
  have hr0 : (k = 0 → v1 = r) ∧ (-2147483648 ≤ r ∧ r ≤ 2147483647) ∧ τ1.1 0 0 = k := by
    obtain ⟨hp, hp9⟩ := hp
    rcases hp2 with ⟨h, h2 | h2, rfl⟩ | ⟨h, h2, rfl⟩
    · exact absurd (show (0 : Int) = 1 from h2.1) (by decide)
    · rw [if_pos h] at hp; exact ⟨fun h0 => (hp9 h0).trans h2.2.symm, by rw [h2.2]; decide, hp.symm⟩
    · rw [if_neg h] at hp; exact ⟨fun h0 => absurd (hp.symm.trans h0) (by decide), by rw [h2]; decide, hp.symm⟩
  obtain ⟨hv, hr, he⟩ := hr0
  have hk : -2147483648 ≤ k ∧ k ≤ 2147483647 := by
    rw [hp.1]
    split <;> decide
  clear hp hp2
  refine l_istore C dL_law_722 (by decide) ?_
  show lj z D cA ad am a 7 Q (kc + 1) (ks + 6) σ1 τ1 v1 724 [some (.ref b), some (.ref (ad 0)), some (.ref (am 0)), some (.ref a), some (.int (fI 0)), some (.int (fI k)), some (.int (fI r))] []
  refine l_aload_n C dL_law_724 rfl rfl ?_
  refine l_mI (dd := 9) (np := 0) (st := []) C hR (kM_thrown z.2.1 xCl D cA am hJm τ1) dL_law_725 gW_82 ⟨rfl, by decide +kernel, by decide +kernel, by decide +kernel⟩ (by decide) (by decide) rfl (by decide) rfl (fun t τ2 hp3 => ?_)
  obtain ⟨rfl, rfl⟩ := hp3
  refine l_iload C dL_law_728 rfl ?_
  refine l_icmp_eq (tgt := 735) C dL_law_730 (by decide) (by rw [he]; exact hk) hk (fun _ => ?_) (fun hne => absurd he hne)
  refine l_iload C dL_law_735 rfl ?_
  refine l_if_ne (tgt := 752) C dL_law_737 (by decide) hk (fun _ => ?_) (fun h0 => ?_)
  · skip
    refine l_goto (tgt := 1108) C dL_law_752 (by decide) ?_
    exact kend _ _ _ _ _ _ _ (Nat.le_refl _) (Nat.le_refl _)
  · have e9 := hv h0
    subst e9
    refine l_aload_n C dL_law_740 rfl rfl ?_
    refine l_iconst C dL_law_741 ?_
    refine l_lald C dL_law_742 ?_
    refine l_iload C dL_law_743 rfl ?_
    refine l_i2l C dL_law_745 hr ?_
    refine l_lcmp C dL_law_746 ?_
    refine l_if_eq (tgt := 752) C dL_law_747 (by decide) (by decide) (fun _ => ?_) (fun h => absurd rfl h)
    refine l_goto (tgt := 1108) C dL_law_752 (by decide) ?_
    exact kend _ _ _ _ _ _ _ (Nat.le_refl _) (Nat.le_refl _)
theorem l_case11 (C : lfc z D cA ad am a 7 b 4 xs cL_law RL) (hl0 : z.2.1.stackTraces = false) (hR : 9 ≤ z.2.2.2.1.frames ∧ 40 * 9 ≤ z.2.2.2.1.locals ∧ kc + 1 ≤ z.2.2.2.1.cells ∧ ks + 6 ≤ z.2.2.2.1.slots) (kend : ∀ (kc' ks' : Nat) (σ τ : fS) (v : Int) (x5 x6 : Option Value), kc' ≤ kc + 1 → ks' ≤ ks + 6 → lj z D cA ad am a 7 Q kc' ks' σ τ v 1108 [some (.ref b), some (.ref (ad 0)), some (.ref (am 0)), some (.ref a), some (.int (fI 0)), x5, x6] []) : lj z D cA ad am a 7 Q kc ks x_0 x_0 v 755 [some (.ref b), some (.ref (ad 0)), some (.ref (am 0)), some (.ref a), some (.int (fI 0)), none, none] [] := by
  obtain ⟨g1, g2, g3, g4⟩ := hR
  have hR : 9 ≤ z.2.2.2.1.frames ∧ 40 * 9 ≤ z.2.2.2.1.locals ∧ kc + 1 ≤ z.2.2.2.1.cells ∧ ks + 6 ≤ z.2.2.2.1.slots := ⟨g1, g2, g3, g4⟩
  have hR0 : 9 ≤ z.2.2.2.1.frames ∧ 40 * 9 ≤ z.2.2.2.1.locals ∧ kc ≤ z.2.2.2.1.cells ∧ ks ≤ z.2.2.2.1.slots := ⟨g1, g2, by omega, by omega⟩
  have hJ := C.2.2.2.2.2.2.1
  have hJm := C.2.2.2.2.2.2.2.1
  have hoff := C.2.2.2.2.2.2.2.2.1
  have hx : ∀ i, -2147483648 ≤ (xs i).toInt ∧ (xs i).toInt ≤ 2147483647 := fun i => l_rng _
  have hb : ∀ i, -128 ≤ (xs i).toInt.bmod 256 ∧ (xs i).toInt.bmod 256 ≤ 127 := fun i => l_brng _
  have hbb : ∀ i, -2147483648 ≤ (xs i).toInt.bmod 256 ∧ (xs i).toInt.bmod 256 ≤ 2147483647 := fun i => by have := hb i; omega
  have hw9 : ∀ w : Int, w = 0 ∨ w = 1 → -2147483648 ≤ w ∧ w ≤ 2147483647 := fun w h => by omega
  refine l_aload_n C dL_law_755 rfl rfl ?_
  refine l_aload_n C dL_law_756 rfl rfl ?_
  refine l_iload C dL_law_757 rfl ?_
  refine l_iconst C dL_law_759 ?_
  refine l_iadd C dL_law_760 ?_
  refine l_sld C (by decide) (by decide) dL_law_761 ?_
  show lj z D cA ad am a 7 Q kc ks x_0 x_0 v 762 [some (.ref b), some (.ref (ad 0)), some (.ref (am 0)), some (.ref a), some (.int (fI 0)), none, none] [.int (fI (xs 1).toInt), .ref (ad 0)]
  refine l_aload_n C dL_law_762 rfl rfl ?_
  refine l_iload C dL_law_763 rfl ?_
  refine l_iconst C dL_law_765 ?_
  refine l_iadd C dL_law_766 ?_
  refine l_sld C (by decide) (by decide) dL_law_767 ?_
  show lj z D cA ad am a 7 Q kc ks x_0 x_0 v 768 [some (.ref b), some (.ref (ad 0)), some (.ref (am 0)), some (.ref a), some (.int (fI 0)), none, none] [.int (fI (xs 2).toInt), .int (fI (xs 1).toInt), .ref (ad 0)]
  refine l_aload_n C dL_law_768 rfl rfl ?_
  refine l_h (dd := 9) (mc := 1) (ms := 6) (np := 4) (st := []) C hR (kL_byteOf z.2.1 D cA ad hJ hl0 a hoff v ((xs 1).toInt) ((xs 2).toInt) (hx 1) (hx 2)) dL_law_769 mL_byteOf sL_byteOf iL wL_byteOf ⟨by decide +kernel, by decide +kernel, by decide +kernel⟩ (by decide) (by decide) rfl (by decide) rfl (fun k v1 σ1 hp => ?_)
  obtain rfl := hp
  refine l_istore C dL_law_772 (by decide) ?_
  show lj z D cA ad am a 7 Q (kc + 1) (ks + 6) σ1 x_0 v1 774 [some (.ref b), some (.ref (ad 0)), some (.ref (am 0)), some (.ref a), some (.int (fI 0)), some (.int (fI 1)), none] []
  refine l_aload_n C dL_law_774 rfl rfl ?_
  refine l_aload_n C dL_law_775 rfl rfl ?_
  refine l_iload C dL_law_776 rfl ?_
  refine l_iconst C dL_law_778 ?_
  refine l_iadd C dL_law_779 ?_
  refine l_sld C (by decide) (by decide) dL_law_780 ?_
  show lj z D cA ad am a 7 Q (kc + 1) (ks + 6) σ1 x_0 v1 781 [some (.ref b), some (.ref (ad 0)), some (.ref (am 0)), some (.ref a), some (.int (fI 0)), some (.int (fI 1)), none] [.int (fI (xs 1).toInt), .ref (am 0)]
  refine l_aload_n C dL_law_781 rfl rfl ?_
  refine l_iload C dL_law_782 rfl ?_
  refine l_iconst C dL_law_784 ?_
  refine l_iadd C dL_law_785 ?_
  refine l_sld C (by decide) (by decide) dL_law_786 ?_
  show lj z D cA ad am a 7 Q (kc + 1) (ks + 6) σ1 x_0 v1 787 [some (.ref b), some (.ref (ad 0)), some (.ref (am 0)), some (.ref a), some (.int (fI 0)), some (.int (fI 1)), none] [.int (fI (xs 2).toInt), .int (fI (xs 1).toInt), .ref (am 0)]
  refine l_mI (dd := 9) (np := 2) (st := []) C hR (kM_byteOf z.2.1 xCl D cA am hJm x_0 ((xs 1).toInt) ((xs 2).toInt) (hx 1) (hx 2) (fun _ => (show (0 : Int) ≤ 0 ∧ (0 : Int) ≤ 1 by omega)) (fun _ => (show (0 : Int) ≤ 0 ∧ (0 : Int) ≤ 120 by omega)) (fun _ => (show (-128 : Int) ≤ 0 ∧ (0 : Int) ≤ 127 by omega))) dL_law_787 gW_124 ⟨rfl, by decide +kernel, by decide +kernel, by decide +kernel⟩ (by decide) (by decide) rfl (by decide) rfl (fun r τ1 hp2 => ?_)
  have he : τ1.1 0 0 = 1 := by
    rcases hp2 with ⟨h, -⟩ | ⟨-, -, rfl⟩
    · exact absurd (show (0 : Int) = 1 from h.1.2) (by decide)
    · rfl
  have hk : -2147483648 ≤ (1 : Int) ∧ (1 : Int) ≤ 2147483647 := by decide
  clear hp2
  refine l_istore C dL_law_790 (by decide) ?_
  show lj z D cA ad am a 7 Q (kc + 1) (ks + 6) σ1 τ1 v1 792 [some (.ref b), some (.ref (ad 0)), some (.ref (am 0)), some (.ref a), some (.int (fI 0)), some (.int (fI 1)), some (.int (fI r))] []
  refine l_aload_n C dL_law_792 rfl rfl ?_
  refine l_mI (dd := 9) (np := 0) (st := []) C hR (kM_thrown z.2.1 xCl D cA am hJm τ1) dL_law_793 gW_82 ⟨rfl, by decide +kernel, by decide +kernel, by decide +kernel⟩ (by decide) (by decide) rfl (by decide) rfl (fun t τ2 hp3 => ?_)
  obtain ⟨rfl, rfl⟩ := hp3
  refine l_iload C dL_law_796 rfl ?_
  refine l_icmp_eq (tgt := 803) C dL_law_798 (by decide) (by rw [he]; exact hk) hk (fun _ => ?_) (fun hne => absurd he hne)
  refine l_iload C dL_law_803 rfl ?_
  refine l_if_ne (tgt := 820) C dL_law_805 (by decide) hk (fun _ => ?_) (fun h0 => absurd h0 (by decide))
  refine l_goto (tgt := 1108) C dL_law_820 (by decide) ?_
  exact kend _ _ _ _ _ _ _ (Nat.le_refl _) (Nat.le_refl _)
theorem l_case12 (C : lfc z D cA ad am a 7 b 4 xs cL_law RL) (hl0 : z.2.1.stackTraces = false) (hR : 9 ≤ z.2.2.2.1.frames ∧ 40 * 9 ≤ z.2.2.2.1.locals ∧ kc + 1 ≤ z.2.2.2.1.cells ∧ ks + 6 ≤ z.2.2.2.1.slots) (kend : ∀ (kc' ks' : Nat) (σ τ : fS) (v : Int) (x5 x6 : Option Value), kc' ≤ kc + 1 → ks' ≤ ks + 6 → lj z D cA ad am a 7 Q kc' ks' σ τ v 1108 [some (.ref b), some (.ref (ad 0)), some (.ref (am 0)), some (.ref a), some (.int (fI 0)), x5, x6] []) : lj z D cA ad am a 7 Q kc ks x_0 x_0 v 823 [some (.ref b), some (.ref (ad 0)), some (.ref (am 0)), some (.ref a), some (.int (fI 0)), none, none] [] := by
  obtain ⟨g1, g2, g3, g4⟩ := hR
  have hR : 9 ≤ z.2.2.2.1.frames ∧ 40 * 9 ≤ z.2.2.2.1.locals ∧ kc + 1 ≤ z.2.2.2.1.cells ∧ ks + 6 ≤ z.2.2.2.1.slots := ⟨g1, g2, g3, g4⟩
  have hR0 : 9 ≤ z.2.2.2.1.frames ∧ 40 * 9 ≤ z.2.2.2.1.locals ∧ kc ≤ z.2.2.2.1.cells ∧ ks ≤ z.2.2.2.1.slots := ⟨g1, g2, by omega, by omega⟩
  have hJ := C.2.2.2.2.2.2.1
  have hJm := C.2.2.2.2.2.2.2.1
  have hoff := C.2.2.2.2.2.2.2.2.1
  have hx : ∀ i, -2147483648 ≤ (xs i).toInt ∧ (xs i).toInt ≤ 2147483647 := fun i => l_rng _
  have hb : ∀ i, -128 ≤ (xs i).toInt.bmod 256 ∧ (xs i).toInt.bmod 256 ≤ 127 := fun i => l_brng _
  have hbb : ∀ i, -2147483648 ≤ (xs i).toInt.bmod 256 ∧ (xs i).toInt.bmod 256 ≤ 2147483647 := fun i => by have := hb i; omega
  have hw9 : ∀ w : Int, w = 0 ∨ w = 1 → -2147483648 ≤ w ∧ w ≤ 2147483647 := fun w h => by omega
  refine l_aload_n C dL_law_823 rfl rfl ?_
  refine l_aload_n C dL_law_824 rfl rfl ?_
  refine l_iload C dL_law_825 rfl ?_
  refine l_iconst C dL_law_827 ?_
  refine l_iadd C dL_law_828 ?_
  refine l_sld C (by decide) (by decide) dL_law_829 ?_
  show lj z D cA ad am a 7 Q kc ks x_0 x_0 v 830 [some (.ref b), some (.ref (ad 0)), some (.ref (am 0)), some (.ref a), some (.int (fI 0)), none, none] [.int (fI (xs 1).toInt), .ref (ad 0)]
  refine l_aload_n C dL_law_830 rfl rfl ?_
  refine l_h (dd := 9) (mc := 1) (ms := 6) (np := 3) (st := []) C hR (kL_size z.2.1 D cA ad hJ hl0 a hoff v ((xs 1).toInt) (hx 1)) dL_law_831 mL_size sL_size iL wL_size ⟨by decide +kernel, by decide +kernel, by decide +kernel⟩ (by decide) (by decide) rfl (by decide) rfl (fun k v1 σ1 hp => ?_)
  obtain rfl := hp
  refine l_istore C dL_law_834 (by decide) ?_
  show lj z D cA ad am a 7 Q (kc + 1) (ks + 6) σ1 x_0 v1 836 [some (.ref b), some (.ref (ad 0)), some (.ref (am 0)), some (.ref a), some (.int (fI 0)), some (.int (fI 1)), none] []
  refine l_aload_n C dL_law_836 rfl rfl ?_
  refine l_aload_n C dL_law_837 rfl rfl ?_
  refine l_iload C dL_law_838 rfl ?_
  refine l_iconst C dL_law_840 ?_
  refine l_iadd C dL_law_841 ?_
  refine l_sld C (by decide) (by decide) dL_law_842 ?_
  show lj z D cA ad am a 7 Q (kc + 1) (ks + 6) σ1 x_0 v1 843 [some (.ref b), some (.ref (ad 0)), some (.ref (am 0)), some (.ref a), some (.int (fI 0)), some (.int (fI 1)), none] [.int (fI (xs 1).toInt), .ref (am 0)]
  refine l_mI (dd := 9) (np := 1) (st := []) C hR (kM_size z.2.1 xCl D cA am hJm x_0 ((xs 1).toInt) (hx 1) (show (0 : Int) ≤ 0 ∧ (0 : Int) ≤ 60 by omega)) dL_law_843 gW_127 ⟨rfl, by decide +kernel, by decide +kernel, by decide +kernel⟩ (by decide) (by decide) rfl (by decide) rfl (fun r τ1 hp2 => ?_)
  have he : τ1.1 0 0 = 1 := by
    rcases hp2 with ⟨h, -⟩ | ⟨-, -, rfl⟩
    · exact absurd (show (0 : Int) ≤ (xs 1).toInt ∧ (xs 1).toInt < 0 from h) (by omega)
    · rfl
  have hk : -2147483648 ≤ (1 : Int) ∧ (1 : Int) ≤ 2147483647 := by decide
  clear hp2
  refine l_istore C dL_law_846 (by decide) ?_
  show lj z D cA ad am a 7 Q (kc + 1) (ks + 6) σ1 τ1 v1 848 [some (.ref b), some (.ref (ad 0)), some (.ref (am 0)), some (.ref a), some (.int (fI 0)), some (.int (fI 1)), some (.int (fI r))] []
  refine l_aload_n C dL_law_848 rfl rfl ?_
  refine l_mI (dd := 9) (np := 0) (st := []) C hR (kM_thrown z.2.1 xCl D cA am hJm τ1) dL_law_849 gW_82 ⟨rfl, by decide +kernel, by decide +kernel, by decide +kernel⟩ (by decide) (by decide) rfl (by decide) rfl (fun t τ2 hp3 => ?_)
  obtain ⟨rfl, rfl⟩ := hp3
  refine l_iload C dL_law_852 rfl ?_
  refine l_icmp_eq (tgt := 859) C dL_law_854 (by decide) (by rw [he]; exact hk) hk (fun _ => ?_) (fun hne => absurd he hne)
  refine l_iload C dL_law_859 rfl ?_
  refine l_if_ne (tgt := 876) C dL_law_861 (by decide) hk (fun _ => ?_) (fun h0 => absurd h0 (by decide))
  refine l_goto (tgt := 1108) C dL_law_876 (by decide) ?_
  exact kend _ _ _ _ _ _ _ (Nat.le_refl _) (Nat.le_refl _)
theorem l_case13 (C : lfc z D cA ad am a 7 b 4 xs cL_law RL) (hl0 : z.2.1.stackTraces = false) (hR : 9 ≤ z.2.2.2.1.frames ∧ 40 * 9 ≤ z.2.2.2.1.locals ∧ kc + 1 ≤ z.2.2.2.1.cells ∧ ks + 6 ≤ z.2.2.2.1.slots) (kend : ∀ (kc' ks' : Nat) (σ τ : fS) (v : Int) (x5 x6 : Option Value), kc' ≤ kc + 1 → ks' ≤ ks + 6 → lj z D cA ad am a 7 Q kc' ks' σ τ v 1108 [some (.ref b), some (.ref (ad 0)), some (.ref (am 0)), some (.ref a), some (.int (fI 0)), x5, x6] []) : lj z D cA ad am a 7 Q kc ks x_0 x_0 v 879 [some (.ref b), some (.ref (ad 0)), some (.ref (am 0)), some (.ref a), some (.int (fI 0)), none, none] [] := by
  obtain ⟨g1, g2, g3, g4⟩ := hR
  have hR : 9 ≤ z.2.2.2.1.frames ∧ 40 * 9 ≤ z.2.2.2.1.locals ∧ kc + 1 ≤ z.2.2.2.1.cells ∧ ks + 6 ≤ z.2.2.2.1.slots := ⟨g1, g2, g3, g4⟩
  have hR0 : 9 ≤ z.2.2.2.1.frames ∧ 40 * 9 ≤ z.2.2.2.1.locals ∧ kc ≤ z.2.2.2.1.cells ∧ ks ≤ z.2.2.2.1.slots := ⟨g1, g2, by omega, by omega⟩
  have hJ := C.2.2.2.2.2.2.1
  have hJm := C.2.2.2.2.2.2.2.1
  have hoff := C.2.2.2.2.2.2.2.2.1
  have hx : ∀ i, -2147483648 ≤ (xs i).toInt ∧ (xs i).toInt ≤ 2147483647 := fun i => l_rng _
  have hb : ∀ i, -128 ≤ (xs i).toInt.bmod 256 ∧ (xs i).toInt.bmod 256 ≤ 127 := fun i => l_brng _
  have hbb : ∀ i, -2147483648 ≤ (xs i).toInt.bmod 256 ∧ (xs i).toInt.bmod 256 ≤ 2147483647 := fun i => by have := hb i; omega
  have hw9 : ∀ w : Int, w = 0 ∨ w = 1 → -2147483648 ≤ w ∧ w ≤ 2147483647 := fun w h => by omega
  refine l_aload_n C dL_law_879 rfl rfl ?_
  refine l_aload_n C dL_law_880 rfl rfl ?_
  refine l_iload C dL_law_881 rfl ?_
  refine l_iconst C dL_law_883 ?_
  refine l_iadd C dL_law_884 ?_
  refine l_sld C (by decide) (by decide) dL_law_885 ?_
  show lj z D cA ad am a 7 Q kc ks x_0 x_0 v 886 [some (.ref b), some (.ref (ad 0)), some (.ref (am 0)), some (.ref a), some (.int (fI 0)), none, none] [.int (fI (xs 1).toInt), .ref (ad 0)]
  refine l_aload_n C dL_law_886 rfl rfl ?_
  refine l_iload C dL_law_887 rfl ?_
  refine l_iconst C dL_law_889 ?_
  refine l_iadd C dL_law_890 ?_
  refine l_sld C (by decide) (by decide) dL_law_891 ?_
  show lj z D cA ad am a 7 Q kc ks x_0 x_0 v 892 [some (.ref b), some (.ref (ad 0)), some (.ref (am 0)), some (.ref a), some (.int (fI 0)), none, none] [.int (fI (xs 2).toInt), .int (fI (xs 1).toInt), .ref (ad 0)]
  refine l_aload_n C dL_law_892 rfl rfl ?_
  refine l_h (dd := 9) (mc := 1) (ms := 6) (np := 4) (st := []) C hR (kL_place z.2.1 D cA ad hJ hl0 a hoff v ((xs 1).toInt) ((xs 2).toInt) (hx 1) (hx 2)) dL_law_893 mL_place sL_place iL wL_place ⟨by decide +kernel, by decide +kernel, by decide +kernel⟩ (by decide) (by decide) rfl (by decide) rfl (fun k v1 σ1 hp => ?_)
  obtain rfl := hp
  refine l_istore C dL_law_896 (by decide) ?_
  show lj z D cA ad am a 7 Q (kc + 1) (ks + 6) σ1 x_0 v1 898 [some (.ref b), some (.ref (ad 0)), some (.ref (am 0)), some (.ref a), some (.int (fI 0)), some (.int (fI 1)), none] []
  refine l_aload_n C dL_law_898 rfl rfl ?_
  refine l_aload_n C dL_law_899 rfl rfl ?_
  refine l_iload C dL_law_900 rfl ?_
  refine l_iconst C dL_law_902 ?_
  refine l_iadd C dL_law_903 ?_
  refine l_sld C (by decide) (by decide) dL_law_904 ?_
  show lj z D cA ad am a 7 Q (kc + 1) (ks + 6) σ1 x_0 v1 905 [some (.ref b), some (.ref (ad 0)), some (.ref (am 0)), some (.ref a), some (.int (fI 0)), some (.int (fI 1)), none] [.int (fI (xs 1).toInt), .ref (am 0)]
  refine l_aload_n C dL_law_905 rfl rfl ?_
  refine l_iload C dL_law_906 rfl ?_
  refine l_iconst C dL_law_908 ?_
  refine l_iadd C dL_law_909 ?_
  refine l_sld C (by decide) (by decide) dL_law_910 ?_
  show lj z D cA ad am a 7 Q (kc + 1) (ks + 6) σ1 x_0 v1 911 [some (.ref b), some (.ref (ad 0)), some (.ref (am 0)), some (.ref a), some (.int (fI 0)), some (.int (fI 1)), none] [.int (fI (xs 2).toInt), .int (fI (xs 1).toInt), .ref (am 0)]
  refine l_mI (dd := 9) (np := 2) (st := []) C hR (kM_place z.2.1 xCl D cA am hJm x_0 ((xs 1).toInt) ((xs 2).toInt) (hx 1) (hx 2) (show (0 : Int) ≤ 0 ∧ (0 : Int) ≤ 60 by omega)) dL_law_911 gW_130 ⟨rfl, by decide +kernel, by decide +kernel, by decide +kernel⟩ (by decide) (by decide) rfl (by decide) rfl (fun r τ1 hp2 => ?_)
  have he : τ1.1 0 0 = 1 := by
    rcases hp2 with ⟨h, -⟩ | ⟨-, -, rfl⟩
    · exact absurd (show (0 : Int) ≤ (xs 1).toInt ∧ (xs 1).toInt < 0 from h.1) (by omega)
    · rfl
  have hk : -2147483648 ≤ (1 : Int) ∧ (1 : Int) ≤ 2147483647 := by decide
  clear hp2
  refine l_istore C dL_law_914 (by decide) ?_
  show lj z D cA ad am a 7 Q (kc + 1) (ks + 6) σ1 τ1 v1 916 [some (.ref b), some (.ref (ad 0)), some (.ref (am 0)), some (.ref a), some (.int (fI 0)), some (.int (fI 1)), some (.int (fI r))] []
  refine l_aload_n C dL_law_916 rfl rfl ?_
  refine l_mI (dd := 9) (np := 0) (st := []) C hR (kM_thrown z.2.1 xCl D cA am hJm τ1) dL_law_917 gW_82 ⟨rfl, by decide +kernel, by decide +kernel, by decide +kernel⟩ (by decide) (by decide) rfl (by decide) rfl (fun t τ2 hp3 => ?_)
  obtain ⟨rfl, rfl⟩ := hp3
  refine l_iload C dL_law_920 rfl ?_
  refine l_icmp_eq (tgt := 927) C dL_law_922 (by decide) (by rw [he]; exact hk) hk (fun _ => ?_) (fun hne => absurd he hne)
  refine l_iload C dL_law_927 rfl ?_
  refine l_if_ne (tgt := 944) C dL_law_929 (by decide) hk (fun _ => ?_) (fun h0 => absurd h0 (by decide))
  refine l_goto (tgt := 1108) C dL_law_944 (by decide) ?_
  exact kend _ _ _ _ _ _ _ (Nat.le_refl _) (Nat.le_refl _)
theorem l_case14 (C : lfc z D cA ad am a 7 b 4 xs cL_law RL) (hl0 : z.2.1.stackTraces = false) (hR : 9 ≤ z.2.2.2.1.frames ∧ 40 * 9 ≤ z.2.2.2.1.locals ∧ kc + 1 ≤ z.2.2.2.1.cells ∧ ks + 6 ≤ z.2.2.2.1.slots) (kend : ∀ (kc' ks' : Nat) (σ τ : fS) (v : Int) (x5 x6 : Option Value), kc' ≤ kc + 1 → ks' ≤ ks + 6 → lj z D cA ad am a 7 Q kc' ks' σ τ v 1108 [some (.ref b), some (.ref (ad 0)), some (.ref (am 0)), some (.ref a), some (.int (fI 0)), x5, x6] []) : lj z D cA ad am a 7 Q kc ks x_0 x_0 v 947 [some (.ref b), some (.ref (ad 0)), some (.ref (am 0)), some (.ref a), some (.int (fI 0)), none, none] [] := by
  obtain ⟨g1, g2, g3, g4⟩ := hR
  have hR : 9 ≤ z.2.2.2.1.frames ∧ 40 * 9 ≤ z.2.2.2.1.locals ∧ kc + 1 ≤ z.2.2.2.1.cells ∧ ks + 6 ≤ z.2.2.2.1.slots := ⟨g1, g2, g3, g4⟩
  have hR0 : 9 ≤ z.2.2.2.1.frames ∧ 40 * 9 ≤ z.2.2.2.1.locals ∧ kc ≤ z.2.2.2.1.cells ∧ ks ≤ z.2.2.2.1.slots := ⟨g1, g2, by omega, by omega⟩
  have hJ := C.2.2.2.2.2.2.1
  have hJm := C.2.2.2.2.2.2.2.1
  have hoff := C.2.2.2.2.2.2.2.2.1
  have hx : ∀ i, -2147483648 ≤ (xs i).toInt ∧ (xs i).toInt ≤ 2147483647 := fun i => l_rng _
  have hb : ∀ i, -128 ≤ (xs i).toInt.bmod 256 ∧ (xs i).toInt.bmod 256 ≤ 127 := fun i => l_brng _
  have hbb : ∀ i, -2147483648 ≤ (xs i).toInt.bmod 256 ∧ (xs i).toInt.bmod 256 ≤ 2147483647 := fun i => by have := hb i; omega
  have hw9 : ∀ w : Int, w = 0 ∨ w = 1 → -2147483648 ≤ w ∧ w ≤ 2147483647 := fun w h => by omega
  refine l_aload_n C dL_law_947 rfl rfl ?_
  refine l_aload_n C dL_law_948 rfl rfl ?_
  refine l_iload C dL_law_949 rfl ?_
  refine l_iconst C dL_law_951 ?_
  refine l_iadd C dL_law_952 ?_
  refine l_sld C (by decide) (by decide) dL_law_953 ?_
  show lj z D cA ad am a 7 Q kc ks x_0 x_0 v 954 [some (.ref b), some (.ref (ad 0)), some (.ref (am 0)), some (.ref a), some (.int (fI 0)), none, none] [.int (fI (xs 1).toInt), .ref (ad 0)]
  refine l_aload_n C dL_law_954 rfl rfl ?_
  refine l_iload C dL_law_955 rfl ?_
  refine l_iconst C dL_law_957 ?_
  refine l_iadd C dL_law_958 ?_
  refine l_sld C (by decide) (by decide) dL_law_959 ?_
  show lj z D cA ad am a 7 Q kc ks x_0 x_0 v 960 [some (.ref b), some (.ref (ad 0)), some (.ref (am 0)), some (.ref a), some (.int (fI 0)), none, none] [.int (fI (xs 2).toInt), .int (fI (xs 1).toInt), .ref (ad 0)]
  refine l_aload_n C dL_law_960 rfl rfl ?_
  refine l_h (dd := 9) (mc := 1) (ms := 6) (np := 4) (st := []) C hR (kL_differ z.2.1 D cA ad hJ hl0 a hoff v ((xs 1).toInt) ((xs 2).toInt) (hx 1) (hx 2)) dL_law_961 mL_differ sL_differ iL wL_differ ⟨by decide +kernel, by decide +kernel, by decide +kernel⟩ (by decide) (by decide) rfl (by decide) rfl (fun k v1 σ1 hp => ?_)
  obtain rfl := hp
  refine l_istore C dL_law_964 (by decide) ?_
  show lj z D cA ad am a 7 Q (kc + 1) (ks + 6) σ1 x_0 v1 966 [some (.ref b), some (.ref (ad 0)), some (.ref (am 0)), some (.ref a), some (.int (fI 0)), some (.int (fI 1)), none] []
  refine l_aload_n C dL_law_966 rfl rfl ?_
  refine l_aload_n C dL_law_967 rfl rfl ?_
  refine l_iload C dL_law_968 rfl ?_
  refine l_iconst C dL_law_970 ?_
  refine l_iadd C dL_law_971 ?_
  refine l_sld C (by decide) (by decide) dL_law_972 ?_
  show lj z D cA ad am a 7 Q (kc + 1) (ks + 6) σ1 x_0 v1 973 [some (.ref b), some (.ref (ad 0)), some (.ref (am 0)), some (.ref a), some (.int (fI 0)), some (.int (fI 1)), none] [.int (fI (xs 1).toInt), .ref (am 0)]
  refine l_aload_n C dL_law_973 rfl rfl ?_
  refine l_iload C dL_law_974 rfl ?_
  refine l_iconst C dL_law_976 ?_
  refine l_iadd C dL_law_977 ?_
  refine l_sld C (by decide) (by decide) dL_law_978 ?_
  show lj z D cA ad am a 7 Q (kc + 1) (ks + 6) σ1 x_0 v1 979 [some (.ref b), some (.ref (ad 0)), some (.ref (am 0)), some (.ref a), some (.int (fI 0)), some (.int (fI 1)), none] [.int (fI (xs 2).toInt), .int (fI (xs 1).toInt), .ref (am 0)]
  refine l_mI (dd := 9) (np := 2) (st := []) C hR (kM_differ z.2.1 xCl D cA am hJm x_0 ((xs 1).toInt) ((xs 2).toInt) (hx 1) (hx 2) (show (0 : Int) ≤ 0 ∧ (0 : Int) ≤ 60 by omega) (fun _ => (show (-128 : Int) ≤ 0 ∧ (0 : Int) ≤ 127 by omega)) (fun _ => (show (-1 : Int) ≤ 0 ∧ (0 : Int) ≤ 99999 by omega)) (fun _ => (show (0 : Int) ≤ 0 ∧ (0 : Int) ≤ 120 by omega)) (fun _ => (show (0 : Int) ≤ 0 ∧ (0 : Int) + 0 ≤ 12000 by omega))) dL_law_979 gW_133 ⟨rfl, by decide +kernel, by decide +kernel, by decide +kernel⟩ (by decide) (by decide) rfl (by decide) rfl (fun r τ1 hp2 => ?_)
  have he : τ1.1 0 0 = 1 := by
    rcases hp2 with ⟨-, -, rfl⟩ | ⟨h, -⟩
    · rfl
    · exact absurd (show (0 : Int) ≤ (xs 1).toInt ∧ (xs 1).toInt < 0 from h.1) (by omega)
  have hk : -2147483648 ≤ (1 : Int) ∧ (1 : Int) ≤ 2147483647 := by decide
  clear hp2
  refine l_istore C dL_law_982 (by decide) ?_
  show lj z D cA ad am a 7 Q (kc + 1) (ks + 6) σ1 τ1 v1 984 [some (.ref b), some (.ref (ad 0)), some (.ref (am 0)), some (.ref a), some (.int (fI 0)), some (.int (fI 1)), some (.int (fI r))] []
  refine l_aload_n C dL_law_984 rfl rfl ?_
  refine l_mI (dd := 9) (np := 0) (st := []) C hR (kM_thrown z.2.1 xCl D cA am hJm τ1) dL_law_985 gW_82 ⟨rfl, by decide +kernel, by decide +kernel, by decide +kernel⟩ (by decide) (by decide) rfl (by decide) rfl (fun t τ2 hp3 => ?_)
  obtain ⟨rfl, rfl⟩ := hp3
  refine l_iload C dL_law_988 rfl ?_
  refine l_icmp_eq (tgt := 995) C dL_law_990 (by decide) (by rw [he]; exact hk) hk (fun _ => ?_) (fun hne => absurd he hne)
  refine l_iload C dL_law_995 rfl ?_
  refine l_if_ne (tgt := 1012) C dL_law_997 (by decide) hk (fun _ => ?_) (fun h0 => absurd h0 (by decide))
  refine l_goto (tgt := 1108) C dL_law_1012 (by decide) ?_
  exact kend _ _ _ _ _ _ _ (Nat.le_refl _) (Nat.le_refl _)
theorem l_case15 (C : lfc z D cA ad am a 7 b 4 xs cL_law RL) (hl0 : z.2.1.stackTraces = false) (hR : 9 ≤ z.2.2.2.1.frames ∧ 40 * 9 ≤ z.2.2.2.1.locals ∧ kc + 1 ≤ z.2.2.2.1.cells ∧ ks + 6 ≤ z.2.2.2.1.slots) (kend : ∀ (kc' ks' : Nat) (σ τ : fS) (v : Int) (x5 x6 : Option Value), kc' ≤ kc + 1 → ks' ≤ ks + 6 → lj z D cA ad am a 7 Q kc' ks' σ τ v 1108 [some (.ref b), some (.ref (ad 0)), some (.ref (am 0)), some (.ref a), some (.int (fI 0)), x5, x6] []) : lj z D cA ad am a 7 Q kc ks x_0 x_0 v 1015 [some (.ref b), some (.ref (ad 0)), some (.ref (am 0)), some (.ref a), some (.int (fI 0)), none, none] [] := by
  obtain ⟨g1, g2, g3, g4⟩ := hR
  have hR : 9 ≤ z.2.2.2.1.frames ∧ 40 * 9 ≤ z.2.2.2.1.locals ∧ kc + 1 ≤ z.2.2.2.1.cells ∧ ks + 6 ≤ z.2.2.2.1.slots := ⟨g1, g2, g3, g4⟩
  have hR0 : 9 ≤ z.2.2.2.1.frames ∧ 40 * 9 ≤ z.2.2.2.1.locals ∧ kc ≤ z.2.2.2.1.cells ∧ ks ≤ z.2.2.2.1.slots := ⟨g1, g2, by omega, by omega⟩
  have hJ := C.2.2.2.2.2.2.1
  have hJm := C.2.2.2.2.2.2.2.1
  have hoff := C.2.2.2.2.2.2.2.2.1
  have hx : ∀ i, -2147483648 ≤ (xs i).toInt ∧ (xs i).toInt ≤ 2147483647 := fun i => l_rng _
  have hb : ∀ i, -128 ≤ (xs i).toInt.bmod 256 ∧ (xs i).toInt.bmod 256 ≤ 127 := fun i => l_brng _
  have hbb : ∀ i, -2147483648 ≤ (xs i).toInt.bmod 256 ∧ (xs i).toInt.bmod 256 ≤ 2147483647 := fun i => by have := hb i; omega
  have hw9 : ∀ w : Int, w = 0 ∨ w = 1 → -2147483648 ≤ w ∧ w ≤ 2147483647 := fun w h => by omega
  refine l_aload_n C dL_law_1015 rfl rfl ?_
  refine l_aload_n C dL_law_1016 rfl rfl ?_
  refine l_iload C dL_law_1017 rfl ?_
  refine l_iconst C dL_law_1019 ?_
  refine l_iadd C dL_law_1020 ?_
  refine l_sld C (by decide) (by decide) dL_law_1021 ?_
  show lj z D cA ad am a 7 Q kc ks x_0 x_0 v 1022 [some (.ref b), some (.ref (ad 0)), some (.ref (am 0)), some (.ref a), some (.int (fI 0)), none, none] [.int (fI (xs 1).toInt), .ref (ad 0)]
  refine l_aload_n C dL_law_1022 rfl rfl ?_
  refine l_iload C dL_law_1023 rfl ?_
  refine l_iconst C dL_law_1025 ?_
  refine l_iadd C dL_law_1026 ?_
  refine l_sld C (by decide) (by decide) dL_law_1027 ?_
  show lj z D cA ad am a 7 Q kc ks x_0 x_0 v 1028 [some (.ref b), some (.ref (ad 0)), some (.ref (am 0)), some (.ref a), some (.int (fI 0)), none, none] [.int (fI (xs 2).toInt), .int (fI (xs 1).toInt), .ref (ad 0)]
  refine l_aload_n C dL_law_1028 rfl rfl ?_
  refine l_h (dd := 9) (mc := 1) (ms := 6) (np := 4) (st := []) C hR (kL_row z.2.1 D cA ad hJ hl0 a hoff v ((xs 1).toInt) ((xs 2).toInt) (hx 1) (hx 2)) dL_law_1029 mL_row sL_row iL wL_row ⟨by decide +kernel, by decide +kernel, by decide +kernel⟩ (by decide) (by decide) rfl (by decide) rfl (fun k v1 σ1 hp => ?_)
  obtain rfl := hp
  refine l_istore C dL_law_1032 (by decide) ?_
  show lj z D cA ad am a 7 Q (kc + 1) (ks + 6) σ1 x_0 v1 1034 [some (.ref b), some (.ref (ad 0)), some (.ref (am 0)), some (.ref a), some (.int (fI 0)), some (.int (fI 1)), none] []
  refine l_aload_n C dL_law_1034 rfl rfl ?_
  refine l_aload_n C dL_law_1035 rfl rfl ?_
  refine l_iload C dL_law_1036 rfl ?_
  refine l_iconst C dL_law_1038 ?_
  refine l_iadd C dL_law_1039 ?_
  refine l_sld C (by decide) (by decide) dL_law_1040 ?_
  show lj z D cA ad am a 7 Q (kc + 1) (ks + 6) σ1 x_0 v1 1041 [some (.ref b), some (.ref (ad 0)), some (.ref (am 0)), some (.ref a), some (.int (fI 0)), some (.int (fI 1)), none] [.int (fI (xs 1).toInt), .ref (am 0)]
  refine l_aload_n C dL_law_1041 rfl rfl ?_
  refine l_iload C dL_law_1042 rfl ?_
  refine l_iconst C dL_law_1044 ?_
  refine l_iadd C dL_law_1045 ?_
  refine l_sld C (by decide) (by decide) dL_law_1046 ?_
  show lj z D cA ad am a 7 Q (kc + 1) (ks + 6) σ1 x_0 v1 1047 [some (.ref b), some (.ref (ad 0)), some (.ref (am 0)), some (.ref a), some (.int (fI 0)), some (.int (fI 1)), none] [.int (fI (xs 2).toInt), .int (fI (xs 1).toInt), .ref (am 0)]
  refine l_mI (dd := 9) (np := 2) (st := []) C hR (kM_row z.2.1 xCl D cA am hJm x_0 ((xs 1).toInt) ((xs 2).toInt) (hx 1) (hx 2) (Or.inl rfl) (show (0 : Int) ≤ 0 ∧ (0 : Int) ≤ 40 by omega)) dL_law_1047 gW_136 ⟨rfl, by decide +kernel, by decide +kernel, by decide +kernel⟩ (by decide) (by decide) rfl (by decide) rfl (fun r τ1 hp2 => ?_)
  have he : τ1.1 0 0 = 1 := by
    rcases hp2 with ⟨h, -⟩ | ⟨-, -, rfl⟩
    · exact absurd (show (0 : Int) = 1 from h.1) (by decide)
    · rfl
  have hk : -2147483648 ≤ (1 : Int) ∧ (1 : Int) ≤ 2147483647 := by decide
  clear hp2
  refine l_istore C dL_law_1050 (by decide) ?_
  show lj z D cA ad am a 7 Q (kc + 1) (ks + 6) σ1 τ1 v1 1052 [some (.ref b), some (.ref (ad 0)), some (.ref (am 0)), some (.ref a), some (.int (fI 0)), some (.int (fI 1)), some (.int (fI r))] []
  refine l_aload_n C dL_law_1052 rfl rfl ?_
  refine l_mI (dd := 9) (np := 0) (st := []) C hR (kM_thrown z.2.1 xCl D cA am hJm τ1) dL_law_1053 gW_82 ⟨rfl, by decide +kernel, by decide +kernel, by decide +kernel⟩ (by decide) (by decide) rfl (by decide) rfl (fun t τ2 hp3 => ?_)
  obtain ⟨rfl, rfl⟩ := hp3
  refine l_iload C dL_law_1056 rfl ?_
  refine l_icmp_eq (tgt := 1063) C dL_law_1058 (by decide) (by rw [he]; exact hk) hk (fun _ => ?_) (fun hne => absurd he hne)
  refine l_iload C dL_law_1063 rfl ?_
  refine l_if_ne (tgt := 1080) C dL_law_1065 (by decide) hk (fun _ => ?_) (fun h0 => absurd h0 (by decide))
  refine l_goto (tgt := 1108) C dL_law_1080 (by decide) ?_
  exact kend _ _ _ _ _ _ _ (Nat.le_refl _) (Nat.le_refl _)
theorem l_case6 (C : lfc z D cA ad am a 7 b 4 xs cL_law RL) (hl0 : z.2.1.stackTraces = false) (hR : 9 ≤ z.2.2.2.1.frames ∧ 40 * 9 ≤ z.2.2.2.1.locals ∧ kc + 1 ≤ z.2.2.2.1.cells ∧ ks + 6 ≤ z.2.2.2.1.slots) (kend : ∀ (kc' ks' : Nat) (σ τ : fS) (v : Int) (x5 x6 : Option Value), kc' ≤ kc + 1 → ks' ≤ ks + 6 → lj z D cA ad am a 7 Q kc' ks' σ τ v 1108 [some (.ref b), some (.ref (ad 0)), some (.ref (am 0)), some (.ref a), some (.int (fI 0)), x5, x6] []) : lj z D cA ad am a 7 Q kc ks x_0 x_0 v 504 [some (.ref b), some (.ref (ad 0)), some (.ref (am 0)), some (.ref a), some (.int (fI 0)), none, none] [] := by
  obtain ⟨g1, g2, g3, g4⟩ := hR
  have hR : 9 ≤ z.2.2.2.1.frames ∧ 40 * 9 ≤ z.2.2.2.1.locals ∧ kc + 1 ≤ z.2.2.2.1.cells ∧ ks + 6 ≤ z.2.2.2.1.slots := ⟨g1, g2, g3, g4⟩
  have hR0 : 9 ≤ z.2.2.2.1.frames ∧ 40 * 9 ≤ z.2.2.2.1.locals ∧ kc ≤ z.2.2.2.1.cells ∧ ks ≤ z.2.2.2.1.slots := ⟨g1, g2, by omega, by omega⟩
  have hJ := C.2.2.2.2.2.2.1
  have hJm := C.2.2.2.2.2.2.2.1
  have hoff := C.2.2.2.2.2.2.2.2.1
  have hx : ∀ i, -2147483648 ≤ (xs i).toInt ∧ (xs i).toInt ≤ 2147483647 := fun i => l_rng _
  have hb : ∀ i, -128 ≤ (xs i).toInt.bmod 256 ∧ (xs i).toInt.bmod 256 ≤ 127 := fun i => l_brng _
  have hbb : ∀ i, -2147483648 ≤ (xs i).toInt.bmod 256 ∧ (xs i).toInt.bmod 256 ≤ 2147483647 := fun i => by have := hb i; omega
  have hw9 : ∀ w : Int, w = 0 ∨ w = 1 → -2147483648 ≤ w ∧ w ≤ 2147483647 := fun w h => by omega
  refine l_aload_n C dL_law_504 rfl rfl ?_
  refine l_xI (dd := 9) (np := 0) (st := []) C hR0 (kX_XA_read0 z.2.1 D cA ad hJ x_0 rfl (fun _ => (show (-128 : Int) ≤ 0 ∧ (0 : Int) ≤ 127 by omega))) dL_law_505 gW_104 ⟨rfl, by decide +kernel, by decide +kernel, by decide +kernel⟩ (by decide) (by decide) rfl (by decide) rfl (fun r σ1 hp => ?_)
  obtain ⟨rfl, -⟩ := hp
  refine l_aload_n C dL_law_508 rfl rfl ?_
  refine l_mI (dd := 9) (np := 0) (st := [.int (fI (-1))]) C hR0 (kM_read0 z.2.1 xCl D cA am hJm x_0 rfl (fun _ => (show (-128 : Int) ≤ 0 ∧ (0 : Int) ≤ 127 by omega))) dL_law_509 gW_107 ⟨rfl, by decide +kernel, by decide +kernel, by decide +kernel⟩ (by decide) (by decide) rfl (by decide) rfl (fun r τ1 hp => ?_)
  obtain ⟨rfl, -⟩ := hp
  refine l_icmp_eq (tgt := 1108) C dL_law_512 (by decide) (by decide) (by decide) (fun _ => ?_) (fun h => absurd rfl h)
  exact kend _ _ _ _ _ _ _ (Nat.le_succ _) (Nat.le_add_right _ _)
theorem l_case16 (C : lfc z D cA ad am a 7 b 4 xs cL_law RL) (hl0 : z.2.1.stackTraces = false) (hR : 9 ≤ z.2.2.2.1.frames ∧ 40 * 9 ≤ z.2.2.2.1.locals ∧ kc + 1 ≤ z.2.2.2.1.cells ∧ ks + 6 ≤ z.2.2.2.1.slots) (kend : ∀ (kc' ks' : Nat) (σ τ : fS) (v : Int) (x5 x6 : Option Value), kc' ≤ kc + 1 → ks' ≤ ks + 6 → lj z D cA ad am a 7 Q kc' ks' σ τ v 1108 [some (.ref b), some (.ref (ad 0)), some (.ref (am 0)), some (.ref a), some (.int (fI 0)), x5, x6] []) : lj z D cA ad am a 7 Q kc ks x_0 x_0 v 1083 [some (.ref b), some (.ref (ad 0)), some (.ref (am 0)), some (.ref a), some (.int (fI 0)), none, none] [] := by
  obtain ⟨g1, g2, g3, g4⟩ := hR
  have hR : 9 ≤ z.2.2.2.1.frames ∧ 40 * 9 ≤ z.2.2.2.1.locals ∧ kc + 1 ≤ z.2.2.2.1.cells ∧ ks + 6 ≤ z.2.2.2.1.slots := ⟨g1, g2, g3, g4⟩
  have hR0 : 9 ≤ z.2.2.2.1.frames ∧ 40 * 9 ≤ z.2.2.2.1.locals ∧ kc ≤ z.2.2.2.1.cells ∧ ks ≤ z.2.2.2.1.slots := ⟨g1, g2, by omega, by omega⟩
  have hJ := C.2.2.2.2.2.2.1
  have hJm := C.2.2.2.2.2.2.2.1
  have hoff := C.2.2.2.2.2.2.2.2.1
  have hx : ∀ i, -2147483648 ≤ (xs i).toInt ∧ (xs i).toInt ≤ 2147483647 := fun i => l_rng _
  have hb : ∀ i, -128 ≤ (xs i).toInt.bmod 256 ∧ (xs i).toInt.bmod 256 ≤ 127 := fun i => l_brng _
  have hbb : ∀ i, -2147483648 ≤ (xs i).toInt.bmod 256 ∧ (xs i).toInt.bmod 256 ≤ 2147483647 := fun i => by have := hb i; omega
  have hw9 : ∀ w : Int, w = 0 ∨ w = 1 → -2147483648 ≤ w ∧ w ≤ 2147483647 := fun w h => by omega
  refine l_aload_n C dL_law_1083 rfl rfl ?_
  refine l_aload_n C dL_law_1084 rfl rfl ?_
  refine l_iload C dL_law_1085 rfl ?_
  refine l_iconst C dL_law_1087 ?_
  refine l_iadd C dL_law_1088 ?_
  refine l_sld C (by decide) (by decide) dL_law_1089 ?_
  show lj z D cA ad am a 7 Q kc ks x_0 x_0 v 1090 [some (.ref b), some (.ref (ad 0)), some (.ref (am 0)), some (.ref a), some (.int (fI 0)), none, none] [.int (fI (xs 1).toInt), .ref (ad 0)]
  refine l_xI (dd := 9) (np := 1) (st := []) C hR0 (kX_XA_told z.2.1 D cA ad hJ x_0 (xs 1).toInt (hx 1) (fun _ => (show (0 : Int) ≤ 0 ∧ (0 : Int) ≤ 1 by omega)) (fun _ => (show (0 : Int) ≤ 0 ∧ (0 : Int) ≤ 1 by omega)) (fun _ => (show (0 : Int) ≤ 0 ∧ (0 : Int) ≤ 1 by omega)) (show (0 : Int) ≤ 0 ∧ (0 : Int) ≤ 1 by omega)) dL_law_1090 gW_137 ⟨rfl, by decide +kernel, by decide +kernel, by decide +kernel⟩ (by decide) (by decide) rfl (by decide) rfl (fun r σ1 hp => ?_)
  obtain ⟨hp, -⟩ := hp
  refine l_aload_n C dL_law_1093 rfl rfl ?_
  refine l_aload_n C dL_law_1094 rfl rfl ?_
  refine l_iload C dL_law_1095 rfl ?_
  refine l_iconst C dL_law_1097 ?_
  refine l_iadd C dL_law_1098 ?_
  refine l_sld C (by decide) (by decide) dL_law_1099 ?_
  show lj z D cA ad am a 7 Q kc ks σ1 x_0 v 1100 [some (.ref b), some (.ref (ad 0)), some (.ref (am 0)), some (.ref a), some (.int (fI 0)), none, none] [.int (fI (xs 1).toInt), .ref (am 0), .int (fI r)]
  refine l_mI (dd := 9) (np := 1) (st := [.int (fI r)]) C hR0 (kM_told z.2.1 xCl D cA am hJm x_0 (xs 1).toInt (hx 1) (Or.inl rfl) (fun _ => (show (0 : Int) ≤ 0 ∧ (0 : Int) ≤ 1 by omega)) (fun _ => (show (0 : Int) ≤ 0 ∧ (0 : Int) ≤ 1 by omega))) dL_law_1100 gW_140 ⟨rfl, by decide +kernel, by decide +kernel, by decide +kernel⟩ (by decide) (by decide) rfl (Nat.le_of_ble_eq_true rfl) rfl (fun r2 τ1 hp2 => ?_)
  obtain ⟨-, hp2⟩ := hp2
  have h40 : m_cnt (fun _ => 0) 40 = 0 := by decide +kernel
  have hc2 : m_cnt (x_0.2 2) 40 = 0 := h40
  have hc3 : m_cnt (x_ch x_0) 40 = 0 := by
    have e : x_ch x_0 = fun _ => 0 := by
      funext i
      simp [x_ch, x_0]
    rw [e]; exact h40
  have e1 : r = (if 0 ≤ (xs 1).toInt ∧ (xs 1).toInt ≤ 4 then 0 else -1) := by
    rw [hp, hc2, hc3]
    show (if (xs 1).toInt = 0 then (0 : Int) else if (xs 1).toInt = 1 then 0 else if (xs 1).toInt = 2 then 0 else if (xs 1).toInt = 3 then 0 else if (xs 1).toInt = 4 then 0 else -1) = _
    split
    · rw [if_pos (by omega)]
    split
    · rw [if_pos (by omega)]
    split
    · rw [if_pos (by omega)]
    split
    · rw [if_pos (by omega)]
    split
    · rw [if_pos (by omega)]
    rw [if_neg (by omega)]
  have e2 : r2 = (if 0 ≤ (xs 1).toInt ∧ (xs 1).toInt ≤ 4 then 0 else -1) := by
    rcases hp2 with ⟨h, h2⟩ | ⟨h, h2⟩ | ⟨h, h2⟩ | ⟨h, h2⟩ | ⟨h, h2⟩ | ⟨h, h2⟩
    · rw [if_pos (by omega)]; exact h2
    · rw [if_pos (by omega)]; exact h2
    · rw [if_pos (by omega)]; exact h2.trans h40
    · rw [if_pos (by omega)]; exact h2.trans h40
    · rw [if_pos (by omega)]; exact h2
    · rw [if_neg h]; exact h2
  have e3 : r = r2 := e1.trans e2.symm
  have hk : -2147483648 ≤ r ∧ r ≤ 2147483647 := by
    rw [e1]
    split <;> decide
  clear hp hp2 e1 e2
  subst e3
  refine l_icmp_eq (tgt := 1108) C dL_law_1103 (by decide) hk hk (fun _ => ?_) (fun h => absurd rfl h)
  exact kend _ _ _ _ _ _ _ (Nat.le_succ _) (Nat.le_add_right _ _)
end LB
