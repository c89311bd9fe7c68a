/-! AT THE START -/
section SA
variable {args : Array Value} {s : State}
theorem s_arr {ty : FieldType} (hne : ∀ C, ty ≠ .object C) (h : (Cond.arrayClass ty).before args s = true) : ∃ c, ArrOfT s c ty ∧ va_RA s c ty := by
  obtain ⟨c, k, comp, h1, h2, h3⟩ := Cond.arrayClass_spec h
  refine ⟨c, fun n z => ⟨fun k h => (by cases h), k, h2, comp, h3⟩, ?_⟩
  cases ty with
  | object C => exact absurd rfl (hne C)
  | _ => exact h1
theorem s_arrq {C : String} (h : va_AO C s) : ∃ c, ArrOfT s c (.object C) ∧ va_RA s c (.object C) := by
  obtain ⟨comp, c, k, h1, -, h2, h3, h4⟩ := Cond.arrayOver_spec (va_AO.use (A := #[]) h)
  exact ⟨c, fun N z => ⟨fun k h => (by cases h), k, h2, comp, h3⟩, k, comp, h2, h3, h1, h4⟩
theorem s_st {n d : String} {A : Nat → Prop} (hl : (Cond.laysStatic Bundle.tN n d).before args s = true) (hr : (Cond.isRef (.static Bundle.tN n d)).before args s = true) (hA : ∀ a : Nat, a < s.heap.size → ¬ A a) : x_st n d A s s.heap := by
  obtain ⟨c, k, i, f, a, cell, h1, h2, h3, h4, h5, h6, h7, h8, h9⟩ := Cond.laysStatic_spec hl
  obtain ⟨v, hv, hvr⟩ := Cond.isRef_spec hr
  obtain ⟨-, a', cell', ha', hcell', -, hslot⟩ := Term.static_spec h2 hv
  cases h4.symm.trans ha'
  cases h5.symm.trans hcell'
  exact ⟨c, k, i, f, a, cell, v, h1, h2, h3, h4, h5, h6, h7, h8, h9, hslot, hvr, hA a (Array.getElem?_eq_some_iff.mp h5).1⟩
theorem s_9 (hts : ∀ w ∈ lw_tbl, w.before args s = true) : ∀ w ∈ A9, w.before args s = true := fun w h => hts w (List.mem_filter.mp h).1
theorem s_E (hts : ∀ w ∈ lw_tbl, w.before args s = true) : c_E s :=
  ⟨fun w hw => va_Nw.of ((show ∀ w ∈ x_nestc, w.onTables = true by decide +kernel) w hw) (hts w ((show ∀ w ∈ x_nestc, w ∈ lw_tbl by decide +kernel) w hw)), va_AO.of (hts (.arrayOver (.object RXT)) (by decide +kernel))⟩
theorem s_K (hts : ∀ w ∈ lw_tbl, w.before args s = true) : ∃ (D : va_G) (cA : Nat → ClassId), va_K D lCl (w_tys cA) s := by
  have h9 := s_9 hts
  obtain ⟨c0, i0, k0⟩ := u_known h9 inM (hts (.instantiable RM 32) (by decide +kernel))
  obtain ⟨c1, i1, k1⟩ := u_known h9 inXA (hts (.instantiable RXA 6) (by decide +kernel))
  obtain ⟨c2, i2, k2⟩ := u_known h9 inXS (hts (.instantiable RXS 6) (by decide +kernel))
  obtain ⟨c3, i3, k3⟩ := u_known h9 inXF (hts (.instantiable RXF 3) (by decide +kernel))
  obtain ⟨c4, i4, k4⟩ := u_known h9 inXT (hts (.instantiable RXT 4) (by decide +kernel))
  obtain ⟨c5, i5, k5⟩ := u_known h9 inXH (hts (.instantiable RXH 2) (by decide +kernel))
  obtain ⟨c6, i6, k6⟩ := u_known h9 inXC (hts (.instantiable RXC 5) (by decide +kernel))
  obtain ⟨c7, i7, k7⟩ := u_known h9 inXD (hts (.instantiable RXD 7) (by decide +kernel))
  obtain ⟨c8, i8, k8⟩ := u_known h9 inXG (hts (.instantiable RXG 3) (by decide +kernel))
  obtain ⟨a0, r0⟩ := s_arr (ty := .int) (fun C h => by cases h) (hts (.arrayClass .int) (by decide +kernel))
  obtain ⟨a1, r1⟩ := s_arr (ty := .byte) (fun C h => by cases h) (hts (.arrayClass .byte) (by decide +kernel))
  obtain ⟨a2, r2⟩ := s_arr (ty := .boolean) (fun C h => by cases h) (hts (.arrayClass .boolean) (by decide +kernel))
  obtain ⟨a3, r3⟩ := s_arrq (s_E hts).2
  obtain ⟨a4, r4⟩ := s_arr (ty := .long) (fun C h => by cases h) (hts (.arrayClass .long) (by decide +kernel))
  refine ⟨(fun c => [c0, c1, c2, c3, c4, c5, c6, c7, c8].getD c c0, fun c => [i0, i1, i2, i3, i4, i5, i6, i7, i8].getD c i0), fun k => [a0, a1, a2, a3, a4].getD k a0, fun c q hq => ?_, fun k q hq => ?_⟩
  · have hc : c < 9 := (List.getElem?_eq_some_iff.mp hq).1
    obtain rfl | rfl | rfl | rfl | rfl | rfl | rfl | rfl | rfl : c = 0 ∨ c = 1 ∨ c = 2 ∨ c = 3 ∨ c = 4 ∨ c = 5 ∨ c = 6 ∨ c = 7 ∨ c = 8 := by omega
    · obtain rfl := Option.some.inj hq
      exact k0
    · obtain rfl := Option.some.inj hq
      exact k1
    · obtain rfl := Option.some.inj hq
      exact k2
    · obtain rfl := Option.some.inj hq
      exact k3
    · obtain rfl := Option.some.inj hq
      exact k4
    · obtain rfl := Option.some.inj hq
      exact k5
    · obtain rfl := Option.some.inj hq
      exact k6
    · obtain rfl := Option.some.inj hq
      exact k7
    · obtain rfl := Option.some.inj hq
      exact k8
  · have hc : k < 5 := (List.getElem?_eq_some_iff.mp hq).1
    obtain rfl | rfl | rfl | rfl | rfl : k = 0 ∨ k = 1 ∨ k = 2 ∨ k = 3 ∨ k = 4 := by omega
    · obtain rfl := Option.some.inj hq
      exact r0
    · obtain rfl := Option.some.inj hq
      exact r1
    · obtain rfl := Option.some.inj hq
      exact r2
    · obtain rfl := Option.some.inj hq
      exact r3
    · obtain rfl := Option.some.inj hq
      exact r4
set_option maxHeartbeats 4000000 in
theorem s_S (hts : ∀ w ∈ lw_tbl, w.before args s = true) (hgv : (Jvm.Cond.and given_1 narrow_1).before args s = true) : xS (fun q => s.heap.size ≤ q) s := by
  have hs := flat_of_before _ hgv
  have hA : ∀ a : Nat, a < s.heap.size → ¬ (fun q => s.heap.size ≤ q) a := fun a h g => by
    have g2 : s.heap.size ≤ a := g
    omega
  obtain ⟨t, ht, hT⟩ := va_Tof (args := args) (s := s) (tm := (.static RXA "FIRST_LINE" "[B")) (ty := .byte) (N := 4) (f := fun j => .int (fI (x_fl j))) (A := fun q => s.heap.size ≤ q) (by decide) (hs _ (by decide +kernel)) (by rw [show Int32.ofNat 4 = 4 by decide +kernel]; exact va_eqt (hs _ (by decide +kernel))) (fun j hj => by
    obtain rfl | rfl | rfl | rfl : j = 0 ∨ j = 1 ∨ j = 2 ∨ j = 3 := by omega
    · rw [show Int32.ofNat 0 = 0 by decide +kernel, show fI (x_fl 0) = 37 by decide +kernel]; exact va_eqt (hs _ (by decide +kernel))
    · rw [show Int32.ofNat 1 = 1 by decide +kernel, show fI (x_fl 1) = 70 by decide +kernel]; exact va_eqt (hs _ (by decide +kernel))
    · rw [show Int32.ofNat 2 = 2 by decide +kernel, show fI (x_fl 2) = 49 by decide +kernel]; exact va_eqt (hs _ (by decide +kernel))
    · rw [show Int32.ofNat 3 = 3 by decide +kernel, show fI (x_fl 3) = 10 by decide +kernel]; exact va_eqt (hs _ (by decide +kernel))) hA
  refine ⟨s_st (hts _ (by decide +kernel)) (hs _ (by decide +kernel)) hA, s_st (hts _ (by decide +kernel)) (hs _ (by decide +kernel)) hA, fun p hp => ?_, fun w hw => va_Nw.of ((show ∀ w ∈ x_nest, w.onTables = true by decide +kernel) w hw) (hts w ((show ∀ w ∈ x_nest, w ∈ lw_tbl by decide +kernel) w hw)), fun w hw => va_Nw.of ((show ∀ w ∈ x_keep, w.onTables = true by decide +kernel) w hw) (hts w ((show ∀ w ∈ x_keep, w ∈ lw_tbl by decide +kernel) w hw)), ⟨va_Nc.of (hs _ (by decide +kernel)), va_Nc.of (hs _ (by decide +kernel)), va_Nc.of (hs _ (by decide +kernel))⟩, t, va_Zof (hts _ (by decide +kernel)) (hts _ (by decide +kernel)) ht hA, hT⟩
  have q2 := hts _ ((show ∀ p ∈ x_strs, Cond.stringRef RXA p.1 p.2 ∈ lw_tbl by decide +kernel) p hp)
  obtain ⟨a, -, -, -, q1, -⟩ := Cond.exactly_spec (hs _ ((show ∀ p ∈ x_strs, Cond.exactly (.string RXA p.1) "java/lang/String" ∈ flatC (Jvm.Cond.and given_1 narrow_1) by decide +kernel) p hp))
  exact ⟨a, vk_R.of q2 q1⟩
end SA
