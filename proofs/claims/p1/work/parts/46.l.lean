section LC
variable {z : fZ} {D : va_G} {cA : Nat → ClassId} {ad am : Nat → Nat} {a b L : Nat} {xs : Nat → Int32} {Q : State → Prop} {kc ks : Nat} {v : Int}
/-- after one call the script of four is over -/
theorem l_end {σ τ : fS} {x5 x6 : Option Value} (C : lfc z D cA ad am a 7 b 4 xs cL_law RL) (kret : ∀ (lv : List (Option Value)), lj z D cA ad am a 7 Q kc ks σ τ v 1115 lv [.int (fI 1)]) : lj z D cA ad am a 7 Q kc ks σ τ v 1108 [some (.ref b), some (.ref (ad 0)), some (.ref (am 0)), some (.ref a), some (.int (fI 0)), x5, x6] [] := by
  refine l_iinc C dL_law_1108 rfl (by decide) ?_
  show lj z D cA ad am a 7 Q kc ks σ τ v 1111 [some (.ref b), some (.ref (ad 0)), some (.ref (am 0)), some (.ref a), some (.int (fI (0 + 4))), x5, x6] []
  refine l_goto (tgt := 23) C dL_law_1111 (by decide) ?_
  refine l_iload C dL_law_23 rfl ?_
  refine l_aload_n C dL_law_25 rfl rfl ?_
  refine l_slen C dL_law_26 ?_
  refine l_iconst C dL_law_27 ?_
  refine l_isub C dL_law_28 ?_
  refine l_icmp_gt (tgt := 1114) C dL_law_29 (by decide) (by decide) (by decide) (fun _ => ?_) (fun h => absurd (by decide) h)
  refine l_iconst C dL_law_1114 ?_
  exact kret _
theorem l_law (C : lfc z D cA ad am a 7 b L xs cL_law RL) (hL : L ≤ 4) (hl0 : z.2.1.stackTraces = false) (hR : 9 ≤ z.2.2.2.1.frames ∧ 40 * 9 ≤ z.2.2.2.1.locals ∧ kc + 1 ≤ z.2.2.2.1.cells ∧ ks + 6 ≤ z.2.2.2.1.slots) (kret : ∀ (kc' ks' : Nat) (σ τ : fS) (v : Int) (lv : List (Option Value)), kc' ≤ kc + 1 → ks' ≤ ks + 6 → lj z D cA ad am a 7 Q kc' ks' σ τ v 1115 lv [.int (fI 1)]) : lj z D cA ad am a 7 Q kc ks x_0 x_0 v 23 [some (.ref b), some (.ref (ad 0)), some (.ref (am 0)), some (.ref a), some (.int (fI 0)), none, none] [] := by
  refine l_iload C dL_law_23 rfl ?_
  refine l_aload_n C dL_law_25 rfl rfl ?_
  refine l_slen C dL_law_26 ?_
  refine l_iconst C dL_law_27 ?_
  refine l_isub C dL_law_28 ?_
  refine l_icmp_gt (tgt := 1114) C dL_law_29 (by decide) (by decide) (by omega) (fun _ => ?_) (fun h => ?_)
  · refine l_iconst C dL_law_1114 ?_
    exact kret _ _ _ _ _ _ (Nat.le_succ _) (Nat.le_add_right _ _)
  obtain rfl : L = 4 := by omega
  have kend : ∀ (kc' ks' : Nat) (σ τ : fS) (v : Int) (x5 x6 : Option Value), kc' ≤ kc + 1 → ks' ≤ ks + 6 → lj z D cA ad am a 7 Q kc' ks' σ τ v 1108 [some (.ref b), some (.ref (ad 0)), some (.ref (am 0)), some (.ref a), some (.int (fI 0)), x5, x6] [] := fun kc' ks' σ τ v x5 x6 g1 g2 => l_end C (fun lv => kret _ _ _ _ _ lv g1 g2)
  refine l_aload_n C dL_law_32 rfl rfl ?_
  refine l_iload C dL_law_33 rfl ?_
  refine l_sld C (by decide) (by decide) dL_law_35 ?_
  refine l_bipush C dL_law_36 (by decide) ?_
  refine l_and C dL_law_38 (fun j hj => ?_)
  show lj z D cA ad am a 7 Q kc ks x_0 x_0 v 39 [some (.ref b), some (.ref (ad 0)), some (.ref (am 0)), some (.ref a), some (.int (fI 0)), none, none] [.int (fI (j : Int))]
  by_cases h17 : j < 17
  · obtain rfl | rfl | rfl | rfl | rfl | rfl | rfl | rfl | rfl | rfl | rfl | rfl | rfl | rfl | rfl | rfl | rfl : j = 0 ∨ j = 1 ∨ j = 2 ∨ j = 3 ∨ j = 4 ∨ j = 5 ∨ j = 6 ∨ j = 7 ∨ j = 8 ∨ j = 9 ∨ j = 10 ∨ j = 11 ∨ j = 12 ∨ j = 13 ∨ j = 14 ∨ j = 15 ∨ j = 16 := by omega
    · refine l_tIn (tgt := 120) C dL_law_39 (by decide) (by decide) (by decide) rfl (by decide) ?_
      exact l_case0 C hl0 hR kend
    · refine l_tIn (tgt := 168) C dL_law_39 (by decide) (by decide) (by decide) rfl (by decide) ?_
      exact l_case1 C hl0 hR kend
    · refine l_tIn (tgt := 250) C dL_law_39 (by decide) (by decide) (by decide) rfl (by decide) ?_
      exact l_case2 C hl0 hR kend
    · refine l_tIn (tgt := 313) C dL_law_39 (by decide) (by decide) (by decide) rfl (by decide) ?_
      exact l_case3 C hl0 hR kend
    · refine l_tIn (tgt := 404) C dL_law_39 (by decide) (by decide) (by decide) rfl (by decide) ?_
      exact l_case4 C hl0 hR kend
    · refine l_tIn (tgt := 460) C dL_law_39 (by decide) (by decide) (by decide) rfl (by decide) ?_
      exact l_case5 C hl0 hR kend
    · refine l_tIn (tgt := 504) C dL_law_39 (by decide) (by decide) (by decide) rfl (by decide) ?_
      exact l_case6 C hl0 hR kend
    · refine l_tIn (tgt := 517) C dL_law_39 (by decide) (by decide) (by decide) rfl (by decide) ?_
      exact l_case7 C hl0 hR kend
    · refine l_tIn (tgt := 587) C dL_law_39 (by decide) (by decide) (by decide) rfl (by decide) ?_
      exact l_case8 C hl0 hR kend
    · refine l_tIn (tgt := 643) C dL_law_39 (by decide) (by decide) (by decide) rfl (by decide) ?_
      exact l_case9 C hl0 hR kend
    · refine l_tIn (tgt := 699) C dL_law_39 (by decide) (by decide) (by decide) rfl (by decide) ?_
      exact l_case10 C hl0 hR kend
    · refine l_tIn (tgt := 755) C dL_law_39 (by decide) (by decide) (by decide) rfl (by decide) ?_
      exact l_case11 C hl0 hR kend
    · refine l_tIn (tgt := 823) C dL_law_39 (by decide) (by decide) (by decide) rfl (by decide) ?_
      exact l_case12 C hl0 hR kend
    · refine l_tIn (tgt := 879) C dL_law_39 (by decide) (by decide) (by decide) rfl (by decide) ?_
      exact l_case13 C hl0 hR kend
    · refine l_tIn (tgt := 947) C dL_law_39 (by decide) (by decide) (by decide) rfl (by decide) ?_
      exact l_case14 C hl0 hR kend
    · refine l_tIn (tgt := 1015) C dL_law_39 (by decide) (by decide) (by decide) rfl (by decide) ?_
      exact l_case15 C hl0 hR kend
    · refine l_tIn (tgt := 1083) C dL_law_39 (by decide) (by decide) (by decide) rfl (by decide) ?_
      exact l_case16 C hl0 hR kend
  · refine l_tOut (tgt := 1108) C dL_law_39 (by omega) (Or.inr (by omega)) (by decide) ?_
    exact kend _ _ _ _ _ _ _ (Nat.le_succ _) (Nat.le_add_right _ _)
end LC
