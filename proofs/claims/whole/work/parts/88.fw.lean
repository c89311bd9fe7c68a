/-! A START WITH THIS SCRIPT: the witness's, with other ints in its script -/
def f_cells : Array Value := #[.int 0, .int 1, .int 1, .int 0, .int 4, .int 0, .int 0, .int 0, .int 0, .int 1, .int 1, .int 0, .int 5, .int 0, .int 0, .int 0, .int 7, .int 0, .int 0, .int 0, .int 8, .int 0, .int 0, .int 0, .int 14, .int 1, .int 0, .int 0]
def f_s : State := start1.aboutOf f_cells
set_option maxRecDepth 100000 in
theorem f_others : (Jvm.Cond.code x code maxLocals ret :: tables_1).all (fun c => c.onTables || c.before start1.args0 f_s) = true := by decide +kernel
theorem f_words : ∀ c ∈ (Jvm.Cond.code x code maxLocals ret :: tables_1), c.before start1.args0 f_s = true := by
  intro c hc
  by_cases h : c.onTables = true
  · exact va_tabs h (show start1.about.vm = f_s.vm from rfl) (start1.words c hc)
  · have h1 := List.all_eq_true.mp f_others c hc
    simpa [h] using h1
set_option maxRecDepth 100000 in
theorem f_at : AtStart classFile x code maxLocals ret World_1 tables_1 room_1 Calls_1 rest_1 Pre_1 launch0 start1.p0 start1.e0 f_s ⟨0, 0⟩ start1.args0 Lib.HandBits.below0 :=
  ⟨lists_1, trivial, launch0.admits_env _ _ _, launch0.least_env, fairChoices_fair.cas, fairChoices_fair.clock, rfl, by decide +kernel, by decide +kernel,
    (Spec.applies_iff rfl).mpr ⟨rfl, rfl, rfl, by decide +kernel, by decide +kernel, by decide +kernel, launch0.hasRoom_least _ room_1 (by decide +kernel) (by decide +kernel) (by decide +kernel) (by decide +kernel) (by decide +kernel) (by decide +kernel), atoms_intro f_words⟩,
    trivial, (show rest_1_c.before start1.args0 f_s = true by decide +kernel), (show (Cond.and given_1 narrow_1).before start1.args0 f_s = true by decide +kernel)⟩
theorem f_ints : f_s.IntsAt 0 f_scr := ⟨_, rfl, rfl, ⟨(fun k h => by cases h), _, rfl, _, rfl⟩, by decide⟩
/-- the claim falls: at this start the law comes to its end and doesn't answer 1 -/
theorem refuted_1_2 : RefutedClaimed_1_2 := ⟨launch0, start1.p0, start1.e0, f_s, ⟨0, 0⟩, start1.args0, Lib.HandBits.below0, rfl, f_at, f_ends rfl f_at rfl f_ints⟩
/-- and so the owed statement is false -/
theorem not_claimed : ¬ (Claimed_1_1 ∧ Claimed_1_2) := by
  rintro ⟨-, h⟩
  obtain ⟨n, o, w1, -, e1, q1⟩ := f_ends rfl f_at rfl f_ints
  obtain ⟨a1, a2, a3, -, a5, a6, a7, a8, a9, a10, a11, a12, a13⟩ := f_at
  obtain ⟨n2, o2, w2, -, e2, q2⟩ := h launch0 rfl a1 a2 start1.p0 start1.e0 a3 a5 a6 f_s ⟨0, 0⟩ start1.args0 Lib.HandBits.below0 a7 a8 a9 a10 ⟨a11, a12, a13⟩
  have hn : n = n2 := by
    rcases Nat.lt_trichotomy n n2 with g | g | g
    · exact absurd (w2 n g) (Ended.not_within e1)
    · exact g
    · exact absurd (w1 n2 g) (Ended.not_within e2)
  subst hn
  have ho := Ended.outcome_unique e1 e2
  subst ho
  exact q1 q2
