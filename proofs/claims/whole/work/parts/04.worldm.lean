def TM : u_T := fun k => match k with
  | 0 => ("RevisionWriteModel", "refusal", "I", false)
  | 1 => ("RevisionWriteModel", "isThere", "[Z", true)
  | 2 => ("RevisionWriteModel", "isFirst", "[Z", true)
  | 3 => ("RevisionWriteModel", "isChanged", "[Z", true)
  | 4 => ("RevisionWriteModel", "wasThere", "[Z", true)
  | 5 => ("RevisionWriteModel", "sizes", "[I", true)
  | 6 => ("RevisionWriteModel", "octets", "[B", true)
  | 7 => ("RevisionWriteModel", "size", "I", false)
  | 8 => ("RevisionWriteModel", "file", "[B", true)
  | 9 => ("RevisionWriteModel", "isAltered", "Z", false)
  | 10 => ("RevisionWriteModel", "revisions", "I", false)
  | 11 => ("RevisionWriteModel", "ends", "[I", true)
  | 12 => ("RevisionWriteModel", "marks", "[I", true)
  | 13 => ("RevisionWriteModel", "places", "[I", true)
  | 14 => ("RevisionWriteModel", "starts", "[I", true)
  | 15 => ("RevisionWriteModel", "counts", "[I", true)
  | 16 => ("RevisionWriteModel", "next", "I", false)
  | 17 => ("RevisionWriteModel", "isCounted", "Z", false)
  | 18 => ("RevisionWriteModel", "recordAt", "[I", true)
  | 19 => ("RevisionWriteModel", "bytesAt", "[I", true)
  | 20 => ("RevisionWriteModel", "lineEnd", "I", false)
  | 21 => ("RevisionWriteModel", "cursor", "I", false)
  | 22 => ("RevisionWriteModel", "number", "I", false)
  | 23 => ("RevisionWriteModel", "fault", "I", false)
  | 24 => ("RevisionWriteModel", "parts", "I", false)
  | 25 => ("RevisionWriteModel", "xs", "[I", true)
  | 26 => ("RevisionWriteModel", "first", "I", false)
  | 27 => ("RevisionWriteModel", "second", "I", false)
  | 28 => ("RevisionWriteModel", "hasDiffered", "Z", false)
  | 29 => ("RevisionWriteModel", "rows", "I", false)
  | 30 => ("RevisionWriteModel", "rowObject", "[I", true)
  | _ => ("RevisionWriteModel", "rowKind", "[I", true)
def tyM : Nat → FieldType := fun k => match k with
  | 0 => .int
  | 1 => .array .boolean
  | 2 => .array .boolean
  | 3 => .array .boolean
  | 4 => .array .boolean
  | 5 => .array .int
  | 6 => .array .byte
  | 7 => .int
  | 8 => .array .byte
  | 9 => .boolean
  | 10 => .int
  | 11 => .array .int
  | 12 => .array .int
  | 13 => .array .int
  | 14 => .array .int
  | 15 => .array .int
  | 16 => .int
  | 17 => .boolean
  | 18 => .array .int
  | 19 => .array .int
  | 20 => .int
  | 21 => .int
  | 22 => .int
  | 23 => .int
  | 24 => .int
  | 25 => .array .int
  | 26 => .int
  | 27 => .int
  | 28 => .boolean
  | 29 => .int
  | 30 => .array .int
  | _ => .array .int
theorem nmM : ∀ a, a < 32 → ∀ b, b < 32 → a ≠ b → (TM a).2.1 ≠ (TM b).2.1 := by decide +kernel
theorem tyM_ok : ∀ k, k < 32 → parseFieldDescriptor (TM k).2.2.1 = some (tyM k) := by decide +kernel
theorem inM : ∀ w ∈ u_ws RM TM 32, w ∈ A9 := fun w h => in9 ((show ∀ w ∈ u_ws RM TM 32, w ∈ lw_tbl by decide +kernel) w h) ((show ∀ w ∈ u_ws RM TM 32, goodWord w = true by decide +kernel) w h)
/-- the fields of the reference: which hold a role, which a number -/
def mF : Nat → Nat ⊕ Bool := fun k => match k with
  | 0 => .inr true
  | 1 => .inl 1
  | 2 => .inl 2
  | 3 => .inl 3
  | 4 => .inl 4
  | 5 => .inl 5
  | 6 => .inl 6
  | 7 => .inr true
  | 8 => .inl 7
  | 9 => .inr true
  | 10 => .inr true
  | 11 => .inl 8
  | 12 => .inl 9
  | 13 => .inl 10
  | 14 => .inl 11
  | 15 => .inl 12
  | 16 => .inr true
  | 17 => .inr true
  | 18 => .inl 13
  | 19 => .inl 14
  | 20 => .inr true
  | 21 => .inr true
  | 22 => .inr true
  | 23 => .inr true
  | 24 => .inr true
  | 25 => .inl 15
  | 26 => .inr true
  | 27 => .inr true
  | 28 => .inr true
  | 29 => .inr true
  | 30 => .inl 16
  | _ => .inl 17
/-- the layout of the reference: role 0 the object, 1 .. its arrays in the order of their making -/
def mY : Nat → fL := fun k => match k with
  | 0 => .inl (0, 32, mF)
  | 1 => .inr (.inl (2, 41))
  | 2 => .inr (.inl (2, 41))
  | 3 => .inr (.inl (2, 41))
  | 4 => .inr (.inl (2, 41))
  | 5 => .inr (.inl (0, 41))
  | 6 => .inr (.inl (1, 4920))
  | 7 => .inr (.inl (1, 12000))
  | 8 => .inr (.inl (0, 60))
  | 9 => .inr (.inl (0, 60))
  | 10 => .inr (.inl (0, 2460))
  | 11 => .inr (.inl (0, 2460))
  | 12 => .inr (.inl (0, 2460))
  | 13 => .inr (.inl (0, 41))
  | 14 => .inr (.inl (0, 41))
  | 15 => .inr (.inl (0, 60))
  | 16 => .inr (.inl (0, 40))
  | _ => .inr (.inl (0, 40))
def w_tys (cA : Nat → ClassId) : List (ClassId × FieldType) := [(cA 0, .int), (cA 1, .byte), (cA 2, .boolean), (cA 3, .object "RevisionWrite$Table"), (cA 4, .long)]
abbrev mG (xCl : List vw_C) (D : va_G) (cA : Nat → ClassId) (ad : Nat → Nat) : fG := (D, (RM, TM, 32) :: xCl, w_tys cA, ad, cA, mY, 18)
def mE : Nat → State → Prop := fun _ _ => True
theorem mE_ok (G : fG) : f_E G mE := ⟨fun _ _ _ _ _ _ => trivial, fun _ _ _ _ _ _ => trivial⟩
theorem g9V {own CN : String} {idx : Nat} {y : MethodName} {b : ByteArray} {ml : Nat} {r : Option FieldType} (h1 : Cond.methodLink own idx y ∈ A9) (h2 : Cond.instanceMethod y ∈ A9) (h3 : Cond.selects CN y y ∈ A9) (h4 : Cond.initialized CN ∈ A9) (h5 : Cond.code y b ml r ∈ A9) : GoodIn A9 (wsV own idx CN y (Cond.code y b ml r :: A9)) := by
  intro w hw
  have h : w ∈ A9 := by
    unfold wsV at hw
    rcases List.mem_append.mp hw with hw | hw
    · simp only [List.mem_cons, List.not_mem_nil, or_false] at hw
      rcases hw with rfl | rfl | rfl | rfl <;> assumption
    · rcases List.mem_cons.mp hw with rfl | hw
      · exact h5
      · exact hw
  exact ⟨h, good9 h⟩
theorem g9S {own : String} {idx : Nat} {y : MethodName} {b : ByteArray} {ml : Nat} {r : Option FieldType} (h1 : Cond.methodLink own idx y ∈ A9) (h2 : Cond.static y ∈ A9) (h4 : Cond.initialized y.cls ∈ A9) (h5 : Cond.code y b ml r ∈ A9) : GoodIn A9 (va_wsS own idx y (Cond.code y b ml r :: A9)) := by
  intro w hw
  have h : w ∈ A9 := by
    unfold va_wsS at hw
    rcases List.mem_append.mp hw with hw | hw
    · simp only [List.mem_cons, List.not_mem_nil, or_false] at hw
      rcases hw with rfl | rfl | rfl <;> assumption
    · rcases List.mem_cons.mp hw with rfl | hw
      · exact h5
      · exact hw
  exact ⟨h, good9 h⟩
theorem iM : Cond.initialized RM ∈ A9 := in9_1 9 (by decide +kernel) rfl
theorem gM_67 : GoodIn A9 (va_wsS RM 67 yM_isObject (Cond.code yM_isObject cM_isObject 1 (some .boolean) :: A9)) := g9S (in9_5 126 (by decide +kernel) rfl) (in9_5 127 (by decide +kernel) rfl) iM wM_isObject
theorem gM_85 : GoodIn A9 (wsV RM 85 RM yM_put (Cond.code yM_put cM_put 2 none :: A9)) := g9V (in9_5 157 (by decide +kernel) rfl) (in9_5 159 (by decide +kernel) rfl) (in9_0 26 (by decide +kernel) rfl) iM wM_put
theorem gM_89 : GoodIn A9 (wsV RM 89 RM yM_putNumber (Cond.code yM_putNumber cM_putNumber 3 none :: A9)) := g9V (in9_5 173 (by decide +kernel) rfl) (in9_5 175 (by decide +kernel) rfl) (in9_0 30 (by decide +kernel) rfl) iM wM_putNumber
theorem gM_92 : GoodIn A9 (wsV RM 92 RM yM_isMeant (Cond.code yM_isMeant cM_isMeant 3 (some .boolean) :: A9)) := g9V (in9_5 165 (by decide +kernel) rfl) (in9_5 167 (by decide +kernel) rfl) (in9_0 28 (by decide +kernel) rfl) iM wM_isMeant
theorem gM_96 : GoodIn A9 (wsV RM 96 RM yM_putRecord (Cond.code yM_putRecord cM_putRecord 3 none :: A9)) := g9V (in9_5 169 (by decide +kernel) rfl) (in9_5 171 (by decide +kernel) rfl) (in9_0 29 (by decide +kernel) rfl) iM wM_putRecord
theorem gM_99 : GoodIn A9 (wsV RM 99 RM yM_putRecords (Cond.code yM_putRecords cM_putRecords 6 none :: A9)) := g9V (in9_5 161 (by decide +kernel) rfl) (in9_5 163 (by decide +kernel) rfl) (in9_0 27 (by decide +kernel) rfl) iM wM_putRecords
theorem gM_103 : GoodIn A9 (wsV RM 103 RM yM_putTold (Cond.code yM_putTold cM_putTold 3 none :: A9)) := g9V (in9_5 177 (by decide +kernel) rfl) (in9_5 179 (by decide +kernel) rfl) (in9_0 31 (by decide +kernel) rfl) iM wM_putTold
theorem gM_107 : GoodIn A9 (wsV RM 107 RM yM_putRow (Cond.code yM_putRow cM_putRow 2 none :: A9)) := g9V (in9_5 181 (by decide +kernel) rfl) (in9_5 183 (by decide +kernel) rfl) (in9_0 32 (by decide +kernel) rfl) iM wM_putRow
theorem gM_119 : GoodIn A9 (wsV RM 119 RM yM_putPart (Cond.code yM_putPart cM_putPart 7 (some .int) :: A9)) := g9V (in9_5 153 (by decide +kernel) rfl) (in9_5 155 (by decide +kernel) rfl) (in9_0 25 (by decide +kernel) rfl) iM wM_putPart
theorem gM_126 : GoodIn A9 (wsV RM 126 RM yM_remember (Cond.code yM_remember cM_remember 5 none :: A9)) := g9V (in9_5 189 (by decide +kernel) rfl) (in9_5 191 (by decide +kernel) rfl) (in9_0 34 (by decide +kernel) rfl) iM wM_remember
theorem gM_130 : GoodIn A9 (wsV RM 130 RM yM_save (Cond.code yM_save cM_save 2 none :: A9)) := g9V (in9_5 193 (by decide +kernel) rfl) (in9_5 195 (by decide +kernel) rfl) (in9_0 35 (by decide +kernel) rfl) iM wM_save
theorem gM_133 : GoodIn A9 (wsV RM 133 RM yM_putAll (Cond.code yM_putAll cM_putAll 4 none :: A9)) := g9V (in9_5 185 (by decide +kernel) rfl) (in9_5 187 (by decide +kernel) rfl) (in9_0 33 (by decide +kernel) rfl) iM wM_putAll
theorem gM_137 : GoodIn A9 (wsV RM 137 RM yM_changed (Cond.code yM_changed cM_changed 3 (some .int) :: A9)) := g9V (in9_5 201 (by decide +kernel) rfl) (in9_5 203 (by decide +kernel) rfl) (in9_0 36 (by decide +kernel) rfl) iM wM_changed
theorem gM_150 : GoodIn A9 (wsV RM 150 RM yM_line (Cond.code yM_line cM_line 2 (some .boolean) :: A9)) := g9V (in9_5 217 (by decide +kernel) rfl) (in9_5 219 (by decide +kernel) rfl) (in9_0 39 (by decide +kernel) rfl) iM wM_line
theorem gM_153 : GoodIn A9 (wsV RM 153 RM yM_takes (Cond.code yM_takes cM_takes 3 (some .boolean) :: A9)) := g9V (in9_5 221 (by decide +kernel) rfl) (in9_5 223 (by decide +kernel) rfl) (in9_0 40 (by decide +kernel) rfl) iM wM_takes
theorem gM_156 : GoodIn A9 (wsV RM 156 RM yM_takesNumber (Cond.code yM_takesNumber cM_takesNumber 2 (some .boolean) :: A9)) := g9V (in9_5 237 (by decide +kernel) rfl) (in9_5 239 (by decide +kernel) rfl) (in9_0 44 (by decide +kernel) rfl) iM wM_takesNumber
theorem gM_160 : GoodIn A9 (wsV RM 160 RM yM_isOver (Cond.code yM_isOver cM_isOver 1 (some .boolean) :: A9)) := g9V (in9_5 225 (by decide +kernel) rfl) (in9_5 227 (by decide +kernel) rfl) (in9_0 41 (by decide +kernel) rfl) iM wM_isOver
theorem gM_169 : GoodIn A9 (wsV RM 169 RM yM_tells (Cond.code yM_tells cM_tells 3 (some .boolean) :: A9)) := g9V (in9_5 233 (by decide +kernel) rfl) (in9_5 235 (by decide +kernel) rfl) (in9_0 43 (by decide +kernel) rfl) iM wM_tells
theorem gM_172 : GoodIn A9 (wsV RM 172 RM yM_isRow (Cond.code yM_isRow cM_isRow 3 (some .boolean) :: A9)) := g9V (in9_6 5 (by decide +kernel) rfl) (in9_6 7 (by decide +kernel) rfl) (in9_0 46 (by decide +kernel) rfl) iM wM_isRow
theorem gM_178 : GoodIn A9 (wsV RM 178 RM yM_recordsStand (Cond.code yM_recordsStand cM_recordsStand 7 (some .boolean) :: A9)) := g9V (in9_6 9 (by decide +kernel) rfl) (in9_6 11 (by decide +kernel) rfl) (in9_0 47 (by decide +kernel) rfl) iM wM_recordsStand
theorem gM_181 : GoodIn A9 (wsV RM 181 RM yM_isRecord (Cond.code yM_isRecord cM_isRecord 4 (some .boolean) :: A9)) := g9V (in9_6 13 (by decide +kernel) rfl) (in9_6 15 (by decide +kernel) rfl) (in9_0 48 (by decide +kernel) rfl) iM wM_isRecord
theorem gM_185 : GoodIn A9 (wsV RM 185 RM yM_wrong (Cond.code yM_wrong cM_wrong 2 (some .boolean) :: A9)) := g9V (in9_5 229 (by decide +kernel) rfl) (in9_5 231 (by decide +kernel) rfl) (in9_0 42 (by decide +kernel) rfl) iM wM_wrong
theorem gM_188 : GoodIn A9 (wsV RM 188 RM yM_lookAt (Cond.code yM_lookAt cM_lookAt 6 (some .int) :: A9)) := g9V (in9_6 1 (by decide +kernel) rfl) (in9_6 3 (by decide +kernel) rfl) (in9_0 45 (by decide +kernel) rfl) iM wM_lookAt
theorem gM_192 : GoodIn A9 (wsV RM 192 RM yM_isFile (Cond.code yM_isFile cM_isFile 4 (some .boolean) :: A9)) := g9V (in9_5 213 (by decide +kernel) rfl) (in9_5 215 (by decide +kernel) rfl) (in9_0 38 (by decide +kernel) rfl) iM wM_isFile
theorem gM_195 : GoodIn A9 (wsV RM 195 RM yM_learn (Cond.code yM_learn cM_learn 7 none :: A9)) := g9V (in9_6 17 (by decide +kernel) rfl) (in9_6 19 (by decide +kernel) rfl) (in9_0 49 (by decide +kernel) rfl) iM wM_learn
theorem gM_198 : GoodIn A9 (wsV RM 198 RM yM_readFile (Cond.code yM_readFile cM_readFile 4 (some .int) :: A9)) := g9V (in9_5 209 (by decide +kernel) rfl) (in9_5 211 (by decide +kernel) rfl) (in9_0 37 (by decide +kernel) rfl) iM wM_readFile
theorem gM_201 : GoodIn A9 (wsV RM 201 RM yM_isRevision (Cond.code yM_isRevision cM_isRevision 2 (some .boolean) :: A9)) := g9V (in9_6 29 (by decide +kernel) rfl) (in9_6 31 (by decide +kernel) rfl) (in9_0 50 (by decide +kernel) rfl) iM wM_isRevision
theorem gM_210 : GoodIn A9 (wsV RM 210 RM yM_isAlike (Cond.code yM_isAlike cM_isAlike 5 (some .boolean) :: A9)) := g9V (in9_6 57 (by decide +kernel) rfl) (in9_6 59 (by decide +kernel) rfl) (in9_0 51 (by decide +kernel) rfl) iM wM_isAlike
