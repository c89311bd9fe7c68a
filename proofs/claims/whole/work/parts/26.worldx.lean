def TXA : u_T := fun k => match k with
  | 0 => ("RevisionWrite", "shelf", "LRevisionWrite$Shelf;", true)
  | 1 => ("RevisionWrite", "file", "LRevisionWrite$FileBytes;", true)
  | 2 => ("RevisionWrite", "history", "LRevisionWrite$History;", true)
  | 3 => ("RevisionWrite", "scan", "LRevisionWrite$Scan;", true)
  | 4 => ("RevisionWrite", "draft", "LRevisionWrite$Draft;", true)
  | _ => ("RevisionWrite", "differences", "LRevisionWrite$Differences;", true)
def tyXA : Nat → FieldType := fun k => match k with
  | 0 => .object "RevisionWrite$Shelf"
  | 1 => .object "RevisionWrite$FileBytes"
  | 2 => .object "RevisionWrite$History"
  | 3 => .object "RevisionWrite$Scan"
  | 4 => .object "RevisionWrite$Draft"
  | _ => .object "RevisionWrite$Differences"
theorem nmXA : ∀ a, a < 6 → ∀ b, b < 6 → a ≠ b → (TXA a).2.1 ≠ (TXA b).2.1 := by decide +kernel
theorem tyXA_ok : ∀ k, k < 6 → parseFieldDescriptor (TXA k).2.2.1 = some (tyXA k) := by decide +kernel
theorem inXA : ∀ w ∈ u_ws RXA TXA 6, w ∈ A9 := fun w h => in9 ((show ∀ w ∈ u_ws RXA TXA 6, w ∈ lw_tbl by decide +kernel) w h) ((show ∀ w ∈ u_ws RXA TXA 6, goodWord w = true by decide +kernel) w h)
theorem iXA : Cond.initialized RXA ∈ A9 := in9_1 1 (by decide +kernel) rfl
def TXS : u_T := fun k => match k with
  | 0 => ("RevisionWrite$Shelf", "there", "[Z", true)
  | 1 => ("RevisionWrite$Shelf", "leading", "[Z", true)
  | 2 => ("RevisionWrite$Shelf", "lengths", "[I", true)
  | 3 => ("RevisionWrite$Shelf", "bytes", "[B", true)
  | 4 => ("RevisionWrite$Shelf", "touched", "[Z", true)
  | _ => ("RevisionWrite$Shelf", "saved", "[Z", true)
def tyXS : Nat → FieldType := fun k => match k with
  | 0 => .array .boolean
  | 1 => .array .boolean
  | 2 => .array .int
  | 3 => .array .byte
  | 4 => .array .boolean
  | _ => .array .boolean
theorem nmXS : ∀ a, a < 6 → ∀ b, b < 6 → a ≠ b → (TXS a).2.1 ≠ (TXS b).2.1 := by decide +kernel
theorem tyXS_ok : ∀ k, k < 6 → parseFieldDescriptor (TXS k).2.2.1 = some (tyXS k) := by decide +kernel
theorem inXS : ∀ w ∈ u_ws RXS TXS 6, w ∈ A9 := fun w h => in9 ((show ∀ w ∈ u_ws RXS TXS 6, w ∈ lw_tbl by decide +kernel) w h) ((show ∀ w ∈ u_ws RXS TXS 6, goodWord w = true by decide +kernel) w h)
theorem iXS : Cond.initialized RXS ∈ A9 := in9_1 2 (by decide +kernel) rfl
def TXF : u_T := fun k => match k with
  | 0 => ("RevisionWrite$FileBytes", "bytes", "[B", true)
  | 1 => ("RevisionWrite$FileBytes", "count", "I", false)
  | _ => ("RevisionWrite$FileBytes", "altered", "Z", false)
def tyXF : Nat → FieldType := fun k => match k with
  | 0 => .array .byte
  | 1 => .int
  | _ => .boolean
theorem nmXF : ∀ a, a < 3 → ∀ b, b < 3 → a ≠ b → (TXF a).2.1 ≠ (TXF b).2.1 := by decide +kernel
theorem tyXF_ok : ∀ k, k < 3 → parseFieldDescriptor (TXF k).2.2.1 = some (tyXF k) := by decide +kernel
theorem inXF : ∀ w ∈ u_ws RXF TXF 3, w ∈ A9 := fun w h => in9 ((show ∀ w ∈ u_ws RXF TXF 3, w ∈ lw_tbl by decide +kernel) w h) ((show ∀ w ∈ u_ws RXF TXF 3, goodWord w = true by decide +kernel) w h)
theorem iXF : Cond.initialized RXF ∈ A9 := in9_1 3 (by decide +kernel) rfl
def TXT : u_T := fun k => match k with
  | 0 => ("RevisionWrite$Table", "places", "[I", true)
  | 1 => ("RevisionWrite$Table", "lengths", "[I", true)
  | 2 => ("RevisionWrite$Table", "x", "I", false)
  | _ => ("RevisionWrite$Table", "end", "I", false)
def tyXT : Nat → FieldType := fun k => match k with
  | 0 => .array .int
  | 1 => .array .int
  | 2 => .int
  | _ => .int
theorem nmXT : ∀ a, a < 4 → ∀ b, b < 4 → a ≠ b → (TXT a).2.1 ≠ (TXT b).2.1 := by decide +kernel
theorem tyXT_ok : ∀ k, k < 4 → parseFieldDescriptor (TXT k).2.2.1 = some (tyXT k) := by decide +kernel
theorem inXT : ∀ w ∈ u_ws RXT TXT 4, w ∈ A9 := fun w h => in9 ((show ∀ w ∈ u_ws RXT TXT 4, w ∈ lw_tbl by decide +kernel) w h) ((show ∀ w ∈ u_ws RXT TXT 4, goodWord w = true by decide +kernel) w h)
theorem iXT : Cond.initialized RXT ∈ A9 := in9_1 5 (by decide +kernel) rfl
def TXH : u_T := fun k => match k with
  | 0 => ("RevisionWrite$History", "revisions", "[LRevisionWrite$Table;", true)
  | _ => ("RevisionWrite$History", "count", "I", false)
def tyXH : Nat → FieldType := fun k => match k with
  | 0 => .array (.object "RevisionWrite$Table")
  | _ => .int
theorem nmXH : ∀ a, a < 2 → ∀ b, b < 2 → a ≠ b → (TXH a).2.1 ≠ (TXH b).2.1 := by decide +kernel
theorem tyXH_ok : ∀ k, k < 2 → parseFieldDescriptor (TXH k).2.2.1 = some (tyXH k) := by decide +kernel
theorem inXH : ∀ w ∈ u_ws RXH TXH 2, w ∈ A9 := fun w h => in9 ((show ∀ w ∈ u_ws RXH TXH 2, w ∈ lw_tbl by decide +kernel) w h) ((show ∀ w ∈ u_ws RXH TXH 2, goodWord w = true by decide +kernel) w h)
theorem iXH : Cond.initialized RXH ∈ A9 := in9_1 4 (by decide +kernel) rfl
def TXC : u_T := fun k => match k with
  | 0 => ("RevisionWrite$Scan", "file", "LRevisionWrite$FileBytes;", true)
  | 1 => ("RevisionWrite$Scan", "parts", "[LRevisionWrite$Table;", true)
  | 2 => ("RevisionWrite$Scan", "count", "I", false)
  | 3 => ("RevisionWrite$Scan", "next", "I", false)
  | _ => ("RevisionWrite$Scan", "before", "I", false)
def tyXC : Nat → FieldType := fun k => match k with
  | 0 => .object "RevisionWrite$FileBytes"
  | 1 => .array (.object "RevisionWrite$Table")
  | 2 => .int
  | 3 => .int
  | _ => .int
theorem nmXC : ∀ a, a < 5 → ∀ b, b < 5 → a ≠ b → (TXC a).2.1 ≠ (TXC b).2.1 := by decide +kernel
theorem tyXC_ok : ∀ k, k < 5 → parseFieldDescriptor (TXC k).2.2.1 = some (tyXC k) := by decide +kernel
theorem inXC : ∀ w ∈ u_ws RXC TXC 5, w ∈ A9 := fun w h => in9 ((show ∀ w ∈ u_ws RXC TXC 5, w ∈ lw_tbl by decide +kernel) w h) ((show ∀ w ∈ u_ws RXC TXC 5, goodWord w = true by decide +kernel) w h)
theorem iXC : Cond.initialized RXC ∈ A9 := in9_1 6 (by decide +kernel) rfl
def TXD : u_T := fun k => match k with
  | 0 => ("RevisionWrite$Draft", "shelf", "LRevisionWrite$Shelf;", true)
  | 1 => ("RevisionWrite$Draft", "bytes", "[B", true)
  | 2 => ("RevisionWrite$Draft", "order", "[I", true)
  | 3 => ("RevisionWrite$Draft", "part", "LRevisionWrite$Table;", true)
  | 4 => ("RevisionWrite$Draft", "chosen", "I", false)
  | 5 => ("RevisionWrite$Draft", "base", "I", false)
  | _ => ("RevisionWrite$Draft", "used", "I", false)
def tyXD : Nat → FieldType := fun k => match k with
  | 0 => .object "RevisionWrite$Shelf"
  | 1 => .array .byte
  | 2 => .array .int
  | 3 => .object "RevisionWrite$Table"
  | 4 => .int
  | 5 => .int
  | _ => .int
theorem nmXD : ∀ a, a < 7 → ∀ b, b < 7 → a ≠ b → (TXD a).2.1 ≠ (TXD b).2.1 := by decide +kernel
theorem tyXD_ok : ∀ k, k < 7 → parseFieldDescriptor (TXD k).2.2.1 = some (tyXD k) := by decide +kernel
theorem inXD : ∀ w ∈ u_ws RXD TXD 7, w ∈ A9 := fun w h => in9 ((show ∀ w ∈ u_ws RXD TXD 7, w ∈ lw_tbl by decide +kernel) w h) ((show ∀ w ∈ u_ws RXD TXD 7, goodWord w = true by decide +kernel) w h)
theorem iXD : Cond.initialized RXD ∈ A9 := in9_1 7 (by decide +kernel) rfl
def TXG : u_T := fun k => match k with
  | 0 => ("RevisionWrite$Differences", "numbers", "[I", true)
  | 1 => ("RevisionWrite$Differences", "kinds", "[I", true)
  | _ => ("RevisionWrite$Differences", "count", "I", false)
def tyXG : Nat → FieldType := fun k => match k with
  | 0 => .array .int
  | 1 => .array .int
  | _ => .int
theorem nmXG : ∀ a, a < 3 → ∀ b, b < 3 → a ≠ b → (TXG a).2.1 ≠ (TXG b).2.1 := by decide +kernel
theorem tyXG_ok : ∀ k, k < 3 → parseFieldDescriptor (TXG k).2.2.1 = some (tyXG k) := by decide +kernel
theorem inXG : ∀ w ∈ u_ws RXG TXG 3, w ∈ A9 := fun w h => in9 ((show ∀ w ∈ u_ws RXG TXG 3, w ∈ lw_tbl by decide +kernel) w h) ((show ∀ w ∈ u_ws RXG TXG 3, goodWord w = true by decide +kernel) w h)
theorem iXG : Cond.initialized RXG ∈ A9 := in9_1 8 (by decide +kernel) rfl
abbrev xCl : List vw_C := [(RXA, TXA, 6), (RXS, TXS, 6), (RXF, TXF, 3), (RXT, TXT, 4), (RXH, TXH, 2), (RXC, TXC, 5), (RXD, TXD, 7), (RXG, TXG, 3)]
def fXA : Nat → Nat ⊕ Bool := fun q => match q with
  | 0 => .inl (1)
  | 1 => .inl (8)
  | 2 => .inl (10)
  | 3 => .inl (192)
  | 4 => .inl (374)
  | _ => .inl (380)
def fXS : Nat → Nat ⊕ Bool := fun q => match q with
  | 0 => .inl (2)
  | 1 => .inl (3)
  | 2 => .inl (4)
  | 3 => .inl (5)
  | 4 => .inl (6)
  | _ => .inl (7)
def fXF : Nat → Nat ⊕ Bool := fun q => match q with
  | 0 => .inl (9)
  | 1 => .inr true
  | _ => .inr true
def fXT (k : Nat) : Nat → Nat ⊕ Bool := fun q => match q with
  | 0 => .inl (k + 1)
  | 1 => .inl (k + 2)
  | 2 => .inr true
  | _ => .inr true
def fXH : Nat → Nat ⊕ Bool := fun q => match q with
  | 0 => .inl (11)
  | _ => .inr true
def fXC : Nat → Nat ⊕ Bool := fun q => match q with
  | 0 => .inl (8)
  | 1 => .inl (193)
  | 2 => .inr true
  | 3 => .inr true
  | _ => .inr true
def fXD : Nat → Nat ⊕ Bool := fun q => match q with
  | 0 => .inl (1)
  | 1 => .inl (375)
  | 2 => .inl (376)
  | 3 => .inl (377)
  | 4 => .inr true
  | 5 => .inr true
  | _ => .inr true
def fXG : Nat → Nat ⊕ Bool := fun q => match q with
  | 0 => .inl (381)
  | 1 => .inl (382)
  | _ => .inr true
/-- a table of places and lengths, its arrays behind it -/
def xTb (k : Nat) : Nat → fL := fun j => match j with
  | 0 => .inl (4, 4, fXT k)
  | _ => .inr (.inl (0, 41))
def xYa : Nat → fL := fun k => match k with
  | 0 => .inl (1, 6, fXA)
  | 1 => .inl (2, 6, fXS)
  | 2 => .inr (.inl (2, 41))
  | 3 => .inr (.inl (2, 41))
  | 4 => .inr (.inl (0, 41))
  | 5 => .inr (.inl (1, 4920))
  | 6 => .inr (.inl (2, 41))
  | 7 => .inr (.inl (2, 41))
  | 8 => .inl (3, 3, fXF)
  | 9 => .inr (.inl (1, 12000))
  | 10 => .inl (5, 2, fXH)
  | _ => .inr (.inr (3, 60, fun i => 12 + 3 * i))
def xYb : Nat → fL := fun k => match k with
  | 374 => .inl (7, 7, fXD)
  | 375 => .inr (.inl (1, 6000))
  | 376 => .inr (.inl (0, 40))
  | 377 => xTb 377 0
  | 378 => xTb 377 1
  | 379 => xTb 377 2
  | 380 => .inl (8, 3, fXG)
  | _ => .inr (.inl (0, 40))
/-- the layout of the class: roles by the order of their making -/
def xY (k : Nat) : fL := if k < 12 then xYa k else if k < 192 then xTb (k - (k - 12) % 3) ((k - 12) % 3) else if k = 192 then .inl (6, 5, fXC) else if k = 193 then .inr (.inr (3, 60, fun i => 194 + 3 * i)) else if k < 374 then xTb (k - (k - 194) % 3) ((k - 194) % 3) else xYb k
theorem xY_h0 (i : Nat) (h : i < 60) : xY (12 + 3 * i) = .inl (4, 4, fXT (12 + 3 * i)) := by
  unfold xY
  rw [if_neg (by omega), if_pos (by omega), show (12 + 3 * i - 12) % 3 = 0 by omega, show 12 + 3 * i - 0 = 12 + 3 * i by omega]
  rfl
theorem xY_h1 (i : Nat) (h : i < 60) : xY (12 + 3 * i + 1) = .inr (.inl (0, 41)) := by
  unfold xY
  rw [if_neg (by omega), if_pos (by omega), show (12 + 3 * i + 1 - 12) % 3 = 1 by omega]
  rfl
theorem xY_h2 (i : Nat) (h : i < 60) : xY (12 + 3 * i + 2) = .inr (.inl (0, 41)) := by
  unfold xY
  rw [if_neg (by omega), if_pos (by omega), show (12 + 3 * i + 2 - 12) % 3 = 2 by omega]
  rfl
theorem xY_c0 (i : Nat) (h : i < 60) : xY (194 + 3 * i) = .inl (4, 4, fXT (194 + 3 * i)) := by
  unfold xY
  rw [if_neg (by omega), if_neg (by omega), if_neg (by omega), if_neg (by omega), if_pos (by omega), show (194 + 3 * i - 194) % 3 = 0 by omega, show 194 + 3 * i - 0 = 194 + 3 * i by omega]
  rfl
theorem xY_c1 (i : Nat) (h : i < 60) : xY (194 + 3 * i + 1) = .inr (.inl (0, 41)) := by
  unfold xY
  rw [if_neg (by omega), if_neg (by omega), if_neg (by omega), if_neg (by omega), if_pos (by omega), show (194 + 3 * i + 1 - 194) % 3 = 1 by omega]
  rfl
theorem xY_c2 (i : Nat) (h : i < 60) : xY (194 + 3 * i + 2) = .inr (.inl (0, 41)) := by
  unfold xY
  rw [if_neg (by omega), if_neg (by omega), if_neg (by omega), if_neg (by omega), if_pos (by omega), show (194 + 3 * i + 2 - 194) % 3 = 2 by omega]
  rfl
abbrev xG (D : va_G) (cA : Nat → ClassId) (ad : Nat → Nat) : fG := (D, (RM, TM, 32) :: xCl, w_tys cA, ad, cA, xY, 383)
