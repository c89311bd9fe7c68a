def RL : String := "RevisionWriteLaw"
theorem iL : Cond.initialized RL ∈ A9 := in9 (by decide +kernel) rfl
abbrev cL_object : ByteArray := method_3_code
def yL_object : MethodName := ⟨RL, "object", "(LRevisionWrite;II)I"⟩
theorem wL_object : Cond.codeWith yL_object cL_object 4 (some .int) [(0, 6, 9, 13), (0, 6, 12, 15)] ∈ A9 := in9 (by decide +kernel) rfl
theorem dL_object_0 : decode cL_object 0 = .ok (.aload_n 0, 1) := by decide +kernel
theorem dL_object_1 : decode cL_object 1 = .ok (.iload_n 1, 1) := by decide +kernel
theorem dL_object_2 : decode cL_object 2 = .ok (.iload_n 2, 1) := by decide +kernel
theorem dL_object_3 : decode cL_object 3 = .ok (.invokevirtual 7, 3) := by decide +kernel
theorem dL_object_6 : decode cL_object 6 = .ok (.goto 9, 3) := by decide +kernel
theorem dL_object_9 : decode cL_object 9 = .ok (.astore_n 3, 1) := by decide +kernel
theorem dL_object_10 : decode cL_object 10 = .ok (.iconst 1, 1) := by decide +kernel
theorem dL_object_11 : decode cL_object 11 = .ok (.ireturn, 1) := by decide +kernel
theorem dL_object_12 : decode cL_object 12 = .ok (.astore_n 3, 1) := by decide +kernel
theorem dL_object_13 : decode cL_object 13 = .ok (.iconst 2, 1) := by decide +kernel
theorem dL_object_14 : decode cL_object 14 = .ok (.ireturn, 1) := by decide +kernel
theorem dL_object_15 : decode cL_object 15 = .ok (.iconst 0, 1) := by decide +kernel
theorem dL_object_16 : decode cL_object 16 = .ok (.ireturn, 1) := by decide +kernel
theorem gL_7 : GoodIn A9 (wsV RL 7 RXA yXA_object (Cond.code yXA_object cXA_object 3 none :: A9)) := g9V (in9 (by decide +kernel) rfl) (in9 (by decide +kernel) rfl) (in9 (by decide +kernel) rfl) iXA wXA_object
abbrev cL_octet : ByteArray := method_4_code
def yL_octet : MethodName := ⟨RL, "octet", "(LRevisionWrite;IIB[J)I"⟩
theorem wL_octet : Cond.codeWith yL_octet cL_octet 6 (some .int) [(0, 12, 15, 13)] ∈ A9 := in9 (by decide +kernel) rfl
theorem dL_octet_0 : decode cL_octet 0 = .ok (.aload 4, 2) := by decide +kernel
theorem dL_octet_2 : decode cL_octet 2 = .ok (.iconst 0, 1) := by decide +kernel
theorem dL_octet_3 : decode cL_octet 3 = .ok (.aload_n 0, 1) := by decide +kernel
theorem dL_octet_4 : decode cL_octet 4 = .ok (.iload_n 1, 1) := by decide +kernel
theorem dL_octet_5 : decode cL_octet 5 = .ok (.iload_n 2, 1) := by decide +kernel
theorem dL_octet_6 : decode cL_octet 6 = .ok (.iload_n 3, 1) := by decide +kernel
theorem dL_octet_7 : decode cL_octet 7 = .ok (.invokevirtual 17, 3) := by decide +kernel
theorem dL_octet_10 : decode cL_octet 10 = .ok (.i2l, 1) := by decide +kernel
theorem dL_octet_11 : decode cL_octet 11 = .ok (.lastore, 1) := by decide +kernel
theorem dL_octet_12 : decode cL_octet 12 = .ok (.goto 7, 3) := by decide +kernel
theorem dL_octet_15 : decode cL_octet 15 = .ok (.astore 5, 2) := by decide +kernel
theorem dL_octet_17 : decode cL_octet 17 = .ok (.iconst 1, 1) := by decide +kernel
theorem dL_octet_18 : decode cL_octet 18 = .ok (.ireturn, 1) := by decide +kernel
theorem dL_octet_19 : decode cL_octet 19 = .ok (.iconst 0, 1) := by decide +kernel
theorem dL_octet_20 : decode cL_octet 20 = .ok (.ireturn, 1) := by decide +kernel
theorem gL_17 : GoodIn A9 (wsV RL 17 RXA yXA_octet (Cond.code yXA_octet cXA_octet 4 (some .byte) :: A9)) := g9V (in9 (by decide +kernel) rfl) (in9 (by decide +kernel) rfl) (in9 (by decide +kernel) rfl) iXA wXA_octet
abbrev cL_drop : ByteArray := method_5_code
def yL_drop : MethodName := ⟨RL, "drop", "(LRevisionWrite;I[J)I"⟩
theorem wL_drop : Cond.codeWith yL_drop cL_drop 4 (some .int) [(0, 16, 19, 13)] ∈ A9 := in9 (by decide +kernel) rfl
theorem dL_drop_0 : decode cL_drop 0 = .ok (.aload_n 2, 1) := by decide +kernel
theorem dL_drop_1 : decode cL_drop 1 = .ok (.iconst 0, 1) := by decide +kernel
theorem dL_drop_2 : decode cL_drop 2 = .ok (.aload_n 0, 1) := by decide +kernel
theorem dL_drop_3 : decode cL_drop 3 = .ok (.iload_n 1, 1) := by decide +kernel
theorem dL_drop_4 : decode cL_drop 4 = .ok (.invokevirtual 21, 3) := by decide +kernel
theorem dL_drop_7 : decode cL_drop 7 = .ok (.ifCond .eq 7, 3) := by decide +kernel
theorem dL_drop_10 : decode cL_drop 10 = .ok (.lconst 1, 1) := by decide +kernel
theorem dL_drop_11 : decode cL_drop 11 = .ok (.goto 4, 3) := by decide +kernel
theorem dL_drop_14 : decode cL_drop 14 = .ok (.lconst 0, 1) := by decide +kernel
theorem dL_drop_15 : decode cL_drop 15 = .ok (.lastore, 1) := by decide +kernel
theorem dL_drop_16 : decode cL_drop 16 = .ok (.goto 6, 3) := by decide +kernel
theorem dL_drop_19 : decode cL_drop 19 = .ok (.astore_n 3, 1) := by decide +kernel
theorem dL_drop_20 : decode cL_drop 20 = .ok (.iconst 1, 1) := by decide +kernel
theorem dL_drop_21 : decode cL_drop 21 = .ok (.ireturn, 1) := by decide +kernel
theorem dL_drop_22 : decode cL_drop 22 = .ok (.iconst 0, 1) := by decide +kernel
theorem dL_drop_23 : decode cL_drop 23 = .ok (.ireturn, 1) := by decide +kernel
theorem gL_21 : GoodIn A9 (wsV RL 21 RXA yXA_drop (Cond.code yXA_drop cXA_drop 3 (some .boolean) :: A9)) := g9V (in9 (by decide +kernel) rfl) (in9 (by decide +kernel) rfl) (in9 (by decide +kernel) rfl) iXA wXA_drop
abbrev cL_first : ByteArray := method_6_code
def yL_first : MethodName := ⟨RL, "first", "(LRevisionWrite;IZ[J)I"⟩
theorem wL_first : Cond.codeWith yL_first cL_first 5 (some .int) [(0, 17, 20, 13)] ∈ A9 := in9 (by decide +kernel) rfl
theorem dL_first_0 : decode cL_first 0 = .ok (.aload_n 3, 1) := by decide +kernel
theorem dL_first_1 : decode cL_first 1 = .ok (.iconst 0, 1) := by decide +kernel
theorem dL_first_2 : decode cL_first 2 = .ok (.aload_n 0, 1) := by decide +kernel
theorem dL_first_3 : decode cL_first 3 = .ok (.iload_n 1, 1) := by decide +kernel
theorem dL_first_4 : decode cL_first 4 = .ok (.iload_n 2, 1) := by decide +kernel
theorem dL_first_5 : decode cL_first 5 = .ok (.invokevirtual 25, 3) := by decide +kernel
theorem dL_first_8 : decode cL_first 8 = .ok (.ifCond .eq 7, 3) := by decide +kernel
theorem dL_first_11 : decode cL_first 11 = .ok (.lconst 1, 1) := by decide +kernel
theorem dL_first_12 : decode cL_first 12 = .ok (.goto 4, 3) := by decide +kernel
theorem dL_first_15 : decode cL_first 15 = .ok (.lconst 0, 1) := by decide +kernel
theorem dL_first_16 : decode cL_first 16 = .ok (.lastore, 1) := by decide +kernel
theorem dL_first_17 : decode cL_first 17 = .ok (.goto 7, 3) := by decide +kernel
theorem dL_first_20 : decode cL_first 20 = .ok (.astore 4, 2) := by decide +kernel
theorem dL_first_22 : decode cL_first 22 = .ok (.iconst 1, 1) := by decide +kernel
theorem dL_first_23 : decode cL_first 23 = .ok (.ireturn, 1) := by decide +kernel
theorem dL_first_24 : decode cL_first 24 = .ok (.iconst 0, 1) := by decide +kernel
theorem dL_first_25 : decode cL_first 25 = .ok (.ireturn, 1) := by decide +kernel
theorem gL_25 : GoodIn A9 (wsV RL 25 RXA yXA_first (Cond.code yXA_first cXA_first 4 (some .boolean) :: A9)) := g9V (in9 (by decide +kernel) rfl) (in9 (by decide +kernel) rfl) (in9 (by decide +kernel) rfl) iXA wXA_first
abbrev cL_write : ByteArray := method_7_code
def yL_write : MethodName := ⟨RL, "write", "(LRevisionWrite;I[J)I"⟩
theorem wL_write : Cond.codeWith yL_write cL_write 4 (some .int) [(0, 9, 12, 15), (0, 9, 15, 33)] ∈ A9 := in9 (by decide +kernel) rfl
theorem dL_write_0 : decode cL_write 0 = .ok (.aload_n 2, 1) := by decide +kernel
theorem dL_write_1 : decode cL_write 1 = .ok (.iconst 0, 1) := by decide +kernel
theorem dL_write_2 : decode cL_write 2 = .ok (.aload_n 0, 1) := by decide +kernel
theorem dL_write_3 : decode cL_write 3 = .ok (.iload_n 1, 1) := by decide +kernel
theorem dL_write_4 : decode cL_write 4 = .ok (.invokevirtual 29, 3) := by decide +kernel
theorem dL_write_7 : decode cL_write 7 = .ok (.i2l, 1) := by decide +kernel
theorem dL_write_8 : decode cL_write 8 = .ok (.lastore, 1) := by decide +kernel
theorem dL_write_9 : decode cL_write 9 = .ok (.goto 9, 3) := by decide +kernel
theorem dL_write_12 : decode cL_write 12 = .ok (.astore_n 3, 1) := by decide +kernel
theorem dL_write_13 : decode cL_write 13 = .ok (.iconst 1, 1) := by decide +kernel
theorem dL_write_14 : decode cL_write 14 = .ok (.ireturn, 1) := by decide +kernel
theorem dL_write_15 : decode cL_write 15 = .ok (.astore_n 3, 1) := by decide +kernel
theorem dL_write_16 : decode cL_write 16 = .ok (.iconst 2, 1) := by decide +kernel
theorem dL_write_17 : decode cL_write 17 = .ok (.ireturn, 1) := by decide +kernel
theorem dL_write_18 : decode cL_write 18 = .ok (.iconst 0, 1) := by decide +kernel
theorem dL_write_19 : decode cL_write 19 = .ok (.ireturn, 1) := by decide +kernel
theorem gL_29 : GoodIn A9 (wsV RL 29 RXA yXA_write (Cond.code yXA_write cXA_write 2 (some .int) :: A9)) := g9V (in9 (by decide +kernel) rfl) (in9 (by decide +kernel) rfl) (in9 (by decide +kernel) rfl) iXA wXA_write
abbrev cL_append : ByteArray := method_8_code
def yL_append : MethodName := ⟨RL, "append", "(LRevisionWrite;[J)I"⟩
theorem wL_append : Cond.codeWith yL_append cL_append 3 (some .int) [(0, 8, 11, 39), (0, 8, 14, 33)] ∈ A9 := in9 (by decide +kernel) rfl
theorem dL_append_0 : decode cL_append 0 = .ok (.aload_n 1, 1) := by decide +kernel
theorem dL_append_1 : decode cL_append 1 = .ok (.iconst 0, 1) := by decide +kernel
theorem dL_append_2 : decode cL_append 2 = .ok (.aload_n 0, 1) := by decide +kernel
theorem dL_append_3 : decode cL_append 3 = .ok (.invokevirtual 35, 3) := by decide +kernel
theorem dL_append_6 : decode cL_append 6 = .ok (.i2l, 1) := by decide +kernel
theorem dL_append_7 : decode cL_append 7 = .ok (.lastore, 1) := by decide +kernel
theorem dL_append_8 : decode cL_append 8 = .ok (.goto 9, 3) := by decide +kernel
theorem dL_append_11 : decode cL_append 11 = .ok (.astore_n 2, 1) := by decide +kernel
theorem dL_append_12 : decode cL_append 12 = .ok (.iconst 1, 1) := by decide +kernel
theorem dL_append_13 : decode cL_append 13 = .ok (.ireturn, 1) := by decide +kernel
theorem dL_append_14 : decode cL_append 14 = .ok (.astore_n 2, 1) := by decide +kernel
theorem dL_append_15 : decode cL_append 15 = .ok (.iconst 2, 1) := by decide +kernel
theorem dL_append_16 : decode cL_append 16 = .ok (.ireturn, 1) := by decide +kernel
theorem dL_append_17 : decode cL_append 17 = .ok (.iconst 0, 1) := by decide +kernel
theorem dL_append_18 : decode cL_append 18 = .ok (.ireturn, 1) := by decide +kernel
theorem gL_35 : GoodIn A9 (wsV RL 35 RXA yXA_append (Cond.code yXA_append cXA_append 1 (some .int) :: A9)) := g9V (in9 (by decide +kernel) rfl) (in9 (by decide +kernel) rfl) (in9 (by decide +kernel) rfl) iXA wXA_append
abbrev cL_poke : ByteArray := method_9_code
def yL_poke : MethodName := ⟨RL, "poke", "(LRevisionWrite;IB[J)I"⟩
theorem wL_poke : Cond.codeWith yL_poke cL_poke 5 (some .int) [(0, 10, 13, 13)] ∈ A9 := in9 (by decide +kernel) rfl
theorem dL_poke_0 : decode cL_poke 0 = .ok (.aload_n 3, 1) := by decide +kernel
theorem dL_poke_1 : decode cL_poke 1 = .ok (.iconst 0, 1) := by decide +kernel
theorem dL_poke_2 : decode cL_poke 2 = .ok (.aload_n 0, 1) := by decide +kernel
theorem dL_poke_3 : decode cL_poke 3 = .ok (.iload_n 1, 1) := by decide +kernel
theorem dL_poke_4 : decode cL_poke 4 = .ok (.iload_n 2, 1) := by decide +kernel
theorem dL_poke_5 : decode cL_poke 5 = .ok (.invokevirtual 41, 3) := by decide +kernel
theorem dL_poke_8 : decode cL_poke 8 = .ok (.i2l, 1) := by decide +kernel
theorem dL_poke_9 : decode cL_poke 9 = .ok (.lastore, 1) := by decide +kernel
theorem dL_poke_10 : decode cL_poke 10 = .ok (.goto 7, 3) := by decide +kernel
theorem dL_poke_13 : decode cL_poke 13 = .ok (.astore 4, 2) := by decide +kernel
theorem dL_poke_15 : decode cL_poke 15 = .ok (.iconst 1, 1) := by decide +kernel
theorem dL_poke_16 : decode cL_poke 16 = .ok (.ireturn, 1) := by decide +kernel
theorem dL_poke_17 : decode cL_poke 17 = .ok (.iconst 0, 1) := by decide +kernel
theorem dL_poke_18 : decode cL_poke 18 = .ok (.ireturn, 1) := by decide +kernel
theorem gL_41 : GoodIn A9 (wsV RL 41 RXA yXA_poke (Cond.code yXA_poke cXA_poke 4 (some .byte) :: A9)) := g9V (in9 (by decide +kernel) rfl) (in9 (by decide +kernel) rfl) (in9 (by decide +kernel) rfl) iXA wXA_poke
abbrev cL_take : ByteArray := method_10_code
def yL_take : MethodName := ⟨RL, "take", "(LRevisionWrite;I[J)I"⟩
theorem wL_take : Cond.codeWith yL_take cL_take 4 (some .int) [(0, 9, 12, 13)] ∈ A9 := in9 (by decide +kernel) rfl
theorem dL_take_0 : decode cL_take 0 = .ok (.aload_n 2, 1) := by decide +kernel
theorem dL_take_1 : decode cL_take 1 = .ok (.iconst 0, 1) := by decide +kernel
theorem dL_take_2 : decode cL_take 2 = .ok (.aload_n 0, 1) := by decide +kernel
theorem dL_take_3 : decode cL_take 3 = .ok (.iload_n 1, 1) := by decide +kernel
theorem dL_take_4 : decode cL_take 4 = .ok (.invokevirtual 45, 3) := by decide +kernel
theorem dL_take_7 : decode cL_take 7 = .ok (.i2l, 1) := by decide +kernel
theorem dL_take_8 : decode cL_take 8 = .ok (.lastore, 1) := by decide +kernel
theorem dL_take_9 : decode cL_take 9 = .ok (.goto 6, 3) := by decide +kernel
theorem dL_take_12 : decode cL_take 12 = .ok (.astore_n 3, 1) := by decide +kernel
theorem dL_take_13 : decode cL_take 13 = .ok (.iconst 1, 1) := by decide +kernel
theorem dL_take_14 : decode cL_take 14 = .ok (.ireturn, 1) := by decide +kernel
theorem dL_take_15 : decode cL_take 15 = .ok (.iconst 0, 1) := by decide +kernel
theorem dL_take_16 : decode cL_take 16 = .ok (.ireturn, 1) := by decide +kernel
theorem gL_45 : GoodIn A9 (wsV RL 45 RXA yXA_take (Cond.code yXA_take cXA_take 2 (some .int) :: A9)) := g9V (in9 (by decide +kernel) rfl) (in9 (by decide +kernel) rfl) (in9 (by decide +kernel) rfl) iXA wXA_take
abbrev cL_at : ByteArray := method_11_code
def yL_at : MethodName := ⟨RL, "at", "(LRevisionWrite;I[J)I"⟩
theorem wL_at : Cond.codeWith yL_at cL_at 4 (some .int) [(0, 9, 12, 13)] ∈ A9 := in9 (by decide +kernel) rfl
theorem dL_at_0 : decode cL_at 0 = .ok (.aload_n 2, 1) := by decide +kernel
theorem dL_at_1 : decode cL_at 1 = .ok (.iconst 0, 1) := by decide +kernel
theorem dL_at_2 : decode cL_at 2 = .ok (.aload_n 0, 1) := by decide +kernel
theorem dL_at_3 : decode cL_at 3 = .ok (.iload_n 1, 1) := by decide +kernel
theorem dL_at_4 : decode cL_at 4 = .ok (.invokevirtual 48, 3) := by decide +kernel
theorem dL_at_7 : decode cL_at 7 = .ok (.i2l, 1) := by decide +kernel
theorem dL_at_8 : decode cL_at 8 = .ok (.lastore, 1) := by decide +kernel
theorem dL_at_9 : decode cL_at 9 = .ok (.goto 6, 3) := by decide +kernel
theorem dL_at_12 : decode cL_at 12 = .ok (.astore_n 3, 1) := by decide +kernel
theorem dL_at_13 : decode cL_at 13 = .ok (.iconst 1, 1) := by decide +kernel
theorem dL_at_14 : decode cL_at 14 = .ok (.ireturn, 1) := by decide +kernel
theorem dL_at_15 : decode cL_at 15 = .ok (.iconst 0, 1) := by decide +kernel
theorem dL_at_16 : decode cL_at 16 = .ok (.ireturn, 1) := by decide +kernel
theorem gL_48 : GoodIn A9 (wsV RL 48 RXA yXA_at (Cond.code yXA_at cXA_at 2 (some .byte) :: A9)) := g9V (in9 (by decide +kernel) rfl) (in9 (by decide +kernel) rfl) (in9 (by decide +kernel) rfl) iXA wXA_at
abbrev cL_length : ByteArray := method_12_code
def yL_length : MethodName := ⟨RL, "length", "(LRevisionWrite;I[J)I"⟩
theorem wL_length : Cond.codeWith yL_length cL_length 4 (some .int) [(0, 9, 12, 13)] ∈ A9 := in9 (by decide +kernel) rfl
theorem dL_length_0 : decode cL_length 0 = .ok (.aload_n 2, 1) := by decide +kernel
theorem dL_length_1 : decode cL_length 1 = .ok (.iconst 0, 1) := by decide +kernel
theorem dL_length_2 : decode cL_length 2 = .ok (.aload_n 0, 1) := by decide +kernel
theorem dL_length_3 : decode cL_length 3 = .ok (.iload_n 1, 1) := by decide +kernel
theorem dL_length_4 : decode cL_length 4 = .ok (.invokevirtual 52, 3) := by decide +kernel
theorem dL_length_7 : decode cL_length 7 = .ok (.i2l, 1) := by decide +kernel
theorem dL_length_8 : decode cL_length 8 = .ok (.lastore, 1) := by decide +kernel
theorem dL_length_9 : decode cL_length 9 = .ok (.goto 6, 3) := by decide +kernel
theorem dL_length_12 : decode cL_length 12 = .ok (.astore_n 3, 1) := by decide +kernel
theorem dL_length_13 : decode cL_length 13 = .ok (.iconst 1, 1) := by decide +kernel
theorem dL_length_14 : decode cL_length 14 = .ok (.ireturn, 1) := by decide +kernel
theorem dL_length_15 : decode cL_length 15 = .ok (.iconst 0, 1) := by decide +kernel
theorem dL_length_16 : decode cL_length 16 = .ok (.ireturn, 1) := by decide +kernel
theorem gL_52 : GoodIn A9 (wsV RL 52 RXA yXA_length (Cond.code yXA_length cXA_length 2 (some .int) :: A9)) := g9V (in9 (by decide +kernel) rfl) (in9 (by decide +kernel) rfl) (in9 (by decide +kernel) rfl) iXA wXA_length
abbrev cL_byteOf : ByteArray := method_13_code
def yL_byteOf : MethodName := ⟨RL, "byteOf", "(LRevisionWrite;II[J)I"⟩
theorem wL_byteOf : Cond.codeWith yL_byteOf cL_byteOf 5 (some .int) [(0, 10, 13, 13)] ∈ A9 := in9 (by decide +kernel) rfl
theorem dL_byteOf_0 : decode cL_byteOf 0 = .ok (.aload_n 3, 1) := by decide +kernel
theorem dL_byteOf_1 : decode cL_byteOf 1 = .ok (.iconst 0, 1) := by decide +kernel
theorem dL_byteOf_2 : decode cL_byteOf 2 = .ok (.aload_n 0, 1) := by decide +kernel
theorem dL_byteOf_3 : decode cL_byteOf 3 = .ok (.iload_n 1, 1) := by decide +kernel
theorem dL_byteOf_4 : decode cL_byteOf 4 = .ok (.iload_n 2, 1) := by decide +kernel
theorem dL_byteOf_5 : decode cL_byteOf 5 = .ok (.invokevirtual 55, 3) := by decide +kernel
theorem dL_byteOf_8 : decode cL_byteOf 8 = .ok (.i2l, 1) := by decide +kernel
theorem dL_byteOf_9 : decode cL_byteOf 9 = .ok (.lastore, 1) := by decide +kernel
theorem dL_byteOf_10 : decode cL_byteOf 10 = .ok (.goto 7, 3) := by decide +kernel
theorem dL_byteOf_13 : decode cL_byteOf 13 = .ok (.astore 4, 2) := by decide +kernel
theorem dL_byteOf_15 : decode cL_byteOf 15 = .ok (.iconst 1, 1) := by decide +kernel
theorem dL_byteOf_16 : decode cL_byteOf 16 = .ok (.ireturn, 1) := by decide +kernel
theorem dL_byteOf_17 : decode cL_byteOf 17 = .ok (.iconst 0, 1) := by decide +kernel
theorem dL_byteOf_18 : decode cL_byteOf 18 = .ok (.ireturn, 1) := by decide +kernel
theorem gL_55 : GoodIn A9 (wsV RL 55 RXA yXA_byteOf (Cond.code yXA_byteOf cXA_byteOf 3 (some .byte) :: A9)) := g9V (in9 (by decide +kernel) rfl) (in9 (by decide +kernel) rfl) (in9 (by decide +kernel) rfl) iXA wXA_byteOf
abbrev cL_size : ByteArray := method_14_code
def yL_size : MethodName := ⟨RL, "size", "(LRevisionWrite;I[J)I"⟩
theorem wL_size : Cond.codeWith yL_size cL_size 4 (some .int) [(0, 9, 12, 13)] ∈ A9 := in9 (by decide +kernel) rfl
theorem dL_size_0 : decode cL_size 0 = .ok (.aload_n 2, 1) := by decide +kernel
theorem dL_size_1 : decode cL_size 1 = .ok (.iconst 0, 1) := by decide +kernel
theorem dL_size_2 : decode cL_size 2 = .ok (.aload_n 0, 1) := by decide +kernel
theorem dL_size_3 : decode cL_size 3 = .ok (.iload_n 1, 1) := by decide +kernel
theorem dL_size_4 : decode cL_size 4 = .ok (.invokevirtual 59, 3) := by decide +kernel
theorem dL_size_7 : decode cL_size 7 = .ok (.i2l, 1) := by decide +kernel
theorem dL_size_8 : decode cL_size 8 = .ok (.lastore, 1) := by decide +kernel
theorem dL_size_9 : decode cL_size 9 = .ok (.goto 6, 3) := by decide +kernel
theorem dL_size_12 : decode cL_size 12 = .ok (.astore_n 3, 1) := by decide +kernel
theorem dL_size_13 : decode cL_size 13 = .ok (.iconst 1, 1) := by decide +kernel
theorem dL_size_14 : decode cL_size 14 = .ok (.ireturn, 1) := by decide +kernel
theorem dL_size_15 : decode cL_size 15 = .ok (.iconst 0, 1) := by decide +kernel
theorem dL_size_16 : decode cL_size 16 = .ok (.ireturn, 1) := by decide +kernel
theorem gL_59 : GoodIn A9 (wsV RL 59 RXA yXA_size (Cond.code yXA_size cXA_size 2 (some .int) :: A9)) := g9V (in9 (by decide +kernel) rfl) (in9 (by decide +kernel) rfl) (in9 (by decide +kernel) rfl) iXA wXA_size
abbrev cL_place : ByteArray := method_15_code
def yL_place : MethodName := ⟨RL, "place", "(LRevisionWrite;II[J)I"⟩
theorem wL_place : Cond.codeWith yL_place cL_place 5 (some .int) [(0, 10, 13, 13)] ∈ A9 := in9 (by decide +kernel) rfl
theorem dL_place_0 : decode cL_place 0 = .ok (.aload_n 3, 1) := by decide +kernel
theorem dL_place_1 : decode cL_place 1 = .ok (.iconst 0, 1) := by decide +kernel
theorem dL_place_2 : decode cL_place 2 = .ok (.aload_n 0, 1) := by decide +kernel
theorem dL_place_3 : decode cL_place 3 = .ok (.iload_n 1, 1) := by decide +kernel
theorem dL_place_4 : decode cL_place 4 = .ok (.iload_n 2, 1) := by decide +kernel
theorem dL_place_5 : decode cL_place 5 = .ok (.invokevirtual 62, 3) := by decide +kernel
theorem dL_place_8 : decode cL_place 8 = .ok (.i2l, 1) := by decide +kernel
theorem dL_place_9 : decode cL_place 9 = .ok (.lastore, 1) := by decide +kernel
theorem dL_place_10 : decode cL_place 10 = .ok (.goto 7, 3) := by decide +kernel
theorem dL_place_13 : decode cL_place 13 = .ok (.astore 4, 2) := by decide +kernel
theorem dL_place_15 : decode cL_place 15 = .ok (.iconst 1, 1) := by decide +kernel
theorem dL_place_16 : decode cL_place 16 = .ok (.ireturn, 1) := by decide +kernel
theorem dL_place_17 : decode cL_place 17 = .ok (.iconst 0, 1) := by decide +kernel
theorem dL_place_18 : decode cL_place 18 = .ok (.ireturn, 1) := by decide +kernel
theorem gL_62 : GoodIn A9 (wsV RL 62 RXA yXA_place (Cond.code yXA_place cXA_place 3 (some .int) :: A9)) := g9V (in9 (by decide +kernel) rfl) (in9 (by decide +kernel) rfl) (in9 (by decide +kernel) rfl) iXA wXA_place
abbrev cL_differ : ByteArray := method_16_code
def yL_differ : MethodName := ⟨RL, "differ", "(LRevisionWrite;II[J)I"⟩
theorem wL_differ : Cond.codeWith yL_differ cL_differ 5 (some .int) [(0, 10, 13, 13)] ∈ A9 := in9 (by decide +kernel) rfl
theorem dL_differ_0 : decode cL_differ 0 = .ok (.aload_n 3, 1) := by decide +kernel
theorem dL_differ_1 : decode cL_differ 1 = .ok (.iconst 0, 1) := by decide +kernel
theorem dL_differ_2 : decode cL_differ 2 = .ok (.aload_n 0, 1) := by decide +kernel
theorem dL_differ_3 : decode cL_differ 3 = .ok (.iload_n 1, 1) := by decide +kernel
theorem dL_differ_4 : decode cL_differ 4 = .ok (.iload_n 2, 1) := by decide +kernel
theorem dL_differ_5 : decode cL_differ 5 = .ok (.invokevirtual 66, 3) := by decide +kernel
theorem dL_differ_8 : decode cL_differ 8 = .ok (.i2l, 1) := by decide +kernel
theorem dL_differ_9 : decode cL_differ 9 = .ok (.lastore, 1) := by decide +kernel
theorem dL_differ_10 : decode cL_differ 10 = .ok (.goto 7, 3) := by decide +kernel
theorem dL_differ_13 : decode cL_differ 13 = .ok (.astore 4, 2) := by decide +kernel
theorem dL_differ_15 : decode cL_differ 15 = .ok (.iconst 1, 1) := by decide +kernel
theorem dL_differ_16 : decode cL_differ 16 = .ok (.ireturn, 1) := by decide +kernel
theorem dL_differ_17 : decode cL_differ 17 = .ok (.iconst 0, 1) := by decide +kernel
theorem dL_differ_18 : decode cL_differ 18 = .ok (.ireturn, 1) := by decide +kernel
theorem gL_66 : GoodIn A9 (wsV RL 66 RXA yXA_differ (Cond.code yXA_differ cXA_differ 3 (some .int) :: A9)) := g9V (in9 (by decide +kernel) rfl) (in9 (by decide +kernel) rfl) (in9 (by decide +kernel) rfl) iXA wXA_differ
abbrev cL_row : ByteArray := method_17_code
def yL_row : MethodName := ⟨RL, "row", "(LRevisionWrite;II[J)I"⟩
theorem wL_row : Cond.codeWith yL_row cL_row 5 (some .int) [(0, 10, 13, 13)] ∈ A9 := in9 (by decide +kernel) rfl
theorem dL_row_0 : decode cL_row 0 = .ok (.aload_n 3, 1) := by decide +kernel
theorem dL_row_1 : decode cL_row 1 = .ok (.iconst 0, 1) := by decide +kernel
theorem dL_row_2 : decode cL_row 2 = .ok (.aload_n 0, 1) := by decide +kernel
theorem dL_row_3 : decode cL_row 3 = .ok (.iload_n 1, 1) := by decide +kernel
theorem dL_row_4 : decode cL_row 4 = .ok (.iload_n 2, 1) := by decide +kernel
theorem dL_row_5 : decode cL_row 5 = .ok (.invokevirtual 69, 3) := by decide +kernel
theorem dL_row_8 : decode cL_row 8 = .ok (.i2l, 1) := by decide +kernel
theorem dL_row_9 : decode cL_row 9 = .ok (.lastore, 1) := by decide +kernel
theorem dL_row_10 : decode cL_row 10 = .ok (.goto 7, 3) := by decide +kernel
theorem dL_row_13 : decode cL_row 13 = .ok (.astore 4, 2) := by decide +kernel
theorem dL_row_15 : decode cL_row 15 = .ok (.iconst 1, 1) := by decide +kernel
theorem dL_row_16 : decode cL_row 16 = .ok (.ireturn, 1) := by decide +kernel
theorem dL_row_17 : decode cL_row 17 = .ok (.iconst 0, 1) := by decide +kernel
theorem dL_row_18 : decode cL_row 18 = .ok (.ireturn, 1) := by decide +kernel
theorem gL_69 : GoodIn A9 (wsV RL 69 RXA yXA_row (Cond.code yXA_row cXA_row 3 (some .int) :: A9)) := g9V (in9 (by decide +kernel) rfl) (in9 (by decide +kernel) rfl) (in9 (by decide +kernel) rfl) iXA wXA_row
theorem qL_13 : Cond.classLink RL 13 "java/lang/IndexOutOfBoundsException" ∈ A9 := (in9 (by decide +kernel) rfl)
theorem qL_15 : Cond.classLink RL 15 "java/lang/IllegalArgumentException" ∈ A9 := (in9 (by decide +kernel) rfl)
theorem qL_33 : Cond.classLink RL 33 "java/lang/UnsupportedOperationException" ∈ A9 := (in9 (by decide +kernel) rfl)
theorem qL_39 : Cond.classLink RL 39 "java/lang/IllegalStateException" ∈ A9 := (in9 (by decide +kernel) rfl)
