abbrev cXA_isNumber : ByteArray := prog_1_method_19_code
def yXA_isNumber : MethodName := ⟨RXA, "isNumber", "(I)Z"⟩
theorem wXA_isNumber : Cond.code yXA_isNumber cXA_isNumber 1 (some .boolean) ∈ A9 := in9_2 130 rfl rfl
theorem dXA_isNumber_0 : decode cXA_isNumber 0 = .ok (.iload_n 0, 1) := by decide +kernel
theorem dXA_isNumber_1 : decode cXA_isNumber 1 = .ok (.iconst 1, 1) := by decide +kernel
theorem dXA_isNumber_2 : decode cXA_isNumber 2 = .ok (.if_icmp .lt 13, 3) := by decide +kernel
theorem dXA_isNumber_5 : decode cXA_isNumber 5 = .ok (.iload_n 0, 1) := by decide +kernel
theorem dXA_isNumber_6 : decode cXA_isNumber 6 = .ok (.bipush 40, 2) := by decide +kernel
theorem dXA_isNumber_8 : decode cXA_isNumber 8 = .ok (.if_icmp .gt 7, 3) := by decide +kernel
theorem dXA_isNumber_11 : decode cXA_isNumber 11 = .ok (.iconst 1, 1) := by decide +kernel
theorem dXA_isNumber_12 : decode cXA_isNumber 12 = .ok (.goto 4, 3) := by decide +kernel
theorem dXA_isNumber_15 : decode cXA_isNumber 15 = .ok (.iconst 0, 1) := by decide +kernel
theorem dXA_isNumber_16 : decode cXA_isNumber 16 = .ok (.ireturn, 1) := by decide +kernel
abbrev cXA_keepDraft : ByteArray := prog_1_method_20_code
def yXA_keepDraft : MethodName := ⟨RXA, "keepDraft", "()V"⟩
theorem wXA_keepDraft : Cond.code yXA_keepDraft cXA_keepDraft 1 none ∈ A9 := in9_4 123 rfl rfl
theorem dXA_keepDraft_0 : decode cXA_keepDraft 0 = .ok (.aload_n 0, 1) := by decide +kernel
theorem dXA_keepDraft_1 : decode cXA_keepDraft 1 = .ok (.getfield 19, 3) := by decide +kernel
theorem dXA_keepDraft_4 : decode cXA_keepDraft 4 = .ok (.aload_n 0, 1) := by decide +kernel
theorem dXA_keepDraft_5 : decode cXA_keepDraft 5 = .ok (.getfield 44, 3) := by decide +kernel
theorem dXA_keepDraft_8 : decode cXA_keepDraft 8 = .ok (.getfield 210, 3) := by decide +kernel
theorem lXA_210 : Cond.fieldLink RXA 210 "RevisionWrite$Draft" "base" "I" ∈ A9 := in9_1 183 (by decide +kernel) rfl
theorem dXA_keepDraft_11 : decode cXA_keepDraft 11 = .ok (.aload_n 0, 1) := by decide +kernel
theorem dXA_keepDraft_12 : decode cXA_keepDraft 12 = .ok (.getfield 44, 3) := by decide +kernel
theorem dXA_keepDraft_15 : decode cXA_keepDraft 15 = .ok (.getfield 213, 3) := by decide +kernel
theorem lXA_213 : Cond.fieldLink RXA 213 "RevisionWrite$Draft" "bytes" "[B" ∈ A9 := in9_1 177 (by decide +kernel) rfl
theorem dXA_keepDraft_18 : decode cXA_keepDraft 18 = .ok (.aload_n 0, 1) := by decide +kernel
theorem dXA_keepDraft_19 : decode cXA_keepDraft 19 = .ok (.getfield 44, 3) := by decide +kernel
theorem dXA_keepDraft_22 : decode cXA_keepDraft 22 = .ok (.getfield 153, 3) := by decide +kernel
theorem dXA_keepDraft_25 : decode cXA_keepDraft 25 = .ok (.invokevirtual 214, 3) := by decide +kernel
theorem dXA_keepDraft_28 : decode cXA_keepDraft 28 = .ok (.aload_n 0, 1) := by decide +kernel
theorem dXA_keepDraft_29 : decode cXA_keepDraft 29 = .ok (.getfield 19, 3) := by decide +kernel
theorem dXA_keepDraft_32 : decode cXA_keepDraft 32 = .ok (.iconst 0, 1) := by decide +kernel
theorem dXA_keepDraft_33 : decode cXA_keepDraft 33 = .ok (.putfield 132, 3) := by decide +kernel
theorem dXA_keepDraft_36 : decode cXA_keepDraft 36 = .ok (.aload_n 0, 1) := by decide +kernel
theorem dXA_keepDraft_37 : decode cXA_keepDraft 37 = .ok (.getfield 26, 3) := by decide +kernel
theorem dXA_keepDraft_40 : decode cXA_keepDraft 40 = .ok (.aload_n 0, 1) := by decide +kernel
theorem dXA_keepDraft_41 : decode cXA_keepDraft 41 = .ok (.getfield 44, 3) := by decide +kernel
theorem dXA_keepDraft_44 : decode cXA_keepDraft 44 = .ok (.getfield 110, 3) := by decide +kernel
theorem dXA_keepDraft_47 : decode cXA_keepDraft 47 = .ok (.invokevirtual 218, 3) := by decide +kernel
theorem dXA_keepDraft_50 : decode cXA_keepDraft 50 = .ok (.aload_n 0, 1) := by decide +kernel
theorem dXA_keepDraft_51 : decode cXA_keepDraft 51 = .ok (.getfield 10, 3) := by decide +kernel
theorem dXA_keepDraft_54 : decode cXA_keepDraft 54 = .ok (.invokevirtual 222, 3) := by decide +kernel
theorem dXA_keepDraft_57 : decode cXA_keepDraft 57 = .ok (.return_, 1) := by decide +kernel
abbrev cXA_readFile : ByteArray := prog_1_method_21_code
def yXA_readFile : MethodName := ⟨RXA, "readFile", "()I"⟩
theorem wXA_readFile : Cond.code yXA_readFile cXA_readFile 3 (some .int) ∈ A9 := in9_2 6 rfl rfl
theorem dXA_readFile_0 : decode cXA_readFile 0 = .ok (.aload_n 0, 1) := by decide +kernel
theorem dXA_readFile_1 : decode cXA_readFile 1 = .ok (.getfield 35, 3) := by decide +kernel
theorem dXA_readFile_4 : decode cXA_readFile 4 = .ok (.invokevirtual 225, 3) := by decide +kernel
theorem dXA_readFile_7 : decode cXA_readFile 7 = .ok (.istore_n 1, 1) := by decide +kernel
theorem dXA_readFile_8 : decode cXA_readFile 8 = .ok (.iload_n 1, 1) := by decide +kernel
theorem dXA_readFile_9 : decode cXA_readFile 9 = .ok (.iconst (-1), 1) := by decide +kernel
theorem dXA_readFile_10 : decode cXA_readFile 10 = .ok (.if_icmp .eq 7, 3) := by decide +kernel
theorem dXA_readFile_13 : decode cXA_readFile 13 = .ok (.iconst (-1), 1) := by decide +kernel
theorem dXA_readFile_14 : decode cXA_readFile 14 = .ok (.iload_n 1, 1) := by decide +kernel
theorem dXA_readFile_15 : decode cXA_readFile 15 = .ok (.isub, 1) := by decide +kernel
theorem dXA_readFile_16 : decode cXA_readFile 16 = .ok (.ireturn, 1) := by decide +kernel
theorem dXA_readFile_17 : decode cXA_readFile 17 = .ok (.aload_n 0, 1) := by decide +kernel
theorem dXA_readFile_18 : decode cXA_readFile 18 = .ok (.getfield 26, 3) := by decide +kernel
theorem dXA_readFile_21 : decode cXA_readFile 21 = .ok (.iconst 0, 1) := by decide +kernel
theorem dXA_readFile_22 : decode cXA_readFile 22 = .ok (.putfield 125, 3) := by decide +kernel
theorem dXA_readFile_25 : decode cXA_readFile 25 = .ok (.aload_n 0, 1) := by decide +kernel
theorem dXA_readFile_26 : decode cXA_readFile 26 = .ok (.getfield 35, 3) := by decide +kernel
theorem dXA_readFile_29 : decode cXA_readFile 29 = .ok (.getfield 228, 3) := by decide +kernel
theorem lXA_228 : Cond.fieldLink RXA 228 "RevisionWrite$Scan" "count" "I" ∈ A9 := in9_1 153 (by decide +kernel) rfl
theorem dXA_readFile_32 : decode cXA_readFile 32 = .ok (.iconst 1, 1) := by decide +kernel
theorem dXA_readFile_33 : decode cXA_readFile 33 = .ok (.isub, 1) := by decide +kernel
theorem dXA_readFile_34 : decode cXA_readFile 34 = .ok (.istore_n 2, 1) := by decide +kernel
theorem dXA_readFile_35 : decode cXA_readFile 35 = .ok (.iload_n 2, 1) := by decide +kernel
theorem dXA_readFile_36 : decode cXA_readFile 36 = .ok (.ifCond .lt 25, 3) := by decide +kernel
theorem dXA_readFile_39 : decode cXA_readFile 39 = .ok (.aload_n 0, 1) := by decide +kernel
theorem dXA_readFile_40 : decode cXA_readFile 40 = .ok (.getfield 26, 3) := by decide +kernel
theorem dXA_readFile_43 : decode cXA_readFile 43 = .ok (.aload_n 0, 1) := by decide +kernel
theorem dXA_readFile_44 : decode cXA_readFile 44 = .ok (.getfield 35, 3) := by decide +kernel
theorem dXA_readFile_47 : decode cXA_readFile 47 = .ok (.getfield 229, 3) := by decide +kernel
theorem lXA_229 : Cond.fieldLink RXA 229 "RevisionWrite$Scan" "parts" "[LRevisionWrite$Table;" ∈ A9 := in9_1 151 (by decide +kernel) rfl
theorem dXA_readFile_50 : decode cXA_readFile 50 = .ok (.iload_n 2, 1) := by decide +kernel
theorem dXA_readFile_51 : decode cXA_readFile 51 = .ok (.aaload, 1) := by decide +kernel
theorem dXA_readFile_52 : decode cXA_readFile 52 = .ok (.invokevirtual 218, 3) := by decide +kernel
theorem dXA_readFile_55 : decode cXA_readFile 55 = .ok (.iinc 2 (-1), 3) := by decide +kernel
theorem dXA_readFile_58 : decode cXA_readFile 58 = .ok (.goto (-23), 3) := by decide +kernel
theorem dXA_readFile_61 : decode cXA_readFile 61 = .ok (.aload_n 0, 1) := by decide +kernel
theorem dXA_readFile_62 : decode cXA_readFile 62 = .ok (.getfield 26, 3) := by decide +kernel
theorem dXA_readFile_65 : decode cXA_readFile 65 = .ok (.getfield 125, 3) := by decide +kernel
theorem dXA_readFile_68 : decode cXA_readFile 68 = .ok (.ifCond .le 31, 3) := by decide +kernel
theorem dXA_readFile_71 : decode cXA_readFile 71 = .ok (.aload_n 0, 1) := by decide +kernel
theorem dXA_readFile_72 : decode cXA_readFile 72 = .ok (.getfield 10, 3) := by decide +kernel
theorem dXA_readFile_75 : decode cXA_readFile 75 = .ok (.aload_n 0, 1) := by decide +kernel
theorem dXA_readFile_76 : decode cXA_readFile 76 = .ok (.getfield 19, 3) := by decide +kernel
theorem dXA_readFile_79 : decode cXA_readFile 79 = .ok (.aload_n 0, 1) := by decide +kernel
theorem dXA_readFile_80 : decode cXA_readFile 80 = .ok (.getfield 26, 3) := by decide +kernel
theorem dXA_readFile_83 : decode cXA_readFile 83 = .ok (.getfield 171, 3) := by decide +kernel
theorem dXA_readFile_86 : decode cXA_readFile 86 = .ok (.aload_n 0, 1) := by decide +kernel
theorem dXA_readFile_87 : decode cXA_readFile 87 = .ok (.getfield 26, 3) := by decide +kernel
theorem dXA_readFile_90 : decode cXA_readFile 90 = .ok (.getfield 125, 3) := by decide +kernel
theorem dXA_readFile_93 : decode cXA_readFile 93 = .ok (.iconst 1, 1) := by decide +kernel
theorem dXA_readFile_94 : decode cXA_readFile 94 = .ok (.isub, 1) := by decide +kernel
theorem dXA_readFile_95 : decode cXA_readFile 95 = .ok (.aaload, 1) := by decide +kernel
theorem dXA_readFile_96 : decode cXA_readFile 96 = .ok (.invokevirtual 232, 3) := by decide +kernel
theorem dXA_readFile_99 : decode cXA_readFile 99 = .ok (.aload_n 0, 1) := by decide +kernel
theorem dXA_readFile_100 : decode cXA_readFile 100 = .ok (.getfield 19, 3) := by decide +kernel
theorem dXA_readFile_103 : decode cXA_readFile 103 = .ok (.iconst 0, 1) := by decide +kernel
theorem dXA_readFile_104 : decode cXA_readFile 104 = .ok (.putfield 132, 3) := by decide +kernel
theorem dXA_readFile_107 : decode cXA_readFile 107 = .ok (.aload_n 0, 1) := by decide +kernel
theorem dXA_readFile_108 : decode cXA_readFile 108 = .ok (.getfield 26, 3) := by decide +kernel
theorem dXA_readFile_111 : decode cXA_readFile 111 = .ok (.getfield 125, 3) := by decide +kernel
theorem dXA_readFile_114 : decode cXA_readFile 114 = .ok (.ireturn, 1) := by decide +kernel
def RXS : String := "RevisionWrite$Shelf"
abbrev cXS_init : ByteArray := prog_7_method_1_code
def yXS_init : MethodName := ⟨RXS, "<init>", "()V"⟩
theorem wXS_init : Cond.code yXS_init cXS_init 1 none ∈ A9 := in9_1 41 rfl rfl
theorem dXS_init_0 : decode cXS_init 0 = .ok (.aload_n 0, 1) := by decide +kernel
theorem dXS_init_1 : decode cXS_init 1 = .ok (.invokespecial 3, 3) := by decide +kernel
theorem dXS_init_4 : decode cXS_init 4 = .ok (.aload_n 0, 1) := by decide +kernel
theorem dXS_init_5 : decode cXS_init 5 = .ok (.bipush 41, 2) := by decide +kernel
theorem dXS_init_7 : decode cXS_init 7 = .ok (.newarray .boolean, 2) := by decide +kernel
theorem dXS_init_9 : decode cXS_init 9 = .ok (.putfield 9, 3) := by decide +kernel
theorem lXS_9 : Cond.fieldLink RXS 9 "RevisionWrite$Shelf" "there" "[Z" ∈ A9 := in9_1 43 (by decide +kernel) rfl
theorem dXS_init_12 : decode cXS_init 12 = .ok (.aload_n 0, 1) := by decide +kernel
theorem dXS_init_13 : decode cXS_init 13 = .ok (.bipush 41, 2) := by decide +kernel
theorem dXS_init_15 : decode cXS_init 15 = .ok (.newarray .boolean, 2) := by decide +kernel
theorem dXS_init_17 : decode cXS_init 17 = .ok (.putfield 15, 3) := by decide +kernel
theorem lXS_15 : Cond.fieldLink RXS 15 "RevisionWrite$Shelf" "leading" "[Z" ∈ A9 := in9_1 46 (by decide +kernel) rfl
theorem dXS_init_20 : decode cXS_init 20 = .ok (.aload_n 0, 1) := by decide +kernel
theorem dXS_init_21 : decode cXS_init 21 = .ok (.bipush 41, 2) := by decide +kernel
theorem dXS_init_23 : decode cXS_init 23 = .ok (.newarray .int, 2) := by decide +kernel
theorem dXS_init_25 : decode cXS_init 25 = .ok (.putfield 18, 3) := by decide +kernel
theorem lXS_18 : Cond.fieldLink RXS 18 "RevisionWrite$Shelf" "lengths" "[I" ∈ A9 := in9_1 49 (by decide +kernel) rfl
theorem dXS_init_28 : decode cXS_init 28 = .ok (.aload_n 0, 1) := by decide +kernel
theorem dXS_init_29 : decode cXS_init 29 = .ok (.sipush 4920, 3) := by decide +kernel
theorem dXS_init_32 : decode cXS_init 32 = .ok (.newarray .byte, 2) := by decide +kernel
theorem dXS_init_34 : decode cXS_init 34 = .ok (.putfield 22, 3) := by decide +kernel
theorem lXS_22 : Cond.fieldLink RXS 22 "RevisionWrite$Shelf" "bytes" "[B" ∈ A9 := in9_1 52 (by decide +kernel) rfl
theorem dXS_init_37 : decode cXS_init 37 = .ok (.aload_n 0, 1) := by decide +kernel
theorem dXS_init_38 : decode cXS_init 38 = .ok (.bipush 41, 2) := by decide +kernel
theorem dXS_init_40 : decode cXS_init 40 = .ok (.newarray .boolean, 2) := by decide +kernel
theorem dXS_init_42 : decode cXS_init 42 = .ok (.putfield 26, 3) := by decide +kernel
theorem lXS_26 : Cond.fieldLink RXS 26 "RevisionWrite$Shelf" "touched" "[Z" ∈ A9 := in9_1 53 (by decide +kernel) rfl
theorem dXS_init_45 : decode cXS_init 45 = .ok (.aload_n 0, 1) := by decide +kernel
theorem dXS_init_46 : decode cXS_init 46 = .ok (.bipush 41, 2) := by decide +kernel
theorem dXS_init_48 : decode cXS_init 48 = .ok (.newarray .boolean, 2) := by decide +kernel
theorem dXS_init_50 : decode cXS_init 50 = .ok (.putfield 29, 3) := by decide +kernel
theorem lXS_29 : Cond.fieldLink RXS 29 "RevisionWrite$Shelf" "saved" "[Z" ∈ A9 := in9_1 54 (by decide +kernel) rfl
theorem dXS_init_53 : decode cXS_init 53 = .ok (.return_, 1) := by decide +kernel
abbrev cXS_byteAt : ByteArray := prog_7_method_4_code
def yXS_byteAt : MethodName := ⟨RXS, "byteAt", "(II)B"⟩
theorem wXS_byteAt : Cond.code yXS_byteAt cXS_byteAt 3 (some .byte) ∈ A9 := in9_4 91 rfl rfl
theorem dXS_byteAt_0 : decode cXS_byteAt 0 = .ok (.aload_n 0, 1) := by decide +kernel
theorem dXS_byteAt_1 : decode cXS_byteAt 1 = .ok (.getfield 22, 3) := by decide +kernel
theorem dXS_byteAt_4 : decode cXS_byteAt 4 = .ok (.iload_n 1, 1) := by decide +kernel
theorem dXS_byteAt_5 : decode cXS_byteAt 5 = .ok (.bipush 120, 2) := by decide +kernel
theorem dXS_byteAt_7 : decode cXS_byteAt 7 = .ok (.imul, 1) := by decide +kernel
theorem dXS_byteAt_8 : decode cXS_byteAt 8 = .ok (.iload_n 2, 1) := by decide +kernel
theorem dXS_byteAt_9 : decode cXS_byteAt 9 = .ok (.iadd, 1) := by decide +kernel
theorem dXS_byteAt_10 : decode cXS_byteAt 10 = .ok (.baload, 1) := by decide +kernel
theorem dXS_byteAt_11 : decode cXS_byteAt 11 = .ok (.ireturn, 1) := by decide +kernel
abbrev cXS_bring : ByteArray := prog_7_method_5_code
def yXS_bring : MethodName := ⟨RXS, "bring", "(II)V"⟩
theorem wXS_bring : Cond.code yXS_bring cXS_bring 4 none ∈ A9 := in9_2 219 rfl rfl
theorem dXS_bring_0 : decode cXS_bring 0 = .ok (.aload_n 0, 1) := by decide +kernel
theorem dXS_bring_1 : decode cXS_bring 1 = .ok (.getfield 9, 3) := by decide +kernel
theorem dXS_bring_4 : decode cXS_bring 4 = .ok (.iload_n 1, 1) := by decide +kernel
theorem dXS_bring_5 : decode cXS_bring 5 = .ok (.iconst 1, 1) := by decide +kernel
theorem dXS_bring_6 : decode cXS_bring 6 = .ok (.bastore, 1) := by decide +kernel
theorem dXS_bring_7 : decode cXS_bring 7 = .ok (.aload_n 0, 1) := by decide +kernel
theorem dXS_bring_8 : decode cXS_bring 8 = .ok (.getfield 15, 3) := by decide +kernel
theorem dXS_bring_11 : decode cXS_bring 11 = .ok (.iload_n 1, 1) := by decide +kernel
theorem dXS_bring_12 : decode cXS_bring 12 = .ok (.iconst 0, 1) := by decide +kernel
theorem dXS_bring_13 : decode cXS_bring 13 = .ok (.bastore, 1) := by decide +kernel
theorem dXS_bring_14 : decode cXS_bring 14 = .ok (.aload_n 0, 1) := by decide +kernel
theorem dXS_bring_15 : decode cXS_bring 15 = .ok (.getfield 26, 3) := by decide +kernel
theorem dXS_bring_18 : decode cXS_bring 18 = .ok (.iload_n 1, 1) := by decide +kernel
theorem dXS_bring_19 : decode cXS_bring 19 = .ok (.iconst 1, 1) := by decide +kernel
theorem dXS_bring_20 : decode cXS_bring 20 = .ok (.bastore, 1) := by decide +kernel
theorem dXS_bring_21 : decode cXS_bring 21 = .ok (.aload_n 0, 1) := by decide +kernel
theorem dXS_bring_22 : decode cXS_bring 22 = .ok (.getfield 18, 3) := by decide +kernel
theorem dXS_bring_25 : decode cXS_bring 25 = .ok (.iload_n 1, 1) := by decide +kernel
theorem dXS_bring_26 : decode cXS_bring 26 = .ok (.iload_n 2, 1) := by decide +kernel
theorem dXS_bring_27 : decode cXS_bring 27 = .ok (.iastore, 1) := by decide +kernel
theorem dXS_bring_28 : decode cXS_bring 28 = .ok (.iload_n 1, 1) := by decide +kernel
theorem dXS_bring_29 : decode cXS_bring 29 = .ok (.bipush 120, 2) := by decide +kernel
theorem dXS_bring_31 : decode cXS_bring 31 = .ok (.imul, 1) := by decide +kernel
theorem dXS_bring_32 : decode cXS_bring 32 = .ok (.istore_n 3, 1) := by decide +kernel
theorem dXS_bring_33 : decode cXS_bring 33 = .ok (.aload_n 0, 1) := by decide +kernel
theorem dXS_bring_34 : decode cXS_bring 34 = .ok (.getfield 22, 3) := by decide +kernel
theorem dXS_bring_37 : decode cXS_bring 37 = .ok (.iload_n 3, 1) := by decide +kernel
theorem dXS_bring_38 : decode cXS_bring 38 = .ok (.iload_n 3, 1) := by decide +kernel
theorem dXS_bring_39 : decode cXS_bring 39 = .ok (.iload_n 2, 1) := by decide +kernel
theorem dXS_bring_40 : decode cXS_bring 40 = .ok (.iadd, 1) := by decide +kernel
theorem dXS_bring_41 : decode cXS_bring 41 = .ok (.iconst 0, 1) := by decide +kernel
theorem dXS_bring_42 : decode cXS_bring 42 = .ok (.invokestatic 39, 3) := by decide +kernel
theorem dXS_bring_45 : decode cXS_bring 45 = .ok (.return_, 1) := by decide +kernel
abbrev cXS_isChanged : ByteArray := prog_7_method_7_code
def yXS_isChanged : MethodName := ⟨RXS, "isChanged", "(I)Z"⟩
theorem wXS_isChanged : Cond.code yXS_isChanged cXS_isChanged 2 (some .boolean) ∈ A9 := in9_2 118 rfl rfl
theorem dXS_isChanged_0 : decode cXS_isChanged 0 = .ok (.aload_n 0, 1) := by decide +kernel
theorem dXS_isChanged_1 : decode cXS_isChanged 1 = .ok (.getfield 9, 3) := by decide +kernel
theorem dXS_isChanged_4 : decode cXS_isChanged 4 = .ok (.iload_n 1, 1) := by decide +kernel
theorem dXS_isChanged_5 : decode cXS_isChanged 5 = .ok (.baload, 1) := by decide +kernel
theorem dXS_isChanged_6 : decode cXS_isChanged 6 = .ok (.ifCond .eq 12, 3) := by decide +kernel
theorem dXS_isChanged_9 : decode cXS_isChanged 9 = .ok (.aload_n 0, 1) := by decide +kernel
theorem dXS_isChanged_10 : decode cXS_isChanged 10 = .ok (.getfield 26, 3) := by decide +kernel
theorem dXS_isChanged_13 : decode cXS_isChanged 13 = .ok (.iload_n 1, 1) := by decide +kernel
theorem dXS_isChanged_14 : decode cXS_isChanged 14 = .ok (.baload, 1) := by decide +kernel
theorem dXS_isChanged_15 : decode cXS_isChanged 15 = .ok (.goto 9, 3) := by decide +kernel
theorem dXS_isChanged_18 : decode cXS_isChanged 18 = .ok (.aload_n 0, 1) := by decide +kernel
theorem dXS_isChanged_19 : decode cXS_isChanged 19 = .ok (.getfield 29, 3) := by decide +kernel
theorem dXS_isChanged_22 : decode cXS_isChanged 22 = .ok (.iload_n 1, 1) := by decide +kernel
theorem dXS_isChanged_23 : decode cXS_isChanged 23 = .ok (.baload, 1) := by decide +kernel
theorem dXS_isChanged_24 : decode cXS_isChanged 24 = .ok (.ireturn, 1) := by decide +kernel
abbrev cXS_countChanged : ByteArray := prog_7_method_8_code
def yXS_countChanged : MethodName := ⟨RXS, "countChanged", "()I"⟩
theorem wXS_countChanged : Cond.code yXS_countChanged cXS_countChanged 3 (some .int) ∈ A9 := in9_2 114 rfl rfl
theorem dXS_countChanged_0 : decode cXS_countChanged 0 = .ok (.iconst 0, 1) := by decide +kernel
theorem dXS_countChanged_1 : decode cXS_countChanged 1 = .ok (.istore_n 1, 1) := by decide +kernel
theorem dXS_countChanged_2 : decode cXS_countChanged 2 = .ok (.iconst 1, 1) := by decide +kernel
theorem dXS_countChanged_3 : decode cXS_countChanged 3 = .ok (.istore_n 2, 1) := by decide +kernel
theorem dXS_countChanged_4 : decode cXS_countChanged 4 = .ok (.iload_n 2, 1) := by decide +kernel
theorem dXS_countChanged_5 : decode cXS_countChanged 5 = .ok (.bipush 40, 2) := by decide +kernel
theorem dXS_countChanged_7 : decode cXS_countChanged 7 = .ok (.if_icmp .gt 20, 3) := by decide +kernel
theorem dXS_countChanged_10 : decode cXS_countChanged 10 = .ok (.aload_n 0, 1) := by decide +kernel
theorem dXS_countChanged_11 : decode cXS_countChanged 11 = .ok (.iload_n 2, 1) := by decide +kernel
theorem dXS_countChanged_12 : decode cXS_countChanged 12 = .ok (.invokevirtual 45, 3) := by decide +kernel
theorem dXS_countChanged_15 : decode cXS_countChanged 15 = .ok (.ifCond .eq 6, 3) := by decide +kernel
theorem dXS_countChanged_18 : decode cXS_countChanged 18 = .ok (.iinc 1 1, 3) := by decide +kernel
theorem dXS_countChanged_21 : decode cXS_countChanged 21 = .ok (.iinc 2 1, 3) := by decide +kernel
theorem dXS_countChanged_24 : decode cXS_countChanged 24 = .ok (.goto (-20), 3) := by decide +kernel
theorem dXS_countChanged_27 : decode cXS_countChanged 27 = .ok (.iload_n 1, 1) := by decide +kernel
theorem dXS_countChanged_28 : decode cXS_countChanged 28 = .ok (.ireturn, 1) := by decide +kernel
abbrev cXS_save : ByteArray := prog_7_method_10_code
def yXS_save : MethodName := ⟨RXS, "save", "()V"⟩
theorem wXS_save : Cond.code yXS_save cXS_save 2 none ∈ A9 := in9_2 102 rfl rfl
theorem dXS_save_0 : decode cXS_save 0 = .ok (.iconst 1, 1) := by decide +kernel
theorem dXS_save_1 : decode cXS_save 1 = .ok (.istore_n 1, 1) := by decide +kernel
theorem dXS_save_2 : decode cXS_save 2 = .ok (.iload_n 1, 1) := by decide +kernel
theorem dXS_save_3 : decode cXS_save 3 = .ok (.bipush 40, 2) := by decide +kernel
theorem dXS_save_5 : decode cXS_save 5 = .ok (.if_icmp .gt 28, 3) := by decide +kernel
theorem dXS_save_8 : decode cXS_save 8 = .ok (.aload_n 0, 1) := by decide +kernel
theorem dXS_save_9 : decode cXS_save 9 = .ok (.getfield 26, 3) := by decide +kernel
theorem dXS_save_12 : decode cXS_save 12 = .ok (.iload_n 1, 1) := by decide +kernel
theorem dXS_save_13 : decode cXS_save 13 = .ok (.iconst 0, 1) := by decide +kernel
theorem dXS_save_14 : decode cXS_save 14 = .ok (.bastore, 1) := by decide +kernel
theorem dXS_save_15 : decode cXS_save 15 = .ok (.aload_n 0, 1) := by decide +kernel
theorem dXS_save_16 : decode cXS_save 16 = .ok (.getfield 29, 3) := by decide +kernel
theorem dXS_save_19 : decode cXS_save 19 = .ok (.iload_n 1, 1) := by decide +kernel
theorem dXS_save_20 : decode cXS_save 20 = .ok (.aload_n 0, 1) := by decide +kernel
theorem dXS_save_21 : decode cXS_save 21 = .ok (.getfield 9, 3) := by decide +kernel
theorem dXS_save_24 : decode cXS_save 24 = .ok (.iload_n 1, 1) := by decide +kernel
theorem dXS_save_25 : decode cXS_save 25 = .ok (.baload, 1) := by decide +kernel
theorem dXS_save_26 : decode cXS_save 26 = .ok (.bastore, 1) := by decide +kernel
theorem dXS_save_27 : decode cXS_save 27 = .ok (.iinc 1 1, 3) := by decide +kernel
theorem dXS_save_30 : decode cXS_save 30 = .ok (.goto (-28), 3) := by decide +kernel
theorem dXS_save_33 : decode cXS_save 33 = .ok (.return_, 1) := by decide +kernel
abbrev cXS_load : ByteArray := prog_7_method_11_code
def yXS_load : MethodName := ⟨RXS, "load", "(LRevisionWrite$FileBytes;LRevisionWrite$Table;)V"⟩
theorem wXS_load : Cond.code yXS_load cXS_load 4 none ∈ A9 := in9_2 86 rfl rfl
theorem dXS_load_0 : decode cXS_load 0 = .ok (.iconst 1, 1) := by decide +kernel
theorem dXS_load_1 : decode cXS_load 1 = .ok (.istore_n 3, 1) := by decide +kernel
theorem dXS_load_2 : decode cXS_load 2 = .ok (.iload_n 3, 1) := by decide +kernel
theorem dXS_load_3 : decode cXS_load 3 = .ok (.bipush 40, 2) := by decide +kernel
theorem dXS_load_5 : decode cXS_load 5 = .ok (.if_icmp .gt 53, 3) := by decide +kernel
theorem dXS_load_8 : decode cXS_load 8 = .ok (.aload_n 0, 1) := by decide +kernel
theorem dXS_load_9 : decode cXS_load 9 = .ok (.getfield 9, 3) := by decide +kernel
theorem dXS_load_12 : decode cXS_load 12 = .ok (.iload_n 3, 1) := by decide +kernel
theorem dXS_load_13 : decode cXS_load 13 = .ok (.aload_n 2, 1) := by decide +kernel
theorem dXS_load_14 : decode cXS_load 14 = .ok (.getfield 48, 3) := by decide +kernel
theorem lXS_48 : Cond.fieldLink RXS 48 "RevisionWrite$Table" "places" "[I" ∈ A9 := in9_1 108 (by decide +kernel) rfl
theorem dXS_load_17 : decode cXS_load 17 = .ok (.iload_n 3, 1) := by decide +kernel
theorem dXS_load_18 : decode cXS_load 18 = .ok (.iaload, 1) := by decide +kernel
theorem dXS_load_19 : decode cXS_load 19 = .ok (.iconst (-1), 1) := by decide +kernel
theorem dXS_load_20 : decode cXS_load 20 = .ok (.if_icmp .eq 7, 3) := by decide +kernel
theorem dXS_load_23 : decode cXS_load 23 = .ok (.iconst 1, 1) := by decide +kernel
theorem dXS_load_24 : decode cXS_load 24 = .ok (.goto 4, 3) := by decide +kernel
theorem dXS_load_27 : decode cXS_load 27 = .ok (.iconst 0, 1) := by decide +kernel
theorem dXS_load_28 : decode cXS_load 28 = .ok (.bastore, 1) := by decide +kernel
theorem dXS_load_29 : decode cXS_load 29 = .ok (.aload_n 0, 1) := by decide +kernel
theorem dXS_load_30 : decode cXS_load 30 = .ok (.getfield 15, 3) := by decide +kernel
theorem dXS_load_33 : decode cXS_load 33 = .ok (.iload_n 3, 1) := by decide +kernel
theorem dXS_load_34 : decode cXS_load 34 = .ok (.iconst 0, 1) := by decide +kernel
theorem dXS_load_35 : decode cXS_load 35 = .ok (.bastore, 1) := by decide +kernel
theorem dXS_load_36 : decode cXS_load 36 = .ok (.aload_n 0, 1) := by decide +kernel
theorem dXS_load_37 : decode cXS_load 37 = .ok (.getfield 9, 3) := by decide +kernel
theorem dXS_load_40 : decode cXS_load 40 = .ok (.iload_n 3, 1) := by decide +kernel
theorem dXS_load_41 : decode cXS_load 41 = .ok (.baload, 1) := by decide +kernel
theorem dXS_load_42 : decode cXS_load 42 = .ok (.ifCond .eq 10, 3) := by decide +kernel
theorem dXS_load_45 : decode cXS_load 45 = .ok (.aload_n 0, 1) := by decide +kernel
theorem dXS_load_46 : decode cXS_load 46 = .ok (.iload_n 3, 1) := by decide +kernel
theorem dXS_load_47 : decode cXS_load 47 = .ok (.aload_n 1, 1) := by decide +kernel
theorem dXS_load_48 : decode cXS_load 48 = .ok (.aload_n 2, 1) := by decide +kernel
theorem dXS_load_49 : decode cXS_load 49 = .ok (.invokevirtual 53, 3) := by decide +kernel
theorem dXS_load_52 : decode cXS_load 52 = .ok (.iinc 3 1, 3) := by decide +kernel
theorem dXS_load_55 : decode cXS_load 55 = .ok (.goto (-53), 3) := by decide +kernel
theorem dXS_load_58 : decode cXS_load 58 = .ok (.aload_n 0, 1) := by decide +kernel
theorem dXS_load_59 : decode cXS_load 59 = .ok (.invokevirtual 57, 3) := by decide +kernel
theorem dXS_load_62 : decode cXS_load 62 = .ok (.return_, 1) := by decide +kernel
abbrev cXS_loadBytes : ByteArray := prog_7_method_12_code
def yXS_loadBytes : MethodName := ⟨RXS, "loadBytes", "(ILRevisionWrite$FileBytes;LRevisionWrite$Table;)V"⟩
theorem wXS_loadBytes : Cond.code yXS_loadBytes cXS_loadBytes 7 none ∈ A9 := in9_2 90 rfl rfl
theorem dXS_loadBytes_0 : decode cXS_loadBytes 0 = .ok (.aload_n 3, 1) := by decide +kernel
theorem dXS_loadBytes_1 : decode cXS_loadBytes 1 = .ok (.getfield 60, 3) := by decide +kernel
theorem lXS_60 : Cond.fieldLink RXS 60 "RevisionWrite$Table" "lengths" "[I" ∈ A9 := in9_1 114 (by decide +kernel) rfl
theorem dXS_loadBytes_4 : decode cXS_loadBytes 4 = .ok (.iload_n 1, 1) := by decide +kernel
theorem dXS_loadBytes_5 : decode cXS_loadBytes 5 = .ok (.iaload, 1) := by decide +kernel
theorem dXS_loadBytes_6 : decode cXS_loadBytes 6 = .ok (.istore 4, 2) := by decide +kernel
theorem dXS_loadBytes_8 : decode cXS_loadBytes 8 = .ok (.aload_n 3, 1) := by decide +kernel
theorem dXS_loadBytes_9 : decode cXS_loadBytes 9 = .ok (.iload_n 1, 1) := by decide +kernel
theorem dXS_loadBytes_10 : decode cXS_loadBytes 10 = .ok (.invokevirtual 61, 3) := by decide +kernel
theorem dXS_loadBytes_13 : decode cXS_loadBytes 13 = .ok (.istore 5, 2) := by decide +kernel
theorem dXS_loadBytes_15 : decode cXS_loadBytes 15 = .ok (.aload_n 0, 1) := by decide +kernel
theorem dXS_loadBytes_16 : decode cXS_loadBytes 16 = .ok (.getfield 18, 3) := by decide +kernel
theorem dXS_loadBytes_19 : decode cXS_loadBytes 19 = .ok (.iload_n 1, 1) := by decide +kernel
theorem dXS_loadBytes_20 : decode cXS_loadBytes 20 = .ok (.iload 4, 2) := by decide +kernel
theorem dXS_loadBytes_22 : decode cXS_loadBytes 22 = .ok (.iastore, 1) := by decide +kernel
theorem dXS_loadBytes_23 : decode cXS_loadBytes 23 = .ok (.iconst 0, 1) := by decide +kernel
theorem dXS_loadBytes_24 : decode cXS_loadBytes 24 = .ok (.istore 6, 2) := by decide +kernel
theorem dXS_loadBytes_26 : decode cXS_loadBytes 26 = .ok (.iload 6, 2) := by decide +kernel
theorem dXS_loadBytes_28 : decode cXS_loadBytes 28 = .ok (.iload 4, 2) := by decide +kernel
theorem dXS_loadBytes_30 : decode cXS_loadBytes 30 = .ok (.if_icmp .ge 31, 3) := by decide +kernel
theorem dXS_loadBytes_33 : decode cXS_loadBytes 33 = .ok (.aload_n 0, 1) := by decide +kernel
theorem dXS_loadBytes_34 : decode cXS_loadBytes 34 = .ok (.getfield 22, 3) := by decide +kernel
theorem dXS_loadBytes_37 : decode cXS_loadBytes 37 = .ok (.iload_n 1, 1) := by decide +kernel
theorem dXS_loadBytes_38 : decode cXS_loadBytes 38 = .ok (.bipush 120, 2) := by decide +kernel
theorem dXS_loadBytes_40 : decode cXS_loadBytes 40 = .ok (.imul, 1) := by decide +kernel
theorem dXS_loadBytes_41 : decode cXS_loadBytes 41 = .ok (.iload 6, 2) := by decide +kernel
theorem dXS_loadBytes_43 : decode cXS_loadBytes 43 = .ok (.iadd, 1) := by decide +kernel
theorem dXS_loadBytes_44 : decode cXS_loadBytes 44 = .ok (.aload_n 2, 1) := by decide +kernel
theorem dXS_loadBytes_45 : decode cXS_loadBytes 45 = .ok (.iload 5, 2) := by decide +kernel
theorem dXS_loadBytes_47 : decode cXS_loadBytes 47 = .ok (.iload 6, 2) := by decide +kernel
theorem dXS_loadBytes_49 : decode cXS_loadBytes 49 = .ok (.iadd, 1) := by decide +kernel
theorem dXS_loadBytes_50 : decode cXS_loadBytes 50 = .ok (.invokevirtual 65, 3) := by decide +kernel
theorem dXS_loadBytes_53 : decode cXS_loadBytes 53 = .ok (.i2b, 1) := by decide +kernel
theorem dXS_loadBytes_54 : decode cXS_loadBytes 54 = .ok (.bastore, 1) := by decide +kernel
theorem dXS_loadBytes_55 : decode cXS_loadBytes 55 = .ok (.iinc 6 1, 3) := by decide +kernel
theorem dXS_loadBytes_58 : decode cXS_loadBytes 58 = .ok (.goto (-32), 3) := by decide +kernel
theorem dXS_loadBytes_61 : decode cXS_loadBytes 61 = .ok (.return_, 1) := by decide +kernel
def RXF : String := "RevisionWrite$FileBytes"
abbrev cXF_init : ByteArray := prog_4_method_1_code
def yXF_init : MethodName := ⟨RXF, "<init>", "()V"⟩
theorem wXF_init : Cond.code yXF_init cXF_init 1 none ∈ A9 := in9_1 75 rfl rfl
theorem dXF_init_0 : decode cXF_init 0 = .ok (.aload_n 0, 1) := by decide +kernel
theorem dXF_init_1 : decode cXF_init 1 = .ok (.invokespecial 3, 3) := by decide +kernel
theorem dXF_init_4 : decode cXF_init 4 = .ok (.aload_n 0, 1) := by decide +kernel
theorem dXF_init_5 : decode cXF_init 5 = .ok (.sipush 12000, 3) := by decide +kernel
theorem dXF_init_8 : decode cXF_init 8 = .ok (.newarray .byte, 2) := by decide +kernel
theorem dXF_init_10 : decode cXF_init 10 = .ok (.putfield 9, 3) := by decide +kernel
theorem lXF_9 : Cond.fieldLink RXF 9 "RevisionWrite$FileBytes" "bytes" "[B" ∈ A9 := in9_1 77 (by decide +kernel) rfl
theorem dXF_init_13 : decode cXF_init 13 = .ok (.return_, 1) := by decide +kernel
abbrev cXF_has : ByteArray := prog_4_method_2_code
def yXF_has : MethodName := ⟨RXF, "has", "(I)Z"⟩
theorem wXF_has : Cond.code yXF_has cXF_has 2 (some .boolean) ∈ A9 := in9_4 174 rfl rfl
theorem dXF_has_0 : decode cXF_has 0 = .ok (.iload_n 1, 1) := by decide +kernel
theorem dXF_has_1 : decode cXF_has 1 = .ok (.ifCond .lt 15, 3) := by decide +kernel
theorem dXF_has_4 : decode cXF_has 4 = .ok (.iload_n 1, 1) := by decide +kernel
theorem dXF_has_5 : decode cXF_has 5 = .ok (.aload_n 0, 1) := by decide +kernel
theorem dXF_has_6 : decode cXF_has 6 = .ok (.getfield 15, 3) := by decide +kernel
