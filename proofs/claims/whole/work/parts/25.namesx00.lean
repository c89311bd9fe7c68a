def RXA : String := "RevisionWrite"
abbrev cXA_init : ByteArray := prog_1_method_1_code
def yXA_init : MethodName := ⟨RXA, "<init>", "()V"⟩
theorem wXA_init : Cond.code yXA_init cXA_init 1 none ∈ A9 := in9_1 33 rfl rfl
theorem dXA_init_0 : decode cXA_init 0 = .ok (.aload_n 0, 1) := by decide +kernel
theorem dXA_init_1 : decode cXA_init 1 = .ok (.invokespecial 1, 3) := by decide +kernel
theorem dXA_init_4 : decode cXA_init 4 = .ok (.aload_n 0, 1) := by decide +kernel
theorem dXA_init_5 : decode cXA_init 5 = .ok (.new 7, 3) := by decide +kernel
theorem dXA_init_8 : decode cXA_init 8 = .ok (.dup, 1) := by decide +kernel
theorem dXA_init_9 : decode cXA_init 9 = .ok (.invokespecial 9, 3) := by decide +kernel
theorem dXA_init_12 : decode cXA_init 12 = .ok (.putfield 10, 3) := by decide +kernel
theorem lXA_10 : Cond.fieldLink RXA 10 "RevisionWrite" "shelf" "LRevisionWrite$Shelf;" ∈ A9 := in9_1 220 (by decide +kernel) rfl
theorem dXA_init_15 : decode cXA_init 15 = .ok (.aload_n 0, 1) := by decide +kernel
theorem dXA_init_16 : decode cXA_init 16 = .ok (.new 16, 3) := by decide +kernel
theorem dXA_init_19 : decode cXA_init 19 = .ok (.dup, 1) := by decide +kernel
theorem dXA_init_20 : decode cXA_init 20 = .ok (.invokespecial 18, 3) := by decide +kernel
theorem dXA_init_23 : decode cXA_init 23 = .ok (.putfield 19, 3) := by decide +kernel
theorem lXA_19 : Cond.fieldLink RXA 19 "RevisionWrite" "file" "LRevisionWrite$FileBytes;" ∈ A9 := in9_1 221 (by decide +kernel) rfl
theorem dXA_init_26 : decode cXA_init 26 = .ok (.aload_n 0, 1) := by decide +kernel
theorem dXA_init_27 : decode cXA_init 27 = .ok (.new 23, 3) := by decide +kernel
theorem dXA_init_30 : decode cXA_init 30 = .ok (.dup, 1) := by decide +kernel
theorem dXA_init_31 : decode cXA_init 31 = .ok (.invokespecial 25, 3) := by decide +kernel
theorem dXA_init_34 : decode cXA_init 34 = .ok (.putfield 26, 3) := by decide +kernel
theorem lXA_26 : Cond.fieldLink RXA 26 "RevisionWrite" "history" "LRevisionWrite$History;" ∈ A9 := in9_1 222 (by decide +kernel) rfl
theorem dXA_init_37 : decode cXA_init 37 = .ok (.aload_n 0, 1) := by decide +kernel
theorem dXA_init_38 : decode cXA_init 38 = .ok (.new 30, 3) := by decide +kernel
theorem dXA_init_41 : decode cXA_init 41 = .ok (.dup, 1) := by decide +kernel
theorem dXA_init_42 : decode cXA_init 42 = .ok (.aload_n 0, 1) := by decide +kernel
theorem dXA_init_43 : decode cXA_init 43 = .ok (.getfield 19, 3) := by decide +kernel
theorem dXA_init_46 : decode cXA_init 46 = .ok (.invokespecial 32, 3) := by decide +kernel
theorem dXA_init_49 : decode cXA_init 49 = .ok (.putfield 35, 3) := by decide +kernel
theorem lXA_35 : Cond.fieldLink RXA 35 "RevisionWrite" "scan" "LRevisionWrite$Scan;" ∈ A9 := in9_1 223 (by decide +kernel) rfl
theorem dXA_init_52 : decode cXA_init 52 = .ok (.aload_n 0, 1) := by decide +kernel
theorem dXA_init_53 : decode cXA_init 53 = .ok (.new 39, 3) := by decide +kernel
theorem dXA_init_56 : decode cXA_init 56 = .ok (.dup, 1) := by decide +kernel
theorem dXA_init_57 : decode cXA_init 57 = .ok (.aload_n 0, 1) := by decide +kernel
theorem dXA_init_58 : decode cXA_init 58 = .ok (.getfield 10, 3) := by decide +kernel
theorem dXA_init_61 : decode cXA_init 61 = .ok (.invokespecial 41, 3) := by decide +kernel
theorem dXA_init_64 : decode cXA_init 64 = .ok (.putfield 44, 3) := by decide +kernel
theorem lXA_44 : Cond.fieldLink RXA 44 "RevisionWrite" "draft" "LRevisionWrite$Draft;" ∈ A9 := in9_1 224 (by decide +kernel) rfl
theorem dXA_init_67 : decode cXA_init 67 = .ok (.aload_n 0, 1) := by decide +kernel
theorem dXA_init_68 : decode cXA_init 68 = .ok (.new 48, 3) := by decide +kernel
theorem dXA_init_71 : decode cXA_init 71 = .ok (.dup, 1) := by decide +kernel
theorem dXA_init_72 : decode cXA_init 72 = .ok (.invokespecial 50, 3) := by decide +kernel
theorem dXA_init_75 : decode cXA_init 75 = .ok (.putfield 51, 3) := by decide +kernel
theorem lXA_51 : Cond.fieldLink RXA 51 "RevisionWrite" "differences" "LRevisionWrite$Differences;" ∈ A9 := in9_1 225 (by decide +kernel) rfl
theorem dXA_init_78 : decode cXA_init 78 = .ok (.return_, 1) := by decide +kernel
abbrev cXA_object : ByteArray := prog_1_method_2_code
def yXA_object : MethodName := ⟨RXA, "object", "(II)V"⟩
theorem wXA_object : Cond.code yXA_object cXA_object 3 none ∈ A9 := in9_2 127 rfl rfl
theorem dXA_object_0 : decode cXA_object 0 = .ok (.iload_n 1, 1) := by decide +kernel
theorem dXA_object_1 : decode cXA_object 1 = .ok (.invokestatic 55, 3) := by decide +kernel
theorem dXA_object_4 : decode cXA_object 4 = .ok (.ifCond .ne 13, 3) := by decide +kernel
theorem dXA_object_7 : decode cXA_object 7 = .ok (.new 59, 3) := by decide +kernel
theorem dXA_object_10 : decode cXA_object 10 = .ok (.dup, 1) := by decide +kernel
theorem dXA_object_11 : decode cXA_object 11 = .ok (.ldc 61, 2) := by decide +kernel
theorem dXA_object_13 : decode cXA_object 13 = .ok (.invokespecial 63, 3) := by decide +kernel
theorem dXA_object_16 : decode cXA_object 16 = .ok (.athrow, 1) := by decide +kernel
theorem dXA_object_17 : decode cXA_object 17 = .ok (.iload_n 2, 1) := by decide +kernel
theorem dXA_object_18 : decode cXA_object 18 = .ok (.ifCond .lt 9, 3) := by decide +kernel
theorem dXA_object_21 : decode cXA_object 21 = .ok (.iload_n 2, 1) := by decide +kernel
theorem dXA_object_22 : decode cXA_object 22 = .ok (.bipush 120, 2) := by decide +kernel
theorem dXA_object_24 : decode cXA_object 24 = .ok (.if_icmp .le 13, 3) := by decide +kernel
theorem dXA_object_27 : decode cXA_object 27 = .ok (.new 66, 3) := by decide +kernel
theorem dXA_object_30 : decode cXA_object 30 = .ok (.dup, 1) := by decide +kernel
theorem dXA_object_31 : decode cXA_object 31 = .ok (.ldc 68, 2) := by decide +kernel
theorem dXA_object_33 : decode cXA_object 33 = .ok (.invokespecial 70, 3) := by decide +kernel
theorem dXA_object_36 : decode cXA_object 36 = .ok (.athrow, 1) := by decide +kernel
theorem dXA_object_37 : decode cXA_object 37 = .ok (.aload_n 0, 1) := by decide +kernel
theorem dXA_object_38 : decode cXA_object 38 = .ok (.getfield 10, 3) := by decide +kernel
theorem dXA_object_41 : decode cXA_object 41 = .ok (.iload_n 1, 1) := by decide +kernel
theorem dXA_object_42 : decode cXA_object 42 = .ok (.iload_n 2, 1) := by decide +kernel
theorem dXA_object_43 : decode cXA_object 43 = .ok (.invokevirtual 71, 3) := by decide +kernel
theorem dXA_object_46 : decode cXA_object 46 = .ok (.return_, 1) := by decide +kernel
abbrev cXA_write : ByteArray := prog_1_method_6_code
def yXA_write : MethodName := ⟨RXA, "write", "(I)I"⟩
theorem wXA_write : Cond.code yXA_write cXA_write 2 (some .int) ∈ A9 := in9_4 48 rfl rfl
theorem dXA_write_0 : decode cXA_write 0 = .ok (.iload_n 1, 1) := by decide +kernel
theorem dXA_write_1 : decode cXA_write 1 = .ok (.ifCond .lt 8, 3) := by decide +kernel
theorem dXA_write_4 : decode cXA_write 4 = .ok (.iload_n 1, 1) := by decide +kernel
theorem dXA_write_5 : decode cXA_write 5 = .ok (.iconst 2, 1) := by decide +kernel
theorem dXA_write_6 : decode cXA_write 6 = .ok (.if_icmp .le 13, 3) := by decide +kernel
theorem dXA_write_9 : decode cXA_write 9 = .ok (.new 66, 3) := by decide +kernel
theorem dXA_write_12 : decode cXA_write 12 = .ok (.dup, 1) := by decide +kernel
theorem dXA_write_13 : decode cXA_write 13 = .ok (.ldc 95, 2) := by decide +kernel
theorem dXA_write_15 : decode cXA_write 15 = .ok (.invokespecial 70, 3) := by decide +kernel
theorem dXA_write_18 : decode cXA_write 18 = .ok (.athrow, 1) := by decide +kernel
theorem dXA_write_19 : decode cXA_write 19 = .ok (.aload_n 0, 1) := by decide +kernel
theorem dXA_write_20 : decode cXA_write 20 = .ok (.getfield 44, 3) := by decide +kernel
theorem dXA_write_23 : decode cXA_write 23 = .ok (.iconst 0, 1) := by decide +kernel
theorem dXA_write_24 : decode cXA_write 24 = .ok (.invokevirtual 97, 3) := by decide +kernel
theorem dXA_write_27 : decode cXA_write 27 = .ok (.aload_n 0, 1) := by decide +kernel
theorem dXA_write_28 : decode cXA_write 28 = .ok (.getfield 44, 3) := by decide +kernel
theorem dXA_write_31 : decode cXA_write 31 = .ok (.invokevirtual 101, 3) := by decide +kernel
theorem dXA_write_34 : decode cXA_write 34 = .ok (.aload_n 0, 1) := by decide +kernel
theorem dXA_write_35 : decode cXA_write 35 = .ok (.getfield 44, 3) := by decide +kernel
theorem dXA_write_38 : decode cXA_write 38 = .ok (.iload_n 1, 1) := by decide +kernel
theorem dXA_write_39 : decode cXA_write 39 = .ok (.invokevirtual 104, 3) := by decide +kernel
theorem dXA_write_42 : decode cXA_write 42 = .ok (.aload_n 0, 1) := by decide +kernel
theorem dXA_write_43 : decode cXA_write 43 = .ok (.getfield 44, 3) := by decide +kernel
theorem dXA_write_46 : decode cXA_write 46 = .ok (.iconst 0, 1) := by decide +kernel
theorem dXA_write_47 : decode cXA_write 47 = .ok (.invokevirtual 107, 3) := by decide +kernel
theorem dXA_write_50 : decode cXA_write 50 = .ok (.aload_n 0, 1) := by decide +kernel
theorem dXA_write_51 : decode cXA_write 51 = .ok (.getfield 44, 3) := by decide +kernel
theorem dXA_write_54 : decode cXA_write 54 = .ok (.getfield 110, 3) := by decide +kernel
theorem lXA_110 : Cond.fieldLink RXA 110 "RevisionWrite$Draft" "part" "LRevisionWrite$Table;" ∈ A9 := in9_1 180 (by decide +kernel) rfl
theorem dXA_write_57 : decode cXA_write 57 = .ok (.getfield 114, 3) := by decide +kernel
theorem lXA_114 : Cond.fieldLink RXA 114 "RevisionWrite$Table" "end" "I" ∈ A9 := in9_1 120 (by decide +kernel) rfl
theorem dXA_write_60 : decode cXA_write 60 = .ok (.sipush 12000, 3) := by decide +kernel
theorem dXA_write_63 : decode cXA_write 63 = .ok (.if_icmp .le 13, 3) := by decide +kernel
theorem dXA_write_76 : decode cXA_write 76 = .ok (.aload_n 0, 1) := by decide +kernel
theorem dXA_write_77 : decode cXA_write 77 = .ok (.getfield 26, 3) := by decide +kernel
theorem dXA_write_80 : decode cXA_write 80 = .ok (.iconst 0, 1) := by decide +kernel
theorem dXA_write_81 : decode cXA_write 81 = .ok (.putfield 125, 3) := by decide +kernel
theorem lXA_125 : Cond.fieldLink RXA 125 "RevisionWrite$History" "count" "I" ∈ A9 := in9_1 135 (by decide +kernel) rfl
theorem dXA_write_84 : decode cXA_write 84 = .ok (.aload_n 0, 1) := by decide +kernel
theorem dXA_write_85 : decode cXA_write 85 = .ok (.invokevirtual 128, 3) := by decide +kernel
theorem dXA_write_88 : decode cXA_write 88 = .ok (.aload_n 0, 1) := by decide +kernel
theorem dXA_write_89 : decode cXA_write 89 = .ok (.getfield 19, 3) := by decide +kernel
theorem dXA_write_92 : decode cXA_write 92 = .ok (.getfield 131, 3) := by decide +kernel
theorem lXA_131 : Cond.fieldLink RXA 131 "RevisionWrite$FileBytes" "count" "I" ∈ A9 := in9_1 82 (by decide +kernel) rfl
theorem dXA_write_95 : decode cXA_write 95 = .ok (.ireturn, 1) := by decide +kernel
abbrev cXA_append : ByteArray := prog_1_method_7_code
def yXA_append : MethodName := ⟨RXA, "append", "()I"⟩
theorem wXA_append : Cond.code yXA_append cXA_append 1 (some .int) ∈ A9 := in9_4 137 rfl rfl
theorem dXA_append_0 : decode cXA_append 0 = .ok (.aload_n 0, 1) := by decide +kernel
theorem dXA_append_1 : decode cXA_append 1 = .ok (.getfield 19, 3) := by decide +kernel
theorem dXA_append_4 : decode cXA_append 4 = .ok (.getfield 131, 3) := by decide +kernel
theorem dXA_append_7 : decode cXA_append 7 = .ok (.ifCond .eq 13, 3) := by decide +kernel
theorem dXA_append_10 : decode cXA_append 10 = .ok (.aload_n 0, 1) := by decide +kernel
theorem dXA_append_11 : decode cXA_append 11 = .ok (.getfield 19, 3) := by decide +kernel
theorem dXA_append_14 : decode cXA_append 14 = .ok (.getfield 132, 3) := by decide +kernel
theorem lXA_132 : Cond.fieldLink RXA 132 "RevisionWrite$FileBytes" "altered" "Z" ∈ A9 := in9_1 83 (by decide +kernel) rfl
theorem dXA_append_17 : decode cXA_append 17 = .ok (.ifCond .eq 13, 3) := by decide +kernel
theorem dXA_append_20 : decode cXA_append 20 = .ok (.new 136, 3) := by decide +kernel
theorem dXA_append_23 : decode cXA_append 23 = .ok (.dup, 1) := by decide +kernel
theorem dXA_append_24 : decode cXA_append 24 = .ok (.ldc 138, 2) := by decide +kernel
theorem dXA_append_26 : decode cXA_append 26 = .ok (.invokespecial 140, 3) := by decide +kernel
theorem dXA_append_29 : decode cXA_append 29 = .ok (.athrow, 1) := by decide +kernel
theorem dXA_append_30 : decode cXA_append 30 = .ok (.aload_n 0, 1) := by decide +kernel
theorem dXA_append_31 : decode cXA_append 31 = .ok (.getfield 10, 3) := by decide +kernel
theorem dXA_append_34 : decode cXA_append 34 = .ok (.invokevirtual 141, 3) := by decide +kernel
theorem dXA_append_37 : decode cXA_append 37 = .ok (.ifCond .ne 5, 3) := by decide +kernel
theorem dXA_append_40 : decode cXA_append 40 = .ok (.iconst 0, 1) := by decide +kernel
theorem dXA_append_41 : decode cXA_append 41 = .ok (.ireturn, 1) := by decide +kernel
theorem dXA_append_42 : decode cXA_append 42 = .ok (.aload_n 0, 1) := by decide +kernel
theorem dXA_append_43 : decode cXA_append 43 = .ok (.getfield 26, 3) := by decide +kernel
theorem dXA_append_46 : decode cXA_append 46 = .ok (.getfield 125, 3) := by decide +kernel
theorem dXA_append_49 : decode cXA_append 49 = .ok (.bipush 60, 2) := by decide +kernel
theorem dXA_append_51 : decode cXA_append 51 = .ok (.if_icmp .lt 13, 3) := by decide +kernel
theorem dXA_append_54 : decode cXA_append 54 = .ok (.new 120, 3) := by decide +kernel
theorem dXA_append_57 : decode cXA_append 57 = .ok (.dup, 1) := by decide +kernel
theorem dXA_append_58 : decode cXA_append 58 = .ok (.ldc 145, 2) := by decide +kernel
theorem dXA_append_60 : decode cXA_append 60 = .ok (.invokespecial 124, 3) := by decide +kernel
theorem dXA_append_63 : decode cXA_append 63 = .ok (.athrow, 1) := by decide +kernel
theorem dXA_append_64 : decode cXA_append 64 = .ok (.aload_n 0, 1) := by decide +kernel
theorem dXA_append_65 : decode cXA_append 65 = .ok (.getfield 44, 3) := by decide +kernel
theorem dXA_append_68 : decode cXA_append 68 = .ok (.aload_n 0, 1) := by decide +kernel
theorem dXA_append_69 : decode cXA_append 69 = .ok (.getfield 19, 3) := by decide +kernel
theorem dXA_append_72 : decode cXA_append 72 = .ok (.getfield 131, 3) := by decide +kernel
theorem dXA_append_75 : decode cXA_append 75 = .ok (.invokevirtual 97, 3) := by decide +kernel
theorem dXA_append_78 : decode cXA_append 78 = .ok (.aload_n 0, 1) := by decide +kernel
theorem dXA_append_79 : decode cXA_append 79 = .ok (.getfield 44, 3) := by decide +kernel
theorem dXA_append_82 : decode cXA_append 82 = .ok (.invokevirtual 147, 3) := by decide +kernel
theorem dXA_append_85 : decode cXA_append 85 = .ok (.aload_n 0, 1) := by decide +kernel
theorem dXA_append_86 : decode cXA_append 86 = .ok (.getfield 44, 3) := by decide +kernel
theorem dXA_append_89 : decode cXA_append 89 = .ok (.aload_n 0, 1) := by decide +kernel
theorem dXA_append_90 : decode cXA_append 90 = .ok (.getfield 26, 3) := by decide +kernel
theorem dXA_append_93 : decode cXA_append 93 = .ok (.invokevirtual 150, 3) := by decide +kernel
theorem dXA_append_96 : decode cXA_append 96 = .ok (.invokevirtual 107, 3) := by decide +kernel
theorem dXA_append_99 : decode cXA_append 99 = .ok (.aload_n 0, 1) := by decide +kernel
theorem dXA_append_100 : decode cXA_append 100 = .ok (.getfield 44, 3) := by decide +kernel
theorem dXA_append_103 : decode cXA_append 103 = .ok (.getfield 110, 3) := by decide +kernel
theorem dXA_append_106 : decode cXA_append 106 = .ok (.getfield 114, 3) := by decide +kernel
theorem dXA_append_109 : decode cXA_append 109 = .ok (.sipush 12000, 3) := by decide +kernel
theorem dXA_append_112 : decode cXA_append 112 = .ok (.if_icmp .le 13, 3) := by decide +kernel
theorem dXA_append_115 : decode cXA_append 115 = .ok (.new 120, 3) := by decide +kernel
theorem dXA_append_118 : decode cXA_append 118 = .ok (.dup, 1) := by decide +kernel
theorem dXA_append_119 : decode cXA_append 119 = .ok (.ldc 122, 2) := by decide +kernel
theorem dXA_append_121 : decode cXA_append 121 = .ok (.invokespecial 124, 3) := by decide +kernel
theorem dXA_append_124 : decode cXA_append 124 = .ok (.athrow, 1) := by decide +kernel
theorem dXA_append_125 : decode cXA_append 125 = .ok (.aload_n 0, 1) := by decide +kernel
theorem dXA_append_126 : decode cXA_append 126 = .ok (.invokevirtual 128, 3) := by decide +kernel
theorem dXA_append_129 : decode cXA_append 129 = .ok (.aload_n 0, 1) := by decide +kernel
theorem dXA_append_130 : decode cXA_append 130 = .ok (.getfield 44, 3) := by decide +kernel
theorem dXA_append_133 : decode cXA_append 133 = .ok (.getfield 153, 3) := by decide +kernel
theorem lXA_153 : Cond.fieldLink RXA 153 "RevisionWrite$Draft" "used" "I" ∈ A9 := in9_1 185 (by decide +kernel) rfl
theorem dXA_append_136 : decode cXA_append 136 = .ok (.ireturn, 1) := by decide +kernel
abbrev cXA_poke : ByteArray := prog_1_method_9_code
def yXA_poke : MethodName := ⟨RXA, "poke", "(IB)B"⟩
theorem wXA_poke : Cond.code yXA_poke cXA_poke 4 (some .byte) ∈ A9 := in9_4 170 rfl rfl
theorem dXA_poke_0 : decode cXA_poke 0 = .ok (.aload_n 0, 1) := by decide +kernel
theorem dXA_poke_1 : decode cXA_poke 1 = .ok (.getfield 19, 3) := by decide +kernel
theorem dXA_poke_4 : decode cXA_poke 4 = .ok (.iload_n 1, 1) := by decide +kernel
theorem dXA_poke_5 : decode cXA_poke 5 = .ok (.invokevirtual 159, 3) := by decide +kernel
theorem dXA_poke_8 : decode cXA_poke 8 = .ok (.ifCond .ne 13, 3) := by decide +kernel
theorem dXA_poke_11 : decode cXA_poke 11 = .ok (.new 59, 3) := by decide +kernel
theorem dXA_poke_14 : decode cXA_poke 14 = .ok (.dup, 1) := by decide +kernel
theorem dXA_poke_15 : decode cXA_poke 15 = .ok (.ldc 162, 2) := by decide +kernel
theorem dXA_poke_17 : decode cXA_poke 17 = .ok (.invokespecial 63, 3) := by decide +kernel
theorem dXA_poke_20 : decode cXA_poke 20 = .ok (.athrow, 1) := by decide +kernel
theorem dXA_poke_21 : decode cXA_poke 21 = .ok (.aload_n 0, 1) := by decide +kernel
theorem dXA_poke_22 : decode cXA_poke 22 = .ok (.getfield 19, 3) := by decide +kernel
theorem dXA_poke_25 : decode cXA_poke 25 = .ok (.getfield 164, 3) := by decide +kernel
theorem lXA_164 : Cond.fieldLink RXA 164 "RevisionWrite$FileBytes" "bytes" "[B" ∈ A9 := in9_1 78 (by decide +kernel) rfl
theorem dXA_poke_28 : decode cXA_poke 28 = .ok (.iload_n 1, 1) := by decide +kernel
theorem dXA_poke_29 : decode cXA_poke 29 = .ok (.baload, 1) := by decide +kernel
theorem dXA_poke_30 : decode cXA_poke 30 = .ok (.istore_n 3, 1) := by decide +kernel
theorem dXA_poke_31 : decode cXA_poke 31 = .ok (.aload_n 0, 1) := by decide +kernel
theorem dXA_poke_32 : decode cXA_poke 32 = .ok (.getfield 19, 3) := by decide +kernel
theorem dXA_poke_35 : decode cXA_poke 35 = .ok (.getfield 164, 3) := by decide +kernel
theorem dXA_poke_38 : decode cXA_poke 38 = .ok (.iload_n 1, 1) := by decide +kernel
theorem dXA_poke_39 : decode cXA_poke 39 = .ok (.iload_n 2, 1) := by decide +kernel
theorem dXA_poke_40 : decode cXA_poke 40 = .ok (.bastore, 1) := by decide +kernel
theorem dXA_poke_41 : decode cXA_poke 41 = .ok (.aload_n 0, 1) := by decide +kernel
theorem dXA_poke_42 : decode cXA_poke 42 = .ok (.getfield 19, 3) := by decide +kernel
theorem dXA_poke_45 : decode cXA_poke 45 = .ok (.iconst 1, 1) := by decide +kernel
theorem dXA_poke_46 : decode cXA_poke 46 = .ok (.putfield 132, 3) := by decide +kernel
theorem dXA_poke_49 : decode cXA_poke 49 = .ok (.iload_n 3, 1) := by decide +kernel
theorem dXA_poke_50 : decode cXA_poke 50 = .ok (.ireturn, 1) := by decide +kernel
abbrev cXA_take : ByteArray := prog_1_method_10_code
def yXA_take : MethodName := ⟨RXA, "take", "(I)I"⟩
theorem wXA_take : Cond.code yXA_take cXA_take 2 (some .int) ∈ A9 := in9_4 182 rfl rfl
theorem dXA_take_0 : decode cXA_take 0 = .ok (.aload_n 0, 1) := by decide +kernel
theorem dXA_take_1 : decode cXA_take 1 = .ok (.getfield 26, 3) := by decide +kernel
theorem dXA_take_4 : decode cXA_take 4 = .ok (.iload_n 1, 1) := by decide +kernel
theorem dXA_take_5 : decode cXA_take 5 = .ok (.invokevirtual 168, 3) := by decide +kernel
theorem dXA_take_8 : decode cXA_take 8 = .ok (.ifCond .ne 13, 3) := by decide +kernel
theorem dXA_take_11 : decode cXA_take 11 = .ok (.new 59, 3) := by decide +kernel
theorem dXA_take_14 : decode cXA_take 14 = .ok (.dup, 1) := by decide +kernel
theorem dXA_take_15 : decode cXA_take 15 = .ok (.ldc 169, 2) := by decide +kernel
theorem dXA_take_17 : decode cXA_take 17 = .ok (.invokespecial 63, 3) := by decide +kernel
theorem dXA_take_20 : decode cXA_take 20 = .ok (.athrow, 1) := by decide +kernel
theorem dXA_take_21 : decode cXA_take 21 = .ok (.aload_n 0, 1) := by decide +kernel
theorem dXA_take_22 : decode cXA_take 22 = .ok (.getfield 19, 3) := by decide +kernel
theorem dXA_take_25 : decode cXA_take 25 = .ok (.aload_n 0, 1) := by decide +kernel
theorem dXA_take_26 : decode cXA_take 26 = .ok (.getfield 19, 3) := by decide +kernel
theorem dXA_take_29 : decode cXA_take 29 = .ok (.getfield 131, 3) := by decide +kernel
theorem dXA_take_32 : decode cXA_take 32 = .ok (.aload_n 0, 1) := by decide +kernel
theorem dXA_take_33 : decode cXA_take 33 = .ok (.getfield 26, 3) := by decide +kernel
theorem dXA_take_36 : decode cXA_take 36 = .ok (.getfield 171, 3) := by decide +kernel
theorem lXA_171 : Cond.fieldLink RXA 171 "RevisionWrite$History" "revisions" "[LRevisionWrite$Table;" ∈ A9 := in9_1 133 (by decide +kernel) rfl
theorem dXA_take_39 : decode cXA_take 39 = .ok (.iload_n 1, 1) := by decide +kernel
theorem dXA_take_40 : decode cXA_take 40 = .ok (.aaload, 1) := by decide +kernel
theorem dXA_take_41 : decode cXA_take 41 = .ok (.getfield 114, 3) := by decide +kernel
theorem dXA_take_44 : decode cXA_take 44 = .ok (.invokestatic 175, 3) := by decide +kernel
theorem dXA_take_47 : decode cXA_take 47 = .ok (.putfield 131, 3) := by decide +kernel
theorem dXA_take_50 : decode cXA_take 50 = .ok (.aload_n 0, 1) := by decide +kernel
theorem dXA_take_51 : decode cXA_take 51 = .ok (.getfield 19, 3) := by decide +kernel
theorem dXA_take_54 : decode cXA_take 54 = .ok (.iconst 1, 1) := by decide +kernel
theorem dXA_take_55 : decode cXA_take 55 = .ok (.putfield 132, 3) := by decide +kernel
theorem dXA_take_58 : decode cXA_take 58 = .ok (.aload_n 0, 1) := by decide +kernel
theorem dXA_take_59 : decode cXA_take 59 = .ok (.invokevirtual 156, 3) := by decide +kernel
theorem dXA_take_62 : decode cXA_take 62 = .ok (.ireturn, 1) := by decide +kernel
abbrev cXA_differ : ByteArray := prog_1_method_16_code
def yXA_differ : MethodName := ⟨RXA, "differ", "(II)I"⟩
theorem wXA_differ : Cond.code yXA_differ cXA_differ 3 (some .int) ∈ A9 := in9_4 232 rfl rfl
theorem dXA_differ_0 : decode cXA_differ 0 = .ok (.aload_n 0, 1) := by decide +kernel
theorem dXA_differ_1 : decode cXA_differ 1 = .ok (.getfield 26, 3) := by decide +kernel
theorem dXA_differ_4 : decode cXA_differ 4 = .ok (.iload_n 1, 1) := by decide +kernel
theorem dXA_differ_5 : decode cXA_differ 5 = .ok (.invokevirtual 168, 3) := by decide +kernel
theorem dXA_differ_8 : decode cXA_differ 8 = .ok (.ifCond .eq 14, 3) := by decide +kernel
theorem dXA_differ_11 : decode cXA_differ 11 = .ok (.aload_n 0, 1) := by decide +kernel
theorem dXA_differ_12 : decode cXA_differ 12 = .ok (.getfield 26, 3) := by decide +kernel
theorem dXA_differ_15 : decode cXA_differ 15 = .ok (.iload_n 2, 1) := by decide +kernel
theorem dXA_differ_16 : decode cXA_differ 16 = .ok (.invokevirtual 168, 3) := by decide +kernel
theorem dXA_differ_19 : decode cXA_differ 19 = .ok (.ifCond .ne 13, 3) := by decide +kernel
theorem dXA_differ_22 : decode cXA_differ 22 = .ok (.new 59, 3) := by decide +kernel
theorem dXA_differ_25 : decode cXA_differ 25 = .ok (.dup, 1) := by decide +kernel
theorem dXA_differ_26 : decode cXA_differ 26 = .ok (.ldc 169, 2) := by decide +kernel
theorem dXA_differ_28 : decode cXA_differ 28 = .ok (.invokespecial 63, 3) := by decide +kernel
theorem dXA_differ_31 : decode cXA_differ 31 = .ok (.athrow, 1) := by decide +kernel
theorem dXA_differ_32 : decode cXA_differ 32 = .ok (.aload_n 0, 1) := by decide +kernel
theorem dXA_differ_33 : decode cXA_differ 33 = .ok (.getfield 51, 3) := by decide +kernel
theorem dXA_differ_36 : decode cXA_differ 36 = .ok (.aload_n 0, 1) := by decide +kernel
theorem dXA_differ_37 : decode cXA_differ 37 = .ok (.getfield 19, 3) := by decide +kernel
theorem dXA_differ_40 : decode cXA_differ 40 = .ok (.aload_n 0, 1) := by decide +kernel
theorem dXA_differ_41 : decode cXA_differ 41 = .ok (.getfield 26, 3) := by decide +kernel
theorem dXA_differ_44 : decode cXA_differ 44 = .ok (.getfield 171, 3) := by decide +kernel
theorem dXA_differ_47 : decode cXA_differ 47 = .ok (.iload_n 1, 1) := by decide +kernel
theorem dXA_differ_48 : decode cXA_differ 48 = .ok (.aaload, 1) := by decide +kernel
theorem dXA_differ_49 : decode cXA_differ 49 = .ok (.aload_n 0, 1) := by decide +kernel
theorem dXA_differ_50 : decode cXA_differ 50 = .ok (.getfield 26, 3) := by decide +kernel
theorem dXA_differ_53 : decode cXA_differ 53 = .ok (.getfield 171, 3) := by decide +kernel
theorem dXA_differ_56 : decode cXA_differ 56 = .ok (.iload_n 2, 1) := by decide +kernel
theorem dXA_differ_57 : decode cXA_differ 57 = .ok (.aaload, 1) := by decide +kernel
theorem dXA_differ_58 : decode cXA_differ 58 = .ok (.invokevirtual 194, 3) := by decide +kernel
theorem dXA_differ_61 : decode cXA_differ 61 = .ok (.aload_n 0, 1) := by decide +kernel
theorem dXA_differ_62 : decode cXA_differ 62 = .ok (.getfield 51, 3) := by decide +kernel
theorem dXA_differ_65 : decode cXA_differ 65 = .ok (.getfield 198, 3) := by decide +kernel
theorem lXA_198 : Cond.fieldLink RXA 198 "RevisionWrite$Differences" "count" "I" ∈ A9 := in9_1 212 (by decide +kernel) rfl
theorem dXA_differ_68 : decode cXA_differ 68 = .ok (.ireturn, 1) := by decide +kernel
