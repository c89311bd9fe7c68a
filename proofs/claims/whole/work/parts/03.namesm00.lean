def RM : String := "RevisionWriteModel"
abbrev cM_init : ByteArray := prog_10_method_1_code
def yM_init : MethodName := ⟨RM, "<init>", "()V"⟩
theorem wM_init : Cond.code yM_init cM_init 1 none ∈ A9 := in9_5 19 rfl rfl
theorem dM_init_0 : decode cM_init 0 = .ok (.aload_n 0, 1) := by decide +kernel
theorem dM_init_1 : decode cM_init 1 = .ok (.invokespecial 1, 3) := by decide +kernel
theorem dM_init_4 : decode cM_init 4 = .ok (.aload_n 0, 1) := by decide +kernel
theorem dM_init_5 : decode cM_init 5 = .ok (.bipush 41, 2) := by decide +kernel
theorem dM_init_7 : decode cM_init 7 = .ok (.newarray .boolean, 2) := by decide +kernel
theorem dM_init_9 : decode cM_init 9 = .ok (.putfield 7, 3) := by decide +kernel
theorem lM_7 : Cond.fieldLink RM 7 "RevisionWriteModel" "isThere" "[Z" ∈ A9 := in9_5 22 (by decide +kernel) rfl
theorem dM_init_12 : decode cM_init 12 = .ok (.aload_n 0, 1) := by decide +kernel
theorem dM_init_13 : decode cM_init 13 = .ok (.bipush 41, 2) := by decide +kernel
theorem dM_init_15 : decode cM_init 15 = .ok (.newarray .boolean, 2) := by decide +kernel
theorem dM_init_17 : decode cM_init 17 = .ok (.putfield 13, 3) := by decide +kernel
theorem lM_13 : Cond.fieldLink RM 13 "RevisionWriteModel" "isFirst" "[Z" ∈ A9 := in9_5 23 (by decide +kernel) rfl
theorem dM_init_20 : decode cM_init 20 = .ok (.aload_n 0, 1) := by decide +kernel
theorem dM_init_21 : decode cM_init 21 = .ok (.bipush 41, 2) := by decide +kernel
theorem dM_init_23 : decode cM_init 23 = .ok (.newarray .boolean, 2) := by decide +kernel
theorem dM_init_25 : decode cM_init 25 = .ok (.putfield 16, 3) := by decide +kernel
theorem lM_16 : Cond.fieldLink RM 16 "RevisionWriteModel" "isChanged" "[Z" ∈ A9 := in9_5 24 (by decide +kernel) rfl
theorem dM_init_28 : decode cM_init 28 = .ok (.aload_n 0, 1) := by decide +kernel
theorem dM_init_29 : decode cM_init 29 = .ok (.bipush 41, 2) := by decide +kernel
theorem dM_init_31 : decode cM_init 31 = .ok (.newarray .boolean, 2) := by decide +kernel
theorem dM_init_33 : decode cM_init 33 = .ok (.putfield 19, 3) := by decide +kernel
theorem lM_19 : Cond.fieldLink RM 19 "RevisionWriteModel" "wasThere" "[Z" ∈ A9 := in9_5 25 (by decide +kernel) rfl
theorem dM_init_36 : decode cM_init 36 = .ok (.aload_n 0, 1) := by decide +kernel
theorem dM_init_37 : decode cM_init 37 = .ok (.bipush 41, 2) := by decide +kernel
theorem dM_init_39 : decode cM_init 39 = .ok (.newarray .int, 2) := by decide +kernel
theorem dM_init_41 : decode cM_init 41 = .ok (.putfield 22, 3) := by decide +kernel
theorem lM_22 : Cond.fieldLink RM 22 "RevisionWriteModel" "sizes" "[I" ∈ A9 := in9_5 26 (by decide +kernel) rfl
theorem dM_init_44 : decode cM_init 44 = .ok (.aload_n 0, 1) := by decide +kernel
theorem dM_init_45 : decode cM_init 45 = .ok (.sipush 4920, 3) := by decide +kernel
theorem dM_init_48 : decode cM_init 48 = .ok (.newarray .byte, 2) := by decide +kernel
theorem dM_init_50 : decode cM_init 50 = .ok (.putfield 26, 3) := by decide +kernel
theorem lM_26 : Cond.fieldLink RM 26 "RevisionWriteModel" "octets" "[B" ∈ A9 := in9_5 27 (by decide +kernel) rfl
theorem dM_init_53 : decode cM_init 53 = .ok (.aload_n 0, 1) := by decide +kernel
theorem dM_init_54 : decode cM_init 54 = .ok (.sipush 12000, 3) := by decide +kernel
theorem dM_init_57 : decode cM_init 57 = .ok (.newarray .byte, 2) := by decide +kernel
theorem dM_init_59 : decode cM_init 59 = .ok (.putfield 30, 3) := by decide +kernel
theorem lM_30 : Cond.fieldLink RM 30 "RevisionWriteModel" "file" "[B" ∈ A9 := in9_5 29 (by decide +kernel) rfl
theorem dM_init_62 : decode cM_init 62 = .ok (.aload_n 0, 1) := by decide +kernel
theorem dM_init_63 : decode cM_init 63 = .ok (.bipush 60, 2) := by decide +kernel
theorem dM_init_65 : decode cM_init 65 = .ok (.newarray .int, 2) := by decide +kernel
theorem dM_init_67 : decode cM_init 67 = .ok (.putfield 33, 3) := by decide +kernel
theorem lM_33 : Cond.fieldLink RM 33 "RevisionWriteModel" "ends" "[I" ∈ A9 := in9_5 32 (by decide +kernel) rfl
theorem dM_init_70 : decode cM_init 70 = .ok (.aload_n 0, 1) := by decide +kernel
theorem dM_init_71 : decode cM_init 71 = .ok (.bipush 60, 2) := by decide +kernel
theorem dM_init_73 : decode cM_init 73 = .ok (.newarray .int, 2) := by decide +kernel
theorem dM_init_75 : decode cM_init 75 = .ok (.putfield 36, 3) := by decide +kernel
theorem lM_36 : Cond.fieldLink RM 36 "RevisionWriteModel" "marks" "[I" ∈ A9 := in9_5 33 (by decide +kernel) rfl
theorem dM_init_78 : decode cM_init 78 = .ok (.aload_n 0, 1) := by decide +kernel
theorem dM_init_79 : decode cM_init 79 = .ok (.sipush 2460, 3) := by decide +kernel
theorem dM_init_82 : decode cM_init 82 = .ok (.newarray .int, 2) := by decide +kernel
theorem dM_init_84 : decode cM_init 84 = .ok (.putfield 39, 3) := by decide +kernel
theorem lM_39 : Cond.fieldLink RM 39 "RevisionWriteModel" "places" "[I" ∈ A9 := in9_5 34 (by decide +kernel) rfl
theorem dM_init_87 : decode cM_init 87 = .ok (.aload_n 0, 1) := by decide +kernel
theorem dM_init_88 : decode cM_init 88 = .ok (.sipush 2460, 3) := by decide +kernel
theorem dM_init_91 : decode cM_init 91 = .ok (.newarray .int, 2) := by decide +kernel
theorem dM_init_93 : decode cM_init 93 = .ok (.putfield 42, 3) := by decide +kernel
theorem lM_42 : Cond.fieldLink RM 42 "RevisionWriteModel" "starts" "[I" ∈ A9 := in9_5 35 (by decide +kernel) rfl
theorem dM_init_96 : decode cM_init 96 = .ok (.aload_n 0, 1) := by decide +kernel
theorem dM_init_97 : decode cM_init 97 = .ok (.sipush 2460, 3) := by decide +kernel
theorem dM_init_100 : decode cM_init 100 = .ok (.newarray .int, 2) := by decide +kernel
theorem dM_init_102 : decode cM_init 102 = .ok (.putfield 45, 3) := by decide +kernel
theorem lM_45 : Cond.fieldLink RM 45 "RevisionWriteModel" "counts" "[I" ∈ A9 := in9_5 36 (by decide +kernel) rfl
theorem dM_init_105 : decode cM_init 105 = .ok (.aload_n 0, 1) := by decide +kernel
theorem dM_init_106 : decode cM_init 106 = .ok (.bipush 41, 2) := by decide +kernel
theorem dM_init_108 : decode cM_init 108 = .ok (.newarray .int, 2) := by decide +kernel
theorem dM_init_110 : decode cM_init 110 = .ok (.putfield 48, 3) := by decide +kernel
theorem lM_48 : Cond.fieldLink RM 48 "RevisionWriteModel" "recordAt" "[I" ∈ A9 := in9_5 39 (by decide +kernel) rfl
theorem dM_init_113 : decode cM_init 113 = .ok (.aload_n 0, 1) := by decide +kernel
theorem dM_init_114 : decode cM_init 114 = .ok (.bipush 41, 2) := by decide +kernel
theorem dM_init_116 : decode cM_init 116 = .ok (.newarray .int, 2) := by decide +kernel
theorem dM_init_118 : decode cM_init 118 = .ok (.putfield 51, 3) := by decide +kernel
theorem lM_51 : Cond.fieldLink RM 51 "RevisionWriteModel" "bytesAt" "[I" ∈ A9 := in9_5 40 (by decide +kernel) rfl
theorem dM_init_121 : decode cM_init 121 = .ok (.aload_n 0, 1) := by decide +kernel
theorem dM_init_122 : decode cM_init 122 = .ok (.bipush 60, 2) := by decide +kernel
theorem dM_init_124 : decode cM_init 124 = .ok (.newarray .int, 2) := by decide +kernel
theorem dM_init_126 : decode cM_init 126 = .ok (.putfield 54, 3) := by decide +kernel
theorem lM_54 : Cond.fieldLink RM 54 "RevisionWriteModel" "xs" "[I" ∈ A9 := in9_5 46 (by decide +kernel) rfl
theorem dM_init_129 : decode cM_init 129 = .ok (.aload_n 0, 1) := by decide +kernel
theorem dM_init_130 : decode cM_init 130 = .ok (.bipush 40, 2) := by decide +kernel
theorem dM_init_132 : decode cM_init 132 = .ok (.newarray .int, 2) := by decide +kernel
theorem dM_init_134 : decode cM_init 134 = .ok (.putfield 57, 3) := by decide +kernel
theorem lM_57 : Cond.fieldLink RM 57 "RevisionWriteModel" "rowObject" "[I" ∈ A9 := in9_5 51 (by decide +kernel) rfl
theorem dM_init_137 : decode cM_init 137 = .ok (.aload_n 0, 1) := by decide +kernel
theorem dM_init_138 : decode cM_init 138 = .ok (.bipush 40, 2) := by decide +kernel
theorem dM_init_140 : decode cM_init 140 = .ok (.newarray .int, 2) := by decide +kernel
theorem dM_init_142 : decode cM_init 142 = .ok (.putfield 60, 3) := by decide +kernel
theorem lM_60 : Cond.fieldLink RM 60 "RevisionWriteModel" "rowKind" "[I" ∈ A9 := in9_5 52 (by decide +kernel) rfl
theorem dM_init_145 : decode cM_init 145 = .ok (.return_, 1) := by decide +kernel
abbrev cM_thrown : ByteArray := prog_10_method_2_code
def yM_thrown : MethodName := ⟨RM, "thrown", "()I"⟩
theorem wM_thrown : Cond.code yM_thrown cM_thrown 1 (some .int) ∈ A9 := in9_5 121 rfl rfl
theorem dM_thrown_0 : decode cM_thrown 0 = .ok (.aload_n 0, 1) := by decide +kernel
theorem dM_thrown_1 : decode cM_thrown 1 = .ok (.getfield 63, 3) := by decide +kernel
theorem lM_63 : Cond.fieldLink RM 63 "RevisionWriteModel" "refusal" "I" ∈ A9 := in9_5 21 (by decide +kernel) rfl
theorem dM_thrown_4 : decode cM_thrown 4 = .ok (.ireturn, 1) := by decide +kernel
abbrev cM_isObject : ByteArray := prog_10_method_3_code
def yM_isObject : MethodName := ⟨RM, "isObject", "(I)Z"⟩
theorem wM_isObject : Cond.code yM_isObject cM_isObject 1 (some .boolean) ∈ A9 := in9_5 128 rfl rfl
theorem dM_isObject_0 : decode cM_isObject 0 = .ok (.iload_n 0, 1) := by decide +kernel
theorem dM_isObject_1 : decode cM_isObject 1 = .ok (.iconst 1, 1) := by decide +kernel
theorem dM_isObject_2 : decode cM_isObject 2 = .ok (.if_icmp .lt 13, 3) := by decide +kernel
theorem dM_isObject_5 : decode cM_isObject 5 = .ok (.iload_n 0, 1) := by decide +kernel
theorem dM_isObject_6 : decode cM_isObject 6 = .ok (.bipush 40, 2) := by decide +kernel
theorem dM_isObject_8 : decode cM_isObject 8 = .ok (.if_icmp .gt 7, 3) := by decide +kernel
theorem dM_isObject_11 : decode cM_isObject 11 = .ok (.iconst 1, 1) := by decide +kernel
theorem dM_isObject_12 : decode cM_isObject 12 = .ok (.goto 4, 3) := by decide +kernel
theorem dM_isObject_15 : decode cM_isObject 15 = .ok (.iconst 0, 1) := by decide +kernel
theorem dM_isObject_16 : decode cM_isObject 16 = .ok (.ireturn, 1) := by decide +kernel
abbrev cM_object : ByteArray := prog_10_method_5_code
def yM_object : MethodName := ⟨RM, "object", "(II)V"⟩
theorem wM_object : Cond.code yM_object cM_object 4 none ∈ A9 := in9_5 125 rfl rfl
theorem dM_object_0 : decode cM_object 0 = .ok (.aload_n 0, 1) := by decide +kernel
theorem dM_object_1 : decode cM_object 1 = .ok (.iload_n 1, 1) := by decide +kernel
theorem dM_object_2 : decode cM_object 2 = .ok (.invokestatic 67, 3) := by decide +kernel
theorem dM_object_5 : decode cM_object 5 = .ok (.ifCond .ne 7, 3) := by decide +kernel
theorem dM_object_8 : decode cM_object 8 = .ok (.iconst 1, 1) := by decide +kernel
theorem dM_object_9 : decode cM_object 9 = .ok (.goto 18, 3) := by decide +kernel
theorem dM_object_12 : decode cM_object 12 = .ok (.iload_n 2, 1) := by decide +kernel
theorem dM_object_13 : decode cM_object 13 = .ok (.ifCond .lt 9, 3) := by decide +kernel
theorem dM_object_16 : decode cM_object 16 = .ok (.iload_n 2, 1) := by decide +kernel
theorem dM_object_17 : decode cM_object 17 = .ok (.bipush 120, 2) := by decide +kernel
theorem dM_object_19 : decode cM_object 19 = .ok (.if_icmp .le 7, 3) := by decide +kernel
theorem dM_object_22 : decode cM_object 22 = .ok (.iconst 2, 1) := by decide +kernel
theorem dM_object_23 : decode cM_object 23 = .ok (.goto 4, 3) := by decide +kernel
theorem dM_object_26 : decode cM_object 26 = .ok (.iconst 0, 1) := by decide +kernel
theorem dM_object_27 : decode cM_object 27 = .ok (.putfield 63, 3) := by decide +kernel
theorem dM_object_30 : decode cM_object 30 = .ok (.aload_n 0, 1) := by decide +kernel
theorem dM_object_31 : decode cM_object 31 = .ok (.getfield 63, 3) := by decide +kernel
theorem dM_object_34 : decode cM_object 34 = .ok (.ifCond .le 4, 3) := by decide +kernel
theorem dM_object_37 : decode cM_object 37 = .ok (.return_, 1) := by decide +kernel
theorem dM_object_38 : decode cM_object 38 = .ok (.aload_n 0, 1) := by decide +kernel
theorem dM_object_39 : decode cM_object 39 = .ok (.getfield 7, 3) := by decide +kernel
theorem dM_object_42 : decode cM_object 42 = .ok (.iload_n 1, 1) := by decide +kernel
theorem dM_object_43 : decode cM_object 43 = .ok (.iconst 1, 1) := by decide +kernel
theorem dM_object_44 : decode cM_object 44 = .ok (.bastore, 1) := by decide +kernel
theorem dM_object_45 : decode cM_object 45 = .ok (.aload_n 0, 1) := by decide +kernel
theorem dM_object_46 : decode cM_object 46 = .ok (.getfield 13, 3) := by decide +kernel
theorem dM_object_49 : decode cM_object 49 = .ok (.iload_n 1, 1) := by decide +kernel
theorem dM_object_50 : decode cM_object 50 = .ok (.iconst 0, 1) := by decide +kernel
theorem dM_object_51 : decode cM_object 51 = .ok (.bastore, 1) := by decide +kernel
theorem dM_object_52 : decode cM_object 52 = .ok (.aload_n 0, 1) := by decide +kernel
theorem dM_object_53 : decode cM_object 53 = .ok (.getfield 16, 3) := by decide +kernel
theorem dM_object_56 : decode cM_object 56 = .ok (.iload_n 1, 1) := by decide +kernel
theorem dM_object_57 : decode cM_object 57 = .ok (.iconst 1, 1) := by decide +kernel
theorem dM_object_58 : decode cM_object 58 = .ok (.bastore, 1) := by decide +kernel
theorem dM_object_59 : decode cM_object 59 = .ok (.aload_n 0, 1) := by decide +kernel
theorem dM_object_60 : decode cM_object 60 = .ok (.getfield 22, 3) := by decide +kernel
theorem dM_object_63 : decode cM_object 63 = .ok (.iload_n 1, 1) := by decide +kernel
theorem dM_object_64 : decode cM_object 64 = .ok (.iload_n 2, 1) := by decide +kernel
theorem dM_object_65 : decode cM_object 65 = .ok (.iastore, 1) := by decide +kernel
theorem dM_object_66 : decode cM_object 66 = .ok (.iconst 0, 1) := by decide +kernel
theorem dM_object_67 : decode cM_object 67 = .ok (.istore_n 3, 1) := by decide +kernel
theorem dM_object_68 : decode cM_object 68 = .ok (.iload_n 3, 1) := by decide +kernel
theorem dM_object_69 : decode cM_object 69 = .ok (.bipush 120, 2) := by decide +kernel
theorem dM_object_71 : decode cM_object 71 = .ok (.if_icmp .ge 21, 3) := by decide +kernel
theorem dM_object_74 : decode cM_object 74 = .ok (.aload_n 0, 1) := by decide +kernel
theorem dM_object_75 : decode cM_object 75 = .ok (.getfield 26, 3) := by decide +kernel
theorem dM_object_78 : decode cM_object 78 = .ok (.bipush 120, 2) := by decide +kernel
theorem dM_object_80 : decode cM_object 80 = .ok (.iload_n 1, 1) := by decide +kernel
theorem dM_object_81 : decode cM_object 81 = .ok (.imul, 1) := by decide +kernel
theorem dM_object_82 : decode cM_object 82 = .ok (.iload_n 3, 1) := by decide +kernel
theorem dM_object_83 : decode cM_object 83 = .ok (.iadd, 1) := by decide +kernel
theorem dM_object_84 : decode cM_object 84 = .ok (.iconst 0, 1) := by decide +kernel
theorem dM_object_85 : decode cM_object 85 = .ok (.bastore, 1) := by decide +kernel
theorem dM_object_86 : decode cM_object 86 = .ok (.iinc 3 1, 3) := by decide +kernel
theorem dM_object_89 : decode cM_object 89 = .ok (.goto (-21), 3) := by decide +kernel
theorem dM_object_92 : decode cM_object 92 = .ok (.return_, 1) := by decide +kernel
abbrev cM_save : ByteArray := prog_10_method_10_code
def yM_save : MethodName := ⟨RM, "save", "()V"⟩
theorem wM_save : Cond.code yM_save cM_save 2 none ∈ A9 := in9_5 196 rfl rfl
theorem dM_save_0 : decode cM_save 0 = .ok (.iconst 1, 1) := by decide +kernel
theorem dM_save_1 : decode cM_save 1 = .ok (.istore_n 1, 1) := by decide +kernel
theorem dM_save_2 : decode cM_save 2 = .ok (.iload_n 1, 1) := by decide +kernel
theorem dM_save_3 : decode cM_save 3 = .ok (.bipush 40, 2) := by decide +kernel
theorem dM_save_5 : decode cM_save 5 = .ok (.if_icmp .gt 28, 3) := by decide +kernel
theorem dM_save_8 : decode cM_save 8 = .ok (.aload_n 0, 1) := by decide +kernel
theorem dM_save_9 : decode cM_save 9 = .ok (.getfield 16, 3) := by decide +kernel
theorem dM_save_12 : decode cM_save 12 = .ok (.iload_n 1, 1) := by decide +kernel
theorem dM_save_13 : decode cM_save 13 = .ok (.iconst 0, 1) := by decide +kernel
theorem dM_save_14 : decode cM_save 14 = .ok (.bastore, 1) := by decide +kernel
theorem dM_save_15 : decode cM_save 15 = .ok (.aload_n 0, 1) := by decide +kernel
theorem dM_save_16 : decode cM_save 16 = .ok (.getfield 19, 3) := by decide +kernel
theorem dM_save_19 : decode cM_save 19 = .ok (.iload_n 1, 1) := by decide +kernel
theorem dM_save_20 : decode cM_save 20 = .ok (.aload_n 0, 1) := by decide +kernel
theorem dM_save_21 : decode cM_save 21 = .ok (.getfield 7, 3) := by decide +kernel
theorem dM_save_24 : decode cM_save 24 = .ok (.iload_n 1, 1) := by decide +kernel
theorem dM_save_25 : decode cM_save 25 = .ok (.baload, 1) := by decide +kernel
theorem dM_save_26 : decode cM_save 26 = .ok (.bastore, 1) := by decide +kernel
theorem dM_save_27 : decode cM_save 27 = .ok (.iinc 1 1, 3) := by decide +kernel
theorem dM_save_30 : decode cM_save 30 = .ok (.goto (-28), 3) := by decide +kernel
theorem dM_save_33 : decode cM_save 33 = .ok (.return_, 1) := by decide +kernel
abbrev cM_put : ByteArray := prog_10_method_11_code
def yM_put : MethodName := ⟨RM, "put", "(I)V"⟩
theorem wM_put : Cond.code yM_put cM_put 2 none ∈ A9 := in9_5 160 rfl rfl
theorem dM_put_0 : decode cM_put 0 = .ok (.aload_n 0, 1) := by decide +kernel
theorem dM_put_1 : decode cM_put 1 = .ok (.getfield 78, 3) := by decide +kernel
theorem lM_78 : Cond.fieldLink RM 78 "RevisionWriteModel" "isCounted" "Z" ∈ A9 := in9_5 38 (by decide +kernel) rfl
theorem dM_put_4 : decode cM_put 4 = .ok (.ifCond .ne 14, 3) := by decide +kernel
theorem dM_put_7 : decode cM_put 7 = .ok (.aload_n 0, 1) := by decide +kernel
theorem dM_put_8 : decode cM_put 8 = .ok (.getfield 30, 3) := by decide +kernel
theorem dM_put_11 : decode cM_put 11 = .ok (.aload_n 0, 1) := by decide +kernel
theorem dM_put_12 : decode cM_put 12 = .ok (.getfield 82, 3) := by decide +kernel
theorem lM_82 : Cond.fieldLink RM 82 "RevisionWriteModel" "next" "I" ∈ A9 := in9_5 37 (by decide +kernel) rfl
theorem dM_put_15 : decode cM_put 15 = .ok (.iload_n 1, 1) := by decide +kernel
theorem dM_put_16 : decode cM_put 16 = .ok (.i2b, 1) := by decide +kernel
theorem dM_put_17 : decode cM_put 17 = .ok (.bastore, 1) := by decide +kernel
theorem dM_put_18 : decode cM_put 18 = .ok (.aload_n 0, 1) := by decide +kernel
theorem dM_put_19 : decode cM_put 19 = .ok (.dup, 1) := by decide +kernel
theorem dM_put_20 : decode cM_put 20 = .ok (.getfield 82, 3) := by decide +kernel
theorem dM_put_23 : decode cM_put 23 = .ok (.iconst 1, 1) := by decide +kernel
theorem dM_put_24 : decode cM_put 24 = .ok (.iadd, 1) := by decide +kernel
theorem dM_put_25 : decode cM_put 25 = .ok (.putfield 82, 3) := by decide +kernel
theorem dM_put_28 : decode cM_put 28 = .ok (.return_, 1) := by decide +kernel
abbrev cM_putNumber : ByteArray := prog_10_method_12_code
def yM_putNumber : MethodName := ⟨RM, "putNumber", "(I)V"⟩
theorem wM_putNumber : Cond.code yM_putNumber cM_putNumber 3 none ∈ A9 := in9_5 176 rfl rfl
theorem dM_putNumber_0 : decode cM_putNumber 0 = .ok (.iconst 1, 1) := by decide +kernel
theorem dM_putNumber_1 : decode cM_putNumber 1 = .ok (.istore_n 2, 1) := by decide +kernel
theorem dM_putNumber_2 : decode cM_putNumber 2 = .ok (.iload_n 1, 1) := by decide +kernel
theorem dM_putNumber_3 : decode cM_putNumber 3 = .ok (.iload_n 2, 1) := by decide +kernel
theorem dM_putNumber_4 : decode cM_putNumber 4 = .ok (.idiv, 1) := by decide +kernel
theorem dM_putNumber_5 : decode cM_putNumber 5 = .ok (.bipush 9, 2) := by decide +kernel
theorem dM_putNumber_7 : decode cM_putNumber 7 = .ok (.if_icmp .le 11, 3) := by decide +kernel
theorem dM_putNumber_10 : decode cM_putNumber 10 = .ok (.iload_n 2, 1) := by decide +kernel
theorem dM_putNumber_11 : decode cM_putNumber 11 = .ok (.bipush 10, 2) := by decide +kernel
theorem dM_putNumber_13 : decode cM_putNumber 13 = .ok (.imul, 1) := by decide +kernel
theorem dM_putNumber_14 : decode cM_putNumber 14 = .ok (.istore_n 2, 1) := by decide +kernel
theorem dM_putNumber_15 : decode cM_putNumber 15 = .ok (.goto (-13), 3) := by decide +kernel
theorem dM_putNumber_18 : decode cM_putNumber 18 = .ok (.iload_n 2, 1) := by decide +kernel
theorem dM_putNumber_19 : decode cM_putNumber 19 = .ok (.ifCond .le 24, 3) := by decide +kernel
theorem dM_putNumber_22 : decode cM_putNumber 22 = .ok (.aload_n 0, 1) := by decide +kernel
theorem dM_putNumber_23 : decode cM_putNumber 23 = .ok (.bipush 48, 2) := by decide +kernel
theorem dM_putNumber_25 : decode cM_putNumber 25 = .ok (.iload_n 1, 1) := by decide +kernel
theorem dM_putNumber_26 : decode cM_putNumber 26 = .ok (.iload_n 2, 1) := by decide +kernel
theorem dM_putNumber_27 : decode cM_putNumber 27 = .ok (.idiv, 1) := by decide +kernel
theorem dM_putNumber_28 : decode cM_putNumber 28 = .ok (.bipush 10, 2) := by decide +kernel
theorem dM_putNumber_30 : decode cM_putNumber 30 = .ok (.irem, 1) := by decide +kernel
theorem dM_putNumber_31 : decode cM_putNumber 31 = .ok (.iadd, 1) := by decide +kernel
theorem dM_putNumber_32 : decode cM_putNumber 32 = .ok (.invokevirtual 85, 3) := by decide +kernel
theorem dM_putNumber_35 : decode cM_putNumber 35 = .ok (.iload_n 2, 1) := by decide +kernel
theorem dM_putNumber_36 : decode cM_putNumber 36 = .ok (.bipush 10, 2) := by decide +kernel
theorem dM_putNumber_38 : decode cM_putNumber 38 = .ok (.idiv, 1) := by decide +kernel
theorem dM_putNumber_39 : decode cM_putNumber 39 = .ok (.istore_n 2, 1) := by decide +kernel
theorem dM_putNumber_40 : decode cM_putNumber 40 = .ok (.goto (-22), 3) := by decide +kernel
theorem dM_putNumber_43 : decode cM_putNumber 43 = .ok (.return_, 1) := by decide +kernel
abbrev cM_putRecord : ByteArray := prog_10_method_13_code
def yM_putRecord : MethodName := ⟨RM, "putRecord", "(I)V"⟩
theorem wM_putRecord : Cond.code yM_putRecord cM_putRecord 3 none ∈ A9 := in9_5 172 rfl rfl
theorem dM_putRecord_0 : decode cM_putRecord 0 = .ok (.aload_n 0, 1) := by decide +kernel
theorem dM_putRecord_1 : decode cM_putRecord 1 = .ok (.getfield 48, 3) := by decide +kernel
theorem dM_putRecord_4 : decode cM_putRecord 4 = .ok (.iload_n 1, 1) := by decide +kernel
theorem dM_putRecord_5 : decode cM_putRecord 5 = .ok (.aload_n 0, 1) := by decide +kernel
theorem dM_putRecord_6 : decode cM_putRecord 6 = .ok (.getfield 82, 3) := by decide +kernel
theorem dM_putRecord_9 : decode cM_putRecord 9 = .ok (.iastore, 1) := by decide +kernel
theorem dM_putRecord_10 : decode cM_putRecord 10 = .ok (.aload_n 0, 1) := by decide +kernel
theorem dM_putRecord_11 : decode cM_putRecord 11 = .ok (.bipush 111, 2) := by decide +kernel
theorem dM_putRecord_13 : decode cM_putRecord 13 = .ok (.invokevirtual 85, 3) := by decide +kernel
theorem dM_putRecord_16 : decode cM_putRecord 16 = .ok (.aload_n 0, 1) := by decide +kernel
theorem dM_putRecord_17 : decode cM_putRecord 17 = .ok (.bipush 32, 2) := by decide +kernel
theorem dM_putRecord_19 : decode cM_putRecord 19 = .ok (.invokevirtual 85, 3) := by decide +kernel
theorem dM_putRecord_22 : decode cM_putRecord 22 = .ok (.aload_n 0, 1) := by decide +kernel
theorem dM_putRecord_23 : decode cM_putRecord 23 = .ok (.iload_n 1, 1) := by decide +kernel
theorem dM_putRecord_24 : decode cM_putRecord 24 = .ok (.invokevirtual 89, 3) := by decide +kernel
theorem dM_putRecord_27 : decode cM_putRecord 27 = .ok (.aload_n 0, 1) := by decide +kernel
theorem dM_putRecord_28 : decode cM_putRecord 28 = .ok (.bipush 32, 2) := by decide +kernel
theorem dM_putRecord_30 : decode cM_putRecord 30 = .ok (.invokevirtual 85, 3) := by decide +kernel
theorem dM_putRecord_33 : decode cM_putRecord 33 = .ok (.aload_n 0, 1) := by decide +kernel
theorem dM_putRecord_34 : decode cM_putRecord 34 = .ok (.aload_n 0, 1) := by decide +kernel
theorem dM_putRecord_35 : decode cM_putRecord 35 = .ok (.getfield 22, 3) := by decide +kernel
theorem dM_putRecord_38 : decode cM_putRecord 38 = .ok (.iload_n 1, 1) := by decide +kernel
theorem dM_putRecord_39 : decode cM_putRecord 39 = .ok (.iaload, 1) := by decide +kernel
theorem dM_putRecord_40 : decode cM_putRecord 40 = .ok (.invokevirtual 89, 3) := by decide +kernel
theorem dM_putRecord_43 : decode cM_putRecord 43 = .ok (.aload_n 0, 1) := by decide +kernel
theorem dM_putRecord_44 : decode cM_putRecord 44 = .ok (.bipush 10, 2) := by decide +kernel
theorem dM_putRecord_46 : decode cM_putRecord 46 = .ok (.invokevirtual 85, 3) := by decide +kernel
theorem dM_putRecord_49 : decode cM_putRecord 49 = .ok (.aload_n 0, 1) := by decide +kernel
theorem dM_putRecord_50 : decode cM_putRecord 50 = .ok (.getfield 51, 3) := by decide +kernel
theorem dM_putRecord_53 : decode cM_putRecord 53 = .ok (.iload_n 1, 1) := by decide +kernel
theorem dM_putRecord_54 : decode cM_putRecord 54 = .ok (.aload_n 0, 1) := by decide +kernel
theorem dM_putRecord_55 : decode cM_putRecord 55 = .ok (.getfield 82, 3) := by decide +kernel
theorem dM_putRecord_58 : decode cM_putRecord 58 = .ok (.iastore, 1) := by decide +kernel
theorem dM_putRecord_59 : decode cM_putRecord 59 = .ok (.iconst 0, 1) := by decide +kernel
theorem dM_putRecord_60 : decode cM_putRecord 60 = .ok (.istore_n 2, 1) := by decide +kernel
theorem dM_putRecord_61 : decode cM_putRecord 61 = .ok (.iload_n 2, 1) := by decide +kernel
theorem dM_putRecord_62 : decode cM_putRecord 62 = .ok (.aload_n 0, 1) := by decide +kernel
theorem dM_putRecord_63 : decode cM_putRecord 63 = .ok (.getfield 22, 3) := by decide +kernel
theorem dM_putRecord_66 : decode cM_putRecord 66 = .ok (.iload_n 1, 1) := by decide +kernel
theorem dM_putRecord_67 : decode cM_putRecord 67 = .ok (.iaload, 1) := by decide +kernel
theorem dM_putRecord_68 : decode cM_putRecord 68 = .ok (.if_icmp .ge 24, 3) := by decide +kernel
theorem dM_putRecord_71 : decode cM_putRecord 71 = .ok (.aload_n 0, 1) := by decide +kernel
theorem dM_putRecord_72 : decode cM_putRecord 72 = .ok (.aload_n 0, 1) := by decide +kernel
theorem dM_putRecord_73 : decode cM_putRecord 73 = .ok (.getfield 26, 3) := by decide +kernel
theorem dM_putRecord_76 : decode cM_putRecord 76 = .ok (.bipush 120, 2) := by decide +kernel
theorem dM_putRecord_78 : decode cM_putRecord 78 = .ok (.iload_n 1, 1) := by decide +kernel
theorem dM_putRecord_79 : decode cM_putRecord 79 = .ok (.imul, 1) := by decide +kernel
theorem dM_putRecord_80 : decode cM_putRecord 80 = .ok (.iload_n 2, 1) := by decide +kernel
theorem dM_putRecord_81 : decode cM_putRecord 81 = .ok (.iadd, 1) := by decide +kernel
theorem dM_putRecord_82 : decode cM_putRecord 82 = .ok (.baload, 1) := by decide +kernel
theorem dM_putRecord_83 : decode cM_putRecord 83 = .ok (.invokevirtual 85, 3) := by decide +kernel
theorem dM_putRecord_86 : decode cM_putRecord 86 = .ok (.iinc 2 1, 3) := by decide +kernel
theorem dM_putRecord_89 : decode cM_putRecord 89 = .ok (.goto (-28), 3) := by decide +kernel
theorem dM_putRecord_92 : decode cM_putRecord 92 = .ok (.aload_n 0, 1) := by decide +kernel
theorem dM_putRecord_93 : decode cM_putRecord 93 = .ok (.bipush 10, 2) := by decide +kernel
theorem dM_putRecord_95 : decode cM_putRecord 95 = .ok (.invokevirtual 85, 3) := by decide +kernel
theorem dM_putRecord_98 : decode cM_putRecord 98 = .ok (.return_, 1) := by decide +kernel
abbrev cM_putRow : ByteArray := prog_10_method_14_code
def yM_putRow : MethodName := ⟨RM, "putRow", "(I)V"⟩
theorem wM_putRow : Cond.code yM_putRow cM_putRow 2 none ∈ A9 := in9_5 184 rfl rfl
theorem dM_putRow_0 : decode cM_putRow 0 = .ok (.aload_n 0, 1) := by decide +kernel
theorem dM_putRow_1 : decode cM_putRow 1 = .ok (.iload_n 1, 1) := by decide +kernel
theorem dM_putRow_2 : decode cM_putRow 2 = .ok (.invokevirtual 89, 3) := by decide +kernel
theorem dM_putRow_5 : decode cM_putRow 5 = .ok (.aload_n 0, 1) := by decide +kernel
theorem dM_putRow_6 : decode cM_putRow 6 = .ok (.bipush 32, 2) := by decide +kernel
theorem dM_putRow_8 : decode cM_putRow 8 = .ok (.invokevirtual 85, 3) := by decide +kernel
theorem dM_putRow_11 : decode cM_putRow 11 = .ok (.aload_n 0, 1) := by decide +kernel
theorem dM_putRow_12 : decode cM_putRow 12 = .ok (.getfield 7, 3) := by decide +kernel
theorem dM_putRow_15 : decode cM_putRow 15 = .ok (.iload_n 1, 1) := by decide +kernel
theorem dM_putRow_16 : decode cM_putRow 16 = .ok (.baload, 1) := by decide +kernel
theorem dM_putRow_17 : decode cM_putRow 17 = .ok (.ifCond .eq 16, 3) := by decide +kernel
theorem dM_putRow_20 : decode cM_putRow 20 = .ok (.aload_n 0, 1) := by decide +kernel
theorem dM_putRow_21 : decode cM_putRow 21 = .ok (.aload_n 0, 1) := by decide +kernel
theorem dM_putRow_22 : decode cM_putRow 22 = .ok (.getfield 48, 3) := by decide +kernel
theorem dM_putRow_25 : decode cM_putRow 25 = .ok (.iload_n 1, 1) := by decide +kernel
theorem dM_putRow_26 : decode cM_putRow 26 = .ok (.iaload, 1) := by decide +kernel
theorem dM_putRow_27 : decode cM_putRow 27 = .ok (.invokevirtual 89, 3) := by decide +kernel
theorem dM_putRow_30 : decode cM_putRow 30 = .ok (.goto 9, 3) := by decide +kernel
theorem dM_putRow_33 : decode cM_putRow 33 = .ok (.aload_n 0, 1) := by decide +kernel
theorem dM_putRow_34 : decode cM_putRow 34 = .ok (.bipush 45, 2) := by decide +kernel
theorem dM_putRow_36 : decode cM_putRow 36 = .ok (.invokevirtual 85, 3) := by decide +kernel
theorem dM_putRow_39 : decode cM_putRow 39 = .ok (.aload_n 0, 1) := by decide +kernel
theorem dM_putRow_40 : decode cM_putRow 40 = .ok (.bipush 10, 2) := by decide +kernel
theorem dM_putRow_42 : decode cM_putRow 42 = .ok (.invokevirtual 85, 3) := by decide +kernel
theorem dM_putRow_45 : decode cM_putRow 45 = .ok (.return_, 1) := by decide +kernel
abbrev cM_putTold : ByteArray := prog_10_method_15_code
def yM_putTold : MethodName := ⟨RM, "putTold", "(II)V"⟩
theorem wM_putTold : Cond.code yM_putTold cM_putTold 3 none ∈ A9 := in9_5 180 rfl rfl
theorem dM_putTold_0 : decode cM_putTold 0 = .ok (.aload_n 0, 1) := by decide +kernel
theorem dM_putTold_1 : decode cM_putTold 1 = .ok (.iload_n 1, 1) := by decide +kernel
theorem dM_putTold_2 : decode cM_putTold 2 = .ok (.invokevirtual 85, 3) := by decide +kernel
theorem dM_putTold_5 : decode cM_putTold 5 = .ok (.aload_n 0, 1) := by decide +kernel
theorem dM_putTold_6 : decode cM_putTold 6 = .ok (.bipush 32, 2) := by decide +kernel
theorem dM_putTold_8 : decode cM_putTold 8 = .ok (.invokevirtual 85, 3) := by decide +kernel
theorem dM_putTold_11 : decode cM_putTold 11 = .ok (.aload_n 0, 1) := by decide +kernel
theorem dM_putTold_12 : decode cM_putTold 12 = .ok (.iload_n 2, 1) := by decide +kernel
theorem dM_putTold_13 : decode cM_putTold 13 = .ok (.invokevirtual 89, 3) := by decide +kernel
theorem dM_putTold_16 : decode cM_putTold 16 = .ok (.aload_n 0, 1) := by decide +kernel
theorem dM_putTold_17 : decode cM_putTold 17 = .ok (.bipush 10, 2) := by decide +kernel
theorem dM_putTold_19 : decode cM_putTold 19 = .ok (.invokevirtual 85, 3) := by decide +kernel
theorem dM_putTold_22 : decode cM_putTold 22 = .ok (.return_, 1) := by decide +kernel
abbrev cM_isMeant : ByteArray := prog_10_method_16_code
def yM_isMeant : MethodName := ⟨RM, "isMeant", "(IZ)Z"⟩
theorem wM_isMeant : Cond.code yM_isMeant cM_isMeant 3 (some .boolean) ∈ A9 := in9_5 168 rfl rfl
theorem dM_isMeant_0 : decode cM_isMeant 0 = .ok (.iload_n 2, 1) := by decide +kernel
theorem dM_isMeant_1 : decode cM_isMeant 1 = .ok (.ifCond .eq 12, 3) := by decide +kernel
theorem dM_isMeant_4 : decode cM_isMeant 4 = .ok (.aload_n 0, 1) := by decide +kernel
theorem dM_isMeant_5 : decode cM_isMeant 5 = .ok (.getfield 7, 3) := by decide +kernel
theorem dM_isMeant_8 : decode cM_isMeant 8 = .ok (.iload_n 1, 1) := by decide +kernel
theorem dM_isMeant_9 : decode cM_isMeant 9 = .ok (.baload, 1) := by decide +kernel
theorem dM_isMeant_10 : decode cM_isMeant 10 = .ok (.goto 9, 3) := by decide +kernel
theorem dM_isMeant_13 : decode cM_isMeant 13 = .ok (.aload_n 0, 1) := by decide +kernel
theorem dM_isMeant_14 : decode cM_isMeant 14 = .ok (.getfield 16, 3) := by decide +kernel
theorem dM_isMeant_17 : decode cM_isMeant 17 = .ok (.iload_n 1, 1) := by decide +kernel
theorem dM_isMeant_18 : decode cM_isMeant 18 = .ok (.baload, 1) := by decide +kernel
theorem dM_isMeant_19 : decode cM_isMeant 19 = .ok (.ireturn, 1) := by decide +kernel
abbrev cM_putRecords : ByteArray := prog_10_method_17_code
def yM_putRecords : MethodName := ⟨RM, "putRecords", "(ZI)V"⟩
theorem wM_putRecords : Cond.code yM_putRecords cM_putRecords 6 none ∈ A9 := in9_5 164 rfl rfl
theorem dM_putRecords_0 : decode cM_putRecords 0 = .ok (.iconst 0, 1) := by decide +kernel
theorem dM_putRecords_1 : decode cM_putRecords 1 = .ok (.istore_n 3, 1) := by decide +kernel
theorem dM_putRecords_2 : decode cM_putRecords 2 = .ok (.iload_n 3, 1) := by decide +kernel
theorem dM_putRecords_3 : decode cM_putRecords 3 = .ok (.iload_n 2, 1) := by decide +kernel
theorem dM_putRecords_4 : decode cM_putRecords 4 = .ok (.iconst 1, 1) := by decide +kernel
theorem dM_putRecords_5 : decode cM_putRecords 5 = .ok (.if_icmp .ne 8, 3) := by decide +kernel
theorem dM_putRecords_8 : decode cM_putRecords 8 = .ok (.bipush 120, 2) := by decide +kernel
theorem dM_putRecords_10 : decode cM_putRecords 10 = .ok (.goto 13, 3) := by decide +kernel
theorem dM_putRecords_13 : decode cM_putRecords 13 = .ok (.iload_n 2, 1) := by decide +kernel
theorem dM_putRecords_14 : decode cM_putRecords 14 = .ok (.iconst 2, 1) := by decide +kernel
theorem dM_putRecords_15 : decode cM_putRecords 15 = .ok (.if_icmp .ne 7, 3) := by decide +kernel
theorem dM_putRecords_18 : decode cM_putRecords 18 = .ok (.iconst 1, 1) := by decide +kernel
theorem dM_putRecords_19 : decode cM_putRecords 19 = .ok (.goto 4, 3) := by decide +kernel
theorem dM_putRecords_22 : decode cM_putRecords 22 = .ok (.iconst 0, 1) := by decide +kernel
theorem dM_putRecords_23 : decode cM_putRecords 23 = .ok (.if_icmp .gt 115, 3) := by decide +kernel
theorem dM_putRecords_26 : decode cM_putRecords 26 = .ok (.iconst 1, 1) := by decide +kernel
theorem dM_putRecords_27 : decode cM_putRecords 27 = .ok (.istore 4, 2) := by decide +kernel
theorem dM_putRecords_29 : decode cM_putRecords 29 = .ok (.iload 4, 2) := by decide +kernel
theorem dM_putRecords_31 : decode cM_putRecords 31 = .ok (.bipush 40, 2) := by decide +kernel
theorem dM_putRecords_33 : decode cM_putRecords 33 = .ok (.if_icmp .gt 99, 3) := by decide +kernel
theorem dM_putRecords_36 : decode cM_putRecords 36 = .ok (.iload_n 2, 1) := by decide +kernel
theorem dM_putRecords_37 : decode cM_putRecords 37 = .ok (.iconst 1, 1) := by decide +kernel
theorem dM_putRecords_38 : decode cM_putRecords 38 = .ok (.if_icmp .ne 22, 3) := by decide +kernel
theorem dM_putRecords_41 : decode cM_putRecords 41 = .ok (.aload_n 0, 1) := by decide +kernel
theorem dM_putRecords_42 : decode cM_putRecords 42 = .ok (.getfield 22, 3) := by decide +kernel
theorem dM_putRecords_45 : decode cM_putRecords 45 = .ok (.iload 4, 2) := by decide +kernel
theorem dM_putRecords_47 : decode cM_putRecords 47 = .ok (.iaload, 1) := by decide +kernel
theorem dM_putRecords_48 : decode cM_putRecords 48 = .ok (.iload_n 3, 1) := by decide +kernel
theorem dM_putRecords_49 : decode cM_putRecords 49 = .ok (.if_icmp .ne 7, 3) := by decide +kernel
theorem dM_putRecords_52 : decode cM_putRecords 52 = .ok (.iconst 1, 1) := by decide +kernel
theorem dM_putRecords_53 : decode cM_putRecords 53 = .ok (.goto 40, 3) := by decide +kernel
theorem dM_putRecords_56 : decode cM_putRecords 56 = .ok (.iconst 0, 1) := by decide +kernel
theorem dM_putRecords_57 : decode cM_putRecords 57 = .ok (.goto 36, 3) := by decide +kernel
theorem dM_putRecords_60 : decode cM_putRecords 60 = .ok (.iload_n 2, 1) := by decide +kernel
theorem dM_putRecords_61 : decode cM_putRecords 61 = .ok (.iconst 2, 1) := by decide +kernel
theorem dM_putRecords_62 : decode cM_putRecords 62 = .ok (.if_icmp .ne 30, 3) := by decide +kernel
theorem dM_putRecords_65 : decode cM_putRecords 65 = .ok (.aload_n 0, 1) := by decide +kernel
theorem dM_putRecords_66 : decode cM_putRecords 66 = .ok (.getfield 13, 3) := by decide +kernel
theorem dM_putRecords_69 : decode cM_putRecords 69 = .ok (.iload 4, 2) := by decide +kernel
theorem dM_putRecords_71 : decode cM_putRecords 71 = .ok (.baload, 1) := by decide +kernel
theorem dM_putRecords_72 : decode cM_putRecords 72 = .ok (.iload_n 3, 1) := by decide +kernel
theorem dM_putRecords_73 : decode cM_putRecords 73 = .ok (.ifCond .ne 7, 3) := by decide +kernel
theorem dM_putRecords_76 : decode cM_putRecords 76 = .ok (.iconst 1, 1) := by decide +kernel
theorem dM_putRecords_77 : decode cM_putRecords 77 = .ok (.goto 4, 3) := by decide +kernel
theorem dM_putRecords_80 : decode cM_putRecords 80 = .ok (.iconst 0, 1) := by decide +kernel
theorem dM_putRecords_81 : decode cM_putRecords 81 = .ok (.if_icmp .ne 7, 3) := by decide +kernel
theorem dM_putRecords_84 : decode cM_putRecords 84 = .ok (.iconst 1, 1) := by decide +kernel
theorem dM_putRecords_85 : decode cM_putRecords 85 = .ok (.goto 8, 3) := by decide +kernel
theorem dM_putRecords_88 : decode cM_putRecords 88 = .ok (.iconst 0, 1) := by decide +kernel
theorem dM_putRecords_89 : decode cM_putRecords 89 = .ok (.goto 4, 3) := by decide +kernel
theorem dM_putRecords_92 : decode cM_putRecords 92 = .ok (.iconst 1, 1) := by decide +kernel
theorem dM_putRecords_93 : decode cM_putRecords 93 = .ok (.istore 5, 2) := by decide +kernel
theorem dM_putRecords_95 : decode cM_putRecords 95 = .ok (.aload_n 0, 1) := by decide +kernel
theorem dM_putRecords_96 : decode cM_putRecords 96 = .ok (.iload 4, 2) := by decide +kernel
theorem dM_putRecords_98 : decode cM_putRecords 98 = .ok (.iload_n 1, 1) := by decide +kernel
theorem dM_putRecords_99 : decode cM_putRecords 99 = .ok (.invokevirtual 92, 3) := by decide +kernel
theorem dM_putRecords_102 : decode cM_putRecords 102 = .ok (.ifCond .eq 24, 3) := by decide +kernel
theorem dM_putRecords_105 : decode cM_putRecords 105 = .ok (.aload_n 0, 1) := by decide +kernel
theorem dM_putRecords_106 : decode cM_putRecords 106 = .ok (.getfield 7, 3) := by decide +kernel
theorem dM_putRecords_109 : decode cM_putRecords 109 = .ok (.iload 4, 2) := by decide +kernel
theorem dM_putRecords_111 : decode cM_putRecords 111 = .ok (.baload, 1) := by decide +kernel
theorem dM_putRecords_112 : decode cM_putRecords 112 = .ok (.ifCond .eq 14, 3) := by decide +kernel
theorem dM_putRecords_115 : decode cM_putRecords 115 = .ok (.iload 5, 2) := by decide +kernel
theorem dM_putRecords_117 : decode cM_putRecords 117 = .ok (.ifCond .eq 9, 3) := by decide +kernel
theorem dM_putRecords_120 : decode cM_putRecords 120 = .ok (.aload_n 0, 1) := by decide +kernel
theorem dM_putRecords_121 : decode cM_putRecords 121 = .ok (.iload 4, 2) := by decide +kernel
theorem dM_putRecords_123 : decode cM_putRecords 123 = .ok (.invokevirtual 96, 3) := by decide +kernel
theorem dM_putRecords_126 : decode cM_putRecords 126 = .ok (.iinc 4 1, 3) := by decide +kernel
theorem dM_putRecords_129 : decode cM_putRecords 129 = .ok (.goto (-100), 3) := by decide +kernel
theorem dM_putRecords_132 : decode cM_putRecords 132 = .ok (.iinc 3 1, 3) := by decide +kernel
theorem dM_putRecords_135 : decode cM_putRecords 135 = .ok (.goto (-133), 3) := by decide +kernel
