theorem dM_readFile_80 : decode cM_readFile 80 = .ok (.aload_n 0, 1) := by decide +kernel
theorem dM_readFile_81 : decode cM_readFile 81 = .ok (.getfield 45, 3) := by decide +kernel
theorem dM_readFile_84 : decode cM_readFile 84 = .ok (.iload_n 1, 1) := by decide +kernel
theorem dM_readFile_85 : decode cM_readFile 85 = .ok (.iload_n 2, 1) := by decide +kernel
theorem dM_readFile_86 : decode cM_readFile 86 = .ok (.iadd, 1) := by decide +kernel
theorem dM_readFile_87 : decode cM_readFile 87 = .ok (.iaload, 1) := by decide +kernel
theorem dM_readFile_88 : decode cM_readFile 88 = .ok (.goto 4, 3) := by decide +kernel
theorem dM_readFile_91 : decode cM_readFile 91 = .ok (.iconst 0, 1) := by decide +kernel
theorem dM_readFile_92 : decode cM_readFile 92 = .ok (.iastore, 1) := by decide +kernel
theorem dM_readFile_93 : decode cM_readFile 93 = .ok (.iconst 0, 1) := by decide +kernel
theorem dM_readFile_94 : decode cM_readFile 94 = .ok (.istore_n 3, 1) := by decide +kernel
theorem dM_readFile_95 : decode cM_readFile 95 = .ok (.iload_n 3, 1) := by decide +kernel
theorem dM_readFile_96 : decode cM_readFile 96 = .ok (.bipush 120, 2) := by decide +kernel
theorem dM_readFile_98 : decode cM_readFile 98 = .ok (.if_icmp .ge 49, 3) := by decide +kernel
theorem dM_readFile_101 : decode cM_readFile 101 = .ok (.aload_n 0, 1) := by decide +kernel
theorem dM_readFile_102 : decode cM_readFile 102 = .ok (.getfield 26, 3) := by decide +kernel
theorem dM_readFile_105 : decode cM_readFile 105 = .ok (.bipush 120, 2) := by decide +kernel
theorem dM_readFile_107 : decode cM_readFile 107 = .ok (.iload_n 2, 1) := by decide +kernel
theorem dM_readFile_108 : decode cM_readFile 108 = .ok (.imul, 1) := by decide +kernel
theorem dM_readFile_109 : decode cM_readFile 109 = .ok (.iload_n 3, 1) := by decide +kernel
theorem dM_readFile_110 : decode cM_readFile 110 = .ok (.iadd, 1) := by decide +kernel
theorem dM_readFile_111 : decode cM_readFile 111 = .ok (.iload_n 3, 1) := by decide +kernel
theorem dM_readFile_112 : decode cM_readFile 112 = .ok (.aload_n 0, 1) := by decide +kernel
theorem dM_readFile_113 : decode cM_readFile 113 = .ok (.getfield 22, 3) := by decide +kernel
theorem dM_readFile_116 : decode cM_readFile 116 = .ok (.iload_n 2, 1) := by decide +kernel
theorem dM_readFile_117 : decode cM_readFile 117 = .ok (.iaload, 1) := by decide +kernel
theorem dM_readFile_118 : decode cM_readFile 118 = .ok (.if_icmp .ge 21, 3) := by decide +kernel
theorem dM_readFile_121 : decode cM_readFile 121 = .ok (.aload_n 0, 1) := by decide +kernel
theorem dM_readFile_122 : decode cM_readFile 122 = .ok (.getfield 30, 3) := by decide +kernel
theorem dM_readFile_125 : decode cM_readFile 125 = .ok (.aload_n 0, 1) := by decide +kernel
theorem dM_readFile_126 : decode cM_readFile 126 = .ok (.getfield 42, 3) := by decide +kernel
theorem dM_readFile_129 : decode cM_readFile 129 = .ok (.iload_n 1, 1) := by decide +kernel
theorem dM_readFile_130 : decode cM_readFile 130 = .ok (.iload_n 2, 1) := by decide +kernel
theorem dM_readFile_131 : decode cM_readFile 131 = .ok (.iadd, 1) := by decide +kernel
theorem dM_readFile_132 : decode cM_readFile 132 = .ok (.iaload, 1) := by decide +kernel
theorem dM_readFile_133 : decode cM_readFile 133 = .ok (.iload_n 3, 1) := by decide +kernel
theorem dM_readFile_134 : decode cM_readFile 134 = .ok (.iadd, 1) := by decide +kernel
theorem dM_readFile_135 : decode cM_readFile 135 = .ok (.baload, 1) := by decide +kernel
theorem dM_readFile_136 : decode cM_readFile 136 = .ok (.goto 4, 3) := by decide +kernel
theorem dM_readFile_139 : decode cM_readFile 139 = .ok (.iconst 0, 1) := by decide +kernel
theorem dM_readFile_140 : decode cM_readFile 140 = .ok (.bastore, 1) := by decide +kernel
theorem dM_readFile_141 : decode cM_readFile 141 = .ok (.iinc 3 1, 3) := by decide +kernel
theorem dM_readFile_144 : decode cM_readFile 144 = .ok (.goto (-49), 3) := by decide +kernel
theorem dM_readFile_147 : decode cM_readFile 147 = .ok (.iinc 2 1, 3) := by decide +kernel
theorem dM_readFile_150 : decode cM_readFile 150 = .ok (.goto (-120), 3) := by decide +kernel
theorem dM_readFile_153 : decode cM_readFile 153 = .ok (.aload_n 0, 1) := by decide +kernel
theorem dM_readFile_154 : decode cM_readFile 154 = .ok (.iconst 0, 1) := by decide +kernel
theorem dM_readFile_155 : decode cM_readFile 155 = .ok (.putfield 123, 3) := by decide +kernel
theorem dM_readFile_158 : decode cM_readFile 158 = .ok (.aload_n 0, 1) := by decide +kernel
theorem dM_readFile_159 : decode cM_readFile 159 = .ok (.invokevirtual 130, 3) := by decide +kernel
theorem dM_readFile_162 : decode cM_readFile 162 = .ok (.aload_n 0, 1) := by decide +kernel
theorem dM_readFile_163 : decode cM_readFile 163 = .ok (.getfield 110, 3) := by decide +kernel
theorem dM_readFile_166 : decode cM_readFile 166 = .ok (.ireturn, 1) := by decide +kernel
abbrev cM_poke : ByteArray := prog_10_method_38_code
def yM_poke : MethodName := ⟨RM, "poke", "(IB)B"⟩
theorem wM_poke : Cond.code yM_poke cM_poke 4 (some .byte) ∈ A9 := in9_6 24 rfl rfl
theorem dM_poke_0 : decode cM_poke 0 = .ok (.aload_n 0, 1) := by decide +kernel
theorem dM_poke_1 : decode cM_poke 1 = .ok (.iload_n 1, 1) := by decide +kernel
theorem dM_poke_2 : decode cM_poke 2 = .ok (.ifCond .lt 11, 3) := by decide +kernel
theorem dM_poke_5 : decode cM_poke 5 = .ok (.iload_n 1, 1) := by decide +kernel
theorem dM_poke_6 : decode cM_poke 6 = .ok (.aload_n 0, 1) := by decide +kernel
theorem dM_poke_7 : decode cM_poke 7 = .ok (.getfield 116, 3) := by decide +kernel
theorem dM_poke_10 : decode cM_poke 10 = .ok (.if_icmp .lt 7, 3) := by decide +kernel
theorem dM_poke_13 : decode cM_poke 13 = .ok (.iconst 1, 1) := by decide +kernel
theorem dM_poke_14 : decode cM_poke 14 = .ok (.goto 4, 3) := by decide +kernel
theorem dM_poke_17 : decode cM_poke 17 = .ok (.iconst 0, 1) := by decide +kernel
theorem dM_poke_18 : decode cM_poke 18 = .ok (.putfield 63, 3) := by decide +kernel
theorem dM_poke_21 : decode cM_poke 21 = .ok (.aload_n 0, 1) := by decide +kernel
theorem dM_poke_22 : decode cM_poke 22 = .ok (.getfield 63, 3) := by decide +kernel
theorem dM_poke_25 : decode cM_poke 25 = .ok (.ifCond .le 5, 3) := by decide +kernel
theorem dM_poke_28 : decode cM_poke 28 = .ok (.iconst 0, 1) := by decide +kernel
theorem dM_poke_29 : decode cM_poke 29 = .ok (.ireturn, 1) := by decide +kernel
theorem dM_poke_30 : decode cM_poke 30 = .ok (.aload_n 0, 1) := by decide +kernel
theorem dM_poke_31 : decode cM_poke 31 = .ok (.getfield 30, 3) := by decide +kernel
theorem dM_poke_34 : decode cM_poke 34 = .ok (.iload_n 1, 1) := by decide +kernel
theorem dM_poke_35 : decode cM_poke 35 = .ok (.baload, 1) := by decide +kernel
theorem dM_poke_36 : decode cM_poke 36 = .ok (.istore_n 3, 1) := by decide +kernel
theorem dM_poke_37 : decode cM_poke 37 = .ok (.aload_n 0, 1) := by decide +kernel
theorem dM_poke_38 : decode cM_poke 38 = .ok (.getfield 30, 3) := by decide +kernel
theorem dM_poke_41 : decode cM_poke 41 = .ok (.iload_n 1, 1) := by decide +kernel
theorem dM_poke_42 : decode cM_poke 42 = .ok (.iload_n 2, 1) := by decide +kernel
theorem dM_poke_43 : decode cM_poke 43 = .ok (.bastore, 1) := by decide +kernel
theorem dM_poke_44 : decode cM_poke 44 = .ok (.aload_n 0, 1) := by decide +kernel
theorem dM_poke_45 : decode cM_poke 45 = .ok (.iconst 1, 1) := by decide +kernel
theorem dM_poke_46 : decode cM_poke 46 = .ok (.putfield 123, 3) := by decide +kernel
theorem dM_poke_49 : decode cM_poke 49 = .ok (.iload_n 3, 1) := by decide +kernel
theorem dM_poke_50 : decode cM_poke 50 = .ok (.ireturn, 1) := by decide +kernel
abbrev cM_isRevision : ByteArray := prog_10_method_39_code
def yM_isRevision : MethodName := ⟨RM, "isRevision", "(I)Z"⟩
theorem wM_isRevision : Cond.code yM_isRevision cM_isRevision 2 (some .boolean) ∈ A9 := in9_6 32 rfl rfl
theorem dM_isRevision_0 : decode cM_isRevision 0 = .ok (.aload_n 0, 1) := by decide +kernel
theorem dM_isRevision_1 : decode cM_isRevision 1 = .ok (.iload_n 1, 1) := by decide +kernel
theorem dM_isRevision_2 : decode cM_isRevision 2 = .ok (.ifCond .lt 11, 3) := by decide +kernel
theorem dM_isRevision_5 : decode cM_isRevision 5 = .ok (.iload_n 1, 1) := by decide +kernel
theorem dM_isRevision_6 : decode cM_isRevision 6 = .ok (.aload_n 0, 1) := by decide +kernel
theorem dM_isRevision_7 : decode cM_isRevision 7 = .ok (.getfield 110, 3) := by decide +kernel
theorem dM_isRevision_10 : decode cM_isRevision 10 = .ok (.if_icmp .lt 7, 3) := by decide +kernel
theorem dM_isRevision_13 : decode cM_isRevision 13 = .ok (.iconst 1, 1) := by decide +kernel
theorem dM_isRevision_14 : decode cM_isRevision 14 = .ok (.goto 4, 3) := by decide +kernel
theorem dM_isRevision_17 : decode cM_isRevision 17 = .ok (.iconst 0, 1) := by decide +kernel
theorem dM_isRevision_18 : decode cM_isRevision 18 = .ok (.putfield 63, 3) := by decide +kernel
theorem dM_isRevision_21 : decode cM_isRevision 21 = .ok (.aload_n 0, 1) := by decide +kernel
theorem dM_isRevision_22 : decode cM_isRevision 22 = .ok (.getfield 63, 3) := by decide +kernel
theorem dM_isRevision_25 : decode cM_isRevision 25 = .ok (.ifCond .ne 7, 3) := by decide +kernel
theorem dM_isRevision_28 : decode cM_isRevision 28 = .ok (.iconst 1, 1) := by decide +kernel
theorem dM_isRevision_29 : decode cM_isRevision 29 = .ok (.goto 4, 3) := by decide +kernel
theorem dM_isRevision_32 : decode cM_isRevision 32 = .ok (.iconst 0, 1) := by decide +kernel
theorem dM_isRevision_33 : decode cM_isRevision 33 = .ok (.ireturn, 1) := by decide +kernel
abbrev cM_take : ByteArray := prog_10_method_40_code
def yM_take : MethodName := ⟨RM, "take", "(I)I"⟩
theorem wM_take : Cond.code yM_take cM_take 2 (some .int) ∈ A9 := in9_6 28 rfl rfl
theorem dM_take_0 : decode cM_take 0 = .ok (.aload_n 0, 1) := by decide +kernel
theorem dM_take_1 : decode cM_take 1 = .ok (.iload_n 1, 1) := by decide +kernel
theorem dM_take_2 : decode cM_take 2 = .ok (.invokevirtual 201, 3) := by decide +kernel
theorem dM_take_5 : decode cM_take 5 = .ok (.ifCond .ne 5, 3) := by decide +kernel
theorem dM_take_8 : decode cM_take 8 = .ok (.iconst 0, 1) := by decide +kernel
theorem dM_take_9 : decode cM_take 9 = .ok (.ireturn, 1) := by decide +kernel
theorem dM_take_10 : decode cM_take 10 = .ok (.aload_n 0, 1) := by decide +kernel
theorem dM_take_11 : decode cM_take 11 = .ok (.aload_n 0, 1) := by decide +kernel
theorem dM_take_12 : decode cM_take 12 = .ok (.getfield 33, 3) := by decide +kernel
theorem dM_take_15 : decode cM_take 15 = .ok (.iload_n 1, 1) := by decide +kernel
theorem dM_take_16 : decode cM_take 16 = .ok (.iaload, 1) := by decide +kernel
theorem dM_take_17 : decode cM_take 17 = .ok (.aload_n 0, 1) := by decide +kernel
theorem dM_take_18 : decode cM_take 18 = .ok (.getfield 116, 3) := by decide +kernel
theorem dM_take_21 : decode cM_take 21 = .ok (.if_icmp .ge 12, 3) := by decide +kernel
theorem dM_take_24 : decode cM_take 24 = .ok (.aload_n 0, 1) := by decide +kernel
theorem dM_take_25 : decode cM_take 25 = .ok (.getfield 33, 3) := by decide +kernel
theorem dM_take_28 : decode cM_take 28 = .ok (.iload_n 1, 1) := by decide +kernel
theorem dM_take_29 : decode cM_take 29 = .ok (.iaload, 1) := by decide +kernel
theorem dM_take_30 : decode cM_take 30 = .ok (.goto 7, 3) := by decide +kernel
theorem dM_take_33 : decode cM_take 33 = .ok (.aload_n 0, 1) := by decide +kernel
theorem dM_take_34 : decode cM_take 34 = .ok (.getfield 116, 3) := by decide +kernel
theorem dM_take_37 : decode cM_take 37 = .ok (.putfield 116, 3) := by decide +kernel
theorem dM_take_40 : decode cM_take 40 = .ok (.aload_n 0, 1) := by decide +kernel
theorem dM_take_41 : decode cM_take 41 = .ok (.iconst 1, 1) := by decide +kernel
theorem dM_take_42 : decode cM_take 42 = .ok (.putfield 123, 3) := by decide +kernel
theorem dM_take_45 : decode cM_take 45 = .ok (.aload_n 0, 1) := by decide +kernel
theorem dM_take_46 : decode cM_take 46 = .ok (.invokevirtual 198, 3) := by decide +kernel
theorem dM_take_49 : decode cM_take 49 = .ok (.ireturn, 1) := by decide +kernel
abbrev cM_isAlike : ByteArray := prog_10_method_46_code
def yM_isAlike : MethodName := ⟨RM, "isAlike", "(II)Z"⟩
theorem wM_isAlike : Cond.code yM_isAlike cM_isAlike 5 (some .boolean) ∈ A9 := in9_6 60 rfl rfl
theorem dM_isAlike_0 : decode cM_isAlike 0 = .ok (.aload_n 0, 1) := by decide +kernel
theorem dM_isAlike_1 : decode cM_isAlike 1 = .ok (.getfield 45, 3) := by decide +kernel
theorem dM_isAlike_4 : decode cM_isAlike 4 = .ok (.iload_n 1, 1) := by decide +kernel
theorem dM_isAlike_5 : decode cM_isAlike 5 = .ok (.iaload, 1) := by decide +kernel
theorem dM_isAlike_6 : decode cM_isAlike 6 = .ok (.aload_n 0, 1) := by decide +kernel
theorem dM_isAlike_7 : decode cM_isAlike 7 = .ok (.getfield 45, 3) := by decide +kernel
theorem dM_isAlike_10 : decode cM_isAlike 10 = .ok (.iload_n 2, 1) := by decide +kernel
theorem dM_isAlike_11 : decode cM_isAlike 11 = .ok (.iaload, 1) := by decide +kernel
theorem dM_isAlike_12 : decode cM_isAlike 12 = .ok (.if_icmp .ne 7, 3) := by decide +kernel
theorem dM_isAlike_15 : decode cM_isAlike 15 = .ok (.iconst 1, 1) := by decide +kernel
theorem dM_isAlike_16 : decode cM_isAlike 16 = .ok (.goto 4, 3) := by decide +kernel
theorem dM_isAlike_19 : decode cM_isAlike 19 = .ok (.iconst 0, 1) := by decide +kernel
theorem dM_isAlike_20 : decode cM_isAlike 20 = .ok (.istore_n 3, 1) := by decide +kernel
theorem dM_isAlike_21 : decode cM_isAlike 21 = .ok (.iconst 0, 1) := by decide +kernel
theorem dM_isAlike_22 : decode cM_isAlike 22 = .ok (.istore 4, 2) := by decide +kernel
theorem dM_isAlike_24 : decode cM_isAlike 24 = .ok (.iload 4, 2) := by decide +kernel
theorem dM_isAlike_26 : decode cM_isAlike 26 = .ok (.aload_n 0, 1) := by decide +kernel
theorem dM_isAlike_27 : decode cM_isAlike 27 = .ok (.getfield 45, 3) := by decide +kernel
theorem dM_isAlike_30 : decode cM_isAlike 30 = .ok (.iload_n 1, 1) := by decide +kernel
theorem dM_isAlike_31 : decode cM_isAlike 31 = .ok (.iaload, 1) := by decide +kernel
theorem dM_isAlike_32 : decode cM_isAlike 32 = .ok (.if_icmp .ge 50, 3) := by decide +kernel
theorem dM_isAlike_35 : decode cM_isAlike 35 = .ok (.iload_n 3, 1) := by decide +kernel
theorem dM_isAlike_36 : decode cM_isAlike 36 = .ok (.ifCond .eq 46, 3) := by decide +kernel
theorem dM_isAlike_39 : decode cM_isAlike 39 = .ok (.aload_n 0, 1) := by decide +kernel
theorem dM_isAlike_40 : decode cM_isAlike 40 = .ok (.getfield 30, 3) := by decide +kernel
theorem dM_isAlike_43 : decode cM_isAlike 43 = .ok (.aload_n 0, 1) := by decide +kernel
theorem dM_isAlike_44 : decode cM_isAlike 44 = .ok (.getfield 42, 3) := by decide +kernel
theorem dM_isAlike_47 : decode cM_isAlike 47 = .ok (.iload_n 1, 1) := by decide +kernel
theorem dM_isAlike_48 : decode cM_isAlike 48 = .ok (.iaload, 1) := by decide +kernel
theorem dM_isAlike_49 : decode cM_isAlike 49 = .ok (.iload 4, 2) := by decide +kernel
theorem dM_isAlike_51 : decode cM_isAlike 51 = .ok (.iadd, 1) := by decide +kernel
theorem dM_isAlike_52 : decode cM_isAlike 52 = .ok (.baload, 1) := by decide +kernel
theorem dM_isAlike_53 : decode cM_isAlike 53 = .ok (.aload_n 0, 1) := by decide +kernel
theorem dM_isAlike_54 : decode cM_isAlike 54 = .ok (.getfield 30, 3) := by decide +kernel
theorem dM_isAlike_57 : decode cM_isAlike 57 = .ok (.aload_n 0, 1) := by decide +kernel
theorem dM_isAlike_58 : decode cM_isAlike 58 = .ok (.getfield 42, 3) := by decide +kernel
theorem dM_isAlike_61 : decode cM_isAlike 61 = .ok (.iload_n 2, 1) := by decide +kernel
theorem dM_isAlike_62 : decode cM_isAlike 62 = .ok (.iaload, 1) := by decide +kernel
theorem dM_isAlike_63 : decode cM_isAlike 63 = .ok (.iload 4, 2) := by decide +kernel
theorem dM_isAlike_65 : decode cM_isAlike 65 = .ok (.iadd, 1) := by decide +kernel
theorem dM_isAlike_66 : decode cM_isAlike 66 = .ok (.baload, 1) := by decide +kernel
theorem dM_isAlike_67 : decode cM_isAlike 67 = .ok (.if_icmp .ne 7, 3) := by decide +kernel
theorem dM_isAlike_70 : decode cM_isAlike 70 = .ok (.iconst 1, 1) := by decide +kernel
theorem dM_isAlike_71 : decode cM_isAlike 71 = .ok (.goto 4, 3) := by decide +kernel
theorem dM_isAlike_74 : decode cM_isAlike 74 = .ok (.iconst 0, 1) := by decide +kernel
theorem dM_isAlike_75 : decode cM_isAlike 75 = .ok (.istore_n 3, 1) := by decide +kernel
theorem dM_isAlike_76 : decode cM_isAlike 76 = .ok (.iinc 4 1, 3) := by decide +kernel
theorem dM_isAlike_79 : decode cM_isAlike 79 = .ok (.goto (-55), 3) := by decide +kernel
theorem dM_isAlike_82 : decode cM_isAlike 82 = .ok (.iload_n 3, 1) := by decide +kernel
theorem dM_isAlike_83 : decode cM_isAlike 83 = .ok (.ireturn, 1) := by decide +kernel
abbrev cM_differ : ByteArray := prog_10_method_47_code
def yM_differ : MethodName := ⟨RM, "differ", "(II)I"⟩
theorem wM_differ : Cond.code yM_differ cM_differ 9 (some .int) ∈ A9 := in9_6 56 rfl rfl
theorem dM_differ_0 : decode cM_differ 0 = .ok (.aload_n 0, 1) := by decide +kernel
theorem dM_differ_1 : decode cM_differ 1 = .ok (.iload_n 1, 1) := by decide +kernel
theorem dM_differ_2 : decode cM_differ 2 = .ok (.invokevirtual 201, 3) := by decide +kernel
theorem dM_differ_5 : decode cM_differ 5 = .ok (.ifCond .eq 11, 3) := by decide +kernel
theorem dM_differ_8 : decode cM_differ 8 = .ok (.aload_n 0, 1) := by decide +kernel
theorem dM_differ_9 : decode cM_differ 9 = .ok (.iload_n 2, 1) := by decide +kernel
theorem dM_differ_10 : decode cM_differ 10 = .ok (.invokevirtual 201, 3) := by decide +kernel
theorem dM_differ_13 : decode cM_differ 13 = .ok (.ifCond .ne 5, 3) := by decide +kernel
theorem dM_differ_16 : decode cM_differ 16 = .ok (.iconst 0, 1) := by decide +kernel
theorem dM_differ_17 : decode cM_differ 17 = .ok (.ireturn, 1) := by decide +kernel
theorem dM_differ_18 : decode cM_differ 18 = .ok (.aload_n 0, 1) := by decide +kernel
theorem dM_differ_19 : decode cM_differ 19 = .ok (.iconst 0, 1) := by decide +kernel
theorem dM_differ_20 : decode cM_differ 20 = .ok (.putfield 204, 3) := by decide +kernel
theorem lM_204 : Cond.fieldLink RM 204 "RevisionWriteModel" "rows" "I" ∈ A9 := in9_5 50 (by decide +kernel) rfl
theorem dM_differ_23 : decode cM_differ 23 = .ok (.aload_n 0, 1) := by decide +kernel
theorem dM_differ_24 : decode cM_differ 24 = .ok (.iconst 1, 1) := by decide +kernel
theorem dM_differ_25 : decode cM_differ 25 = .ok (.putfield 207, 3) := by decide +kernel
theorem lM_207 : Cond.fieldLink RM 207 "RevisionWriteModel" "hasDiffered" "Z" ∈ A9 := in9_5 49 (by decide +kernel) rfl
theorem dM_differ_28 : decode cM_differ 28 = .ok (.iconst 1, 1) := by decide +kernel
theorem dM_differ_29 : decode cM_differ 29 = .ok (.istore_n 3, 1) := by decide +kernel
theorem dM_differ_30 : decode cM_differ 30 = .ok (.iload_n 3, 1) := by decide +kernel
theorem dM_differ_31 : decode cM_differ 31 = .ok (.bipush 40, 2) := by decide +kernel
theorem dM_differ_33 : decode cM_differ 33 = .ok (.if_icmp .gt 147, 3) := by decide +kernel
theorem dM_differ_36 : decode cM_differ 36 = .ok (.bipush 41, 2) := by decide +kernel
theorem dM_differ_38 : decode cM_differ 38 = .ok (.iload_n 1, 1) := by decide +kernel
theorem dM_differ_39 : decode cM_differ 39 = .ok (.imul, 1) := by decide +kernel
theorem dM_differ_40 : decode cM_differ 40 = .ok (.iload_n 3, 1) := by decide +kernel
theorem dM_differ_41 : decode cM_differ 41 = .ok (.iadd, 1) := by decide +kernel
theorem dM_differ_42 : decode cM_differ 42 = .ok (.istore 4, 2) := by decide +kernel
theorem dM_differ_44 : decode cM_differ 44 = .ok (.bipush 41, 2) := by decide +kernel
theorem dM_differ_46 : decode cM_differ 46 = .ok (.iload_n 2, 1) := by decide +kernel
theorem dM_differ_47 : decode cM_differ 47 = .ok (.imul, 1) := by decide +kernel
theorem dM_differ_48 : decode cM_differ 48 = .ok (.iload_n 3, 1) := by decide +kernel
theorem dM_differ_49 : decode cM_differ 49 = .ok (.iadd, 1) := by decide +kernel
theorem dM_differ_50 : decode cM_differ 50 = .ok (.istore 5, 2) := by decide +kernel
theorem dM_differ_52 : decode cM_differ 52 = .ok (.aload_n 0, 1) := by decide +kernel
theorem dM_differ_53 : decode cM_differ 53 = .ok (.getfield 39, 3) := by decide +kernel
theorem dM_differ_56 : decode cM_differ 56 = .ok (.iload 4, 2) := by decide +kernel
theorem dM_differ_58 : decode cM_differ 58 = .ok (.iaload, 1) := by decide +kernel
theorem dM_differ_59 : decode cM_differ 59 = .ok (.iconst (-1), 1) := by decide +kernel
theorem dM_differ_60 : decode cM_differ 60 = .ok (.if_icmp .eq 7, 3) := by decide +kernel
theorem dM_differ_63 : decode cM_differ 63 = .ok (.iconst 1, 1) := by decide +kernel
theorem dM_differ_64 : decode cM_differ 64 = .ok (.goto 4, 3) := by decide +kernel
theorem dM_differ_67 : decode cM_differ 67 = .ok (.iconst 0, 1) := by decide +kernel
theorem dM_differ_68 : decode cM_differ 68 = .ok (.istore 6, 2) := by decide +kernel
theorem dM_differ_70 : decode cM_differ 70 = .ok (.aload_n 0, 1) := by decide +kernel
theorem dM_differ_71 : decode cM_differ 71 = .ok (.getfield 39, 3) := by decide +kernel
theorem dM_differ_74 : decode cM_differ 74 = .ok (.iload 5, 2) := by decide +kernel
theorem dM_differ_76 : decode cM_differ 76 = .ok (.iaload, 1) := by decide +kernel
theorem dM_differ_77 : decode cM_differ 77 = .ok (.iconst (-1), 1) := by decide +kernel
theorem dM_differ_78 : decode cM_differ 78 = .ok (.if_icmp .eq 7, 3) := by decide +kernel
theorem dM_differ_81 : decode cM_differ 81 = .ok (.iconst 1, 1) := by decide +kernel
theorem dM_differ_82 : decode cM_differ 82 = .ok (.goto 4, 3) := by decide +kernel
theorem dM_differ_85 : decode cM_differ 85 = .ok (.iconst 0, 1) := by decide +kernel
theorem dM_differ_86 : decode cM_differ 86 = .ok (.istore 7, 2) := by decide +kernel
theorem dM_differ_88 : decode cM_differ 88 = .ok (.iload 6, 2) := by decide +kernel
theorem dM_differ_90 : decode cM_differ 90 = .ok (.ifCond .eq 27, 3) := by decide +kernel
theorem dM_differ_93 : decode cM_differ 93 = .ok (.iload 7, 2) := by decide +kernel
theorem dM_differ_95 : decode cM_differ 95 = .ok (.ifCond .eq 22, 3) := by decide +kernel
theorem dM_differ_98 : decode cM_differ 98 = .ok (.aload_n 0, 1) := by decide +kernel
theorem dM_differ_99 : decode cM_differ 99 = .ok (.iload 4, 2) := by decide +kernel
theorem dM_differ_101 : decode cM_differ 101 = .ok (.iload 5, 2) := by decide +kernel
theorem dM_differ_103 : decode cM_differ 103 = .ok (.invokevirtual 210, 3) := by decide +kernel
theorem dM_differ_106 : decode cM_differ 106 = .ok (.ifCond .eq 7, 3) := by decide +kernel
theorem dM_differ_109 : decode cM_differ 109 = .ok (.iconst 0, 1) := by decide +kernel
theorem dM_differ_110 : decode cM_differ 110 = .ok (.goto 26, 3) := by decide +kernel
theorem dM_differ_113 : decode cM_differ 113 = .ok (.iconst 3, 1) := by decide +kernel
theorem dM_differ_114 : decode cM_differ 114 = .ok (.goto 22, 3) := by decide +kernel
theorem dM_differ_117 : decode cM_differ 117 = .ok (.iload 7, 2) := by decide +kernel
theorem dM_differ_119 : decode cM_differ 119 = .ok (.ifCond .eq 7, 3) := by decide +kernel
theorem dM_differ_122 : decode cM_differ 122 = .ok (.iconst 1, 1) := by decide +kernel
theorem dM_differ_123 : decode cM_differ 123 = .ok (.goto 13, 3) := by decide +kernel
theorem dM_differ_126 : decode cM_differ 126 = .ok (.iload 6, 2) := by decide +kernel
theorem dM_differ_128 : decode cM_differ 128 = .ok (.ifCond .eq 7, 3) := by decide +kernel
theorem dM_differ_131 : decode cM_differ 131 = .ok (.iconst 2, 1) := by decide +kernel
theorem dM_differ_132 : decode cM_differ 132 = .ok (.goto 4, 3) := by decide +kernel
theorem dM_differ_135 : decode cM_differ 135 = .ok (.iconst 0, 1) := by decide +kernel
theorem dM_differ_136 : decode cM_differ 136 = .ok (.istore 8, 2) := by decide +kernel
theorem dM_differ_138 : decode cM_differ 138 = .ok (.iload 8, 2) := by decide +kernel
theorem dM_differ_140 : decode cM_differ 140 = .ok (.ifCond .le 34, 3) := by decide +kernel
theorem dM_differ_143 : decode cM_differ 143 = .ok (.aload_n 0, 1) := by decide +kernel
theorem dM_differ_144 : decode cM_differ 144 = .ok (.getfield 57, 3) := by decide +kernel
theorem dM_differ_147 : decode cM_differ 147 = .ok (.aload_n 0, 1) := by decide +kernel
theorem dM_differ_148 : decode cM_differ 148 = .ok (.getfield 204, 3) := by decide +kernel
theorem dM_differ_151 : decode cM_differ 151 = .ok (.iload_n 3, 1) := by decide +kernel
theorem dM_differ_152 : decode cM_differ 152 = .ok (.iastore, 1) := by decide +kernel
theorem dM_differ_153 : decode cM_differ 153 = .ok (.aload_n 0, 1) := by decide +kernel
theorem dM_differ_154 : decode cM_differ 154 = .ok (.getfield 60, 3) := by decide +kernel
theorem dM_differ_157 : decode cM_differ 157 = .ok (.aload_n 0, 1) := by decide +kernel
theorem dM_differ_158 : decode cM_differ 158 = .ok (.getfield 204, 3) := by decide +kernel
theorem dM_differ_161 : decode cM_differ 161 = .ok (.iload 8, 2) := by decide +kernel
theorem dM_differ_163 : decode cM_differ 163 = .ok (.iastore, 1) := by decide +kernel
theorem dM_differ_164 : decode cM_differ 164 = .ok (.aload_n 0, 1) := by decide +kernel
theorem dM_differ_165 : decode cM_differ 165 = .ok (.dup, 1) := by decide +kernel
theorem dM_differ_166 : decode cM_differ 166 = .ok (.getfield 204, 3) := by decide +kernel
theorem dM_differ_169 : decode cM_differ 169 = .ok (.iconst 1, 1) := by decide +kernel
theorem dM_differ_170 : decode cM_differ 170 = .ok (.iadd, 1) := by decide +kernel
theorem dM_differ_171 : decode cM_differ 171 = .ok (.putfield 204, 3) := by decide +kernel
theorem dM_differ_174 : decode cM_differ 174 = .ok (.iinc 3 1, 3) := by decide +kernel
theorem dM_differ_177 : decode cM_differ 177 = .ok (.goto (-147), 3) := by decide +kernel
theorem dM_differ_180 : decode cM_differ 180 = .ok (.aload_n 0, 1) := by decide +kernel
theorem dM_differ_181 : decode cM_differ 181 = .ok (.getfield 204, 3) := by decide +kernel
theorem dM_differ_184 : decode cM_differ 184 = .ok (.ireturn, 1) := by decide +kernel
