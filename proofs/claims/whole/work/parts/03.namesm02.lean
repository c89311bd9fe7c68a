theorem dM_isRecord_18 : decode cM_isRecord 18 = .ok (.bipush 32, 2) := by decide +kernel
theorem dM_isRecord_20 : decode cM_isRecord 20 = .ok (.invokevirtual 153, 3) := by decide +kernel
theorem dM_isRecord_23 : decode cM_isRecord 23 = .ok (.ifCond .eq 50, 3) := by decide +kernel
theorem dM_isRecord_26 : decode cM_isRecord 26 = .ok (.aload_n 0, 1) := by decide +kernel
theorem dM_isRecord_27 : decode cM_isRecord 27 = .ok (.invokevirtual 156, 3) := by decide +kernel
theorem dM_isRecord_30 : decode cM_isRecord 30 = .ok (.ifCond .eq 43, 3) := by decide +kernel
theorem dM_isRecord_33 : decode cM_isRecord 33 = .ok (.aload_n 0, 1) := by decide +kernel
theorem dM_isRecord_34 : decode cM_isRecord 34 = .ok (.getfield 147, 3) := by decide +kernel
theorem dM_isRecord_37 : decode cM_isRecord 37 = .ok (.iload_n 2, 1) := by decide +kernel
theorem dM_isRecord_38 : decode cM_isRecord 38 = .ok (.if_icmp .ne 35, 3) := by decide +kernel
theorem dM_isRecord_41 : decode cM_isRecord 41 = .ok (.aload_n 0, 1) := by decide +kernel
theorem dM_isRecord_42 : decode cM_isRecord 42 = .ok (.bipush 32, 2) := by decide +kernel
theorem dM_isRecord_44 : decode cM_isRecord 44 = .ok (.invokevirtual 153, 3) := by decide +kernel
theorem dM_isRecord_47 : decode cM_isRecord 47 = .ok (.ifCond .eq 26, 3) := by decide +kernel
theorem dM_isRecord_50 : decode cM_isRecord 50 = .ok (.aload_n 0, 1) := by decide +kernel
theorem dM_isRecord_51 : decode cM_isRecord 51 = .ok (.invokevirtual 156, 3) := by decide +kernel
theorem dM_isRecord_54 : decode cM_isRecord 54 = .ok (.ifCond .eq 19, 3) := by decide +kernel
theorem dM_isRecord_57 : decode cM_isRecord 57 = .ok (.aload_n 0, 1) := by decide +kernel
theorem dM_isRecord_58 : decode cM_isRecord 58 = .ok (.invokevirtual 160, 3) := by decide +kernel
theorem dM_isRecord_61 : decode cM_isRecord 61 = .ok (.ifCond .eq 12, 3) := by decide +kernel
theorem dM_isRecord_64 : decode cM_isRecord 64 = .ok (.aload_n 0, 1) := by decide +kernel
theorem dM_isRecord_65 : decode cM_isRecord 65 = .ok (.getfield 147, 3) := by decide +kernel
theorem dM_isRecord_68 : decode cM_isRecord 68 = .ok (.bipush 120, 2) := by decide +kernel
theorem dM_isRecord_70 : decode cM_isRecord 70 = .ok (.if_icmp .le 5, 3) := by decide +kernel
theorem dM_isRecord_73 : decode cM_isRecord 73 = .ok (.iconst 0, 1) := by decide +kernel
theorem dM_isRecord_74 : decode cM_isRecord 74 = .ok (.ireturn, 1) := by decide +kernel
theorem dM_isRecord_75 : decode cM_isRecord 75 = .ok (.aload_n 0, 1) := by decide +kernel
theorem dM_isRecord_76 : decode cM_isRecord 76 = .ok (.aload_n 0, 1) := by decide +kernel
theorem dM_isRecord_77 : decode cM_isRecord 77 = .ok (.getfield 144, 3) := by decide +kernel
theorem dM_isRecord_80 : decode cM_isRecord 80 = .ok (.iconst 1, 1) := by decide +kernel
theorem dM_isRecord_81 : decode cM_isRecord 81 = .ok (.iadd, 1) := by decide +kernel
theorem dM_isRecord_82 : decode cM_isRecord 82 = .ok (.putfield 113, 3) := by decide +kernel
theorem dM_isRecord_85 : decode cM_isRecord 85 = .ok (.aload_n 0, 1) := by decide +kernel
theorem dM_isRecord_86 : decode cM_isRecord 86 = .ok (.aload_n 0, 1) := by decide +kernel
theorem dM_isRecord_87 : decode cM_isRecord 87 = .ok (.getfield 147, 3) := by decide +kernel
theorem dM_isRecord_90 : decode cM_isRecord 90 = .ok (.putfield 163, 3) := by decide +kernel
theorem dM_isRecord_93 : decode cM_isRecord 93 = .ok (.aload_n 0, 1) := by decide +kernel
theorem dM_isRecord_94 : decode cM_isRecord 94 = .ok (.getfield 113, 3) := by decide +kernel
theorem dM_isRecord_97 : decode cM_isRecord 97 = .ok (.aload_n 0, 1) := by decide +kernel
theorem dM_isRecord_98 : decode cM_isRecord 98 = .ok (.getfield 163, 3) := by decide +kernel
theorem dM_isRecord_101 : decode cM_isRecord 101 = .ok (.iadd, 1) := by decide +kernel
theorem dM_isRecord_102 : decode cM_isRecord 102 = .ok (.iload_n 3, 1) := by decide +kernel
theorem dM_isRecord_103 : decode cM_isRecord 103 = .ok (.if_icmp .ge 26, 3) := by decide +kernel
theorem dM_isRecord_106 : decode cM_isRecord 106 = .ok (.aload_n 0, 1) := by decide +kernel
theorem dM_isRecord_107 : decode cM_isRecord 107 = .ok (.getfield 30, 3) := by decide +kernel
theorem dM_isRecord_110 : decode cM_isRecord 110 = .ok (.aload_n 0, 1) := by decide +kernel
theorem dM_isRecord_111 : decode cM_isRecord 111 = .ok (.getfield 113, 3) := by decide +kernel
theorem dM_isRecord_114 : decode cM_isRecord 114 = .ok (.aload_n 0, 1) := by decide +kernel
theorem dM_isRecord_115 : decode cM_isRecord 115 = .ok (.getfield 163, 3) := by decide +kernel
theorem dM_isRecord_118 : decode cM_isRecord 118 = .ok (.iadd, 1) := by decide +kernel
theorem dM_isRecord_119 : decode cM_isRecord 119 = .ok (.baload, 1) := by decide +kernel
theorem dM_isRecord_120 : decode cM_isRecord 120 = .ok (.bipush 10, 2) := by decide +kernel
theorem dM_isRecord_122 : decode cM_isRecord 122 = .ok (.if_icmp .ne 7, 3) := by decide +kernel
theorem dM_isRecord_125 : decode cM_isRecord 125 = .ok (.iconst 1, 1) := by decide +kernel
theorem dM_isRecord_126 : decode cM_isRecord 126 = .ok (.goto 4, 3) := by decide +kernel
theorem dM_isRecord_129 : decode cM_isRecord 129 = .ok (.iconst 0, 1) := by decide +kernel
theorem dM_isRecord_130 : decode cM_isRecord 130 = .ok (.ireturn, 1) := by decide +kernel
abbrev cM_wrong : ByteArray := prog_10_method_31_code
def yM_wrong : MethodName := ⟨RM, "wrong", "(I)Z"⟩
theorem wM_wrong : Cond.code yM_wrong cM_wrong 2 (some .boolean) ∈ A9 := in9_5 232 rfl rfl
theorem dM_wrong_0 : decode cM_wrong 0 = .ok (.aload_n 0, 1) := by decide +kernel
theorem dM_wrong_1 : decode cM_wrong 1 = .ok (.iload_n 1, 1) := by decide +kernel
theorem dM_wrong_2 : decode cM_wrong 2 = .ok (.putfield 166, 3) := by decide +kernel
theorem lM_166 : Cond.fieldLink RM 166 "RevisionWriteModel" "fault" "I" ∈ A9 := in9_5 44 (by decide +kernel) rfl
theorem dM_wrong_5 : decode cM_wrong 5 = .ok (.iconst 0, 1) := by decide +kernel
theorem dM_wrong_6 : decode cM_wrong 6 = .ok (.ireturn, 1) := by decide +kernel
abbrev cM_lookAt : ByteArray := prog_10_method_32_code
def yM_lookAt : MethodName := ⟨RM, "lookAt", "(I)I"⟩
theorem wM_lookAt : Cond.code yM_lookAt cM_lookAt 6 (some .int) ∈ A9 := in9_6 4 rfl rfl
theorem dM_lookAt_0 : decode cM_lookAt 0 = .ok (.aload_n 0, 1) := by decide +kernel
theorem dM_lookAt_1 : decode cM_lookAt 1 = .ok (.iload_n 1, 1) := by decide +kernel
theorem dM_lookAt_2 : decode cM_lookAt 2 = .ok (.bipush 120, 2) := by decide +kernel
theorem dM_lookAt_4 : decode cM_lookAt 4 = .ok (.invokevirtual 169, 3) := by decide +kernel
theorem dM_lookAt_7 : decode cM_lookAt 7 = .ok (.ifCond .ne 10, 3) := by decide +kernel
theorem dM_lookAt_10 : decode cM_lookAt 10 = .ok (.aload_n 0, 1) := by decide +kernel
theorem dM_lookAt_11 : decode cM_lookAt 11 = .ok (.iload_n 1, 1) := by decide +kernel
theorem dM_lookAt_12 : decode cM_lookAt 12 = .ok (.putfield 166, 3) := by decide +kernel
theorem dM_lookAt_15 : decode cM_lookAt 15 = .ok (.iconst (-1), 1) := by decide +kernel
theorem dM_lookAt_16 : decode cM_lookAt 16 = .ok (.ireturn, 1) := by decide +kernel
theorem dM_lookAt_17 : decode cM_lookAt 17 = .ok (.aload_n 0, 1) := by decide +kernel
theorem dM_lookAt_18 : decode cM_lookAt 18 = .ok (.getfield 147, 3) := by decide +kernel
theorem dM_lookAt_21 : decode cM_lookAt 21 = .ok (.istore_n 2, 1) := by decide +kernel
theorem dM_lookAt_22 : decode cM_lookAt 22 = .ok (.aload_n 0, 1) := by decide +kernel
theorem dM_lookAt_23 : decode cM_lookAt 23 = .ok (.getfield 144, 3) := by decide +kernel
theorem dM_lookAt_26 : decode cM_lookAt 26 = .ok (.iconst 1, 1) := by decide +kernel
theorem dM_lookAt_27 : decode cM_lookAt 27 = .ok (.iadd, 1) := by decide +kernel
theorem dM_lookAt_28 : decode cM_lookAt 28 = .ok (.istore_n 3, 1) := by decide +kernel
theorem dM_lookAt_29 : decode cM_lookAt 29 = .ok (.iconst 0, 1) := by decide +kernel
theorem dM_lookAt_30 : decode cM_lookAt 30 = .ok (.istore 4, 2) := by decide +kernel
theorem dM_lookAt_32 : decode cM_lookAt 32 = .ok (.iconst 0, 1) := by decide +kernel
theorem dM_lookAt_33 : decode cM_lookAt 33 = .ok (.istore 5, 2) := by decide +kernel
theorem dM_lookAt_35 : decode cM_lookAt 35 = .ok (.iload 5, 2) := by decide +kernel
theorem dM_lookAt_37 : decode cM_lookAt 37 = .ok (.iload_n 2, 1) := by decide +kernel
theorem dM_lookAt_38 : decode cM_lookAt 38 = .ok (.if_icmp .ge 64, 3) := by decide +kernel
theorem dM_lookAt_41 : decode cM_lookAt 41 = .ok (.aload_n 0, 1) := by decide +kernel
theorem dM_lookAt_42 : decode cM_lookAt 42 = .ok (.iload_n 3, 1) := by decide +kernel
theorem dM_lookAt_43 : decode cM_lookAt 43 = .ok (.invokevirtual 172, 3) := by decide +kernel
theorem dM_lookAt_46 : decode cM_lookAt 46 = .ok (.ifCond .eq 30, 3) := by decide +kernel
theorem dM_lookAt_49 : decode cM_lookAt 49 = .ok (.aload_n 0, 1) := by decide +kernel
theorem dM_lookAt_50 : decode cM_lookAt 50 = .ok (.getfield 113, 3) := by decide +kernel
theorem dM_lookAt_53 : decode cM_lookAt 53 = .ok (.invokestatic 67, 3) := by decide +kernel
theorem dM_lookAt_56 : decode cM_lookAt 56 = .ok (.ifCond .eq 20, 3) := by decide +kernel
theorem dM_lookAt_59 : decode cM_lookAt 59 = .ok (.aload_n 0, 1) := by decide +kernel
theorem dM_lookAt_60 : decode cM_lookAt 60 = .ok (.getfield 113, 3) := by decide +kernel
theorem dM_lookAt_63 : decode cM_lookAt 63 = .ok (.iload 4, 2) := by decide +kernel
theorem dM_lookAt_65 : decode cM_lookAt 65 = .ok (.if_icmp .le 11, 3) := by decide +kernel
theorem dM_lookAt_68 : decode cM_lookAt 68 = .ok (.aload_n 0, 1) := by decide +kernel
theorem dM_lookAt_69 : decode cM_lookAt 69 = .ok (.getfield 163, 3) := by decide +kernel
theorem dM_lookAt_72 : decode cM_lookAt 72 = .ok (.iload_n 1, 1) := by decide +kernel
theorem dM_lookAt_73 : decode cM_lookAt 73 = .ok (.if_icmp .lt 10, 3) := by decide +kernel
theorem dM_lookAt_76 : decode cM_lookAt 76 = .ok (.aload_n 0, 1) := by decide +kernel
theorem dM_lookAt_77 : decode cM_lookAt 77 = .ok (.iload_n 3, 1) := by decide +kernel
theorem dM_lookAt_78 : decode cM_lookAt 78 = .ok (.putfield 166, 3) := by decide +kernel
theorem dM_lookAt_81 : decode cM_lookAt 81 = .ok (.iconst (-1), 1) := by decide +kernel
theorem dM_lookAt_82 : decode cM_lookAt 82 = .ok (.ireturn, 1) := by decide +kernel
theorem dM_lookAt_83 : decode cM_lookAt 83 = .ok (.aload_n 0, 1) := by decide +kernel
theorem dM_lookAt_84 : decode cM_lookAt 84 = .ok (.getfield 113, 3) := by decide +kernel
theorem dM_lookAt_87 : decode cM_lookAt 87 = .ok (.istore 4, 2) := by decide +kernel
theorem dM_lookAt_89 : decode cM_lookAt 89 = .ok (.aload_n 0, 1) := by decide +kernel
theorem dM_lookAt_90 : decode cM_lookAt 90 = .ok (.getfield 144, 3) := by decide +kernel
theorem dM_lookAt_93 : decode cM_lookAt 93 = .ok (.iconst 1, 1) := by decide +kernel
theorem dM_lookAt_94 : decode cM_lookAt 94 = .ok (.iadd, 1) := by decide +kernel
theorem dM_lookAt_95 : decode cM_lookAt 95 = .ok (.istore_n 3, 1) := by decide +kernel
theorem dM_lookAt_96 : decode cM_lookAt 96 = .ok (.iinc 5 1, 3) := by decide +kernel
theorem dM_lookAt_99 : decode cM_lookAt 99 = .ok (.goto (-64), 3) := by decide +kernel
theorem dM_lookAt_102 : decode cM_lookAt 102 = .ok (.aload_n 0, 1) := by decide +kernel
theorem dM_lookAt_103 : decode cM_lookAt 103 = .ok (.iload_n 3, 1) := by decide +kernel
theorem dM_lookAt_104 : decode cM_lookAt 104 = .ok (.bipush 112, 2) := by decide +kernel
theorem dM_lookAt_106 : decode cM_lookAt 106 = .ok (.invokevirtual 169, 3) := by decide +kernel
theorem dM_lookAt_109 : decode cM_lookAt 109 = .ok (.ifCond .eq 27, 3) := by decide +kernel
theorem dM_lookAt_112 : decode cM_lookAt 112 = .ok (.aload_n 0, 1) := by decide +kernel
theorem dM_lookAt_113 : decode cM_lookAt 113 = .ok (.getfield 147, 3) := by decide +kernel
theorem dM_lookAt_116 : decode cM_lookAt 116 = .ok (.iload_n 1, 1) := by decide +kernel
theorem dM_lookAt_117 : decode cM_lookAt 117 = .ok (.if_icmp .ge 19, 3) := by decide +kernel
theorem dM_lookAt_120 : decode cM_lookAt 120 = .ok (.aload_n 0, 1) := by decide +kernel
theorem dM_lookAt_121 : decode cM_lookAt 121 = .ok (.getfield 147, 3) := by decide +kernel
theorem dM_lookAt_124 : decode cM_lookAt 124 = .ok (.ifCond .le 19, 3) := by decide +kernel
theorem dM_lookAt_127 : decode cM_lookAt 127 = .ok (.aload_n 0, 1) := by decide +kernel
theorem dM_lookAt_128 : decode cM_lookAt 128 = .ok (.getfield 175, 3) := by decide +kernel
theorem lM_175 : Cond.fieldLink RM 175 "RevisionWriteModel" "parts" "I" ∈ A9 := in9_5 45 (by decide +kernel) rfl
theorem dM_lookAt_131 : decode cM_lookAt 131 = .ok (.bipush 60, 2) := by decide +kernel
theorem dM_lookAt_133 : decode cM_lookAt 133 = .ok (.if_icmp .ne 10, 3) := by decide +kernel
theorem dM_lookAt_136 : decode cM_lookAt 136 = .ok (.aload_n 0, 1) := by decide +kernel
theorem dM_lookAt_137 : decode cM_lookAt 137 = .ok (.iload_n 3, 1) := by decide +kernel
theorem dM_lookAt_138 : decode cM_lookAt 138 = .ok (.putfield 166, 3) := by decide +kernel
theorem dM_lookAt_141 : decode cM_lookAt 141 = .ok (.iconst (-1), 1) := by decide +kernel
theorem dM_lookAt_142 : decode cM_lookAt 142 = .ok (.ireturn, 1) := by decide +kernel
theorem dM_lookAt_143 : decode cM_lookAt 143 = .ok (.aload_n 0, 1) := by decide +kernel
theorem dM_lookAt_144 : decode cM_lookAt 144 = .ok (.getfield 147, 3) := by decide +kernel
theorem dM_lookAt_147 : decode cM_lookAt 147 = .ok (.istore 5, 2) := by decide +kernel
theorem dM_lookAt_149 : decode cM_lookAt 149 = .ok (.aload_n 0, 1) := by decide +kernel
theorem dM_lookAt_150 : decode cM_lookAt 150 = .ok (.getfield 144, 3) := by decide +kernel
theorem dM_lookAt_153 : decode cM_lookAt 153 = .ok (.iconst 1, 1) := by decide +kernel
theorem dM_lookAt_154 : decode cM_lookAt 154 = .ok (.iadd, 1) := by decide +kernel
theorem dM_lookAt_155 : decode cM_lookAt 155 = .ok (.istore_n 3, 1) := by decide +kernel
theorem dM_lookAt_156 : decode cM_lookAt 156 = .ok (.aload_n 0, 1) := by decide +kernel
theorem dM_lookAt_157 : decode cM_lookAt 157 = .ok (.iload_n 3, 1) := by decide +kernel
theorem dM_lookAt_158 : decode cM_lookAt 158 = .ok (.bipush 101, 2) := by decide +kernel
theorem dM_lookAt_160 : decode cM_lookAt 160 = .ok (.invokevirtual 169, 3) := by decide +kernel
theorem dM_lookAt_163 : decode cM_lookAt 163 = .ok (.ifCond .eq 11, 3) := by decide +kernel
theorem dM_lookAt_166 : decode cM_lookAt 166 = .ok (.aload_n 0, 1) := by decide +kernel
theorem dM_lookAt_167 : decode cM_lookAt 167 = .ok (.getfield 147, 3) := by decide +kernel
theorem dM_lookAt_170 : decode cM_lookAt 170 = .ok (.iload_n 1, 1) := by decide +kernel
theorem dM_lookAt_171 : decode cM_lookAt 171 = .ok (.if_icmp .eq 10, 3) := by decide +kernel
theorem dM_lookAt_174 : decode cM_lookAt 174 = .ok (.aload_n 0, 1) := by decide +kernel
theorem dM_lookAt_175 : decode cM_lookAt 175 = .ok (.iload_n 3, 1) := by decide +kernel
theorem dM_lookAt_176 : decode cM_lookAt 176 = .ok (.putfield 166, 3) := by decide +kernel
theorem dM_lookAt_179 : decode cM_lookAt 179 = .ok (.iconst (-1), 1) := by decide +kernel
theorem dM_lookAt_180 : decode cM_lookAt 180 = .ok (.ireturn, 1) := by decide +kernel
theorem dM_lookAt_181 : decode cM_lookAt 181 = .ok (.aload_n 0, 1) := by decide +kernel
theorem dM_lookAt_182 : decode cM_lookAt 182 = .ok (.getfield 175, 3) := by decide +kernel
theorem dM_lookAt_185 : decode cM_lookAt 185 = .ok (.iconst 1, 1) := by decide +kernel
theorem dM_lookAt_186 : decode cM_lookAt 186 = .ok (.if_icmp .ne 28, 3) := by decide +kernel
theorem dM_lookAt_189 : decode cM_lookAt 189 = .ok (.aload_n 0, 1) := by decide +kernel
theorem dM_lookAt_190 : decode cM_lookAt 190 = .ok (.getfield 144, 3) := by decide +kernel
theorem dM_lookAt_193 : decode cM_lookAt 193 = .ok (.iconst 1, 1) := by decide +kernel
theorem dM_lookAt_194 : decode cM_lookAt 194 = .ok (.iadd, 1) := by decide +kernel
theorem dM_lookAt_195 : decode cM_lookAt 195 = .ok (.aload_n 0, 1) := by decide +kernel
theorem dM_lookAt_196 : decode cM_lookAt 196 = .ok (.getfield 116, 3) := by decide +kernel
theorem dM_lookAt_199 : decode cM_lookAt 199 = .ok (.if_icmp .eq 15, 3) := by decide +kernel
theorem dM_lookAt_202 : decode cM_lookAt 202 = .ok (.aload_n 0, 1) := by decide +kernel
theorem dM_lookAt_203 : decode cM_lookAt 203 = .ok (.aload_n 0, 1) := by decide +kernel
theorem dM_lookAt_204 : decode cM_lookAt 204 = .ok (.getfield 144, 3) := by decide +kernel
theorem dM_lookAt_207 : decode cM_lookAt 207 = .ok (.iconst 1, 1) := by decide +kernel
theorem dM_lookAt_208 : decode cM_lookAt 208 = .ok (.iadd, 1) := by decide +kernel
theorem dM_lookAt_209 : decode cM_lookAt 209 = .ok (.putfield 166, 3) := by decide +kernel
theorem dM_lookAt_212 : decode cM_lookAt 212 = .ok (.iconst (-1), 1) := by decide +kernel
theorem dM_lookAt_213 : decode cM_lookAt 213 = .ok (.ireturn, 1) := by decide +kernel
theorem dM_lookAt_214 : decode cM_lookAt 214 = .ok (.aload_n 0, 1) := by decide +kernel
theorem dM_lookAt_215 : decode cM_lookAt 215 = .ok (.iload_n 1, 1) := by decide +kernel
theorem dM_lookAt_216 : decode cM_lookAt 216 = .ok (.iload_n 2, 1) := by decide +kernel
theorem dM_lookAt_217 : decode cM_lookAt 217 = .ok (.invokevirtual 178, 3) := by decide +kernel
theorem dM_lookAt_220 : decode cM_lookAt 220 = .ok (.ifCond .eq 8, 3) := by decide +kernel
theorem dM_lookAt_223 : decode cM_lookAt 223 = .ok (.iload 5, 2) := by decide +kernel
theorem dM_lookAt_225 : decode cM_lookAt 225 = .ok (.goto 4, 3) := by decide +kernel
theorem dM_lookAt_228 : decode cM_lookAt 228 = .ok (.iconst (-1), 1) := by decide +kernel
theorem dM_lookAt_229 : decode cM_lookAt 229 = .ok (.ireturn, 1) := by decide +kernel
abbrev cM_recordsStand : ByteArray := prog_10_method_33_code
def yM_recordsStand : MethodName := ⟨RM, "recordsStand", "(II)Z"⟩
theorem wM_recordsStand : Cond.code yM_recordsStand cM_recordsStand 7 (some .boolean) ∈ A9 := in9_6 12 rfl rfl
theorem dM_recordsStand_0 : decode cM_recordsStand 0 = .ok (.aload_n 0, 1) := by decide +kernel
theorem dM_recordsStand_1 : decode cM_recordsStand 1 = .ok (.iload_n 1, 1) := by decide +kernel
theorem dM_recordsStand_2 : decode cM_recordsStand 2 = .ok (.invokevirtual 150, 3) := by decide +kernel
theorem dM_recordsStand_5 : decode cM_recordsStand 5 = .ok (.pop, 1) := by decide +kernel
theorem dM_recordsStand_6 : decode cM_recordsStand 6 = .ok (.aload_n 0, 1) := by decide +kernel
theorem dM_recordsStand_7 : decode cM_recordsStand 7 = .ok (.getfield 144, 3) := by decide +kernel
theorem dM_recordsStand_10 : decode cM_recordsStand 10 = .ok (.iconst 1, 1) := by decide +kernel
theorem dM_recordsStand_11 : decode cM_recordsStand 11 = .ok (.iadd, 1) := by decide +kernel
theorem dM_recordsStand_12 : decode cM_recordsStand 12 = .ok (.istore_n 3, 1) := by decide +kernel
theorem dM_recordsStand_13 : decode cM_recordsStand 13 = .ok (.iconst 0, 1) := by decide +kernel
theorem dM_recordsStand_14 : decode cM_recordsStand 14 = .ok (.istore 4, 2) := by decide +kernel
theorem dM_recordsStand_16 : decode cM_recordsStand 16 = .ok (.iload 4, 2) := by decide +kernel
theorem dM_recordsStand_18 : decode cM_recordsStand 18 = .ok (.iload_n 2, 1) := by decide +kernel
theorem dM_recordsStand_19 : decode cM_recordsStand 19 = .ok (.if_icmp .ge 61, 3) := by decide +kernel
theorem dM_recordsStand_22 : decode cM_recordsStand 22 = .ok (.aload_n 0, 1) := by decide +kernel
theorem dM_recordsStand_23 : decode cM_recordsStand 23 = .ok (.iload_n 3, 1) := by decide +kernel
theorem dM_recordsStand_24 : decode cM_recordsStand 24 = .ok (.invokevirtual 172, 3) := by decide +kernel
theorem dM_recordsStand_27 : decode cM_recordsStand 27 = .ok (.istore 5, 2) := by decide +kernel
theorem dM_recordsStand_29 : decode cM_recordsStand 29 = .ok (.aload_n 0, 1) := by decide +kernel
theorem dM_recordsStand_30 : decode cM_recordsStand 30 = .ok (.getfield 163, 3) := by decide +kernel
theorem dM_recordsStand_33 : decode cM_recordsStand 33 = .ok (.istore 6, 2) := by decide +kernel
theorem dM_recordsStand_35 : decode cM_recordsStand 35 = .ok (.aload_n 0, 1) := by decide +kernel
theorem dM_recordsStand_36 : decode cM_recordsStand 36 = .ok (.getfield 144, 3) := by decide +kernel
theorem dM_recordsStand_39 : decode cM_recordsStand 39 = .ok (.iconst 1, 1) := by decide +kernel
theorem dM_recordsStand_40 : decode cM_recordsStand 40 = .ok (.iadd, 1) := by decide +kernel
theorem dM_recordsStand_41 : decode cM_recordsStand 41 = .ok (.istore_n 3, 1) := by decide +kernel
theorem dM_recordsStand_42 : decode cM_recordsStand 42 = .ok (.iload 5, 2) := by decide +kernel
theorem dM_recordsStand_44 : decode cM_recordsStand 44 = .ok (.ifCond .eq 30, 3) := by decide +kernel
theorem dM_recordsStand_47 : decode cM_recordsStand 47 = .ok (.iload 6, 2) := by decide +kernel
theorem dM_recordsStand_49 : decode cM_recordsStand 49 = .ok (.iconst (-1), 1) := by decide +kernel
theorem dM_recordsStand_50 : decode cM_recordsStand 50 = .ok (.if_icmp .eq 24, 3) := by decide +kernel
theorem dM_recordsStand_53 : decode cM_recordsStand 53 = .ok (.aload_n 0, 1) := by decide +kernel
theorem dM_recordsStand_54 : decode cM_recordsStand 54 = .ok (.iload 6, 2) := by decide +kernel
theorem dM_recordsStand_56 : decode cM_recordsStand 56 = .ok (.aload_n 0, 1) := by decide +kernel
theorem dM_recordsStand_57 : decode cM_recordsStand 57 = .ok (.getfield 113, 3) := by decide +kernel
theorem dM_recordsStand_60 : decode cM_recordsStand 60 = .ok (.iload_n 1, 1) := by decide +kernel
theorem dM_recordsStand_61 : decode cM_recordsStand 61 = .ok (.invokevirtual 181, 3) := by decide +kernel
theorem dM_recordsStand_64 : decode cM_recordsStand 64 = .ok (.ifCond .ne 10, 3) := by decide +kernel
theorem dM_recordsStand_67 : decode cM_recordsStand 67 = .ok (.aload_n 0, 1) := by decide +kernel
theorem dM_recordsStand_68 : decode cM_recordsStand 68 = .ok (.iload 6, 2) := by decide +kernel
theorem dM_recordsStand_70 : decode cM_recordsStand 70 = .ok (.invokevirtual 185, 3) := by decide +kernel
theorem dM_recordsStand_73 : decode cM_recordsStand 73 = .ok (.ireturn, 1) := by decide +kernel
theorem dM_recordsStand_74 : decode cM_recordsStand 74 = .ok (.iinc 4 1, 3) := by decide +kernel
theorem dM_recordsStand_77 : decode cM_recordsStand 77 = .ok (.goto (-61), 3) := by decide +kernel
theorem dM_recordsStand_80 : decode cM_recordsStand 80 = .ok (.iconst 1, 1) := by decide +kernel
theorem dM_recordsStand_81 : decode cM_recordsStand 81 = .ok (.ireturn, 1) := by decide +kernel
abbrev cM_isFile : ByteArray := prog_10_method_34_code
def yM_isFile : MethodName := ⟨RM, "isFile", "()Z"⟩
theorem wM_isFile : Cond.code yM_isFile cM_isFile 4 (some .boolean) ∈ A9 := in9_5 216 rfl rfl
theorem dM_isFile_0 : decode cM_isFile 0 = .ok (.aload_n 0, 1) := by decide +kernel
theorem dM_isFile_1 : decode cM_isFile 1 = .ok (.iconst 0, 1) := by decide +kernel
theorem dM_isFile_2 : decode cM_isFile 2 = .ok (.invokevirtual 150, 3) := by decide +kernel
theorem dM_isFile_5 : decode cM_isFile 5 = .ok (.ifCond .eq 37, 3) := by decide +kernel
theorem dM_isFile_8 : decode cM_isFile 8 = .ok (.aload_n 0, 1) := by decide +kernel
theorem dM_isFile_9 : decode cM_isFile 9 = .ok (.bipush 37, 2) := by decide +kernel
theorem dM_isFile_11 : decode cM_isFile 11 = .ok (.invokevirtual 153, 3) := by decide +kernel
theorem dM_isFile_14 : decode cM_isFile 14 = .ok (.ifCond .eq 28, 3) := by decide +kernel
theorem dM_isFile_17 : decode cM_isFile 17 = .ok (.aload_n 0, 1) := by decide +kernel
theorem dM_isFile_18 : decode cM_isFile 18 = .ok (.bipush 70, 2) := by decide +kernel
theorem dM_isFile_20 : decode cM_isFile 20 = .ok (.invokevirtual 153, 3) := by decide +kernel
theorem dM_isFile_23 : decode cM_isFile 23 = .ok (.ifCond .eq 19, 3) := by decide +kernel
theorem dM_isFile_26 : decode cM_isFile 26 = .ok (.aload_n 0, 1) := by decide +kernel
theorem dM_isFile_27 : decode cM_isFile 27 = .ok (.bipush 49, 2) := by decide +kernel
theorem dM_isFile_29 : decode cM_isFile 29 = .ok (.invokevirtual 153, 3) := by decide +kernel
theorem dM_isFile_32 : decode cM_isFile 32 = .ok (.ifCond .eq 10, 3) := by decide +kernel
theorem dM_isFile_35 : decode cM_isFile 35 = .ok (.aload_n 0, 1) := by decide +kernel
theorem dM_isFile_36 : decode cM_isFile 36 = .ok (.invokevirtual 160, 3) := by decide +kernel
theorem dM_isFile_39 : decode cM_isFile 39 = .ok (.ifCond .ne 9, 3) := by decide +kernel
theorem dM_isFile_42 : decode cM_isFile 42 = .ok (.aload_n 0, 1) := by decide +kernel
theorem dM_isFile_43 : decode cM_isFile 43 = .ok (.iconst 0, 1) := by decide +kernel
theorem dM_isFile_44 : decode cM_isFile 44 = .ok (.invokevirtual 185, 3) := by decide +kernel
theorem dM_isFile_47 : decode cM_isFile 47 = .ok (.ireturn, 1) := by decide +kernel
theorem dM_isFile_48 : decode cM_isFile 48 = .ok (.aload_n 0, 1) := by decide +kernel
theorem dM_isFile_49 : decode cM_isFile 49 = .ok (.getfield 30, 3) := by decide +kernel
theorem dM_isFile_52 : decode cM_isFile 52 = .ok (.aload_n 0, 1) := by decide +kernel
theorem dM_isFile_53 : decode cM_isFile 53 = .ok (.getfield 116, 3) := by decide +kernel
theorem dM_isFile_56 : decode cM_isFile 56 = .ok (.iconst 1, 1) := by decide +kernel
theorem dM_isFile_57 : decode cM_isFile 57 = .ok (.isub, 1) := by decide +kernel
theorem dM_isFile_58 : decode cM_isFile 58 = .ok (.baload, 1) := by decide +kernel
theorem dM_isFile_59 : decode cM_isFile 59 = .ok (.bipush 10, 2) := by decide +kernel
theorem dM_isFile_61 : decode cM_isFile 61 = .ok (.if_icmp .eq 12, 3) := by decide +kernel
theorem dM_isFile_64 : decode cM_isFile 64 = .ok (.aload_n 0, 1) := by decide +kernel
theorem dM_isFile_65 : decode cM_isFile 65 = .ok (.aload_n 0, 1) := by decide +kernel
theorem dM_isFile_66 : decode cM_isFile 66 = .ok (.getfield 116, 3) := by decide +kernel
theorem dM_isFile_69 : decode cM_isFile 69 = .ok (.invokevirtual 185, 3) := by decide +kernel
theorem dM_isFile_72 : decode cM_isFile 72 = .ok (.ireturn, 1) := by decide +kernel
theorem dM_isFile_73 : decode cM_isFile 73 = .ok (.aload_n 0, 1) := by decide +kernel
theorem dM_isFile_74 : decode cM_isFile 74 = .ok (.getfield 116, 3) := by decide +kernel
theorem dM_isFile_77 : decode cM_isFile 77 = .ok (.iconst 1, 1) := by decide +kernel
theorem dM_isFile_78 : decode cM_isFile 78 = .ok (.isub, 1) := by decide +kernel
theorem dM_isFile_79 : decode cM_isFile 79 = .ok (.istore_n 1, 1) := by decide +kernel
theorem dM_isFile_80 : decode cM_isFile 80 = .ok (.iload_n 1, 1) := by decide +kernel
theorem dM_isFile_81 : decode cM_isFile 81 = .ok (.ifCond .le 22, 3) := by decide +kernel
theorem dM_isFile_84 : decode cM_isFile 84 = .ok (.aload_n 0, 1) := by decide +kernel
theorem dM_isFile_85 : decode cM_isFile 85 = .ok (.getfield 30, 3) := by decide +kernel
theorem dM_isFile_88 : decode cM_isFile 88 = .ok (.iload_n 1, 1) := by decide +kernel
theorem dM_isFile_89 : decode cM_isFile 89 = .ok (.iconst 1, 1) := by decide +kernel
theorem dM_isFile_90 : decode cM_isFile 90 = .ok (.isub, 1) := by decide +kernel
theorem dM_isFile_91 : decode cM_isFile 91 = .ok (.baload, 1) := by decide +kernel
theorem dM_isFile_92 : decode cM_isFile 92 = .ok (.bipush 10, 2) := by decide +kernel
theorem dM_isFile_94 : decode cM_isFile 94 = .ok (.if_icmp .eq 9, 3) := by decide +kernel
theorem dM_isFile_97 : decode cM_isFile 97 = .ok (.iinc 1 (-1), 3) := by decide +kernel
theorem dM_isFile_100 : decode cM_isFile 100 = .ok (.goto (-20), 3) := by decide +kernel
theorem dM_isFile_103 : decode cM_isFile 103 = .ok (.aload_n 0, 1) := by decide +kernel
theorem dM_isFile_104 : decode cM_isFile 104 = .ok (.iload_n 1, 1) := by decide +kernel
theorem dM_isFile_105 : decode cM_isFile 105 = .ok (.bipush 101, 2) := by decide +kernel
theorem dM_isFile_107 : decode cM_isFile 107 = .ok (.invokevirtual 169, 3) := by decide +kernel
theorem dM_isFile_110 : decode cM_isFile 110 = .ok (.ifCond .eq 11, 3) := by decide +kernel
theorem dM_isFile_113 : decode cM_isFile 113 = .ok (.aload_n 0, 1) := by decide +kernel
theorem dM_isFile_114 : decode cM_isFile 114 = .ok (.getfield 147, 3) := by decide +kernel
theorem dM_isFile_117 : decode cM_isFile 117 = .ok (.iload_n 1, 1) := by decide +kernel
theorem dM_isFile_118 : decode cM_isFile 118 = .ok (.if_icmp .lt 9, 3) := by decide +kernel
theorem dM_isFile_121 : decode cM_isFile 121 = .ok (.aload_n 0, 1) := by decide +kernel
theorem dM_isFile_122 : decode cM_isFile 122 = .ok (.iload_n 1, 1) := by decide +kernel
theorem dM_isFile_123 : decode cM_isFile 123 = .ok (.invokevirtual 185, 3) := by decide +kernel
theorem dM_isFile_126 : decode cM_isFile 126 = .ok (.ireturn, 1) := by decide +kernel
theorem dM_isFile_127 : decode cM_isFile 127 = .ok (.aload_n 0, 1) := by decide +kernel
theorem dM_isFile_128 : decode cM_isFile 128 = .ok (.getfield 147, 3) := by decide +kernel
theorem dM_isFile_131 : decode cM_isFile 131 = .ok (.istore_n 2, 1) := by decide +kernel
theorem dM_isFile_132 : decode cM_isFile 132 = .ok (.aload_n 0, 1) := by decide +kernel
theorem dM_isFile_133 : decode cM_isFile 133 = .ok (.iconst 0, 1) := by decide +kernel
theorem dM_isFile_134 : decode cM_isFile 134 = .ok (.putfield 175, 3) := by decide +kernel
theorem dM_isFile_137 : decode cM_isFile 137 = .ok (.iconst 1, 1) := by decide +kernel
theorem dM_isFile_138 : decode cM_isFile 138 = .ok (.istore_n 3, 1) := by decide +kernel
theorem dM_isFile_139 : decode cM_isFile 139 = .ok (.iload_n 3, 1) := by decide +kernel
theorem dM_isFile_140 : decode cM_isFile 140 = .ok (.ifCond .eq 49, 3) := by decide +kernel
theorem dM_isFile_143 : decode cM_isFile 143 = .ok (.aload_n 0, 1) := by decide +kernel
theorem dM_isFile_144 : decode cM_isFile 144 = .ok (.getfield 54, 3) := by decide +kernel
theorem dM_isFile_147 : decode cM_isFile 147 = .ok (.aload_n 0, 1) := by decide +kernel
theorem dM_isFile_148 : decode cM_isFile 148 = .ok (.getfield 175, 3) := by decide +kernel
theorem dM_isFile_151 : decode cM_isFile 151 = .ok (.iload_n 2, 1) := by decide +kernel
theorem dM_isFile_152 : decode cM_isFile 152 = .ok (.iastore, 1) := by decide +kernel
theorem dM_isFile_153 : decode cM_isFile 153 = .ok (.aload_n 0, 1) := by decide +kernel
theorem dM_isFile_154 : decode cM_isFile 154 = .ok (.dup, 1) := by decide +kernel
theorem dM_isFile_155 : decode cM_isFile 155 = .ok (.getfield 175, 3) := by decide +kernel
theorem dM_isFile_158 : decode cM_isFile 158 = .ok (.iconst 1, 1) := by decide +kernel
theorem dM_isFile_159 : decode cM_isFile 159 = .ok (.iadd, 1) := by decide +kernel
theorem dM_isFile_160 : decode cM_isFile 160 = .ok (.putfield 175, 3) := by decide +kernel
theorem dM_isFile_163 : decode cM_isFile 163 = .ok (.aload_n 0, 1) := by decide +kernel
theorem dM_isFile_164 : decode cM_isFile 164 = .ok (.iload_n 2, 1) := by decide +kernel
theorem dM_isFile_165 : decode cM_isFile 165 = .ok (.invokevirtual 188, 3) := by decide +kernel
theorem dM_isFile_168 : decode cM_isFile 168 = .ok (.istore_n 2, 1) := by decide +kernel
theorem dM_isFile_169 : decode cM_isFile 169 = .ok (.iload_n 2, 1) := by decide +kernel
theorem dM_isFile_170 : decode cM_isFile 170 = .ok (.iconst (-1), 1) := by decide +kernel
theorem dM_isFile_171 : decode cM_isFile 171 = .ok (.if_icmp .ne 5, 3) := by decide +kernel
theorem dM_isFile_174 : decode cM_isFile 174 = .ok (.iconst 0, 1) := by decide +kernel
theorem dM_isFile_175 : decode cM_isFile 175 = .ok (.ireturn, 1) := by decide +kernel
theorem dM_isFile_176 : decode cM_isFile 176 = .ok (.iload_n 2, 1) := by decide +kernel
theorem dM_isFile_177 : decode cM_isFile 177 = .ok (.ifCond .le 7, 3) := by decide +kernel
theorem dM_isFile_180 : decode cM_isFile 180 = .ok (.iconst 1, 1) := by decide +kernel
theorem dM_isFile_181 : decode cM_isFile 181 = .ok (.goto 4, 3) := by decide +kernel
theorem dM_isFile_184 : decode cM_isFile 184 = .ok (.iconst 0, 1) := by decide +kernel
theorem dM_isFile_185 : decode cM_isFile 185 = .ok (.istore_n 3, 1) := by decide +kernel
theorem dM_isFile_186 : decode cM_isFile 186 = .ok (.goto (-47), 3) := by decide +kernel
theorem dM_isFile_189 : decode cM_isFile 189 = .ok (.iconst 1, 1) := by decide +kernel
theorem dM_isFile_190 : decode cM_isFile 190 = .ok (.ireturn, 1) := by decide +kernel
abbrev cM_learn : ByteArray := prog_10_method_35_code
def yM_learn : MethodName := ⟨RM, "learn", "()V"⟩
theorem wM_learn : Cond.code yM_learn cM_learn 7 none ∈ A9 := in9_6 20 rfl rfl
theorem dM_learn_0 : decode cM_learn 0 = .ok (.aload_n 0, 1) := by decide +kernel
theorem dM_learn_1 : decode cM_learn 1 = .ok (.iconst 0, 1) := by decide +kernel
theorem dM_learn_2 : decode cM_learn 2 = .ok (.putfield 110, 3) := by decide +kernel
theorem dM_learn_5 : decode cM_learn 5 = .ok (.aload_n 0, 1) := by decide +kernel
theorem dM_learn_6 : decode cM_learn 6 = .ok (.getfield 175, 3) := by decide +kernel
theorem dM_learn_9 : decode cM_learn 9 = .ok (.iconst 1, 1) := by decide +kernel
theorem dM_learn_10 : decode cM_learn 10 = .ok (.isub, 1) := by decide +kernel
theorem dM_learn_11 : decode cM_learn 11 = .ok (.istore_n 1, 1) := by decide +kernel
theorem dM_learn_12 : decode cM_learn 12 = .ok (.iload_n 1, 1) := by decide +kernel
theorem dM_learn_13 : decode cM_learn 13 = .ok (.ifCond .lt 303, 3) := by decide +kernel
theorem dM_learn_16 : decode cM_learn 16 = .ok (.bipush 41, 2) := by decide +kernel
theorem dM_learn_18 : decode cM_learn 18 = .ok (.aload_n 0, 1) := by decide +kernel
theorem dM_learn_19 : decode cM_learn 19 = .ok (.getfield 110, 3) := by decide +kernel
theorem dM_learn_22 : decode cM_learn 22 = .ok (.imul, 1) := by decide +kernel
theorem dM_learn_23 : decode cM_learn 23 = .ok (.istore_n 2, 1) := by decide +kernel
theorem dM_learn_24 : decode cM_learn 24 = .ok (.iconst 1, 1) := by decide +kernel
theorem dM_learn_25 : decode cM_learn 25 = .ok (.istore_n 3, 1) := by decide +kernel
theorem dM_learn_26 : decode cM_learn 26 = .ok (.iload_n 3, 1) := by decide +kernel
theorem dM_learn_27 : decode cM_learn 27 = .ok (.bipush 40, 2) := by decide +kernel
theorem dM_learn_29 : decode cM_learn 29 = .ok (.if_icmp .gt 99, 3) := by decide +kernel
theorem dM_learn_32 : decode cM_learn 32 = .ok (.aload_n 0, 1) := by decide +kernel
theorem dM_learn_33 : decode cM_learn 33 = .ok (.getfield 39, 3) := by decide +kernel
theorem dM_learn_36 : decode cM_learn 36 = .ok (.iload_n 2, 1) := by decide +kernel
theorem dM_learn_37 : decode cM_learn 37 = .ok (.iload_n 3, 1) := by decide +kernel
theorem dM_learn_38 : decode cM_learn 38 = .ok (.iadd, 1) := by decide +kernel
theorem dM_learn_39 : decode cM_learn 39 = .ok (.aload_n 0, 1) := by decide +kernel
theorem dM_learn_40 : decode cM_learn 40 = .ok (.getfield 110, 3) := by decide +kernel
theorem dM_learn_43 : decode cM_learn 43 = .ok (.ifCond .ne 7, 3) := by decide +kernel
theorem dM_learn_46 : decode cM_learn 46 = .ok (.iconst (-1), 1) := by decide +kernel
theorem dM_learn_47 : decode cM_learn 47 = .ok (.goto 14, 3) := by decide +kernel
theorem dM_learn_50 : decode cM_learn 50 = .ok (.aload_n 0, 1) := by decide +kernel
theorem dM_learn_51 : decode cM_learn 51 = .ok (.getfield 39, 3) := by decide +kernel
theorem dM_learn_54 : decode cM_learn 54 = .ok (.iload_n 2, 1) := by decide +kernel
theorem dM_learn_55 : decode cM_learn 55 = .ok (.bipush 41, 2) := by decide +kernel
theorem dM_learn_57 : decode cM_learn 57 = .ok (.isub, 1) := by decide +kernel
theorem dM_learn_58 : decode cM_learn 58 = .ok (.iload_n 3, 1) := by decide +kernel
theorem dM_learn_59 : decode cM_learn 59 = .ok (.iadd, 1) := by decide +kernel
theorem dM_learn_60 : decode cM_learn 60 = .ok (.iaload, 1) := by decide +kernel
theorem dM_learn_61 : decode cM_learn 61 = .ok (.iastore, 1) := by decide +kernel
theorem dM_learn_62 : decode cM_learn 62 = .ok (.aload_n 0, 1) := by decide +kernel
theorem dM_learn_63 : decode cM_learn 63 = .ok (.getfield 42, 3) := by decide +kernel
theorem dM_learn_66 : decode cM_learn 66 = .ok (.iload_n 2, 1) := by decide +kernel
theorem dM_learn_67 : decode cM_learn 67 = .ok (.iload_n 3, 1) := by decide +kernel
theorem dM_learn_68 : decode cM_learn 68 = .ok (.iadd, 1) := by decide +kernel
theorem dM_learn_69 : decode cM_learn 69 = .ok (.aload_n 0, 1) := by decide +kernel
theorem dM_learn_70 : decode cM_learn 70 = .ok (.getfield 110, 3) := by decide +kernel
theorem dM_learn_73 : decode cM_learn 73 = .ok (.ifCond .ne 7, 3) := by decide +kernel
theorem dM_learn_76 : decode cM_learn 76 = .ok (.iconst 0, 1) := by decide +kernel
theorem dM_learn_77 : decode cM_learn 77 = .ok (.goto 14, 3) := by decide +kernel
theorem dM_learn_80 : decode cM_learn 80 = .ok (.aload_n 0, 1) := by decide +kernel
theorem dM_learn_81 : decode cM_learn 81 = .ok (.getfield 42, 3) := by decide +kernel
theorem dM_learn_84 : decode cM_learn 84 = .ok (.iload_n 2, 1) := by decide +kernel
theorem dM_learn_85 : decode cM_learn 85 = .ok (.bipush 41, 2) := by decide +kernel
theorem dM_learn_87 : decode cM_learn 87 = .ok (.isub, 1) := by decide +kernel
theorem dM_learn_88 : decode cM_learn 88 = .ok (.iload_n 3, 1) := by decide +kernel
theorem dM_learn_89 : decode cM_learn 89 = .ok (.iadd, 1) := by decide +kernel
theorem dM_learn_90 : decode cM_learn 90 = .ok (.iaload, 1) := by decide +kernel
theorem dM_learn_91 : decode cM_learn 91 = .ok (.iastore, 1) := by decide +kernel
theorem dM_learn_92 : decode cM_learn 92 = .ok (.aload_n 0, 1) := by decide +kernel
theorem dM_learn_93 : decode cM_learn 93 = .ok (.getfield 45, 3) := by decide +kernel
theorem dM_learn_96 : decode cM_learn 96 = .ok (.iload_n 2, 1) := by decide +kernel
theorem dM_learn_97 : decode cM_learn 97 = .ok (.iload_n 3, 1) := by decide +kernel
theorem dM_learn_98 : decode cM_learn 98 = .ok (.iadd, 1) := by decide +kernel
theorem dM_learn_99 : decode cM_learn 99 = .ok (.aload_n 0, 1) := by decide +kernel
theorem dM_learn_100 : decode cM_learn 100 = .ok (.getfield 110, 3) := by decide +kernel
theorem dM_learn_103 : decode cM_learn 103 = .ok (.ifCond .ne 7, 3) := by decide +kernel
theorem dM_learn_106 : decode cM_learn 106 = .ok (.iconst 0, 1) := by decide +kernel
theorem dM_learn_107 : decode cM_learn 107 = .ok (.goto 14, 3) := by decide +kernel
theorem dM_learn_110 : decode cM_learn 110 = .ok (.aload_n 0, 1) := by decide +kernel
theorem dM_learn_111 : decode cM_learn 111 = .ok (.getfield 45, 3) := by decide +kernel
theorem dM_learn_114 : decode cM_learn 114 = .ok (.iload_n 2, 1) := by decide +kernel
theorem dM_learn_115 : decode cM_learn 115 = .ok (.bipush 41, 2) := by decide +kernel
theorem dM_learn_117 : decode cM_learn 117 = .ok (.isub, 1) := by decide +kernel
theorem dM_learn_118 : decode cM_learn 118 = .ok (.iload_n 3, 1) := by decide +kernel
theorem dM_learn_119 : decode cM_learn 119 = .ok (.iadd, 1) := by decide +kernel
theorem dM_learn_120 : decode cM_learn 120 = .ok (.iaload, 1) := by decide +kernel
theorem dM_learn_121 : decode cM_learn 121 = .ok (.iastore, 1) := by decide +kernel
theorem dM_learn_122 : decode cM_learn 122 = .ok (.iinc 3 1, 3) := by decide +kernel
theorem dM_learn_125 : decode cM_learn 125 = .ok (.goto (-99), 3) := by decide +kernel
theorem dM_learn_128 : decode cM_learn 128 = .ok (.aload_n 0, 1) := by decide +kernel
theorem dM_learn_129 : decode cM_learn 129 = .ok (.aload_n 0, 1) := by decide +kernel
theorem dM_learn_130 : decode cM_learn 130 = .ok (.getfield 54, 3) := by decide +kernel
theorem dM_learn_133 : decode cM_learn 133 = .ok (.iload_n 1, 1) := by decide +kernel
theorem dM_learn_134 : decode cM_learn 134 = .ok (.iaload, 1) := by decide +kernel
theorem dM_learn_135 : decode cM_learn 135 = .ok (.bipush 120, 2) := by decide +kernel
theorem dM_learn_137 : decode cM_learn 137 = .ok (.invokevirtual 169, 3) := by decide +kernel
theorem dM_learn_140 : decode cM_learn 140 = .ok (.pop, 1) := by decide +kernel
theorem dM_learn_141 : decode cM_learn 141 = .ok (.aload_n 0, 1) := by decide +kernel
theorem dM_learn_142 : decode cM_learn 142 = .ok (.getfield 147, 3) := by decide +kernel
theorem dM_learn_145 : decode cM_learn 145 = .ok (.istore_n 3, 1) := by decide +kernel
theorem dM_learn_146 : decode cM_learn 146 = .ok (.aload_n 0, 1) := by decide +kernel
theorem dM_learn_147 : decode cM_learn 147 = .ok (.getfield 144, 3) := by decide +kernel
theorem dM_learn_150 : decode cM_learn 150 = .ok (.iconst 1, 1) := by decide +kernel
theorem dM_learn_151 : decode cM_learn 151 = .ok (.iadd, 1) := by decide +kernel
theorem dM_learn_152 : decode cM_learn 152 = .ok (.istore 4, 2) := by decide +kernel
theorem dM_learn_154 : decode cM_learn 154 = .ok (.iconst 0, 1) := by decide +kernel
theorem dM_learn_155 : decode cM_learn 155 = .ok (.istore 5, 2) := by decide +kernel
theorem dM_learn_157 : decode cM_learn 157 = .ok (.iload 5, 2) := by decide +kernel
theorem dM_learn_159 : decode cM_learn 159 = .ok (.iload_n 3, 1) := by decide +kernel
theorem dM_learn_160 : decode cM_learn 160 = .ok (.if_icmp .ge 92, 3) := by decide +kernel
theorem dM_learn_163 : decode cM_learn 163 = .ok (.aload_n 0, 1) := by decide +kernel
theorem dM_learn_164 : decode cM_learn 164 = .ok (.iload 4, 2) := by decide +kernel
theorem dM_learn_166 : decode cM_learn 166 = .ok (.invokevirtual 172, 3) := by decide +kernel
theorem dM_learn_169 : decode cM_learn 169 = .ok (.pop, 1) := by decide +kernel
theorem dM_learn_170 : decode cM_learn 170 = .ok (.aload_n 0, 1) := by decide +kernel
theorem dM_learn_171 : decode cM_learn 171 = .ok (.getfield 144, 3) := by decide +kernel
theorem dM_learn_174 : decode cM_learn 174 = .ok (.iconst 1, 1) := by decide +kernel
theorem dM_learn_175 : decode cM_learn 175 = .ok (.iadd, 1) := by decide +kernel
theorem dM_learn_176 : decode cM_learn 176 = .ok (.istore 4, 2) := by decide +kernel
theorem dM_learn_178 : decode cM_learn 178 = .ok (.aload_n 0, 1) := by decide +kernel
theorem dM_learn_179 : decode cM_learn 179 = .ok (.getfield 113, 3) := by decide +kernel
theorem dM_learn_182 : decode cM_learn 182 = .ok (.istore 6, 2) := by decide +kernel
theorem dM_learn_184 : decode cM_learn 184 = .ok (.aload_n 0, 1) := by decide +kernel
theorem dM_learn_185 : decode cM_learn 185 = .ok (.getfield 39, 3) := by decide +kernel
theorem dM_learn_188 : decode cM_learn 188 = .ok (.iload_n 2, 1) := by decide +kernel
theorem dM_learn_189 : decode cM_learn 189 = .ok (.iload 6, 2) := by decide +kernel
theorem dM_learn_191 : decode cM_learn 191 = .ok (.iadd, 1) := by decide +kernel
theorem dM_learn_192 : decode cM_learn 192 = .ok (.aload_n 0, 1) := by decide +kernel
theorem dM_learn_193 : decode cM_learn 193 = .ok (.getfield 163, 3) := by decide +kernel
theorem dM_learn_196 : decode cM_learn 196 = .ok (.iastore, 1) := by decide +kernel
theorem dM_learn_197 : decode cM_learn 197 = .ok (.aload_n 0, 1) := by decide +kernel
theorem dM_learn_198 : decode cM_learn 198 = .ok (.getfield 163, 3) := by decide +kernel
theorem dM_learn_201 : decode cM_learn 201 = .ok (.iconst (-1), 1) := by decide +kernel
theorem dM_learn_202 : decode cM_learn 202 = .ok (.if_icmp .eq 44, 3) := by decide +kernel
theorem dM_learn_205 : decode cM_learn 205 = .ok (.aload_n 0, 1) := by decide +kernel
theorem dM_learn_206 : decode cM_learn 206 = .ok (.aload_n 0, 1) := by decide +kernel
theorem dM_learn_207 : decode cM_learn 207 = .ok (.getfield 163, 3) := by decide +kernel
theorem dM_learn_210 : decode cM_learn 210 = .ok (.iload 6, 2) := by decide +kernel
theorem dM_learn_212 : decode cM_learn 212 = .ok (.aload_n 0, 1) := by decide +kernel
theorem dM_learn_213 : decode cM_learn 213 = .ok (.getfield 116, 3) := by decide +kernel
theorem dM_learn_216 : decode cM_learn 216 = .ok (.invokevirtual 181, 3) := by decide +kernel
theorem dM_learn_219 : decode cM_learn 219 = .ok (.pop, 1) := by decide +kernel
theorem dM_learn_220 : decode cM_learn 220 = .ok (.aload_n 0, 1) := by decide +kernel
theorem dM_learn_221 : decode cM_learn 221 = .ok (.getfield 42, 3) := by decide +kernel
theorem dM_learn_224 : decode cM_learn 224 = .ok (.iload_n 2, 1) := by decide +kernel
theorem dM_learn_225 : decode cM_learn 225 = .ok (.iload 6, 2) := by decide +kernel
theorem dM_learn_227 : decode cM_learn 227 = .ok (.iadd, 1) := by decide +kernel
theorem dM_learn_228 : decode cM_learn 228 = .ok (.aload_n 0, 1) := by decide +kernel
theorem dM_learn_229 : decode cM_learn 229 = .ok (.getfield 113, 3) := by decide +kernel
theorem dM_learn_232 : decode cM_learn 232 = .ok (.iastore, 1) := by decide +kernel
theorem dM_learn_233 : decode cM_learn 233 = .ok (.aload_n 0, 1) := by decide +kernel
theorem dM_learn_234 : decode cM_learn 234 = .ok (.getfield 45, 3) := by decide +kernel
theorem dM_learn_237 : decode cM_learn 237 = .ok (.iload_n 2, 1) := by decide +kernel
theorem dM_learn_238 : decode cM_learn 238 = .ok (.iload 6, 2) := by decide +kernel
theorem dM_learn_240 : decode cM_learn 240 = .ok (.iadd, 1) := by decide +kernel
theorem dM_learn_241 : decode cM_learn 241 = .ok (.aload_n 0, 1) := by decide +kernel
theorem dM_learn_242 : decode cM_learn 242 = .ok (.getfield 163, 3) := by decide +kernel
theorem dM_learn_245 : decode cM_learn 245 = .ok (.iastore, 1) := by decide +kernel
theorem dM_learn_246 : decode cM_learn 246 = .ok (.iinc 5 1, 3) := by decide +kernel
theorem dM_learn_249 : decode cM_learn 249 = .ok (.goto (-92), 3) := by decide +kernel
theorem dM_learn_252 : decode cM_learn 252 = .ok (.aload_n 0, 1) := by decide +kernel
theorem dM_learn_253 : decode cM_learn 253 = .ok (.iload 4, 2) := by decide +kernel
theorem dM_learn_255 : decode cM_learn 255 = .ok (.invokevirtual 150, 3) := by decide +kernel
theorem dM_learn_258 : decode cM_learn 258 = .ok (.pop, 1) := by decide +kernel
theorem dM_learn_259 : decode cM_learn 259 = .ok (.aload_n 0, 1) := by decide +kernel
theorem dM_learn_260 : decode cM_learn 260 = .ok (.aload_n 0, 1) := by decide +kernel
theorem dM_learn_261 : decode cM_learn 261 = .ok (.getfield 144, 3) := by decide +kernel
theorem dM_learn_264 : decode cM_learn 264 = .ok (.iconst 1, 1) := by decide +kernel
theorem dM_learn_265 : decode cM_learn 265 = .ok (.iadd, 1) := by decide +kernel
theorem dM_learn_266 : decode cM_learn 266 = .ok (.invokevirtual 150, 3) := by decide +kernel
theorem dM_learn_269 : decode cM_learn 269 = .ok (.pop, 1) := by decide +kernel
theorem dM_learn_270 : decode cM_learn 270 = .ok (.aload_n 0, 1) := by decide +kernel
theorem dM_learn_271 : decode cM_learn 271 = .ok (.getfield 33, 3) := by decide +kernel
theorem dM_learn_274 : decode cM_learn 274 = .ok (.aload_n 0, 1) := by decide +kernel
theorem dM_learn_275 : decode cM_learn 275 = .ok (.getfield 110, 3) := by decide +kernel
theorem dM_learn_278 : decode cM_learn 278 = .ok (.aload_n 0, 1) := by decide +kernel
theorem dM_learn_279 : decode cM_learn 279 = .ok (.getfield 144, 3) := by decide +kernel
theorem dM_learn_282 : decode cM_learn 282 = .ok (.iconst 1, 1) := by decide +kernel
theorem dM_learn_283 : decode cM_learn 283 = .ok (.iadd, 1) := by decide +kernel
theorem dM_learn_284 : decode cM_learn 284 = .ok (.iastore, 1) := by decide +kernel
theorem dM_learn_285 : decode cM_learn 285 = .ok (.aload_n 0, 1) := by decide +kernel
theorem dM_learn_286 : decode cM_learn 286 = .ok (.getfield 36, 3) := by decide +kernel
theorem dM_learn_289 : decode cM_learn 289 = .ok (.aload_n 0, 1) := by decide +kernel
theorem dM_learn_290 : decode cM_learn 290 = .ok (.getfield 110, 3) := by decide +kernel
theorem dM_learn_293 : decode cM_learn 293 = .ok (.aload_n 0, 1) := by decide +kernel
theorem dM_learn_294 : decode cM_learn 294 = .ok (.getfield 54, 3) := by decide +kernel
theorem dM_learn_297 : decode cM_learn 297 = .ok (.iload_n 1, 1) := by decide +kernel
theorem dM_learn_298 : decode cM_learn 298 = .ok (.iaload, 1) := by decide +kernel
theorem dM_learn_299 : decode cM_learn 299 = .ok (.iastore, 1) := by decide +kernel
theorem dM_learn_300 : decode cM_learn 300 = .ok (.aload_n 0, 1) := by decide +kernel
theorem dM_learn_301 : decode cM_learn 301 = .ok (.dup, 1) := by decide +kernel
theorem dM_learn_302 : decode cM_learn 302 = .ok (.getfield 110, 3) := by decide +kernel
theorem dM_learn_305 : decode cM_learn 305 = .ok (.iconst 1, 1) := by decide +kernel
theorem dM_learn_306 : decode cM_learn 306 = .ok (.iadd, 1) := by decide +kernel
theorem dM_learn_307 : decode cM_learn 307 = .ok (.putfield 110, 3) := by decide +kernel
theorem dM_learn_310 : decode cM_learn 310 = .ok (.iinc 1 (-1), 3) := by decide +kernel
theorem dM_learn_313 : decode cM_learn 313 = .ok (.goto (-301), 3) := by decide +kernel
theorem dM_learn_316 : decode cM_learn 316 = .ok (.return_, 1) := by decide +kernel
abbrev cM_readFile : ByteArray := prog_10_method_36_code
def yM_readFile : MethodName := ⟨RM, "readFile", "()I"⟩
theorem wM_readFile : Cond.code yM_readFile cM_readFile 4 (some .int) ∈ A9 := in9_5 212 rfl rfl
theorem dM_readFile_0 : decode cM_readFile 0 = .ok (.aload_n 0, 1) := by decide +kernel
theorem dM_readFile_1 : decode cM_readFile 1 = .ok (.invokevirtual 192, 3) := by decide +kernel
theorem dM_readFile_4 : decode cM_readFile 4 = .ok (.ifCond .ne 10, 3) := by decide +kernel
theorem dM_readFile_7 : decode cM_readFile 7 = .ok (.iconst (-1), 1) := by decide +kernel
theorem dM_readFile_8 : decode cM_readFile 8 = .ok (.aload_n 0, 1) := by decide +kernel
theorem dM_readFile_9 : decode cM_readFile 9 = .ok (.getfield 166, 3) := by decide +kernel
theorem dM_readFile_12 : decode cM_readFile 12 = .ok (.isub, 1) := by decide +kernel
theorem dM_readFile_13 : decode cM_readFile 13 = .ok (.ireturn, 1) := by decide +kernel
theorem dM_readFile_14 : decode cM_readFile 14 = .ok (.aload_n 0, 1) := by decide +kernel
theorem dM_readFile_15 : decode cM_readFile 15 = .ok (.invokevirtual 195, 3) := by decide +kernel
theorem dM_readFile_18 : decode cM_readFile 18 = .ok (.bipush 41, 2) := by decide +kernel
theorem dM_readFile_20 : decode cM_readFile 20 = .ok (.aload_n 0, 1) := by decide +kernel
theorem dM_readFile_21 : decode cM_readFile 21 = .ok (.getfield 110, 3) := by decide +kernel
theorem dM_readFile_24 : decode cM_readFile 24 = .ok (.iconst 1, 1) := by decide +kernel
theorem dM_readFile_25 : decode cM_readFile 25 = .ok (.isub, 1) := by decide +kernel
theorem dM_readFile_26 : decode cM_readFile 26 = .ok (.imul, 1) := by decide +kernel
theorem dM_readFile_27 : decode cM_readFile 27 = .ok (.istore_n 1, 1) := by decide +kernel
theorem dM_readFile_28 : decode cM_readFile 28 = .ok (.iconst 1, 1) := by decide +kernel
theorem dM_readFile_29 : decode cM_readFile 29 = .ok (.istore_n 2, 1) := by decide +kernel
theorem dM_readFile_30 : decode cM_readFile 30 = .ok (.iload_n 2, 1) := by decide +kernel
theorem dM_readFile_31 : decode cM_readFile 31 = .ok (.bipush 40, 2) := by decide +kernel
theorem dM_readFile_33 : decode cM_readFile 33 = .ok (.if_icmp .gt 120, 3) := by decide +kernel
theorem dM_readFile_36 : decode cM_readFile 36 = .ok (.aload_n 0, 1) := by decide +kernel
theorem dM_readFile_37 : decode cM_readFile 37 = .ok (.getfield 7, 3) := by decide +kernel
theorem dM_readFile_40 : decode cM_readFile 40 = .ok (.iload_n 2, 1) := by decide +kernel
theorem dM_readFile_41 : decode cM_readFile 41 = .ok (.aload_n 0, 1) := by decide +kernel
theorem dM_readFile_42 : decode cM_readFile 42 = .ok (.getfield 39, 3) := by decide +kernel
theorem dM_readFile_45 : decode cM_readFile 45 = .ok (.iload_n 1, 1) := by decide +kernel
theorem dM_readFile_46 : decode cM_readFile 46 = .ok (.iload_n 2, 1) := by decide +kernel
theorem dM_readFile_47 : decode cM_readFile 47 = .ok (.iadd, 1) := by decide +kernel
theorem dM_readFile_48 : decode cM_readFile 48 = .ok (.iaload, 1) := by decide +kernel
theorem dM_readFile_49 : decode cM_readFile 49 = .ok (.iconst (-1), 1) := by decide +kernel
theorem dM_readFile_50 : decode cM_readFile 50 = .ok (.if_icmp .eq 7, 3) := by decide +kernel
theorem dM_readFile_53 : decode cM_readFile 53 = .ok (.iconst 1, 1) := by decide +kernel
theorem dM_readFile_54 : decode cM_readFile 54 = .ok (.goto 4, 3) := by decide +kernel
theorem dM_readFile_57 : decode cM_readFile 57 = .ok (.iconst 0, 1) := by decide +kernel
theorem dM_readFile_58 : decode cM_readFile 58 = .ok (.bastore, 1) := by decide +kernel
theorem dM_readFile_59 : decode cM_readFile 59 = .ok (.aload_n 0, 1) := by decide +kernel
theorem dM_readFile_60 : decode cM_readFile 60 = .ok (.getfield 13, 3) := by decide +kernel
theorem dM_readFile_63 : decode cM_readFile 63 = .ok (.iload_n 2, 1) := by decide +kernel
theorem dM_readFile_64 : decode cM_readFile 64 = .ok (.iconst 0, 1) := by decide +kernel
theorem dM_readFile_65 : decode cM_readFile 65 = .ok (.bastore, 1) := by decide +kernel
theorem dM_readFile_66 : decode cM_readFile 66 = .ok (.aload_n 0, 1) := by decide +kernel
theorem dM_readFile_67 : decode cM_readFile 67 = .ok (.getfield 22, 3) := by decide +kernel
theorem dM_readFile_70 : decode cM_readFile 70 = .ok (.iload_n 2, 1) := by decide +kernel
theorem dM_readFile_71 : decode cM_readFile 71 = .ok (.aload_n 0, 1) := by decide +kernel
theorem dM_readFile_72 : decode cM_readFile 72 = .ok (.getfield 7, 3) := by decide +kernel
theorem dM_readFile_75 : decode cM_readFile 75 = .ok (.iload_n 2, 1) := by decide +kernel
theorem dM_readFile_76 : decode cM_readFile 76 = .ok (.baload, 1) := by decide +kernel
theorem dM_readFile_77 : decode cM_readFile 77 = .ok (.ifCond .eq 14, 3) := by decide +kernel
