theorem dM_putRecords_138 : decode cM_putRecords 138 = .ok (.return_, 1) := by decide +kernel
abbrev cM_putPart : ByteArray := prog_10_method_18_code
def yM_putPart : MethodName := ⟨RM, "putPart", "(IZI)I"⟩
theorem wM_putPart : Cond.code yM_putPart cM_putPart 7 (some .int) ∈ A9 := in9_5 156 rfl rfl
theorem dM_putPart_0 : decode cM_putPart 0 = .ok (.aload_n 0, 1) := by decide +kernel
theorem dM_putPart_1 : decode cM_putPart 1 = .ok (.iload_n 1, 1) := by decide +kernel
theorem dM_putPart_2 : decode cM_putPart 2 = .ok (.putfield 82, 3) := by decide +kernel
theorem dM_putPart_5 : decode cM_putPart 5 = .ok (.iload_n 2, 1) := by decide +kernel
theorem dM_putPart_6 : decode cM_putPart 6 = .ok (.ifCond .eq 27, 3) := by decide +kernel
theorem dM_putPart_9 : decode cM_putPart 9 = .ok (.aload_n 0, 1) := by decide +kernel
theorem dM_putPart_10 : decode cM_putPart 10 = .ok (.bipush 37, 2) := by decide +kernel
theorem dM_putPart_12 : decode cM_putPart 12 = .ok (.invokevirtual 85, 3) := by decide +kernel
theorem dM_putPart_15 : decode cM_putPart 15 = .ok (.aload_n 0, 1) := by decide +kernel
theorem dM_putPart_16 : decode cM_putPart 16 = .ok (.bipush 70, 2) := by decide +kernel
theorem dM_putPart_18 : decode cM_putPart 18 = .ok (.invokevirtual 85, 3) := by decide +kernel
theorem dM_putPart_21 : decode cM_putPart 21 = .ok (.aload_n 0, 1) := by decide +kernel
theorem dM_putPart_22 : decode cM_putPart 22 = .ok (.bipush 49, 2) := by decide +kernel
theorem dM_putPart_24 : decode cM_putPart 24 = .ok (.invokevirtual 85, 3) := by decide +kernel
theorem dM_putPart_27 : decode cM_putPart 27 = .ok (.aload_n 0, 1) := by decide +kernel
theorem dM_putPart_28 : decode cM_putPart 28 = .ok (.bipush 10, 2) := by decide +kernel
theorem dM_putPart_30 : decode cM_putPart 30 = .ok (.invokevirtual 85, 3) := by decide +kernel
theorem dM_putPart_33 : decode cM_putPart 33 = .ok (.aload_n 0, 1) := by decide +kernel
theorem dM_putPart_34 : decode cM_putPart 34 = .ok (.iload_n 2, 1) := by decide +kernel
theorem dM_putPart_35 : decode cM_putPart 35 = .ok (.iload_n 3, 1) := by decide +kernel
theorem dM_putPart_36 : decode cM_putPart 36 = .ok (.invokevirtual 99, 3) := by decide +kernel
theorem dM_putPart_39 : decode cM_putPart 39 = .ok (.aload_n 0, 1) := by decide +kernel
theorem dM_putPart_40 : decode cM_putPart 40 = .ok (.getfield 82, 3) := by decide +kernel
theorem dM_putPart_43 : decode cM_putPart 43 = .ok (.istore 4, 2) := by decide +kernel
theorem dM_putPart_45 : decode cM_putPart 45 = .ok (.iconst 0, 1) := by decide +kernel
theorem dM_putPart_46 : decode cM_putPart 46 = .ok (.istore 5, 2) := by decide +kernel
theorem dM_putPart_48 : decode cM_putPart 48 = .ok (.iconst 1, 1) := by decide +kernel
theorem dM_putPart_49 : decode cM_putPart 49 = .ok (.istore 6, 2) := by decide +kernel
theorem dM_putPart_51 : decode cM_putPart 51 = .ok (.iload 6, 2) := by decide +kernel
theorem dM_putPart_53 : decode cM_putPart 53 = .ok (.bipush 40, 2) := by decide +kernel
theorem dM_putPart_55 : decode cM_putPart 55 = .ok (.if_icmp .gt 30, 3) := by decide +kernel
theorem dM_putPart_58 : decode cM_putPart 58 = .ok (.aload_n 0, 1) := by decide +kernel
theorem dM_putPart_59 : decode cM_putPart 59 = .ok (.iload 6, 2) := by decide +kernel
theorem dM_putPart_61 : decode cM_putPart 61 = .ok (.iload_n 2, 1) := by decide +kernel
theorem dM_putPart_62 : decode cM_putPart 62 = .ok (.invokevirtual 92, 3) := by decide +kernel
theorem dM_putPart_65 : decode cM_putPart 65 = .ok (.ifCond .eq 10, 3) := by decide +kernel
theorem dM_putPart_68 : decode cM_putPart 68 = .ok (.iload 5, 2) := by decide +kernel
theorem dM_putPart_70 : decode cM_putPart 70 = .ok (.iconst 1, 1) := by decide +kernel
theorem dM_putPart_71 : decode cM_putPart 71 = .ok (.iadd, 1) := by decide +kernel
theorem dM_putPart_72 : decode cM_putPart 72 = .ok (.goto 5, 3) := by decide +kernel
theorem dM_putPart_75 : decode cM_putPart 75 = .ok (.iload 5, 2) := by decide +kernel
theorem dM_putPart_77 : decode cM_putPart 77 = .ok (.istore 5, 2) := by decide +kernel
theorem dM_putPart_79 : decode cM_putPart 79 = .ok (.iinc 6 1, 3) := by decide +kernel
theorem dM_putPart_82 : decode cM_putPart 82 = .ok (.goto (-31), 3) := by decide +kernel
theorem dM_putPart_85 : decode cM_putPart 85 = .ok (.aload_n 0, 1) := by decide +kernel
theorem dM_putPart_86 : decode cM_putPart 86 = .ok (.bipush 120, 2) := by decide +kernel
theorem dM_putPart_88 : decode cM_putPart 88 = .ok (.iload 5, 2) := by decide +kernel
theorem dM_putPart_90 : decode cM_putPart 90 = .ok (.invokevirtual 103, 3) := by decide +kernel
theorem dM_putPart_93 : decode cM_putPart 93 = .ok (.iconst 1, 1) := by decide +kernel
theorem dM_putPart_94 : decode cM_putPart 94 = .ok (.istore 6, 2) := by decide +kernel
theorem dM_putPart_96 : decode cM_putPart 96 = .ok (.iload 6, 2) := by decide +kernel
theorem dM_putPart_98 : decode cM_putPart 98 = .ok (.bipush 40, 2) := by decide +kernel
theorem dM_putPart_100 : decode cM_putPart 100 = .ok (.if_icmp .gt 25, 3) := by decide +kernel
theorem dM_putPart_103 : decode cM_putPart 103 = .ok (.aload_n 0, 1) := by decide +kernel
theorem dM_putPart_104 : decode cM_putPart 104 = .ok (.iload 6, 2) := by decide +kernel
theorem dM_putPart_106 : decode cM_putPart 106 = .ok (.iload_n 2, 1) := by decide +kernel
theorem dM_putPart_107 : decode cM_putPart 107 = .ok (.invokevirtual 92, 3) := by decide +kernel
theorem dM_putPart_110 : decode cM_putPart 110 = .ok (.ifCond .eq 9, 3) := by decide +kernel
theorem dM_putPart_113 : decode cM_putPart 113 = .ok (.aload_n 0, 1) := by decide +kernel
theorem dM_putPart_114 : decode cM_putPart 114 = .ok (.iload 6, 2) := by decide +kernel
theorem dM_putPart_116 : decode cM_putPart 116 = .ok (.invokevirtual 107, 3) := by decide +kernel
theorem dM_putPart_119 : decode cM_putPart 119 = .ok (.iinc 6 1, 3) := by decide +kernel
theorem dM_putPart_122 : decode cM_putPart 122 = .ok (.goto (-26), 3) := by decide +kernel
theorem dM_putPart_125 : decode cM_putPart 125 = .ok (.aload_n 0, 1) := by decide +kernel
theorem dM_putPart_126 : decode cM_putPart 126 = .ok (.bipush 112, 2) := by decide +kernel
theorem dM_putPart_128 : decode cM_putPart 128 = .ok (.iload_n 2, 1) := by decide +kernel
theorem dM_putPart_129 : decode cM_putPart 129 = .ok (.ifCond .eq 7, 3) := by decide +kernel
theorem dM_putPart_132 : decode cM_putPart 132 = .ok (.iconst 0, 1) := by decide +kernel
theorem dM_putPart_133 : decode cM_putPart 133 = .ok (.goto 14, 3) := by decide +kernel
theorem dM_putPart_136 : decode cM_putPart 136 = .ok (.aload_n 0, 1) := by decide +kernel
theorem dM_putPart_137 : decode cM_putPart 137 = .ok (.getfield 36, 3) := by decide +kernel
theorem dM_putPart_140 : decode cM_putPart 140 = .ok (.aload_n 0, 1) := by decide +kernel
theorem dM_putPart_141 : decode cM_putPart 141 = .ok (.getfield 110, 3) := by decide +kernel
theorem lM_110 : Cond.fieldLink RM 110 "RevisionWriteModel" "revisions" "I" ∈ A9 := in9_5 31 (by decide +kernel) rfl
theorem dM_putPart_144 : decode cM_putPart 144 = .ok (.iconst 1, 1) := by decide +kernel
theorem dM_putPart_145 : decode cM_putPart 145 = .ok (.isub, 1) := by decide +kernel
theorem dM_putPart_146 : decode cM_putPart 146 = .ok (.iaload, 1) := by decide +kernel
theorem dM_putPart_147 : decode cM_putPart 147 = .ok (.invokevirtual 103, 3) := by decide +kernel
theorem dM_putPart_150 : decode cM_putPart 150 = .ok (.aload_n 0, 1) := by decide +kernel
theorem dM_putPart_151 : decode cM_putPart 151 = .ok (.bipush 101, 2) := by decide +kernel
theorem dM_putPart_153 : decode cM_putPart 153 = .ok (.iload 4, 2) := by decide +kernel
theorem dM_putPart_155 : decode cM_putPart 155 = .ok (.invokevirtual 103, 3) := by decide +kernel
theorem dM_putPart_158 : decode cM_putPart 158 = .ok (.aload_n 0, 1) := by decide +kernel
theorem dM_putPart_159 : decode cM_putPart 159 = .ok (.iload 4, 2) := by decide +kernel
theorem dM_putPart_161 : decode cM_putPart 161 = .ok (.putfield 113, 3) := by decide +kernel
theorem lM_113 : Cond.fieldLink RM 113 "RevisionWriteModel" "first" "I" ∈ A9 := in9_5 47 (by decide +kernel) rfl
theorem dM_putPart_164 : decode cM_putPart 164 = .ok (.aload_n 0, 1) := by decide +kernel
theorem dM_putPart_165 : decode cM_putPart 165 = .ok (.getfield 82, 3) := by decide +kernel
theorem dM_putPart_168 : decode cM_putPart 168 = .ok (.ireturn, 1) := by decide +kernel
abbrev cM_remember : ByteArray := prog_10_method_19_code
def yM_remember : MethodName := ⟨RM, "remember", "(Z)V"⟩
theorem wM_remember : Cond.code yM_remember cM_remember 5 none ∈ A9 := in9_5 192 rfl rfl
theorem dM_remember_0 : decode cM_remember 0 = .ok (.iload_n 1, 1) := by decide +kernel
theorem dM_remember_1 : decode cM_remember 1 = .ok (.ifCond .eq 7, 3) := by decide +kernel
theorem dM_remember_4 : decode cM_remember 4 = .ok (.iconst 0, 1) := by decide +kernel
theorem dM_remember_5 : decode cM_remember 5 = .ok (.goto 7, 3) := by decide +kernel
theorem dM_remember_8 : decode cM_remember 8 = .ok (.aload_n 0, 1) := by decide +kernel
theorem dM_remember_9 : decode cM_remember 9 = .ok (.getfield 110, 3) := by decide +kernel
theorem dM_remember_12 : decode cM_remember 12 = .ok (.istore_n 2, 1) := by decide +kernel
theorem dM_remember_13 : decode cM_remember 13 = .ok (.iconst 1, 1) := by decide +kernel
theorem dM_remember_14 : decode cM_remember 14 = .ok (.istore_n 3, 1) := by decide +kernel
theorem dM_remember_15 : decode cM_remember 15 = .ok (.iload_n 3, 1) := by decide +kernel
theorem dM_remember_16 : decode cM_remember 16 = .ok (.bipush 40, 2) := by decide +kernel
theorem dM_remember_18 : decode cM_remember 18 = .ok (.if_icmp .gt 147, 3) := by decide +kernel
theorem dM_remember_21 : decode cM_remember 21 = .ok (.bipush 41, 2) := by decide +kernel
theorem dM_remember_23 : decode cM_remember 23 = .ok (.iload_n 2, 1) := by decide +kernel
theorem dM_remember_24 : decode cM_remember 24 = .ok (.imul, 1) := by decide +kernel
theorem dM_remember_25 : decode cM_remember 25 = .ok (.iload_n 3, 1) := by decide +kernel
theorem dM_remember_26 : decode cM_remember 26 = .ok (.iadd, 1) := by decide +kernel
theorem dM_remember_27 : decode cM_remember 27 = .ok (.istore 4, 2) := by decide +kernel
theorem dM_remember_29 : decode cM_remember 29 = .ok (.aload_n 0, 1) := by decide +kernel
theorem dM_remember_30 : decode cM_remember 30 = .ok (.iload_n 3, 1) := by decide +kernel
theorem dM_remember_31 : decode cM_remember 31 = .ok (.iload_n 1, 1) := by decide +kernel
theorem dM_remember_32 : decode cM_remember 32 = .ok (.invokevirtual 92, 3) := by decide +kernel
theorem dM_remember_35 : decode cM_remember 35 = .ok (.ifCond .eq 58, 3) := by decide +kernel
theorem dM_remember_38 : decode cM_remember 38 = .ok (.aload_n 0, 1) := by decide +kernel
theorem dM_remember_39 : decode cM_remember 39 = .ok (.getfield 39, 3) := by decide +kernel
theorem dM_remember_42 : decode cM_remember 42 = .ok (.iload 4, 2) := by decide +kernel
theorem dM_remember_44 : decode cM_remember 44 = .ok (.aload_n 0, 1) := by decide +kernel
theorem dM_remember_45 : decode cM_remember 45 = .ok (.getfield 7, 3) := by decide +kernel
theorem dM_remember_48 : decode cM_remember 48 = .ok (.iload_n 3, 1) := by decide +kernel
theorem dM_remember_49 : decode cM_remember 49 = .ok (.baload, 1) := by decide +kernel
theorem dM_remember_50 : decode cM_remember 50 = .ok (.ifCond .eq 12, 3) := by decide +kernel
theorem dM_remember_53 : decode cM_remember 53 = .ok (.aload_n 0, 1) := by decide +kernel
theorem dM_remember_54 : decode cM_remember 54 = .ok (.getfield 48, 3) := by decide +kernel
theorem dM_remember_57 : decode cM_remember 57 = .ok (.iload_n 3, 1) := by decide +kernel
theorem dM_remember_58 : decode cM_remember 58 = .ok (.iaload, 1) := by decide +kernel
theorem dM_remember_59 : decode cM_remember 59 = .ok (.goto 4, 3) := by decide +kernel
theorem dM_remember_62 : decode cM_remember 62 = .ok (.iconst (-1), 1) := by decide +kernel
theorem dM_remember_63 : decode cM_remember 63 = .ok (.iastore, 1) := by decide +kernel
theorem dM_remember_64 : decode cM_remember 64 = .ok (.aload_n 0, 1) := by decide +kernel
theorem dM_remember_65 : decode cM_remember 65 = .ok (.getfield 42, 3) := by decide +kernel
theorem dM_remember_68 : decode cM_remember 68 = .ok (.iload 4, 2) := by decide +kernel
theorem dM_remember_70 : decode cM_remember 70 = .ok (.aload_n 0, 1) := by decide +kernel
theorem dM_remember_71 : decode cM_remember 71 = .ok (.getfield 51, 3) := by decide +kernel
theorem dM_remember_74 : decode cM_remember 74 = .ok (.iload_n 3, 1) := by decide +kernel
theorem dM_remember_75 : decode cM_remember 75 = .ok (.iaload, 1) := by decide +kernel
theorem dM_remember_76 : decode cM_remember 76 = .ok (.iastore, 1) := by decide +kernel
theorem dM_remember_77 : decode cM_remember 77 = .ok (.aload_n 0, 1) := by decide +kernel
theorem dM_remember_78 : decode cM_remember 78 = .ok (.getfield 45, 3) := by decide +kernel
theorem dM_remember_81 : decode cM_remember 81 = .ok (.iload 4, 2) := by decide +kernel
theorem dM_remember_83 : decode cM_remember 83 = .ok (.aload_n 0, 1) := by decide +kernel
theorem dM_remember_84 : decode cM_remember 84 = .ok (.getfield 22, 3) := by decide +kernel
theorem dM_remember_87 : decode cM_remember 87 = .ok (.iload_n 3, 1) := by decide +kernel
theorem dM_remember_88 : decode cM_remember 88 = .ok (.iaload, 1) := by decide +kernel
theorem dM_remember_89 : decode cM_remember 89 = .ok (.iastore, 1) := by decide +kernel
theorem dM_remember_90 : decode cM_remember 90 = .ok (.goto 69, 3) := by decide +kernel
theorem dM_remember_93 : decode cM_remember 93 = .ok (.iload_n 1, 1) := by decide +kernel
theorem dM_remember_94 : decode cM_remember 94 = .ok (.ifCond .eq 14, 3) := by decide +kernel
theorem dM_remember_97 : decode cM_remember 97 = .ok (.aload_n 0, 1) := by decide +kernel
theorem dM_remember_98 : decode cM_remember 98 = .ok (.getfield 39, 3) := by decide +kernel
theorem dM_remember_101 : decode cM_remember 101 = .ok (.iload 4, 2) := by decide +kernel
theorem dM_remember_103 : decode cM_remember 103 = .ok (.iconst (-1), 1) := by decide +kernel
theorem dM_remember_104 : decode cM_remember 104 = .ok (.iastore, 1) := by decide +kernel
theorem dM_remember_105 : decode cM_remember 105 = .ok (.goto 54, 3) := by decide +kernel
theorem dM_remember_108 : decode cM_remember 108 = .ok (.aload_n 0, 1) := by decide +kernel
theorem dM_remember_109 : decode cM_remember 109 = .ok (.getfield 39, 3) := by decide +kernel
theorem dM_remember_112 : decode cM_remember 112 = .ok (.iload 4, 2) := by decide +kernel
theorem dM_remember_114 : decode cM_remember 114 = .ok (.aload_n 0, 1) := by decide +kernel
theorem dM_remember_115 : decode cM_remember 115 = .ok (.getfield 39, 3) := by decide +kernel
theorem dM_remember_118 : decode cM_remember 118 = .ok (.iload 4, 2) := by decide +kernel
theorem dM_remember_120 : decode cM_remember 120 = .ok (.bipush 41, 2) := by decide +kernel
theorem dM_remember_122 : decode cM_remember 122 = .ok (.isub, 1) := by decide +kernel
theorem dM_remember_123 : decode cM_remember 123 = .ok (.iaload, 1) := by decide +kernel
theorem dM_remember_124 : decode cM_remember 124 = .ok (.iastore, 1) := by decide +kernel
theorem dM_remember_125 : decode cM_remember 125 = .ok (.aload_n 0, 1) := by decide +kernel
theorem dM_remember_126 : decode cM_remember 126 = .ok (.getfield 42, 3) := by decide +kernel
theorem dM_remember_129 : decode cM_remember 129 = .ok (.iload 4, 2) := by decide +kernel
theorem dM_remember_131 : decode cM_remember 131 = .ok (.aload_n 0, 1) := by decide +kernel
theorem dM_remember_132 : decode cM_remember 132 = .ok (.getfield 42, 3) := by decide +kernel
theorem dM_remember_135 : decode cM_remember 135 = .ok (.iload 4, 2) := by decide +kernel
theorem dM_remember_137 : decode cM_remember 137 = .ok (.bipush 41, 2) := by decide +kernel
theorem dM_remember_139 : decode cM_remember 139 = .ok (.isub, 1) := by decide +kernel
theorem dM_remember_140 : decode cM_remember 140 = .ok (.iaload, 1) := by decide +kernel
theorem dM_remember_141 : decode cM_remember 141 = .ok (.iastore, 1) := by decide +kernel
theorem dM_remember_142 : decode cM_remember 142 = .ok (.aload_n 0, 1) := by decide +kernel
theorem dM_remember_143 : decode cM_remember 143 = .ok (.getfield 45, 3) := by decide +kernel
theorem dM_remember_146 : decode cM_remember 146 = .ok (.iload 4, 2) := by decide +kernel
theorem dM_remember_148 : decode cM_remember 148 = .ok (.aload_n 0, 1) := by decide +kernel
theorem dM_remember_149 : decode cM_remember 149 = .ok (.getfield 45, 3) := by decide +kernel
theorem dM_remember_152 : decode cM_remember 152 = .ok (.iload 4, 2) := by decide +kernel
theorem dM_remember_154 : decode cM_remember 154 = .ok (.bipush 41, 2) := by decide +kernel
theorem dM_remember_156 : decode cM_remember 156 = .ok (.isub, 1) := by decide +kernel
theorem dM_remember_157 : decode cM_remember 157 = .ok (.iaload, 1) := by decide +kernel
theorem dM_remember_158 : decode cM_remember 158 = .ok (.iastore, 1) := by decide +kernel
theorem dM_remember_159 : decode cM_remember 159 = .ok (.iinc 3 1, 3) := by decide +kernel
theorem dM_remember_162 : decode cM_remember 162 = .ok (.goto (-147), 3) := by decide +kernel
theorem dM_remember_165 : decode cM_remember 165 = .ok (.aload_n 0, 1) := by decide +kernel
theorem dM_remember_166 : decode cM_remember 166 = .ok (.getfield 33, 3) := by decide +kernel
theorem dM_remember_169 : decode cM_remember 169 = .ok (.iload_n 2, 1) := by decide +kernel
theorem dM_remember_170 : decode cM_remember 170 = .ok (.aload_n 0, 1) := by decide +kernel
theorem dM_remember_171 : decode cM_remember 171 = .ok (.getfield 116, 3) := by decide +kernel
theorem lM_116 : Cond.fieldLink RM 116 "RevisionWriteModel" "size" "I" ∈ A9 := in9_5 28 (by decide +kernel) rfl
theorem dM_remember_174 : decode cM_remember 174 = .ok (.iastore, 1) := by decide +kernel
theorem dM_remember_175 : decode cM_remember 175 = .ok (.aload_n 0, 1) := by decide +kernel
theorem dM_remember_176 : decode cM_remember 176 = .ok (.getfield 36, 3) := by decide +kernel
theorem dM_remember_179 : decode cM_remember 179 = .ok (.iload_n 2, 1) := by decide +kernel
theorem dM_remember_180 : decode cM_remember 180 = .ok (.aload_n 0, 1) := by decide +kernel
theorem dM_remember_181 : decode cM_remember 181 = .ok (.getfield 113, 3) := by decide +kernel
theorem dM_remember_184 : decode cM_remember 184 = .ok (.iastore, 1) := by decide +kernel
theorem dM_remember_185 : decode cM_remember 185 = .ok (.aload_n 0, 1) := by decide +kernel
theorem dM_remember_186 : decode cM_remember 186 = .ok (.iload_n 2, 1) := by decide +kernel
theorem dM_remember_187 : decode cM_remember 187 = .ok (.iconst 1, 1) := by decide +kernel
theorem dM_remember_188 : decode cM_remember 188 = .ok (.iadd, 1) := by decide +kernel
theorem dM_remember_189 : decode cM_remember 189 = .ok (.putfield 110, 3) := by decide +kernel
theorem dM_remember_192 : decode cM_remember 192 = .ok (.return_, 1) := by decide +kernel
abbrev cM_putAll : ByteArray := prog_10_method_20_code
def yM_putAll : MethodName := ⟨RM, "putAll", "(IZI)V"⟩
theorem wM_putAll : Cond.code yM_putAll cM_putAll 4 none ∈ A9 := in9_5 188 rfl rfl
theorem dM_putAll_0 : decode cM_putAll 0 = .ok (.aload_n 0, 1) := by decide +kernel
theorem dM_putAll_1 : decode cM_putAll 1 = .ok (.iconst 0, 1) := by decide +kernel
theorem dM_putAll_2 : decode cM_putAll 2 = .ok (.putfield 78, 3) := by decide +kernel
theorem dM_putAll_5 : decode cM_putAll 5 = .ok (.aload_n 0, 1) := by decide +kernel
theorem dM_putAll_6 : decode cM_putAll 6 = .ok (.aload_n 0, 1) := by decide +kernel
theorem dM_putAll_7 : decode cM_putAll 7 = .ok (.iload_n 1, 1) := by decide +kernel
theorem dM_putAll_8 : decode cM_putAll 8 = .ok (.iload_n 2, 1) := by decide +kernel
theorem dM_putAll_9 : decode cM_putAll 9 = .ok (.iload_n 3, 1) := by decide +kernel
theorem dM_putAll_10 : decode cM_putAll 10 = .ok (.invokevirtual 119, 3) := by decide +kernel
theorem dM_putAll_13 : decode cM_putAll 13 = .ok (.putfield 116, 3) := by decide +kernel
theorem dM_putAll_16 : decode cM_putAll 16 = .ok (.aload_n 0, 1) := by decide +kernel
theorem dM_putAll_17 : decode cM_putAll 17 = .ok (.iconst 0, 1) := by decide +kernel
theorem dM_putAll_18 : decode cM_putAll 18 = .ok (.putfield 123, 3) := by decide +kernel
theorem lM_123 : Cond.fieldLink RM 123 "RevisionWriteModel" "isAltered" "Z" ∈ A9 := in9_5 30 (by decide +kernel) rfl
theorem dM_putAll_21 : decode cM_putAll 21 = .ok (.aload_n 0, 1) := by decide +kernel
theorem dM_putAll_22 : decode cM_putAll 22 = .ok (.iload_n 2, 1) := by decide +kernel
theorem dM_putAll_23 : decode cM_putAll 23 = .ok (.invokevirtual 126, 3) := by decide +kernel
theorem dM_putAll_26 : decode cM_putAll 26 = .ok (.aload_n 0, 1) := by decide +kernel
theorem dM_putAll_27 : decode cM_putAll 27 = .ok (.invokevirtual 130, 3) := by decide +kernel
theorem dM_putAll_30 : decode cM_putAll 30 = .ok (.return_, 1) := by decide +kernel
abbrev cM_write : ByteArray := prog_10_method_21_code
def yM_write : MethodName := ⟨RM, "write", "(I)I"⟩
theorem wM_write : Cond.code yM_write cM_write 2 (some .int) ∈ A9 := in9_5 152 rfl rfl
theorem dM_write_0 : decode cM_write 0 = .ok (.aload_n 0, 1) := by decide +kernel
theorem dM_write_1 : decode cM_write 1 = .ok (.iload_n 1, 1) := by decide +kernel
theorem dM_write_2 : decode cM_write 2 = .ok (.ifCond .lt 8, 3) := by decide +kernel
theorem dM_write_5 : decode cM_write 5 = .ok (.iload_n 1, 1) := by decide +kernel
theorem dM_write_6 : decode cM_write 6 = .ok (.iconst 2, 1) := by decide +kernel
theorem dM_write_7 : decode cM_write 7 = .ok (.if_icmp .le 7, 3) := by decide +kernel
theorem dM_write_10 : decode cM_write 10 = .ok (.iconst 1, 1) := by decide +kernel
theorem dM_write_11 : decode cM_write 11 = .ok (.goto 4, 3) := by decide +kernel
theorem dM_write_14 : decode cM_write 14 = .ok (.iconst 0, 1) := by decide +kernel
theorem dM_write_15 : decode cM_write 15 = .ok (.putfield 63, 3) := by decide +kernel
theorem dM_write_18 : decode cM_write 18 = .ok (.aload_n 0, 1) := by decide +kernel
theorem dM_write_19 : decode cM_write 19 = .ok (.getfield 63, 3) := by decide +kernel
theorem dM_write_22 : decode cM_write 22 = .ok (.ifCond .le 5, 3) := by decide +kernel
theorem dM_write_25 : decode cM_write 25 = .ok (.iconst 0, 1) := by decide +kernel
theorem dM_write_26 : decode cM_write 26 = .ok (.ireturn, 1) := by decide +kernel
theorem dM_write_27 : decode cM_write 27 = .ok (.aload_n 0, 1) := by decide +kernel
theorem dM_write_28 : decode cM_write 28 = .ok (.iconst 1, 1) := by decide +kernel
theorem dM_write_29 : decode cM_write 29 = .ok (.putfield 78, 3) := by decide +kernel
theorem dM_write_32 : decode cM_write 32 = .ok (.aload_n 0, 1) := by decide +kernel
theorem dM_write_33 : decode cM_write 33 = .ok (.iconst 0, 1) := by decide +kernel
theorem dM_write_34 : decode cM_write 34 = .ok (.iconst 1, 1) := by decide +kernel
theorem dM_write_35 : decode cM_write 35 = .ok (.iload_n 1, 1) := by decide +kernel
theorem dM_write_36 : decode cM_write 36 = .ok (.invokevirtual 119, 3) := by decide +kernel
theorem dM_write_39 : decode cM_write 39 = .ok (.sipush 12000, 3) := by decide +kernel
theorem dM_write_42 : decode cM_write 42 = .ok (.if_icmp .le 10, 3) := by decide +kernel
theorem dM_write_52 : decode cM_write 52 = .ok (.aload_n 0, 1) := by decide +kernel
theorem dM_write_53 : decode cM_write 53 = .ok (.iconst 0, 1) := by decide +kernel
theorem dM_write_54 : decode cM_write 54 = .ok (.iconst 1, 1) := by decide +kernel
theorem dM_write_55 : decode cM_write 55 = .ok (.iload_n 1, 1) := by decide +kernel
theorem dM_write_56 : decode cM_write 56 = .ok (.invokevirtual 133, 3) := by decide +kernel
theorem dM_write_59 : decode cM_write 59 = .ok (.aload_n 0, 1) := by decide +kernel
theorem dM_write_60 : decode cM_write 60 = .ok (.getfield 116, 3) := by decide +kernel
theorem dM_write_63 : decode cM_write 63 = .ok (.ireturn, 1) := by decide +kernel
abbrev cM_changed : ByteArray := prog_10_method_22_code
def yM_changed : MethodName := ⟨RM, "changed", "()I"⟩
theorem wM_changed : Cond.code yM_changed cM_changed 3 (some .int) ∈ A9 := in9_5 204 rfl rfl
theorem dM_changed_0 : decode cM_changed 0 = .ok (.iconst 0, 1) := by decide +kernel
theorem dM_changed_1 : decode cM_changed 1 = .ok (.istore_n 1, 1) := by decide +kernel
theorem dM_changed_2 : decode cM_changed 2 = .ok (.iconst 1, 1) := by decide +kernel
theorem dM_changed_3 : decode cM_changed 3 = .ok (.istore_n 2, 1) := by decide +kernel
theorem dM_changed_4 : decode cM_changed 4 = .ok (.iload_n 2, 1) := by decide +kernel
theorem dM_changed_5 : decode cM_changed 5 = .ok (.bipush 40, 2) := by decide +kernel
theorem dM_changed_7 : decode cM_changed 7 = .ok (.if_icmp .gt 26, 3) := by decide +kernel
theorem dM_changed_10 : decode cM_changed 10 = .ok (.aload_n 0, 1) := by decide +kernel
theorem dM_changed_11 : decode cM_changed 11 = .ok (.getfield 16, 3) := by decide +kernel
theorem dM_changed_14 : decode cM_changed 14 = .ok (.iload_n 2, 1) := by decide +kernel
theorem dM_changed_15 : decode cM_changed 15 = .ok (.baload, 1) := by decide +kernel
theorem dM_changed_16 : decode cM_changed 16 = .ok (.ifCond .eq 9, 3) := by decide +kernel
theorem dM_changed_19 : decode cM_changed 19 = .ok (.iload_n 1, 1) := by decide +kernel
theorem dM_changed_20 : decode cM_changed 20 = .ok (.iconst 1, 1) := by decide +kernel
theorem dM_changed_21 : decode cM_changed 21 = .ok (.iadd, 1) := by decide +kernel
theorem dM_changed_22 : decode cM_changed 22 = .ok (.goto 4, 3) := by decide +kernel
theorem dM_changed_25 : decode cM_changed 25 = .ok (.iload_n 1, 1) := by decide +kernel
theorem dM_changed_26 : decode cM_changed 26 = .ok (.istore_n 1, 1) := by decide +kernel
theorem dM_changed_27 : decode cM_changed 27 = .ok (.iinc 2 1, 3) := by decide +kernel
theorem dM_changed_30 : decode cM_changed 30 = .ok (.goto (-26), 3) := by decide +kernel
theorem dM_changed_33 : decode cM_changed 33 = .ok (.iload_n 1, 1) := by decide +kernel
theorem dM_changed_34 : decode cM_changed 34 = .ok (.ireturn, 1) := by decide +kernel
abbrev cM_append : ByteArray := prog_10_method_23_code
def yM_append : MethodName := ⟨RM, "append", "()I"⟩
theorem wM_append : Cond.code yM_append cM_append 2 (some .int) ∈ A9 := in9_5 200 rfl rfl
theorem dM_append_0 : decode cM_append 0 = .ok (.aload_n 0, 1) := by decide +kernel
theorem dM_append_1 : decode cM_append 1 = .ok (.aload_n 0, 1) := by decide +kernel
theorem dM_append_2 : decode cM_append 2 = .ok (.getfield 116, 3) := by decide +kernel
theorem dM_append_5 : decode cM_append 5 = .ok (.ifCond .eq 10, 3) := by decide +kernel
theorem dM_append_8 : decode cM_append 8 = .ok (.aload_n 0, 1) := by decide +kernel
theorem dM_append_9 : decode cM_append 9 = .ok (.getfield 123, 3) := by decide +kernel
theorem dM_append_12 : decode cM_append 12 = .ok (.ifCond .eq 7, 3) := by decide +kernel
theorem dM_append_15 : decode cM_append 15 = .ok (.iconst 1, 1) := by decide +kernel
theorem dM_append_16 : decode cM_append 16 = .ok (.goto 4, 3) := by decide +kernel
theorem dM_append_19 : decode cM_append 19 = .ok (.iconst 0, 1) := by decide +kernel
theorem dM_append_20 : decode cM_append 20 = .ok (.putfield 63, 3) := by decide +kernel
theorem dM_append_23 : decode cM_append 23 = .ok (.aload_n 0, 1) := by decide +kernel
theorem dM_append_24 : decode cM_append 24 = .ok (.getfield 63, 3) := by decide +kernel
theorem dM_append_27 : decode cM_append 27 = .ok (.ifCond .gt 10, 3) := by decide +kernel
theorem dM_append_30 : decode cM_append 30 = .ok (.aload_n 0, 1) := by decide +kernel
theorem dM_append_31 : decode cM_append 31 = .ok (.invokevirtual 137, 3) := by decide +kernel
theorem dM_append_34 : decode cM_append 34 = .ok (.ifCond .ne 5, 3) := by decide +kernel
theorem dM_append_37 : decode cM_append 37 = .ok (.iconst 0, 1) := by decide +kernel
theorem dM_append_38 : decode cM_append 38 = .ok (.ireturn, 1) := by decide +kernel
theorem dM_append_39 : decode cM_append 39 = .ok (.aload_n 0, 1) := by decide +kernel
theorem dM_append_40 : decode cM_append 40 = .ok (.iconst 1, 1) := by decide +kernel
theorem dM_append_41 : decode cM_append 41 = .ok (.putfield 78, 3) := by decide +kernel
theorem dM_append_44 : decode cM_append 44 = .ok (.aload_n 0, 1) := by decide +kernel
theorem dM_append_45 : decode cM_append 45 = .ok (.getfield 110, 3) := by decide +kernel
theorem dM_append_48 : decode cM_append 48 = .ok (.bipush 60, 2) := by decide +kernel
theorem dM_append_50 : decode cM_append 50 = .ok (.if_icmp .eq 19, 3) := by decide +kernel
theorem dM_append_53 : decode cM_append 53 = .ok (.aload_n 0, 1) := by decide +kernel
theorem dM_append_54 : decode cM_append 54 = .ok (.aload_n 0, 1) := by decide +kernel
theorem dM_append_55 : decode cM_append 55 = .ok (.getfield 116, 3) := by decide +kernel
theorem dM_append_58 : decode cM_append 58 = .ok (.iconst 0, 1) := by decide +kernel
theorem dM_append_59 : decode cM_append 59 = .ok (.iconst 0, 1) := by decide +kernel
theorem dM_append_60 : decode cM_append 60 = .ok (.invokevirtual 119, 3) := by decide +kernel
theorem dM_append_63 : decode cM_append 63 = .ok (.sipush 12000, 3) := by decide +kernel
theorem dM_append_66 : decode cM_append 66 = .ok (.if_icmp .le 10, 3) := by decide +kernel
theorem dM_append_69 : decode cM_append 69 = .ok (.aload_n 0, 1) := by decide +kernel
theorem dM_append_70 : decode cM_append 70 = .ok (.iconst 2, 1) := by decide +kernel
theorem dM_append_71 : decode cM_append 71 = .ok (.putfield 63, 3) := by decide +kernel
theorem dM_append_74 : decode cM_append 74 = .ok (.iconst 0, 1) := by decide +kernel
theorem dM_append_75 : decode cM_append 75 = .ok (.ireturn, 1) := by decide +kernel
theorem dM_append_76 : decode cM_append 76 = .ok (.aload_n 0, 1) := by decide +kernel
theorem dM_append_77 : decode cM_append 77 = .ok (.getfield 116, 3) := by decide +kernel
theorem dM_append_80 : decode cM_append 80 = .ok (.istore_n 1, 1) := by decide +kernel
theorem dM_append_81 : decode cM_append 81 = .ok (.aload_n 0, 1) := by decide +kernel
theorem dM_append_82 : decode cM_append 82 = .ok (.aload_n 0, 1) := by decide +kernel
theorem dM_append_83 : decode cM_append 83 = .ok (.getfield 116, 3) := by decide +kernel
theorem dM_append_86 : decode cM_append 86 = .ok (.iconst 0, 1) := by decide +kernel
theorem dM_append_87 : decode cM_append 87 = .ok (.iconst 0, 1) := by decide +kernel
theorem dM_append_88 : decode cM_append 88 = .ok (.invokevirtual 133, 3) := by decide +kernel
theorem dM_append_91 : decode cM_append 91 = .ok (.aload_n 0, 1) := by decide +kernel
theorem dM_append_92 : decode cM_append 92 = .ok (.getfield 116, 3) := by decide +kernel
theorem dM_append_95 : decode cM_append 95 = .ok (.iload_n 1, 1) := by decide +kernel
theorem dM_append_96 : decode cM_append 96 = .ok (.isub, 1) := by decide +kernel
theorem dM_append_97 : decode cM_append 97 = .ok (.ireturn, 1) := by decide +kernel
abbrev cM_line : ByteArray := prog_10_method_24_code
def yM_line : MethodName := ⟨RM, "line", "(I)Z"⟩
theorem wM_line : Cond.code yM_line cM_line 2 (some .boolean) ∈ A9 := in9_5 220 rfl rfl
theorem dM_line_0 : decode cM_line 0 = .ok (.aload_n 0, 1) := by decide +kernel
theorem dM_line_1 : decode cM_line 1 = .ok (.iload_n 1, 1) := by decide +kernel
theorem dM_line_2 : decode cM_line 2 = .ok (.putfield 141, 3) := by decide +kernel
theorem lM_141 : Cond.fieldLink RM 141 "RevisionWriteModel" "cursor" "I" ∈ A9 := in9_5 42 (by decide +kernel) rfl
theorem dM_line_5 : decode cM_line 5 = .ok (.aload_n 0, 1) := by decide +kernel
theorem dM_line_6 : decode cM_line 6 = .ok (.iload_n 1, 1) := by decide +kernel
theorem dM_line_7 : decode cM_line 7 = .ok (.putfield 144, 3) := by decide +kernel
theorem lM_144 : Cond.fieldLink RM 144 "RevisionWriteModel" "lineEnd" "I" ∈ A9 := in9_5 41 (by decide +kernel) rfl
theorem dM_line_10 : decode cM_line 10 = .ok (.aload_n 0, 1) := by decide +kernel
theorem dM_line_11 : decode cM_line 11 = .ok (.getfield 144, 3) := by decide +kernel
theorem dM_line_14 : decode cM_line 14 = .ok (.aload_n 0, 1) := by decide +kernel
theorem dM_line_15 : decode cM_line 15 = .ok (.getfield 116, 3) := by decide +kernel
theorem dM_line_18 : decode cM_line 18 = .ok (.if_icmp .ge 30, 3) := by decide +kernel
theorem dM_line_21 : decode cM_line 21 = .ok (.aload_n 0, 1) := by decide +kernel
theorem dM_line_22 : decode cM_line 22 = .ok (.getfield 30, 3) := by decide +kernel
theorem dM_line_25 : decode cM_line 25 = .ok (.aload_n 0, 1) := by decide +kernel
theorem dM_line_26 : decode cM_line 26 = .ok (.getfield 144, 3) := by decide +kernel
theorem dM_line_29 : decode cM_line 29 = .ok (.baload, 1) := by decide +kernel
theorem dM_line_30 : decode cM_line 30 = .ok (.bipush 10, 2) := by decide +kernel
theorem dM_line_32 : decode cM_line 32 = .ok (.if_icmp .eq 16, 3) := by decide +kernel
theorem dM_line_35 : decode cM_line 35 = .ok (.aload_n 0, 1) := by decide +kernel
theorem dM_line_36 : decode cM_line 36 = .ok (.dup, 1) := by decide +kernel
theorem dM_line_37 : decode cM_line 37 = .ok (.getfield 144, 3) := by decide +kernel
theorem dM_line_40 : decode cM_line 40 = .ok (.iconst 1, 1) := by decide +kernel
theorem dM_line_41 : decode cM_line 41 = .ok (.iadd, 1) := by decide +kernel
theorem dM_line_42 : decode cM_line 42 = .ok (.putfield 144, 3) := by decide +kernel
theorem dM_line_45 : decode cM_line 45 = .ok (.goto (-35), 3) := by decide +kernel
theorem dM_line_48 : decode cM_line 48 = .ok (.aload_n 0, 1) := by decide +kernel
theorem dM_line_49 : decode cM_line 49 = .ok (.getfield 144, 3) := by decide +kernel
theorem dM_line_52 : decode cM_line 52 = .ok (.aload_n 0, 1) := by decide +kernel
theorem dM_line_53 : decode cM_line 53 = .ok (.getfield 116, 3) := by decide +kernel
theorem dM_line_56 : decode cM_line 56 = .ok (.if_icmp .ge 7, 3) := by decide +kernel
theorem dM_line_59 : decode cM_line 59 = .ok (.iconst 1, 1) := by decide +kernel
theorem dM_line_60 : decode cM_line 60 = .ok (.goto 4, 3) := by decide +kernel
theorem dM_line_63 : decode cM_line 63 = .ok (.iconst 0, 1) := by decide +kernel
theorem dM_line_64 : decode cM_line 64 = .ok (.ireturn, 1) := by decide +kernel
abbrev cM_takes : ByteArray := prog_10_method_25_code
def yM_takes : MethodName := ⟨RM, "takes", "(I)Z"⟩
theorem wM_takes : Cond.code yM_takes cM_takes 3 (some .boolean) ∈ A9 := in9_5 224 rfl rfl
theorem dM_takes_0 : decode cM_takes 0 = .ok (.aload_n 0, 1) := by decide +kernel
theorem dM_takes_1 : decode cM_takes 1 = .ok (.getfield 141, 3) := by decide +kernel
theorem dM_takes_4 : decode cM_takes 4 = .ok (.aload_n 0, 1) := by decide +kernel
theorem dM_takes_5 : decode cM_takes 5 = .ok (.getfield 144, 3) := by decide +kernel
theorem dM_takes_8 : decode cM_takes 8 = .ok (.if_icmp .ge 20, 3) := by decide +kernel
theorem dM_takes_11 : decode cM_takes 11 = .ok (.aload_n 0, 1) := by decide +kernel
theorem dM_takes_12 : decode cM_takes 12 = .ok (.getfield 30, 3) := by decide +kernel
theorem dM_takes_15 : decode cM_takes 15 = .ok (.aload_n 0, 1) := by decide +kernel
theorem dM_takes_16 : decode cM_takes 16 = .ok (.getfield 141, 3) := by decide +kernel
theorem dM_takes_19 : decode cM_takes 19 = .ok (.baload, 1) := by decide +kernel
theorem dM_takes_20 : decode cM_takes 20 = .ok (.iload_n 1, 1) := by decide +kernel
theorem dM_takes_21 : decode cM_takes 21 = .ok (.if_icmp .ne 7, 3) := by decide +kernel
theorem dM_takes_24 : decode cM_takes 24 = .ok (.iconst 1, 1) := by decide +kernel
theorem dM_takes_25 : decode cM_takes 25 = .ok (.goto 4, 3) := by decide +kernel
theorem dM_takes_28 : decode cM_takes 28 = .ok (.iconst 0, 1) := by decide +kernel
theorem dM_takes_29 : decode cM_takes 29 = .ok (.istore_n 2, 1) := by decide +kernel
theorem dM_takes_30 : decode cM_takes 30 = .ok (.aload_n 0, 1) := by decide +kernel
theorem dM_takes_31 : decode cM_takes 31 = .ok (.iload_n 2, 1) := by decide +kernel
theorem dM_takes_32 : decode cM_takes 32 = .ok (.ifCond .eq 12, 3) := by decide +kernel
theorem dM_takes_35 : decode cM_takes 35 = .ok (.aload_n 0, 1) := by decide +kernel
theorem dM_takes_36 : decode cM_takes 36 = .ok (.getfield 141, 3) := by decide +kernel
theorem dM_takes_39 : decode cM_takes 39 = .ok (.iconst 1, 1) := by decide +kernel
theorem dM_takes_40 : decode cM_takes 40 = .ok (.iadd, 1) := by decide +kernel
theorem dM_takes_41 : decode cM_takes 41 = .ok (.goto 7, 3) := by decide +kernel
theorem dM_takes_44 : decode cM_takes 44 = .ok (.aload_n 0, 1) := by decide +kernel
theorem dM_takes_45 : decode cM_takes 45 = .ok (.getfield 141, 3) := by decide +kernel
theorem dM_takes_48 : decode cM_takes 48 = .ok (.putfield 141, 3) := by decide +kernel
theorem dM_takes_51 : decode cM_takes 51 = .ok (.iload_n 2, 1) := by decide +kernel
theorem dM_takes_52 : decode cM_takes 52 = .ok (.ireturn, 1) := by decide +kernel
abbrev cM_takesNumber : ByteArray := prog_10_method_26_code
def yM_takesNumber : MethodName := ⟨RM, "takesNumber", "()Z"⟩
theorem wM_takesNumber : Cond.code yM_takesNumber cM_takesNumber 2 (some .boolean) ∈ A9 := in9_6 0 rfl rfl
theorem dM_takesNumber_0 : decode cM_takesNumber 0 = .ok (.aload_n 0, 1) := by decide +kernel
theorem dM_takesNumber_1 : decode cM_takesNumber 1 = .ok (.getfield 141, 3) := by decide +kernel
theorem dM_takesNumber_4 : decode cM_takesNumber 4 = .ok (.istore_n 1, 1) := by decide +kernel
theorem dM_takesNumber_5 : decode cM_takesNumber 5 = .ok (.aload_n 0, 1) := by decide +kernel
theorem dM_takesNumber_6 : decode cM_takesNumber 6 = .ok (.iconst 0, 1) := by decide +kernel
theorem dM_takesNumber_7 : decode cM_takesNumber 7 = .ok (.putfield 147, 3) := by decide +kernel
theorem lM_147 : Cond.fieldLink RM 147 "RevisionWriteModel" "number" "I" ∈ A9 := in9_5 43 (by decide +kernel) rfl
theorem dM_takesNumber_10 : decode cM_takesNumber 10 = .ok (.aload_n 0, 1) := by decide +kernel
theorem dM_takesNumber_11 : decode cM_takesNumber 11 = .ok (.getfield 141, 3) := by decide +kernel
theorem dM_takesNumber_14 : decode cM_takesNumber 14 = .ok (.aload_n 0, 1) := by decide +kernel
theorem dM_takesNumber_15 : decode cM_takesNumber 15 = .ok (.getfield 144, 3) := by decide +kernel
theorem dM_takesNumber_18 : decode cM_takesNumber 18 = .ok (.if_icmp .ge 78, 3) := by decide +kernel
theorem dM_takesNumber_21 : decode cM_takesNumber 21 = .ok (.aload_n 0, 1) := by decide +kernel
theorem dM_takesNumber_22 : decode cM_takesNumber 22 = .ok (.getfield 30, 3) := by decide +kernel
theorem dM_takesNumber_25 : decode cM_takesNumber 25 = .ok (.aload_n 0, 1) := by decide +kernel
theorem dM_takesNumber_26 : decode cM_takesNumber 26 = .ok (.getfield 141, 3) := by decide +kernel
theorem dM_takesNumber_29 : decode cM_takesNumber 29 = .ok (.baload, 1) := by decide +kernel
theorem dM_takesNumber_30 : decode cM_takesNumber 30 = .ok (.bipush 48, 2) := by decide +kernel
theorem dM_takesNumber_32 : decode cM_takesNumber 32 = .ok (.if_icmp .lt 64, 3) := by decide +kernel
theorem dM_takesNumber_35 : decode cM_takesNumber 35 = .ok (.aload_n 0, 1) := by decide +kernel
theorem dM_takesNumber_36 : decode cM_takesNumber 36 = .ok (.getfield 30, 3) := by decide +kernel
theorem dM_takesNumber_39 : decode cM_takesNumber 39 = .ok (.aload_n 0, 1) := by decide +kernel
theorem dM_takesNumber_40 : decode cM_takesNumber 40 = .ok (.getfield 141, 3) := by decide +kernel
theorem dM_takesNumber_43 : decode cM_takesNumber 43 = .ok (.baload, 1) := by decide +kernel
theorem dM_takesNumber_44 : decode cM_takesNumber 44 = .ok (.bipush 57, 2) := by decide +kernel
theorem dM_takesNumber_46 : decode cM_takesNumber 46 = .ok (.if_icmp .gt 50, 3) := by decide +kernel
theorem dM_takesNumber_49 : decode cM_takesNumber 49 = .ok (.aload_n 0, 1) := by decide +kernel
theorem dM_takesNumber_50 : decode cM_takesNumber 50 = .ok (.getfield 141, 3) := by decide +kernel
theorem dM_takesNumber_53 : decode cM_takesNumber 53 = .ok (.iload_n 1, 1) := by decide +kernel
theorem dM_takesNumber_54 : decode cM_takesNumber 54 = .ok (.isub, 1) := by decide +kernel
theorem dM_takesNumber_55 : decode cM_takesNumber 55 = .ok (.iconst 5, 1) := by decide +kernel
theorem dM_takesNumber_56 : decode cM_takesNumber 56 = .ok (.if_icmp .ge 40, 3) := by decide +kernel
theorem dM_takesNumber_59 : decode cM_takesNumber 59 = .ok (.aload_n 0, 1) := by decide +kernel
theorem dM_takesNumber_60 : decode cM_takesNumber 60 = .ok (.bipush 10, 2) := by decide +kernel
theorem dM_takesNumber_62 : decode cM_takesNumber 62 = .ok (.aload_n 0, 1) := by decide +kernel
theorem dM_takesNumber_63 : decode cM_takesNumber 63 = .ok (.getfield 147, 3) := by decide +kernel
theorem dM_takesNumber_66 : decode cM_takesNumber 66 = .ok (.imul, 1) := by decide +kernel
theorem dM_takesNumber_67 : decode cM_takesNumber 67 = .ok (.aload_n 0, 1) := by decide +kernel
theorem dM_takesNumber_68 : decode cM_takesNumber 68 = .ok (.getfield 30, 3) := by decide +kernel
theorem dM_takesNumber_71 : decode cM_takesNumber 71 = .ok (.aload_n 0, 1) := by decide +kernel
theorem dM_takesNumber_72 : decode cM_takesNumber 72 = .ok (.getfield 141, 3) := by decide +kernel
theorem dM_takesNumber_75 : decode cM_takesNumber 75 = .ok (.baload, 1) := by decide +kernel
theorem dM_takesNumber_76 : decode cM_takesNumber 76 = .ok (.iadd, 1) := by decide +kernel
theorem dM_takesNumber_77 : decode cM_takesNumber 77 = .ok (.bipush 48, 2) := by decide +kernel
theorem dM_takesNumber_79 : decode cM_takesNumber 79 = .ok (.isub, 1) := by decide +kernel
theorem dM_takesNumber_80 : decode cM_takesNumber 80 = .ok (.putfield 147, 3) := by decide +kernel
theorem dM_takesNumber_83 : decode cM_takesNumber 83 = .ok (.aload_n 0, 1) := by decide +kernel
theorem dM_takesNumber_84 : decode cM_takesNumber 84 = .ok (.dup, 1) := by decide +kernel
theorem dM_takesNumber_85 : decode cM_takesNumber 85 = .ok (.getfield 141, 3) := by decide +kernel
theorem dM_takesNumber_88 : decode cM_takesNumber 88 = .ok (.iconst 1, 1) := by decide +kernel
theorem dM_takesNumber_89 : decode cM_takesNumber 89 = .ok (.iadd, 1) := by decide +kernel
theorem dM_takesNumber_90 : decode cM_takesNumber 90 = .ok (.putfield 141, 3) := by decide +kernel
theorem dM_takesNumber_93 : decode cM_takesNumber 93 = .ok (.goto (-83), 3) := by decide +kernel
theorem dM_takesNumber_96 : decode cM_takesNumber 96 = .ok (.aload_n 0, 1) := by decide +kernel
theorem dM_takesNumber_97 : decode cM_takesNumber 97 = .ok (.getfield 141, 3) := by decide +kernel
theorem dM_takesNumber_100 : decode cM_takesNumber 100 = .ok (.iload_n 1, 1) := by decide +kernel
theorem dM_takesNumber_101 : decode cM_takesNumber 101 = .ok (.if_icmp .le 28, 3) := by decide +kernel
theorem dM_takesNumber_104 : decode cM_takesNumber 104 = .ok (.aload_n 0, 1) := by decide +kernel
theorem dM_takesNumber_105 : decode cM_takesNumber 105 = .ok (.getfield 141, 3) := by decide +kernel
theorem dM_takesNumber_108 : decode cM_takesNumber 108 = .ok (.iload_n 1, 1) := by decide +kernel
theorem dM_takesNumber_109 : decode cM_takesNumber 109 = .ok (.isub, 1) := by decide +kernel
theorem dM_takesNumber_110 : decode cM_takesNumber 110 = .ok (.iconst 1, 1) := by decide +kernel
theorem dM_takesNumber_111 : decode cM_takesNumber 111 = .ok (.if_icmp .eq 14, 3) := by decide +kernel
theorem dM_takesNumber_114 : decode cM_takesNumber 114 = .ok (.aload_n 0, 1) := by decide +kernel
theorem dM_takesNumber_115 : decode cM_takesNumber 115 = .ok (.getfield 30, 3) := by decide +kernel
theorem dM_takesNumber_118 : decode cM_takesNumber 118 = .ok (.iload_n 1, 1) := by decide +kernel
theorem dM_takesNumber_119 : decode cM_takesNumber 119 = .ok (.baload, 1) := by decide +kernel
theorem dM_takesNumber_120 : decode cM_takesNumber 120 = .ok (.bipush 48, 2) := by decide +kernel
theorem dM_takesNumber_122 : decode cM_takesNumber 122 = .ok (.if_icmp .eq 7, 3) := by decide +kernel
theorem dM_takesNumber_125 : decode cM_takesNumber 125 = .ok (.iconst 1, 1) := by decide +kernel
theorem dM_takesNumber_126 : decode cM_takesNumber 126 = .ok (.goto 4, 3) := by decide +kernel
theorem dM_takesNumber_129 : decode cM_takesNumber 129 = .ok (.iconst 0, 1) := by decide +kernel
theorem dM_takesNumber_130 : decode cM_takesNumber 130 = .ok (.ireturn, 1) := by decide +kernel
abbrev cM_isOver : ByteArray := prog_10_method_27_code
def yM_isOver : MethodName := ⟨RM, "isOver", "()Z"⟩
theorem wM_isOver : Cond.code yM_isOver cM_isOver 1 (some .boolean) ∈ A9 := in9_5 228 rfl rfl
theorem dM_isOver_0 : decode cM_isOver 0 = .ok (.aload_n 0, 1) := by decide +kernel
theorem dM_isOver_1 : decode cM_isOver 1 = .ok (.getfield 141, 3) := by decide +kernel
theorem dM_isOver_4 : decode cM_isOver 4 = .ok (.aload_n 0, 1) := by decide +kernel
theorem dM_isOver_5 : decode cM_isOver 5 = .ok (.getfield 144, 3) := by decide +kernel
theorem dM_isOver_8 : decode cM_isOver 8 = .ok (.if_icmp .ne 7, 3) := by decide +kernel
theorem dM_isOver_11 : decode cM_isOver 11 = .ok (.iconst 1, 1) := by decide +kernel
theorem dM_isOver_12 : decode cM_isOver 12 = .ok (.goto 4, 3) := by decide +kernel
theorem dM_isOver_15 : decode cM_isOver 15 = .ok (.iconst 0, 1) := by decide +kernel
theorem dM_isOver_16 : decode cM_isOver 16 = .ok (.ireturn, 1) := by decide +kernel
abbrev cM_tells : ByteArray := prog_10_method_28_code
def yM_tells : MethodName := ⟨RM, "tells", "(II)Z"⟩
theorem wM_tells : Cond.code yM_tells cM_tells 3 (some .boolean) ∈ A9 := in9_5 236 rfl rfl
theorem dM_tells_0 : decode cM_tells 0 = .ok (.aload_n 0, 1) := by decide +kernel
theorem dM_tells_1 : decode cM_tells 1 = .ok (.iload_n 1, 1) := by decide +kernel
theorem dM_tells_2 : decode cM_tells 2 = .ok (.invokevirtual 150, 3) := by decide +kernel
theorem dM_tells_5 : decode cM_tells 5 = .ok (.ifCond .eq 38, 3) := by decide +kernel
theorem dM_tells_8 : decode cM_tells 8 = .ok (.aload_n 0, 1) := by decide +kernel
theorem dM_tells_9 : decode cM_tells 9 = .ok (.iload_n 2, 1) := by decide +kernel
theorem dM_tells_10 : decode cM_tells 10 = .ok (.invokevirtual 153, 3) := by decide +kernel
theorem dM_tells_13 : decode cM_tells 13 = .ok (.ifCond .eq 30, 3) := by decide +kernel
theorem dM_tells_16 : decode cM_tells 16 = .ok (.aload_n 0, 1) := by decide +kernel
theorem dM_tells_17 : decode cM_tells 17 = .ok (.bipush 32, 2) := by decide +kernel
theorem dM_tells_19 : decode cM_tells 19 = .ok (.invokevirtual 153, 3) := by decide +kernel
theorem dM_tells_22 : decode cM_tells 22 = .ok (.ifCond .eq 21, 3) := by decide +kernel
theorem dM_tells_25 : decode cM_tells 25 = .ok (.aload_n 0, 1) := by decide +kernel
theorem dM_tells_26 : decode cM_tells 26 = .ok (.invokevirtual 156, 3) := by decide +kernel
theorem dM_tells_29 : decode cM_tells 29 = .ok (.ifCond .eq 14, 3) := by decide +kernel
theorem dM_tells_32 : decode cM_tells 32 = .ok (.aload_n 0, 1) := by decide +kernel
theorem dM_tells_33 : decode cM_tells 33 = .ok (.invokevirtual 160, 3) := by decide +kernel
theorem dM_tells_36 : decode cM_tells 36 = .ok (.ifCond .eq 7, 3) := by decide +kernel
theorem dM_tells_39 : decode cM_tells 39 = .ok (.iconst 1, 1) := by decide +kernel
theorem dM_tells_40 : decode cM_tells 40 = .ok (.goto 4, 3) := by decide +kernel
theorem dM_tells_43 : decode cM_tells 43 = .ok (.iconst 0, 1) := by decide +kernel
theorem dM_tells_44 : decode cM_tells 44 = .ok (.ireturn, 1) := by decide +kernel
abbrev cM_isRow : ByteArray := prog_10_method_29_code
def yM_isRow : MethodName := ⟨RM, "isRow", "(I)Z"⟩
theorem wM_isRow : Cond.code yM_isRow cM_isRow 3 (some .boolean) ∈ A9 := in9_6 8 rfl rfl
theorem dM_isRow_0 : decode cM_isRow 0 = .ok (.aload_n 0, 1) := by decide +kernel
theorem dM_isRow_1 : decode cM_isRow 1 = .ok (.iload_n 1, 1) := by decide +kernel
theorem dM_isRow_2 : decode cM_isRow 2 = .ok (.invokevirtual 150, 3) := by decide +kernel
theorem dM_isRow_5 : decode cM_isRow 5 = .ok (.ifCond .eq 10, 3) := by decide +kernel
theorem dM_isRow_8 : decode cM_isRow 8 = .ok (.aload_n 0, 1) := by decide +kernel
theorem dM_isRow_9 : decode cM_isRow 9 = .ok (.invokevirtual 156, 3) := by decide +kernel
theorem dM_isRow_12 : decode cM_isRow 12 = .ok (.ifCond .ne 5, 3) := by decide +kernel
theorem dM_isRow_15 : decode cM_isRow 15 = .ok (.iconst 0, 1) := by decide +kernel
theorem dM_isRow_16 : decode cM_isRow 16 = .ok (.ireturn, 1) := by decide +kernel
theorem dM_isRow_17 : decode cM_isRow 17 = .ok (.aload_n 0, 1) := by decide +kernel
theorem dM_isRow_18 : decode cM_isRow 18 = .ok (.aload_n 0, 1) := by decide +kernel
theorem dM_isRow_19 : decode cM_isRow 19 = .ok (.getfield 147, 3) := by decide +kernel
theorem dM_isRow_22 : decode cM_isRow 22 = .ok (.putfield 113, 3) := by decide +kernel
theorem dM_isRow_25 : decode cM_isRow 25 = .ok (.aload_n 0, 1) := by decide +kernel
theorem dM_isRow_26 : decode cM_isRow 26 = .ok (.bipush 32, 2) := by decide +kernel
theorem dM_isRow_28 : decode cM_isRow 28 = .ok (.invokevirtual 153, 3) := by decide +kernel
theorem dM_isRow_31 : decode cM_isRow 31 = .ok (.ifCond .ne 5, 3) := by decide +kernel
theorem dM_isRow_34 : decode cM_isRow 34 = .ok (.iconst 0, 1) := by decide +kernel
theorem dM_isRow_35 : decode cM_isRow 35 = .ok (.ireturn, 1) := by decide +kernel
theorem dM_isRow_36 : decode cM_isRow 36 = .ok (.aload_n 0, 1) := by decide +kernel
theorem dM_isRow_37 : decode cM_isRow 37 = .ok (.iconst (-1), 1) := by decide +kernel
theorem dM_isRow_38 : decode cM_isRow 38 = .ok (.putfield 163, 3) := by decide +kernel
theorem lM_163 : Cond.fieldLink RM 163 "RevisionWriteModel" "second" "I" ∈ A9 := in9_5 48 (by decide +kernel) rfl
theorem dM_isRow_41 : decode cM_isRow 41 = .ok (.aload_n 0, 1) := by decide +kernel
theorem dM_isRow_42 : decode cM_isRow 42 = .ok (.bipush 45, 2) := by decide +kernel
theorem dM_isRow_44 : decode cM_isRow 44 = .ok (.invokevirtual 153, 3) := by decide +kernel
theorem dM_isRow_47 : decode cM_isRow 47 = .ok (.ifCond .eq 8, 3) := by decide +kernel
theorem dM_isRow_50 : decode cM_isRow 50 = .ok (.aload_n 0, 1) := by decide +kernel
theorem dM_isRow_51 : decode cM_isRow 51 = .ok (.invokevirtual 160, 3) := by decide +kernel
theorem dM_isRow_54 : decode cM_isRow 54 = .ok (.ireturn, 1) := by decide +kernel
theorem dM_isRow_55 : decode cM_isRow 55 = .ok (.aload_n 0, 1) := by decide +kernel
theorem dM_isRow_56 : decode cM_isRow 56 = .ok (.invokevirtual 156, 3) := by decide +kernel
theorem dM_isRow_59 : decode cM_isRow 59 = .ok (.ifCond .eq 14, 3) := by decide +kernel
theorem dM_isRow_62 : decode cM_isRow 62 = .ok (.aload_n 0, 1) := by decide +kernel
theorem dM_isRow_63 : decode cM_isRow 63 = .ok (.invokevirtual 160, 3) := by decide +kernel
theorem dM_isRow_66 : decode cM_isRow 66 = .ok (.ifCond .eq 7, 3) := by decide +kernel
theorem dM_isRow_69 : decode cM_isRow 69 = .ok (.iconst 1, 1) := by decide +kernel
theorem dM_isRow_70 : decode cM_isRow 70 = .ok (.goto 4, 3) := by decide +kernel
theorem dM_isRow_73 : decode cM_isRow 73 = .ok (.iconst 0, 1) := by decide +kernel
theorem dM_isRow_74 : decode cM_isRow 74 = .ok (.istore_n 2, 1) := by decide +kernel
theorem dM_isRow_75 : decode cM_isRow 75 = .ok (.aload_n 0, 1) := by decide +kernel
theorem dM_isRow_76 : decode cM_isRow 76 = .ok (.aload_n 0, 1) := by decide +kernel
theorem dM_isRow_77 : decode cM_isRow 77 = .ok (.getfield 147, 3) := by decide +kernel
theorem dM_isRow_80 : decode cM_isRow 80 = .ok (.putfield 163, 3) := by decide +kernel
theorem dM_isRow_83 : decode cM_isRow 83 = .ok (.iload_n 2, 1) := by decide +kernel
theorem dM_isRow_84 : decode cM_isRow 84 = .ok (.ireturn, 1) := by decide +kernel
abbrev cM_isRecord : ByteArray := prog_10_method_30_code
def yM_isRecord : MethodName := ⟨RM, "isRecord", "(III)Z"⟩
theorem wM_isRecord : Cond.code yM_isRecord cM_isRecord 4 (some .boolean) ∈ A9 := in9_6 16 rfl rfl
theorem dM_isRecord_0 : decode cM_isRecord 0 = .ok (.aload_n 0, 1) := by decide +kernel
theorem dM_isRecord_1 : decode cM_isRecord 1 = .ok (.iload_n 1, 1) := by decide +kernel
theorem dM_isRecord_2 : decode cM_isRecord 2 = .ok (.invokevirtual 150, 3) := by decide +kernel
theorem dM_isRecord_5 : decode cM_isRecord 5 = .ok (.ifCond .eq 68, 3) := by decide +kernel
theorem dM_isRecord_8 : decode cM_isRecord 8 = .ok (.aload_n 0, 1) := by decide +kernel
theorem dM_isRecord_9 : decode cM_isRecord 9 = .ok (.bipush 111, 2) := by decide +kernel
theorem dM_isRecord_11 : decode cM_isRecord 11 = .ok (.invokevirtual 153, 3) := by decide +kernel
theorem dM_isRecord_14 : decode cM_isRecord 14 = .ok (.ifCond .eq 59, 3) := by decide +kernel
theorem dM_isRecord_17 : decode cM_isRecord 17 = .ok (.aload_n 0, 1) := by decide +kernel
