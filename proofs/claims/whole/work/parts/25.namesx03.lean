theorem dXC_rowsFault_5 : decode cXC_rowsFault 5 = .ok (.iload 4, 2) := by decide +kernel
theorem dXC_rowsFault_7 : decode cXC_rowsFault 7 = .ok (.iload_n 2, 1) := by decide +kernel
theorem dXC_rowsFault_8 : decode cXC_rowsFault 8 = .ok (.if_icmp .ge 114, 3) := by decide +kernel
theorem dXC_rowsFault_11 : decode cXC_rowsFault 11 = .ok (.aload_n 0, 1) := by decide +kernel
theorem dXC_rowsFault_12 : decode cXC_rowsFault 12 = .ok (.getfield 73, 3) := by decide +kernel
theorem lXC_73 : Cond.fieldLink RXC 73 "RevisionWrite$Scan" "next" "I" ∈ A9 := in9_1 154 (by decide +kernel) rfl
theorem dXC_rowsFault_15 : decode cXC_rowsFault 15 = .ok (.istore 5, 2) := by decide +kernel
theorem dXC_rowsFault_17 : decode cXC_rowsFault 17 = .ok (.aload_n 0, 1) := by decide +kernel
theorem dXC_rowsFault_18 : decode cXC_rowsFault 18 = .ok (.invokevirtual 76, 3) := by decide +kernel
theorem dXC_rowsFault_21 : decode cXC_rowsFault 21 = .ok (.istore 6, 2) := by decide +kernel
theorem dXC_rowsFault_23 : decode cXC_rowsFault 23 = .ok (.iload 6, 2) := by decide +kernel
theorem dXC_rowsFault_25 : decode cXC_rowsFault 25 = .ok (.iload_n 3, 1) := by decide +kernel
theorem dXC_rowsFault_26 : decode cXC_rowsFault 26 = .ok (.if_icmp .le 19, 3) := by decide +kernel
theorem dXC_rowsFault_29 : decode cXC_rowsFault 29 = .ok (.iload 6, 2) := by decide +kernel
theorem dXC_rowsFault_31 : decode cXC_rowsFault 31 = .ok (.bipush 40, 2) := by decide +kernel
theorem dXC_rowsFault_33 : decode cXC_rowsFault 33 = .ok (.if_icmp .gt 12, 3) := by decide +kernel
theorem dXC_rowsFault_36 : decode cXC_rowsFault 36 = .ok (.aload_n 0, 1) := by decide +kernel
theorem dXC_rowsFault_37 : decode cXC_rowsFault 37 = .ok (.bipush 32, 2) := by decide +kernel
theorem dXC_rowsFault_39 : decode cXC_rowsFault 39 = .ok (.invokevirtual 79, 3) := by decide +kernel
theorem dXC_rowsFault_42 : decode cXC_rowsFault 42 = .ok (.ifCond .ne 6, 3) := by decide +kernel
theorem dXC_rowsFault_45 : decode cXC_rowsFault 45 = .ok (.iload 5, 2) := by decide +kernel
theorem dXC_rowsFault_47 : decode cXC_rowsFault 47 = .ok (.ireturn, 1) := by decide +kernel
theorem dXC_rowsFault_48 : decode cXC_rowsFault 48 = .ok (.aload_n 0, 1) := by decide +kernel
theorem dXC_rowsFault_49 : decode cXC_rowsFault 49 = .ok (.bipush 45, 2) := by decide +kernel
theorem dXC_rowsFault_51 : decode cXC_rowsFault 51 = .ok (.invokevirtual 79, 3) := by decide +kernel
theorem dXC_rowsFault_54 : decode cXC_rowsFault 54 = .ok (.ifCond .eq 14, 3) := by decide +kernel
theorem dXC_rowsFault_57 : decode cXC_rowsFault 57 = .ok (.aload_n 1, 1) := by decide +kernel
theorem dXC_rowsFault_58 : decode cXC_rowsFault 58 = .ok (.getfield 83, 3) := by decide +kernel
theorem lXC_83 : Cond.fieldLink RXC 83 "RevisionWrite$Table" "places" "[I" ∈ A9 := in9_1 107 (by decide +kernel) rfl
theorem dXC_rowsFault_61 : decode cXC_rowsFault 61 = .ok (.iload 6, 2) := by decide +kernel
theorem dXC_rowsFault_63 : decode cXC_rowsFault 63 = .ok (.iconst (-1), 1) := by decide +kernel
theorem dXC_rowsFault_64 : decode cXC_rowsFault 64 = .ok (.iastore, 1) := by decide +kernel
theorem dXC_rowsFault_65 : decode cXC_rowsFault 65 = .ok (.goto 36, 3) := by decide +kernel
theorem dXC_rowsFault_68 : decode cXC_rowsFault 68 = .ok (.aload_n 0, 1) := by decide +kernel
theorem dXC_rowsFault_69 : decode cXC_rowsFault 69 = .ok (.invokevirtual 76, 3) := by decide +kernel
theorem dXC_rowsFault_72 : decode cXC_rowsFault 72 = .ok (.istore 7, 2) := by decide +kernel
theorem dXC_rowsFault_74 : decode cXC_rowsFault 74 = .ok (.iload 7, 2) := by decide +kernel
theorem dXC_rowsFault_76 : decode cXC_rowsFault 76 = .ok (.iconst (-1), 1) := by decide +kernel
theorem dXC_rowsFault_77 : decode cXC_rowsFault 77 = .ok (.if_icmp .eq 12, 3) := by decide +kernel
theorem dXC_rowsFault_80 : decode cXC_rowsFault 80 = .ok (.iload 7, 2) := by decide +kernel
theorem dXC_rowsFault_82 : decode cXC_rowsFault 82 = .ok (.aload_n 1, 1) := by decide +kernel
theorem dXC_rowsFault_83 : decode cXC_rowsFault 83 = .ok (.getfield 60, 3) := by decide +kernel
theorem dXC_rowsFault_86 : decode cXC_rowsFault 86 = .ok (.if_icmp .lt 6, 3) := by decide +kernel
theorem dXC_rowsFault_89 : decode cXC_rowsFault 89 = .ok (.iload 5, 2) := by decide +kernel
theorem dXC_rowsFault_91 : decode cXC_rowsFault 91 = .ok (.ireturn, 1) := by decide +kernel
theorem dXC_rowsFault_92 : decode cXC_rowsFault 92 = .ok (.aload_n 1, 1) := by decide +kernel
theorem dXC_rowsFault_93 : decode cXC_rowsFault 93 = .ok (.getfield 83, 3) := by decide +kernel
theorem dXC_rowsFault_96 : decode cXC_rowsFault 96 = .ok (.iload 6, 2) := by decide +kernel
theorem dXC_rowsFault_98 : decode cXC_rowsFault 98 = .ok (.iload 7, 2) := by decide +kernel
theorem dXC_rowsFault_100 : decode cXC_rowsFault 100 = .ok (.iastore, 1) := by decide +kernel
theorem dXC_rowsFault_101 : decode cXC_rowsFault 101 = .ok (.aload_n 0, 1) := by decide +kernel
theorem dXC_rowsFault_102 : decode cXC_rowsFault 102 = .ok (.bipush 10, 2) := by decide +kernel
theorem dXC_rowsFault_104 : decode cXC_rowsFault 104 = .ok (.invokevirtual 79, 3) := by decide +kernel
theorem dXC_rowsFault_107 : decode cXC_rowsFault 107 = .ok (.ifCond .ne 6, 3) := by decide +kernel
theorem dXC_rowsFault_110 : decode cXC_rowsFault 110 = .ok (.iload 5, 2) := by decide +kernel
theorem dXC_rowsFault_112 : decode cXC_rowsFault 112 = .ok (.ireturn, 1) := by decide +kernel
theorem dXC_rowsFault_113 : decode cXC_rowsFault 113 = .ok (.iload 6, 2) := by decide +kernel
theorem dXC_rowsFault_115 : decode cXC_rowsFault 115 = .ok (.istore_n 3, 1) := by decide +kernel
theorem dXC_rowsFault_116 : decode cXC_rowsFault 116 = .ok (.iinc 4 1, 3) := by decide +kernel
theorem dXC_rowsFault_119 : decode cXC_rowsFault 119 = .ok (.goto (-114), 3) := by decide +kernel
theorem dXC_rowsFault_122 : decode cXC_rowsFault 122 = .ok (.iconst (-1), 1) := by decide +kernel
theorem dXC_rowsFault_123 : decode cXC_rowsFault 123 = .ok (.ireturn, 1) := by decide +kernel
abbrev cXC_endFault : ByteArray := prog_6_method_7_code
def yXC_endFault : MethodName := ⟨RXC, "endFault", "(LRevisionWrite$Table;)I"⟩
theorem wXC_endFault : Cond.code yXC_endFault cXC_endFault 4 (some .int) ∈ A9 := in9_2 58 rfl rfl
theorem dXC_endFault_0 : decode cXC_endFault 0 = .ok (.aload_n 0, 1) := by decide +kernel
theorem dXC_endFault_1 : decode cXC_endFault 1 = .ok (.getfield 73, 3) := by decide +kernel
theorem dXC_endFault_4 : decode cXC_endFault 4 = .ok (.istore_n 2, 1) := by decide +kernel
theorem dXC_endFault_5 : decode cXC_endFault 5 = .ok (.aload_n 0, 1) := by decide +kernel
theorem dXC_endFault_6 : decode cXC_endFault 6 = .ok (.aload_n 0, 1) := by decide +kernel
theorem dXC_endFault_7 : decode cXC_endFault 7 = .ok (.iload_n 2, 1) := by decide +kernel
theorem dXC_endFault_8 : decode cXC_endFault 8 = .ok (.bipush 112, 2) := by decide +kernel
theorem dXC_endFault_10 : decode cXC_endFault 10 = .ok (.invokevirtual 41, 3) := by decide +kernel
theorem dXC_endFault_13 : decode cXC_endFault 13 = .ok (.putfield 49, 3) := by decide +kernel
theorem dXC_endFault_16 : decode cXC_endFault 16 = .ok (.aload_n 0, 1) := by decide +kernel
theorem dXC_endFault_17 : decode cXC_endFault 17 = .ok (.getfield 49, 3) := by decide +kernel
theorem dXC_endFault_20 : decode cXC_endFault 20 = .ok (.ifCond .eq 18, 3) := by decide +kernel
theorem dXC_endFault_23 : decode cXC_endFault 23 = .ok (.aload_n 0, 1) := by decide +kernel
theorem dXC_endFault_24 : decode cXC_endFault 24 = .ok (.getfield 22, 3) := by decide +kernel
theorem dXC_endFault_27 : decode cXC_endFault 27 = .ok (.iconst 1, 1) := by decide +kernel
theorem dXC_endFault_28 : decode cXC_endFault 28 = .ok (.iadd, 1) := by decide +kernel
theorem dXC_endFault_29 : decode cXC_endFault 29 = .ok (.bipush 60, 2) := by decide +kernel
theorem dXC_endFault_31 : decode cXC_endFault 31 = .ok (.if_icmp .lt 7, 3) := by decide +kernel
theorem dXC_endFault_34 : decode cXC_endFault 34 = .ok (.iconst 1, 1) := by decide +kernel
theorem dXC_endFault_35 : decode cXC_endFault 35 = .ok (.goto 4, 3) := by decide +kernel
theorem dXC_endFault_38 : decode cXC_endFault 38 = .ok (.iconst 0, 1) := by decide +kernel
theorem dXC_endFault_39 : decode cXC_endFault 39 = .ok (.istore_n 3, 1) := by decide +kernel
theorem dXC_endFault_40 : decode cXC_endFault 40 = .ok (.aload_n 0, 1) := by decide +kernel
theorem dXC_endFault_41 : decode cXC_endFault 41 = .ok (.getfield 49, 3) := by decide +kernel
theorem dXC_endFault_44 : decode cXC_endFault 44 = .ok (.iconst (-1), 1) := by decide +kernel
theorem dXC_endFault_45 : decode cXC_endFault 45 = .ok (.if_icmp .eq 18, 3) := by decide +kernel
theorem dXC_endFault_48 : decode cXC_endFault 48 = .ok (.aload_n 0, 1) := by decide +kernel
theorem dXC_endFault_49 : decode cXC_endFault 49 = .ok (.getfield 49, 3) := by decide +kernel
theorem dXC_endFault_52 : decode cXC_endFault 52 = .ok (.aload_n 1, 1) := by decide +kernel
theorem dXC_endFault_53 : decode cXC_endFault 53 = .ok (.getfield 60, 3) := by decide +kernel
theorem dXC_endFault_56 : decode cXC_endFault 56 = .ok (.if_icmp .ge 7, 3) := by decide +kernel
theorem dXC_endFault_59 : decode cXC_endFault 59 = .ok (.iload_n 3, 1) := by decide +kernel
theorem dXC_endFault_60 : decode cXC_endFault 60 = .ok (.ifCond .eq 5, 3) := by decide +kernel
theorem dXC_endFault_63 : decode cXC_endFault 63 = .ok (.iload_n 2, 1) := by decide +kernel
theorem dXC_endFault_64 : decode cXC_endFault 64 = .ok (.ireturn, 1) := by decide +kernel
theorem dXC_endFault_65 : decode cXC_endFault 65 = .ok (.aload_n 0, 1) := by decide +kernel
theorem dXC_endFault_66 : decode cXC_endFault 66 = .ok (.getfield 73, 3) := by decide +kernel
theorem dXC_endFault_69 : decode cXC_endFault 69 = .ok (.istore_n 2, 1) := by decide +kernel
theorem dXC_endFault_70 : decode cXC_endFault 70 = .ok (.aload_n 0, 1) := by decide +kernel
theorem dXC_endFault_71 : decode cXC_endFault 71 = .ok (.iload_n 2, 1) := by decide +kernel
theorem dXC_endFault_72 : decode cXC_endFault 72 = .ok (.bipush 101, 2) := by decide +kernel
theorem dXC_endFault_74 : decode cXC_endFault 74 = .ok (.invokevirtual 41, 3) := by decide +kernel
theorem dXC_endFault_77 : decode cXC_endFault 77 = .ok (.aload_n 1, 1) := by decide +kernel
theorem dXC_endFault_78 : decode cXC_endFault 78 = .ok (.getfield 60, 3) := by decide +kernel
theorem dXC_endFault_81 : decode cXC_endFault 81 = .ok (.if_icmp .eq 5, 3) := by decide +kernel
theorem dXC_endFault_84 : decode cXC_endFault 84 = .ok (.iload_n 2, 1) := by decide +kernel
theorem dXC_endFault_85 : decode cXC_endFault 85 = .ok (.ireturn, 1) := by decide +kernel
theorem dXC_endFault_86 : decode cXC_endFault 86 = .ok (.aload_n 1, 1) := by decide +kernel
theorem dXC_endFault_87 : decode cXC_endFault 87 = .ok (.aload_n 0, 1) := by decide +kernel
theorem dXC_endFault_88 : decode cXC_endFault 88 = .ok (.getfield 73, 3) := by decide +kernel
theorem dXC_endFault_91 : decode cXC_endFault 91 = .ok (.putfield 87, 3) := by decide +kernel
theorem lXC_87 : Cond.fieldLink RXC 87 "RevisionWrite$Table" "end" "I" ∈ A9 := in9_1 121 (by decide +kernel) rfl
theorem dXC_endFault_94 : decode cXC_endFault 94 = .ok (.aload_n 0, 1) := by decide +kernel
theorem dXC_endFault_95 : decode cXC_endFault 95 = .ok (.getfield 22, 3) := by decide +kernel
theorem dXC_endFault_98 : decode cXC_endFault 98 = .ok (.ifCond .ne 24, 3) := by decide +kernel
theorem dXC_endFault_101 : decode cXC_endFault 101 = .ok (.aload_n 0, 1) := by decide +kernel
theorem dXC_endFault_102 : decode cXC_endFault 102 = .ok (.getfield 73, 3) := by decide +kernel
theorem dXC_endFault_105 : decode cXC_endFault 105 = .ok (.aload_n 0, 1) := by decide +kernel
theorem dXC_endFault_106 : decode cXC_endFault 106 = .ok (.getfield 17, 3) := by decide +kernel
theorem dXC_endFault_109 : decode cXC_endFault 109 = .ok (.getfield 30, 3) := by decide +kernel
theorem dXC_endFault_112 : decode cXC_endFault 112 = .ok (.if_icmp .eq 10, 3) := by decide +kernel
theorem dXC_endFault_115 : decode cXC_endFault 115 = .ok (.aload_n 0, 1) := by decide +kernel
theorem dXC_endFault_116 : decode cXC_endFault 116 = .ok (.getfield 73, 3) := by decide +kernel
theorem dXC_endFault_119 : decode cXC_endFault 119 = .ok (.goto 4, 3) := by decide +kernel
theorem dXC_endFault_122 : decode cXC_endFault 122 = .ok (.iconst (-1), 1) := by decide +kernel
theorem dXC_endFault_123 : decode cXC_endFault 123 = .ok (.ireturn, 1) := by decide +kernel
abbrev cXC_recordsFault : ByteArray := prog_6_method_8_code
def yXC_recordsFault : MethodName := ⟨RXC, "recordsFault", "(LRevisionWrite$Table;)I"⟩
theorem wXC_recordsFault : Cond.code yXC_recordsFault cXC_recordsFault 4 (some .int) ∈ A9 := in9_2 62 rfl rfl
theorem dXC_recordsFault_0 : decode cXC_recordsFault 0 = .ok (.iconst 1, 1) := by decide +kernel
theorem dXC_recordsFault_1 : decode cXC_recordsFault 1 = .ok (.istore_n 2, 1) := by decide +kernel
theorem dXC_recordsFault_2 : decode cXC_recordsFault 2 = .ok (.iload_n 2, 1) := by decide +kernel
theorem dXC_recordsFault_3 : decode cXC_recordsFault 3 = .ok (.bipush 40, 2) := by decide +kernel
theorem dXC_recordsFault_5 : decode cXC_recordsFault 5 = .ok (.if_icmp .gt 51, 3) := by decide +kernel
theorem dXC_recordsFault_8 : decode cXC_recordsFault 8 = .ok (.aload_n 1, 1) := by decide +kernel
theorem dXC_recordsFault_9 : decode cXC_recordsFault 9 = .ok (.getfield 83, 3) := by decide +kernel
theorem dXC_recordsFault_12 : decode cXC_recordsFault 12 = .ok (.iload_n 2, 1) := by decide +kernel
theorem dXC_recordsFault_13 : decode cXC_recordsFault 13 = .ok (.iaload, 1) := by decide +kernel
theorem dXC_recordsFault_14 : decode cXC_recordsFault 14 = .ok (.istore_n 3, 1) := by decide +kernel
theorem dXC_recordsFault_15 : decode cXC_recordsFault 15 = .ok (.iload_n 3, 1) := by decide +kernel
theorem dXC_recordsFault_16 : decode cXC_recordsFault 16 = .ok (.ifCond .ge 6, 3) := by decide +kernel
theorem dXC_recordsFault_19 : decode cXC_recordsFault 19 = .ok (.goto 31, 3) := by decide +kernel
theorem dXC_recordsFault_22 : decode cXC_recordsFault 22 = .ok (.aload_n 1, 1) := by decide +kernel
theorem dXC_recordsFault_23 : decode cXC_recordsFault 23 = .ok (.getfield 90, 3) := by decide +kernel
theorem lXC_90 : Cond.fieldLink RXC 90 "RevisionWrite$Table" "lengths" "[I" ∈ A9 := in9_1 112 (by decide +kernel) rfl
theorem dXC_recordsFault_26 : decode cXC_recordsFault 26 = .ok (.iload_n 2, 1) := by decide +kernel
theorem dXC_recordsFault_27 : decode cXC_recordsFault 27 = .ok (.aload_n 0, 1) := by decide +kernel
theorem dXC_recordsFault_28 : decode cXC_recordsFault 28 = .ok (.iload_n 2, 1) := by decide +kernel
theorem dXC_recordsFault_29 : decode cXC_recordsFault 29 = .ok (.iload_n 3, 1) := by decide +kernel
theorem dXC_recordsFault_30 : decode cXC_recordsFault 30 = .ok (.aload_n 1, 1) := by decide +kernel
theorem dXC_recordsFault_31 : decode cXC_recordsFault 31 = .ok (.getfield 60, 3) := by decide +kernel
theorem dXC_recordsFault_34 : decode cXC_recordsFault 34 = .ok (.invokevirtual 93, 3) := by decide +kernel
theorem dXC_recordsFault_37 : decode cXC_recordsFault 37 = .ok (.iastore, 1) := by decide +kernel
theorem dXC_recordsFault_38 : decode cXC_recordsFault 38 = .ok (.aload_n 1, 1) := by decide +kernel
theorem dXC_recordsFault_39 : decode cXC_recordsFault 39 = .ok (.getfield 90, 3) := by decide +kernel
theorem dXC_recordsFault_42 : decode cXC_recordsFault 42 = .ok (.iload_n 2, 1) := by decide +kernel
theorem dXC_recordsFault_43 : decode cXC_recordsFault 43 = .ok (.iaload, 1) := by decide +kernel
theorem dXC_recordsFault_44 : decode cXC_recordsFault 44 = .ok (.iconst (-1), 1) := by decide +kernel
theorem dXC_recordsFault_45 : decode cXC_recordsFault 45 = .ok (.if_icmp .ne 5, 3) := by decide +kernel
theorem dXC_recordsFault_48 : decode cXC_recordsFault 48 = .ok (.iload_n 3, 1) := by decide +kernel
theorem dXC_recordsFault_49 : decode cXC_recordsFault 49 = .ok (.ireturn, 1) := by decide +kernel
theorem dXC_recordsFault_50 : decode cXC_recordsFault 50 = .ok (.iinc 2 1, 3) := by decide +kernel
theorem dXC_recordsFault_53 : decode cXC_recordsFault 53 = .ok (.goto (-51), 3) := by decide +kernel
theorem dXC_recordsFault_56 : decode cXC_recordsFault 56 = .ok (.iconst (-1), 1) := by decide +kernel
theorem dXC_recordsFault_57 : decode cXC_recordsFault 57 = .ok (.ireturn, 1) := by decide +kernel
abbrev cXC_recordLength : ByteArray := prog_6_method_9_code
def yXC_recordLength : MethodName := ⟨RXC, "recordLength", "(III)I"⟩
theorem wXC_recordLength : Cond.code yXC_recordLength cXC_recordLength 6 (some .int) ∈ A9 := in9_2 66 rfl rfl
theorem dXC_recordLength_0 : decode cXC_recordLength 0 = .ok (.aload_n 0, 1) := by decide +kernel
theorem dXC_recordLength_1 : decode cXC_recordLength 1 = .ok (.iload_n 2, 1) := by decide +kernel
theorem dXC_recordLength_2 : decode cXC_recordLength 2 = .ok (.putfield 73, 3) := by decide +kernel
theorem dXC_recordLength_5 : decode cXC_recordLength 5 = .ok (.aload_n 0, 1) := by decide +kernel
theorem dXC_recordLength_6 : decode cXC_recordLength 6 = .ok (.bipush 111, 2) := by decide +kernel
theorem dXC_recordLength_8 : decode cXC_recordLength 8 = .ok (.invokevirtual 79, 3) := by decide +kernel
theorem dXC_recordLength_11 : decode cXC_recordLength 11 = .ok (.ifCond .eq 29, 3) := by decide +kernel
theorem dXC_recordLength_14 : decode cXC_recordLength 14 = .ok (.aload_n 0, 1) := by decide +kernel
theorem dXC_recordLength_15 : decode cXC_recordLength 15 = .ok (.bipush 32, 2) := by decide +kernel
theorem dXC_recordLength_17 : decode cXC_recordLength 17 = .ok (.invokevirtual 79, 3) := by decide +kernel
theorem dXC_recordLength_20 : decode cXC_recordLength 20 = .ok (.ifCond .eq 20, 3) := by decide +kernel
theorem dXC_recordLength_23 : decode cXC_recordLength 23 = .ok (.aload_n 0, 1) := by decide +kernel
theorem dXC_recordLength_24 : decode cXC_recordLength 24 = .ok (.invokevirtual 76, 3) := by decide +kernel
theorem dXC_recordLength_27 : decode cXC_recordLength 27 = .ok (.iload_n 1, 1) := by decide +kernel
theorem dXC_recordLength_28 : decode cXC_recordLength 28 = .ok (.if_icmp .ne 12, 3) := by decide +kernel
theorem dXC_recordLength_31 : decode cXC_recordLength 31 = .ok (.aload_n 0, 1) := by decide +kernel
theorem dXC_recordLength_32 : decode cXC_recordLength 32 = .ok (.bipush 32, 2) := by decide +kernel
theorem dXC_recordLength_34 : decode cXC_recordLength 34 = .ok (.invokevirtual 79, 3) := by decide +kernel
theorem dXC_recordLength_37 : decode cXC_recordLength 37 = .ok (.ifCond .ne 5, 3) := by decide +kernel
theorem dXC_recordLength_40 : decode cXC_recordLength 40 = .ok (.iconst (-1), 1) := by decide +kernel
theorem dXC_recordLength_41 : decode cXC_recordLength 41 = .ok (.ireturn, 1) := by decide +kernel
theorem dXC_recordLength_42 : decode cXC_recordLength 42 = .ok (.aload_n 0, 1) := by decide +kernel
theorem dXC_recordLength_43 : decode cXC_recordLength 43 = .ok (.invokevirtual 76, 3) := by decide +kernel
theorem dXC_recordLength_46 : decode cXC_recordLength 46 = .ok (.istore 4, 2) := by decide +kernel
theorem dXC_recordLength_48 : decode cXC_recordLength 48 = .ok (.iload 4, 2) := by decide +kernel
theorem dXC_recordLength_50 : decode cXC_recordLength 50 = .ok (.iconst (-1), 1) := by decide +kernel
theorem dXC_recordLength_51 : decode cXC_recordLength 51 = .ok (.if_icmp .eq 19, 3) := by decide +kernel
theorem dXC_recordLength_54 : decode cXC_recordLength 54 = .ok (.iload 4, 2) := by decide +kernel
theorem dXC_recordLength_56 : decode cXC_recordLength 56 = .ok (.bipush 120, 2) := by decide +kernel
theorem dXC_recordLength_58 : decode cXC_recordLength 58 = .ok (.if_icmp .gt 12, 3) := by decide +kernel
theorem dXC_recordLength_61 : decode cXC_recordLength 61 = .ok (.aload_n 0, 1) := by decide +kernel
theorem dXC_recordLength_62 : decode cXC_recordLength 62 = .ok (.bipush 10, 2) := by decide +kernel
theorem dXC_recordLength_64 : decode cXC_recordLength 64 = .ok (.invokevirtual 79, 3) := by decide +kernel
theorem dXC_recordLength_67 : decode cXC_recordLength 67 = .ok (.ifCond .ne 5, 3) := by decide +kernel
theorem dXC_recordLength_70 : decode cXC_recordLength 70 = .ok (.iconst (-1), 1) := by decide +kernel
theorem dXC_recordLength_71 : decode cXC_recordLength 71 = .ok (.ireturn, 1) := by decide +kernel
theorem dXC_recordLength_72 : decode cXC_recordLength 72 = .ok (.aload_n 0, 1) := by decide +kernel
theorem dXC_recordLength_73 : decode cXC_recordLength 73 = .ok (.getfield 73, 3) := by decide +kernel
theorem dXC_recordLength_76 : decode cXC_recordLength 76 = .ok (.iload 4, 2) := by decide +kernel
theorem dXC_recordLength_78 : decode cXC_recordLength 78 = .ok (.iadd, 1) := by decide +kernel
theorem dXC_recordLength_79 : decode cXC_recordLength 79 = .ok (.istore 5, 2) := by decide +kernel
theorem dXC_recordLength_81 : decode cXC_recordLength 81 = .ok (.iload 5, 2) := by decide +kernel
theorem dXC_recordLength_83 : decode cXC_recordLength 83 = .ok (.iload_n 3, 1) := by decide +kernel
theorem dXC_recordLength_84 : decode cXC_recordLength 84 = .ok (.if_icmp .ge 22, 3) := by decide +kernel
theorem dXC_recordLength_87 : decode cXC_recordLength 87 = .ok (.aload_n 0, 1) := by decide +kernel
theorem dXC_recordLength_88 : decode cXC_recordLength 88 = .ok (.getfield 17, 3) := by decide +kernel
theorem dXC_recordLength_91 : decode cXC_recordLength 91 = .ok (.iload 5, 2) := by decide +kernel
theorem dXC_recordLength_93 : decode cXC_recordLength 93 = .ok (.invokevirtual 33, 3) := by decide +kernel
theorem dXC_recordLength_96 : decode cXC_recordLength 96 = .ok (.bipush 10, 2) := by decide +kernel
theorem dXC_recordLength_98 : decode cXC_recordLength 98 = .ok (.if_icmp .ne 8, 3) := by decide +kernel
theorem dXC_recordLength_101 : decode cXC_recordLength 101 = .ok (.iload 4, 2) := by decide +kernel
theorem dXC_recordLength_103 : decode cXC_recordLength 103 = .ok (.goto 4, 3) := by decide +kernel
theorem dXC_recordLength_106 : decode cXC_recordLength 106 = .ok (.iconst (-1), 1) := by decide +kernel
theorem dXC_recordLength_107 : decode cXC_recordLength 107 = .ok (.ireturn, 1) := by decide +kernel
abbrev cXC_tagged : ByteArray := prog_6_method_10_code
def yXC_tagged : MethodName := ⟨RXC, "tagged", "(II)I"⟩
theorem wXC_tagged : Cond.code yXC_tagged cXC_tagged 4 (some .int) ∈ A9 := in9_2 28 rfl rfl
theorem dXC_tagged_0 : decode cXC_tagged 0 = .ok (.aload_n 0, 1) := by decide +kernel
theorem dXC_tagged_1 : decode cXC_tagged 1 = .ok (.iload_n 1, 1) := by decide +kernel
theorem dXC_tagged_2 : decode cXC_tagged 2 = .ok (.putfield 73, 3) := by decide +kernel
theorem dXC_tagged_5 : decode cXC_tagged 5 = .ok (.aload_n 0, 1) := by decide +kernel
theorem dXC_tagged_6 : decode cXC_tagged 6 = .ok (.iload_n 2, 1) := by decide +kernel
theorem dXC_tagged_7 : decode cXC_tagged 7 = .ok (.invokevirtual 79, 3) := by decide +kernel
theorem dXC_tagged_10 : decode cXC_tagged 10 = .ok (.ifCond .eq 12, 3) := by decide +kernel
theorem dXC_tagged_13 : decode cXC_tagged 13 = .ok (.aload_n 0, 1) := by decide +kernel
theorem dXC_tagged_14 : decode cXC_tagged 14 = .ok (.bipush 32, 2) := by decide +kernel
theorem dXC_tagged_16 : decode cXC_tagged 16 = .ok (.invokevirtual 79, 3) := by decide +kernel
theorem dXC_tagged_19 : decode cXC_tagged 19 = .ok (.ifCond .ne 5, 3) := by decide +kernel
theorem dXC_tagged_22 : decode cXC_tagged 22 = .ok (.iconst (-1), 1) := by decide +kernel
theorem dXC_tagged_23 : decode cXC_tagged 23 = .ok (.ireturn, 1) := by decide +kernel
theorem dXC_tagged_24 : decode cXC_tagged 24 = .ok (.aload_n 0, 1) := by decide +kernel
theorem dXC_tagged_25 : decode cXC_tagged 25 = .ok (.invokevirtual 76, 3) := by decide +kernel
theorem dXC_tagged_28 : decode cXC_tagged 28 = .ok (.istore_n 3, 1) := by decide +kernel
theorem dXC_tagged_29 : decode cXC_tagged 29 = .ok (.aload_n 0, 1) := by decide +kernel
theorem dXC_tagged_30 : decode cXC_tagged 30 = .ok (.bipush 10, 2) := by decide +kernel
theorem dXC_tagged_32 : decode cXC_tagged 32 = .ok (.invokevirtual 79, 3) := by decide +kernel
theorem dXC_tagged_35 : decode cXC_tagged 35 = .ok (.ifCond .eq 7, 3) := by decide +kernel
theorem dXC_tagged_38 : decode cXC_tagged 38 = .ok (.iload_n 3, 1) := by decide +kernel
theorem dXC_tagged_39 : decode cXC_tagged 39 = .ok (.goto 4, 3) := by decide +kernel
theorem dXC_tagged_42 : decode cXC_tagged 42 = .ok (.iconst (-1), 1) := by decide +kernel
theorem dXC_tagged_43 : decode cXC_tagged 43 = .ok (.ireturn, 1) := by decide +kernel
abbrev cXC_number : ByteArray := prog_6_method_11_code
def yXC_number : MethodName := ⟨RXC, "number", "()I"⟩
theorem wXC_number : Cond.code yXC_number cXC_number 5 (some .int) ∈ A9 := in9_2 36 rfl rfl
theorem dXC_number_0 : decode cXC_number 0 = .ok (.aload_n 0, 1) := by decide +kernel
theorem dXC_number_1 : decode cXC_number 1 = .ok (.getfield 73, 3) := by decide +kernel
theorem dXC_number_4 : decode cXC_number 4 = .ok (.istore_n 1, 1) := by decide +kernel
theorem dXC_number_5 : decode cXC_number 5 = .ok (.iconst 0, 1) := by decide +kernel
theorem dXC_number_6 : decode cXC_number 6 = .ok (.istore_n 2, 1) := by decide +kernel
theorem dXC_number_7 : decode cXC_number 7 = .ok (.aload_n 0, 1) := by decide +kernel
theorem dXC_number_8 : decode cXC_number 8 = .ok (.getfield 73, 3) := by decide +kernel
theorem dXC_number_11 : decode cXC_number 11 = .ok (.iload_n 1, 1) := by decide +kernel
theorem dXC_number_12 : decode cXC_number 12 = .ok (.isub, 1) := by decide +kernel
theorem dXC_number_13 : decode cXC_number 13 = .ok (.iconst 5, 1) := by decide +kernel
theorem dXC_number_14 : decode cXC_number 14 = .ok (.if_icmp .gt 53, 3) := by decide +kernel
theorem dXC_number_17 : decode cXC_number 17 = .ok (.aload_n 0, 1) := by decide +kernel
theorem dXC_number_18 : decode cXC_number 18 = .ok (.getfield 17, 3) := by decide +kernel
theorem dXC_number_21 : decode cXC_number 21 = .ok (.aload_n 0, 1) := by decide +kernel
theorem dXC_number_22 : decode cXC_number 22 = .ok (.getfield 73, 3) := by decide +kernel
theorem dXC_number_25 : decode cXC_number 25 = .ok (.invokevirtual 33, 3) := by decide +kernel
theorem dXC_number_28 : decode cXC_number 28 = .ok (.invokestatic 97, 3) := by decide +kernel
theorem dXC_number_31 : decode cXC_number 31 = .ok (.ifCond .eq 36, 3) := by decide +kernel
theorem dXC_number_34 : decode cXC_number 34 = .ok (.iload_n 2, 1) := by decide +kernel
theorem dXC_number_35 : decode cXC_number 35 = .ok (.bipush 10, 2) := by decide +kernel
theorem dXC_number_37 : decode cXC_number 37 = .ok (.imul, 1) := by decide +kernel
theorem dXC_number_38 : decode cXC_number 38 = .ok (.aload_n 0, 1) := by decide +kernel
theorem dXC_number_39 : decode cXC_number 39 = .ok (.getfield 17, 3) := by decide +kernel
theorem dXC_number_42 : decode cXC_number 42 = .ok (.aload_n 0, 1) := by decide +kernel
theorem dXC_number_43 : decode cXC_number 43 = .ok (.getfield 73, 3) := by decide +kernel
theorem dXC_number_46 : decode cXC_number 46 = .ok (.invokevirtual 33, 3) := by decide +kernel
theorem dXC_number_49 : decode cXC_number 49 = .ok (.iadd, 1) := by decide +kernel
theorem dXC_number_50 : decode cXC_number 50 = .ok (.bipush 48, 2) := by decide +kernel
theorem dXC_number_52 : decode cXC_number 52 = .ok (.isub, 1) := by decide +kernel
theorem dXC_number_53 : decode cXC_number 53 = .ok (.istore_n 2, 1) := by decide +kernel
theorem dXC_number_54 : decode cXC_number 54 = .ok (.aload_n 0, 1) := by decide +kernel
theorem dXC_number_55 : decode cXC_number 55 = .ok (.dup, 1) := by decide +kernel
theorem dXC_number_56 : decode cXC_number 56 = .ok (.getfield 73, 3) := by decide +kernel
theorem dXC_number_59 : decode cXC_number 59 = .ok (.iconst 1, 1) := by decide +kernel
theorem dXC_number_60 : decode cXC_number 60 = .ok (.iadd, 1) := by decide +kernel
theorem dXC_number_61 : decode cXC_number 61 = .ok (.putfield 73, 3) := by decide +kernel
theorem dXC_number_64 : decode cXC_number 64 = .ok (.goto (-57), 3) := by decide +kernel
theorem dXC_number_67 : decode cXC_number 67 = .ok (.aload_n 0, 1) := by decide +kernel
theorem dXC_number_68 : decode cXC_number 68 = .ok (.getfield 73, 3) := by decide +kernel
theorem dXC_number_71 : decode cXC_number 71 = .ok (.iload_n 1, 1) := by decide +kernel
theorem dXC_number_72 : decode cXC_number 72 = .ok (.isub, 1) := by decide +kernel
theorem dXC_number_73 : decode cXC_number 73 = .ok (.istore_n 3, 1) := by decide +kernel
theorem dXC_number_74 : decode cXC_number 74 = .ok (.iload_n 3, 1) := by decide +kernel
theorem dXC_number_75 : decode cXC_number 75 = .ok (.iconst 1, 1) := by decide +kernel
theorem dXC_number_76 : decode cXC_number 76 = .ok (.if_icmp .le 20, 3) := by decide +kernel
theorem dXC_number_79 : decode cXC_number 79 = .ok (.aload_n 0, 1) := by decide +kernel
theorem dXC_number_80 : decode cXC_number 80 = .ok (.getfield 17, 3) := by decide +kernel
theorem dXC_number_83 : decode cXC_number 83 = .ok (.iload_n 1, 1) := by decide +kernel
theorem dXC_number_84 : decode cXC_number 84 = .ok (.invokevirtual 33, 3) := by decide +kernel
theorem dXC_number_87 : decode cXC_number 87 = .ok (.bipush 48, 2) := by decide +kernel
theorem dXC_number_89 : decode cXC_number 89 = .ok (.if_icmp .ne 7, 3) := by decide +kernel
theorem dXC_number_92 : decode cXC_number 92 = .ok (.iconst 1, 1) := by decide +kernel
theorem dXC_number_93 : decode cXC_number 93 = .ok (.goto 4, 3) := by decide +kernel
theorem dXC_number_96 : decode cXC_number 96 = .ok (.iconst 0, 1) := by decide +kernel
theorem dXC_number_97 : decode cXC_number 97 = .ok (.istore 4, 2) := by decide +kernel
theorem dXC_number_99 : decode cXC_number 99 = .ok (.iload_n 3, 1) := by decide +kernel
theorem dXC_number_100 : decode cXC_number 100 = .ok (.iconst 1, 1) := by decide +kernel
theorem dXC_number_101 : decode cXC_number 101 = .ok (.if_icmp .lt 13, 3) := by decide +kernel
theorem dXC_number_104 : decode cXC_number 104 = .ok (.iload_n 3, 1) := by decide +kernel
theorem dXC_number_105 : decode cXC_number 105 = .ok (.iconst 5, 1) := by decide +kernel
theorem dXC_number_106 : decode cXC_number 106 = .ok (.if_icmp .gt 8, 3) := by decide +kernel
theorem dXC_number_109 : decode cXC_number 109 = .ok (.iload 4, 2) := by decide +kernel
theorem dXC_number_111 : decode cXC_number 111 = .ok (.ifCond .eq 7, 3) := by decide +kernel
theorem dXC_number_114 : decode cXC_number 114 = .ok (.iconst (-1), 1) := by decide +kernel
theorem dXC_number_115 : decode cXC_number 115 = .ok (.goto 4, 3) := by decide +kernel
theorem dXC_number_118 : decode cXC_number 118 = .ok (.iload_n 2, 1) := by decide +kernel
theorem dXC_number_119 : decode cXC_number 119 = .ok (.ireturn, 1) := by decide +kernel
abbrev cXC_isDigit : ByteArray := prog_6_method_12_code
def yXC_isDigit : MethodName := ⟨RXC, "isDigit", "(I)Z"⟩
theorem wXC_isDigit : Cond.code yXC_isDigit cXC_isDigit 1 (some .boolean) ∈ A9 := in9_2 39 rfl rfl
theorem dXC_isDigit_0 : decode cXC_isDigit 0 = .ok (.iload_n 0, 1) := by decide +kernel
theorem dXC_isDigit_1 : decode cXC_isDigit 1 = .ok (.bipush 48, 2) := by decide +kernel
theorem dXC_isDigit_3 : decode cXC_isDigit 3 = .ok (.if_icmp .lt 13, 3) := by decide +kernel
theorem dXC_isDigit_6 : decode cXC_isDigit 6 = .ok (.iload_n 0, 1) := by decide +kernel
theorem dXC_isDigit_7 : decode cXC_isDigit 7 = .ok (.bipush 57, 2) := by decide +kernel
theorem dXC_isDigit_9 : decode cXC_isDigit 9 = .ok (.if_icmp .gt 7, 3) := by decide +kernel
theorem dXC_isDigit_12 : decode cXC_isDigit 12 = .ok (.iconst 1, 1) := by decide +kernel
theorem dXC_isDigit_13 : decode cXC_isDigit 13 = .ok (.goto 4, 3) := by decide +kernel
theorem dXC_isDigit_16 : decode cXC_isDigit 16 = .ok (.iconst 0, 1) := by decide +kernel
theorem dXC_isDigit_17 : decode cXC_isDigit 17 = .ok (.ireturn, 1) := by decide +kernel
abbrev cXC_accept : ByteArray := prog_6_method_13_code
def yXC_accept : MethodName := ⟨RXC, "accept", "(I)Z"⟩
theorem wXC_accept : Cond.code yXC_accept cXC_accept 2 (some .boolean) ∈ A9 := in9_2 32 rfl rfl
theorem dXC_accept_0 : decode cXC_accept 0 = .ok (.aload_n 0, 1) := by decide +kernel
theorem dXC_accept_1 : decode cXC_accept 1 = .ok (.getfield 73, 3) := by decide +kernel
theorem dXC_accept_4 : decode cXC_accept 4 = .ok (.ifCond .lt 33, 3) := by decide +kernel
theorem dXC_accept_7 : decode cXC_accept 7 = .ok (.aload_n 0, 1) := by decide +kernel
theorem dXC_accept_8 : decode cXC_accept 8 = .ok (.getfield 73, 3) := by decide +kernel
theorem dXC_accept_11 : decode cXC_accept 11 = .ok (.aload_n 0, 1) := by decide +kernel
theorem dXC_accept_12 : decode cXC_accept 12 = .ok (.getfield 17, 3) := by decide +kernel
theorem dXC_accept_15 : decode cXC_accept 15 = .ok (.getfield 30, 3) := by decide +kernel
theorem dXC_accept_18 : decode cXC_accept 18 = .ok (.if_icmp .ge 19, 3) := by decide +kernel
theorem dXC_accept_21 : decode cXC_accept 21 = .ok (.aload_n 0, 1) := by decide +kernel
theorem dXC_accept_22 : decode cXC_accept 22 = .ok (.getfield 17, 3) := by decide +kernel
theorem dXC_accept_25 : decode cXC_accept 25 = .ok (.getfield 100, 3) := by decide +kernel
theorem lXC_100 : Cond.fieldLink RXC 100 "RevisionWrite$FileBytes" "bytes" "[B" ∈ A9 := in9_1 79 (by decide +kernel) rfl
theorem dXC_accept_28 : decode cXC_accept 28 = .ok (.aload_n 0, 1) := by decide +kernel
theorem dXC_accept_29 : decode cXC_accept 29 = .ok (.getfield 73, 3) := by decide +kernel
theorem dXC_accept_32 : decode cXC_accept 32 = .ok (.baload, 1) := by decide +kernel
theorem dXC_accept_33 : decode cXC_accept 33 = .ok (.iload_n 1, 1) := by decide +kernel
theorem dXC_accept_34 : decode cXC_accept 34 = .ok (.if_icmp .eq 5, 3) := by decide +kernel
theorem dXC_accept_37 : decode cXC_accept 37 = .ok (.iconst 0, 1) := by decide +kernel
theorem dXC_accept_38 : decode cXC_accept 38 = .ok (.ireturn, 1) := by decide +kernel
theorem dXC_accept_39 : decode cXC_accept 39 = .ok (.aload_n 0, 1) := by decide +kernel
theorem dXC_accept_40 : decode cXC_accept 40 = .ok (.dup, 1) := by decide +kernel
theorem dXC_accept_41 : decode cXC_accept 41 = .ok (.getfield 73, 3) := by decide +kernel
theorem dXC_accept_44 : decode cXC_accept 44 = .ok (.iconst 1, 1) := by decide +kernel
theorem dXC_accept_45 : decode cXC_accept 45 = .ok (.iadd, 1) := by decide +kernel
theorem dXC_accept_46 : decode cXC_accept 46 = .ok (.putfield 73, 3) := by decide +kernel
theorem dXC_accept_49 : decode cXC_accept 49 = .ok (.iconst 1, 1) := by decide +kernel
theorem dXC_accept_50 : decode cXC_accept 50 = .ok (.ireturn, 1) := by decide +kernel
def RXD : String := "RevisionWrite$Draft"
abbrev cXD_init : ByteArray := prog_3_method_1_code
def yXD_init : MethodName := ⟨RXD, "<init>", "(LRevisionWrite$Shelf;)V"⟩
theorem wXD_init : Cond.code yXD_init cXD_init 2 none ∈ A9 := in9_1 171 rfl rfl
theorem dXD_init_0 : decode cXD_init 0 = .ok (.aload_n 0, 1) := by decide +kernel
theorem dXD_init_1 : decode cXD_init 1 = .ok (.invokespecial 3, 3) := by decide +kernel
theorem dXD_init_4 : decode cXD_init 4 = .ok (.aload_n 0, 1) := by decide +kernel
theorem dXD_init_5 : decode cXD_init 5 = .ok (.sipush 6000, 3) := by decide +kernel
theorem dXD_init_8 : decode cXD_init 8 = .ok (.newarray .byte, 2) := by decide +kernel
theorem dXD_init_10 : decode cXD_init 10 = .ok (.putfield 9, 3) := by decide +kernel
theorem lXD_9 : Cond.fieldLink RXD 9 "RevisionWrite$Draft" "bytes" "[B" ∈ A9 := in9_1 176 (by decide +kernel) rfl
theorem dXD_init_13 : decode cXD_init 13 = .ok (.aload_n 0, 1) := by decide +kernel
theorem dXD_init_14 : decode cXD_init 14 = .ok (.bipush 40, 2) := by decide +kernel
theorem dXD_init_16 : decode cXD_init 16 = .ok (.newarray .int, 2) := by decide +kernel
theorem dXD_init_18 : decode cXD_init 18 = .ok (.putfield 15, 3) := by decide +kernel
theorem lXD_15 : Cond.fieldLink RXD 15 "RevisionWrite$Draft" "order" "[I" ∈ A9 := in9_1 178 (by decide +kernel) rfl
theorem dXD_init_21 : decode cXD_init 21 = .ok (.aload_n 0, 1) := by decide +kernel
theorem dXD_init_22 : decode cXD_init 22 = .ok (.new 19, 3) := by decide +kernel
theorem dXD_init_25 : decode cXD_init 25 = .ok (.dup, 1) := by decide +kernel
theorem dXD_init_26 : decode cXD_init 26 = .ok (.invokespecial 21, 3) := by decide +kernel
theorem dXD_init_29 : decode cXD_init 29 = .ok (.putfield 22, 3) := by decide +kernel
theorem lXD_22 : Cond.fieldLink RXD 22 "RevisionWrite$Draft" "part" "LRevisionWrite$Table;" ∈ A9 := in9_1 179 (by decide +kernel) rfl
theorem dXD_init_32 : decode cXD_init 32 = .ok (.aload_n 0, 1) := by decide +kernel
theorem dXD_init_33 : decode cXD_init 33 = .ok (.aload_n 1, 1) := by decide +kernel
theorem dXD_init_34 : decode cXD_init 34 = .ok (.putfield 26, 3) := by decide +kernel
theorem lXD_26 : Cond.fieldLink RXD 26 "RevisionWrite$Draft" "shelf" "LRevisionWrite$Shelf;" ∈ A9 := in9_1 175 (by decide +kernel) rfl
theorem dXD_init_37 : decode cXD_init 37 = .ok (.return_, 1) := by decide +kernel
abbrev cXD_begin : ByteArray := prog_3_method_2_code
def yXD_begin : MethodName := ⟨RXD, "begin", "(I)V"⟩
theorem wXD_begin : Cond.code yXD_begin cXD_begin 2 none ∈ A9 := in9_4 53 rfl rfl
theorem dXD_begin_0 : decode cXD_begin 0 = .ok (.aload_n 0, 1) := by decide +kernel
theorem dXD_begin_1 : decode cXD_begin 1 = .ok (.iload_n 1, 1) := by decide +kernel
theorem dXD_begin_2 : decode cXD_begin 2 = .ok (.putfield 30, 3) := by decide +kernel
theorem lXD_30 : Cond.fieldLink RXD 30 "RevisionWrite$Draft" "base" "I" ∈ A9 := in9_1 182 (by decide +kernel) rfl
theorem dXD_begin_5 : decode cXD_begin 5 = .ok (.aload_n 0, 1) := by decide +kernel
theorem dXD_begin_6 : decode cXD_begin 6 = .ok (.iconst 0, 1) := by decide +kernel
theorem dXD_begin_7 : decode cXD_begin 7 = .ok (.putfield 34, 3) := by decide +kernel
theorem lXD_34 : Cond.fieldLink RXD 34 "RevisionWrite$Draft" "used" "I" ∈ A9 := in9_1 184 (by decide +kernel) rfl
theorem dXD_begin_10 : decode cXD_begin 10 = .ok (.aload_n 0, 1) := by decide +kernel
theorem dXD_begin_11 : decode cXD_begin 11 = .ok (.iconst 0, 1) := by decide +kernel
theorem dXD_begin_12 : decode cXD_begin 12 = .ok (.putfield 37, 3) := by decide +kernel
theorem lXD_37 : Cond.fieldLink RXD 37 "RevisionWrite$Draft" "chosen" "I" ∈ A9 := in9_1 181 (by decide +kernel) rfl
theorem dXD_begin_15 : decode cXD_begin 15 = .ok (.aload_n 0, 1) := by decide +kernel
theorem dXD_begin_16 : decode cXD_begin 16 = .ok (.getfield 22, 3) := by decide +kernel
theorem dXD_begin_19 : decode cXD_begin 19 = .ok (.bipush (-2), 2) := by decide +kernel
theorem dXD_begin_21 : decode cXD_begin 21 = .ok (.invokevirtual 40, 3) := by decide +kernel
theorem dXD_begin_24 : decode cXD_begin 24 = .ok (.return_, 1) := by decide +kernel
abbrev cXD_chooseThere : ByteArray := prog_3_method_3_code
def yXD_chooseThere : MethodName := ⟨RXD, "chooseThere", "(I)V"⟩
theorem wXD_chooseThere : Cond.code yXD_chooseThere cXD_chooseThere 3 none ∈ A9 := in9_4 67 rfl rfl
theorem dXD_chooseThere_0 : decode cXD_chooseThere 0 = .ok (.iconst 1, 1) := by decide +kernel
theorem dXD_chooseThere_1 : decode cXD_chooseThere 1 = .ok (.istore_n 2, 1) := by decide +kernel
theorem dXD_chooseThere_2 : decode cXD_chooseThere 2 = .ok (.iload_n 2, 1) := by decide +kernel
theorem dXD_chooseThere_3 : decode cXD_chooseThere 3 = .ok (.bipush 40, 2) := by decide +kernel
theorem dXD_chooseThere_5 : decode cXD_chooseThere 5 = .ok (.if_icmp .gt 27, 3) := by decide +kernel
theorem dXD_chooseThere_8 : decode cXD_chooseThere 8 = .ok (.aload_n 0, 1) := by decide +kernel
theorem dXD_chooseThere_9 : decode cXD_chooseThere 9 = .ok (.getfield 26, 3) := by decide +kernel
theorem dXD_chooseThere_12 : decode cXD_chooseThere 12 = .ok (.getfield 44, 3) := by decide +kernel
theorem lXD_44 : Cond.fieldLink RXD 44 "RevisionWrite$Shelf" "there" "[Z" ∈ A9 := in9_1 44 (by decide +kernel) rfl
theorem dXD_chooseThere_15 : decode cXD_chooseThere 15 = .ok (.iload_n 2, 1) := by decide +kernel
theorem dXD_chooseThere_16 : decode cXD_chooseThere 16 = .ok (.baload, 1) := by decide +kernel
theorem dXD_chooseThere_17 : decode cXD_chooseThere 17 = .ok (.ifCond .eq 9, 3) := by decide +kernel
theorem dXD_chooseThere_20 : decode cXD_chooseThere 20 = .ok (.aload_n 0, 1) := by decide +kernel
theorem dXD_chooseThere_21 : decode cXD_chooseThere 21 = .ok (.iload_n 2, 1) := by decide +kernel
theorem dXD_chooseThere_22 : decode cXD_chooseThere 22 = .ok (.iload_n 1, 1) := by decide +kernel
theorem dXD_chooseThere_23 : decode cXD_chooseThere 23 = .ok (.invokevirtual 50, 3) := by decide +kernel
theorem dXD_chooseThere_26 : decode cXD_chooseThere 26 = .ok (.iinc 2 1, 3) := by decide +kernel
theorem dXD_chooseThere_29 : decode cXD_chooseThere 29 = .ok (.goto (-27), 3) := by decide +kernel
theorem dXD_chooseThere_32 : decode cXD_chooseThere 32 = .ok (.return_, 1) := by decide +kernel
abbrev cXD_chooseChanged : ByteArray := prog_3_method_4_code
def yXD_chooseChanged : MethodName := ⟨RXD, "chooseChanged", "()V"⟩
theorem wXD_chooseChanged : Cond.code yXD_chooseChanged cXD_chooseChanged 2 none ∈ A9 := in9_4 158 rfl rfl
theorem dXD_chooseChanged_0 : decode cXD_chooseChanged 0 = .ok (.iconst 1, 1) := by decide +kernel
theorem dXD_chooseChanged_1 : decode cXD_chooseChanged 1 = .ok (.istore_n 1, 1) := by decide +kernel
theorem dXD_chooseChanged_2 : decode cXD_chooseChanged 2 = .ok (.iload_n 1, 1) := by decide +kernel
theorem dXD_chooseChanged_3 : decode cXD_chooseChanged 3 = .ok (.bipush 40, 2) := by decide +kernel
theorem dXD_chooseChanged_5 : decode cXD_chooseChanged 5 = .ok (.if_icmp .gt 54, 3) := by decide +kernel
theorem dXD_chooseChanged_8 : decode cXD_chooseChanged 8 = .ok (.aload_n 0, 1) := by decide +kernel
theorem dXD_chooseChanged_9 : decode cXD_chooseChanged 9 = .ok (.getfield 26, 3) := by decide +kernel
theorem dXD_chooseChanged_12 : decode cXD_chooseChanged 12 = .ok (.iload_n 1, 1) := by decide +kernel
theorem dXD_chooseChanged_13 : decode cXD_chooseChanged 13 = .ok (.invokevirtual 54, 3) := by decide +kernel
theorem dXD_chooseChanged_16 : decode cXD_chooseChanged 16 = .ok (.ifCond .ne 6, 3) := by decide +kernel
theorem dXD_chooseChanged_19 : decode cXD_chooseChanged 19 = .ok (.goto 34, 3) := by decide +kernel
theorem dXD_chooseChanged_22 : decode cXD_chooseChanged 22 = .ok (.aload_n 0, 1) := by decide +kernel
theorem dXD_chooseChanged_23 : decode cXD_chooseChanged 23 = .ok (.getfield 26, 3) := by decide +kernel
theorem dXD_chooseChanged_26 : decode cXD_chooseChanged 26 = .ok (.getfield 44, 3) := by decide +kernel
theorem dXD_chooseChanged_29 : decode cXD_chooseChanged 29 = .ok (.iload_n 1, 1) := by decide +kernel
theorem dXD_chooseChanged_30 : decode cXD_chooseChanged 30 = .ok (.baload, 1) := by decide +kernel
theorem dXD_chooseChanged_31 : decode cXD_chooseChanged 31 = .ok (.ifCond .eq 12, 3) := by decide +kernel
theorem dXD_chooseChanged_34 : decode cXD_chooseChanged 34 = .ok (.aload_n 0, 1) := by decide +kernel
theorem dXD_chooseChanged_35 : decode cXD_chooseChanged 35 = .ok (.iload_n 1, 1) := by decide +kernel
theorem dXD_chooseChanged_36 : decode cXD_chooseChanged 36 = .ok (.iconst 0, 1) := by decide +kernel
theorem dXD_chooseChanged_37 : decode cXD_chooseChanged 37 = .ok (.invokevirtual 50, 3) := by decide +kernel
theorem dXD_chooseChanged_40 : decode cXD_chooseChanged 40 = .ok (.goto 13, 3) := by decide +kernel
theorem dXD_chooseChanged_43 : decode cXD_chooseChanged 43 = .ok (.aload_n 0, 1) := by decide +kernel
theorem dXD_chooseChanged_44 : decode cXD_chooseChanged 44 = .ok (.getfield 22, 3) := by decide +kernel
theorem dXD_chooseChanged_47 : decode cXD_chooseChanged 47 = .ok (.getfield 58, 3) := by decide +kernel
theorem lXD_58 : Cond.fieldLink RXD 58 "RevisionWrite$Table" "places" "[I" ∈ A9 := in9_1 106 (by decide +kernel) rfl
theorem dXD_chooseChanged_50 : decode cXD_chooseChanged 50 = .ok (.iload_n 1, 1) := by decide +kernel
theorem dXD_chooseChanged_51 : decode cXD_chooseChanged 51 = .ok (.iconst (-1), 1) := by decide +kernel
theorem dXD_chooseChanged_52 : decode cXD_chooseChanged 52 = .ok (.iastore, 1) := by decide +kernel
theorem dXD_chooseChanged_53 : decode cXD_chooseChanged 53 = .ok (.iinc 1 1, 3) := by decide +kernel
theorem dXD_chooseChanged_56 : decode cXD_chooseChanged 56 = .ok (.goto (-54), 3) := by decide +kernel
theorem dXD_chooseChanged_59 : decode cXD_chooseChanged 59 = .ok (.return_, 1) := by decide +kernel
abbrev cXD_insert : ByteArray := prog_3_method_5_code
def yXD_insert : MethodName := ⟨RXD, "insert", "(II)V"⟩
theorem wXD_insert : Cond.code yXD_insert cXD_insert 4 none ∈ A9 := in9_4 71 rfl rfl
theorem dXD_insert_0 : decode cXD_insert 0 = .ok (.aload_n 0, 1) := by decide +kernel
theorem dXD_insert_1 : decode cXD_insert 1 = .ok (.getfield 37, 3) := by decide +kernel
theorem dXD_insert_4 : decode cXD_insert 4 = .ok (.bipush 40, 2) := by decide +kernel
theorem dXD_insert_6 : decode cXD_insert 6 = .ok (.if_icmp .lt 4, 3) := by decide +kernel
theorem dXD_insert_10 : decode cXD_insert 10 = .ok (.aload_n 0, 1) := by decide +kernel
theorem dXD_insert_11 : decode cXD_insert 11 = .ok (.getfield 37, 3) := by decide +kernel
theorem dXD_insert_14 : decode cXD_insert 14 = .ok (.istore_n 3, 1) := by decide +kernel
theorem dXD_insert_15 : decode cXD_insert 15 = .ok (.iload_n 3, 1) := by decide +kernel
theorem dXD_insert_16 : decode cXD_insert 16 = .ok (.ifCond .le 40, 3) := by decide +kernel
theorem dXD_insert_19 : decode cXD_insert 19 = .ok (.aload_n 0, 1) := by decide +kernel
theorem dXD_insert_20 : decode cXD_insert 20 = .ok (.iload_n 1, 1) := by decide +kernel
theorem dXD_insert_21 : decode cXD_insert 21 = .ok (.aload_n 0, 1) := by decide +kernel
theorem dXD_insert_22 : decode cXD_insert 22 = .ok (.getfield 15, 3) := by decide +kernel
theorem dXD_insert_25 : decode cXD_insert 25 = .ok (.iload_n 3, 1) := by decide +kernel
theorem dXD_insert_26 : decode cXD_insert 26 = .ok (.iconst 1, 1) := by decide +kernel
theorem dXD_insert_27 : decode cXD_insert 27 = .ok (.isub, 1) := by decide +kernel
theorem dXD_insert_28 : decode cXD_insert 28 = .ok (.iaload, 1) := by decide +kernel
theorem dXD_insert_29 : decode cXD_insert 29 = .ok (.iload_n 2, 1) := by decide +kernel
theorem dXD_insert_30 : decode cXD_insert 30 = .ok (.invokevirtual 61, 3) := by decide +kernel
theorem dXD_insert_33 : decode cXD_insert 33 = .ok (.ifCond .eq 23, 3) := by decide +kernel
theorem dXD_insert_36 : decode cXD_insert 36 = .ok (.aload_n 0, 1) := by decide +kernel
theorem dXD_insert_37 : decode cXD_insert 37 = .ok (.getfield 15, 3) := by decide +kernel
theorem dXD_insert_40 : decode cXD_insert 40 = .ok (.iload_n 3, 1) := by decide +kernel
theorem dXD_insert_41 : decode cXD_insert 41 = .ok (.aload_n 0, 1) := by decide +kernel
