theorem dXD_insert_42 : decode cXD_insert 42 = .ok (.getfield 15, 3) := by decide +kernel
theorem dXD_insert_45 : decode cXD_insert 45 = .ok (.iload_n 3, 1) := by decide +kernel
theorem dXD_insert_46 : decode cXD_insert 46 = .ok (.iconst 1, 1) := by decide +kernel
theorem dXD_insert_47 : decode cXD_insert 47 = .ok (.isub, 1) := by decide +kernel
theorem dXD_insert_48 : decode cXD_insert 48 = .ok (.iaload, 1) := by decide +kernel
theorem dXD_insert_49 : decode cXD_insert 49 = .ok (.iastore, 1) := by decide +kernel
theorem dXD_insert_50 : decode cXD_insert 50 = .ok (.iinc 3 (-1), 3) := by decide +kernel
theorem dXD_insert_53 : decode cXD_insert 53 = .ok (.goto (-38), 3) := by decide +kernel
theorem dXD_insert_56 : decode cXD_insert 56 = .ok (.aload_n 0, 1) := by decide +kernel
theorem dXD_insert_57 : decode cXD_insert 57 = .ok (.getfield 15, 3) := by decide +kernel
theorem dXD_insert_60 : decode cXD_insert 60 = .ok (.iload_n 3, 1) := by decide +kernel
theorem dXD_insert_61 : decode cXD_insert 61 = .ok (.iload_n 1, 1) := by decide +kernel
theorem dXD_insert_62 : decode cXD_insert 62 = .ok (.iastore, 1) := by decide +kernel
theorem dXD_insert_63 : decode cXD_insert 63 = .ok (.aload_n 0, 1) := by decide +kernel
theorem dXD_insert_64 : decode cXD_insert 64 = .ok (.dup, 1) := by decide +kernel
theorem dXD_insert_65 : decode cXD_insert 65 = .ok (.getfield 37, 3) := by decide +kernel
theorem dXD_insert_68 : decode cXD_insert 68 = .ok (.iconst 1, 1) := by decide +kernel
theorem dXD_insert_69 : decode cXD_insert 69 = .ok (.iadd, 1) := by decide +kernel
theorem dXD_insert_70 : decode cXD_insert 70 = .ok (.putfield 37, 3) := by decide +kernel
theorem dXD_insert_73 : decode cXD_insert 73 = .ok (.return_, 1) := by decide +kernel
abbrev cXD_goesBefore : ByteArray := prog_3_method_6_code
def yXD_goesBefore : MethodName := ⟨RXD, "goesBefore", "(III)Z"⟩
theorem wXD_goesBefore : Cond.code yXD_goesBefore cXD_goesBefore 4 (some .boolean) ∈ A9 := in9_4 75 rfl rfl
theorem dXD_goesBefore_0 : decode cXD_goesBefore 0 = .ok (.iload_n 3, 1) := by decide +kernel
theorem dXD_goesBefore_1 : decode cXD_goesBefore 1 = .ok (.iconst 1, 1) := by decide +kernel
theorem dXD_goesBefore_2 : decode cXD_goesBefore 2 = .ok (.if_icmp .ne 30, 3) := by decide +kernel
theorem dXD_goesBefore_5 : decode cXD_goesBefore 5 = .ok (.aload_n 0, 1) := by decide +kernel
theorem dXD_goesBefore_6 : decode cXD_goesBefore 6 = .ok (.getfield 26, 3) := by decide +kernel
theorem dXD_goesBefore_9 : decode cXD_goesBefore 9 = .ok (.getfield 65, 3) := by decide +kernel
theorem lXD_65 : Cond.fieldLink RXD 65 "RevisionWrite$Shelf" "lengths" "[I" ∈ A9 := in9_1 50 (by decide +kernel) rfl
theorem dXD_goesBefore_12 : decode cXD_goesBefore 12 = .ok (.iload_n 1, 1) := by decide +kernel
theorem dXD_goesBefore_13 : decode cXD_goesBefore 13 = .ok (.iaload, 1) := by decide +kernel
theorem dXD_goesBefore_14 : decode cXD_goesBefore 14 = .ok (.aload_n 0, 1) := by decide +kernel
theorem dXD_goesBefore_15 : decode cXD_goesBefore 15 = .ok (.getfield 26, 3) := by decide +kernel
theorem dXD_goesBefore_18 : decode cXD_goesBefore 18 = .ok (.getfield 65, 3) := by decide +kernel
theorem dXD_goesBefore_21 : decode cXD_goesBefore 21 = .ok (.iload_n 2, 1) := by decide +kernel
theorem dXD_goesBefore_22 : decode cXD_goesBefore 22 = .ok (.iaload, 1) := by decide +kernel
theorem dXD_goesBefore_23 : decode cXD_goesBefore 23 = .ok (.if_icmp .ge 7, 3) := by decide +kernel
theorem dXD_goesBefore_26 : decode cXD_goesBefore 26 = .ok (.iconst 1, 1) := by decide +kernel
theorem dXD_goesBefore_27 : decode cXD_goesBefore 27 = .ok (.goto 4, 3) := by decide +kernel
theorem dXD_goesBefore_30 : decode cXD_goesBefore 30 = .ok (.iconst 0, 1) := by decide +kernel
theorem dXD_goesBefore_31 : decode cXD_goesBefore 31 = .ok (.ireturn, 1) := by decide +kernel
theorem dXD_goesBefore_32 : decode cXD_goesBefore 32 = .ok (.iload_n 3, 1) := by decide +kernel
theorem dXD_goesBefore_33 : decode cXD_goesBefore 33 = .ok (.iconst 2, 1) := by decide +kernel
theorem dXD_goesBefore_34 : decode cXD_goesBefore 34 = .ok (.if_icmp .ne 31, 3) := by decide +kernel
theorem dXD_goesBefore_37 : decode cXD_goesBefore 37 = .ok (.aload_n 0, 1) := by decide +kernel
theorem dXD_goesBefore_38 : decode cXD_goesBefore 38 = .ok (.getfield 26, 3) := by decide +kernel
theorem dXD_goesBefore_41 : decode cXD_goesBefore 41 = .ok (.getfield 68, 3) := by decide +kernel
theorem lXD_68 : Cond.fieldLink RXD 68 "RevisionWrite$Shelf" "leading" "[Z" ∈ A9 := in9_1 48 (by decide +kernel) rfl
theorem dXD_goesBefore_44 : decode cXD_goesBefore 44 = .ok (.iload_n 1, 1) := by decide +kernel
theorem dXD_goesBefore_45 : decode cXD_goesBefore 45 = .ok (.baload, 1) := by decide +kernel
theorem dXD_goesBefore_46 : decode cXD_goesBefore 46 = .ok (.ifCond .eq 19, 3) := by decide +kernel
theorem dXD_goesBefore_49 : decode cXD_goesBefore 49 = .ok (.aload_n 0, 1) := by decide +kernel
theorem dXD_goesBefore_50 : decode cXD_goesBefore 50 = .ok (.getfield 26, 3) := by decide +kernel
theorem dXD_goesBefore_53 : decode cXD_goesBefore 53 = .ok (.getfield 68, 3) := by decide +kernel
theorem dXD_goesBefore_56 : decode cXD_goesBefore 56 = .ok (.iload_n 2, 1) := by decide +kernel
theorem dXD_goesBefore_57 : decode cXD_goesBefore 57 = .ok (.baload, 1) := by decide +kernel
theorem dXD_goesBefore_58 : decode cXD_goesBefore 58 = .ok (.ifCond .ne 7, 3) := by decide +kernel
theorem dXD_goesBefore_61 : decode cXD_goesBefore 61 = .ok (.iconst 1, 1) := by decide +kernel
theorem dXD_goesBefore_62 : decode cXD_goesBefore 62 = .ok (.goto 4, 3) := by decide +kernel
theorem dXD_goesBefore_65 : decode cXD_goesBefore 65 = .ok (.iconst 0, 1) := by decide +kernel
theorem dXD_goesBefore_66 : decode cXD_goesBefore 66 = .ok (.ireturn, 1) := by decide +kernel
abbrev cXD_finish : ByteArray := prog_3_method_7_code
def yXD_finish : MethodName := ⟨RXD, "finish", "(I)V"⟩
theorem wXD_finish : Cond.code yXD_finish cXD_finish 3 none ∈ A9 := in9_4 79 rfl rfl
theorem dXD_finish_0 : decode cXD_finish 0 = .ok (.iconst 0, 1) := by decide +kernel
theorem dXD_finish_1 : decode cXD_finish 1 = .ok (.istore_n 2, 1) := by decide +kernel
theorem dXD_finish_2 : decode cXD_finish 2 = .ok (.iload_n 2, 1) := by decide +kernel
theorem dXD_finish_3 : decode cXD_finish 3 = .ok (.aload_n 0, 1) := by decide +kernel
theorem dXD_finish_4 : decode cXD_finish 4 = .ok (.getfield 37, 3) := by decide +kernel
theorem dXD_finish_7 : decode cXD_finish 7 = .ok (.if_icmp .ge 19, 3) := by decide +kernel
theorem dXD_finish_10 : decode cXD_finish 10 = .ok (.aload_n 0, 1) := by decide +kernel
theorem dXD_finish_11 : decode cXD_finish 11 = .ok (.aload_n 0, 1) := by decide +kernel
theorem dXD_finish_12 : decode cXD_finish 12 = .ok (.getfield 15, 3) := by decide +kernel
theorem dXD_finish_15 : decode cXD_finish 15 = .ok (.iload_n 2, 1) := by decide +kernel
theorem dXD_finish_16 : decode cXD_finish 16 = .ok (.iaload, 1) := by decide +kernel
theorem dXD_finish_17 : decode cXD_finish 17 = .ok (.invokevirtual 71, 3) := by decide +kernel
theorem dXD_finish_20 : decode cXD_finish 20 = .ok (.iinc 2 1, 3) := by decide +kernel
theorem dXD_finish_23 : decode cXD_finish 23 = .ok (.goto (-21), 3) := by decide +kernel
theorem dXD_finish_26 : decode cXD_finish 26 = .ok (.aload_n 0, 1) := by decide +kernel
theorem dXD_finish_27 : decode cXD_finish 27 = .ok (.getfield 22, 3) := by decide +kernel
theorem dXD_finish_30 : decode cXD_finish 30 = .ok (.aload_n 0, 1) := by decide +kernel
theorem dXD_finish_31 : decode cXD_finish 31 = .ok (.getfield 30, 3) := by decide +kernel
theorem dXD_finish_34 : decode cXD_finish 34 = .ok (.aload_n 0, 1) := by decide +kernel
theorem dXD_finish_35 : decode cXD_finish 35 = .ok (.getfield 34, 3) := by decide +kernel
theorem dXD_finish_38 : decode cXD_finish 38 = .ok (.iadd, 1) := by decide +kernel
theorem dXD_finish_39 : decode cXD_finish 39 = .ok (.putfield 74, 3) := by decide +kernel
theorem lXD_74 : Cond.fieldLink RXD 74 "RevisionWrite$Table" "x" "I" ∈ A9 := in9_1 118 (by decide +kernel) rfl
theorem dXD_finish_42 : decode cXD_finish 42 = .ok (.aload_n 0, 1) := by decide +kernel
theorem dXD_finish_43 : decode cXD_finish 43 = .ok (.bipush 120, 2) := by decide +kernel
theorem dXD_finish_45 : decode cXD_finish 45 = .ok (.aload_n 0, 1) := by decide +kernel
theorem dXD_finish_46 : decode cXD_finish 46 = .ok (.getfield 22, 3) := by decide +kernel
theorem dXD_finish_49 : decode cXD_finish 49 = .ok (.invokevirtual 77, 3) := by decide +kernel
theorem dXD_finish_52 : decode cXD_finish 52 = .ok (.invokevirtual 81, 3) := by decide +kernel
theorem dXD_finish_55 : decode cXD_finish 55 = .ok (.iconst 1, 1) := by decide +kernel
theorem dXD_finish_56 : decode cXD_finish 56 = .ok (.istore_n 2, 1) := by decide +kernel
theorem dXD_finish_57 : decode cXD_finish 57 = .ok (.iload_n 2, 1) := by decide +kernel
theorem dXD_finish_58 : decode cXD_finish 58 = .ok (.bipush 40, 2) := by decide +kernel
theorem dXD_finish_60 : decode cXD_finish 60 = .ok (.if_icmp .gt 28, 3) := by decide +kernel
theorem dXD_finish_63 : decode cXD_finish 63 = .ok (.aload_n 0, 1) := by decide +kernel
theorem dXD_finish_64 : decode cXD_finish 64 = .ok (.getfield 22, 3) := by decide +kernel
theorem dXD_finish_67 : decode cXD_finish 67 = .ok (.getfield 58, 3) := by decide +kernel
theorem dXD_finish_70 : decode cXD_finish 70 = .ok (.iload_n 2, 1) := by decide +kernel
theorem dXD_finish_71 : decode cXD_finish 71 = .ok (.iaload, 1) := by decide +kernel
theorem dXD_finish_72 : decode cXD_finish 72 = .ok (.bipush (-2), 2) := by decide +kernel
theorem dXD_finish_74 : decode cXD_finish 74 = .ok (.if_icmp .eq 8, 3) := by decide +kernel
theorem dXD_finish_77 : decode cXD_finish 77 = .ok (.aload_n 0, 1) := by decide +kernel
theorem dXD_finish_78 : decode cXD_finish 78 = .ok (.iload_n 2, 1) := by decide +kernel
theorem dXD_finish_79 : decode cXD_finish 79 = .ok (.invokevirtual 84, 3) := by decide +kernel
theorem dXD_finish_82 : decode cXD_finish 82 = .ok (.iinc 2 1, 3) := by decide +kernel
theorem dXD_finish_85 : decode cXD_finish 85 = .ok (.goto (-28), 3) := by decide +kernel
theorem dXD_finish_88 : decode cXD_finish 88 = .ok (.aload_n 0, 1) := by decide +kernel
theorem dXD_finish_89 : decode cXD_finish 89 = .ok (.bipush 112, 2) := by decide +kernel
theorem dXD_finish_91 : decode cXD_finish 91 = .ok (.iload_n 1, 1) := by decide +kernel
theorem dXD_finish_92 : decode cXD_finish 92 = .ok (.invokevirtual 81, 3) := by decide +kernel
theorem dXD_finish_95 : decode cXD_finish 95 = .ok (.aload_n 0, 1) := by decide +kernel
theorem dXD_finish_96 : decode cXD_finish 96 = .ok (.bipush 101, 2) := by decide +kernel
theorem dXD_finish_98 : decode cXD_finish 98 = .ok (.aload_n 0, 1) := by decide +kernel
theorem dXD_finish_99 : decode cXD_finish 99 = .ok (.getfield 22, 3) := by decide +kernel
theorem dXD_finish_102 : decode cXD_finish 102 = .ok (.getfield 74, 3) := by decide +kernel
theorem dXD_finish_105 : decode cXD_finish 105 = .ok (.invokevirtual 81, 3) := by decide +kernel
theorem dXD_finish_108 : decode cXD_finish 108 = .ok (.aload_n 0, 1) := by decide +kernel
theorem dXD_finish_109 : decode cXD_finish 109 = .ok (.getfield 22, 3) := by decide +kernel
theorem dXD_finish_112 : decode cXD_finish 112 = .ok (.aload_n 0, 1) := by decide +kernel
theorem dXD_finish_113 : decode cXD_finish 113 = .ok (.getfield 30, 3) := by decide +kernel
theorem dXD_finish_116 : decode cXD_finish 116 = .ok (.aload_n 0, 1) := by decide +kernel
theorem dXD_finish_117 : decode cXD_finish 117 = .ok (.getfield 34, 3) := by decide +kernel
theorem dXD_finish_120 : decode cXD_finish 120 = .ok (.iadd, 1) := by decide +kernel
theorem dXD_finish_121 : decode cXD_finish 121 = .ok (.putfield 87, 3) := by decide +kernel
theorem lXD_87 : Cond.fieldLink RXD 87 "RevisionWrite$Table" "end" "I" ∈ A9 := in9_1 122 (by decide +kernel) rfl
theorem dXD_finish_124 : decode cXD_finish 124 = .ok (.return_, 1) := by decide +kernel
abbrev cXD_putFirstLine : ByteArray := prog_3_method_8_code
def yXD_putFirstLine : MethodName := ⟨RXD, "putFirstLine", "()V"⟩
theorem wXD_putFirstLine : Cond.code yXD_putFirstLine cXD_putFirstLine 2 none ∈ A9 := in9_4 58 rfl rfl
theorem dXD_putFirstLine_0 : decode cXD_putFirstLine 0 = .ok (.iconst 0, 1) := by decide +kernel
theorem dXD_putFirstLine_1 : decode cXD_putFirstLine 1 = .ok (.istore_n 1, 1) := by decide +kernel
theorem dXD_putFirstLine_2 : decode cXD_putFirstLine 2 = .ok (.iload_n 1, 1) := by decide +kernel
theorem dXD_putFirstLine_3 : decode cXD_putFirstLine 3 = .ok (.getstatic 90, 3) := by decide +kernel
theorem dXD_putFirstLine_6 : decode cXD_putFirstLine 6 = .ok (.arraylength, 1) := by decide +kernel
theorem dXD_putFirstLine_7 : decode cXD_putFirstLine 7 = .ok (.if_icmp .ge 18, 3) := by decide +kernel
theorem dXD_putFirstLine_10 : decode cXD_putFirstLine 10 = .ok (.aload_n 0, 1) := by decide +kernel
theorem dXD_putFirstLine_11 : decode cXD_putFirstLine 11 = .ok (.getstatic 90, 3) := by decide +kernel
theorem dXD_putFirstLine_14 : decode cXD_putFirstLine 14 = .ok (.iload_n 1, 1) := by decide +kernel
theorem dXD_putFirstLine_15 : decode cXD_putFirstLine 15 = .ok (.baload, 1) := by decide +kernel
theorem dXD_putFirstLine_16 : decode cXD_putFirstLine 16 = .ok (.invokevirtual 93, 3) := by decide +kernel
theorem dXD_putFirstLine_19 : decode cXD_putFirstLine 19 = .ok (.iinc 1 1, 3) := by decide +kernel
theorem dXD_putFirstLine_22 : decode cXD_putFirstLine 22 = .ok (.goto (-20), 3) := by decide +kernel
theorem dXD_putFirstLine_25 : decode cXD_putFirstLine 25 = .ok (.return_, 1) := by decide +kernel
abbrev cXD_putRecord : ByteArray := prog_3_method_9_code
def yXD_putRecord : MethodName := ⟨RXD, "putRecord", "(I)V"⟩
theorem wXD_putRecord : Cond.code yXD_putRecord cXD_putRecord 4 none ∈ A9 := in9_4 83 rfl rfl
theorem dXD_putRecord_0 : decode cXD_putRecord 0 = .ok (.aload_n 0, 1) := by decide +kernel
theorem dXD_putRecord_1 : decode cXD_putRecord 1 = .ok (.getfield 26, 3) := by decide +kernel
theorem dXD_putRecord_4 : decode cXD_putRecord 4 = .ok (.getfield 65, 3) := by decide +kernel
theorem dXD_putRecord_7 : decode cXD_putRecord 7 = .ok (.iload_n 1, 1) := by decide +kernel
theorem dXD_putRecord_8 : decode cXD_putRecord 8 = .ok (.iaload, 1) := by decide +kernel
theorem dXD_putRecord_9 : decode cXD_putRecord 9 = .ok (.istore_n 2, 1) := by decide +kernel
theorem dXD_putRecord_10 : decode cXD_putRecord 10 = .ok (.aload_n 0, 1) := by decide +kernel
theorem dXD_putRecord_11 : decode cXD_putRecord 11 = .ok (.getfield 22, 3) := by decide +kernel
theorem dXD_putRecord_14 : decode cXD_putRecord 14 = .ok (.getfield 58, 3) := by decide +kernel
theorem dXD_putRecord_17 : decode cXD_putRecord 17 = .ok (.iload_n 1, 1) := by decide +kernel
theorem dXD_putRecord_18 : decode cXD_putRecord 18 = .ok (.aload_n 0, 1) := by decide +kernel
theorem dXD_putRecord_19 : decode cXD_putRecord 19 = .ok (.getfield 30, 3) := by decide +kernel
theorem dXD_putRecord_22 : decode cXD_putRecord 22 = .ok (.aload_n 0, 1) := by decide +kernel
theorem dXD_putRecord_23 : decode cXD_putRecord 23 = .ok (.getfield 34, 3) := by decide +kernel
theorem dXD_putRecord_26 : decode cXD_putRecord 26 = .ok (.iadd, 1) := by decide +kernel
theorem dXD_putRecord_27 : decode cXD_putRecord 27 = .ok (.iastore, 1) := by decide +kernel
theorem dXD_putRecord_28 : decode cXD_putRecord 28 = .ok (.aload_n 0, 1) := by decide +kernel
theorem dXD_putRecord_29 : decode cXD_putRecord 29 = .ok (.getfield 22, 3) := by decide +kernel
theorem dXD_putRecord_32 : decode cXD_putRecord 32 = .ok (.getfield 96, 3) := by decide +kernel
theorem lXD_96 : Cond.fieldLink RXD 96 "RevisionWrite$Table" "lengths" "[I" ∈ A9 := in9_1 113 (by decide +kernel) rfl
theorem dXD_putRecord_35 : decode cXD_putRecord 35 = .ok (.iload_n 1, 1) := by decide +kernel
theorem dXD_putRecord_36 : decode cXD_putRecord 36 = .ok (.iload_n 2, 1) := by decide +kernel
theorem dXD_putRecord_37 : decode cXD_putRecord 37 = .ok (.iastore, 1) := by decide +kernel
theorem dXD_putRecord_38 : decode cXD_putRecord 38 = .ok (.aload_n 0, 1) := by decide +kernel
theorem dXD_putRecord_39 : decode cXD_putRecord 39 = .ok (.bipush 111, 2) := by decide +kernel
theorem dXD_putRecord_41 : decode cXD_putRecord 41 = .ok (.invokevirtual 93, 3) := by decide +kernel
theorem dXD_putRecord_44 : decode cXD_putRecord 44 = .ok (.aload_n 0, 1) := by decide +kernel
theorem dXD_putRecord_45 : decode cXD_putRecord 45 = .ok (.bipush 32, 2) := by decide +kernel
theorem dXD_putRecord_47 : decode cXD_putRecord 47 = .ok (.invokevirtual 93, 3) := by decide +kernel
theorem dXD_putRecord_50 : decode cXD_putRecord 50 = .ok (.aload_n 0, 1) := by decide +kernel
theorem dXD_putRecord_51 : decode cXD_putRecord 51 = .ok (.iload_n 1, 1) := by decide +kernel
theorem dXD_putRecord_52 : decode cXD_putRecord 52 = .ok (.invokevirtual 97, 3) := by decide +kernel
theorem dXD_putRecord_55 : decode cXD_putRecord 55 = .ok (.aload_n 0, 1) := by decide +kernel
theorem dXD_putRecord_56 : decode cXD_putRecord 56 = .ok (.bipush 32, 2) := by decide +kernel
theorem dXD_putRecord_58 : decode cXD_putRecord 58 = .ok (.invokevirtual 93, 3) := by decide +kernel
theorem dXD_putRecord_61 : decode cXD_putRecord 61 = .ok (.aload_n 0, 1) := by decide +kernel
theorem dXD_putRecord_62 : decode cXD_putRecord 62 = .ok (.iload_n 2, 1) := by decide +kernel
theorem dXD_putRecord_63 : decode cXD_putRecord 63 = .ok (.invokevirtual 97, 3) := by decide +kernel
theorem dXD_putRecord_66 : decode cXD_putRecord 66 = .ok (.aload_n 0, 1) := by decide +kernel
theorem dXD_putRecord_67 : decode cXD_putRecord 67 = .ok (.bipush 10, 2) := by decide +kernel
theorem dXD_putRecord_69 : decode cXD_putRecord 69 = .ok (.invokevirtual 93, 3) := by decide +kernel
theorem dXD_putRecord_72 : decode cXD_putRecord 72 = .ok (.iconst 0, 1) := by decide +kernel
theorem dXD_putRecord_73 : decode cXD_putRecord 73 = .ok (.istore_n 3, 1) := by decide +kernel
theorem dXD_putRecord_74 : decode cXD_putRecord 74 = .ok (.iload_n 3, 1) := by decide +kernel
theorem dXD_putRecord_75 : decode cXD_putRecord 75 = .ok (.iload_n 2, 1) := by decide +kernel
theorem dXD_putRecord_76 : decode cXD_putRecord 76 = .ok (.if_icmp .ge 22, 3) := by decide +kernel
theorem dXD_putRecord_79 : decode cXD_putRecord 79 = .ok (.aload_n 0, 1) := by decide +kernel
theorem dXD_putRecord_80 : decode cXD_putRecord 80 = .ok (.aload_n 0, 1) := by decide +kernel
theorem dXD_putRecord_81 : decode cXD_putRecord 81 = .ok (.getfield 26, 3) := by decide +kernel
theorem dXD_putRecord_84 : decode cXD_putRecord 84 = .ok (.iload_n 1, 1) := by decide +kernel
theorem dXD_putRecord_85 : decode cXD_putRecord 85 = .ok (.iload_n 3, 1) := by decide +kernel
theorem dXD_putRecord_86 : decode cXD_putRecord 86 = .ok (.invokevirtual 100, 3) := by decide +kernel
theorem dXD_putRecord_89 : decode cXD_putRecord 89 = .ok (.invokevirtual 93, 3) := by decide +kernel
theorem dXD_putRecord_92 : decode cXD_putRecord 92 = .ok (.iinc 3 1, 3) := by decide +kernel
theorem dXD_putRecord_95 : decode cXD_putRecord 95 = .ok (.goto (-21), 3) := by decide +kernel
theorem dXD_putRecord_98 : decode cXD_putRecord 98 = .ok (.aload_n 0, 1) := by decide +kernel
theorem dXD_putRecord_99 : decode cXD_putRecord 99 = .ok (.bipush 10, 2) := by decide +kernel
theorem dXD_putRecord_101 : decode cXD_putRecord 101 = .ok (.invokevirtual 93, 3) := by decide +kernel
theorem dXD_putRecord_104 : decode cXD_putRecord 104 = .ok (.return_, 1) := by decide +kernel
abbrev cXD_putRow : ByteArray := prog_3_method_10_code
def yXD_putRow : MethodName := ⟨RXD, "putRow", "(I)V"⟩
theorem wXD_putRow : Cond.code yXD_putRow cXD_putRow 2 none ∈ A9 := in9_4 103 rfl rfl
theorem dXD_putRow_0 : decode cXD_putRow 0 = .ok (.aload_n 0, 1) := by decide +kernel
theorem dXD_putRow_1 : decode cXD_putRow 1 = .ok (.iload_n 1, 1) := by decide +kernel
theorem dXD_putRow_2 : decode cXD_putRow 2 = .ok (.invokevirtual 97, 3) := by decide +kernel
theorem dXD_putRow_5 : decode cXD_putRow 5 = .ok (.aload_n 0, 1) := by decide +kernel
theorem dXD_putRow_6 : decode cXD_putRow 6 = .ok (.bipush 32, 2) := by decide +kernel
theorem dXD_putRow_8 : decode cXD_putRow 8 = .ok (.invokevirtual 93, 3) := by decide +kernel
theorem dXD_putRow_11 : decode cXD_putRow 11 = .ok (.aload_n 0, 1) := by decide +kernel
theorem dXD_putRow_12 : decode cXD_putRow 12 = .ok (.getfield 22, 3) := by decide +kernel
theorem dXD_putRow_15 : decode cXD_putRow 15 = .ok (.getfield 58, 3) := by decide +kernel
theorem dXD_putRow_18 : decode cXD_putRow 18 = .ok (.iload_n 1, 1) := by decide +kernel
theorem dXD_putRow_19 : decode cXD_putRow 19 = .ok (.iaload, 1) := by decide +kernel
theorem dXD_putRow_20 : decode cXD_putRow 20 = .ok (.iconst (-1), 1) := by decide +kernel
theorem dXD_putRow_21 : decode cXD_putRow 21 = .ok (.if_icmp .ne 12, 3) := by decide +kernel
theorem dXD_putRow_24 : decode cXD_putRow 24 = .ok (.aload_n 0, 1) := by decide +kernel
theorem dXD_putRow_25 : decode cXD_putRow 25 = .ok (.bipush 45, 2) := by decide +kernel
theorem dXD_putRow_27 : decode cXD_putRow 27 = .ok (.invokevirtual 93, 3) := by decide +kernel
theorem dXD_putRow_30 : decode cXD_putRow 30 = .ok (.goto 16, 3) := by decide +kernel
theorem dXD_putRow_33 : decode cXD_putRow 33 = .ok (.aload_n 0, 1) := by decide +kernel
theorem dXD_putRow_34 : decode cXD_putRow 34 = .ok (.aload_n 0, 1) := by decide +kernel
theorem dXD_putRow_35 : decode cXD_putRow 35 = .ok (.getfield 22, 3) := by decide +kernel
theorem dXD_putRow_38 : decode cXD_putRow 38 = .ok (.getfield 58, 3) := by decide +kernel
theorem dXD_putRow_41 : decode cXD_putRow 41 = .ok (.iload_n 1, 1) := by decide +kernel
theorem dXD_putRow_42 : decode cXD_putRow 42 = .ok (.iaload, 1) := by decide +kernel
theorem dXD_putRow_43 : decode cXD_putRow 43 = .ok (.invokevirtual 97, 3) := by decide +kernel
theorem dXD_putRow_46 : decode cXD_putRow 46 = .ok (.aload_n 0, 1) := by decide +kernel
theorem dXD_putRow_47 : decode cXD_putRow 47 = .ok (.bipush 10, 2) := by decide +kernel
theorem dXD_putRow_49 : decode cXD_putRow 49 = .ok (.invokevirtual 93, 3) := by decide +kernel
theorem dXD_putRow_52 : decode cXD_putRow 52 = .ok (.return_, 1) := by decide +kernel
abbrev cXD_putTagged : ByteArray := prog_3_method_11_code
def yXD_putTagged : MethodName := ⟨RXD, "putTagged", "(II)V"⟩
theorem wXD_putTagged : Cond.code yXD_putTagged cXD_putTagged 3 none ∈ A9 := in9_4 99 rfl rfl
theorem dXD_putTagged_0 : decode cXD_putTagged 0 = .ok (.aload_n 0, 1) := by decide +kernel
theorem dXD_putTagged_1 : decode cXD_putTagged 1 = .ok (.iload_n 1, 1) := by decide +kernel
theorem dXD_putTagged_2 : decode cXD_putTagged 2 = .ok (.invokevirtual 93, 3) := by decide +kernel
theorem dXD_putTagged_5 : decode cXD_putTagged 5 = .ok (.aload_n 0, 1) := by decide +kernel
theorem dXD_putTagged_6 : decode cXD_putTagged 6 = .ok (.bipush 32, 2) := by decide +kernel
theorem dXD_putTagged_8 : decode cXD_putTagged 8 = .ok (.invokevirtual 93, 3) := by decide +kernel
theorem dXD_putTagged_11 : decode cXD_putTagged 11 = .ok (.aload_n 0, 1) := by decide +kernel
theorem dXD_putTagged_12 : decode cXD_putTagged 12 = .ok (.iload_n 2, 1) := by decide +kernel
theorem dXD_putTagged_13 : decode cXD_putTagged 13 = .ok (.invokevirtual 97, 3) := by decide +kernel
theorem dXD_putTagged_16 : decode cXD_putTagged 16 = .ok (.aload_n 0, 1) := by decide +kernel
theorem dXD_putTagged_17 : decode cXD_putTagged 17 = .ok (.bipush 10, 2) := by decide +kernel
theorem dXD_putTagged_19 : decode cXD_putTagged 19 = .ok (.invokevirtual 93, 3) := by decide +kernel
theorem dXD_putTagged_22 : decode cXD_putTagged 22 = .ok (.return_, 1) := by decide +kernel
abbrev cXD_putNumber : ByteArray := prog_3_method_12_code
def yXD_putNumber : MethodName := ⟨RXD, "putNumber", "(I)V"⟩
theorem wXD_putNumber : Cond.code yXD_putNumber cXD_putNumber 3 none ∈ A9 := in9_4 87 rfl rfl
theorem dXD_putNumber_0 : decode cXD_putNumber 0 = .ok (.sipush 10000, 3) := by decide +kernel
theorem dXD_putNumber_3 : decode cXD_putNumber 3 = .ok (.istore_n 2, 1) := by decide +kernel
theorem dXD_putNumber_4 : decode cXD_putNumber 4 = .ok (.iload_n 2, 1) := by decide +kernel
theorem dXD_putNumber_5 : decode cXD_putNumber 5 = .ok (.iconst 1, 1) := by decide +kernel
theorem dXD_putNumber_6 : decode cXD_putNumber 6 = .ok (.if_icmp .lt 34, 3) := by decide +kernel
theorem dXD_putNumber_9 : decode cXD_putNumber 9 = .ok (.iload_n 1, 1) := by decide +kernel
theorem dXD_putNumber_10 : decode cXD_putNumber 10 = .ok (.iload_n 2, 1) := by decide +kernel
theorem dXD_putNumber_11 : decode cXD_putNumber 11 = .ok (.if_icmp .ge 8, 3) := by decide +kernel
theorem dXD_putNumber_14 : decode cXD_putNumber 14 = .ok (.iload_n 2, 1) := by decide +kernel
theorem dXD_putNumber_15 : decode cXD_putNumber 15 = .ok (.iconst 1, 1) := by decide +kernel
theorem dXD_putNumber_16 : decode cXD_putNumber 16 = .ok (.if_icmp .ne 16, 3) := by decide +kernel
theorem dXD_putNumber_19 : decode cXD_putNumber 19 = .ok (.aload_n 0, 1) := by decide +kernel
theorem dXD_putNumber_20 : decode cXD_putNumber 20 = .ok (.bipush 48, 2) := by decide +kernel
theorem dXD_putNumber_22 : decode cXD_putNumber 22 = .ok (.iload_n 1, 1) := by decide +kernel
theorem dXD_putNumber_23 : decode cXD_putNumber 23 = .ok (.iload_n 2, 1) := by decide +kernel
theorem dXD_putNumber_24 : decode cXD_putNumber 24 = .ok (.idiv, 1) := by decide +kernel
theorem dXD_putNumber_25 : decode cXD_putNumber 25 = .ok (.bipush 10, 2) := by decide +kernel
theorem dXD_putNumber_27 : decode cXD_putNumber 27 = .ok (.irem, 1) := by decide +kernel
theorem dXD_putNumber_28 : decode cXD_putNumber 28 = .ok (.iadd, 1) := by decide +kernel
theorem dXD_putNumber_29 : decode cXD_putNumber 29 = .ok (.invokevirtual 93, 3) := by decide +kernel
theorem dXD_putNumber_32 : decode cXD_putNumber 32 = .ok (.iload_n 2, 1) := by decide +kernel
theorem dXD_putNumber_33 : decode cXD_putNumber 33 = .ok (.bipush 10, 2) := by decide +kernel
theorem dXD_putNumber_35 : decode cXD_putNumber 35 = .ok (.idiv, 1) := by decide +kernel
theorem dXD_putNumber_36 : decode cXD_putNumber 36 = .ok (.istore_n 2, 1) := by decide +kernel
theorem dXD_putNumber_37 : decode cXD_putNumber 37 = .ok (.goto (-33), 3) := by decide +kernel
theorem dXD_putNumber_40 : decode cXD_putNumber 40 = .ok (.return_, 1) := by decide +kernel
abbrev cXD_put : ByteArray := prog_3_method_13_code
def yXD_put : MethodName := ⟨RXD, "put", "(I)V"⟩
theorem wXD_put : Cond.code yXD_put cXD_put 2 none ∈ A9 := in9_4 63 rfl rfl
theorem dXD_put_0 : decode cXD_put 0 = .ok (.aload_n 0, 1) := by decide +kernel
theorem dXD_put_1 : decode cXD_put 1 = .ok (.getfield 34, 3) := by decide +kernel
theorem dXD_put_4 : decode cXD_put 4 = .ok (.sipush 6000, 3) := by decide +kernel
theorem dXD_put_7 : decode cXD_put 7 = .ok (.if_icmp .ge 24, 3) := by decide +kernel
theorem dXD_put_10 : decode cXD_put 10 = .ok (.aload_n 0, 1) := by decide +kernel
theorem dXD_put_11 : decode cXD_put 11 = .ok (.getfield 9, 3) := by decide +kernel
theorem dXD_put_14 : decode cXD_put 14 = .ok (.aload_n 0, 1) := by decide +kernel
theorem dXD_put_15 : decode cXD_put 15 = .ok (.getfield 34, 3) := by decide +kernel
theorem dXD_put_18 : decode cXD_put 18 = .ok (.iload_n 1, 1) := by decide +kernel
theorem dXD_put_19 : decode cXD_put 19 = .ok (.i2b, 1) := by decide +kernel
theorem dXD_put_20 : decode cXD_put 20 = .ok (.bastore, 1) := by decide +kernel
theorem dXD_put_21 : decode cXD_put 21 = .ok (.aload_n 0, 1) := by decide +kernel
theorem dXD_put_22 : decode cXD_put 22 = .ok (.dup, 1) := by decide +kernel
theorem dXD_put_23 : decode cXD_put 23 = .ok (.getfield 34, 3) := by decide +kernel
theorem dXD_put_26 : decode cXD_put 26 = .ok (.iconst 1, 1) := by decide +kernel
theorem dXD_put_27 : decode cXD_put 27 = .ok (.iadd, 1) := by decide +kernel
theorem dXD_put_28 : decode cXD_put 28 = .ok (.putfield 34, 3) := by decide +kernel
theorem dXD_put_31 : decode cXD_put 31 = .ok (.return_, 1) := by decide +kernel
def RXG : String := "RevisionWrite$Differences"
abbrev cXG_init : ByteArray := prog_2_method_1_code
def yXG_init : MethodName := ⟨RXG, "<init>", "()V"⟩
theorem wXG_init : Cond.code yXG_init cXG_init 1 none ∈ A9 := in9_1 205 rfl rfl
theorem dXG_init_0 : decode cXG_init 0 = .ok (.aload_n 0, 1) := by decide +kernel
theorem dXG_init_1 : decode cXG_init 1 = .ok (.invokespecial 3, 3) := by decide +kernel
theorem dXG_init_4 : decode cXG_init 4 = .ok (.aload_n 0, 1) := by decide +kernel
theorem dXG_init_5 : decode cXG_init 5 = .ok (.bipush 40, 2) := by decide +kernel
theorem dXG_init_7 : decode cXG_init 7 = .ok (.newarray .int, 2) := by decide +kernel
theorem dXG_init_9 : decode cXG_init 9 = .ok (.putfield 9, 3) := by decide +kernel
theorem lXG_9 : Cond.fieldLink RXG 9 "RevisionWrite$Differences" "numbers" "[I" ∈ A9 := in9_1 207 (by decide +kernel) rfl
theorem dXG_init_12 : decode cXG_init 12 = .ok (.aload_n 0, 1) := by decide +kernel
theorem dXG_init_13 : decode cXG_init 13 = .ok (.bipush 40, 2) := by decide +kernel
theorem dXG_init_15 : decode cXG_init 15 = .ok (.newarray .int, 2) := by decide +kernel
theorem dXG_init_17 : decode cXG_init 17 = .ok (.putfield 15, 3) := by decide +kernel
theorem lXG_15 : Cond.fieldLink RXG 15 "RevisionWrite$Differences" "kinds" "[I" ∈ A9 := in9_1 209 (by decide +kernel) rfl
theorem dXG_init_20 : decode cXG_init 20 = .ok (.return_, 1) := by decide +kernel
abbrev cXG_compare : ByteArray := prog_2_method_2_code
def yXG_compare : MethodName := ⟨RXG, "compare", "(LRevisionWrite$FileBytes;LRevisionWrite$Table;LRevisionWrite$Table;)V"⟩
theorem wXG_compare : Cond.code yXG_compare cXG_compare 6 none ∈ A9 := in9_4 236 rfl rfl
theorem dXG_compare_0 : decode cXG_compare 0 = .ok (.aload_n 0, 1) := by decide +kernel
theorem dXG_compare_1 : decode cXG_compare 1 = .ok (.iconst 0, 1) := by decide +kernel
theorem dXG_compare_2 : decode cXG_compare 2 = .ok (.putfield 18, 3) := by decide +kernel
theorem lXG_18 : Cond.fieldLink RXG 18 "RevisionWrite$Differences" "count" "I" ∈ A9 := in9_1 211 (by decide +kernel) rfl
theorem dXG_compare_5 : decode cXG_compare 5 = .ok (.iconst 1, 1) := by decide +kernel
theorem dXG_compare_6 : decode cXG_compare 6 = .ok (.istore 4, 2) := by decide +kernel
theorem dXG_compare_8 : decode cXG_compare 8 = .ok (.iload 4, 2) := by decide +kernel
theorem dXG_compare_10 : decode cXG_compare 10 = .ok (.bipush 40, 2) := by decide +kernel
theorem dXG_compare_12 : decode cXG_compare 12 = .ok (.if_icmp .gt 57, 3) := by decide +kernel
theorem dXG_compare_15 : decode cXG_compare 15 = .ok (.aload_n 0, 1) := by decide +kernel
theorem dXG_compare_16 : decode cXG_compare 16 = .ok (.iload 4, 2) := by decide +kernel
theorem dXG_compare_18 : decode cXG_compare 18 = .ok (.aload_n 1, 1) := by decide +kernel
theorem dXG_compare_19 : decode cXG_compare 19 = .ok (.aload_n 2, 1) := by decide +kernel
theorem dXG_compare_20 : decode cXG_compare 20 = .ok (.aload_n 3, 1) := by decide +kernel
theorem dXG_compare_21 : decode cXG_compare 21 = .ok (.invokevirtual 22, 3) := by decide +kernel
theorem dXG_compare_24 : decode cXG_compare 24 = .ok (.istore 5, 2) := by decide +kernel
theorem dXG_compare_26 : decode cXG_compare 26 = .ok (.iload 5, 2) := by decide +kernel
theorem dXG_compare_28 : decode cXG_compare 28 = .ok (.ifCond .eq 35, 3) := by decide +kernel
theorem dXG_compare_31 : decode cXG_compare 31 = .ok (.aload_n 0, 1) := by decide +kernel
theorem dXG_compare_32 : decode cXG_compare 32 = .ok (.getfield 9, 3) := by decide +kernel
theorem dXG_compare_35 : decode cXG_compare 35 = .ok (.aload_n 0, 1) := by decide +kernel
theorem dXG_compare_36 : decode cXG_compare 36 = .ok (.getfield 18, 3) := by decide +kernel
theorem dXG_compare_39 : decode cXG_compare 39 = .ok (.iload 4, 2) := by decide +kernel
theorem dXG_compare_41 : decode cXG_compare 41 = .ok (.iastore, 1) := by decide +kernel
theorem dXG_compare_42 : decode cXG_compare 42 = .ok (.aload_n 0, 1) := by decide +kernel
theorem dXG_compare_43 : decode cXG_compare 43 = .ok (.getfield 15, 3) := by decide +kernel
theorem dXG_compare_46 : decode cXG_compare 46 = .ok (.aload_n 0, 1) := by decide +kernel
theorem dXG_compare_47 : decode cXG_compare 47 = .ok (.getfield 18, 3) := by decide +kernel
theorem dXG_compare_50 : decode cXG_compare 50 = .ok (.iload 5, 2) := by decide +kernel
theorem dXG_compare_52 : decode cXG_compare 52 = .ok (.iastore, 1) := by decide +kernel
theorem dXG_compare_53 : decode cXG_compare 53 = .ok (.aload_n 0, 1) := by decide +kernel
theorem dXG_compare_54 : decode cXG_compare 54 = .ok (.dup, 1) := by decide +kernel
theorem dXG_compare_55 : decode cXG_compare 55 = .ok (.getfield 18, 3) := by decide +kernel
theorem dXG_compare_58 : decode cXG_compare 58 = .ok (.iconst 1, 1) := by decide +kernel
theorem dXG_compare_59 : decode cXG_compare 59 = .ok (.iadd, 1) := by decide +kernel
theorem dXG_compare_60 : decode cXG_compare 60 = .ok (.putfield 18, 3) := by decide +kernel
theorem dXG_compare_63 : decode cXG_compare 63 = .ok (.iinc 4 1, 3) := by decide +kernel
theorem dXG_compare_66 : decode cXG_compare 66 = .ok (.goto (-58), 3) := by decide +kernel
theorem dXG_compare_69 : decode cXG_compare 69 = .ok (.return_, 1) := by decide +kernel
abbrev cXG_kindOf : ByteArray := prog_2_method_3_code
def yXG_kindOf : MethodName := ⟨RXG, "kindOf", "(ILRevisionWrite$FileBytes;LRevisionWrite$Table;LRevisionWrite$Table;)I"⟩
theorem wXG_kindOf : Cond.code yXG_kindOf cXG_kindOf 7 (some .int) ∈ A9 := in9_5 0 rfl rfl
theorem dXG_kindOf_0 : decode cXG_kindOf 0 = .ok (.aload_n 3, 1) := by decide +kernel
theorem dXG_kindOf_1 : decode cXG_kindOf 1 = .ok (.getfield 26, 3) := by decide +kernel
theorem lXG_26 : Cond.fieldLink RXG 26 "RevisionWrite$Table" "places" "[I" ∈ A9 := in9_1 105 (by decide +kernel) rfl
theorem dXG_kindOf_4 : decode cXG_kindOf 4 = .ok (.iload_n 1, 1) := by decide +kernel
theorem dXG_kindOf_5 : decode cXG_kindOf 5 = .ok (.iaload, 1) := by decide +kernel
theorem dXG_kindOf_6 : decode cXG_kindOf 6 = .ok (.iconst (-1), 1) := by decide +kernel
theorem dXG_kindOf_7 : decode cXG_kindOf 7 = .ok (.if_icmp .eq 7, 3) := by decide +kernel
theorem dXG_kindOf_10 : decode cXG_kindOf 10 = .ok (.iconst 1, 1) := by decide +kernel
theorem dXG_kindOf_11 : decode cXG_kindOf 11 = .ok (.goto 4, 3) := by decide +kernel
theorem dXG_kindOf_14 : decode cXG_kindOf 14 = .ok (.iconst 0, 1) := by decide +kernel
theorem dXG_kindOf_15 : decode cXG_kindOf 15 = .ok (.istore 5, 2) := by decide +kernel
theorem dXG_kindOf_17 : decode cXG_kindOf 17 = .ok (.aload 4, 2) := by decide +kernel
theorem dXG_kindOf_19 : decode cXG_kindOf 19 = .ok (.getfield 26, 3) := by decide +kernel
theorem dXG_kindOf_22 : decode cXG_kindOf 22 = .ok (.iload_n 1, 1) := by decide +kernel
theorem dXG_kindOf_23 : decode cXG_kindOf 23 = .ok (.iaload, 1) := by decide +kernel
theorem dXG_kindOf_24 : decode cXG_kindOf 24 = .ok (.iconst (-1), 1) := by decide +kernel
theorem dXG_kindOf_25 : decode cXG_kindOf 25 = .ok (.if_icmp .eq 7, 3) := by decide +kernel
theorem dXG_kindOf_28 : decode cXG_kindOf 28 = .ok (.iconst 1, 1) := by decide +kernel
theorem dXG_kindOf_29 : decode cXG_kindOf 29 = .ok (.goto 4, 3) := by decide +kernel
theorem dXG_kindOf_32 : decode cXG_kindOf 32 = .ok (.iconst 0, 1) := by decide +kernel
theorem dXG_kindOf_33 : decode cXG_kindOf 33 = .ok (.istore 6, 2) := by decide +kernel
theorem dXG_kindOf_35 : decode cXG_kindOf 35 = .ok (.iload 5, 2) := by decide +kernel
theorem dXG_kindOf_37 : decode cXG_kindOf 37 = .ok (.ifCond .eq 26, 3) := by decide +kernel
theorem dXG_kindOf_40 : decode cXG_kindOf 40 = .ok (.iload 6, 2) := by decide +kernel
theorem dXG_kindOf_42 : decode cXG_kindOf 42 = .ok (.ifCond .eq 21, 3) := by decide +kernel
theorem dXG_kindOf_45 : decode cXG_kindOf 45 = .ok (.aload_n 0, 1) := by decide +kernel
theorem dXG_kindOf_46 : decode cXG_kindOf 46 = .ok (.iload_n 1, 1) := by decide +kernel
theorem dXG_kindOf_47 : decode cXG_kindOf 47 = .ok (.aload_n 2, 1) := by decide +kernel
theorem dXG_kindOf_48 : decode cXG_kindOf 48 = .ok (.aload_n 3, 1) := by decide +kernel
theorem dXG_kindOf_49 : decode cXG_kindOf 49 = .ok (.aload 4, 2) := by decide +kernel
theorem dXG_kindOf_51 : decode cXG_kindOf 51 = .ok (.invokevirtual 31, 3) := by decide +kernel
theorem dXG_kindOf_54 : decode cXG_kindOf 54 = .ok (.ifCond .eq 7, 3) := by decide +kernel
theorem dXG_kindOf_57 : decode cXG_kindOf 57 = .ok (.iconst 0, 1) := by decide +kernel
theorem dXG_kindOf_58 : decode cXG_kindOf 58 = .ok (.goto 4, 3) := by decide +kernel
theorem dXG_kindOf_61 : decode cXG_kindOf 61 = .ok (.iconst 3, 1) := by decide +kernel
theorem dXG_kindOf_62 : decode cXG_kindOf 62 = .ok (.ireturn, 1) := by decide +kernel
theorem dXG_kindOf_63 : decode cXG_kindOf 63 = .ok (.iload 5, 2) := by decide +kernel
theorem dXG_kindOf_65 : decode cXG_kindOf 65 = .ok (.ifCond .eq 5, 3) := by decide +kernel
theorem dXG_kindOf_68 : decode cXG_kindOf 68 = .ok (.iconst 2, 1) := by decide +kernel
theorem dXG_kindOf_69 : decode cXG_kindOf 69 = .ok (.ireturn, 1) := by decide +kernel
theorem dXG_kindOf_70 : decode cXG_kindOf 70 = .ok (.iload 6, 2) := by decide +kernel
theorem dXG_kindOf_72 : decode cXG_kindOf 72 = .ok (.ifCond .eq 7, 3) := by decide +kernel
theorem dXG_kindOf_75 : decode cXG_kindOf 75 = .ok (.iconst 1, 1) := by decide +kernel
theorem dXG_kindOf_76 : decode cXG_kindOf 76 = .ok (.goto 4, 3) := by decide +kernel
theorem dXG_kindOf_79 : decode cXG_kindOf 79 = .ok (.iconst 0, 1) := by decide +kernel
theorem dXG_kindOf_80 : decode cXG_kindOf 80 = .ok (.ireturn, 1) := by decide +kernel
abbrev cXG_alike : ByteArray := prog_2_method_4_code
def yXG_alike : MethodName := ⟨RXG, "alike", "(ILRevisionWrite$FileBytes;LRevisionWrite$Table;LRevisionWrite$Table;)Z"⟩
theorem wXG_alike : Cond.code yXG_alike cXG_alike 8 (some .boolean) ∈ A9 := in9_5 4 rfl rfl
theorem dXG_alike_0 : decode cXG_alike 0 = .ok (.aload_n 3, 1) := by decide +kernel
theorem dXG_alike_1 : decode cXG_alike 1 = .ok (.getfield 35, 3) := by decide +kernel
theorem lXG_35 : Cond.fieldLink RXG 35 "RevisionWrite$Table" "lengths" "[I" ∈ A9 := in9_1 111 (by decide +kernel) rfl
theorem dXG_alike_4 : decode cXG_alike 4 = .ok (.iload_n 1, 1) := by decide +kernel
theorem dXG_alike_5 : decode cXG_alike 5 = .ok (.iaload, 1) := by decide +kernel
theorem dXG_alike_6 : decode cXG_alike 6 = .ok (.aload 4, 2) := by decide +kernel
theorem dXG_alike_8 : decode cXG_alike 8 = .ok (.getfield 35, 3) := by decide +kernel
theorem dXG_alike_11 : decode cXG_alike 11 = .ok (.iload_n 1, 1) := by decide +kernel
theorem dXG_alike_12 : decode cXG_alike 12 = .ok (.iaload, 1) := by decide +kernel
theorem dXG_alike_13 : decode cXG_alike 13 = .ok (.if_icmp .eq 5, 3) := by decide +kernel
theorem dXG_alike_16 : decode cXG_alike 16 = .ok (.iconst 0, 1) := by decide +kernel
theorem dXG_alike_17 : decode cXG_alike 17 = .ok (.ireturn, 1) := by decide +kernel
theorem dXG_alike_18 : decode cXG_alike 18 = .ok (.aload_n 3, 1) := by decide +kernel
theorem dXG_alike_19 : decode cXG_alike 19 = .ok (.iload_n 1, 1) := by decide +kernel
theorem dXG_alike_20 : decode cXG_alike 20 = .ok (.invokevirtual 38, 3) := by decide +kernel
theorem dXG_alike_23 : decode cXG_alike 23 = .ok (.istore 5, 2) := by decide +kernel
theorem dXG_alike_25 : decode cXG_alike 25 = .ok (.aload 4, 2) := by decide +kernel
theorem dXG_alike_27 : decode cXG_alike 27 = .ok (.iload_n 1, 1) := by decide +kernel
theorem dXG_alike_28 : decode cXG_alike 28 = .ok (.invokevirtual 38, 3) := by decide +kernel
theorem dXG_alike_31 : decode cXG_alike 31 = .ok (.istore 6, 2) := by decide +kernel
theorem dXG_alike_33 : decode cXG_alike 33 = .ok (.iconst 0, 1) := by decide +kernel
theorem dXG_alike_34 : decode cXG_alike 34 = .ok (.istore 7, 2) := by decide +kernel
theorem dXG_alike_36 : decode cXG_alike 36 = .ok (.iload 7, 2) := by decide +kernel
theorem dXG_alike_38 : decode cXG_alike 38 = .ok (.aload_n 3, 1) := by decide +kernel
theorem dXG_alike_39 : decode cXG_alike 39 = .ok (.getfield 35, 3) := by decide +kernel
theorem dXG_alike_42 : decode cXG_alike 42 = .ok (.iload_n 1, 1) := by decide +kernel
theorem dXG_alike_43 : decode cXG_alike 43 = .ok (.iaload, 1) := by decide +kernel
theorem dXG_alike_44 : decode cXG_alike 44 = .ok (.if_icmp .ge 32, 3) := by decide +kernel
theorem dXG_alike_47 : decode cXG_alike 47 = .ok (.aload_n 2, 1) := by decide +kernel
theorem dXG_alike_48 : decode cXG_alike 48 = .ok (.iload 5, 2) := by decide +kernel
theorem dXG_alike_50 : decode cXG_alike 50 = .ok (.iload 7, 2) := by decide +kernel
theorem dXG_alike_52 : decode cXG_alike 52 = .ok (.iadd, 1) := by decide +kernel
theorem dXG_alike_53 : decode cXG_alike 53 = .ok (.invokevirtual 42, 3) := by decide +kernel
theorem dXG_alike_56 : decode cXG_alike 56 = .ok (.aload_n 2, 1) := by decide +kernel
theorem dXG_alike_57 : decode cXG_alike 57 = .ok (.iload 6, 2) := by decide +kernel
theorem dXG_alike_59 : decode cXG_alike 59 = .ok (.iload 7, 2) := by decide +kernel
theorem dXG_alike_61 : decode cXG_alike 61 = .ok (.iadd, 1) := by decide +kernel
theorem dXG_alike_62 : decode cXG_alike 62 = .ok (.invokevirtual 42, 3) := by decide +kernel
theorem dXG_alike_65 : decode cXG_alike 65 = .ok (.if_icmp .eq 5, 3) := by decide +kernel
theorem dXG_alike_68 : decode cXG_alike 68 = .ok (.iconst 0, 1) := by decide +kernel
theorem dXG_alike_69 : decode cXG_alike 69 = .ok (.ireturn, 1) := by decide +kernel
theorem dXG_alike_70 : decode cXG_alike 70 = .ok (.iinc 7 1, 3) := by decide +kernel
theorem dXG_alike_73 : decode cXG_alike 73 = .ok (.goto (-37), 3) := by decide +kernel
theorem dXG_alike_76 : decode cXG_alike 76 = .ok (.iconst 1, 1) := by decide +kernel
theorem dXG_alike_77 : decode cXG_alike 77 = .ok (.ireturn, 1) := by decide +kernel
