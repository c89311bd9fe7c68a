theorem lXF_15 : Cond.fieldLink RXF 15 "RevisionWrite$FileBytes" "count" "I" ∈ A9 := in9_1 80 (by decide +kernel) rfl
theorem dXF_has_9 : decode cXF_has 9 = .ok (.if_icmp .ge 7, 3) := by decide +kernel
theorem dXF_has_12 : decode cXF_has 12 = .ok (.iconst 1, 1) := by decide +kernel
theorem dXF_has_13 : decode cXF_has 13 = .ok (.goto 4, 3) := by decide +kernel
theorem dXF_has_16 : decode cXF_has 16 = .ok (.iconst 0, 1) := by decide +kernel
theorem dXF_has_17 : decode cXF_has 17 = .ok (.ireturn, 1) := by decide +kernel
abbrev cXF_valueAt : ByteArray := prog_4_method_3_code
def yXF_valueAt : MethodName := ⟨RXF, "valueAt", "(I)I"⟩
theorem wXF_valueAt : Cond.code yXF_valueAt cXF_valueAt 2 (some .int) ∈ A9 := in9_2 20 rfl rfl
theorem dXF_valueAt_0 : decode cXF_valueAt 0 = .ok (.iload_n 1, 1) := by decide +kernel
theorem dXF_valueAt_1 : decode cXF_valueAt 1 = .ok (.ifCond .lt 20, 3) := by decide +kernel
theorem dXF_valueAt_4 : decode cXF_valueAt 4 = .ok (.iload_n 1, 1) := by decide +kernel
theorem dXF_valueAt_5 : decode cXF_valueAt 5 = .ok (.aload_n 0, 1) := by decide +kernel
theorem dXF_valueAt_6 : decode cXF_valueAt 6 = .ok (.getfield 15, 3) := by decide +kernel
theorem dXF_valueAt_9 : decode cXF_valueAt 9 = .ok (.if_icmp .ge 12, 3) := by decide +kernel
theorem dXF_valueAt_12 : decode cXF_valueAt 12 = .ok (.aload_n 0, 1) := by decide +kernel
theorem dXF_valueAt_13 : decode cXF_valueAt 13 = .ok (.getfield 9, 3) := by decide +kernel
theorem dXF_valueAt_16 : decode cXF_valueAt 16 = .ok (.iload_n 1, 1) := by decide +kernel
theorem dXF_valueAt_17 : decode cXF_valueAt 17 = .ok (.baload, 1) := by decide +kernel
theorem dXF_valueAt_18 : decode cXF_valueAt 18 = .ok (.goto 6, 3) := by decide +kernel
theorem dXF_valueAt_21 : decode cXF_valueAt 21 = .ok (.sipush 256, 3) := by decide +kernel
theorem dXF_valueAt_24 : decode cXF_valueAt 24 = .ok (.ireturn, 1) := by decide +kernel
abbrev cXF_putBehind : ByteArray := prog_4_method_4_code
def yXF_putBehind : MethodName := ⟨RXF, "putBehind", "(I[BI)V"⟩
theorem wXF_putBehind : Cond.code yXF_putBehind cXF_putBehind 4 none ∈ A9 := in9_4 127 rfl rfl
theorem dXF_putBehind_0 : decode cXF_putBehind 0 = .ok (.iload_n 1, 1) := by decide +kernel
theorem dXF_putBehind_1 : decode cXF_putBehind 1 = .ok (.ifCond .lt 40, 3) := by decide +kernel
theorem dXF_putBehind_4 : decode cXF_putBehind 4 = .ok (.iload_n 3, 1) := by decide +kernel
theorem dXF_putBehind_5 : decode cXF_putBehind 5 = .ok (.ifCond .lt 36, 3) := by decide +kernel
theorem dXF_putBehind_8 : decode cXF_putBehind 8 = .ok (.iload_n 3, 1) := by decide +kernel
theorem dXF_putBehind_9 : decode cXF_putBehind 9 = .ok (.aload_n 2, 1) := by decide +kernel
theorem dXF_putBehind_10 : decode cXF_putBehind 10 = .ok (.arraylength, 1) := by decide +kernel
theorem dXF_putBehind_11 : decode cXF_putBehind 11 = .ok (.if_icmp .gt 30, 3) := by decide +kernel
theorem dXF_putBehind_14 : decode cXF_putBehind 14 = .ok (.iload_n 1, 1) := by decide +kernel
theorem dXF_putBehind_15 : decode cXF_putBehind 15 = .ok (.iload_n 3, 1) := by decide +kernel
theorem dXF_putBehind_16 : decode cXF_putBehind 16 = .ok (.iadd, 1) := by decide +kernel
theorem dXF_putBehind_17 : decode cXF_putBehind 17 = .ok (.sipush 12000, 3) := by decide +kernel
theorem dXF_putBehind_20 : decode cXF_putBehind 20 = .ok (.if_icmp .gt 21, 3) := by decide +kernel
theorem dXF_putBehind_23 : decode cXF_putBehind 23 = .ok (.aload_n 2, 1) := by decide +kernel
theorem dXF_putBehind_24 : decode cXF_putBehind 24 = .ok (.iconst 0, 1) := by decide +kernel
theorem dXF_putBehind_25 : decode cXF_putBehind 25 = .ok (.aload_n 0, 1) := by decide +kernel
theorem dXF_putBehind_26 : decode cXF_putBehind 26 = .ok (.getfield 9, 3) := by decide +kernel
theorem dXF_putBehind_29 : decode cXF_putBehind 29 = .ok (.iload_n 1, 1) := by decide +kernel
theorem dXF_putBehind_30 : decode cXF_putBehind 30 = .ok (.iload_n 3, 1) := by decide +kernel
theorem dXF_putBehind_31 : decode cXF_putBehind 31 = .ok (.invokestatic 19, 3) := by decide +kernel
theorem dXF_putBehind_34 : decode cXF_putBehind 34 = .ok (.aload_n 0, 1) := by decide +kernel
theorem dXF_putBehind_35 : decode cXF_putBehind 35 = .ok (.iload_n 1, 1) := by decide +kernel
theorem dXF_putBehind_36 : decode cXF_putBehind 36 = .ok (.iload_n 3, 1) := by decide +kernel
theorem dXF_putBehind_37 : decode cXF_putBehind 37 = .ok (.iadd, 1) := by decide +kernel
theorem dXF_putBehind_38 : decode cXF_putBehind 38 = .ok (.putfield 15, 3) := by decide +kernel
theorem dXF_putBehind_41 : decode cXF_putBehind 41 = .ok (.return_, 1) := by decide +kernel
def RXT : String := "RevisionWrite$Table"
abbrev cXT_init : ByteArray := prog_8_method_1_code
def yXT_init : MethodName := ⟨RXT, "<init>", "()V"⟩
theorem wXT_init : Cond.code yXT_init cXT_init 1 none ∈ A9 := in9_1 102 rfl rfl
theorem dXT_init_0 : decode cXT_init 0 = .ok (.aload_n 0, 1) := by decide +kernel
theorem dXT_init_1 : decode cXT_init 1 = .ok (.invokespecial 3, 3) := by decide +kernel
theorem dXT_init_4 : decode cXT_init 4 = .ok (.aload_n 0, 1) := by decide +kernel
theorem dXT_init_5 : decode cXT_init 5 = .ok (.bipush 41, 2) := by decide +kernel
theorem dXT_init_7 : decode cXT_init 7 = .ok (.newarray .int, 2) := by decide +kernel
theorem dXT_init_9 : decode cXT_init 9 = .ok (.putfield 9, 3) := by decide +kernel
theorem lXT_9 : Cond.fieldLink RXT 9 "RevisionWrite$Table" "places" "[I" ∈ A9 := in9_1 104 (by decide +kernel) rfl
theorem dXT_init_12 : decode cXT_init 12 = .ok (.aload_n 0, 1) := by decide +kernel
theorem dXT_init_13 : decode cXT_init 13 = .ok (.bipush 41, 2) := by decide +kernel
theorem dXT_init_15 : decode cXT_init 15 = .ok (.newarray .int, 2) := by decide +kernel
theorem dXT_init_17 : decode cXT_init 17 = .ok (.putfield 15, 3) := by decide +kernel
theorem lXT_15 : Cond.fieldLink RXT 15 "RevisionWrite$Table" "lengths" "[I" ∈ A9 := in9_1 110 (by decide +kernel) rfl
theorem dXT_init_20 : decode cXT_init 20 = .ok (.return_, 1) := by decide +kernel
abbrev cXT_reset : ByteArray := prog_8_method_2_code
def yXT_reset : MethodName := ⟨RXT, "reset", "(I)V"⟩
theorem wXT_reset : Cond.code yXT_reset cXT_reset 2 none ∈ A9 := in9_2 47 rfl rfl
theorem dXT_reset_0 : decode cXT_reset 0 = .ok (.aload_n 0, 1) := by decide +kernel
theorem dXT_reset_1 : decode cXT_reset 1 = .ok (.getfield 9, 3) := by decide +kernel
theorem dXT_reset_4 : decode cXT_reset 4 = .ok (.iload_n 1, 1) := by decide +kernel
theorem dXT_reset_5 : decode cXT_reset 5 = .ok (.invokestatic 18, 3) := by decide +kernel
theorem dXT_reset_8 : decode cXT_reset 8 = .ok (.aload_n 0, 1) := by decide +kernel
theorem dXT_reset_9 : decode cXT_reset 9 = .ok (.getfield 15, 3) := by decide +kernel
theorem dXT_reset_12 : decode cXT_reset 12 = .ok (.iconst 0, 1) := by decide +kernel
theorem dXT_reset_13 : decode cXT_reset 13 = .ok (.invokestatic 18, 3) := by decide +kernel
theorem dXT_reset_16 : decode cXT_reset 16 = .ok (.return_, 1) := by decide +kernel
abbrev cXT_copyRows : ByteArray := prog_8_method_3_code
def yXT_copyRows : MethodName := ⟨RXT, "copyRows", "(LRevisionWrite$Table;)V"⟩
theorem wXT_copyRows : Cond.code yXT_copyRows cXT_copyRows 2 none ∈ A9 := in9_2 75 rfl rfl
theorem dXT_copyRows_0 : decode cXT_copyRows 0 = .ok (.aload_n 1, 1) := by decide +kernel
theorem dXT_copyRows_1 : decode cXT_copyRows 1 = .ok (.getfield 9, 3) := by decide +kernel
theorem dXT_copyRows_4 : decode cXT_copyRows 4 = .ok (.iconst 0, 1) := by decide +kernel
theorem dXT_copyRows_5 : decode cXT_copyRows 5 = .ok (.aload_n 0, 1) := by decide +kernel
theorem dXT_copyRows_6 : decode cXT_copyRows 6 = .ok (.getfield 9, 3) := by decide +kernel
theorem dXT_copyRows_9 : decode cXT_copyRows 9 = .ok (.iconst 0, 1) := by decide +kernel
theorem dXT_copyRows_10 : decode cXT_copyRows 10 = .ok (.bipush 41, 2) := by decide +kernel
theorem dXT_copyRows_12 : decode cXT_copyRows 12 = .ok (.invokestatic 24, 3) := by decide +kernel
theorem dXT_copyRows_15 : decode cXT_copyRows 15 = .ok (.aload_n 1, 1) := by decide +kernel
theorem dXT_copyRows_16 : decode cXT_copyRows 16 = .ok (.getfield 15, 3) := by decide +kernel
theorem dXT_copyRows_19 : decode cXT_copyRows 19 = .ok (.iconst 0, 1) := by decide +kernel
theorem dXT_copyRows_20 : decode cXT_copyRows 20 = .ok (.aload_n 0, 1) := by decide +kernel
theorem dXT_copyRows_21 : decode cXT_copyRows 21 = .ok (.getfield 15, 3) := by decide +kernel
theorem dXT_copyRows_24 : decode cXT_copyRows 24 = .ok (.iconst 0, 1) := by decide +kernel
theorem dXT_copyRows_25 : decode cXT_copyRows 25 = .ok (.bipush 41, 2) := by decide +kernel
theorem dXT_copyRows_27 : decode cXT_copyRows 27 = .ok (.invokestatic 24, 3) := by decide +kernel
theorem dXT_copyRows_30 : decode cXT_copyRows 30 = .ok (.return_, 1) := by decide +kernel
abbrev cXT_lay : ByteArray := prog_8_method_4_code
def yXT_lay : MethodName := ⟨RXT, "lay", "(LRevisionWrite$Table;)V"⟩
theorem wXT_lay : Cond.code yXT_lay cXT_lay 3 none ∈ A9 := in9_2 82 rfl rfl
theorem dXT_lay_0 : decode cXT_lay 0 = .ok (.iconst 1, 1) := by decide +kernel
theorem dXT_lay_1 : decode cXT_lay 1 = .ok (.istore_n 2, 1) := by decide +kernel
theorem dXT_lay_2 : decode cXT_lay 2 = .ok (.iload_n 2, 1) := by decide +kernel
theorem dXT_lay_3 : decode cXT_lay 3 = .ok (.bipush 40, 2) := by decide +kernel
theorem dXT_lay_5 : decode cXT_lay 5 = .ok (.if_icmp .gt 44, 3) := by decide +kernel
theorem dXT_lay_8 : decode cXT_lay 8 = .ok (.aload_n 1, 1) := by decide +kernel
theorem dXT_lay_9 : decode cXT_lay 9 = .ok (.getfield 9, 3) := by decide +kernel
theorem dXT_lay_12 : decode cXT_lay 12 = .ok (.iload_n 2, 1) := by decide +kernel
theorem dXT_lay_13 : decode cXT_lay 13 = .ok (.iaload, 1) := by decide +kernel
theorem dXT_lay_14 : decode cXT_lay 14 = .ok (.bipush (-2), 2) := by decide +kernel
theorem dXT_lay_16 : decode cXT_lay 16 = .ok (.if_icmp .eq 27, 3) := by decide +kernel
theorem dXT_lay_19 : decode cXT_lay 19 = .ok (.aload_n 0, 1) := by decide +kernel
theorem dXT_lay_20 : decode cXT_lay 20 = .ok (.getfield 9, 3) := by decide +kernel
theorem dXT_lay_23 : decode cXT_lay 23 = .ok (.iload_n 2, 1) := by decide +kernel
theorem dXT_lay_24 : decode cXT_lay 24 = .ok (.aload_n 1, 1) := by decide +kernel
theorem dXT_lay_25 : decode cXT_lay 25 = .ok (.getfield 9, 3) := by decide +kernel
theorem dXT_lay_28 : decode cXT_lay 28 = .ok (.iload_n 2, 1) := by decide +kernel
theorem dXT_lay_29 : decode cXT_lay 29 = .ok (.iaload, 1) := by decide +kernel
theorem dXT_lay_30 : decode cXT_lay 30 = .ok (.iastore, 1) := by decide +kernel
theorem dXT_lay_31 : decode cXT_lay 31 = .ok (.aload_n 0, 1) := by decide +kernel
theorem dXT_lay_32 : decode cXT_lay 32 = .ok (.getfield 15, 3) := by decide +kernel
theorem dXT_lay_35 : decode cXT_lay 35 = .ok (.iload_n 2, 1) := by decide +kernel
theorem dXT_lay_36 : decode cXT_lay 36 = .ok (.aload_n 1, 1) := by decide +kernel
theorem dXT_lay_37 : decode cXT_lay 37 = .ok (.getfield 15, 3) := by decide +kernel
theorem dXT_lay_40 : decode cXT_lay 40 = .ok (.iload_n 2, 1) := by decide +kernel
theorem dXT_lay_41 : decode cXT_lay 41 = .ok (.iaload, 1) := by decide +kernel
theorem dXT_lay_42 : decode cXT_lay 42 = .ok (.iastore, 1) := by decide +kernel
theorem dXT_lay_43 : decode cXT_lay 43 = .ok (.iinc 2 1, 3) := by decide +kernel
theorem dXT_lay_46 : decode cXT_lay 46 = .ok (.goto (-44), 3) := by decide +kernel
theorem dXT_lay_49 : decode cXT_lay 49 = .ok (.aload_n 0, 1) := by decide +kernel
theorem dXT_lay_50 : decode cXT_lay 50 = .ok (.aload_n 1, 1) := by decide +kernel
theorem dXT_lay_51 : decode cXT_lay 51 = .ok (.getfield 30, 3) := by decide +kernel
theorem lXT_30 : Cond.fieldLink RXT 30 "RevisionWrite$Table" "x" "I" ∈ A9 := in9_1 116 (by decide +kernel) rfl
theorem dXT_lay_54 : decode cXT_lay 54 = .ok (.putfield 30, 3) := by decide +kernel
theorem dXT_lay_57 : decode cXT_lay 57 = .ok (.aload_n 0, 1) := by decide +kernel
theorem dXT_lay_58 : decode cXT_lay 58 = .ok (.aload_n 1, 1) := by decide +kernel
theorem dXT_lay_59 : decode cXT_lay 59 = .ok (.getfield 34, 3) := by decide +kernel
theorem lXT_34 : Cond.fieldLink RXT 34 "RevisionWrite$Table" "end" "I" ∈ A9 := in9_1 119 (by decide +kernel) rfl
theorem dXT_lay_62 : decode cXT_lay 62 = .ok (.putfield 34, 3) := by decide +kernel
theorem dXT_lay_65 : decode cXT_lay 65 = .ok (.return_, 1) := by decide +kernel
abbrev cXT_countRows : ByteArray := prog_8_method_5_code
def yXT_countRows : MethodName := ⟨RXT, "countRows", "()I"⟩
theorem wXT_countRows : Cond.code yXT_countRows cXT_countRows 3 (some .int) ∈ A9 := in9_4 95 rfl rfl
theorem dXT_countRows_0 : decode cXT_countRows 0 = .ok (.iconst 0, 1) := by decide +kernel
theorem dXT_countRows_1 : decode cXT_countRows 1 = .ok (.istore_n 1, 1) := by decide +kernel
theorem dXT_countRows_2 : decode cXT_countRows 2 = .ok (.iconst 1, 1) := by decide +kernel
theorem dXT_countRows_3 : decode cXT_countRows 3 = .ok (.istore_n 2, 1) := by decide +kernel
theorem dXT_countRows_4 : decode cXT_countRows 4 = .ok (.iload_n 2, 1) := by decide +kernel
theorem dXT_countRows_5 : decode cXT_countRows 5 = .ok (.bipush 40, 2) := by decide +kernel
theorem dXT_countRows_7 : decode cXT_countRows 7 = .ok (.if_icmp .gt 23, 3) := by decide +kernel
theorem dXT_countRows_10 : decode cXT_countRows 10 = .ok (.aload_n 0, 1) := by decide +kernel
theorem dXT_countRows_11 : decode cXT_countRows 11 = .ok (.getfield 9, 3) := by decide +kernel
theorem dXT_countRows_14 : decode cXT_countRows 14 = .ok (.iload_n 2, 1) := by decide +kernel
theorem dXT_countRows_15 : decode cXT_countRows 15 = .ok (.iaload, 1) := by decide +kernel
theorem dXT_countRows_16 : decode cXT_countRows 16 = .ok (.bipush (-2), 2) := by decide +kernel
theorem dXT_countRows_18 : decode cXT_countRows 18 = .ok (.if_icmp .eq 6, 3) := by decide +kernel
theorem dXT_countRows_21 : decode cXT_countRows 21 = .ok (.iinc 1 1, 3) := by decide +kernel
theorem dXT_countRows_24 : decode cXT_countRows 24 = .ok (.iinc 2 1, 3) := by decide +kernel
theorem dXT_countRows_27 : decode cXT_countRows 27 = .ok (.goto (-23), 3) := by decide +kernel
theorem dXT_countRows_30 : decode cXT_countRows 30 = .ok (.iload_n 1, 1) := by decide +kernel
theorem dXT_countRows_31 : decode cXT_countRows 31 = .ok (.ireturn, 1) := by decide +kernel
abbrev cXT_bytesPlace : ByteArray := prog_8_method_6_code
def yXT_bytesPlace : MethodName := ⟨RXT, "bytesPlace", "(I)I"⟩
theorem wXT_bytesPlace : Cond.code yXT_bytesPlace cXT_bytesPlace 2 (some .int) ∈ A9 := in9_2 94 rfl rfl
theorem dXT_bytesPlace_0 : decode cXT_bytesPlace 0 = .ok (.aload_n 0, 1) := by decide +kernel
theorem dXT_bytesPlace_1 : decode cXT_bytesPlace 1 = .ok (.getfield 9, 3) := by decide +kernel
theorem dXT_bytesPlace_4 : decode cXT_bytesPlace 4 = .ok (.iload_n 1, 1) := by decide +kernel
theorem dXT_bytesPlace_5 : decode cXT_bytesPlace 5 = .ok (.iaload, 1) := by decide +kernel
theorem dXT_bytesPlace_6 : decode cXT_bytesPlace 6 = .ok (.iconst 4, 1) := by decide +kernel
theorem dXT_bytesPlace_7 : decode cXT_bytesPlace 7 = .ok (.iadd, 1) := by decide +kernel
theorem dXT_bytesPlace_8 : decode cXT_bytesPlace 8 = .ok (.iload_n 1, 1) := by decide +kernel
theorem dXT_bytesPlace_9 : decode cXT_bytesPlace 9 = .ok (.invokestatic 37, 3) := by decide +kernel
theorem dXT_bytesPlace_12 : decode cXT_bytesPlace 12 = .ok (.iadd, 1) := by decide +kernel
theorem dXT_bytesPlace_13 : decode cXT_bytesPlace 13 = .ok (.aload_n 0, 1) := by decide +kernel
theorem dXT_bytesPlace_14 : decode cXT_bytesPlace 14 = .ok (.getfield 15, 3) := by decide +kernel
theorem dXT_bytesPlace_17 : decode cXT_bytesPlace 17 = .ok (.iload_n 1, 1) := by decide +kernel
theorem dXT_bytesPlace_18 : decode cXT_bytesPlace 18 = .ok (.iaload, 1) := by decide +kernel
theorem dXT_bytesPlace_19 : decode cXT_bytesPlace 19 = .ok (.invokestatic 37, 3) := by decide +kernel
theorem dXT_bytesPlace_22 : decode cXT_bytesPlace 22 = .ok (.iadd, 1) := by decide +kernel
theorem dXT_bytesPlace_23 : decode cXT_bytesPlace 23 = .ok (.ireturn, 1) := by decide +kernel
abbrev cXT_digits : ByteArray := prog_8_method_7_code
def yXT_digits : MethodName := ⟨RXT, "digits", "(I)I"⟩
theorem wXT_digits : Cond.code yXT_digits cXT_digits 1 (some .int) ∈ A9 := in9_2 97 rfl rfl
theorem dXT_digits_0 : decode cXT_digits 0 = .ok (.iload_n 0, 1) := by decide +kernel
theorem dXT_digits_1 : decode cXT_digits 1 = .ok (.bipush 10, 2) := by decide +kernel
theorem dXT_digits_3 : decode cXT_digits 3 = .ok (.if_icmp .ge 7, 3) := by decide +kernel
theorem dXT_digits_6 : decode cXT_digits 6 = .ok (.iconst 1, 1) := by decide +kernel
theorem dXT_digits_7 : decode cXT_digits 7 = .ok (.goto 14, 3) := by decide +kernel
theorem dXT_digits_10 : decode cXT_digits 10 = .ok (.iload_n 0, 1) := by decide +kernel
theorem dXT_digits_11 : decode cXT_digits 11 = .ok (.bipush 100, 2) := by decide +kernel
theorem dXT_digits_13 : decode cXT_digits 13 = .ok (.if_icmp .ge 7, 3) := by decide +kernel
theorem dXT_digits_16 : decode cXT_digits 16 = .ok (.iconst 2, 1) := by decide +kernel
theorem dXT_digits_17 : decode cXT_digits 17 = .ok (.goto 4, 3) := by decide +kernel
theorem dXT_digits_20 : decode cXT_digits 20 = .ok (.iconst 3, 1) := by decide +kernel
theorem dXT_digits_21 : decode cXT_digits 21 = .ok (.ireturn, 1) := by decide +kernel
def RXH : String := "RevisionWrite$History"
abbrev cXH_init : ByteArray := prog_5_method_1_code
def yXH_init : MethodName := ⟨RXH, "<init>", "()V"⟩
theorem wXH_init : Cond.code yXH_init cXH_init 2 none ∈ A9 := in9_1 95 rfl rfl
theorem dXH_init_0 : decode cXH_init 0 = .ok (.aload_n 0, 1) := by decide +kernel
theorem dXH_init_1 : decode cXH_init 1 = .ok (.invokespecial 3, 3) := by decide +kernel
theorem dXH_init_4 : decode cXH_init 4 = .ok (.aload_n 0, 1) := by decide +kernel
theorem dXH_init_5 : decode cXH_init 5 = .ok (.bipush 60, 2) := by decide +kernel
theorem dXH_init_7 : decode cXH_init 7 = .ok (.anewarray 9, 3) := by decide +kernel
theorem dXH_init_10 : decode cXH_init 10 = .ok (.putfield 11, 3) := by decide +kernel
theorem lXH_11 : Cond.fieldLink RXH 11 "RevisionWrite$History" "revisions" "[LRevisionWrite$Table;" ∈ A9 := in9_1 132 (by decide +kernel) rfl
theorem dXH_init_13 : decode cXH_init 13 = .ok (.iconst 0, 1) := by decide +kernel
theorem dXH_init_14 : decode cXH_init 14 = .ok (.istore_n 1, 1) := by decide +kernel
theorem dXH_init_15 : decode cXH_init 15 = .ok (.iload_n 1, 1) := by decide +kernel
theorem dXH_init_16 : decode cXH_init 16 = .ok (.bipush 60, 2) := by decide +kernel
theorem dXH_init_18 : decode cXH_init 18 = .ok (.if_icmp .ge 22, 3) := by decide +kernel
theorem dXH_init_21 : decode cXH_init 21 = .ok (.aload_n 0, 1) := by decide +kernel
theorem dXH_init_22 : decode cXH_init 22 = .ok (.getfield 11, 3) := by decide +kernel
theorem dXH_init_25 : decode cXH_init 25 = .ok (.iload_n 1, 1) := by decide +kernel
theorem dXH_init_26 : decode cXH_init 26 = .ok (.new 9, 3) := by decide +kernel
theorem dXH_init_29 : decode cXH_init 29 = .ok (.dup, 1) := by decide +kernel
theorem dXH_init_30 : decode cXH_init 30 = .ok (.invokespecial 17, 3) := by decide +kernel
theorem dXH_init_33 : decode cXH_init 33 = .ok (.aastore, 1) := by decide +kernel
theorem dXH_init_34 : decode cXH_init 34 = .ok (.iinc 1 1, 3) := by decide +kernel
theorem dXH_init_37 : decode cXH_init 37 = .ok (.goto (-22), 3) := by decide +kernel
theorem dXH_init_40 : decode cXH_init 40 = .ok (.return_, 1) := by decide +kernel
abbrev cXH_has : ByteArray := prog_5_method_2_code
def yXH_has : MethodName := ⟨RXH, "has", "(I)Z"⟩
theorem wXH_has : Cond.code yXH_has cXH_has 2 (some .boolean) ∈ A9 := in9_4 186 rfl rfl
theorem dXH_has_0 : decode cXH_has 0 = .ok (.iload_n 1, 1) := by decide +kernel
theorem dXH_has_1 : decode cXH_has 1 = .ok (.ifCond .lt 15, 3) := by decide +kernel
theorem dXH_has_4 : decode cXH_has 4 = .ok (.iload_n 1, 1) := by decide +kernel
theorem dXH_has_5 : decode cXH_has 5 = .ok (.aload_n 0, 1) := by decide +kernel
theorem dXH_has_6 : decode cXH_has 6 = .ok (.getfield 18, 3) := by decide +kernel
theorem lXH_18 : Cond.fieldLink RXH 18 "RevisionWrite$History" "count" "I" ∈ A9 := in9_1 134 (by decide +kernel) rfl
theorem dXH_has_9 : decode cXH_has 9 = .ok (.if_icmp .ge 7, 3) := by decide +kernel
theorem dXH_has_12 : decode cXH_has 12 = .ok (.iconst 1, 1) := by decide +kernel
theorem dXH_has_13 : decode cXH_has 13 = .ok (.goto 4, 3) := by decide +kernel
theorem dXH_has_16 : decode cXH_has 16 = .ok (.iconst 0, 1) := by decide +kernel
theorem dXH_has_17 : decode cXH_has 17 = .ok (.ireturn, 1) := by decide +kernel
abbrev cXH_add : ByteArray := prog_5_method_3_code
def yXH_add : MethodName := ⟨RXH, "add", "(LRevisionWrite$Table;)V"⟩
theorem wXH_add : Cond.code yXH_add cXH_add 3 none ∈ A9 := in9_2 70 rfl rfl
theorem dXH_add_0 : decode cXH_add 0 = .ok (.aload_n 0, 1) := by decide +kernel
theorem dXH_add_1 : decode cXH_add 1 = .ok (.getfield 18, 3) := by decide +kernel
theorem dXH_add_4 : decode cXH_add 4 = .ok (.bipush 60, 2) := by decide +kernel
theorem dXH_add_6 : decode cXH_add 6 = .ok (.if_icmp .lt 4, 3) := by decide +kernel
theorem dXH_add_10 : decode cXH_add 10 = .ok (.aload_n 0, 1) := by decide +kernel
theorem dXH_add_11 : decode cXH_add 11 = .ok (.getfield 11, 3) := by decide +kernel
theorem dXH_add_14 : decode cXH_add 14 = .ok (.aload_n 0, 1) := by decide +kernel
theorem dXH_add_15 : decode cXH_add 15 = .ok (.getfield 18, 3) := by decide +kernel
theorem dXH_add_18 : decode cXH_add 18 = .ok (.aaload, 1) := by decide +kernel
theorem dXH_add_19 : decode cXH_add 19 = .ok (.astore_n 2, 1) := by decide +kernel
theorem dXH_add_20 : decode cXH_add 20 = .ok (.aload_n 0, 1) := by decide +kernel
theorem dXH_add_21 : decode cXH_add 21 = .ok (.getfield 18, 3) := by decide +kernel
theorem dXH_add_24 : decode cXH_add 24 = .ok (.ifCond .ne 11, 3) := by decide +kernel
theorem dXH_add_27 : decode cXH_add 27 = .ok (.aload_n 2, 1) := by decide +kernel
theorem dXH_add_28 : decode cXH_add 28 = .ok (.iconst (-1), 1) := by decide +kernel
theorem dXH_add_29 : decode cXH_add 29 = .ok (.invokevirtual 22, 3) := by decide +kernel
theorem dXH_add_32 : decode cXH_add 32 = .ok (.goto 18, 3) := by decide +kernel
theorem dXH_add_35 : decode cXH_add 35 = .ok (.aload_n 2, 1) := by decide +kernel
theorem dXH_add_36 : decode cXH_add 36 = .ok (.aload_n 0, 1) := by decide +kernel
theorem dXH_add_37 : decode cXH_add 37 = .ok (.getfield 11, 3) := by decide +kernel
theorem dXH_add_40 : decode cXH_add 40 = .ok (.aload_n 0, 1) := by decide +kernel
theorem dXH_add_41 : decode cXH_add 41 = .ok (.getfield 18, 3) := by decide +kernel
theorem dXH_add_44 : decode cXH_add 44 = .ok (.iconst 1, 1) := by decide +kernel
theorem dXH_add_45 : decode cXH_add 45 = .ok (.isub, 1) := by decide +kernel
theorem dXH_add_46 : decode cXH_add 46 = .ok (.aaload, 1) := by decide +kernel
theorem dXH_add_47 : decode cXH_add 47 = .ok (.invokevirtual 26, 3) := by decide +kernel
theorem dXH_add_50 : decode cXH_add 50 = .ok (.aload_n 2, 1) := by decide +kernel
theorem dXH_add_51 : decode cXH_add 51 = .ok (.aload_n 1, 1) := by decide +kernel
theorem dXH_add_52 : decode cXH_add 52 = .ok (.invokevirtual 30, 3) := by decide +kernel
theorem dXH_add_55 : decode cXH_add 55 = .ok (.aload_n 0, 1) := by decide +kernel
theorem dXH_add_56 : decode cXH_add 56 = .ok (.dup, 1) := by decide +kernel
theorem dXH_add_57 : decode cXH_add 57 = .ok (.getfield 18, 3) := by decide +kernel
theorem dXH_add_60 : decode cXH_add 60 = .ok (.iconst 1, 1) := by decide +kernel
theorem dXH_add_61 : decode cXH_add 61 = .ok (.iadd, 1) := by decide +kernel
theorem dXH_add_62 : decode cXH_add 62 = .ok (.putfield 18, 3) := by decide +kernel
theorem dXH_add_65 : decode cXH_add 65 = .ok (.return_, 1) := by decide +kernel
abbrev cXH_latestX : ByteArray := prog_5_method_4_code
def yXH_latestX : MethodName := ⟨RXH, "latestX", "()I"⟩
theorem wXH_latestX : Cond.code yXH_latestX cXH_latestX 1 (some .int) ∈ A9 := in9_4 163 rfl rfl
theorem dXH_latestX_0 : decode cXH_latestX 0 = .ok (.aload_n 0, 1) := by decide +kernel
theorem dXH_latestX_1 : decode cXH_latestX 1 = .ok (.getfield 18, 3) := by decide +kernel
theorem dXH_latestX_4 : decode cXH_latestX 4 = .ok (.ifCond .le 20, 3) := by decide +kernel
theorem dXH_latestX_7 : decode cXH_latestX 7 = .ok (.aload_n 0, 1) := by decide +kernel
theorem dXH_latestX_8 : decode cXH_latestX 8 = .ok (.getfield 11, 3) := by decide +kernel
theorem dXH_latestX_11 : decode cXH_latestX 11 = .ok (.aload_n 0, 1) := by decide +kernel
theorem dXH_latestX_12 : decode cXH_latestX 12 = .ok (.getfield 18, 3) := by decide +kernel
theorem dXH_latestX_15 : decode cXH_latestX 15 = .ok (.iconst 1, 1) := by decide +kernel
theorem dXH_latestX_16 : decode cXH_latestX 16 = .ok (.isub, 1) := by decide +kernel
theorem dXH_latestX_17 : decode cXH_latestX 17 = .ok (.aaload, 1) := by decide +kernel
theorem dXH_latestX_18 : decode cXH_latestX 18 = .ok (.getfield 33, 3) := by decide +kernel
theorem lXH_33 : Cond.fieldLink RXH 33 "RevisionWrite$Table" "x" "I" ∈ A9 := in9_1 115 (by decide +kernel) rfl
theorem dXH_latestX_21 : decode cXH_latestX 21 = .ok (.goto 4, 3) := by decide +kernel
theorem dXH_latestX_24 : decode cXH_latestX 24 = .ok (.iconst 0, 1) := by decide +kernel
theorem dXH_latestX_25 : decode cXH_latestX 25 = .ok (.ireturn, 1) := by decide +kernel
def RXC : String := "RevisionWrite$Scan"
abbrev cXC_init : ByteArray := prog_6_method_1_code
def yXC_init : MethodName := ⟨RXC, "<init>", "(LRevisionWrite$FileBytes;)V"⟩
theorem wXC_init : Cond.code yXC_init cXC_init 3 none ∈ A9 := in9_1 145 rfl rfl
theorem dXC_init_0 : decode cXC_init 0 = .ok (.aload_n 0, 1) := by decide +kernel
theorem dXC_init_1 : decode cXC_init 1 = .ok (.invokespecial 3, 3) := by decide +kernel
theorem dXC_init_4 : decode cXC_init 4 = .ok (.aload_n 0, 1) := by decide +kernel
theorem dXC_init_5 : decode cXC_init 5 = .ok (.bipush 60, 2) := by decide +kernel
theorem dXC_init_7 : decode cXC_init 7 = .ok (.anewarray 9, 3) := by decide +kernel
theorem dXC_init_10 : decode cXC_init 10 = .ok (.putfield 11, 3) := by decide +kernel
theorem lXC_11 : Cond.fieldLink RXC 11 "RevisionWrite$Scan" "parts" "[LRevisionWrite$Table;" ∈ A9 := in9_1 150 (by decide +kernel) rfl
theorem dXC_init_13 : decode cXC_init 13 = .ok (.aload_n 0, 1) := by decide +kernel
theorem dXC_init_14 : decode cXC_init 14 = .ok (.aload_n 1, 1) := by decide +kernel
theorem dXC_init_15 : decode cXC_init 15 = .ok (.putfield 17, 3) := by decide +kernel
theorem lXC_17 : Cond.fieldLink RXC 17 "RevisionWrite$Scan" "file" "LRevisionWrite$FileBytes;" ∈ A9 := in9_1 149 (by decide +kernel) rfl
theorem dXC_init_18 : decode cXC_init 18 = .ok (.iconst 0, 1) := by decide +kernel
theorem dXC_init_19 : decode cXC_init 19 = .ok (.istore_n 2, 1) := by decide +kernel
theorem dXC_init_20 : decode cXC_init 20 = .ok (.iload_n 2, 1) := by decide +kernel
theorem dXC_init_21 : decode cXC_init 21 = .ok (.bipush 60, 2) := by decide +kernel
theorem dXC_init_23 : decode cXC_init 23 = .ok (.if_icmp .ge 22, 3) := by decide +kernel
theorem dXC_init_26 : decode cXC_init 26 = .ok (.aload_n 0, 1) := by decide +kernel
theorem dXC_init_27 : decode cXC_init 27 = .ok (.getfield 11, 3) := by decide +kernel
theorem dXC_init_30 : decode cXC_init 30 = .ok (.iload_n 2, 1) := by decide +kernel
theorem dXC_init_31 : decode cXC_init 31 = .ok (.new 9, 3) := by decide +kernel
theorem dXC_init_34 : decode cXC_init 34 = .ok (.dup, 1) := by decide +kernel
theorem dXC_init_35 : decode cXC_init 35 = .ok (.invokespecial 21, 3) := by decide +kernel
theorem dXC_init_38 : decode cXC_init 38 = .ok (.aastore, 1) := by decide +kernel
theorem dXC_init_39 : decode cXC_init 39 = .ok (.iinc 2 1, 3) := by decide +kernel
theorem dXC_init_42 : decode cXC_init 42 = .ok (.goto (-22), 3) := by decide +kernel
theorem dXC_init_45 : decode cXC_init 45 = .ok (.return_, 1) := by decide +kernel
abbrev cXC_findFault : ByteArray := prog_6_method_2_code
def yXC_findFault : MethodName := ⟨RXC, "findFault", "()I"⟩
theorem wXC_findFault : Cond.code yXC_findFault cXC_findFault 5 (some .int) ∈ A9 := in9_2 10 rfl rfl
theorem dXC_findFault_0 : decode cXC_findFault 0 = .ok (.aload_n 0, 1) := by decide +kernel
theorem dXC_findFault_1 : decode cXC_findFault 1 = .ok (.iconst 0, 1) := by decide +kernel
theorem dXC_findFault_2 : decode cXC_findFault 2 = .ok (.putfield 22, 3) := by decide +kernel
theorem lXC_22 : Cond.fieldLink RXC 22 "RevisionWrite$Scan" "count" "I" ∈ A9 := in9_1 152 (by decide +kernel) rfl
theorem dXC_findFault_5 : decode cXC_findFault 5 = .ok (.aload_n 0, 1) := by decide +kernel
theorem dXC_findFault_6 : decode cXC_findFault 6 = .ok (.invokevirtual 26, 3) := by decide +kernel
theorem dXC_findFault_9 : decode cXC_findFault 9 = .ok (.ifCond .ne 5, 3) := by decide +kernel
theorem dXC_findFault_12 : decode cXC_findFault 12 = .ok (.iconst 0, 1) := by decide +kernel
theorem dXC_findFault_13 : decode cXC_findFault 13 = .ok (.ireturn, 1) := by decide +kernel
theorem dXC_findFault_14 : decode cXC_findFault 14 = .ok (.aload_n 0, 1) := by decide +kernel
theorem dXC_findFault_15 : decode cXC_findFault 15 = .ok (.getfield 17, 3) := by decide +kernel
theorem dXC_findFault_18 : decode cXC_findFault 18 = .ok (.aload_n 0, 1) := by decide +kernel
theorem dXC_findFault_19 : decode cXC_findFault 19 = .ok (.getfield 17, 3) := by decide +kernel
theorem dXC_findFault_22 : decode cXC_findFault 22 = .ok (.getfield 30, 3) := by decide +kernel
theorem lXC_30 : Cond.fieldLink RXC 30 "RevisionWrite$FileBytes" "count" "I" ∈ A9 := in9_1 81 (by decide +kernel) rfl
theorem dXC_findFault_25 : decode cXC_findFault 25 = .ok (.iconst 1, 1) := by decide +kernel
theorem dXC_findFault_26 : decode cXC_findFault 26 = .ok (.isub, 1) := by decide +kernel
theorem dXC_findFault_27 : decode cXC_findFault 27 = .ok (.invokevirtual 33, 3) := by decide +kernel
theorem dXC_findFault_30 : decode cXC_findFault 30 = .ok (.bipush 10, 2) := by decide +kernel
theorem dXC_findFault_32 : decode cXC_findFault 32 = .ok (.if_icmp .eq 11, 3) := by decide +kernel
theorem dXC_findFault_35 : decode cXC_findFault 35 = .ok (.aload_n 0, 1) := by decide +kernel
theorem dXC_findFault_36 : decode cXC_findFault 36 = .ok (.getfield 17, 3) := by decide +kernel
theorem dXC_findFault_39 : decode cXC_findFault 39 = .ok (.getfield 30, 3) := by decide +kernel
theorem dXC_findFault_42 : decode cXC_findFault 42 = .ok (.ireturn, 1) := by decide +kernel
theorem dXC_findFault_43 : decode cXC_findFault 43 = .ok (.aload_n 0, 1) := by decide +kernel
theorem dXC_findFault_44 : decode cXC_findFault 44 = .ok (.invokevirtual 37, 3) := by decide +kernel
theorem dXC_findFault_47 : decode cXC_findFault 47 = .ok (.istore_n 1, 1) := by decide +kernel
theorem dXC_findFault_48 : decode cXC_findFault 48 = .ok (.aload_n 0, 1) := by decide +kernel
theorem dXC_findFault_49 : decode cXC_findFault 49 = .ok (.iload_n 1, 1) := by decide +kernel
theorem dXC_findFault_50 : decode cXC_findFault 50 = .ok (.bipush 101, 2) := by decide +kernel
theorem dXC_findFault_52 : decode cXC_findFault 52 = .ok (.invokevirtual 41, 3) := by decide +kernel
theorem dXC_findFault_55 : decode cXC_findFault 55 = .ok (.istore_n 2, 1) := by decide +kernel
theorem dXC_findFault_56 : decode cXC_findFault 56 = .ok (.iload_n 2, 1) := by decide +kernel
theorem dXC_findFault_57 : decode cXC_findFault 57 = .ok (.iconst (-1), 1) := by decide +kernel
theorem dXC_findFault_58 : decode cXC_findFault 58 = .ok (.if_icmp .eq 8, 3) := by decide +kernel
theorem dXC_findFault_61 : decode cXC_findFault 61 = .ok (.iload_n 2, 1) := by decide +kernel
theorem dXC_findFault_62 : decode cXC_findFault 62 = .ok (.iload_n 1, 1) := by decide +kernel
theorem dXC_findFault_63 : decode cXC_findFault 63 = .ok (.if_icmp .lt 5, 3) := by decide +kernel
theorem dXC_findFault_66 : decode cXC_findFault 66 = .ok (.iload_n 1, 1) := by decide +kernel
theorem dXC_findFault_67 : decode cXC_findFault 67 = .ok (.ireturn, 1) := by decide +kernel
theorem dXC_findFault_68 : decode cXC_findFault 68 = .ok (.iconst 0, 1) := by decide +kernel
theorem dXC_findFault_69 : decode cXC_findFault 69 = .ok (.istore_n 3, 1) := by decide +kernel
theorem dXC_findFault_70 : decode cXC_findFault 70 = .ok (.iload_n 3, 1) := by decide +kernel
theorem dXC_findFault_71 : decode cXC_findFault 71 = .ok (.bipush 60, 2) := by decide +kernel
theorem dXC_findFault_73 : decode cXC_findFault 73 = .ok (.if_icmp .ge 53, 3) := by decide +kernel
theorem dXC_findFault_76 : decode cXC_findFault 76 = .ok (.aload_n 0, 1) := by decide +kernel
theorem dXC_findFault_77 : decode cXC_findFault 77 = .ok (.aload_n 0, 1) := by decide +kernel
theorem dXC_findFault_78 : decode cXC_findFault 78 = .ok (.getfield 11, 3) := by decide +kernel
theorem dXC_findFault_81 : decode cXC_findFault 81 = .ok (.iload_n 3, 1) := by decide +kernel
theorem dXC_findFault_82 : decode cXC_findFault 82 = .ok (.aaload, 1) := by decide +kernel
theorem dXC_findFault_83 : decode cXC_findFault 83 = .ok (.iload_n 2, 1) := by decide +kernel
theorem dXC_findFault_84 : decode cXC_findFault 84 = .ok (.invokevirtual 45, 3) := by decide +kernel
theorem dXC_findFault_87 : decode cXC_findFault 87 = .ok (.istore 4, 2) := by decide +kernel
theorem dXC_findFault_89 : decode cXC_findFault 89 = .ok (.iload 4, 2) := by decide +kernel
theorem dXC_findFault_91 : decode cXC_findFault 91 = .ok (.iconst (-1), 1) := by decide +kernel
theorem dXC_findFault_92 : decode cXC_findFault 92 = .ok (.if_icmp .eq 6, 3) := by decide +kernel
theorem dXC_findFault_95 : decode cXC_findFault 95 = .ok (.iload 4, 2) := by decide +kernel
theorem dXC_findFault_97 : decode cXC_findFault 97 = .ok (.ireturn, 1) := by decide +kernel
theorem dXC_findFault_98 : decode cXC_findFault 98 = .ok (.aload_n 0, 1) := by decide +kernel
theorem dXC_findFault_99 : decode cXC_findFault 99 = .ok (.dup, 1) := by decide +kernel
theorem dXC_findFault_100 : decode cXC_findFault 100 = .ok (.getfield 22, 3) := by decide +kernel
theorem dXC_findFault_103 : decode cXC_findFault 103 = .ok (.iconst 1, 1) := by decide +kernel
theorem dXC_findFault_104 : decode cXC_findFault 104 = .ok (.iadd, 1) := by decide +kernel
theorem dXC_findFault_105 : decode cXC_findFault 105 = .ok (.putfield 22, 3) := by decide +kernel
theorem dXC_findFault_108 : decode cXC_findFault 108 = .ok (.aload_n 0, 1) := by decide +kernel
theorem dXC_findFault_109 : decode cXC_findFault 109 = .ok (.getfield 49, 3) := by decide +kernel
theorem lXC_49 : Cond.fieldLink RXC 49 "RevisionWrite$Scan" "before" "I" ∈ A9 := in9_1 155 (by decide +kernel) rfl
theorem dXC_findFault_112 : decode cXC_findFault 112 = .ok (.istore_n 2, 1) := by decide +kernel
theorem dXC_findFault_113 : decode cXC_findFault 113 = .ok (.iload_n 2, 1) := by decide +kernel
theorem dXC_findFault_114 : decode cXC_findFault 114 = .ok (.ifCond .ne 6, 3) := by decide +kernel
theorem dXC_findFault_117 : decode cXC_findFault 117 = .ok (.goto 9, 3) := by decide +kernel
theorem dXC_findFault_120 : decode cXC_findFault 120 = .ok (.iinc 3 1, 3) := by decide +kernel
theorem dXC_findFault_123 : decode cXC_findFault 123 = .ok (.goto (-53), 3) := by decide +kernel
theorem dXC_findFault_126 : decode cXC_findFault 126 = .ok (.iconst (-1), 1) := by decide +kernel
theorem dXC_findFault_127 : decode cXC_findFault 127 = .ok (.ireturn, 1) := by decide +kernel
abbrev cXC_hasFirstLine : ByteArray := prog_6_method_3_code
def yXC_hasFirstLine : MethodName := ⟨RXC, "hasFirstLine", "()Z"⟩
theorem wXC_hasFirstLine : Cond.code yXC_hasFirstLine cXC_hasFirstLine 2 (some .boolean) ∈ A9 := in9_2 14 rfl rfl
theorem dXC_hasFirstLine_0 : decode cXC_hasFirstLine 0 = .ok (.iconst 0, 1) := by decide +kernel
theorem dXC_hasFirstLine_1 : decode cXC_hasFirstLine 1 = .ok (.istore_n 1, 1) := by decide +kernel
theorem dXC_hasFirstLine_2 : decode cXC_hasFirstLine 2 = .ok (.iload_n 1, 1) := by decide +kernel
theorem dXC_hasFirstLine_3 : decode cXC_hasFirstLine 3 = .ok (.getstatic 52, 3) := by decide +kernel
theorem dXC_hasFirstLine_6 : decode cXC_hasFirstLine 6 = .ok (.arraylength, 1) := by decide +kernel
theorem dXC_hasFirstLine_7 : decode cXC_hasFirstLine 7 = .ok (.if_icmp .ge 27, 3) := by decide +kernel
theorem dXC_hasFirstLine_10 : decode cXC_hasFirstLine 10 = .ok (.aload_n 0, 1) := by decide +kernel
theorem dXC_hasFirstLine_11 : decode cXC_hasFirstLine 11 = .ok (.getfield 17, 3) := by decide +kernel
theorem dXC_hasFirstLine_14 : decode cXC_hasFirstLine 14 = .ok (.iload_n 1, 1) := by decide +kernel
theorem dXC_hasFirstLine_15 : decode cXC_hasFirstLine 15 = .ok (.invokevirtual 33, 3) := by decide +kernel
theorem dXC_hasFirstLine_18 : decode cXC_hasFirstLine 18 = .ok (.getstatic 52, 3) := by decide +kernel
theorem dXC_hasFirstLine_21 : decode cXC_hasFirstLine 21 = .ok (.iload_n 1, 1) := by decide +kernel
theorem dXC_hasFirstLine_22 : decode cXC_hasFirstLine 22 = .ok (.baload, 1) := by decide +kernel
theorem dXC_hasFirstLine_23 : decode cXC_hasFirstLine 23 = .ok (.if_icmp .eq 5, 3) := by decide +kernel
theorem dXC_hasFirstLine_26 : decode cXC_hasFirstLine 26 = .ok (.iconst 0, 1) := by decide +kernel
theorem dXC_hasFirstLine_27 : decode cXC_hasFirstLine 27 = .ok (.ireturn, 1) := by decide +kernel
theorem dXC_hasFirstLine_28 : decode cXC_hasFirstLine 28 = .ok (.iinc 1 1, 3) := by decide +kernel
theorem dXC_hasFirstLine_31 : decode cXC_hasFirstLine 31 = .ok (.goto (-29), 3) := by decide +kernel
theorem dXC_hasFirstLine_34 : decode cXC_hasFirstLine 34 = .ok (.iconst 1, 1) := by decide +kernel
theorem dXC_hasFirstLine_35 : decode cXC_hasFirstLine 35 = .ok (.ireturn, 1) := by decide +kernel
abbrev cXC_lastLine : ByteArray := prog_6_method_4_code
def yXC_lastLine : MethodName := ⟨RXC, "lastLine", "()I"⟩
theorem wXC_lastLine : Cond.code yXC_lastLine cXC_lastLine 2 (some .int) ∈ A9 := in9_2 24 rfl rfl
theorem dXC_lastLine_0 : decode cXC_lastLine 0 = .ok (.aload_n 0, 1) := by decide +kernel
theorem dXC_lastLine_1 : decode cXC_lastLine 1 = .ok (.getfield 17, 3) := by decide +kernel
theorem dXC_lastLine_4 : decode cXC_lastLine 4 = .ok (.getfield 30, 3) := by decide +kernel
theorem dXC_lastLine_7 : decode cXC_lastLine 7 = .ok (.iconst 1, 1) := by decide +kernel
theorem dXC_lastLine_8 : decode cXC_lastLine 8 = .ok (.isub, 1) := by decide +kernel
theorem dXC_lastLine_9 : decode cXC_lastLine 9 = .ok (.istore_n 1, 1) := by decide +kernel
theorem dXC_lastLine_10 : decode cXC_lastLine 10 = .ok (.iload_n 1, 1) := by decide +kernel
theorem dXC_lastLine_11 : decode cXC_lastLine 11 = .ok (.ifCond .le 24, 3) := by decide +kernel
theorem dXC_lastLine_14 : decode cXC_lastLine 14 = .ok (.aload_n 0, 1) := by decide +kernel
theorem dXC_lastLine_15 : decode cXC_lastLine 15 = .ok (.getfield 17, 3) := by decide +kernel
theorem dXC_lastLine_18 : decode cXC_lastLine 18 = .ok (.iload_n 1, 1) := by decide +kernel
theorem dXC_lastLine_19 : decode cXC_lastLine 19 = .ok (.iconst 1, 1) := by decide +kernel
theorem dXC_lastLine_20 : decode cXC_lastLine 20 = .ok (.isub, 1) := by decide +kernel
theorem dXC_lastLine_21 : decode cXC_lastLine 21 = .ok (.invokevirtual 33, 3) := by decide +kernel
theorem dXC_lastLine_24 : decode cXC_lastLine 24 = .ok (.bipush 10, 2) := by decide +kernel
theorem dXC_lastLine_26 : decode cXC_lastLine 26 = .ok (.if_icmp .eq 9, 3) := by decide +kernel
theorem dXC_lastLine_29 : decode cXC_lastLine 29 = .ok (.iinc 1 (-1), 3) := by decide +kernel
theorem dXC_lastLine_32 : decode cXC_lastLine 32 = .ok (.goto (-22), 3) := by decide +kernel
theorem dXC_lastLine_35 : decode cXC_lastLine 35 = .ok (.iload_n 1, 1) := by decide +kernel
theorem dXC_lastLine_36 : decode cXC_lastLine 36 = .ok (.ireturn, 1) := by decide +kernel
abbrev cXC_partFault : ByteArray := prog_6_method_5_code
def yXC_partFault : MethodName := ⟨RXC, "partFault", "(LRevisionWrite$Table;I)I"⟩
theorem wXC_partFault : Cond.code yXC_partFault cXC_partFault 5 (some .int) ∈ A9 := in9_2 43 rfl rfl
theorem dXC_partFault_0 : decode cXC_partFault 0 = .ok (.aload_n 1, 1) := by decide +kernel
theorem dXC_partFault_1 : decode cXC_partFault 1 = .ok (.bipush (-2), 2) := by decide +kernel
theorem dXC_partFault_3 : decode cXC_partFault 3 = .ok (.invokevirtual 56, 3) := by decide +kernel
theorem dXC_partFault_6 : decode cXC_partFault 6 = .ok (.aload_n 1, 1) := by decide +kernel
theorem dXC_partFault_7 : decode cXC_partFault 7 = .ok (.iload_n 2, 1) := by decide +kernel
theorem dXC_partFault_8 : decode cXC_partFault 8 = .ok (.putfield 60, 3) := by decide +kernel
theorem lXC_60 : Cond.fieldLink RXC 60 "RevisionWrite$Table" "x" "I" ∈ A9 := in9_1 117 (by decide +kernel) rfl
theorem dXC_partFault_11 : decode cXC_partFault 11 = .ok (.aload_n 0, 1) := by decide +kernel
theorem dXC_partFault_12 : decode cXC_partFault 12 = .ok (.iload_n 2, 1) := by decide +kernel
theorem dXC_partFault_13 : decode cXC_partFault 13 = .ok (.bipush 120, 2) := by decide +kernel
theorem dXC_partFault_15 : decode cXC_partFault 15 = .ok (.invokevirtual 41, 3) := by decide +kernel
theorem dXC_partFault_18 : decode cXC_partFault 18 = .ok (.istore_n 3, 1) := by decide +kernel
theorem dXC_partFault_19 : decode cXC_partFault 19 = .ok (.iload_n 3, 1) := by decide +kernel
theorem dXC_partFault_20 : decode cXC_partFault 20 = .ok (.iconst (-1), 1) := by decide +kernel
theorem dXC_partFault_21 : decode cXC_partFault 21 = .ok (.if_icmp .ne 5, 3) := by decide +kernel
theorem dXC_partFault_24 : decode cXC_partFault 24 = .ok (.iload_n 2, 1) := by decide +kernel
theorem dXC_partFault_25 : decode cXC_partFault 25 = .ok (.ireturn, 1) := by decide +kernel
theorem dXC_partFault_26 : decode cXC_partFault 26 = .ok (.aload_n 0, 1) := by decide +kernel
theorem dXC_partFault_27 : decode cXC_partFault 27 = .ok (.aload_n 1, 1) := by decide +kernel
theorem dXC_partFault_28 : decode cXC_partFault 28 = .ok (.iload_n 3, 1) := by decide +kernel
theorem dXC_partFault_29 : decode cXC_partFault 29 = .ok (.invokevirtual 63, 3) := by decide +kernel
theorem dXC_partFault_32 : decode cXC_partFault 32 = .ok (.istore 4, 2) := by decide +kernel
theorem dXC_partFault_34 : decode cXC_partFault 34 = .ok (.iload 4, 2) := by decide +kernel
theorem dXC_partFault_36 : decode cXC_partFault 36 = .ok (.iconst (-1), 1) := by decide +kernel
theorem dXC_partFault_37 : decode cXC_partFault 37 = .ok (.if_icmp .eq 6, 3) := by decide +kernel
theorem dXC_partFault_40 : decode cXC_partFault 40 = .ok (.iload 4, 2) := by decide +kernel
theorem dXC_partFault_42 : decode cXC_partFault 42 = .ok (.ireturn, 1) := by decide +kernel
theorem dXC_partFault_43 : decode cXC_partFault 43 = .ok (.aload_n 0, 1) := by decide +kernel
theorem dXC_partFault_44 : decode cXC_partFault 44 = .ok (.aload_n 1, 1) := by decide +kernel
theorem dXC_partFault_45 : decode cXC_partFault 45 = .ok (.invokevirtual 66, 3) := by decide +kernel
theorem dXC_partFault_48 : decode cXC_partFault 48 = .ok (.istore 4, 2) := by decide +kernel
theorem dXC_partFault_50 : decode cXC_partFault 50 = .ok (.iload 4, 2) := by decide +kernel
theorem dXC_partFault_52 : decode cXC_partFault 52 = .ok (.iconst (-1), 1) := by decide +kernel
theorem dXC_partFault_53 : decode cXC_partFault 53 = .ok (.if_icmp .eq 6, 3) := by decide +kernel
theorem dXC_partFault_56 : decode cXC_partFault 56 = .ok (.iload 4, 2) := by decide +kernel
theorem dXC_partFault_58 : decode cXC_partFault 58 = .ok (.ireturn, 1) := by decide +kernel
theorem dXC_partFault_59 : decode cXC_partFault 59 = .ok (.aload_n 0, 1) := by decide +kernel
theorem dXC_partFault_60 : decode cXC_partFault 60 = .ok (.aload_n 1, 1) := by decide +kernel
theorem dXC_partFault_61 : decode cXC_partFault 61 = .ok (.invokevirtual 70, 3) := by decide +kernel
theorem dXC_partFault_64 : decode cXC_partFault 64 = .ok (.ireturn, 1) := by decide +kernel
abbrev cXC_rowsFault : ByteArray := prog_6_method_6_code
def yXC_rowsFault : MethodName := ⟨RXC, "rowsFault", "(LRevisionWrite$Table;I)I"⟩
theorem wXC_rowsFault : Cond.code yXC_rowsFault cXC_rowsFault 8 (some .int) ∈ A9 := in9_2 54 rfl rfl
theorem dXC_rowsFault_0 : decode cXC_rowsFault 0 = .ok (.iconst 0, 1) := by decide +kernel
theorem dXC_rowsFault_1 : decode cXC_rowsFault 1 = .ok (.istore_n 3, 1) := by decide +kernel
theorem dXC_rowsFault_2 : decode cXC_rowsFault 2 = .ok (.iconst 0, 1) := by decide +kernel
theorem dXC_rowsFault_3 : decode cXC_rowsFault 3 = .ok (.istore 4, 2) := by decide +kernel
