section
-- ===== PART A: goes FIRST, ahead of the names: the tables' words, and 'selects' of the private methods out of them =====
/-- a private method of a class that the tables say can be made, by its rows of tables_1 -/
def lw_okq (q : MethodName × Nat) : Prop := (q.1.cls ≠ "java/lang/invoke/MethodHandle" ∧ q.1.cls ≠ "java/lang/invoke/VarHandle") ∧ Cond.instantiable q.1.cls q.2 ∈ tables_1 ∧ Cond.privateMethod q.1 ∈ tables_1 ∧ Cond.instanceMethod q.1 ∈ tables_1
theorem lw_p0 : lw_okq (⟨"RevisionWrite", "readFile", "()I"⟩, 6) := ⟨⟨by decide +kernel, by decide +kernel⟩, List.mem_of_getElem? (i := 30) (by decide +kernel), List.mem_of_getElem? (i := 244) (by decide +kernel), List.mem_of_getElem? (i := 245) (by decide +kernel)⟩
theorem lw_p1 : lw_okq (⟨"RevisionWrite$Scan", "hasFirstLine", "()Z"⟩, 5) := ⟨⟨by decide +kernel, by decide +kernel⟩, List.mem_of_getElem? (i := 142) (by decide +kernel), List.mem_of_getElem? (i := 252) (by decide +kernel), List.mem_of_getElem? (i := 253) (by decide +kernel)⟩
theorem lw_p2 : lw_okq (⟨"RevisionWrite$Scan", "lastLine", "()I"⟩, 5) := ⟨⟨by decide +kernel, by decide +kernel⟩, List.mem_of_getElem? (i := 142) (by decide +kernel), List.mem_of_getElem? (i := 262) (by decide +kernel), List.mem_of_getElem? (i := 263) (by decide +kernel)⟩
theorem lw_p3 : lw_okq (⟨"RevisionWrite$Scan", "tagged", "(II)I"⟩, 5) := ⟨⟨by decide +kernel, by decide +kernel⟩, List.mem_of_getElem? (i := 142) (by decide +kernel), List.mem_of_getElem? (i := 266) (by decide +kernel), List.mem_of_getElem? (i := 267) (by decide +kernel)⟩
theorem lw_p4 : lw_okq (⟨"RevisionWrite$Scan", "accept", "(I)Z"⟩, 5) := ⟨⟨by decide +kernel, by decide +kernel⟩, List.mem_of_getElem? (i := 142) (by decide +kernel), List.mem_of_getElem? (i := 270) (by decide +kernel), List.mem_of_getElem? (i := 271) (by decide +kernel)⟩
theorem lw_p5 : lw_okq (⟨"RevisionWrite$Scan", "number", "()I"⟩, 5) := ⟨⟨by decide +kernel, by decide +kernel⟩, List.mem_of_getElem? (i := 142) (by decide +kernel), List.mem_of_getElem? (i := 274) (by decide +kernel), List.mem_of_getElem? (i := 275) (by decide +kernel)⟩
theorem lw_p6 : lw_okq (⟨"RevisionWrite$Scan", "partFault", "(LRevisionWrite$Table;I)I"⟩, 5) := ⟨⟨by decide +kernel, by decide +kernel⟩, List.mem_of_getElem? (i := 142) (by decide +kernel), List.mem_of_getElem? (i := 281) (by decide +kernel), List.mem_of_getElem? (i := 282) (by decide +kernel)⟩
theorem lw_p7 : lw_okq (⟨"RevisionWrite$Scan", "rowsFault", "(LRevisionWrite$Table;I)I"⟩, 5) := ⟨⟨by decide +kernel, by decide +kernel⟩, List.mem_of_getElem? (i := 142) (by decide +kernel), List.mem_of_getElem? (i := 292) (by decide +kernel), List.mem_of_getElem? (i := 293) (by decide +kernel)⟩
theorem lw_p8 : lw_okq (⟨"RevisionWrite$Scan", "endFault", "(LRevisionWrite$Table;)I"⟩, 5) := ⟨⟨by decide +kernel, by decide +kernel⟩, List.mem_of_getElem? (i := 142) (by decide +kernel), List.mem_of_getElem? (i := 296) (by decide +kernel), List.mem_of_getElem? (i := 297) (by decide +kernel)⟩
theorem lw_p9 : lw_okq (⟨"RevisionWrite$Scan", "recordsFault", "(LRevisionWrite$Table;)I"⟩, 5) := ⟨⟨by decide +kernel, by decide +kernel⟩, List.mem_of_getElem? (i := 142) (by decide +kernel), List.mem_of_getElem? (i := 300) (by decide +kernel), List.mem_of_getElem? (i := 301) (by decide +kernel)⟩
theorem lw_p10 : lw_okq (⟨"RevisionWrite$Scan", "recordLength", "(III)I"⟩, 5) := ⟨⟨by decide +kernel, by decide +kernel⟩, List.mem_of_getElem? (i := 142) (by decide +kernel), List.mem_of_getElem? (i := 304) (by decide +kernel), List.mem_of_getElem? (i := 305) (by decide +kernel)⟩
theorem lw_p11 : lw_okq (⟨"RevisionWrite$Shelf", "loadBytes", "(ILRevisionWrite$FileBytes;LRevisionWrite$Table;)V"⟩, 6) := ⟨⟨by decide +kernel, by decide +kernel⟩, List.mem_of_getElem? (i := 38) (by decide +kernel), List.mem_of_getElem? (i := 328) (by decide +kernel), List.mem_of_getElem? (i := 329) (by decide +kernel)⟩
theorem lw_p12 : lw_okq (⟨"java/lang/Throwable", "fillInStackTrace", "(I)Ljava/lang/Throwable;"⟩, 6) := ⟨⟨by decide +kernel, by decide +kernel⟩, List.mem_of_getElem? (i := 412) (by decide +kernel), List.mem_of_getElem? (i := 410) (by decide +kernel), List.mem_of_getElem? (i := 411) (by decide +kernel)⟩
theorem lw_p13 : lw_okq (⟨"RevisionWrite$Draft", "put", "(I)V"⟩, 7) := ⟨⟨by decide +kernel, by decide +kernel⟩, List.mem_of_getElem? (i := 168) (by decide +kernel), List.mem_of_getElem? (i := 781) (by decide +kernel), List.mem_of_getElem? (i := 782) (by decide +kernel)⟩
theorem lw_p14 : lw_okq (⟨"RevisionWrite$Draft", "insert", "(II)V"⟩, 7) := ⟨⟨by decide +kernel, by decide +kernel⟩, List.mem_of_getElem? (i := 168) (by decide +kernel), List.mem_of_getElem? (i := 789) (by decide +kernel), List.mem_of_getElem? (i := 790) (by decide +kernel)⟩
theorem lw_p15 : lw_okq (⟨"RevisionWrite$Draft", "goesBefore", "(III)Z"⟩, 7) := ⟨⟨by decide +kernel, by decide +kernel⟩, List.mem_of_getElem? (i := 168) (by decide +kernel), List.mem_of_getElem? (i := 793) (by decide +kernel), List.mem_of_getElem? (i := 794) (by decide +kernel)⟩
def lw_privs_1 : List (MethodName × Nat) := [(⟨"RevisionWrite", "readFile", "()I"⟩, 6), (⟨"RevisionWrite$Scan", "hasFirstLine", "()Z"⟩, 5), (⟨"RevisionWrite$Scan", "lastLine", "()I"⟩, 5), (⟨"RevisionWrite$Scan", "tagged", "(II)I"⟩, 5), (⟨"RevisionWrite$Scan", "accept", "(I)Z"⟩, 5), (⟨"RevisionWrite$Scan", "number", "()I"⟩, 5), (⟨"RevisionWrite$Scan", "partFault", "(LRevisionWrite$Table;I)I"⟩, 5), (⟨"RevisionWrite$Scan", "rowsFault", "(LRevisionWrite$Table;I)I"⟩, 5), (⟨"RevisionWrite$Scan", "endFault", "(LRevisionWrite$Table;)I"⟩, 5), (⟨"RevisionWrite$Scan", "recordsFault", "(LRevisionWrite$Table;)I"⟩, 5), (⟨"RevisionWrite$Scan", "recordLength", "(III)I"⟩, 5), (⟨"RevisionWrite$Shelf", "loadBytes", "(ILRevisionWrite$FileBytes;LRevisionWrite$Table;)V"⟩, 6), (⟨"java/lang/Throwable", "fillInStackTrace", "(I)Ljava/lang/Throwable;"⟩, 6), (⟨"RevisionWrite$Draft", "put", "(I)V"⟩, 7), (⟨"RevisionWrite$Draft", "insert", "(II)V"⟩, 7), (⟨"RevisionWrite$Draft", "goesBefore", "(III)Z"⟩, 7)]
theorem lw_r1 : ∀ q ∈ lw_privs_1, lw_okq q := List.forall_mem_cons.mpr ⟨lw_p0, List.forall_mem_cons.mpr ⟨lw_p1, List.forall_mem_cons.mpr ⟨lw_p2, List.forall_mem_cons.mpr ⟨lw_p3, List.forall_mem_cons.mpr ⟨lw_p4, List.forall_mem_cons.mpr ⟨lw_p5, List.forall_mem_cons.mpr ⟨lw_p6, List.forall_mem_cons.mpr ⟨lw_p7, List.forall_mem_cons.mpr ⟨lw_p8, List.forall_mem_cons.mpr ⟨lw_p9, List.forall_mem_cons.mpr ⟨lw_p10, List.forall_mem_cons.mpr ⟨lw_p11, List.forall_mem_cons.mpr ⟨lw_p12, List.forall_mem_cons.mpr ⟨lw_p13, List.forall_mem_cons.mpr ⟨lw_p14, List.forall_mem_cons.mpr ⟨lw_p15, fun _ h => absurd h List.not_mem_nil⟩⟩⟩⟩⟩⟩⟩⟩⟩⟩⟩⟩⟩⟩⟩⟩
theorem lw_p16 : lw_okq (⟨"RevisionWrite$Draft", "putRecord", "(I)V"⟩, 7) := ⟨⟨by decide +kernel, by decide +kernel⟩, List.mem_of_getElem? (i := 168) (by decide +kernel), List.mem_of_getElem? (i := 801) (by decide +kernel), List.mem_of_getElem? (i := 802) (by decide +kernel)⟩
theorem lw_p17 : lw_okq (⟨"RevisionWrite$Draft", "putNumber", "(I)V"⟩, 7) := ⟨⟨by decide +kernel, by decide +kernel⟩, List.mem_of_getElem? (i := 168) (by decide +kernel), List.mem_of_getElem? (i := 805) (by decide +kernel), List.mem_of_getElem? (i := 806) (by decide +kernel)⟩
theorem lw_p18 : lw_okq (⟨"RevisionWrite$Draft", "putTagged", "(II)V"⟩, 7) := ⟨⟨by decide +kernel, by decide +kernel⟩, List.mem_of_getElem? (i := 168) (by decide +kernel), List.mem_of_getElem? (i := 817) (by decide +kernel), List.mem_of_getElem? (i := 818) (by decide +kernel)⟩
theorem lw_p19 : lw_okq (⟨"RevisionWrite$Draft", "putRow", "(I)V"⟩, 7) := ⟨⟨by decide +kernel, by decide +kernel⟩, List.mem_of_getElem? (i := 168) (by decide +kernel), List.mem_of_getElem? (i := 821) (by decide +kernel), List.mem_of_getElem? (i := 822) (by decide +kernel)⟩
theorem lw_p20 : lw_okq (⟨"RevisionWrite", "keepDraft", "()V"⟩, 6) := ⟨⟨by decide +kernel, by decide +kernel⟩, List.mem_of_getElem? (i := 30) (by decide +kernel), List.mem_of_getElem? (i := 841) (by decide +kernel), List.mem_of_getElem? (i := 842) (by decide +kernel)⟩
theorem lw_p21 : lw_okq (⟨"RevisionWrite$Differences", "kindOf", "(ILRevisionWrite$FileBytes;LRevisionWrite$Table;LRevisionWrite$Table;)I"⟩, 3) := ⟨⟨by decide +kernel, by decide +kernel⟩, List.mem_of_getElem? (i := 202) (by decide +kernel), List.mem_of_getElem? (i := 958) (by decide +kernel), List.mem_of_getElem? (i := 959) (by decide +kernel)⟩
theorem lw_p22 : lw_okq (⟨"RevisionWrite$Differences", "alike", "(ILRevisionWrite$FileBytes;LRevisionWrite$Table;LRevisionWrite$Table;)Z"⟩, 3) := ⟨⟨by decide +kernel, by decide +kernel⟩, List.mem_of_getElem? (i := 202) (by decide +kernel), List.mem_of_getElem? (i := 962) (by decide +kernel), List.mem_of_getElem? (i := 963) (by decide +kernel)⟩
theorem lw_p23 : lw_okq (⟨"RevisionWriteModel", "isByte", "(II)Z"⟩, 32) := ⟨⟨by decide +kernel, by decide +kernel⟩, List.mem_of_getElem? (i := 976) (by decide +kernel), List.mem_of_getElem? (i := 1094) (by decide +kernel), List.mem_of_getElem? (i := 1095) (by decide +kernel)⟩
theorem lw_p24 : lw_okq (⟨"RevisionWriteModel", "has", "(I)Z"⟩, 32) := ⟨⟨by decide +kernel, by decide +kernel⟩, List.mem_of_getElem? (i := 976) (by decide +kernel), List.mem_of_getElem? (i := 1098) (by decide +kernel), List.mem_of_getElem? (i := 1099) (by decide +kernel)⟩
theorem lw_p25 : lw_okq (⟨"RevisionWriteModel", "putPart", "(IZI)I"⟩, 32) := ⟨⟨by decide +kernel, by decide +kernel⟩, List.mem_of_getElem? (i := 976) (by decide +kernel), List.mem_of_getElem? (i := 1114) (by decide +kernel), List.mem_of_getElem? (i := 1115) (by decide +kernel)⟩
theorem lw_p26 : lw_okq (⟨"RevisionWriteModel", "put", "(I)V"⟩, 32) := ⟨⟨by decide +kernel, by decide +kernel⟩, List.mem_of_getElem? (i := 976) (by decide +kernel), List.mem_of_getElem? (i := 1118) (by decide +kernel), List.mem_of_getElem? (i := 1119) (by decide +kernel)⟩
theorem lw_p27 : lw_okq (⟨"RevisionWriteModel", "putRecords", "(ZI)V"⟩, 32) := ⟨⟨by decide +kernel, by decide +kernel⟩, List.mem_of_getElem? (i := 976) (by decide +kernel), List.mem_of_getElem? (i := 1122) (by decide +kernel), List.mem_of_getElem? (i := 1123) (by decide +kernel)⟩
theorem lw_p28 : lw_okq (⟨"RevisionWriteModel", "isMeant", "(IZ)Z"⟩, 32) := ⟨⟨by decide +kernel, by decide +kernel⟩, List.mem_of_getElem? (i := 976) (by decide +kernel), List.mem_of_getElem? (i := 1126) (by decide +kernel), List.mem_of_getElem? (i := 1127) (by decide +kernel)⟩
theorem lw_p29 : lw_okq (⟨"RevisionWriteModel", "putRecord", "(I)V"⟩, 32) := ⟨⟨by decide +kernel, by decide +kernel⟩, List.mem_of_getElem? (i := 976) (by decide +kernel), List.mem_of_getElem? (i := 1130) (by decide +kernel), List.mem_of_getElem? (i := 1131) (by decide +kernel)⟩
theorem lw_p30 : lw_okq (⟨"RevisionWriteModel", "putNumber", "(I)V"⟩, 32) := ⟨⟨by decide +kernel, by decide +kernel⟩, List.mem_of_getElem? (i := 976) (by decide +kernel), List.mem_of_getElem? (i := 1134) (by decide +kernel), List.mem_of_getElem? (i := 1135) (by decide +kernel)⟩
theorem lw_p31 : lw_okq (⟨"RevisionWriteModel", "putTold", "(II)V"⟩, 32) := ⟨⟨by decide +kernel, by decide +kernel⟩, List.mem_of_getElem? (i := 976) (by decide +kernel), List.mem_of_getElem? (i := 1138) (by decide +kernel), List.mem_of_getElem? (i := 1139) (by decide +kernel)⟩
def lw_privs_2 : List (MethodName × Nat) := [(⟨"RevisionWrite$Draft", "putRecord", "(I)V"⟩, 7), (⟨"RevisionWrite$Draft", "putNumber", "(I)V"⟩, 7), (⟨"RevisionWrite$Draft", "putTagged", "(II)V"⟩, 7), (⟨"RevisionWrite$Draft", "putRow", "(I)V"⟩, 7), (⟨"RevisionWrite", "keepDraft", "()V"⟩, 6), (⟨"RevisionWrite$Differences", "kindOf", "(ILRevisionWrite$FileBytes;LRevisionWrite$Table;LRevisionWrite$Table;)I"⟩, 3), (⟨"RevisionWrite$Differences", "alike", "(ILRevisionWrite$FileBytes;LRevisionWrite$Table;LRevisionWrite$Table;)Z"⟩, 3), (⟨"RevisionWriteModel", "isByte", "(II)Z"⟩, 32), (⟨"RevisionWriteModel", "has", "(I)Z"⟩, 32), (⟨"RevisionWriteModel", "putPart", "(IZI)I"⟩, 32), (⟨"RevisionWriteModel", "put", "(I)V"⟩, 32), (⟨"RevisionWriteModel", "putRecords", "(ZI)V"⟩, 32), (⟨"RevisionWriteModel", "isMeant", "(IZ)Z"⟩, 32), (⟨"RevisionWriteModel", "putRecord", "(I)V"⟩, 32), (⟨"RevisionWriteModel", "putNumber", "(I)V"⟩, 32), (⟨"RevisionWriteModel", "putTold", "(II)V"⟩, 32)]
theorem lw_r2 : ∀ q ∈ lw_privs_2, lw_okq q := List.forall_mem_cons.mpr ⟨lw_p16, List.forall_mem_cons.mpr ⟨lw_p17, List.forall_mem_cons.mpr ⟨lw_p18, List.forall_mem_cons.mpr ⟨lw_p19, List.forall_mem_cons.mpr ⟨lw_p20, List.forall_mem_cons.mpr ⟨lw_p21, List.forall_mem_cons.mpr ⟨lw_p22, List.forall_mem_cons.mpr ⟨lw_p23, List.forall_mem_cons.mpr ⟨lw_p24, List.forall_mem_cons.mpr ⟨lw_p25, List.forall_mem_cons.mpr ⟨lw_p26, List.forall_mem_cons.mpr ⟨lw_p27, List.forall_mem_cons.mpr ⟨lw_p28, List.forall_mem_cons.mpr ⟨lw_p29, List.forall_mem_cons.mpr ⟨lw_p30, List.forall_mem_cons.mpr ⟨lw_p31, fun _ h => absurd h List.not_mem_nil⟩⟩⟩⟩⟩⟩⟩⟩⟩⟩⟩⟩⟩⟩⟩⟩
theorem lw_p32 : lw_okq (⟨"RevisionWriteModel", "putRow", "(I)V"⟩, 32) := ⟨⟨by decide +kernel, by decide +kernel⟩, List.mem_of_getElem? (i := 976) (by decide +kernel), List.mem_of_getElem? (i := 1142) (by decide +kernel), List.mem_of_getElem? (i := 1143) (by decide +kernel)⟩
theorem lw_p33 : lw_okq (⟨"RevisionWriteModel", "putAll", "(IZI)V"⟩, 32) := ⟨⟨by decide +kernel, by decide +kernel⟩, List.mem_of_getElem? (i := 976) (by decide +kernel), List.mem_of_getElem? (i := 1146) (by decide +kernel), List.mem_of_getElem? (i := 1147) (by decide +kernel)⟩
theorem lw_p34 : lw_okq (⟨"RevisionWriteModel", "remember", "(Z)V"⟩, 32) := ⟨⟨by decide +kernel, by decide +kernel⟩, List.mem_of_getElem? (i := 976) (by decide +kernel), List.mem_of_getElem? (i := 1150) (by decide +kernel), List.mem_of_getElem? (i := 1151) (by decide +kernel)⟩
theorem lw_p35 : lw_okq (⟨"RevisionWriteModel", "save", "()V"⟩, 32) := ⟨⟨by decide +kernel, by decide +kernel⟩, List.mem_of_getElem? (i := 976) (by decide +kernel), List.mem_of_getElem? (i := 1154) (by decide +kernel), List.mem_of_getElem? (i := 1155) (by decide +kernel)⟩
theorem lw_p36 : lw_okq (⟨"RevisionWriteModel", "changed", "()I"⟩, 32) := ⟨⟨by decide +kernel, by decide +kernel⟩, List.mem_of_getElem? (i := 976) (by decide +kernel), List.mem_of_getElem? (i := 1162) (by decide +kernel), List.mem_of_getElem? (i := 1163) (by decide +kernel)⟩
theorem lw_p37 : lw_okq (⟨"RevisionWriteModel", "readFile", "()I"⟩, 32) := ⟨⟨by decide +kernel, by decide +kernel⟩, List.mem_of_getElem? (i := 976) (by decide +kernel), List.mem_of_getElem? (i := 1170) (by decide +kernel), List.mem_of_getElem? (i := 1171) (by decide +kernel)⟩
theorem lw_p38 : lw_okq (⟨"RevisionWriteModel", "isFile", "()Z"⟩, 32) := ⟨⟨by decide +kernel, by decide +kernel⟩, List.mem_of_getElem? (i := 976) (by decide +kernel), List.mem_of_getElem? (i := 1174) (by decide +kernel), List.mem_of_getElem? (i := 1175) (by decide +kernel)⟩
theorem lw_p39 : lw_okq (⟨"RevisionWriteModel", "line", "(I)Z"⟩, 32) := ⟨⟨by decide +kernel, by decide +kernel⟩, List.mem_of_getElem? (i := 976) (by decide +kernel), List.mem_of_getElem? (i := 1178) (by decide +kernel), List.mem_of_getElem? (i := 1179) (by decide +kernel)⟩
theorem lw_p40 : lw_okq (⟨"RevisionWriteModel", "takes", "(I)Z"⟩, 32) := ⟨⟨by decide +kernel, by decide +kernel⟩, List.mem_of_getElem? (i := 976) (by decide +kernel), List.mem_of_getElem? (i := 1182) (by decide +kernel), List.mem_of_getElem? (i := 1183) (by decide +kernel)⟩
theorem lw_p41 : lw_okq (⟨"RevisionWriteModel", "isOver", "()Z"⟩, 32) := ⟨⟨by decide +kernel, by decide +kernel⟩, List.mem_of_getElem? (i := 976) (by decide +kernel), List.mem_of_getElem? (i := 1186) (by decide +kernel), List.mem_of_getElem? (i := 1187) (by decide +kernel)⟩
theorem lw_p42 : lw_okq (⟨"RevisionWriteModel", "wrong", "(I)Z"⟩, 32) := ⟨⟨by decide +kernel, by decide +kernel⟩, List.mem_of_getElem? (i := 976) (by decide +kernel), List.mem_of_getElem? (i := 1190) (by decide +kernel), List.mem_of_getElem? (i := 1191) (by decide +kernel)⟩
theorem lw_p43 : lw_okq (⟨"RevisionWriteModel", "tells", "(II)Z"⟩, 32) := ⟨⟨by decide +kernel, by decide +kernel⟩, List.mem_of_getElem? (i := 976) (by decide +kernel), List.mem_of_getElem? (i := 1194) (by decide +kernel), List.mem_of_getElem? (i := 1195) (by decide +kernel)⟩
theorem lw_p44 : lw_okq (⟨"RevisionWriteModel", "takesNumber", "()Z"⟩, 32) := ⟨⟨by decide +kernel, by decide +kernel⟩, List.mem_of_getElem? (i := 976) (by decide +kernel), List.mem_of_getElem? (i := 1198) (by decide +kernel), List.mem_of_getElem? (i := 1199) (by decide +kernel)⟩
theorem lw_p45 : lw_okq (⟨"RevisionWriteModel", "lookAt", "(I)I"⟩, 32) := ⟨⟨by decide +kernel, by decide +kernel⟩, List.mem_of_getElem? (i := 976) (by decide +kernel), List.mem_of_getElem? (i := 1202) (by decide +kernel), List.mem_of_getElem? (i := 1203) (by decide +kernel)⟩
theorem lw_p46 : lw_okq (⟨"RevisionWriteModel", "isRow", "(I)Z"⟩, 32) := ⟨⟨by decide +kernel, by decide +kernel⟩, List.mem_of_getElem? (i := 976) (by decide +kernel), List.mem_of_getElem? (i := 1206) (by decide +kernel), List.mem_of_getElem? (i := 1207) (by decide +kernel)⟩
theorem lw_p47 : lw_okq (⟨"RevisionWriteModel", "recordsStand", "(II)Z"⟩, 32) := ⟨⟨by decide +kernel, by decide +kernel⟩, List.mem_of_getElem? (i := 976) (by decide +kernel), List.mem_of_getElem? (i := 1210) (by decide +kernel), List.mem_of_getElem? (i := 1211) (by decide +kernel)⟩
def lw_privs_3 : List (MethodName × Nat) := [(⟨"RevisionWriteModel", "putRow", "(I)V"⟩, 32), (⟨"RevisionWriteModel", "putAll", "(IZI)V"⟩, 32), (⟨"RevisionWriteModel", "remember", "(Z)V"⟩, 32), (⟨"RevisionWriteModel", "save", "()V"⟩, 32), (⟨"RevisionWriteModel", "changed", "()I"⟩, 32), (⟨"RevisionWriteModel", "readFile", "()I"⟩, 32), (⟨"RevisionWriteModel", "isFile", "()Z"⟩, 32), (⟨"RevisionWriteModel", "line", "(I)Z"⟩, 32), (⟨"RevisionWriteModel", "takes", "(I)Z"⟩, 32), (⟨"RevisionWriteModel", "isOver", "()Z"⟩, 32), (⟨"RevisionWriteModel", "wrong", "(I)Z"⟩, 32), (⟨"RevisionWriteModel", "tells", "(II)Z"⟩, 32), (⟨"RevisionWriteModel", "takesNumber", "()Z"⟩, 32), (⟨"RevisionWriteModel", "lookAt", "(I)I"⟩, 32), (⟨"RevisionWriteModel", "isRow", "(I)Z"⟩, 32), (⟨"RevisionWriteModel", "recordsStand", "(II)Z"⟩, 32)]
theorem lw_r3 : ∀ q ∈ lw_privs_3, lw_okq q := List.forall_mem_cons.mpr ⟨lw_p32, List.forall_mem_cons.mpr ⟨lw_p33, List.forall_mem_cons.mpr ⟨lw_p34, List.forall_mem_cons.mpr ⟨lw_p35, List.forall_mem_cons.mpr ⟨lw_p36, List.forall_mem_cons.mpr ⟨lw_p37, List.forall_mem_cons.mpr ⟨lw_p38, List.forall_mem_cons.mpr ⟨lw_p39, List.forall_mem_cons.mpr ⟨lw_p40, List.forall_mem_cons.mpr ⟨lw_p41, List.forall_mem_cons.mpr ⟨lw_p42, List.forall_mem_cons.mpr ⟨lw_p43, List.forall_mem_cons.mpr ⟨lw_p44, List.forall_mem_cons.mpr ⟨lw_p45, List.forall_mem_cons.mpr ⟨lw_p46, List.forall_mem_cons.mpr ⟨lw_p47, fun _ h => absurd h List.not_mem_nil⟩⟩⟩⟩⟩⟩⟩⟩⟩⟩⟩⟩⟩⟩⟩⟩
theorem lw_p48 : lw_okq (⟨"RevisionWriteModel", "isRecord", "(III)Z"⟩, 32) := ⟨⟨by decide +kernel, by decide +kernel⟩, List.mem_of_getElem? (i := 976) (by decide +kernel), List.mem_of_getElem? (i := 1214) (by decide +kernel), List.mem_of_getElem? (i := 1215) (by decide +kernel)⟩
theorem lw_p49 : lw_okq (⟨"RevisionWriteModel", "learn", "()V"⟩, 32) := ⟨⟨by decide +kernel, by decide +kernel⟩, List.mem_of_getElem? (i := 976) (by decide +kernel), List.mem_of_getElem? (i := 1218) (by decide +kernel), List.mem_of_getElem? (i := 1219) (by decide +kernel)⟩
theorem lw_p50 : lw_okq (⟨"RevisionWriteModel", "isRevision", "(I)Z"⟩, 32) := ⟨⟨by decide +kernel, by decide +kernel⟩, List.mem_of_getElem? (i := 976) (by decide +kernel), List.mem_of_getElem? (i := 1230) (by decide +kernel), List.mem_of_getElem? (i := 1231) (by decide +kernel)⟩
theorem lw_p51 : lw_okq (⟨"RevisionWriteModel", "isAlike", "(II)Z"⟩, 32) := ⟨⟨by decide +kernel, by decide +kernel⟩, List.mem_of_getElem? (i := 976) (by decide +kernel), List.mem_of_getElem? (i := 1258) (by decide +kernel), List.mem_of_getElem? (i := 1259) (by decide +kernel)⟩
def lw_privs_4 : List (MethodName × Nat) := [(⟨"RevisionWriteModel", "isRecord", "(III)Z"⟩, 32), (⟨"RevisionWriteModel", "learn", "()V"⟩, 32), (⟨"RevisionWriteModel", "isRevision", "(I)Z"⟩, 32), (⟨"RevisionWriteModel", "isAlike", "(II)Z"⟩, 32)]
theorem lw_r4 : ∀ q ∈ lw_privs_4, lw_okq q := List.forall_mem_cons.mpr ⟨lw_p48, List.forall_mem_cons.mpr ⟨lw_p49, List.forall_mem_cons.mpr ⟨lw_p50, List.forall_mem_cons.mpr ⟨lw_p51, fun _ h => absurd h List.not_mem_nil⟩⟩⟩⟩
def lw_privs : List (MethodName × Nat) := lw_privs_1 ++ (lw_privs_2 ++ (lw_privs_3 ++ (lw_privs_4)))
def lw_tbl : List Cond := k2_sels lw_privs ++ tables_1
theorem lw_privs_ok : ∀ q ∈ lw_privs, lw_okq q := by
  show ∀ q ∈ lw_privs_1 ++ (lw_privs_2 ++ (lw_privs_3 ++ (lw_privs_4))), lw_okq q
  exact List.forall_mem_append.mpr ⟨lw_r1, List.forall_mem_append.mpr ⟨lw_r2, List.forall_mem_append.mpr ⟨lw_r3, lw_r4⟩⟩⟩
end
section
/-! THE FRAME: numbers as integers, a world as a table of roles, a judgement fv over it; a row an instruction. -/
-- ===== numbers =====
def fI (z : Int) : Int32 := Int32.ofInt z
theorem fI_toInt {z : Int} (h1 : -2147483648 ≤ z) (h2 : z ≤ 2147483647) : (fI z).toInt = z := Int32.toInt_ofInt_of_le (by omega) (by omega)
theorem fI_add (a b : Int) : fI a + fI b = fI (a + b) := (Int32.ofInt_add a b).symm
theorem fI_sub (a b : Int) : fI a - fI b = fI (a - b) := (Int32.ofInt_sub a b).symm
theorem fI_mul (a b : Int) : fI a * fI b = fI (a * b) := (Int32.ofInt_mul a b).symm
theorem fI_neg (a : Int) : -fI a = fI (-a) := (Int32.ofInt_neg a).symm
theorem fI_of (x : Int32) : x = fI x.toInt := (Int32.ofInt_toInt x).symm
theorem fI_rng (x : Int32) : -2147483648 ≤ x.toInt ∧ x.toInt ≤ 2147483647 := by
  have h1 := Int32.le_toInt x
  have h2 := Int32.toInt_lt x
  omega
theorem fI_0 : fI 0 = 0 := by decide +kernel
theorem fI_lt {a b : Int} (ha : -2147483648 ≤ a ∧ a ≤ 2147483647) (hb : -2147483648 ≤ b ∧ b ≤ 2147483647) : fI a < fI b ↔ a < b := by
  rw [Int32.lt_iff_toInt_lt, fI_toInt ha.1 ha.2, fI_toInt hb.1 hb.2]
theorem fI_le {a b : Int} (ha : -2147483648 ≤ a ∧ a ≤ 2147483647) (hb : -2147483648 ≤ b ∧ b ≤ 2147483647) : fI a ≤ fI b ↔ a ≤ b := by
  rw [Int32.le_iff_toInt_le, fI_toInt ha.1 ha.2, fI_toInt hb.1 hb.2]
theorem fI_eq {a b : Int} (ha : -2147483648 ≤ a ∧ a ≤ 2147483647) (hb : -2147483648 ≤ b ∧ b ≤ 2147483647) : fI a = fI b ↔ a = b := by
  rw [← Int32.toInt_inj, fI_toInt ha.1 ha.2, fI_toInt hb.1 hb.2]
theorem fI_clamp {z : Int} (h1 : 0 ≤ z) (h2 : z ≤ 2147483647) : (fI z).toNatClampNeg = z.toNat := by
  show (fI z).toInt.toNat = z.toNat
  rw [fI_toInt (by omega) h2]
theorem fI_in {z : Int} {n : Nat} (h1 : 0 ≤ z) (h2 : z < n) (hn : n ≤ 2147483647) : vp_in (fI z) n := by
  refine vp_in_iff.mpr ?_
  rw [fI_toInt (by omega) (by omega)]
  exact ⟨h1, h2⟩
theorem fI_nat (n : Nat) : Int32.ofNat n = fI (n : Int) := by
  show Int32.ofNat n = Int32.ofInt (n : Int)
  rfl
theorem fI_div {a b : Int} (ha : 0 ≤ a ∧ a ≤ 2147483647) (hb : 0 < b ∧ b ≤ 2147483647) : fI a / fI b = fI (a / b) := by
  refine Int32.toInt_inj.mp ?_
  have h1 : (fI b) ≠ -1 := by
    intro h
    have h2 := congrArg Int32.toInt h
    rw [fI_toInt (by omega) (by omega)] at h2
    have h3 : (-1 : Int32).toInt = -1 := by decide +kernel
    rw [h3] at h2
    omega
  have h4 : a / b ≤ a := Int.ediv_le_self b ha.1
  have h5 : 0 ≤ a / b := Int.ediv_nonneg ha.1 (by omega)
  rw [Int32.toInt_div_of_ne_right _ _ h1, fI_toInt (by omega) (by omega), fI_toInt (by omega) (by omega), fI_toInt (by omega) (by omega)]
  exact Int.tdiv_eq_ediv_of_nonneg ha.1
theorem fI_rem {a b : Int} (ha : 0 ≤ a ∧ a ≤ 2147483647) (hb : 0 < b ∧ b ≤ 2147483647) : fI a - fI a / fI b * fI b = fI (a % b) := by
  rw [fI_div ha hb, fI_mul, fI_sub]
  congr 1
  have := Int.emod_def a b
  rw [this, Int.mul_comm]
theorem fI_b (z : Int) : (fI z).toInt8.toInt32 = fI (z.bmod 256) := by
  refine Int32.toInt_inj.mp ?_
  have h1 : -128 ≤ z.bmod 256 := by have := Int.le_bmod (x := z) (m := 256) (by omega); omega
  have h2 : z.bmod 256 ≤ 127 := by have := Int.bmod_lt (x := z) (m := 256) (by omega); omega
  rw [fI_toInt (by omega) (by omega), Int8.toInt_toInt32]
  show (Int32.ofInt z).toInt8.toInt = _
  rw [Int32.toInt8_ofInt, Int8.toInt_ofInt]
theorem bm_id {z : Int} (h1 : -128 ≤ z) (h2 : z ≤ 127) : z.bmod 256 = z := by
  rw [Int.bmod_def]
  omega
theorem fI_bi {z : Int} (h1 : -128 ≤ z) (h2 : z ≤ 127) : (fI z).toInt8.toInt32 = fI z := by rw [fI_b, bm_id h1 h2]
theorem fI_z01 {z : Int} (h : z = 0 ∨ z = 1) : vp_nar .boolean (fI z) = fI z := by
  rcases h with rfl | rfl <;> decide +kernel
theorem fN_byte {z : Int} (h1 : -128 ≤ z) (h2 : z ≤ 127) : narrow .byte (.int (fI z)) = .int (fI z) := by
  have h := pk_nb (fI z)
  rw [fI_bi h1 h2] at h
  exact h
theorem fN_bool {z : Int} (h : z = 0 ∨ z = 1) : narrow .boolean (.int (fI z)) = .int (fI z) := by
  rcases h with rfl | rfl <;> decide +kernel
theorem fF_byte {z : Int} (h1 : -128 ≤ z) (h2 : z ≤ 127) : fits .byte (.int (fI z)) = true := by
  have h := pk_fb (fI z)
  rw [fI_bi h1 h2] at h
  exact h
theorem fF_bool {z : Int} (h : z = 0 ∨ z = 1) : fits .boolean (.int (fI z)) = true := by
  rcases h with rfl | rfl <;> decide +kernel
-- ===== a world as a table of roles =====
/-- the layout of a cell: an object (its class, how many fields, each a role, a number, or null), an array of numbers (its type, its length), an array of roles -/
abbrev fL : Type := (Nat × Nat × (Nat → Nat ⊕ Bool)) ⊕ (Nat × Nat) ⊕ (Nat × Nat × (Nat → Nat))
/-- what the cells hold: the numbers of objects by role and field, those of arrays by role and place -/
abbrev fS : Type := (Nat → Nat → Int) × (Nat → Nat → Int)
def f_fld (ad : Nat → Nat) (v : Nat → Int) (q : Nat) : Nat ⊕ Bool → Value
  | .inl j => .ref (ad j)
  | .inr true => .int (fI (v q))
  | .inr false => .null
def f_cell (ad : Nat → Nat) (cA : Nat → ClassId) (σ : fS) (k : Nat) : fL → va_E
  | .inl (ci, n, fs) => .inr (ci, (List.range n).map (fun q => f_fld ad (σ.1 k) q (fs q)))
  | .inr (.inl (t, n)) => .inl (cA t, n, .inl (fun q => fI (σ.2 k q)))
  | .inr (.inr (t, n, g)) => .inl (cA t, n, .inr (.inr (.inr (.inr (fun q => some (ad (g q)))))))
def f_w (ad : Nat → Nat) (cA : Nat → ClassId) (Y : Nat → fL) (N : Nat) (σ : fS) : va_W := (List.range N).map (fun k => (ad k, f_cell ad cA σ k (Y k)))
theorem f_w_get {ad : Nat → Nat} {cA : Nat → ClassId} {Y : Nat → fL} {N : Nat} {σ : fS} {k : Nat} (h : k < N) : (f_w ad cA Y N σ)[k]? = some (ad k, f_cell ad cA σ k (Y k)) := by
  simp [f_w, h]
theorem f_w_inv {ad : Nat → Nat} {cA : Nat → ClassId} {Y : Nat → fL} {N : Nat} {σ : fS} {k : Nat} {q : Nat × va_E} (h : (f_w ad cA Y N σ)[k]? = some q) : k < N ∧ q = (ad k, f_cell ad cA σ k (Y k)) := by
  have hk : k < N := by
    have := (List.getElem?_eq_some_iff.mp h).1
    simpa [f_w] using this
  rw [f_w_get hk] at h
  exact ⟨hk, (Option.some.inj h).symm⟩
theorem f_w_set {ad : Nat → Nat} {cA : Nat → ClassId} {Y : Nat → fL} {N : Nat} {σ σ' : fS} {k : Nat} {e : va_E} (he : f_cell ad cA σ' k (Y k) = e) (ho : ∀ j, j ≠ k → f_cell ad cA σ' j (Y j) = f_cell ad cA σ j (Y j)) : (f_w ad cA Y N σ).set k (ad k, e) = f_w ad cA Y N σ' := by
  refine List.ext_getElem? fun i => ?_
  rw [List.getElem?_set]
  by_cases hi : k = i
  · subst hi
    by_cases hk : k < N
    · rw [if_pos rfl, f_w_get hk, he, if_pos (by simpa [f_w] using hk)]
    · rw [if_pos rfl, if_neg (by simpa [f_w] using hk), List.getElem?_eq_none (by simp [f_w]; omega)]
  · rw [if_neg hi]
    by_cases hk : i < N
    · rw [f_w_get hk, f_w_get hk, ho i (fun h => hi h.symm)]
    · rw [List.getElem?_eq_none (by simp [f_w]; omega), List.getElem?_eq_none (by simp [f_w]; omega)]
/-- a number of an object is written -/
def f_p1 (σ : fS) (k q : Nat) (v : Int) : fS := (va_up σ.1 k (va_up (σ.1 k) q v), σ.2)
/-- a place of an array is written -/
def f_p2 (σ : fS) (k q : Nat) (v : Int) : fS := (σ.1, va_up σ.2 k (va_up (σ.2 k) q v))
/-- an array is written whole -/
def f_pa (σ : fS) (k : Nat) (f : Nat → Int) : fS := (σ.1, va_up σ.2 k f)
theorem p1_1 (σ : fS) (k q : Nat) (v : Int) (a b : Nat) : (f_p1 σ k q v).1 a b = if a = k ∧ b = q then v else σ.1 a b := by
  simp only [f_p1, va_up]
  by_cases h1 : a = k
  · subst h1
    by_cases h2 : b = q
    · subst h2; simp [va_up]
    · simp [va_up, h2]
  · simp [h1]
theorem p1_2 (σ : fS) (k q : Nat) (v : Int) : (f_p1 σ k q v).2 = σ.2 := rfl
theorem p2_1 (σ : fS) (k q : Nat) (v : Int) : (f_p2 σ k q v).1 = σ.1 := rfl
theorem p2_2 (σ : fS) (k q : Nat) (v : Int) (a b : Nat) : (f_p2 σ k q v).2 a b = if a = k ∧ b = q then v else σ.2 a b := by
  simp only [f_p2, va_up]
  by_cases h1 : a = k
  · subst h1
    by_cases h2 : b = q
    · subst h2; simp [va_up]
    · simp [va_up, h2]
  · simp [h1]
theorem pa_1 (σ : fS) (k : Nat) (f : Nat → Int) : (f_pa σ k f).1 = σ.1 := rfl
theorem pa_2 (σ : fS) (k : Nat) (f : Nat → Int) (a : Nat) : (f_pa σ k f).2 a = if a = k then f else σ.2 a := rfl
theorem f_set1 {ad : Nat → Nat} {cA : Nat → ClassId} {Y : Nat → fL} {N : Nat} {σ : fS} {k q ci n : Nat} {fs : Nat → Nat ⊕ Bool} {v : Int} (hY : Y k = .inl (ci, n, fs)) (hf : fs q = .inr true) : (f_w ad cA Y N σ).set k (ad k, .inr (ci, ((List.range n).map (fun q => f_fld ad (σ.1 k) q (fs q))).set q (.int (fI v)))) = f_w ad cA Y N (f_p1 σ k q v) := by
  refine f_w_set ?_ ?_
  · rw [hY]
    show (Sum.inr (ci, _) : va_E) = _
    congr 2
    refine List.ext_getElem? fun i => ?_
    rw [List.getElem?_set]
    by_cases hi : q = i
    · subst hi
      by_cases hn : q < n
      · simp [hn, f_fld, hf, f_p1, va_up]
      · simp [hn]
    · by_cases hn : i < n
      · simp only [hi, if_false, List.getElem?_map, List.getElem?_range hn, Option.map_some]
        congr 1
        cases h9 : fs i with
        | inl j => rfl
        | inr b => cases b <;> simp [f_fld, f_p1, va_up, Ne.symm hi]
      · simp [hi, hn]
  · intro j hj
    cases hj9 : Y j with
    | inl x => simp [f_cell, f_p1, va_up, hj]
    | inr x => cases x <;> rfl
theorem f_set2 {ad : Nat → Nat} {cA : Nat → ClassId} {Y : Nat → fL} {N : Nat} {σ : fS} {k t n : Nat} {f : Nat → Int32} {g : Nat → Int} (hY : Y k = .inr (.inl (t, n))) (hf : ∀ q, f q = fI (g q)) : (f_w ad cA Y N σ).set k (ad k, .inl (cA t, n, .inl f)) = f_w ad cA Y N (f_pa σ k g) := by
  refine f_w_set ?_ ?_
  · rw [hY]
    show (Sum.inl (cA t, n, .inl _) : va_E) = _
    congr 4
    funext q
    rw [hf]
    simp [f_pa, va_up]
  · intro j hj
    cases hj9 : Y j with
    | inl x => rfl
    | inr x => cases x <;> simp [f_cell, f_pa, va_up, hj]
theorem f_pa_p2 (σ : fS) (k q : Nat) (v : Int) : f_pa σ k (va_up (σ.2 k) q v) = f_p2 σ k q v := rfl
-- ===== locals by their places =====
def f_lv (lv : List (Option Value)) : List (Nat × Value) := lv.zipIdx.filterMap (fun x => x.1.map (fun v => (x.2, v)))
def f_has (ls : Array Slot) (nL : Nat) (lv : List (Option Value)) : Prop := ls.size = nL ∧ lv_wf ls ∧ (∀ (i : Nat) (v : Value), lv[i]? = some (some v) → ls[i]? = some (.val v)) ∧ ∀ (i : Nat) (v : Value), lv[i]? = some (some v) → v.category = 1
theorem f_lv_mem {lv : List (Option Value)} {i : Nat} {v : Value} : (i, v) ∈ f_lv lv ↔ lv[i]? = some (some v) := by
  unfold f_lv
  rw [List.mem_filterMap]
  constructor
  · rintro ⟨⟨o, j⟩, h1, h2⟩
    rw [List.mem_zipIdx_iff_getElem?] at h1
    cases o with
    | none => simp at h2
    | some w =>
      simp at h2
      obtain ⟨rfl, rfl⟩ := h2
      exact h1
  · intro h
    exact ⟨(some v, i), by rw [List.mem_zipIdx_iff_getElem?]; exact h, by simp⟩
theorem f_has.lv {ls : Array Slot} {nL : Nat} {lv : List (Option Value)} (h : f_has ls nL lv) : lv_has ls nL (f_lv lv) := ⟨h.1, h.2.1, fun q hq => h.2.2.1 q.1 q.2 (f_lv_mem.mp hq)⟩
theorem f_has.put {ls ls' : Array Slot} {nL i : Nat} {lv : List (Option Value)} {v : Value} (h : f_has ls nL lv) (hv : v.category = 1) (h' : lv_has ls' nL ((i, v) :: (f_lv lv).filter (fun q => !(q.1 == i) && !(q.1 + 1 == i && q.2.category == 2)))) : f_has ls' nL (lv.set i (some v)) := by
  refine ⟨h'.1, h'.2.1, fun j w hj => ?_, fun j w hj => ?_⟩
  · rw [List.getElem?_set] at hj
    by_cases e : i = j
    · subst e
      rw [if_pos rfl] at hj
      split at hj
      · cases hj
        exact h'.2.2 (i, v) List.mem_cons_self
      · cases hj
    · rw [if_neg e] at hj
      refine h'.2.2 (j, w) (List.mem_cons_of_mem _ (List.mem_filter.mpr ⟨f_lv_mem.mpr hj, ?_⟩))
      have hc := h.2.2.2 j w hj
      simp [hc]
      exact fun q => e q.symm
  · rw [List.getElem?_set] at hj
    by_cases e : i = j
    · subst e
      rw [if_pos rfl] at hj
      split at hj
      · cases hj; exact hv
      · cases hj
    · rw [if_neg e] at hj
      exact h.2.2.2 j w hj
-- ===== the judgement =====
abbrev fZ : Type := Program × Launch × Env × Room × State × MethodId × Array Value × List Frame × Method × Code
/-- the world's constants: class numbers and slots, classes, array classes, addresses of roles, numbers of array classes, the layout, how many roles -/
abbrev fG : Type := va_G × List vw_C × List (ClassId × FieldType) × (Nat → Nat) × (Nat → ClassId) × (Nat → fL) × Nat
def f_W (G : fG) (σ : fS) (H : Heap) : Prop := va_P G.1 G.2.1 (f_w G.2.2.2.1 G.2.2.2.2.1 G.2.2.2.2.2.1 G.2.2.2.2.2.2 σ) H
def f_A (G : fG) (sz : Nat) : Nat → Prop := fun q => (∃ k, k < G.2.2.2.2.2.2 ∧ q = G.2.2.2.1 k) ∨ sz ≤ q
def f_J (G : fG) : Prop := ∀ i j, i < G.2.2.2.2.2.2 → j < G.2.2.2.2.2.2 → G.2.2.2.1 i = G.2.2.2.1 j → i = j
def fv (z : fZ) (G : fG) (nL : Nat) (Q : State → Prop) (kc ks : Nat) (σ : fS) (pc : Nat) (lv : List (Option Value)) (st : List Value) : Prop :=
  ∀ (H : Heap) (locs : List Loc) (ls : Array Slot), f_W G σ H → va_S (f_A G z.2.2.2.2.1.heap.size) z.2.2.2.2.1.heap H locs → f_has ls nL lv →
    W z.1 z.2.1 z.2.2.1 z.2.2.2.1 z.2.2.2.2.1 z.2.2.2.2.2.1 z.2.2.2.2.2.2.1 z.2.2.2.2.2.2.2.1 z.2.2.2.2.2.2.2.2.1 z.2.2.2.2.2.2.2.2.2 H locs kc ks Q (F0 z.2.2.2.2.2.1 pc ls st)
/-- the words that are good of every state on: all that the tables say but a few -/
def A9 : List Cond := lw_tbl.filter goodWord
theorem in9 {w : Cond} (h : w ∈ lw_tbl) (g : goodWord w = true) : w ∈ A9 := List.mem_filter.mpr ⟨h, g⟩
theorem good9 {w : Cond} (h : w ∈ A9) : (w.onTables && w.keeps) = true ∨ ∃ ty, w = .arrayClass ty := good_of_word (List.mem_filter.mp h).2
/-- what stands fast while a method's body runs -/
def fc (z : fZ) (G : fG) (cc : ByteArray) (nL : Nat) (own : String) : Prop :=
  z.1.tables.exec = Jvm.exec ∧ z.2.2.2.2.2.2.2.2.2.code = cc ∧ z.2.2.2.2.2.2.2.2.2.maxLocals = nL ∧ z.2.2.2.2.1.vm.findClass own = some z.2.2.2.2.2.1.cls ∧ (∀ w ∈ A9, w.before z.2.2.2.2.2.2.1 z.2.2.2.2.1 = true) ∧ va_K G.1 G.2.1 G.2.2.1 z.2.2.2.2.1 ∧ f_J G
theorem f_D {G : fG} {σ : fS} {sz : Nat} (h : f_J G) : va_D (f_A G sz) (f_w G.2.2.2.1 G.2.2.2.2.1 G.2.2.2.2.2.1 G.2.2.2.2.2.2 σ) := by
  refine ⟨fun i j x y hx hy he => ?_, fun k x hx => ?_⟩
  · obtain ⟨h1, rfl⟩ := f_w_inv hx
    obtain ⟨h2, rfl⟩ := f_w_inv hy
    exact h i j h1 h2 he
  · obtain ⟨h1, rfl⟩ := f_w_inv hx
    exact Or.inl ⟨k, h1, rfl⟩
section FV
variable {z : fZ} {G : fG} {cc : ByteArray} {nL : Nat} {own : String} {Q : State → Prop} {kc ks : Nat} {σ : fS} {pc : Nat} {lv : List (Option Value)} {st : List Value}
theorem v_iconst (C : fc z G cc nL own) {i : Int} (d : decode cc pc = .ok (.iconst i, 1)) (k : fv z G nL Q kc ks σ (pc + 1) lv (.int (fI i) :: st)) : fv z G nL Q kc ks σ pc lv st :=
  fun H locs ls hP hS hl => lv_iconst C.1 C.2.1 d rfl (k H locs ls hP hS hl)
theorem v_bipush (C : fc z G cc nL own) {i : Int} (d : decode cc pc = .ok (.bipush i, 2)) (hi : (Int8.ofInt i).toInt32 = fI i) (k : fv z G nL Q kc ks σ (pc + 2) lv (.int (fI i) :: st)) : fv z G nL Q kc ks σ pc lv st :=
  fun H locs ls hP hS hl => lv_bipush C.1 C.2.1 d hi (k H locs ls hP hS hl)
theorem v_sipush (C : fc z G cc nL own) {i : Int} (d : decode cc pc = .ok (.sipush i, 3)) (hi : (Int16.ofInt i).toInt32 = fI i) (k : fv z G nL Q kc ks σ (pc + 3) lv (.int (fI i) :: st)) : fv z G nL Q kc ks σ pc lv st :=
  fun H locs ls hP hS hl => lv_sipush C.1 C.2.1 d hi (k H locs ls hP hS hl)
theorem v_iload_n (C : fc z G cc nL own) {k : Fin 4} {i : Nat} {x : Int32} (d : decode cc pc = .ok (.iload_n k, 1)) (hi : (k : Nat) = i) (hx : lv[i]? = some (some (.int x))) (kk : fv z G nL Q kc ks σ (pc + 1) lv (.int x :: st)) : fv z G nL Q kc ks σ pc lv st :=
  fun H locs ls hP hS hl => lv_iload_n C.1 C.2.1 d hi (hl.2.2.1 i _ hx) (kk H locs ls hP hS hl)
theorem v_iload (C : fc z G cc nL own) {i : Nat} {x : Int32} (d : decode cc pc = .ok (.iload i, 2)) (hx : lv[i]? = some (some (.int x))) (kk : fv z G nL Q kc ks σ (pc + 2) lv (.int x :: st)) : fv z G nL Q kc ks σ pc lv st :=
  fun H locs ls hP hS hl => lv_iload C.1 C.2.1 d (hl.2.2.1 i _ hx) (kk H locs ls hP hS hl)
theorem v_aload_n (C : fc z G cc nL own) {k : Fin 4} {i : Nat} {x : Nat} (d : decode cc pc = .ok (.aload_n k, 1)) (hi : (k : Nat) = i) (hx : lv[i]? = some (some (.ref x))) (kk : fv z G nL Q kc ks σ (pc + 1) lv (.ref x :: st)) : fv z G nL Q kc ks σ pc lv st :=
  fun H locs ls hP hS hl => lv_aload_n C.1 C.2.1 d hi (hl.2.2.1 i _ hx) (kk H locs ls hP hS hl)
theorem v_aload (C : fc z G cc nL own) {i : Nat} {x : Nat} (d : decode cc pc = .ok (.aload i, 2)) (hx : lv[i]? = some (some (.ref x))) (kk : fv z G nL Q kc ks σ (pc + 2) lv (.ref x :: st)) : fv z G nL Q kc ks σ pc lv st :=
  fun H locs ls hP hS hl => lv_aload C.1 C.2.1 d (hl.2.2.1 i _ hx) (kk H locs ls hP hS hl)
theorem v_istore_n (C : fc z G cc nL own) {k : Fin 4} {i : Nat} {x : Int32} (d : decode cc pc = .ok (.istore_n k, 1)) (hi : (k : Nat) = i) (hn : i < nL) (kk : fv z G nL Q kc ks σ (pc + 1) (lv.set i (some (.int x))) st) : fv z G nL Q kc ks σ pc lv (.int x :: st) :=
  fun H locs ls hP hS hl => lv_istore_n C.1 C.2.1 d hi hl.lv hn rfl (fun ls' h' => kk H locs ls' hP hS (hl.put rfl h'))
theorem v_istore (C : fc z G cc nL own) {i : Nat} {x : Int32} (d : decode cc pc = .ok (.istore i, 2)) (hn : i < nL) (kk : fv z G nL Q kc ks σ (pc + 2) (lv.set i (some (.int x))) st) : fv z G nL Q kc ks σ pc lv (.int x :: st) :=
  fun H locs ls hP hS hl => lv_istore C.1 C.2.1 d hl.lv hn rfl (fun ls' h' => kk H locs ls' hP hS (hl.put rfl h'))
theorem v_astore_n (C : fc z G cc nL own) {k : Fin 4} {i : Nat} {x : Nat} (d : decode cc pc = .ok (.astore_n k, 1)) (hi : (k : Nat) = i) (hn : i < nL) (kk : fv z G nL Q kc ks σ (pc + 1) (lv.set i (some (.ref x))) st) : fv z G nL Q kc ks σ pc lv (.ref x :: st) :=
  fun H locs ls hP hS hl => lv_astore_n C.1 C.2.1 d hi hl.lv hn rfl (fun ls' h' => kk H locs ls' hP hS (hl.put rfl h'))
theorem v_astore (C : fc z G cc nL own) {i : Nat} {x : Nat} (d : decode cc pc = .ok (.astore i, 2)) (hn : i < nL) (kk : fv z G nL Q kc ks σ (pc + 2) (lv.set i (some (.ref x))) st) : fv z G nL Q kc ks σ pc lv (.ref x :: st) :=
  fun H locs ls hP hS hl => lv_astore C.1 C.2.1 d hl.lv hn rfl (fun ls' h' => kk H locs ls' hP hS (hl.put rfl h'))
theorem v_iinc (C : fc z G cc nL own) {i : Nat} {n a : Int} (d : decode cc pc = .ok (.iinc i n, 3)) (hx : lv[i]? = some (some (.int (fI a)))) (hn : i < nL) (kk : fv z G nL Q kc ks σ (pc + 3) (lv.set i (some (.int (fI (a + n))))) st) : fv z G nL Q kc ks σ pc lv st :=
  fun H locs ls hP hS hl => by
    obtain ⟨q, hq⟩ := List.getElem?_of_mem (f_lv_mem.mpr hx)
    exact lv_iinc C.1 C.2.1 d hl.lv hq (fI_add a n) hn rfl (fun ls' h' => kk H locs ls' hP hS (hl.put rfl h'))
theorem v_iadd (C : fc z G cc nL own) {a b : Int} (d : decode cc pc = .ok (.iadd, 1)) (kk : fv z G nL Q kc ks σ (pc + 1) lv (.int (fI (a + b)) :: st)) : fv z G nL Q kc ks σ pc lv (.int (fI b) :: .int (fI a) :: st) :=
  fun H locs ls hP hS hl => lv_iadd C.1 C.2.1 d (by rw [fI_add]; exact kk H locs ls hP hS hl)
theorem v_isub (C : fc z G cc nL own) {a b : Int} (d : decode cc pc = .ok (.isub, 1)) (kk : fv z G nL Q kc ks σ (pc + 1) lv (.int (fI (a - b)) :: st)) : fv z G nL Q kc ks σ pc lv (.int (fI b) :: .int (fI a) :: st) :=
  fun H locs ls hP hS hl => lv_isub C.1 C.2.1 d (by rw [fI_sub]; exact kk H locs ls hP hS hl)
theorem v_imul (C : fc z G cc nL own) {a b : Int} (d : decode cc pc = .ok (.imul, 1)) (kk : fv z G nL Q kc ks σ (pc + 1) lv (.int (fI (a * b)) :: st)) : fv z G nL Q kc ks σ pc lv (.int (fI b) :: .int (fI a) :: st) :=
  fun H locs ls hP hS hl => lv_imul C.1 C.2.1 d (by rw [fI_mul]; exact kk H locs ls hP hS hl)
theorem fI_ne0 {b : Int} (hb : 0 < b ∧ b ≤ 2147483647) : ¬ fI b = 0 := by
  intro h
  have h2 := congrArg Int32.toInt h
  rw [fI_toInt (by omega) (by omega), Int32.toInt_zero] at h2
  omega
theorem v_idiv (C : fc z G cc nL own) {a b : Int} (d : decode cc pc = .ok (.idiv, 1)) (ha : 0 ≤ a ∧ a ≤ 2147483647) (hb : 0 < b ∧ b ≤ 2147483647) (kk : fv z G nL Q kc ks σ (pc + 1) lv (.int (fI (a / b)) :: st)) : fv z G nL Q kc ks σ pc lv (.int (fI b) :: .int (fI a) :: st) :=
  fun H locs ls hP hS hl => lv_idiv C.1 C.2.1 d (fI_ne0 hb) (by rw [fI_div ha hb]; exact kk H locs ls hP hS hl)
theorem v_irem (C : fc z G cc nL own) {a b : Int} (d : decode cc pc = .ok (.irem, 1)) (ha : 0 ≤ a ∧ a ≤ 2147483647) (hb : 0 < b ∧ b ≤ 2147483647) (kk : fv z G nL Q kc ks σ (pc + 1) lv (.int (fI (a % b)) :: st)) : fv z G nL Q kc ks σ pc lv (.int (fI b) :: .int (fI a) :: st) :=
  fun H locs ls hP hS hl => lv_irem C.1 C.2.1 d (fI_ne0 hb) (by rw [fI_rem ha hb]; exact kk H locs ls hP hS hl)
theorem v_ineg (C : fc z G cc nL own) {a : Int} (d : decode cc pc = .ok (.ineg, 1)) (kk : fv z G nL Q kc ks σ (pc + 1) lv (.int (fI (-a)) :: st)) : fv z G nL Q kc ks σ pc lv (.int (fI a) :: st) :=
  fun H locs ls hP hS hl => lv_ineg C.1 C.2.1 d (by rw [fI_neg]; exact kk H locs ls hP hS hl)
theorem v_i2b (C : fc z G cc nL own) {a : Int} (d : decode cc pc = .ok (.i2b, 1)) (kk : fv z G nL Q kc ks σ (pc + 1) lv (.int (fI (a.bmod 256)) :: st)) : fv z G nL Q kc ks σ pc lv (.int (fI a) :: st) :=
  fun H locs ls hP hS hl => lv_i2b C.1 C.2.1 d (fI_b a) (kk H locs ls hP hS hl)
theorem v_i2bi (C : fc z G cc nL own) {a : Int} (d : decode cc pc = .ok (.i2b, 1)) (ha : -128 ≤ a ∧ a ≤ 127) (kk : fv z G nL Q kc ks σ (pc + 1) lv (.int (fI a) :: st)) : fv z G nL Q kc ks σ pc lv (.int (fI a) :: st) :=
  fun H locs ls hP hS hl => lv_i2b C.1 C.2.1 d (fI_bi ha.1 ha.2) (kk H locs ls hP hS hl)
theorem v_dup (C : fc z G cc nL own) {x : Value} (d : decode cc pc = .ok (.dup, 1)) (hx : x.category = 1) (kk : fv z G nL Q kc ks σ (pc + 1) lv (x :: x :: st)) : fv z G nL Q kc ks σ pc lv (x :: st) :=
  fun H locs ls hP hS hl => lv_dup C.1 C.2.1 d hx (kk H locs ls hP hS hl)
theorem v_pop (C : fc z G cc nL own) {x : Value} (d : decode cc pc = .ok (.pop, 1)) (hx : x.category = 1) (kk : fv z G nL Q kc ks σ (pc + 1) lv st) : fv z G nL Q kc ks σ pc lv (x :: st) :=
  fun H locs ls hP hS hl => lv_pop C.1 C.2.1 d hx (kk H locs ls hP hS hl)
theorem v_dup_x1 (C : fc z G cc nL own) {x y : Value} (d : decode cc pc = .ok (.dup_x1, 1)) (hx : x.category = 1) (hy : y.category = 1) (kk : fv z G nL Q kc ks σ (pc + 1) lv (x :: y :: x :: st)) : fv z G nL Q kc ks σ pc lv (x :: y :: st) :=
  fun H locs ls hP hS hl => lv_dup_x1 C.1 C.2.1 d hx hy (kk H locs ls hP hS hl)
theorem v_dup2 (C : fc z G cc nL own) {x y : Value} (d : decode cc pc = .ok (.dup2, 1)) (hx : x.category = 1) (hy : y.category = 1) (kk : fv z G nL Q kc ks σ (pc + 1) lv (x :: y :: x :: y :: st)) : fv z G nL Q kc ks σ pc lv (x :: y :: st) :=
  fun H locs ls hP hS hl => lv_dup2_11 C.1 C.2.1 d hx hy (kk H locs ls hP hS hl)
theorem v_goto (C : fc z G cc nL own) {off : Int} {tgt : Nat} (d : decode cc pc = .ok (.goto off, 3)) (ht : (pc : Int) + off = (tgt : Int)) (kk : fv z G nL Q kc ks σ tgt lv st) : fv z G nL Q kc ks σ pc lv st :=
  fun H locs ls hP hS hl => lv_goto C.1 C.2.1 d ht (kk H locs ls hP hS hl)
theorem v_icmp_eq (C : fc z G cc nL own) {a b off : Int} {tgt : Nat} (d : decode cc pc = .ok (.if_icmp .eq off, 3)) (ht : (pc : Int) + off = (tgt : Int)) (ha : -2147483648 ≤ a ∧ a ≤ 2147483647) (hb : -2147483648 ≤ b ∧ b ≤ 2147483647) (kt : a = b → fv z G nL Q kc ks σ tgt lv st) (kf : ¬ a = b → fv z G nL Q kc ks σ (pc + 3) lv st) : fv z G nL Q kc ks σ pc lv (.int (fI b) :: .int (fI a) :: st) :=
  fun H locs ls hP hS hl => lv_icmp_eq C.1 C.2.1 d ht (fun h => kt ((fI_eq ha hb).mp h) H locs ls hP hS hl) (fun h => kf (fun q => h ((fI_eq ha hb).mpr q)) H locs ls hP hS hl)
theorem v_if_eq (C : fc z G cc nL own) {a off : Int} {tgt : Nat} (d : decode cc pc = .ok (.ifCond .eq off, 3)) (ht : (pc : Int) + off = (tgt : Int)) (ha : -2147483648 ≤ a ∧ a ≤ 2147483647) (kt : a = 0 → fv z G nL Q kc ks σ tgt lv st) (kf : ¬ a = 0 → fv z G nL Q kc ks σ (pc + 3) lv st) : fv z G nL Q kc ks σ pc lv (.int (fI a) :: st) :=
  fun H locs ls hP hS hl => lv_if_eq C.1 C.2.1 d ht (fun h => kt ((fI_eq ha (by decide : -2147483648 ≤ (0 : Int) ∧ (0 : Int) ≤ 2147483647)).mp (by rw [fI_0]; exact h)) H locs ls hP hS hl) (fun h => kf (fun q => h (by have h9 := (fI_eq ha (by decide : -2147483648 ≤ (0 : Int) ∧ (0 : Int) ≤ 2147483647)).mpr q; rw [fI_0] at h9; exact h9)) H locs ls hP hS hl)
theorem v_icmp_ne (C : fc z G cc nL own) {a b off : Int} {tgt : Nat} (d : decode cc pc = .ok (.if_icmp .ne off, 3)) (ht : (pc : Int) + off = (tgt : Int)) (ha : -2147483648 ≤ a ∧ a ≤ 2147483647) (hb : -2147483648 ≤ b ∧ b ≤ 2147483647) (kt : ¬ a = b → fv z G nL Q kc ks σ tgt lv st) (kf : a = b → fv z G nL Q kc ks σ (pc + 3) lv st) : fv z G nL Q kc ks σ pc lv (.int (fI b) :: .int (fI a) :: st) :=
  fun H locs ls hP hS hl => lv_icmp_ne C.1 C.2.1 d ht (fun h => kt (fun q => h ((fI_eq ha hb).mpr q)) H locs ls hP hS hl) (fun h => kf ((fI_eq ha hb).mp h) H locs ls hP hS hl)
theorem v_if_ne (C : fc z G cc nL own) {a off : Int} {tgt : Nat} (d : decode cc pc = .ok (.ifCond .ne off, 3)) (ht : (pc : Int) + off = (tgt : Int)) (ha : -2147483648 ≤ a ∧ a ≤ 2147483647) (kt : ¬ a = 0 → fv z G nL Q kc ks σ tgt lv st) (kf : a = 0 → fv z G nL Q kc ks σ (pc + 3) lv st) : fv z G nL Q kc ks σ pc lv (.int (fI a) :: st) :=
  fun H locs ls hP hS hl => lv_if_ne C.1 C.2.1 d ht (fun h => kt (fun q => h (by rw [q]; exact fI_0)) H locs ls hP hS hl) (fun h => kf ((fI_eq ha (by decide)).mp (by rw [fI_0]; exact h)) H locs ls hP hS hl)
theorem v_icmp_lt (C : fc z G cc nL own) {a b off : Int} {tgt : Nat} (d : decode cc pc = .ok (.if_icmp .lt off, 3)) (ht : (pc : Int) + off = (tgt : Int)) (ha : -2147483648 ≤ a ∧ a ≤ 2147483647) (hb : -2147483648 ≤ b ∧ b ≤ 2147483647) (kt : a < b → fv z G nL Q kc ks σ tgt lv st) (kf : ¬ a < b → fv z G nL Q kc ks σ (pc + 3) lv st) : fv z G nL Q kc ks σ pc lv (.int (fI b) :: .int (fI a) :: st) :=
  fun H locs ls hP hS hl => lv_icmp_lt C.1 C.2.1 d ht (fun h => kt ((fI_lt ha hb).mp h) H locs ls hP hS hl) (fun h => kf (fun q => h ((fI_lt ha hb).mpr q)) H locs ls hP hS hl)
theorem v_if_lt (C : fc z G cc nL own) {a off : Int} {tgt : Nat} (d : decode cc pc = .ok (.ifCond .lt off, 3)) (ht : (pc : Int) + off = (tgt : Int)) (ha : -2147483648 ≤ a ∧ a ≤ 2147483647) (kt : a < 0 → fv z G nL Q kc ks σ tgt lv st) (kf : ¬ a < 0 → fv z G nL Q kc ks σ (pc + 3) lv st) : fv z G nL Q kc ks σ pc lv (.int (fI a) :: st) :=
  fun H locs ls hP hS hl => lv_if_lt C.1 C.2.1 d ht (fun h => kt ((fI_lt ha (by decide : -2147483648 ≤ (0 : Int) ∧ (0 : Int) ≤ 2147483647)).mp (by rw [fI_0]; exact h)) H locs ls hP hS hl) (fun h => kf (fun q => h (by have h9 := (fI_lt ha (by decide : -2147483648 ≤ (0 : Int) ∧ (0 : Int) ≤ 2147483647)).mpr q; rw [fI_0] at h9; exact h9)) H locs ls hP hS hl)
theorem v_icmp_ge (C : fc z G cc nL own) {a b off : Int} {tgt : Nat} (d : decode cc pc = .ok (.if_icmp .ge off, 3)) (ht : (pc : Int) + off = (tgt : Int)) (ha : -2147483648 ≤ a ∧ a ≤ 2147483647) (hb : -2147483648 ≤ b ∧ b ≤ 2147483647) (kt : b ≤ a → fv z G nL Q kc ks σ tgt lv st) (kf : ¬ b ≤ a → fv z G nL Q kc ks σ (pc + 3) lv st) : fv z G nL Q kc ks σ pc lv (.int (fI b) :: .int (fI a) :: st) :=
  fun H locs ls hP hS hl => lv_icmp_ge C.1 C.2.1 d ht (fun h => kt ((fI_le hb ha).mp h) H locs ls hP hS hl) (fun h => kf (fun q => h ((fI_le hb ha).mpr q)) H locs ls hP hS hl)
theorem v_if_ge (C : fc z G cc nL own) {a off : Int} {tgt : Nat} (d : decode cc pc = .ok (.ifCond .ge off, 3)) (ht : (pc : Int) + off = (tgt : Int)) (ha : -2147483648 ≤ a ∧ a ≤ 2147483647) (kt : 0 ≤ a → fv z G nL Q kc ks σ tgt lv st) (kf : ¬ 0 ≤ a → fv z G nL Q kc ks σ (pc + 3) lv st) : fv z G nL Q kc ks σ pc lv (.int (fI a) :: st) :=
  fun H locs ls hP hS hl => lv_if_ge C.1 C.2.1 d ht (fun h => kt ((fI_le (by decide : -2147483648 ≤ (0 : Int) ∧ (0 : Int) ≤ 2147483647) ha).mp (by rw [fI_0]; exact h)) H locs ls hP hS hl) (fun h => kf (fun q => h (by have h9 := (fI_le (by decide : -2147483648 ≤ (0 : Int) ∧ (0 : Int) ≤ 2147483647) ha).mpr q; rw [fI_0] at h9; exact h9)) H locs ls hP hS hl)
theorem v_icmp_gt (C : fc z G cc nL own) {a b off : Int} {tgt : Nat} (d : decode cc pc = .ok (.if_icmp .gt off, 3)) (ht : (pc : Int) + off = (tgt : Int)) (ha : -2147483648 ≤ a ∧ a ≤ 2147483647) (hb : -2147483648 ≤ b ∧ b ≤ 2147483647) (kt : b < a → fv z G nL Q kc ks σ tgt lv st) (kf : ¬ b < a → fv z G nL Q kc ks σ (pc + 3) lv st) : fv z G nL Q kc ks σ pc lv (.int (fI b) :: .int (fI a) :: st) :=
  fun H locs ls hP hS hl => lv_icmp_gt C.1 C.2.1 d ht (fun h => kt ((fI_lt hb ha).mp h) H locs ls hP hS hl) (fun h => kf (fun q => h ((fI_lt hb ha).mpr q)) H locs ls hP hS hl)
theorem v_if_gt (C : fc z G cc nL own) {a off : Int} {tgt : Nat} (d : decode cc pc = .ok (.ifCond .gt off, 3)) (ht : (pc : Int) + off = (tgt : Int)) (ha : -2147483648 ≤ a ∧ a ≤ 2147483647) (kt : 0 < a → fv z G nL Q kc ks σ tgt lv st) (kf : ¬ 0 < a → fv z G nL Q kc ks σ (pc + 3) lv st) : fv z G nL Q kc ks σ pc lv (.int (fI a) :: st) :=
  fun H locs ls hP hS hl => lv_if_gt C.1 C.2.1 d ht (fun h => kt ((fI_lt (by decide : -2147483648 ≤ (0 : Int) ∧ (0 : Int) ≤ 2147483647) ha).mp (by rw [fI_0]; exact h)) H locs ls hP hS hl) (fun h => kf (fun q => h (by have h9 := (fI_lt (by decide : -2147483648 ≤ (0 : Int) ∧ (0 : Int) ≤ 2147483647) ha).mpr q; rw [fI_0] at h9; exact h9)) H locs ls hP hS hl)
theorem v_icmp_le (C : fc z G cc nL own) {a b off : Int} {tgt : Nat} (d : decode cc pc = .ok (.if_icmp .le off, 3)) (ht : (pc : Int) + off = (tgt : Int)) (ha : -2147483648 ≤ a ∧ a ≤ 2147483647) (hb : -2147483648 ≤ b ∧ b ≤ 2147483647) (kt : a ≤ b → fv z G nL Q kc ks σ tgt lv st) (kf : ¬ a ≤ b → fv z G nL Q kc ks σ (pc + 3) lv st) : fv z G nL Q kc ks σ pc lv (.int (fI b) :: .int (fI a) :: st) :=
  fun H locs ls hP hS hl => lv_icmp_le C.1 C.2.1 d ht (fun h => kt ((fI_le ha hb).mp h) H locs ls hP hS hl) (fun h => kf (fun q => h ((fI_le ha hb).mpr q)) H locs ls hP hS hl)
theorem v_if_le (C : fc z G cc nL own) {a off : Int} {tgt : Nat} (d : decode cc pc = .ok (.ifCond .le off, 3)) (ht : (pc : Int) + off = (tgt : Int)) (ha : -2147483648 ≤ a ∧ a ≤ 2147483647) (kt : a ≤ 0 → fv z G nL Q kc ks σ tgt lv st) (kf : ¬ a ≤ 0 → fv z G nL Q kc ks σ (pc + 3) lv st) : fv z G nL Q kc ks σ pc lv (.int (fI a) :: st) :=
  fun H locs ls hP hS hl => lv_if_le C.1 C.2.1 d ht (fun h => kt ((fI_le ha (by decide : -2147483648 ≤ (0 : Int) ∧ (0 : Int) ≤ 2147483647)).mp (by rw [fI_0]; exact h)) H locs ls hP hS hl) (fun h => kf (fun q => h (by have h9 := (fI_le ha (by decide : -2147483648 ≤ (0 : Int) ∧ (0 : Int) ≤ 2147483647)).mpr q; rw [fI_0] at h9; exact h9)) H locs ls hP hS hl)
-- ===== fields and arrays =====
theorem f_at1 {G : fG} {k ci n : Nat} {fs : Nat → Nat ⊕ Bool} {σ : fS} (hN : k < G.2.2.2.2.2.2) (hY : G.2.2.2.2.2.1 k = .inl (ci, n, fs)) : (f_w G.2.2.2.1 G.2.2.2.2.1 G.2.2.2.2.2.1 G.2.2.2.2.2.2 σ)[k]? = some (G.2.2.2.1 k, .inr (ci, (List.range n).map (fun q => f_fld G.2.2.2.1 (σ.1 k) q (fs q)))) := by
  rw [f_w_get hN, hY]
  rfl
theorem f_at2 {G : fG} {k t n : Nat} {σ : fS} (hN : k < G.2.2.2.2.2.2) (hY : G.2.2.2.2.2.1 k = .inr (.inl (t, n))) : (f_w G.2.2.2.1 G.2.2.2.2.1 G.2.2.2.2.2.1 G.2.2.2.2.2.2 σ)[k]? = some (G.2.2.2.1 k, .inl (G.2.2.2.2.1 t, n, .inl (fun q => fI (σ.2 k q)))) := by
  rw [f_w_get hN, hY]
  rfl
theorem f_at3 {G : fG} {k t n : Nat} {g : Nat → Nat} {σ : fS} (hN : k < G.2.2.2.2.2.2) (hY : G.2.2.2.2.2.1 k = .inr (.inr (t, n, g))) : (f_w G.2.2.2.1 G.2.2.2.2.1 G.2.2.2.2.2.1 G.2.2.2.2.2.2 σ)[k]? = some (G.2.2.2.1 k, .inl (G.2.2.2.2.1 t, n, .inr (.inr (.inr (.inr (fun q => some (G.2.2.2.1 (g q)))))))) := by
  rw [f_w_get hN, hY]
  rfl
theorem v_getI (C : fc z G cc nL own) {k q ci n index : Nat} {fs : Nat → Nat ⊕ Bool} {CN ref : String} {T : u_T} (d : decode cc pc = .ok (.getfield index, 3)) (hN : k < G.2.2.2.2.2.2) (hY : G.2.2.2.2.2.1 k = .inl (ci, n, fs)) (hf : fs q = .inr true) (hq : q < n) (hc : G.2.1[ci]? = some (CN, T, n)) (hin : ∀ w ∈ u_ws CN T n, w ∈ A9) (hlink : Cond.fieldLink own index ref (T q).2.1 (T q).2.2.1 ∈ A9) (href : (T q).1 = ref)
    {v : Int} (hv : σ.1 k q = v) (kk : fv z G nL Q kc ks σ (pc + 3) lv (.int (fI v) :: st)) : fv z G nL Q kc ks σ pc lv (.ref (G.2.2.2.1 k) :: st) :=
  fun H locs ls hP hS hl => va_get (ci := ci) (v := .int (fI v)) C.1 C.2.1 C.2.2.2.2.1 hin C.2.2.2.1 C.2.2.2.2.2.1 hP k (f_at1 hN hY) hc q hq (C.2.2.2.2.1 _ hlink) (by rw [href]; exact fun _ h => h) (by simp [hq, f_fld, hf, hv]) d (kk H locs ls hP hS hl)
theorem v_getR (C : fc z G cc nL own) {k q j ci n index : Nat} {fs : Nat → Nat ⊕ Bool} {CN ref : String} {T : u_T} (d : decode cc pc = .ok (.getfield index, 3)) (hN : k < G.2.2.2.2.2.2) (hY : G.2.2.2.2.2.1 k = .inl (ci, n, fs)) (hf : fs q = .inl j) (hq : q < n) (hc : G.2.1[ci]? = some (CN, T, n)) (hin : ∀ w ∈ u_ws CN T n, w ∈ A9) (hlink : Cond.fieldLink own index ref (T q).2.1 (T q).2.2.1 ∈ A9) (href : (T q).1 = ref)
    (kk : fv z G nL Q kc ks σ (pc + 3) lv (.ref (G.2.2.2.1 j) :: st)) : fv z G nL Q kc ks σ pc lv (.ref (G.2.2.2.1 k) :: st) :=
  fun H locs ls hP hS hl => va_get (ci := ci) (v := .ref (G.2.2.2.1 j)) C.1 C.2.1 C.2.2.2.2.1 hin C.2.2.2.1 C.2.2.2.2.2.1 hP k (f_at1 hN hY) hc q hq (C.2.2.2.2.1 _ hlink) (by rw [href]; exact fun _ h => h) (by simp [hq, f_fld, hf]) d (kk H locs ls hP hS hl)
theorem v_putI (C : fc z G cc nL own) {k q ci n index : Nat} {v : Int} {fs : Nat → Nat ⊕ Bool} {CN ref : String} {T : u_T} {ty0 : Nat → FieldType} {ty : FieldType} (d : decode cc pc = .ok (.putfield index, 3)) (hN : k < G.2.2.2.2.2.2) (hY : G.2.2.2.2.2.1 k = .inl (ci, n, fs)) (hf : fs q = .inr true) (hq : q < n) (hc : G.2.1[ci]? = some (CN, T, n)) (hin : ∀ w ∈ u_ws CN T n, w ∈ A9) (hty : ∀ k, k < n → parseFieldDescriptor (T k).2.2.1 = some (ty0 k)) (hnm : ∀ a, a < n → ∀ b, b < n → a ≠ b → (T a).2.1 ≠ (T b).2.1) (hlink : Cond.fieldLink own index ref (T q).2.1 (T q).2.2.1 ∈ A9) (href : (T q).1 = ref) (hfin : (T q).2.2.2 = false) (hd : ty0 q = ty) (hn : narrow ty (.int (fI v)) = .int (fI v)) (hfit : fits ty (.int (fI v)) = true)
    (kk : fv z G nL Q kc ks (f_p1 σ k q v) (pc + 3) lv st) : fv z G nL Q kc ks σ pc lv (.int (fI v) :: .ref (G.2.2.2.1 k) :: st) :=
  fun H locs ls hP hS hl => va_put (ci := ci) (v := .int (fI v)) (ty := ty) C.1 C.2.1 C.2.2.2.2.1 hin ty0 hty hnm C.2.2.2.1 C.2.2.2.2.2.1 hP (f_D C.2.2.2.2.2.2) hS k (f_at1 hN hY) hc q hq (C.2.2.2.2.1 _ hlink) (by rw [href]; exact fun _ h => h) hfin (by rw [← hd]; exact hty q hq) hn hfit (by simpa using hq) d
    (fun H1 locs1 hP1 _ hS1 => kk H1 locs1 ls (by rw [f_set1 hY hf] at hP1; exact hP1) hS1 hl)
theorem v_iald (C : fc z G cc nL own) {k t n : Nat} {i : Int} (d : decode cc pc = .ok (.iaload, 1)) (hN : k < G.2.2.2.2.2.2) (hY : G.2.2.2.2.2.1 k = .inr (.inl (t, n))) (ht : G.2.2.1[t]? = some (G.2.2.2.2.1 t, .int)) (hi : 0 ≤ i ∧ i < n) (hn : n ≤ 2147483647)
    {v : Int} (hv : σ.2 k i.toNat = v) (kk : fv z G nL Q kc ks σ (pc + 1) lv (.int (fI v) :: st)) : fv z G nL Q kc ks σ pc lv (.int (fI i) :: .ref (G.2.2.2.1 k) :: st) :=
  fun H locs ls hP hS hl => va_iald C.1 C.2.1 C.2.2.2.2.2.1 hP k t (f_at2 hN hY) ht (fI_in hi.1 hi.2 hn) d (by rw [fI_clamp hi.1 (by omega)]; first | (rw [hv]; exact kk H locs ls hP hS hl) | exact kk H locs ls hP hS hl)
theorem v_bald (C : fc z G cc nL own) {k t n : Nat} {i : Int} (d : decode cc pc = .ok (.baload, 1)) (hN : k < G.2.2.2.2.2.2) (hY : G.2.2.2.2.2.1 k = .inr (.inl (t, n))) (ht : G.2.2.1[t]? = some (G.2.2.2.2.1 t, .byte)) (hi : 0 ≤ i ∧ i < n) (hn : n ≤ 2147483647)
    {v : Int} (hv : σ.2 k i.toNat = v) (kk : fv z G nL Q kc ks σ (pc + 1) lv (.int (fI v) :: st)) : fv z G nL Q kc ks σ pc lv (.int (fI i) :: .ref (G.2.2.2.1 k) :: st) :=
  fun H locs ls hP hS hl => va_bald C.1 C.2.1 C.2.2.2.2.2.1 hP k t (f_at2 hN hY) ht (fI_in hi.1 hi.2 hn) d (by rw [fI_clamp hi.1 (by omega)]; first | (rw [hv]; exact kk H locs ls hP hS hl) | exact kk H locs ls hP hS hl)
theorem v_zald (C : fc z G cc nL own) {k t n : Nat} {i : Int} (d : decode cc pc = .ok (.baload, 1)) (hN : k < G.2.2.2.2.2.2) (hY : G.2.2.2.2.2.1 k = .inr (.inl (t, n))) (ht : G.2.2.1[t]? = some (G.2.2.2.2.1 t, .boolean)) (hi : 0 ≤ i ∧ i < n) (hn : n ≤ 2147483647)
    {v : Int} (hv : σ.2 k i.toNat = v) (kk : fv z G nL Q kc ks σ (pc + 1) lv (.int (fI v) :: st)) : fv z G nL Q kc ks σ pc lv (.int (fI i) :: .ref (G.2.2.2.1 k) :: st) :=
  fun H locs ls hP hS hl => va_zald C.1 C.2.1 C.2.2.2.2.2.1 hP k t (f_at2 hN hY) ht (fI_in hi.1 hi.2 hn) d (by rw [fI_clamp hi.1 (by omega)]; first | (rw [hv]; exact kk H locs ls hP hS hl) | exact kk H locs ls hP hS hl)
theorem v_aald (C : fc z G cc nL own) {k t n : Nat} {g : Nat → Nat} {i : Int} {CN : String} (d : decode cc pc = .ok (.aaload, 1)) (hN : k < G.2.2.2.2.2.2) (hY : G.2.2.2.2.2.1 k = .inr (.inr (t, n, g))) (ht : G.2.2.1[t]? = some (G.2.2.2.2.1 t, .object CN)) (hi : 0 ≤ i ∧ i < n) (hn : n ≤ 2147483647)
    (kk : fv z G nL Q kc ks σ (pc + 1) lv (.ref (G.2.2.2.1 (g i.toNat)) :: st)) : fv z G nL Q kc ks σ pc lv (.int (fI i) :: .ref (G.2.2.2.1 k) :: st) :=
  fun H locs ls hP hS hl => va_aldq C.1 C.2.1 C.2.2.2.2.2.1 hP k t (f_at3 hN hY) ht (fI_in hi.1 hi.2 hn) d (by rw [fI_clamp hi.1 (by omega)]; first | (rw [hv]; exact kk H locs ls hP hS hl) | exact kk H locs ls hP hS hl)
theorem f_updI (σ : fS) (k : Nat) (i v : Int) (q : Nat) : upd (fun q => fI (σ.2 k q)) i.toNat (fI v) q = fI (va_up (σ.2 k) i.toNat v q) := by
  unfold upd va_up
  by_cases h : q = i.toNat
  · simp [h]
  · simp [h]
theorem v_iast (C : fc z G cc nL own) {k t n : Nat} {i v : Int} (d : decode cc pc = .ok (.iastore, 1)) (hN : k < G.2.2.2.2.2.2) (hY : G.2.2.2.2.2.1 k = .inr (.inl (t, n))) (ht : G.2.2.1[t]? = some (G.2.2.2.2.1 t, .int)) (hi : 0 ≤ i ∧ i < n) (hn : n ≤ 2147483647)
    (kk : fv z G nL Q kc ks (f_p2 σ k i.toNat v) (pc + 1) lv st) : fv z G nL Q kc ks σ pc lv (.int (fI v) :: .int (fI i) :: .ref (G.2.2.2.1 k) :: st) :=
  fun H locs ls hP hS hl => va_iast C.1 C.2.1 C.2.2.2.2.2.1 hP (f_D C.2.2.2.2.2.2) hS k t (f_at2 hN hY) ht (fI_in hi.1 hi.2 hn) d (fun H1 locs1 hP1 _ hS1 => kk H1 locs1 ls (by
    rw [fI_clamp hi.1 (by omega), f_set2 hY (f_updI σ k i v), f_pa_p2] at hP1; exact hP1) hS1 hl)
theorem v_bast (C : fc z G cc nL own) {k t n : Nat} {i v : Int} (d : decode cc pc = .ok (.bastore, 1)) (hN : k < G.2.2.2.2.2.2) (hY : G.2.2.2.2.2.1 k = .inr (.inl (t, n))) (ht : G.2.2.1[t]? = some (G.2.2.2.2.1 t, .byte)) (hi : 0 ≤ i ∧ i < n) (hn : n ≤ 2147483647) (hv : -128 ≤ v ∧ v ≤ 127)
    (kk : fv z G nL Q kc ks (f_p2 σ k i.toNat v) (pc + 1) lv st) : fv z G nL Q kc ks σ pc lv (.int (fI v) :: .int (fI i) :: .ref (G.2.2.2.1 k) :: st) :=
  fun H locs ls hP hS hl => va_bast C.1 C.2.1 C.2.2.2.2.2.1 hP (f_D C.2.2.2.2.2.2) hS k t (f_at2 hN hY) ht (fI_in hi.1 hi.2 hn) d (fun H1 locs1 hP1 _ hS1 => kk H1 locs1 ls (by
    rw [fI_clamp hi.1 (by omega), vp_nar_byte, fI_bi hv.1 hv.2, f_set2 hY (f_updI σ k i v), f_pa_p2] at hP1; exact hP1) hS1 hl)
theorem v_zast (C : fc z G cc nL own) {k t n : Nat} {i v : Int} (d : decode cc pc = .ok (.bastore, 1)) (hN : k < G.2.2.2.2.2.2) (hY : G.2.2.2.2.2.1 k = .inr (.inl (t, n))) (ht : G.2.2.1[t]? = some (G.2.2.2.2.1 t, .boolean)) (hi : 0 ≤ i ∧ i < n) (hn : n ≤ 2147483647) (hv : v = 0 ∨ v = 1)
    (kk : fv z G nL Q kc ks (f_p2 σ k i.toNat v) (pc + 1) lv st) : fv z G nL Q kc ks σ pc lv (.int (fI v) :: .int (fI i) :: .ref (G.2.2.2.1 k) :: st) :=
  fun H locs ls hP hS hl => va_zast C.1 C.2.1 C.2.2.2.2.2.1 hP (f_D C.2.2.2.2.2.2) hS k t (f_at2 hN hY) ht (fI_in hi.1 hi.2 hn) d (fun H1 locs1 hP1 _ hS1 => kk H1 locs1 ls (by
    rw [fI_clamp hi.1 (by omega), fI_z01 hv, f_set2 hY (f_updI σ k i v), f_pa_p2] at hP1; exact hP1) hS1 hl)
theorem v_alen (C : fc z G cc nL own) {k t n : Nat} {ty : FieldType} (d : decode cc pc = .ok (.arraylength, 1)) (hN : k < G.2.2.2.2.2.2) (hY : G.2.2.2.2.2.1 k = .inr (.inl (t, n))) (ht : G.2.2.1[t]? = some (G.2.2.2.2.1 t, ty))
    (kk : fv z G nL Q kc ks σ (pc + 1) lv (.int (fI (n : Int)) :: st)) : fv z G nL Q kc ks σ pc lv (.ref (G.2.2.2.1 k) :: st) :=
  fun H locs ls hP hS hl => va_alen C.1 C.2.1 C.2.2.2.2.2.1 hP k t (f_at2 hN hY) ht (fI_nat n) d (kk H locs ls hP hS hl)
end FV
-- ===== contracts and calls =====
/-- the room of a method over d levels of calls -/
def f_rm (d : Nat) : Room := { frames := d, cells := 0, slots := 0, locals := 40 * d }
/-- what a method finds: the world, the tables, and E (what else stands fast) -/
def f_Pc (G : fG) (E : Nat → State → Prop) (sz : Nat) (σ : fS) (av : List Value) : Array Value → State → Prop := va_Pc av (fun U => U.heap.size = sz ∧ f_W G σ U.heap ∧ va_K G.1 G.2.1 G.2.2.1 U ∧ E sz U)
/-- E holds on, from a method's start s to a call at the heap H -/
def f_E (G : fG) (E : Nat → State → Prop) : Prop := (∀ (s U : State) (locs : List Loc), E s.heap.size s → va_S (f_A G s.heap.size) s.heap U.heap locs → s.WarmedH U.vm → E U.heap.size U) ∧ ∀ (sz : Nat) (a : Array Value) (U : State) (g : JFrame) (mk : MethodId), E sz U → E sz (U.calling g mk a)
/-- the ends of a method: an int and a state, a state -/
def f_QI (post : Int → fS → Prop) (G : fG) (sz : Nat) : Array Value → State → Outcome → State → Prop := va_Qi (fun r (u : Int × fS) => r = fI u.1 ∧ post u.1 u.2) (fun u t => f_W G u.2 t.heap) (f_A G sz)
def f_QV (post : fS → Prop) (G : fG) (sz : Nat) : Array Value → State → Outcome → State → Prop := va_Qv (fun (u : fS) => post u) (fun u t => f_W G u t.heap) (f_A G sz)
/-- the body's own end -/
def f_R (z : fZ) (G : fG) (Qc : Nat → Array Value → State → Outcome → State → Prop) : State → Prop := MQ z.2.2.2.2.2.2.2.1 (Qc z.2.2.2.2.1.heap.size) z.2.2.2.2.2.2.1 z.2.2.2.2.1 0 0 (f_A G z.2.2.2.2.1.heap.size)
/-- a method's contract: of the words ws, d levels deep, from the state σ with the values av, to Qc -/
def f_M (l : Launch) (G : fG) (E : Nat → State → Prop) (y : MethodName) (ws : List Cond) (d : Nat) (σ : fS) (av : List Value) (Qc : Nat → Array Value → State → Outcome → State → Prop) : Prop :=
  ∀ sz, Met l y ws (f_rm d) (f_Pc G E sz σ av) (Qc sz) 0 0 (f_A G sz)
theorem f_sl1 (av : List Value) (h1 : ∀ v ∈ av, v.category = 1) : lg_sl av = av.map Slot.val := by
  induction av with
  | nil => rfl
  | cons x r ih =>
    have hx := h1 x List.mem_cons_self
    have hr := ih (fun v hv => h1 v (List.mem_cons_of_mem _ hv))
    unfold lg_sl at hr ⊢
    rw [List.flatMap_cons, List.map_cons, hr, hx]
    rfl
theorem f_enter {l : Launch} {G : fG} {E : Nat → State → Prop} {y : MethodName} {cc : ByteArray} {nL d : Nat} {ret : Option FieldType} {σ : fS} {av : List Value} {Qc : Nat → Array Value → State → Outcome → State → Prop} (hy : plainName y.cls = true) (hJ : f_J G) (hav : (av.map (fun v => v.category)).all (fun c => c == 1) = true) (hlen : av.length ≤ nL)
    (body : ∀ z : fZ, z.2.1 = l → z.2.2.2.1 = f_rm d → fc z G cc nL y.cls → z.2.2.2.2.2.2.2.2.1.sig.returnType = ret → z.2.2.2.2.2.2.2.2.1.locks = false → E z.2.2.2.2.1.heap.size z.2.2.2.2.1 → fv z G nL (f_R z G Qc) 0 0 σ 0 (av.map some ++ List.replicate (nL - av.length) none) []) (sz : Nat) : Met l y (Cond.code y cc nL ret :: A9) (f_rm d) (f_Pc G E sz σ av) (Qc sz) 0 0 (f_A G sz) := by
  refine Met.ofW (cc := cc) (maxL := nL) (ret := ret) hy rfl ?_
  intro p e s m args below meth c s₁ B hml hv
  obtain ⟨rfl, hsz, hP, hK, hE⟩ := hv
  subst hsz
  have hfin := body (p, l, e, f_rm d, s, m, av.toArray, below, meth, c) rfl rfl ⟨B.exec, B.bytes, hml, findClass_of_methodNamed B.named, (fun w h => atoms_spec (ws := Cond.code y cc nL ret :: A9) B.pre w (List.mem_cons_of_mem _ h)), hK, hJ⟩ B.returns B.notSynchronized hE
  have h1 : ∀ v ∈ av, v.category = 1 := by
    intro v hv
    have h2 := List.all_eq_true.mp hav v.category (List.mem_map.mpr ⟨v, hv, rfl⟩)
    simpa using h2
  have hsl : lg_sl av = av.map Slot.val := f_sl1 av h1
  have hl := lv_entry av (n := nL) (by rw [hsl]; simpa using hlen)
  rw [lg_entry_eq]
  refine hfin s.heap [] _ hP va_S.rf ⟨hl.1, hl.2.1, fun i v hi => ?_, fun i v hi => ?_⟩
  · have hi2 : i < av.length := by
      by_cases h : i < av.length
      · exact h
      · rw [List.getElem?_append_right (by simpa using h), List.getElem?_replicate] at hi
        split at hi <;> simp at hi
    rw [List.getElem?_append_left (by simpa using hi2), List.getElem?_map] at hi
    rw [hsl]
    cases h9 : av[i]? with
    | none => rw [h9] at hi; cases hi
    | some w =>
      rw [h9] at hi
      simp at hi
      subst hi
      rw [List.getElem?_toArray, List.getElem?_append_left (by simpa using hi2), List.getElem?_map, h9]
      rfl
  · have hi2 : i < av.length := by
      by_cases h : i < av.length
      · exact h
      · rw [List.getElem?_append_right (by simpa using h), List.getElem?_replicate] at hi
        split at hi <;> simp at hi
    rw [List.getElem?_append_left (by simpa using hi2), List.getElem?_map] at hi
    cases h9 : av[i]? with
    | none => rw [h9] at hi; cases hi
    | some w =>
      rw [h9] at hi
      simp at hi
      subst hi
      have h2 := List.all_eq_true.mp hav w.category (List.mem_map.mpr ⟨w, List.mem_of_getElem? h9, rfl⟩)
      simpa using h2
section FR
variable {z : fZ} {G : fG} {cc : ByteArray} {nL : Nat} {own : String} {Q : State → Prop} {kc ks : Nat} {σ : fS} {pc : Nat} {lv : List (Option Value)} {st : List Value} {E : Nat → State → Prop}
theorem v_iret (C : fc z G cc nL own) (hr : z.2.2.2.2.2.2.2.2.1.sig.returnType = some .int) (hk : z.2.2.2.2.2.2.2.2.1.locks = false) {r : Int} {post : Int → fS → Prop} (d : decode cc pc = .ok (.ireturn, 1)) (hp : post r σ) : fv z G nL (f_R z G (f_QI post G)) 0 0 σ pc lv [.int (fI r)] :=
  fun _ _ _ hP hS _ => W.iret (v := fI r) C.1 C.2.1 hr (fun t ht _ => ⟨⟨fI r, (r, σ), rfl, ⟨rfl, hp⟩, (show f_W G σ t.heap by rw [ht]; exact hP)⟩, hS.F ht⟩) hS.2.2 d hk
theorem v_zret (C : fc z G cc nL own) {ty : FieldType} (hr : z.2.2.2.2.2.2.2.2.1.sig.returnType = some ty) (hk : z.2.2.2.2.2.2.2.2.1.locks = false) {r : Int} {post : Int → fS → Prop} (d : decode cc pc = .ok (.ireturn, 1)) (hn : narrow ty (.int (fI r)) = .int (fI r)) (hp : post r σ) : fv z G nL (f_R z G (f_QI post G)) 0 0 σ pc lv [.int (fI r)] :=
  fun _ _ _ hP hS _ => W.zret (v := fI r) C.1 C.2.1 hr hn (fun t ht _ => ⟨⟨fI r, (r, σ), rfl, ⟨rfl, hp⟩, (show f_W G σ t.heap by rw [ht]; exact hP)⟩, hS.F ht⟩) hS.2.2 d hk
theorem v_vret (C : fc z G cc nL own) (hr : z.2.2.2.2.2.2.2.2.1.sig.returnType = none) (hk : z.2.2.2.2.2.2.2.2.1.locks = false) {post : fS → Prop} (d : decode cc pc = .ok (.return_, 1)) (hp : post σ) : fv z G nL (f_R z G (f_QV post G)) 0 0 σ pc lv [] :=
  fun _ _ _ hP hS _ => W.vret C.1 C.2.1 hr (fun t ht _ => ⟨⟨σ, rfl, hp, (show f_W G σ t.heap by rw [ht]; exact hP)⟩, hS.F ht⟩) hS.2.2 d hk
theorem f_blind {sz : Nat} {av : List Value} (hE : f_E G E) : FrameBlind (f_Pc G E sz σ av) := fun a U g mk q => by
  obtain ⟨q0, q1, qP, qK, qE⟩ := q
  exact ⟨q0, q1, qP, va_K.moved (u := U) (U := U.calling g mk a) (Vm.Alike.refl U.vm) qK, hE.2 sz a U g mk qE⟩
theorem f_pre {H : Heap} {locs : List Loc} {av : List Value} (C : fc z G cc nL own) (hE : f_E G E) (hz : E z.2.2.2.2.1.heap.size z.2.2.2.2.1) (hP : f_W G σ H) (hS : va_S (f_A G z.2.2.2.2.1.heap.size) z.2.2.2.2.1.heap H locs) : ∀ U : State, U.heap = H → z.2.2.2.2.1.WarmedH U.vm → f_Pc G E H.size σ av av.toArray U := by
  intro U hU hW
  subst hU
  exact ⟨rfl, rfl, hP, va_K.moved hW.alike C.2.2.2.2.2.1, hE.1 _ U locs hz hS hW⟩
theorem f_sub {H : Heap} {H0 : Heap} {locs : List Loc} {A : Nat → Prop} (hS : va_S A H0 H locs) (q : Nat) (h : f_A G H.size q) : f_A G H0.size q := h.imp id (fun h => Nat.le_trans hS.1 h)
theorem v_cVI (C : fc z G cc nL own) (hE : f_E G E) (hz : E z.2.2.2.2.1.heap.size z.2.2.2.2.1) {dd : Nat} (hR : z.2.2.2.1 = f_rm dd) {y : MethodName} {bytes : ByteArray} {maxL d index n k ci nf : Nat} {fs : Nat → Nat ⊕ Bool} {T : u_T} {CN : String} {ret : Option FieldType} {ws : List Cond} {As : List Value} {post : Int → fS → Prop}
    (hM : f_M z.2.1 G E y (Cond.code y bytes maxL ret :: ws) d σ (.ref (G.2.2.2.1 k) :: As) (f_QI post G)) (dg : decode cc pc = .ok (.invokevirtual index, 3)) (hN : k < G.2.2.2.2.2.2) (hY : G.2.2.2.2.2.1 k = .inl (ci, nf, fs)) (hc : G.2.1[ci]? = some (CN, T, nf)) (hg : GoodIn A9 (wsV own index CN y (Cond.code y bytes maxL ret :: ws)))
    (hd : y.cls = CN ∧ y.cls ≠ "java/lang/invoke/MethodHandle" ∧ y.cls ≠ "java/lang/invoke/VarHandle" ∧ (parseMethodDescriptor y.desc).map (fun d => d.parameters.length) = some n) (hlev : d + 1 ≤ dd) (hml : maxL ≤ 21) (hn : As.length = n) (hst : (st.map fun v => v.category).sum ≤ 8) {st0 : List Value} (hst0 : st0 = As.reverse ++ .ref (G.2.2.2.1 k) :: st) (hcs : kc = 0 ∧ ks = 0)
    (kk : ∀ (r : Int) (σ' : fS), post r σ' → fv z G nL Q kc ks σ' (pc + 3) lv (.int (fI r) :: st)) : fv z G nL Q kc ks σ pc lv st0 := by
  intro H locs ls hP hS hl
  obtain ⟨rfl, rfl⟩ := hcs
  subst hst0
  refine va_calli (va_runV (As := As) (rest := st) ⟨C.1, C.2.1, C.2.2.1, C.2.2.2.1, C.2.2.2.2.1⟩ (hM H.size) (cwV n C.2.2.2.2.1 hg rfl rfl rfl hd ⟨by rw [hR]; exact hlev, by rw [hR]; show 8 + (maxL + 11) + 40 * d ≤ 40 * dd; omega⟩) ⟨f_blind hE, va_recv C.2.2.2.2.2.1 hP hc (f_at1 hN hY), f_pre C hE hz hP hS⟩ rfl hn hl.1 rfl (lv_room hst) dg ⟨by rw [hR]; exact Nat.zero_le _, by rw [hR]; exact Nat.zero_le _⟩) hS (fun q _ h => f_sub hS q h) (fun q h => f_sub hS q h) ?_
  intro r u t H1 locs1 ht _ hw hB _ _ hS1
  obtain ⟨rfl, hp⟩ := hw
  exact kk u.1 u.2 hp H1 locs1 ls (by rw [← ht]; exact hB) hS1 hl
theorem v_cVV (C : fc z G cc nL own) (hE : f_E G E) (hz : E z.2.2.2.2.1.heap.size z.2.2.2.2.1) {dd : Nat} (hR : z.2.2.2.1 = f_rm dd) {y : MethodName} {bytes : ByteArray} {maxL d index n k ci nf : Nat} {fs : Nat → Nat ⊕ Bool} {T : u_T} {CN : String} {ret : Option FieldType} {ws : List Cond} {As : List Value} {post : fS → Prop}
    (hM : f_M z.2.1 G E y (Cond.code y bytes maxL ret :: ws) d σ (.ref (G.2.2.2.1 k) :: As) (f_QV post G)) (dg : decode cc pc = .ok (.invokevirtual index, 3)) (hN : k < G.2.2.2.2.2.2) (hY : G.2.2.2.2.2.1 k = .inl (ci, nf, fs)) (hc : G.2.1[ci]? = some (CN, T, nf)) (hg : GoodIn A9 (wsV own index CN y (Cond.code y bytes maxL ret :: ws)))
    (hd : y.cls = CN ∧ y.cls ≠ "java/lang/invoke/MethodHandle" ∧ y.cls ≠ "java/lang/invoke/VarHandle" ∧ (parseMethodDescriptor y.desc).map (fun d => d.parameters.length) = some n) (hlev : d + 1 ≤ dd) (hml : maxL ≤ 21) (hn : As.length = n) (hst : (st.map fun v => v.category).sum ≤ 8) {st0 : List Value} (hst0 : st0 = As.reverse ++ .ref (G.2.2.2.1 k) :: st) (hcs : kc = 0 ∧ ks = 0)
    (kk : ∀ (σ' : fS), post σ' → fv z G nL Q kc ks σ' (pc + 3) lv st) : fv z G nL Q kc ks σ pc lv st0 := by
  intro H locs ls hP hS hl
  obtain ⟨rfl, rfl⟩ := hcs
  subst hst0
  refine va_callv (va_runV (As := As) (rest := st) ⟨C.1, C.2.1, C.2.2.1, C.2.2.2.1, C.2.2.2.2.1⟩ (hM H.size) (cwV n C.2.2.2.2.1 hg rfl rfl rfl hd ⟨by rw [hR]; exact hlev, by rw [hR]; show 8 + (maxL + 11) + 40 * d ≤ 40 * dd; omega⟩) ⟨f_blind hE, va_recv C.2.2.2.2.2.1 hP hc (f_at1 hN hY), f_pre C hE hz hP hS⟩ rfl hn hl.1 rfl (lv_room hst) dg ⟨by rw [hR]; exact Nat.zero_le _, by rw [hR]; exact Nat.zero_le _⟩) hS (fun q _ h => f_sub hS q h) (fun q h => f_sub hS q h) ?_
  intro u t H1 locs1 ht _ hp hB _ _ hS1
  exact kk u hp H1 locs1 ls (by rw [← ht]; exact hB) hS1 hl
theorem v_cSI (C : fc z G cc nL own) (hE : f_E G E) (hz : E z.2.2.2.2.1.heap.size z.2.2.2.2.1) {dd : Nat} (hR : z.2.2.2.1 = f_rm dd) {y : MethodName} {bytes : ByteArray} {maxL d index n : Nat} {ret : Option FieldType} {ws : List Cond} {As : List Value} {post : Int → fS → Prop}
    (hM : f_M z.2.1 G E y (Cond.code y bytes maxL ret :: ws) d σ As (f_QI post G)) (dg : decode cc pc = .ok (.invokestatic index, 3)) (hg : GoodIn A9 (va_wsS own index y (Cond.code y bytes maxL ret :: ws)))
    (hd : y.cls ≠ "java/lang/invoke/MethodHandle" ∧ y.cls ≠ "java/lang/invoke/VarHandle" ∧ (parseMethodDescriptor y.desc).map (fun d => d.parameters.length) = some n) (hlev : d + 1 ≤ dd) (hml : maxL ≤ 21) (hn : As.length = n) (hst : (st.map fun v => v.category).sum ≤ 8) {st0 : List Value} (hst0 : st0 = As.reverse ++ st) (hcs : kc = 0 ∧ ks = 0)
    (kk : ∀ (r : Int) (σ' : fS), post r σ' → fv z G nL Q kc ks σ' (pc + 3) lv (.int (fI r) :: st)) : fv z G nL Q kc ks σ pc lv st0 := by
  intro H locs ls hP hS hl
  obtain ⟨rfl, rfl⟩ := hcs
  subst hst0
  refine va_calli (va_runS (As := As) (rest := st) ⟨C.1, C.2.1, C.2.2.1, C.2.2.2.1, C.2.2.2.2.1⟩ (hM H.size) (va_cwS n C.2.2.2.2.1 hg rfl rfl rfl hd ⟨by rw [hR]; exact hlev, by rw [hR]; show 8 + (maxL + 11) + 40 * d ≤ 40 * dd; omega⟩) ⟨f_blind hE, f_pre C hE hz hP hS⟩ rfl hn hl.1 rfl (lv_room hst) dg ⟨by rw [hR]; exact Nat.zero_le _, by rw [hR]; exact Nat.zero_le _⟩) hS (fun q _ h => f_sub hS q h) (fun q h => f_sub hS q h) ?_
  intro r u t H1 locs1 ht _ hw hB _ _ hS1
  obtain ⟨rfl, hp⟩ := hw
  exact kk u.1 u.2 hp H1 locs1 ls (by rw [← ht]; exact hB) hS1 hl
theorem v_cSV (C : fc z G cc nL own) (hE : f_E G E) (hz : E z.2.2.2.2.1.heap.size z.2.2.2.2.1) {dd : Nat} (hR : z.2.2.2.1 = f_rm dd) {y : MethodName} {bytes : ByteArray} {maxL d index n : Nat} {ret : Option FieldType} {ws : List Cond} {As : List Value} {post : fS → Prop}
    (hM : f_M z.2.1 G E y (Cond.code y bytes maxL ret :: ws) d σ As (f_QV post G)) (dg : decode cc pc = .ok (.invokestatic index, 3)) (hg : GoodIn A9 (va_wsS own index y (Cond.code y bytes maxL ret :: ws)))
    (hd : y.cls ≠ "java/lang/invoke/MethodHandle" ∧ y.cls ≠ "java/lang/invoke/VarHandle" ∧ (parseMethodDescriptor y.desc).map (fun d => d.parameters.length) = some n) (hlev : d + 1 ≤ dd) (hml : maxL ≤ 21) (hn : As.length = n) (hst : (st.map fun v => v.category).sum ≤ 8) {st0 : List Value} (hst0 : st0 = As.reverse ++ st) (hcs : kc = 0 ∧ ks = 0)
    (kk : ∀ (σ' : fS), post σ' → fv z G nL Q kc ks σ' (pc + 3) lv st) : fv z G nL Q kc ks σ pc lv st0 := by
  intro H locs ls hP hS hl
  obtain ⟨rfl, rfl⟩ := hcs
  subst hst0
  refine va_callv (va_runS (As := As) (rest := st) ⟨C.1, C.2.1, C.2.2.1, C.2.2.2.1, C.2.2.2.2.1⟩ (hM H.size) (va_cwS n C.2.2.2.2.1 hg rfl rfl rfl hd ⟨by rw [hR]; exact hlev, by rw [hR]; show 8 + (maxL + 11) + 40 * d ≤ 40 * dd; omega⟩) ⟨f_blind hE, f_pre C hE hz hP hS⟩ rfl hn hl.1 rfl (lv_room hst) dg ⟨by rw [hR]; exact Nat.zero_le _, by rw [hR]; exact Nat.zero_le _⟩) hS (fun q _ h => f_sub hS q h) (fun q h => f_sub hS q h) ?_
  intro u t H1 locs1 ht _ hp hB _ _ hS1
  exact kk u hp H1 locs1 ls (by rw [← ht]; exact hB) hS1 hl
end FR
end
section
def RM : String := "RevisionWriteModel"
abbrev cM_init : ByteArray := prog_10_method_1_code
def yM_init : MethodName := ⟨RM, "<init>", "()V"⟩
theorem wM_init : Cond.code yM_init cM_init 1 none ∈ A9 := in9 (by decide +kernel) rfl
theorem dM_init_0 : decode cM_init 0 = .ok (.aload_n 0, 1) := by decide +kernel
theorem dM_init_1 : decode cM_init 1 = .ok (.invokespecial 1, 3) := by decide +kernel
theorem dM_init_4 : decode cM_init 4 = .ok (.aload_n 0, 1) := by decide +kernel
theorem dM_init_5 : decode cM_init 5 = .ok (.bipush 41, 2) := by decide +kernel
theorem dM_init_7 : decode cM_init 7 = .ok (.newarray .boolean, 2) := by decide +kernel
theorem dM_init_9 : decode cM_init 9 = .ok (.putfield 7, 3) := by decide +kernel
theorem lM_7 : Cond.fieldLink RM 7 "RevisionWriteModel" "isThere" "[Z" ∈ A9 := in9 (by decide +kernel) rfl
theorem dM_init_12 : decode cM_init 12 = .ok (.aload_n 0, 1) := by decide +kernel
theorem dM_init_13 : decode cM_init 13 = .ok (.bipush 41, 2) := by decide +kernel
theorem dM_init_15 : decode cM_init 15 = .ok (.newarray .boolean, 2) := by decide +kernel
theorem dM_init_17 : decode cM_init 17 = .ok (.putfield 13, 3) := by decide +kernel
theorem lM_13 : Cond.fieldLink RM 13 "RevisionWriteModel" "isFirst" "[Z" ∈ A9 := in9 (by decide +kernel) rfl
theorem dM_init_20 : decode cM_init 20 = .ok (.aload_n 0, 1) := by decide +kernel
theorem dM_init_21 : decode cM_init 21 = .ok (.bipush 41, 2) := by decide +kernel
theorem dM_init_23 : decode cM_init 23 = .ok (.newarray .boolean, 2) := by decide +kernel
theorem dM_init_25 : decode cM_init 25 = .ok (.putfield 16, 3) := by decide +kernel
theorem lM_16 : Cond.fieldLink RM 16 "RevisionWriteModel" "isChanged" "[Z" ∈ A9 := in9 (by decide +kernel) rfl
theorem dM_init_28 : decode cM_init 28 = .ok (.aload_n 0, 1) := by decide +kernel
theorem dM_init_29 : decode cM_init 29 = .ok (.bipush 41, 2) := by decide +kernel
theorem dM_init_31 : decode cM_init 31 = .ok (.newarray .boolean, 2) := by decide +kernel
theorem dM_init_33 : decode cM_init 33 = .ok (.putfield 19, 3) := by decide +kernel
theorem lM_19 : Cond.fieldLink RM 19 "RevisionWriteModel" "wasThere" "[Z" ∈ A9 := in9 (by decide +kernel) rfl
theorem dM_init_36 : decode cM_init 36 = .ok (.aload_n 0, 1) := by decide +kernel
theorem dM_init_37 : decode cM_init 37 = .ok (.bipush 41, 2) := by decide +kernel
theorem dM_init_39 : decode cM_init 39 = .ok (.newarray .int, 2) := by decide +kernel
theorem dM_init_41 : decode cM_init 41 = .ok (.putfield 22, 3) := by decide +kernel
theorem lM_22 : Cond.fieldLink RM 22 "RevisionWriteModel" "sizes" "[I" ∈ A9 := in9 (by decide +kernel) rfl
theorem dM_init_44 : decode cM_init 44 = .ok (.aload_n 0, 1) := by decide +kernel
theorem dM_init_45 : decode cM_init 45 = .ok (.sipush 4920, 3) := by decide +kernel
theorem dM_init_48 : decode cM_init 48 = .ok (.newarray .byte, 2) := by decide +kernel
theorem dM_init_50 : decode cM_init 50 = .ok (.putfield 26, 3) := by decide +kernel
theorem lM_26 : Cond.fieldLink RM 26 "RevisionWriteModel" "octets" "[B" ∈ A9 := in9 (by decide +kernel) rfl
theorem dM_init_53 : decode cM_init 53 = .ok (.aload_n 0, 1) := by decide +kernel
theorem dM_init_54 : decode cM_init 54 = .ok (.sipush 12000, 3) := by decide +kernel
theorem dM_init_57 : decode cM_init 57 = .ok (.newarray .byte, 2) := by decide +kernel
theorem dM_init_59 : decode cM_init 59 = .ok (.putfield 30, 3) := by decide +kernel
theorem lM_30 : Cond.fieldLink RM 30 "RevisionWriteModel" "file" "[B" ∈ A9 := in9 (by decide +kernel) rfl
theorem dM_init_62 : decode cM_init 62 = .ok (.aload_n 0, 1) := by decide +kernel
theorem dM_init_63 : decode cM_init 63 = .ok (.bipush 60, 2) := by decide +kernel
theorem dM_init_65 : decode cM_init 65 = .ok (.newarray .int, 2) := by decide +kernel
theorem dM_init_67 : decode cM_init 67 = .ok (.putfield 33, 3) := by decide +kernel
theorem lM_33 : Cond.fieldLink RM 33 "RevisionWriteModel" "ends" "[I" ∈ A9 := in9 (by decide +kernel) rfl
theorem dM_init_70 : decode cM_init 70 = .ok (.aload_n 0, 1) := by decide +kernel
theorem dM_init_71 : decode cM_init 71 = .ok (.bipush 60, 2) := by decide +kernel
theorem dM_init_73 : decode cM_init 73 = .ok (.newarray .int, 2) := by decide +kernel
theorem dM_init_75 : decode cM_init 75 = .ok (.putfield 36, 3) := by decide +kernel
theorem lM_36 : Cond.fieldLink RM 36 "RevisionWriteModel" "marks" "[I" ∈ A9 := in9 (by decide +kernel) rfl
theorem dM_init_78 : decode cM_init 78 = .ok (.aload_n 0, 1) := by decide +kernel
theorem dM_init_79 : decode cM_init 79 = .ok (.sipush 2460, 3) := by decide +kernel
theorem dM_init_82 : decode cM_init 82 = .ok (.newarray .int, 2) := by decide +kernel
theorem dM_init_84 : decode cM_init 84 = .ok (.putfield 39, 3) := by decide +kernel
theorem lM_39 : Cond.fieldLink RM 39 "RevisionWriteModel" "places" "[I" ∈ A9 := in9 (by decide +kernel) rfl
theorem dM_init_87 : decode cM_init 87 = .ok (.aload_n 0, 1) := by decide +kernel
theorem dM_init_88 : decode cM_init 88 = .ok (.sipush 2460, 3) := by decide +kernel
theorem dM_init_91 : decode cM_init 91 = .ok (.newarray .int, 2) := by decide +kernel
theorem dM_init_93 : decode cM_init 93 = .ok (.putfield 42, 3) := by decide +kernel
theorem lM_42 : Cond.fieldLink RM 42 "RevisionWriteModel" "starts" "[I" ∈ A9 := in9 (by decide +kernel) rfl
theorem dM_init_96 : decode cM_init 96 = .ok (.aload_n 0, 1) := by decide +kernel
theorem dM_init_97 : decode cM_init 97 = .ok (.sipush 2460, 3) := by decide +kernel
theorem dM_init_100 : decode cM_init 100 = .ok (.newarray .int, 2) := by decide +kernel
theorem dM_init_102 : decode cM_init 102 = .ok (.putfield 45, 3) := by decide +kernel
theorem lM_45 : Cond.fieldLink RM 45 "RevisionWriteModel" "counts" "[I" ∈ A9 := in9 (by decide +kernel) rfl
theorem dM_init_105 : decode cM_init 105 = .ok (.aload_n 0, 1) := by decide +kernel
theorem dM_init_106 : decode cM_init 106 = .ok (.bipush 41, 2) := by decide +kernel
theorem dM_init_108 : decode cM_init 108 = .ok (.newarray .int, 2) := by decide +kernel
theorem dM_init_110 : decode cM_init 110 = .ok (.putfield 48, 3) := by decide +kernel
theorem lM_48 : Cond.fieldLink RM 48 "RevisionWriteModel" "recordAt" "[I" ∈ A9 := in9 (by decide +kernel) rfl
theorem dM_init_113 : decode cM_init 113 = .ok (.aload_n 0, 1) := by decide +kernel
theorem dM_init_114 : decode cM_init 114 = .ok (.bipush 41, 2) := by decide +kernel
theorem dM_init_116 : decode cM_init 116 = .ok (.newarray .int, 2) := by decide +kernel
theorem dM_init_118 : decode cM_init 118 = .ok (.putfield 51, 3) := by decide +kernel
theorem lM_51 : Cond.fieldLink RM 51 "RevisionWriteModel" "bytesAt" "[I" ∈ A9 := in9 (by decide +kernel) rfl
theorem dM_init_121 : decode cM_init 121 = .ok (.aload_n 0, 1) := by decide +kernel
theorem dM_init_122 : decode cM_init 122 = .ok (.bipush 60, 2) := by decide +kernel
theorem dM_init_124 : decode cM_init 124 = .ok (.newarray .int, 2) := by decide +kernel
theorem dM_init_126 : decode cM_init 126 = .ok (.putfield 54, 3) := by decide +kernel
theorem lM_54 : Cond.fieldLink RM 54 "RevisionWriteModel" "xs" "[I" ∈ A9 := in9 (by decide +kernel) rfl
theorem dM_init_129 : decode cM_init 129 = .ok (.aload_n 0, 1) := by decide +kernel
theorem dM_init_130 : decode cM_init 130 = .ok (.bipush 40, 2) := by decide +kernel
theorem dM_init_132 : decode cM_init 132 = .ok (.newarray .int, 2) := by decide +kernel
theorem dM_init_134 : decode cM_init 134 = .ok (.putfield 57, 3) := by decide +kernel
theorem lM_57 : Cond.fieldLink RM 57 "RevisionWriteModel" "rowObject" "[I" ∈ A9 := in9 (by decide +kernel) rfl
theorem dM_init_137 : decode cM_init 137 = .ok (.aload_n 0, 1) := by decide +kernel
theorem dM_init_138 : decode cM_init 138 = .ok (.bipush 40, 2) := by decide +kernel
theorem dM_init_140 : decode cM_init 140 = .ok (.newarray .int, 2) := by decide +kernel
theorem dM_init_142 : decode cM_init 142 = .ok (.putfield 60, 3) := by decide +kernel
theorem lM_60 : Cond.fieldLink RM 60 "RevisionWriteModel" "rowKind" "[I" ∈ A9 := in9 (by decide +kernel) rfl
theorem dM_init_145 : decode cM_init 145 = .ok (.return_, 1) := by decide +kernel
abbrev cM_thrown : ByteArray := prog_10_method_2_code
def yM_thrown : MethodName := ⟨RM, "thrown", "()I"⟩
theorem wM_thrown : Cond.code yM_thrown cM_thrown 1 (some .int) ∈ A9 := in9 (by decide +kernel) rfl
theorem dM_thrown_0 : decode cM_thrown 0 = .ok (.aload_n 0, 1) := by decide +kernel
theorem dM_thrown_1 : decode cM_thrown 1 = .ok (.getfield 63, 3) := by decide +kernel
theorem lM_63 : Cond.fieldLink RM 63 "RevisionWriteModel" "refusal" "I" ∈ A9 := in9 (by decide +kernel) rfl
theorem dM_thrown_4 : decode cM_thrown 4 = .ok (.ireturn, 1) := by decide +kernel
abbrev cM_isObject : ByteArray := prog_10_method_3_code
def yM_isObject : MethodName := ⟨RM, "isObject", "(I)Z"⟩
theorem wM_isObject : Cond.code yM_isObject cM_isObject 1 (some .boolean) ∈ A9 := in9 (by decide +kernel) rfl
theorem dM_isObject_0 : decode cM_isObject 0 = .ok (.iload_n 0, 1) := by decide +kernel
theorem dM_isObject_1 : decode cM_isObject 1 = .ok (.iconst 1, 1) := by decide +kernel
theorem dM_isObject_2 : decode cM_isObject 2 = .ok (.if_icmp .lt 13, 3) := by decide +kernel
theorem dM_isObject_5 : decode cM_isObject 5 = .ok (.iload_n 0, 1) := by decide +kernel
theorem dM_isObject_6 : decode cM_isObject 6 = .ok (.bipush 40, 2) := by decide +kernel
theorem dM_isObject_8 : decode cM_isObject 8 = .ok (.if_icmp .gt 7, 3) := by decide +kernel
theorem dM_isObject_11 : decode cM_isObject 11 = .ok (.iconst 1, 1) := by decide +kernel
theorem dM_isObject_12 : decode cM_isObject 12 = .ok (.goto 4, 3) := by decide +kernel
theorem dM_isObject_15 : decode cM_isObject 15 = .ok (.iconst 0, 1) := by decide +kernel
theorem dM_isObject_16 : decode cM_isObject 16 = .ok (.ireturn, 1) := by decide +kernel
abbrev cM_has : ByteArray := prog_10_method_4_code
def yM_has : MethodName := ⟨RM, "has", "(I)Z"⟩
theorem wM_has : Cond.code yM_has cM_has 2 (some .boolean) ∈ A9 := in9 (by decide +kernel) rfl
theorem dM_has_0 : decode cM_has 0 = .ok (.iload_n 1, 1) := by decide +kernel
theorem dM_has_1 : decode cM_has 1 = .ok (.invokestatic 67, 3) := by decide +kernel
theorem dM_has_4 : decode cM_has 4 = .ok (.ifCond .eq 16, 3) := by decide +kernel
theorem dM_has_7 : decode cM_has 7 = .ok (.aload_n 0, 1) := by decide +kernel
theorem dM_has_8 : decode cM_has 8 = .ok (.getfield 7, 3) := by decide +kernel
theorem dM_has_11 : decode cM_has 11 = .ok (.iload_n 1, 1) := by decide +kernel
theorem dM_has_12 : decode cM_has 12 = .ok (.baload, 1) := by decide +kernel
theorem dM_has_13 : decode cM_has 13 = .ok (.ifCond .eq 7, 3) := by decide +kernel
theorem dM_has_16 : decode cM_has 16 = .ok (.iconst 1, 1) := by decide +kernel
theorem dM_has_17 : decode cM_has 17 = .ok (.goto 4, 3) := by decide +kernel
theorem dM_has_20 : decode cM_has 20 = .ok (.iconst 0, 1) := by decide +kernel
theorem dM_has_21 : decode cM_has 21 = .ok (.ireturn, 1) := by decide +kernel
abbrev cM_object : ByteArray := prog_10_method_5_code
def yM_object : MethodName := ⟨RM, "object", "(II)V"⟩
theorem wM_object : Cond.code yM_object cM_object 4 none ∈ A9 := in9 (by decide +kernel) rfl
theorem dM_object_0 : decode cM_object 0 = .ok (.aload_n 0, 1) := by decide +kernel
theorem dM_object_1 : decode cM_object 1 = .ok (.iload_n 1, 1) := by decide +kernel
theorem dM_object_2 : decode cM_object 2 = .ok (.invokestatic 67, 3) := by decide +kernel
theorem dM_object_5 : decode cM_object 5 = .ok (.ifCond .ne 7, 3) := by decide +kernel
theorem dM_object_8 : decode cM_object 8 = .ok (.iconst 1, 1) := by decide +kernel
theorem dM_object_9 : decode cM_object 9 = .ok (.goto 18, 3) := by decide +kernel
theorem dM_object_12 : decode cM_object 12 = .ok (.iload_n 2, 1) := by decide +kernel
theorem dM_object_13 : decode cM_object 13 = .ok (.ifCond .lt 9, 3) := by decide +kernel
theorem dM_object_16 : decode cM_object 16 = .ok (.iload_n 2, 1) := by decide +kernel
theorem dM_object_17 : decode cM_object 17 = .ok (.bipush 120, 2) := by decide +kernel
theorem dM_object_19 : decode cM_object 19 = .ok (.if_icmp .le 7, 3) := by decide +kernel
theorem dM_object_22 : decode cM_object 22 = .ok (.iconst 2, 1) := by decide +kernel
theorem dM_object_23 : decode cM_object 23 = .ok (.goto 4, 3) := by decide +kernel
theorem dM_object_26 : decode cM_object 26 = .ok (.iconst 0, 1) := by decide +kernel
theorem dM_object_27 : decode cM_object 27 = .ok (.putfield 63, 3) := by decide +kernel
theorem dM_object_30 : decode cM_object 30 = .ok (.aload_n 0, 1) := by decide +kernel
theorem dM_object_31 : decode cM_object 31 = .ok (.getfield 63, 3) := by decide +kernel
theorem dM_object_34 : decode cM_object 34 = .ok (.ifCond .le 4, 3) := by decide +kernel
theorem dM_object_37 : decode cM_object 37 = .ok (.return_, 1) := by decide +kernel
theorem dM_object_38 : decode cM_object 38 = .ok (.aload_n 0, 1) := by decide +kernel
theorem dM_object_39 : decode cM_object 39 = .ok (.getfield 7, 3) := by decide +kernel
theorem dM_object_42 : decode cM_object 42 = .ok (.iload_n 1, 1) := by decide +kernel
theorem dM_object_43 : decode cM_object 43 = .ok (.iconst 1, 1) := by decide +kernel
theorem dM_object_44 : decode cM_object 44 = .ok (.bastore, 1) := by decide +kernel
theorem dM_object_45 : decode cM_object 45 = .ok (.aload_n 0, 1) := by decide +kernel
theorem dM_object_46 : decode cM_object 46 = .ok (.getfield 13, 3) := by decide +kernel
theorem dM_object_49 : decode cM_object 49 = .ok (.iload_n 1, 1) := by decide +kernel
theorem dM_object_50 : decode cM_object 50 = .ok (.iconst 0, 1) := by decide +kernel
theorem dM_object_51 : decode cM_object 51 = .ok (.bastore, 1) := by decide +kernel
theorem dM_object_52 : decode cM_object 52 = .ok (.aload_n 0, 1) := by decide +kernel
theorem dM_object_53 : decode cM_object 53 = .ok (.getfield 16, 3) := by decide +kernel
theorem dM_object_56 : decode cM_object 56 = .ok (.iload_n 1, 1) := by decide +kernel
theorem dM_object_57 : decode cM_object 57 = .ok (.iconst 1, 1) := by decide +kernel
theorem dM_object_58 : decode cM_object 58 = .ok (.bastore, 1) := by decide +kernel
theorem dM_object_59 : decode cM_object 59 = .ok (.aload_n 0, 1) := by decide +kernel
theorem dM_object_60 : decode cM_object 60 = .ok (.getfield 22, 3) := by decide +kernel
theorem dM_object_63 : decode cM_object 63 = .ok (.iload_n 1, 1) := by decide +kernel
theorem dM_object_64 : decode cM_object 64 = .ok (.iload_n 2, 1) := by decide +kernel
theorem dM_object_65 : decode cM_object 65 = .ok (.iastore, 1) := by decide +kernel
theorem dM_object_66 : decode cM_object 66 = .ok (.iconst 0, 1) := by decide +kernel
theorem dM_object_67 : decode cM_object 67 = .ok (.istore_n 3, 1) := by decide +kernel
theorem dM_object_68 : decode cM_object 68 = .ok (.iload_n 3, 1) := by decide +kernel
theorem dM_object_69 : decode cM_object 69 = .ok (.bipush 120, 2) := by decide +kernel
theorem dM_object_71 : decode cM_object 71 = .ok (.if_icmp .ge 21, 3) := by decide +kernel
theorem dM_object_74 : decode cM_object 74 = .ok (.aload_n 0, 1) := by decide +kernel
theorem dM_object_75 : decode cM_object 75 = .ok (.getfield 26, 3) := by decide +kernel
theorem dM_object_78 : decode cM_object 78 = .ok (.bipush 120, 2) := by decide +kernel
theorem dM_object_80 : decode cM_object 80 = .ok (.iload_n 1, 1) := by decide +kernel
theorem dM_object_81 : decode cM_object 81 = .ok (.imul, 1) := by decide +kernel
theorem dM_object_82 : decode cM_object 82 = .ok (.iload_n 3, 1) := by decide +kernel
theorem dM_object_83 : decode cM_object 83 = .ok (.iadd, 1) := by decide +kernel
theorem dM_object_84 : decode cM_object 84 = .ok (.iconst 0, 1) := by decide +kernel
theorem dM_object_85 : decode cM_object 85 = .ok (.bastore, 1) := by decide +kernel
theorem dM_object_86 : decode cM_object 86 = .ok (.iinc 3 1, 3) := by decide +kernel
theorem dM_object_89 : decode cM_object 89 = .ok (.goto (-21), 3) := by decide +kernel
theorem dM_object_92 : decode cM_object 92 = .ok (.return_, 1) := by decide +kernel
abbrev cM_isByte : ByteArray := prog_10_method_6_code
def yM_isByte : MethodName := ⟨RM, "isByte", "(II)Z"⟩
theorem wM_isByte : Cond.code yM_isByte cM_isByte 3 (some .boolean) ∈ A9 := in9 (by decide +kernel) rfl
theorem dM_isByte_0 : decode cM_isByte 0 = .ok (.aload_n 0, 1) := by decide +kernel
theorem dM_isByte_1 : decode cM_isByte 1 = .ok (.aload_n 0, 1) := by decide +kernel
theorem dM_isByte_2 : decode cM_isByte 2 = .ok (.iload_n 1, 1) := by decide +kernel
theorem dM_isByte_3 : decode cM_isByte 3 = .ok (.invokevirtual 71, 3) := by decide +kernel
theorem dM_isByte_6 : decode cM_isByte 6 = .ok (.ifCond .eq 17, 3) := by decide +kernel
theorem dM_isByte_9 : decode cM_isByte 9 = .ok (.iload_n 2, 1) := by decide +kernel
theorem dM_isByte_10 : decode cM_isByte 10 = .ok (.ifCond .lt 13, 3) := by decide +kernel
theorem dM_isByte_13 : decode cM_isByte 13 = .ok (.iload_n 2, 1) := by decide +kernel
theorem dM_isByte_14 : decode cM_isByte 14 = .ok (.aload_n 0, 1) := by decide +kernel
theorem dM_isByte_15 : decode cM_isByte 15 = .ok (.getfield 22, 3) := by decide +kernel
theorem dM_isByte_18 : decode cM_isByte 18 = .ok (.iload_n 1, 1) := by decide +kernel
theorem dM_isByte_19 : decode cM_isByte 19 = .ok (.iaload, 1) := by decide +kernel
theorem dM_isByte_20 : decode cM_isByte 20 = .ok (.if_icmp .lt 7, 3) := by decide +kernel
theorem dM_isByte_23 : decode cM_isByte 23 = .ok (.iconst 1, 1) := by decide +kernel
theorem dM_isByte_24 : decode cM_isByte 24 = .ok (.goto 4, 3) := by decide +kernel
theorem dM_isByte_27 : decode cM_isByte 27 = .ok (.iconst 0, 1) := by decide +kernel
theorem dM_isByte_28 : decode cM_isByte 28 = .ok (.putfield 63, 3) := by decide +kernel
theorem dM_isByte_31 : decode cM_isByte 31 = .ok (.aload_n 0, 1) := by decide +kernel
theorem dM_isByte_32 : decode cM_isByte 32 = .ok (.getfield 63, 3) := by decide +kernel
theorem dM_isByte_35 : decode cM_isByte 35 = .ok (.ifCond .ne 7, 3) := by decide +kernel
theorem dM_isByte_38 : decode cM_isByte 38 = .ok (.iconst 1, 1) := by decide +kernel
theorem dM_isByte_39 : decode cM_isByte 39 = .ok (.goto 4, 3) := by decide +kernel
theorem dM_isByte_42 : decode cM_isByte 42 = .ok (.iconst 0, 1) := by decide +kernel
theorem dM_isByte_43 : decode cM_isByte 43 = .ok (.ireturn, 1) := by decide +kernel
abbrev cM_octet : ByteArray := prog_10_method_7_code
def yM_octet : MethodName := ⟨RM, "octet", "(IIB)B"⟩
theorem wM_octet : Cond.code yM_octet cM_octet 5 (some .byte) ∈ A9 := in9 (by decide +kernel) rfl
theorem dM_octet_0 : decode cM_octet 0 = .ok (.aload_n 0, 1) := by decide +kernel
theorem dM_octet_1 : decode cM_octet 1 = .ok (.iload_n 1, 1) := by decide +kernel
theorem dM_octet_2 : decode cM_octet 2 = .ok (.iload_n 2, 1) := by decide +kernel
theorem dM_octet_3 : decode cM_octet 3 = .ok (.invokevirtual 74, 3) := by decide +kernel
theorem dM_octet_6 : decode cM_octet 6 = .ok (.ifCond .ne 5, 3) := by decide +kernel
theorem dM_octet_9 : decode cM_octet 9 = .ok (.iconst 0, 1) := by decide +kernel
theorem dM_octet_10 : decode cM_octet 10 = .ok (.ireturn, 1) := by decide +kernel
theorem dM_octet_11 : decode cM_octet 11 = .ok (.aload_n 0, 1) := by decide +kernel
theorem dM_octet_12 : decode cM_octet 12 = .ok (.getfield 26, 3) := by decide +kernel
theorem dM_octet_15 : decode cM_octet 15 = .ok (.bipush 120, 2) := by decide +kernel
theorem dM_octet_17 : decode cM_octet 17 = .ok (.iload_n 1, 1) := by decide +kernel
theorem dM_octet_18 : decode cM_octet 18 = .ok (.imul, 1) := by decide +kernel
theorem dM_octet_19 : decode cM_octet 19 = .ok (.iload_n 2, 1) := by decide +kernel
theorem dM_octet_20 : decode cM_octet 20 = .ok (.iadd, 1) := by decide +kernel
theorem dM_octet_21 : decode cM_octet 21 = .ok (.baload, 1) := by decide +kernel
theorem dM_octet_22 : decode cM_octet 22 = .ok (.istore 4, 2) := by decide +kernel
theorem dM_octet_24 : decode cM_octet 24 = .ok (.aload_n 0, 1) := by decide +kernel
theorem dM_octet_25 : decode cM_octet 25 = .ok (.getfield 26, 3) := by decide +kernel
theorem dM_octet_28 : decode cM_octet 28 = .ok (.bipush 120, 2) := by decide +kernel
theorem dM_octet_30 : decode cM_octet 30 = .ok (.iload_n 1, 1) := by decide +kernel
theorem dM_octet_31 : decode cM_octet 31 = .ok (.imul, 1) := by decide +kernel
theorem dM_octet_32 : decode cM_octet 32 = .ok (.iload_n 2, 1) := by decide +kernel
theorem dM_octet_33 : decode cM_octet 33 = .ok (.iadd, 1) := by decide +kernel
theorem dM_octet_34 : decode cM_octet 34 = .ok (.iload_n 3, 1) := by decide +kernel
theorem dM_octet_35 : decode cM_octet 35 = .ok (.bastore, 1) := by decide +kernel
theorem dM_octet_36 : decode cM_octet 36 = .ok (.aload_n 0, 1) := by decide +kernel
theorem dM_octet_37 : decode cM_octet 37 = .ok (.getfield 16, 3) := by decide +kernel
theorem dM_octet_40 : decode cM_octet 40 = .ok (.iload_n 1, 1) := by decide +kernel
theorem dM_octet_41 : decode cM_octet 41 = .ok (.aload_n 0, 1) := by decide +kernel
theorem dM_octet_42 : decode cM_octet 42 = .ok (.getfield 16, 3) := by decide +kernel
theorem dM_octet_45 : decode cM_octet 45 = .ok (.iload_n 1, 1) := by decide +kernel
theorem dM_octet_46 : decode cM_octet 46 = .ok (.baload, 1) := by decide +kernel
theorem dM_octet_47 : decode cM_octet 47 = .ok (.ifCond .ne 9, 3) := by decide +kernel
theorem dM_octet_50 : decode cM_octet 50 = .ok (.iload 4, 2) := by decide +kernel
theorem dM_octet_52 : decode cM_octet 52 = .ok (.iload_n 3, 1) := by decide +kernel
theorem dM_octet_53 : decode cM_octet 53 = .ok (.if_icmp .eq 7, 3) := by decide +kernel
theorem dM_octet_56 : decode cM_octet 56 = .ok (.iconst 1, 1) := by decide +kernel
theorem dM_octet_57 : decode cM_octet 57 = .ok (.goto 4, 3) := by decide +kernel
theorem dM_octet_60 : decode cM_octet 60 = .ok (.iconst 0, 1) := by decide +kernel
theorem dM_octet_61 : decode cM_octet 61 = .ok (.bastore, 1) := by decide +kernel
theorem dM_octet_62 : decode cM_octet 62 = .ok (.iload 4, 2) := by decide +kernel
theorem dM_octet_64 : decode cM_octet 64 = .ok (.ireturn, 1) := by decide +kernel
abbrev cM_drop : ByteArray := prog_10_method_8_code
def yM_drop : MethodName := ⟨RM, "drop", "(I)Z"⟩
theorem wM_drop : Cond.code yM_drop cM_drop 2 (some .boolean) ∈ A9 := in9 (by decide +kernel) rfl
theorem dM_drop_0 : decode cM_drop 0 = .ok (.aload_n 0, 1) := by decide +kernel
theorem dM_drop_1 : decode cM_drop 1 = .ok (.iload_n 1, 1) := by decide +kernel
theorem dM_drop_2 : decode cM_drop 2 = .ok (.invokestatic 67, 3) := by decide +kernel
theorem dM_drop_5 : decode cM_drop 5 = .ok (.ifCond .eq 7, 3) := by decide +kernel
theorem dM_drop_8 : decode cM_drop 8 = .ok (.iconst 0, 1) := by decide +kernel
theorem dM_drop_9 : decode cM_drop 9 = .ok (.goto 4, 3) := by decide +kernel
theorem dM_drop_12 : decode cM_drop 12 = .ok (.iconst 1, 1) := by decide +kernel
theorem dM_drop_13 : decode cM_drop 13 = .ok (.putfield 63, 3) := by decide +kernel
theorem dM_drop_16 : decode cM_drop 16 = .ok (.aload_n 0, 1) := by decide +kernel
theorem dM_drop_17 : decode cM_drop 17 = .ok (.getfield 63, 3) := by decide +kernel
theorem dM_drop_20 : decode cM_drop 20 = .ok (.ifCond .gt 12, 3) := by decide +kernel
theorem dM_drop_23 : decode cM_drop 23 = .ok (.aload_n 0, 1) := by decide +kernel
theorem dM_drop_24 : decode cM_drop 24 = .ok (.getfield 7, 3) := by decide +kernel
theorem dM_drop_27 : decode cM_drop 27 = .ok (.iload_n 1, 1) := by decide +kernel
theorem dM_drop_28 : decode cM_drop 28 = .ok (.baload, 1) := by decide +kernel
theorem dM_drop_29 : decode cM_drop 29 = .ok (.ifCond .ne 5, 3) := by decide +kernel
theorem dM_drop_32 : decode cM_drop 32 = .ok (.iconst 0, 1) := by decide +kernel
theorem dM_drop_33 : decode cM_drop 33 = .ok (.ireturn, 1) := by decide +kernel
theorem dM_drop_34 : decode cM_drop 34 = .ok (.aload_n 0, 1) := by decide +kernel
theorem dM_drop_35 : decode cM_drop 35 = .ok (.getfield 7, 3) := by decide +kernel
theorem dM_drop_38 : decode cM_drop 38 = .ok (.iload_n 1, 1) := by decide +kernel
theorem dM_drop_39 : decode cM_drop 39 = .ok (.iconst 0, 1) := by decide +kernel
theorem dM_drop_40 : decode cM_drop 40 = .ok (.bastore, 1) := by decide +kernel
theorem dM_drop_41 : decode cM_drop 41 = .ok (.aload_n 0, 1) := by decide +kernel
theorem dM_drop_42 : decode cM_drop 42 = .ok (.getfield 13, 3) := by decide +kernel
theorem dM_drop_45 : decode cM_drop 45 = .ok (.iload_n 1, 1) := by decide +kernel
theorem dM_drop_46 : decode cM_drop 46 = .ok (.iconst 0, 1) := by decide +kernel
theorem dM_drop_47 : decode cM_drop 47 = .ok (.bastore, 1) := by decide +kernel
theorem dM_drop_48 : decode cM_drop 48 = .ok (.aload_n 0, 1) := by decide +kernel
theorem dM_drop_49 : decode cM_drop 49 = .ok (.getfield 16, 3) := by decide +kernel
theorem dM_drop_52 : decode cM_drop 52 = .ok (.iload_n 1, 1) := by decide +kernel
theorem dM_drop_53 : decode cM_drop 53 = .ok (.aload_n 0, 1) := by decide +kernel
theorem dM_drop_54 : decode cM_drop 54 = .ok (.getfield 19, 3) := by decide +kernel
theorem dM_drop_57 : decode cM_drop 57 = .ok (.iload_n 1, 1) := by decide +kernel
theorem dM_drop_58 : decode cM_drop 58 = .ok (.baload, 1) := by decide +kernel
theorem dM_drop_59 : decode cM_drop 59 = .ok (.bastore, 1) := by decide +kernel
theorem dM_drop_60 : decode cM_drop 60 = .ok (.iconst 1, 1) := by decide +kernel
theorem dM_drop_61 : decode cM_drop 61 = .ok (.ireturn, 1) := by decide +kernel
abbrev cM_first : ByteArray := prog_10_method_9_code
def yM_first : MethodName := ⟨RM, "first", "(IZ)Z"⟩
theorem wM_first : Cond.code yM_first cM_first 3 (some .boolean) ∈ A9 := in9 (by decide +kernel) rfl
theorem dM_first_0 : decode cM_first 0 = .ok (.aload_n 0, 1) := by decide +kernel
theorem dM_first_1 : decode cM_first 1 = .ok (.aload_n 0, 1) := by decide +kernel
theorem dM_first_2 : decode cM_first 2 = .ok (.iload_n 1, 1) := by decide +kernel
theorem dM_first_3 : decode cM_first 3 = .ok (.invokevirtual 71, 3) := by decide +kernel
theorem dM_first_6 : decode cM_first 6 = .ok (.ifCond .eq 7, 3) := by decide +kernel
theorem dM_first_9 : decode cM_first 9 = .ok (.iconst 0, 1) := by decide +kernel
theorem dM_first_10 : decode cM_first 10 = .ok (.goto 4, 3) := by decide +kernel
theorem dM_first_13 : decode cM_first 13 = .ok (.iconst 1, 1) := by decide +kernel
theorem dM_first_14 : decode cM_first 14 = .ok (.putfield 63, 3) := by decide +kernel
theorem dM_first_17 : decode cM_first 17 = .ok (.aload_n 0, 1) := by decide +kernel
theorem dM_first_18 : decode cM_first 18 = .ok (.getfield 63, 3) := by decide +kernel
theorem dM_first_21 : decode cM_first 21 = .ok (.ifCond .gt 13, 3) := by decide +kernel
theorem dM_first_24 : decode cM_first 24 = .ok (.aload_n 0, 1) := by decide +kernel
theorem dM_first_25 : decode cM_first 25 = .ok (.getfield 13, 3) := by decide +kernel
theorem dM_first_28 : decode cM_first 28 = .ok (.iload_n 1, 1) := by decide +kernel
theorem dM_first_29 : decode cM_first 29 = .ok (.baload, 1) := by decide +kernel
theorem dM_first_30 : decode cM_first 30 = .ok (.iload_n 2, 1) := by decide +kernel
theorem dM_first_31 : decode cM_first 31 = .ok (.if_icmp .ne 5, 3) := by decide +kernel
theorem dM_first_34 : decode cM_first 34 = .ok (.iconst 0, 1) := by decide +kernel
theorem dM_first_35 : decode cM_first 35 = .ok (.ireturn, 1) := by decide +kernel
theorem dM_first_36 : decode cM_first 36 = .ok (.aload_n 0, 1) := by decide +kernel
theorem dM_first_37 : decode cM_first 37 = .ok (.getfield 13, 3) := by decide +kernel
theorem dM_first_40 : decode cM_first 40 = .ok (.iload_n 1, 1) := by decide +kernel
theorem dM_first_41 : decode cM_first 41 = .ok (.iload_n 2, 1) := by decide +kernel
theorem dM_first_42 : decode cM_first 42 = .ok (.bastore, 1) := by decide +kernel
theorem dM_first_43 : decode cM_first 43 = .ok (.iconst 1, 1) := by decide +kernel
theorem dM_first_44 : decode cM_first 44 = .ok (.ireturn, 1) := by decide +kernel
abbrev cM_save : ByteArray := prog_10_method_10_code
def yM_save : MethodName := ⟨RM, "save", "()V"⟩
theorem wM_save : Cond.code yM_save cM_save 2 none ∈ A9 := in9 (by decide +kernel) rfl
theorem dM_save_0 : decode cM_save 0 = .ok (.iconst 1, 1) := by decide +kernel
theorem dM_save_1 : decode cM_save 1 = .ok (.istore_n 1, 1) := by decide +kernel
theorem dM_save_2 : decode cM_save 2 = .ok (.iload_n 1, 1) := by decide +kernel
theorem dM_save_3 : decode cM_save 3 = .ok (.bipush 40, 2) := by decide +kernel
theorem dM_save_5 : decode cM_save 5 = .ok (.if_icmp .gt 28, 3) := by decide +kernel
theorem dM_save_8 : decode cM_save 8 = .ok (.aload_n 0, 1) := by decide +kernel
theorem dM_save_9 : decode cM_save 9 = .ok (.getfield 16, 3) := by decide +kernel
theorem dM_save_12 : decode cM_save 12 = .ok (.iload_n 1, 1) := by decide +kernel
theorem dM_save_13 : decode cM_save 13 = .ok (.iconst 0, 1) := by decide +kernel
theorem dM_save_14 : decode cM_save 14 = .ok (.bastore, 1) := by decide +kernel
theorem dM_save_15 : decode cM_save 15 = .ok (.aload_n 0, 1) := by decide +kernel
theorem dM_save_16 : decode cM_save 16 = .ok (.getfield 19, 3) := by decide +kernel
theorem dM_save_19 : decode cM_save 19 = .ok (.iload_n 1, 1) := by decide +kernel
theorem dM_save_20 : decode cM_save 20 = .ok (.aload_n 0, 1) := by decide +kernel
theorem dM_save_21 : decode cM_save 21 = .ok (.getfield 7, 3) := by decide +kernel
theorem dM_save_24 : decode cM_save 24 = .ok (.iload_n 1, 1) := by decide +kernel
theorem dM_save_25 : decode cM_save 25 = .ok (.baload, 1) := by decide +kernel
theorem dM_save_26 : decode cM_save 26 = .ok (.bastore, 1) := by decide +kernel
theorem dM_save_27 : decode cM_save 27 = .ok (.iinc 1 1, 3) := by decide +kernel
theorem dM_save_30 : decode cM_save 30 = .ok (.goto (-28), 3) := by decide +kernel
theorem dM_save_33 : decode cM_save 33 = .ok (.return_, 1) := by decide +kernel
abbrev cM_put : ByteArray := prog_10_method_11_code
def yM_put : MethodName := ⟨RM, "put", "(I)V"⟩
theorem wM_put : Cond.code yM_put cM_put 2 none ∈ A9 := in9 (by decide +kernel) rfl
theorem dM_put_0 : decode cM_put 0 = .ok (.aload_n 0, 1) := by decide +kernel
theorem dM_put_1 : decode cM_put 1 = .ok (.getfield 78, 3) := by decide +kernel
theorem lM_78 : Cond.fieldLink RM 78 "RevisionWriteModel" "isCounted" "Z" ∈ A9 := in9 (by decide +kernel) rfl
theorem dM_put_4 : decode cM_put 4 = .ok (.ifCond .ne 14, 3) := by decide +kernel
theorem dM_put_7 : decode cM_put 7 = .ok (.aload_n 0, 1) := by decide +kernel
theorem dM_put_8 : decode cM_put 8 = .ok (.getfield 30, 3) := by decide +kernel
theorem dM_put_11 : decode cM_put 11 = .ok (.aload_n 0, 1) := by decide +kernel
theorem dM_put_12 : decode cM_put 12 = .ok (.getfield 82, 3) := by decide +kernel
theorem lM_82 : Cond.fieldLink RM 82 "RevisionWriteModel" "next" "I" ∈ A9 := in9 (by decide +kernel) rfl
theorem dM_put_15 : decode cM_put 15 = .ok (.iload_n 1, 1) := by decide +kernel
theorem dM_put_16 : decode cM_put 16 = .ok (.i2b, 1) := by decide +kernel
theorem dM_put_17 : decode cM_put 17 = .ok (.bastore, 1) := by decide +kernel
theorem dM_put_18 : decode cM_put 18 = .ok (.aload_n 0, 1) := by decide +kernel
theorem dM_put_19 : decode cM_put 19 = .ok (.dup, 1) := by decide +kernel
theorem dM_put_20 : decode cM_put 20 = .ok (.getfield 82, 3) := by decide +kernel
theorem dM_put_23 : decode cM_put 23 = .ok (.iconst 1, 1) := by decide +kernel
theorem dM_put_24 : decode cM_put 24 = .ok (.iadd, 1) := by decide +kernel
theorem dM_put_25 : decode cM_put 25 = .ok (.putfield 82, 3) := by decide +kernel
theorem dM_put_28 : decode cM_put 28 = .ok (.return_, 1) := by decide +kernel
abbrev cM_putNumber : ByteArray := prog_10_method_12_code
def yM_putNumber : MethodName := ⟨RM, "putNumber", "(I)V"⟩
theorem wM_putNumber : Cond.code yM_putNumber cM_putNumber 3 none ∈ A9 := in9 (by decide +kernel) rfl
theorem dM_putNumber_0 : decode cM_putNumber 0 = .ok (.iconst 1, 1) := by decide +kernel
theorem dM_putNumber_1 : decode cM_putNumber 1 = .ok (.istore_n 2, 1) := by decide +kernel
theorem dM_putNumber_2 : decode cM_putNumber 2 = .ok (.iload_n 1, 1) := by decide +kernel
theorem dM_putNumber_3 : decode cM_putNumber 3 = .ok (.iload_n 2, 1) := by decide +kernel
theorem dM_putNumber_4 : decode cM_putNumber 4 = .ok (.idiv, 1) := by decide +kernel
theorem dM_putNumber_5 : decode cM_putNumber 5 = .ok (.bipush 9, 2) := by decide +kernel
theorem dM_putNumber_7 : decode cM_putNumber 7 = .ok (.if_icmp .le 11, 3) := by decide +kernel
theorem dM_putNumber_10 : decode cM_putNumber 10 = .ok (.iload_n 2, 1) := by decide +kernel
theorem dM_putNumber_11 : decode cM_putNumber 11 = .ok (.bipush 10, 2) := by decide +kernel
theorem dM_putNumber_13 : decode cM_putNumber 13 = .ok (.imul, 1) := by decide +kernel
theorem dM_putNumber_14 : decode cM_putNumber 14 = .ok (.istore_n 2, 1) := by decide +kernel
theorem dM_putNumber_15 : decode cM_putNumber 15 = .ok (.goto (-13), 3) := by decide +kernel
theorem dM_putNumber_18 : decode cM_putNumber 18 = .ok (.iload_n 2, 1) := by decide +kernel
theorem dM_putNumber_19 : decode cM_putNumber 19 = .ok (.ifCond .le 24, 3) := by decide +kernel
theorem dM_putNumber_22 : decode cM_putNumber 22 = .ok (.aload_n 0, 1) := by decide +kernel
theorem dM_putNumber_23 : decode cM_putNumber 23 = .ok (.bipush 48, 2) := by decide +kernel
theorem dM_putNumber_25 : decode cM_putNumber 25 = .ok (.iload_n 1, 1) := by decide +kernel
theorem dM_putNumber_26 : decode cM_putNumber 26 = .ok (.iload_n 2, 1) := by decide +kernel
theorem dM_putNumber_27 : decode cM_putNumber 27 = .ok (.idiv, 1) := by decide +kernel
theorem dM_putNumber_28 : decode cM_putNumber 28 = .ok (.bipush 10, 2) := by decide +kernel
theorem dM_putNumber_30 : decode cM_putNumber 30 = .ok (.irem, 1) := by decide +kernel
theorem dM_putNumber_31 : decode cM_putNumber 31 = .ok (.iadd, 1) := by decide +kernel
theorem dM_putNumber_32 : decode cM_putNumber 32 = .ok (.invokevirtual 85, 3) := by decide +kernel
theorem dM_putNumber_35 : decode cM_putNumber 35 = .ok (.iload_n 2, 1) := by decide +kernel
theorem dM_putNumber_36 : decode cM_putNumber 36 = .ok (.bipush 10, 2) := by decide +kernel
theorem dM_putNumber_38 : decode cM_putNumber 38 = .ok (.idiv, 1) := by decide +kernel
theorem dM_putNumber_39 : decode cM_putNumber 39 = .ok (.istore_n 2, 1) := by decide +kernel
theorem dM_putNumber_40 : decode cM_putNumber 40 = .ok (.goto (-22), 3) := by decide +kernel
theorem dM_putNumber_43 : decode cM_putNumber 43 = .ok (.return_, 1) := by decide +kernel
abbrev cM_putRecord : ByteArray := prog_10_method_13_code
def yM_putRecord : MethodName := ⟨RM, "putRecord", "(I)V"⟩
theorem wM_putRecord : Cond.code yM_putRecord cM_putRecord 3 none ∈ A9 := in9 (by decide +kernel) rfl
theorem dM_putRecord_0 : decode cM_putRecord 0 = .ok (.aload_n 0, 1) := by decide +kernel
theorem dM_putRecord_1 : decode cM_putRecord 1 = .ok (.getfield 48, 3) := by decide +kernel
theorem dM_putRecord_4 : decode cM_putRecord 4 = .ok (.iload_n 1, 1) := by decide +kernel
theorem dM_putRecord_5 : decode cM_putRecord 5 = .ok (.aload_n 0, 1) := by decide +kernel
theorem dM_putRecord_6 : decode cM_putRecord 6 = .ok (.getfield 82, 3) := by decide +kernel
theorem dM_putRecord_9 : decode cM_putRecord 9 = .ok (.iastore, 1) := by decide +kernel
theorem dM_putRecord_10 : decode cM_putRecord 10 = .ok (.aload_n 0, 1) := by decide +kernel
theorem dM_putRecord_11 : decode cM_putRecord 11 = .ok (.bipush 111, 2) := by decide +kernel
theorem dM_putRecord_13 : decode cM_putRecord 13 = .ok (.invokevirtual 85, 3) := by decide +kernel
theorem dM_putRecord_16 : decode cM_putRecord 16 = .ok (.aload_n 0, 1) := by decide +kernel
theorem dM_putRecord_17 : decode cM_putRecord 17 = .ok (.bipush 32, 2) := by decide +kernel
theorem dM_putRecord_19 : decode cM_putRecord 19 = .ok (.invokevirtual 85, 3) := by decide +kernel
theorem dM_putRecord_22 : decode cM_putRecord 22 = .ok (.aload_n 0, 1) := by decide +kernel
theorem dM_putRecord_23 : decode cM_putRecord 23 = .ok (.iload_n 1, 1) := by decide +kernel
theorem dM_putRecord_24 : decode cM_putRecord 24 = .ok (.invokevirtual 89, 3) := by decide +kernel
theorem dM_putRecord_27 : decode cM_putRecord 27 = .ok (.aload_n 0, 1) := by decide +kernel
theorem dM_putRecord_28 : decode cM_putRecord 28 = .ok (.bipush 32, 2) := by decide +kernel
theorem dM_putRecord_30 : decode cM_putRecord 30 = .ok (.invokevirtual 85, 3) := by decide +kernel
theorem dM_putRecord_33 : decode cM_putRecord 33 = .ok (.aload_n 0, 1) := by decide +kernel
theorem dM_putRecord_34 : decode cM_putRecord 34 = .ok (.aload_n 0, 1) := by decide +kernel
theorem dM_putRecord_35 : decode cM_putRecord 35 = .ok (.getfield 22, 3) := by decide +kernel
theorem dM_putRecord_38 : decode cM_putRecord 38 = .ok (.iload_n 1, 1) := by decide +kernel
theorem dM_putRecord_39 : decode cM_putRecord 39 = .ok (.iaload, 1) := by decide +kernel
theorem dM_putRecord_40 : decode cM_putRecord 40 = .ok (.invokevirtual 89, 3) := by decide +kernel
theorem dM_putRecord_43 : decode cM_putRecord 43 = .ok (.aload_n 0, 1) := by decide +kernel
theorem dM_putRecord_44 : decode cM_putRecord 44 = .ok (.bipush 10, 2) := by decide +kernel
theorem dM_putRecord_46 : decode cM_putRecord 46 = .ok (.invokevirtual 85, 3) := by decide +kernel
theorem dM_putRecord_49 : decode cM_putRecord 49 = .ok (.aload_n 0, 1) := by decide +kernel
theorem dM_putRecord_50 : decode cM_putRecord 50 = .ok (.getfield 51, 3) := by decide +kernel
theorem dM_putRecord_53 : decode cM_putRecord 53 = .ok (.iload_n 1, 1) := by decide +kernel
theorem dM_putRecord_54 : decode cM_putRecord 54 = .ok (.aload_n 0, 1) := by decide +kernel
theorem dM_putRecord_55 : decode cM_putRecord 55 = .ok (.getfield 82, 3) := by decide +kernel
theorem dM_putRecord_58 : decode cM_putRecord 58 = .ok (.iastore, 1) := by decide +kernel
theorem dM_putRecord_59 : decode cM_putRecord 59 = .ok (.iconst 0, 1) := by decide +kernel
theorem dM_putRecord_60 : decode cM_putRecord 60 = .ok (.istore_n 2, 1) := by decide +kernel
theorem dM_putRecord_61 : decode cM_putRecord 61 = .ok (.iload_n 2, 1) := by decide +kernel
theorem dM_putRecord_62 : decode cM_putRecord 62 = .ok (.aload_n 0, 1) := by decide +kernel
theorem dM_putRecord_63 : decode cM_putRecord 63 = .ok (.getfield 22, 3) := by decide +kernel
theorem dM_putRecord_66 : decode cM_putRecord 66 = .ok (.iload_n 1, 1) := by decide +kernel
theorem dM_putRecord_67 : decode cM_putRecord 67 = .ok (.iaload, 1) := by decide +kernel
theorem dM_putRecord_68 : decode cM_putRecord 68 = .ok (.if_icmp .ge 24, 3) := by decide +kernel
theorem dM_putRecord_71 : decode cM_putRecord 71 = .ok (.aload_n 0, 1) := by decide +kernel
theorem dM_putRecord_72 : decode cM_putRecord 72 = .ok (.aload_n 0, 1) := by decide +kernel
theorem dM_putRecord_73 : decode cM_putRecord 73 = .ok (.getfield 26, 3) := by decide +kernel
theorem dM_putRecord_76 : decode cM_putRecord 76 = .ok (.bipush 120, 2) := by decide +kernel
theorem dM_putRecord_78 : decode cM_putRecord 78 = .ok (.iload_n 1, 1) := by decide +kernel
theorem dM_putRecord_79 : decode cM_putRecord 79 = .ok (.imul, 1) := by decide +kernel
theorem dM_putRecord_80 : decode cM_putRecord 80 = .ok (.iload_n 2, 1) := by decide +kernel
theorem dM_putRecord_81 : decode cM_putRecord 81 = .ok (.iadd, 1) := by decide +kernel
theorem dM_putRecord_82 : decode cM_putRecord 82 = .ok (.baload, 1) := by decide +kernel
theorem dM_putRecord_83 : decode cM_putRecord 83 = .ok (.invokevirtual 85, 3) := by decide +kernel
theorem dM_putRecord_86 : decode cM_putRecord 86 = .ok (.iinc 2 1, 3) := by decide +kernel
theorem dM_putRecord_89 : decode cM_putRecord 89 = .ok (.goto (-28), 3) := by decide +kernel
theorem dM_putRecord_92 : decode cM_putRecord 92 = .ok (.aload_n 0, 1) := by decide +kernel
theorem dM_putRecord_93 : decode cM_putRecord 93 = .ok (.bipush 10, 2) := by decide +kernel
theorem dM_putRecord_95 : decode cM_putRecord 95 = .ok (.invokevirtual 85, 3) := by decide +kernel
theorem dM_putRecord_98 : decode cM_putRecord 98 = .ok (.return_, 1) := by decide +kernel
abbrev cM_putRow : ByteArray := prog_10_method_14_code
def yM_putRow : MethodName := ⟨RM, "putRow", "(I)V"⟩
theorem wM_putRow : Cond.code yM_putRow cM_putRow 2 none ∈ A9 := in9 (by decide +kernel) rfl
theorem dM_putRow_0 : decode cM_putRow 0 = .ok (.aload_n 0, 1) := by decide +kernel
theorem dM_putRow_1 : decode cM_putRow 1 = .ok (.iload_n 1, 1) := by decide +kernel
theorem dM_putRow_2 : decode cM_putRow 2 = .ok (.invokevirtual 89, 3) := by decide +kernel
theorem dM_putRow_5 : decode cM_putRow 5 = .ok (.aload_n 0, 1) := by decide +kernel
theorem dM_putRow_6 : decode cM_putRow 6 = .ok (.bipush 32, 2) := by decide +kernel
theorem dM_putRow_8 : decode cM_putRow 8 = .ok (.invokevirtual 85, 3) := by decide +kernel
theorem dM_putRow_11 : decode cM_putRow 11 = .ok (.aload_n 0, 1) := by decide +kernel
theorem dM_putRow_12 : decode cM_putRow 12 = .ok (.getfield 7, 3) := by decide +kernel
theorem dM_putRow_15 : decode cM_putRow 15 = .ok (.iload_n 1, 1) := by decide +kernel
theorem dM_putRow_16 : decode cM_putRow 16 = .ok (.baload, 1) := by decide +kernel
theorem dM_putRow_17 : decode cM_putRow 17 = .ok (.ifCond .eq 16, 3) := by decide +kernel
theorem dM_putRow_20 : decode cM_putRow 20 = .ok (.aload_n 0, 1) := by decide +kernel
theorem dM_putRow_21 : decode cM_putRow 21 = .ok (.aload_n 0, 1) := by decide +kernel
theorem dM_putRow_22 : decode cM_putRow 22 = .ok (.getfield 48, 3) := by decide +kernel
theorem dM_putRow_25 : decode cM_putRow 25 = .ok (.iload_n 1, 1) := by decide +kernel
theorem dM_putRow_26 : decode cM_putRow 26 = .ok (.iaload, 1) := by decide +kernel
theorem dM_putRow_27 : decode cM_putRow 27 = .ok (.invokevirtual 89, 3) := by decide +kernel
theorem dM_putRow_30 : decode cM_putRow 30 = .ok (.goto 9, 3) := by decide +kernel
theorem dM_putRow_33 : decode cM_putRow 33 = .ok (.aload_n 0, 1) := by decide +kernel
theorem dM_putRow_34 : decode cM_putRow 34 = .ok (.bipush 45, 2) := by decide +kernel
theorem dM_putRow_36 : decode cM_putRow 36 = .ok (.invokevirtual 85, 3) := by decide +kernel
theorem dM_putRow_39 : decode cM_putRow 39 = .ok (.aload_n 0, 1) := by decide +kernel
theorem dM_putRow_40 : decode cM_putRow 40 = .ok (.bipush 10, 2) := by decide +kernel
theorem dM_putRow_42 : decode cM_putRow 42 = .ok (.invokevirtual 85, 3) := by decide +kernel
theorem dM_putRow_45 : decode cM_putRow 45 = .ok (.return_, 1) := by decide +kernel
abbrev cM_putTold : ByteArray := prog_10_method_15_code
def yM_putTold : MethodName := ⟨RM, "putTold", "(II)V"⟩
theorem wM_putTold : Cond.code yM_putTold cM_putTold 3 none ∈ A9 := in9 (by decide +kernel) rfl
theorem dM_putTold_0 : decode cM_putTold 0 = .ok (.aload_n 0, 1) := by decide +kernel
theorem dM_putTold_1 : decode cM_putTold 1 = .ok (.iload_n 1, 1) := by decide +kernel
theorem dM_putTold_2 : decode cM_putTold 2 = .ok (.invokevirtual 85, 3) := by decide +kernel
theorem dM_putTold_5 : decode cM_putTold 5 = .ok (.aload_n 0, 1) := by decide +kernel
theorem dM_putTold_6 : decode cM_putTold 6 = .ok (.bipush 32, 2) := by decide +kernel
theorem dM_putTold_8 : decode cM_putTold 8 = .ok (.invokevirtual 85, 3) := by decide +kernel
theorem dM_putTold_11 : decode cM_putTold 11 = .ok (.aload_n 0, 1) := by decide +kernel
theorem dM_putTold_12 : decode cM_putTold 12 = .ok (.iload_n 2, 1) := by decide +kernel
theorem dM_putTold_13 : decode cM_putTold 13 = .ok (.invokevirtual 89, 3) := by decide +kernel
theorem dM_putTold_16 : decode cM_putTold 16 = .ok (.aload_n 0, 1) := by decide +kernel
theorem dM_putTold_17 : decode cM_putTold 17 = .ok (.bipush 10, 2) := by decide +kernel
theorem dM_putTold_19 : decode cM_putTold 19 = .ok (.invokevirtual 85, 3) := by decide +kernel
theorem dM_putTold_22 : decode cM_putTold 22 = .ok (.return_, 1) := by decide +kernel
abbrev cM_isMeant : ByteArray := prog_10_method_16_code
def yM_isMeant : MethodName := ⟨RM, "isMeant", "(IZ)Z"⟩
theorem wM_isMeant : Cond.code yM_isMeant cM_isMeant 3 (some .boolean) ∈ A9 := in9 (by decide +kernel) rfl
theorem dM_isMeant_0 : decode cM_isMeant 0 = .ok (.iload_n 2, 1) := by decide +kernel
theorem dM_isMeant_1 : decode cM_isMeant 1 = .ok (.ifCond .eq 12, 3) := by decide +kernel
theorem dM_isMeant_4 : decode cM_isMeant 4 = .ok (.aload_n 0, 1) := by decide +kernel
theorem dM_isMeant_5 : decode cM_isMeant 5 = .ok (.getfield 7, 3) := by decide +kernel
theorem dM_isMeant_8 : decode cM_isMeant 8 = .ok (.iload_n 1, 1) := by decide +kernel
theorem dM_isMeant_9 : decode cM_isMeant 9 = .ok (.baload, 1) := by decide +kernel
theorem dM_isMeant_10 : decode cM_isMeant 10 = .ok (.goto 9, 3) := by decide +kernel
theorem dM_isMeant_13 : decode cM_isMeant 13 = .ok (.aload_n 0, 1) := by decide +kernel
theorem dM_isMeant_14 : decode cM_isMeant 14 = .ok (.getfield 16, 3) := by decide +kernel
theorem dM_isMeant_17 : decode cM_isMeant 17 = .ok (.iload_n 1, 1) := by decide +kernel
theorem dM_isMeant_18 : decode cM_isMeant 18 = .ok (.baload, 1) := by decide +kernel
theorem dM_isMeant_19 : decode cM_isMeant 19 = .ok (.ireturn, 1) := by decide +kernel
abbrev cM_putRecords : ByteArray := prog_10_method_17_code
def yM_putRecords : MethodName := ⟨RM, "putRecords", "(ZI)V"⟩
theorem wM_putRecords : Cond.code yM_putRecords cM_putRecords 6 none ∈ A9 := in9 (by decide +kernel) rfl
theorem dM_putRecords_0 : decode cM_putRecords 0 = .ok (.iconst 0, 1) := by decide +kernel
theorem dM_putRecords_1 : decode cM_putRecords 1 = .ok (.istore_n 3, 1) := by decide +kernel
theorem dM_putRecords_2 : decode cM_putRecords 2 = .ok (.iload_n 3, 1) := by decide +kernel
theorem dM_putRecords_3 : decode cM_putRecords 3 = .ok (.iload_n 2, 1) := by decide +kernel
theorem dM_putRecords_4 : decode cM_putRecords 4 = .ok (.iconst 1, 1) := by decide +kernel
theorem dM_putRecords_5 : decode cM_putRecords 5 = .ok (.if_icmp .ne 8, 3) := by decide +kernel
theorem dM_putRecords_8 : decode cM_putRecords 8 = .ok (.bipush 120, 2) := by decide +kernel
theorem dM_putRecords_10 : decode cM_putRecords 10 = .ok (.goto 13, 3) := by decide +kernel
theorem dM_putRecords_13 : decode cM_putRecords 13 = .ok (.iload_n 2, 1) := by decide +kernel
theorem dM_putRecords_14 : decode cM_putRecords 14 = .ok (.iconst 2, 1) := by decide +kernel
theorem dM_putRecords_15 : decode cM_putRecords 15 = .ok (.if_icmp .ne 7, 3) := by decide +kernel
theorem dM_putRecords_18 : decode cM_putRecords 18 = .ok (.iconst 1, 1) := by decide +kernel
theorem dM_putRecords_19 : decode cM_putRecords 19 = .ok (.goto 4, 3) := by decide +kernel
theorem dM_putRecords_22 : decode cM_putRecords 22 = .ok (.iconst 0, 1) := by decide +kernel
theorem dM_putRecords_23 : decode cM_putRecords 23 = .ok (.if_icmp .gt 115, 3) := by decide +kernel
theorem dM_putRecords_26 : decode cM_putRecords 26 = .ok (.iconst 1, 1) := by decide +kernel
theorem dM_putRecords_27 : decode cM_putRecords 27 = .ok (.istore 4, 2) := by decide +kernel
theorem dM_putRecords_29 : decode cM_putRecords 29 = .ok (.iload 4, 2) := by decide +kernel
theorem dM_putRecords_31 : decode cM_putRecords 31 = .ok (.bipush 40, 2) := by decide +kernel
theorem dM_putRecords_33 : decode cM_putRecords 33 = .ok (.if_icmp .gt 99, 3) := by decide +kernel
theorem dM_putRecords_36 : decode cM_putRecords 36 = .ok (.iload_n 2, 1) := by decide +kernel
theorem dM_putRecords_37 : decode cM_putRecords 37 = .ok (.iconst 1, 1) := by decide +kernel
theorem dM_putRecords_38 : decode cM_putRecords 38 = .ok (.if_icmp .ne 22, 3) := by decide +kernel
theorem dM_putRecords_41 : decode cM_putRecords 41 = .ok (.aload_n 0, 1) := by decide +kernel
theorem dM_putRecords_42 : decode cM_putRecords 42 = .ok (.getfield 22, 3) := by decide +kernel
theorem dM_putRecords_45 : decode cM_putRecords 45 = .ok (.iload 4, 2) := by decide +kernel
theorem dM_putRecords_47 : decode cM_putRecords 47 = .ok (.iaload, 1) := by decide +kernel
theorem dM_putRecords_48 : decode cM_putRecords 48 = .ok (.iload_n 3, 1) := by decide +kernel
theorem dM_putRecords_49 : decode cM_putRecords 49 = .ok (.if_icmp .ne 7, 3) := by decide +kernel
theorem dM_putRecords_52 : decode cM_putRecords 52 = .ok (.iconst 1, 1) := by decide +kernel
theorem dM_putRecords_53 : decode cM_putRecords 53 = .ok (.goto 40, 3) := by decide +kernel
theorem dM_putRecords_56 : decode cM_putRecords 56 = .ok (.iconst 0, 1) := by decide +kernel
theorem dM_putRecords_57 : decode cM_putRecords 57 = .ok (.goto 36, 3) := by decide +kernel
theorem dM_putRecords_60 : decode cM_putRecords 60 = .ok (.iload_n 2, 1) := by decide +kernel
theorem dM_putRecords_61 : decode cM_putRecords 61 = .ok (.iconst 2, 1) := by decide +kernel
theorem dM_putRecords_62 : decode cM_putRecords 62 = .ok (.if_icmp .ne 30, 3) := by decide +kernel
theorem dM_putRecords_65 : decode cM_putRecords 65 = .ok (.aload_n 0, 1) := by decide +kernel
theorem dM_putRecords_66 : decode cM_putRecords 66 = .ok (.getfield 13, 3) := by decide +kernel
theorem dM_putRecords_69 : decode cM_putRecords 69 = .ok (.iload 4, 2) := by decide +kernel
theorem dM_putRecords_71 : decode cM_putRecords 71 = .ok (.baload, 1) := by decide +kernel
theorem dM_putRecords_72 : decode cM_putRecords 72 = .ok (.iload_n 3, 1) := by decide +kernel
theorem dM_putRecords_73 : decode cM_putRecords 73 = .ok (.ifCond .ne 7, 3) := by decide +kernel
theorem dM_putRecords_76 : decode cM_putRecords 76 = .ok (.iconst 1, 1) := by decide +kernel
theorem dM_putRecords_77 : decode cM_putRecords 77 = .ok (.goto 4, 3) := by decide +kernel
theorem dM_putRecords_80 : decode cM_putRecords 80 = .ok (.iconst 0, 1) := by decide +kernel
theorem dM_putRecords_81 : decode cM_putRecords 81 = .ok (.if_icmp .ne 7, 3) := by decide +kernel
theorem dM_putRecords_84 : decode cM_putRecords 84 = .ok (.iconst 1, 1) := by decide +kernel
theorem dM_putRecords_85 : decode cM_putRecords 85 = .ok (.goto 8, 3) := by decide +kernel
theorem dM_putRecords_88 : decode cM_putRecords 88 = .ok (.iconst 0, 1) := by decide +kernel
theorem dM_putRecords_89 : decode cM_putRecords 89 = .ok (.goto 4, 3) := by decide +kernel
theorem dM_putRecords_92 : decode cM_putRecords 92 = .ok (.iconst 1, 1) := by decide +kernel
theorem dM_putRecords_93 : decode cM_putRecords 93 = .ok (.istore 5, 2) := by decide +kernel
theorem dM_putRecords_95 : decode cM_putRecords 95 = .ok (.aload_n 0, 1) := by decide +kernel
theorem dM_putRecords_96 : decode cM_putRecords 96 = .ok (.iload 4, 2) := by decide +kernel
theorem dM_putRecords_98 : decode cM_putRecords 98 = .ok (.iload_n 1, 1) := by decide +kernel
theorem dM_putRecords_99 : decode cM_putRecords 99 = .ok (.invokevirtual 92, 3) := by decide +kernel
theorem dM_putRecords_102 : decode cM_putRecords 102 = .ok (.ifCond .eq 24, 3) := by decide +kernel
theorem dM_putRecords_105 : decode cM_putRecords 105 = .ok (.aload_n 0, 1) := by decide +kernel
theorem dM_putRecords_106 : decode cM_putRecords 106 = .ok (.getfield 7, 3) := by decide +kernel
theorem dM_putRecords_109 : decode cM_putRecords 109 = .ok (.iload 4, 2) := by decide +kernel
theorem dM_putRecords_111 : decode cM_putRecords 111 = .ok (.baload, 1) := by decide +kernel
theorem dM_putRecords_112 : decode cM_putRecords 112 = .ok (.ifCond .eq 14, 3) := by decide +kernel
theorem dM_putRecords_115 : decode cM_putRecords 115 = .ok (.iload 5, 2) := by decide +kernel
theorem dM_putRecords_117 : decode cM_putRecords 117 = .ok (.ifCond .eq 9, 3) := by decide +kernel
theorem dM_putRecords_120 : decode cM_putRecords 120 = .ok (.aload_n 0, 1) := by decide +kernel
theorem dM_putRecords_121 : decode cM_putRecords 121 = .ok (.iload 4, 2) := by decide +kernel
theorem dM_putRecords_123 : decode cM_putRecords 123 = .ok (.invokevirtual 96, 3) := by decide +kernel
theorem dM_putRecords_126 : decode cM_putRecords 126 = .ok (.iinc 4 1, 3) := by decide +kernel
theorem dM_putRecords_129 : decode cM_putRecords 129 = .ok (.goto (-100), 3) := by decide +kernel
theorem dM_putRecords_132 : decode cM_putRecords 132 = .ok (.iinc 3 1, 3) := by decide +kernel
theorem dM_putRecords_135 : decode cM_putRecords 135 = .ok (.goto (-133), 3) := by decide +kernel
end
section
theorem dM_putRecords_138 : decode cM_putRecords 138 = .ok (.return_, 1) := by decide +kernel
abbrev cM_putPart : ByteArray := prog_10_method_18_code
def yM_putPart : MethodName := ⟨RM, "putPart", "(IZI)I"⟩
theorem wM_putPart : Cond.code yM_putPart cM_putPart 7 (some .int) ∈ A9 := in9 (by decide +kernel) rfl
theorem dM_putPart_0 : decode cM_putPart 0 = .ok (.aload_n 0, 1) := by decide +kernel
theorem dM_putPart_1 : decode cM_putPart 1 = .ok (.iload_n 1, 1) := by decide +kernel
theorem dM_putPart_2 : decode cM_putPart 2 = .ok (.putfield 82, 3) := by decide +kernel
theorem dM_putPart_5 : decode cM_putPart 5 = .ok (.iload_n 2, 1) := by decide +kernel
theorem dM_putPart_6 : decode cM_putPart 6 = .ok (.ifCond .eq 27, 3) := by decide +kernel
theorem dM_putPart_9 : decode cM_putPart 9 = .ok (.aload_n 0, 1) := by decide +kernel
theorem dM_putPart_10 : decode cM_putPart 10 = .ok (.bipush 37, 2) := by decide +kernel
theorem dM_putPart_12 : decode cM_putPart 12 = .ok (.invokevirtual 85, 3) := by decide +kernel
theorem dM_putPart_15 : decode cM_putPart 15 = .ok (.aload_n 0, 1) := by decide +kernel
theorem dM_putPart_16 : decode cM_putPart 16 = .ok (.bipush 70, 2) := by decide +kernel
theorem dM_putPart_18 : decode cM_putPart 18 = .ok (.invokevirtual 85, 3) := by decide +kernel
theorem dM_putPart_21 : decode cM_putPart 21 = .ok (.aload_n 0, 1) := by decide +kernel
theorem dM_putPart_22 : decode cM_putPart 22 = .ok (.bipush 49, 2) := by decide +kernel
theorem dM_putPart_24 : decode cM_putPart 24 = .ok (.invokevirtual 85, 3) := by decide +kernel
theorem dM_putPart_27 : decode cM_putPart 27 = .ok (.aload_n 0, 1) := by decide +kernel
theorem dM_putPart_28 : decode cM_putPart 28 = .ok (.bipush 10, 2) := by decide +kernel
theorem dM_putPart_30 : decode cM_putPart 30 = .ok (.invokevirtual 85, 3) := by decide +kernel
theorem dM_putPart_33 : decode cM_putPart 33 = .ok (.aload_n 0, 1) := by decide +kernel
theorem dM_putPart_34 : decode cM_putPart 34 = .ok (.iload_n 2, 1) := by decide +kernel
theorem dM_putPart_35 : decode cM_putPart 35 = .ok (.iload_n 3, 1) := by decide +kernel
theorem dM_putPart_36 : decode cM_putPart 36 = .ok (.invokevirtual 99, 3) := by decide +kernel
theorem dM_putPart_39 : decode cM_putPart 39 = .ok (.aload_n 0, 1) := by decide +kernel
theorem dM_putPart_40 : decode cM_putPart 40 = .ok (.getfield 82, 3) := by decide +kernel
theorem dM_putPart_43 : decode cM_putPart 43 = .ok (.istore 4, 2) := by decide +kernel
theorem dM_putPart_45 : decode cM_putPart 45 = .ok (.iconst 0, 1) := by decide +kernel
theorem dM_putPart_46 : decode cM_putPart 46 = .ok (.istore 5, 2) := by decide +kernel
theorem dM_putPart_48 : decode cM_putPart 48 = .ok (.iconst 1, 1) := by decide +kernel
theorem dM_putPart_49 : decode cM_putPart 49 = .ok (.istore 6, 2) := by decide +kernel
theorem dM_putPart_51 : decode cM_putPart 51 = .ok (.iload 6, 2) := by decide +kernel
theorem dM_putPart_53 : decode cM_putPart 53 = .ok (.bipush 40, 2) := by decide +kernel
theorem dM_putPart_55 : decode cM_putPart 55 = .ok (.if_icmp .gt 30, 3) := by decide +kernel
theorem dM_putPart_58 : decode cM_putPart 58 = .ok (.aload_n 0, 1) := by decide +kernel
theorem dM_putPart_59 : decode cM_putPart 59 = .ok (.iload 6, 2) := by decide +kernel
theorem dM_putPart_61 : decode cM_putPart 61 = .ok (.iload_n 2, 1) := by decide +kernel
theorem dM_putPart_62 : decode cM_putPart 62 = .ok (.invokevirtual 92, 3) := by decide +kernel
theorem dM_putPart_65 : decode cM_putPart 65 = .ok (.ifCond .eq 10, 3) := by decide +kernel
theorem dM_putPart_68 : decode cM_putPart 68 = .ok (.iload 5, 2) := by decide +kernel
theorem dM_putPart_70 : decode cM_putPart 70 = .ok (.iconst 1, 1) := by decide +kernel
theorem dM_putPart_71 : decode cM_putPart 71 = .ok (.iadd, 1) := by decide +kernel
theorem dM_putPart_72 : decode cM_putPart 72 = .ok (.goto 5, 3) := by decide +kernel
theorem dM_putPart_75 : decode cM_putPart 75 = .ok (.iload 5, 2) := by decide +kernel
theorem dM_putPart_77 : decode cM_putPart 77 = .ok (.istore 5, 2) := by decide +kernel
theorem dM_putPart_79 : decode cM_putPart 79 = .ok (.iinc 6 1, 3) := by decide +kernel
theorem dM_putPart_82 : decode cM_putPart 82 = .ok (.goto (-31), 3) := by decide +kernel
theorem dM_putPart_85 : decode cM_putPart 85 = .ok (.aload_n 0, 1) := by decide +kernel
theorem dM_putPart_86 : decode cM_putPart 86 = .ok (.bipush 120, 2) := by decide +kernel
theorem dM_putPart_88 : decode cM_putPart 88 = .ok (.iload 5, 2) := by decide +kernel
theorem dM_putPart_90 : decode cM_putPart 90 = .ok (.invokevirtual 103, 3) := by decide +kernel
theorem dM_putPart_93 : decode cM_putPart 93 = .ok (.iconst 1, 1) := by decide +kernel
theorem dM_putPart_94 : decode cM_putPart 94 = .ok (.istore 6, 2) := by decide +kernel
theorem dM_putPart_96 : decode cM_putPart 96 = .ok (.iload 6, 2) := by decide +kernel
theorem dM_putPart_98 : decode cM_putPart 98 = .ok (.bipush 40, 2) := by decide +kernel
theorem dM_putPart_100 : decode cM_putPart 100 = .ok (.if_icmp .gt 25, 3) := by decide +kernel
theorem dM_putPart_103 : decode cM_putPart 103 = .ok (.aload_n 0, 1) := by decide +kernel
theorem dM_putPart_104 : decode cM_putPart 104 = .ok (.iload 6, 2) := by decide +kernel
theorem dM_putPart_106 : decode cM_putPart 106 = .ok (.iload_n 2, 1) := by decide +kernel
theorem dM_putPart_107 : decode cM_putPart 107 = .ok (.invokevirtual 92, 3) := by decide +kernel
theorem dM_putPart_110 : decode cM_putPart 110 = .ok (.ifCond .eq 9, 3) := by decide +kernel
theorem dM_putPart_113 : decode cM_putPart 113 = .ok (.aload_n 0, 1) := by decide +kernel
theorem dM_putPart_114 : decode cM_putPart 114 = .ok (.iload 6, 2) := by decide +kernel
theorem dM_putPart_116 : decode cM_putPart 116 = .ok (.invokevirtual 107, 3) := by decide +kernel
theorem dM_putPart_119 : decode cM_putPart 119 = .ok (.iinc 6 1, 3) := by decide +kernel
theorem dM_putPart_122 : decode cM_putPart 122 = .ok (.goto (-26), 3) := by decide +kernel
theorem dM_putPart_125 : decode cM_putPart 125 = .ok (.aload_n 0, 1) := by decide +kernel
theorem dM_putPart_126 : decode cM_putPart 126 = .ok (.bipush 112, 2) := by decide +kernel
theorem dM_putPart_128 : decode cM_putPart 128 = .ok (.iload_n 2, 1) := by decide +kernel
theorem dM_putPart_129 : decode cM_putPart 129 = .ok (.ifCond .eq 7, 3) := by decide +kernel
theorem dM_putPart_132 : decode cM_putPart 132 = .ok (.iconst 0, 1) := by decide +kernel
theorem dM_putPart_133 : decode cM_putPart 133 = .ok (.goto 14, 3) := by decide +kernel
theorem dM_putPart_136 : decode cM_putPart 136 = .ok (.aload_n 0, 1) := by decide +kernel
theorem dM_putPart_137 : decode cM_putPart 137 = .ok (.getfield 36, 3) := by decide +kernel
theorem dM_putPart_140 : decode cM_putPart 140 = .ok (.aload_n 0, 1) := by decide +kernel
theorem dM_putPart_141 : decode cM_putPart 141 = .ok (.getfield 110, 3) := by decide +kernel
theorem lM_110 : Cond.fieldLink RM 110 "RevisionWriteModel" "revisions" "I" ∈ A9 := in9 (by decide +kernel) rfl
theorem dM_putPart_144 : decode cM_putPart 144 = .ok (.iconst 1, 1) := by decide +kernel
theorem dM_putPart_145 : decode cM_putPart 145 = .ok (.isub, 1) := by decide +kernel
theorem dM_putPart_146 : decode cM_putPart 146 = .ok (.iaload, 1) := by decide +kernel
theorem dM_putPart_147 : decode cM_putPart 147 = .ok (.invokevirtual 103, 3) := by decide +kernel
theorem dM_putPart_150 : decode cM_putPart 150 = .ok (.aload_n 0, 1) := by decide +kernel
theorem dM_putPart_151 : decode cM_putPart 151 = .ok (.bipush 101, 2) := by decide +kernel
theorem dM_putPart_153 : decode cM_putPart 153 = .ok (.iload 4, 2) := by decide +kernel
theorem dM_putPart_155 : decode cM_putPart 155 = .ok (.invokevirtual 103, 3) := by decide +kernel
theorem dM_putPart_158 : decode cM_putPart 158 = .ok (.aload_n 0, 1) := by decide +kernel
theorem dM_putPart_159 : decode cM_putPart 159 = .ok (.iload 4, 2) := by decide +kernel
theorem dM_putPart_161 : decode cM_putPart 161 = .ok (.putfield 113, 3) := by decide +kernel
theorem lM_113 : Cond.fieldLink RM 113 "RevisionWriteModel" "first" "I" ∈ A9 := in9 (by decide +kernel) rfl
theorem dM_putPart_164 : decode cM_putPart 164 = .ok (.aload_n 0, 1) := by decide +kernel
theorem dM_putPart_165 : decode cM_putPart 165 = .ok (.getfield 82, 3) := by decide +kernel
theorem dM_putPart_168 : decode cM_putPart 168 = .ok (.ireturn, 1) := by decide +kernel
abbrev cM_remember : ByteArray := prog_10_method_19_code
def yM_remember : MethodName := ⟨RM, "remember", "(Z)V"⟩
theorem wM_remember : Cond.code yM_remember cM_remember 5 none ∈ A9 := in9 (by decide +kernel) rfl
theorem dM_remember_0 : decode cM_remember 0 = .ok (.iload_n 1, 1) := by decide +kernel
theorem dM_remember_1 : decode cM_remember 1 = .ok (.ifCond .eq 7, 3) := by decide +kernel
theorem dM_remember_4 : decode cM_remember 4 = .ok (.iconst 0, 1) := by decide +kernel
theorem dM_remember_5 : decode cM_remember 5 = .ok (.goto 7, 3) := by decide +kernel
theorem dM_remember_8 : decode cM_remember 8 = .ok (.aload_n 0, 1) := by decide +kernel
theorem dM_remember_9 : decode cM_remember 9 = .ok (.getfield 110, 3) := by decide +kernel
theorem dM_remember_12 : decode cM_remember 12 = .ok (.istore_n 2, 1) := by decide +kernel
theorem dM_remember_13 : decode cM_remember 13 = .ok (.iconst 1, 1) := by decide +kernel
theorem dM_remember_14 : decode cM_remember 14 = .ok (.istore_n 3, 1) := by decide +kernel
theorem dM_remember_15 : decode cM_remember 15 = .ok (.iload_n 3, 1) := by decide +kernel
theorem dM_remember_16 : decode cM_remember 16 = .ok (.bipush 40, 2) := by decide +kernel
theorem dM_remember_18 : decode cM_remember 18 = .ok (.if_icmp .gt 147, 3) := by decide +kernel
theorem dM_remember_21 : decode cM_remember 21 = .ok (.bipush 41, 2) := by decide +kernel
theorem dM_remember_23 : decode cM_remember 23 = .ok (.iload_n 2, 1) := by decide +kernel
theorem dM_remember_24 : decode cM_remember 24 = .ok (.imul, 1) := by decide +kernel
theorem dM_remember_25 : decode cM_remember 25 = .ok (.iload_n 3, 1) := by decide +kernel
theorem dM_remember_26 : decode cM_remember 26 = .ok (.iadd, 1) := by decide +kernel
theorem dM_remember_27 : decode cM_remember 27 = .ok (.istore 4, 2) := by decide +kernel
theorem dM_remember_29 : decode cM_remember 29 = .ok (.aload_n 0, 1) := by decide +kernel
theorem dM_remember_30 : decode cM_remember 30 = .ok (.iload_n 3, 1) := by decide +kernel
theorem dM_remember_31 : decode cM_remember 31 = .ok (.iload_n 1, 1) := by decide +kernel
theorem dM_remember_32 : decode cM_remember 32 = .ok (.invokevirtual 92, 3) := by decide +kernel
theorem dM_remember_35 : decode cM_remember 35 = .ok (.ifCond .eq 58, 3) := by decide +kernel
theorem dM_remember_38 : decode cM_remember 38 = .ok (.aload_n 0, 1) := by decide +kernel
theorem dM_remember_39 : decode cM_remember 39 = .ok (.getfield 39, 3) := by decide +kernel
theorem dM_remember_42 : decode cM_remember 42 = .ok (.iload 4, 2) := by decide +kernel
theorem dM_remember_44 : decode cM_remember 44 = .ok (.aload_n 0, 1) := by decide +kernel
theorem dM_remember_45 : decode cM_remember 45 = .ok (.getfield 7, 3) := by decide +kernel
theorem dM_remember_48 : decode cM_remember 48 = .ok (.iload_n 3, 1) := by decide +kernel
theorem dM_remember_49 : decode cM_remember 49 = .ok (.baload, 1) := by decide +kernel
theorem dM_remember_50 : decode cM_remember 50 = .ok (.ifCond .eq 12, 3) := by decide +kernel
theorem dM_remember_53 : decode cM_remember 53 = .ok (.aload_n 0, 1) := by decide +kernel
theorem dM_remember_54 : decode cM_remember 54 = .ok (.getfield 48, 3) := by decide +kernel
theorem dM_remember_57 : decode cM_remember 57 = .ok (.iload_n 3, 1) := by decide +kernel
theorem dM_remember_58 : decode cM_remember 58 = .ok (.iaload, 1) := by decide +kernel
theorem dM_remember_59 : decode cM_remember 59 = .ok (.goto 4, 3) := by decide +kernel
theorem dM_remember_62 : decode cM_remember 62 = .ok (.iconst (-1), 1) := by decide +kernel
theorem dM_remember_63 : decode cM_remember 63 = .ok (.iastore, 1) := by decide +kernel
theorem dM_remember_64 : decode cM_remember 64 = .ok (.aload_n 0, 1) := by decide +kernel
theorem dM_remember_65 : decode cM_remember 65 = .ok (.getfield 42, 3) := by decide +kernel
theorem dM_remember_68 : decode cM_remember 68 = .ok (.iload 4, 2) := by decide +kernel
theorem dM_remember_70 : decode cM_remember 70 = .ok (.aload_n 0, 1) := by decide +kernel
theorem dM_remember_71 : decode cM_remember 71 = .ok (.getfield 51, 3) := by decide +kernel
theorem dM_remember_74 : decode cM_remember 74 = .ok (.iload_n 3, 1) := by decide +kernel
theorem dM_remember_75 : decode cM_remember 75 = .ok (.iaload, 1) := by decide +kernel
theorem dM_remember_76 : decode cM_remember 76 = .ok (.iastore, 1) := by decide +kernel
theorem dM_remember_77 : decode cM_remember 77 = .ok (.aload_n 0, 1) := by decide +kernel
theorem dM_remember_78 : decode cM_remember 78 = .ok (.getfield 45, 3) := by decide +kernel
theorem dM_remember_81 : decode cM_remember 81 = .ok (.iload 4, 2) := by decide +kernel
theorem dM_remember_83 : decode cM_remember 83 = .ok (.aload_n 0, 1) := by decide +kernel
theorem dM_remember_84 : decode cM_remember 84 = .ok (.getfield 22, 3) := by decide +kernel
theorem dM_remember_87 : decode cM_remember 87 = .ok (.iload_n 3, 1) := by decide +kernel
theorem dM_remember_88 : decode cM_remember 88 = .ok (.iaload, 1) := by decide +kernel
theorem dM_remember_89 : decode cM_remember 89 = .ok (.iastore, 1) := by decide +kernel
theorem dM_remember_90 : decode cM_remember 90 = .ok (.goto 69, 3) := by decide +kernel
theorem dM_remember_93 : decode cM_remember 93 = .ok (.iload_n 1, 1) := by decide +kernel
theorem dM_remember_94 : decode cM_remember 94 = .ok (.ifCond .eq 14, 3) := by decide +kernel
theorem dM_remember_97 : decode cM_remember 97 = .ok (.aload_n 0, 1) := by decide +kernel
theorem dM_remember_98 : decode cM_remember 98 = .ok (.getfield 39, 3) := by decide +kernel
theorem dM_remember_101 : decode cM_remember 101 = .ok (.iload 4, 2) := by decide +kernel
theorem dM_remember_103 : decode cM_remember 103 = .ok (.iconst (-1), 1) := by decide +kernel
theorem dM_remember_104 : decode cM_remember 104 = .ok (.iastore, 1) := by decide +kernel
theorem dM_remember_105 : decode cM_remember 105 = .ok (.goto 54, 3) := by decide +kernel
theorem dM_remember_108 : decode cM_remember 108 = .ok (.aload_n 0, 1) := by decide +kernel
theorem dM_remember_109 : decode cM_remember 109 = .ok (.getfield 39, 3) := by decide +kernel
theorem dM_remember_112 : decode cM_remember 112 = .ok (.iload 4, 2) := by decide +kernel
theorem dM_remember_114 : decode cM_remember 114 = .ok (.aload_n 0, 1) := by decide +kernel
theorem dM_remember_115 : decode cM_remember 115 = .ok (.getfield 39, 3) := by decide +kernel
theorem dM_remember_118 : decode cM_remember 118 = .ok (.iload 4, 2) := by decide +kernel
theorem dM_remember_120 : decode cM_remember 120 = .ok (.bipush 41, 2) := by decide +kernel
theorem dM_remember_122 : decode cM_remember 122 = .ok (.isub, 1) := by decide +kernel
theorem dM_remember_123 : decode cM_remember 123 = .ok (.iaload, 1) := by decide +kernel
theorem dM_remember_124 : decode cM_remember 124 = .ok (.iastore, 1) := by decide +kernel
theorem dM_remember_125 : decode cM_remember 125 = .ok (.aload_n 0, 1) := by decide +kernel
theorem dM_remember_126 : decode cM_remember 126 = .ok (.getfield 42, 3) := by decide +kernel
theorem dM_remember_129 : decode cM_remember 129 = .ok (.iload 4, 2) := by decide +kernel
theorem dM_remember_131 : decode cM_remember 131 = .ok (.aload_n 0, 1) := by decide +kernel
theorem dM_remember_132 : decode cM_remember 132 = .ok (.getfield 42, 3) := by decide +kernel
theorem dM_remember_135 : decode cM_remember 135 = .ok (.iload 4, 2) := by decide +kernel
theorem dM_remember_137 : decode cM_remember 137 = .ok (.bipush 41, 2) := by decide +kernel
theorem dM_remember_139 : decode cM_remember 139 = .ok (.isub, 1) := by decide +kernel
theorem dM_remember_140 : decode cM_remember 140 = .ok (.iaload, 1) := by decide +kernel
theorem dM_remember_141 : decode cM_remember 141 = .ok (.iastore, 1) := by decide +kernel
theorem dM_remember_142 : decode cM_remember 142 = .ok (.aload_n 0, 1) := by decide +kernel
theorem dM_remember_143 : decode cM_remember 143 = .ok (.getfield 45, 3) := by decide +kernel
theorem dM_remember_146 : decode cM_remember 146 = .ok (.iload 4, 2) := by decide +kernel
theorem dM_remember_148 : decode cM_remember 148 = .ok (.aload_n 0, 1) := by decide +kernel
theorem dM_remember_149 : decode cM_remember 149 = .ok (.getfield 45, 3) := by decide +kernel
theorem dM_remember_152 : decode cM_remember 152 = .ok (.iload 4, 2) := by decide +kernel
theorem dM_remember_154 : decode cM_remember 154 = .ok (.bipush 41, 2) := by decide +kernel
theorem dM_remember_156 : decode cM_remember 156 = .ok (.isub, 1) := by decide +kernel
theorem dM_remember_157 : decode cM_remember 157 = .ok (.iaload, 1) := by decide +kernel
theorem dM_remember_158 : decode cM_remember 158 = .ok (.iastore, 1) := by decide +kernel
theorem dM_remember_159 : decode cM_remember 159 = .ok (.iinc 3 1, 3) := by decide +kernel
theorem dM_remember_162 : decode cM_remember 162 = .ok (.goto (-147), 3) := by decide +kernel
theorem dM_remember_165 : decode cM_remember 165 = .ok (.aload_n 0, 1) := by decide +kernel
theorem dM_remember_166 : decode cM_remember 166 = .ok (.getfield 33, 3) := by decide +kernel
theorem dM_remember_169 : decode cM_remember 169 = .ok (.iload_n 2, 1) := by decide +kernel
theorem dM_remember_170 : decode cM_remember 170 = .ok (.aload_n 0, 1) := by decide +kernel
theorem dM_remember_171 : decode cM_remember 171 = .ok (.getfield 116, 3) := by decide +kernel
theorem lM_116 : Cond.fieldLink RM 116 "RevisionWriteModel" "size" "I" ∈ A9 := in9 (by decide +kernel) rfl
theorem dM_remember_174 : decode cM_remember 174 = .ok (.iastore, 1) := by decide +kernel
theorem dM_remember_175 : decode cM_remember 175 = .ok (.aload_n 0, 1) := by decide +kernel
theorem dM_remember_176 : decode cM_remember 176 = .ok (.getfield 36, 3) := by decide +kernel
theorem dM_remember_179 : decode cM_remember 179 = .ok (.iload_n 2, 1) := by decide +kernel
theorem dM_remember_180 : decode cM_remember 180 = .ok (.aload_n 0, 1) := by decide +kernel
theorem dM_remember_181 : decode cM_remember 181 = .ok (.getfield 113, 3) := by decide +kernel
theorem dM_remember_184 : decode cM_remember 184 = .ok (.iastore, 1) := by decide +kernel
theorem dM_remember_185 : decode cM_remember 185 = .ok (.aload_n 0, 1) := by decide +kernel
theorem dM_remember_186 : decode cM_remember 186 = .ok (.iload_n 2, 1) := by decide +kernel
theorem dM_remember_187 : decode cM_remember 187 = .ok (.iconst 1, 1) := by decide +kernel
theorem dM_remember_188 : decode cM_remember 188 = .ok (.iadd, 1) := by decide +kernel
theorem dM_remember_189 : decode cM_remember 189 = .ok (.putfield 110, 3) := by decide +kernel
theorem dM_remember_192 : decode cM_remember 192 = .ok (.return_, 1) := by decide +kernel
abbrev cM_putAll : ByteArray := prog_10_method_20_code
def yM_putAll : MethodName := ⟨RM, "putAll", "(IZI)V"⟩
theorem wM_putAll : Cond.code yM_putAll cM_putAll 4 none ∈ A9 := in9 (by decide +kernel) rfl
theorem dM_putAll_0 : decode cM_putAll 0 = .ok (.aload_n 0, 1) := by decide +kernel
theorem dM_putAll_1 : decode cM_putAll 1 = .ok (.iconst 0, 1) := by decide +kernel
theorem dM_putAll_2 : decode cM_putAll 2 = .ok (.putfield 78, 3) := by decide +kernel
theorem dM_putAll_5 : decode cM_putAll 5 = .ok (.aload_n 0, 1) := by decide +kernel
theorem dM_putAll_6 : decode cM_putAll 6 = .ok (.aload_n 0, 1) := by decide +kernel
theorem dM_putAll_7 : decode cM_putAll 7 = .ok (.iload_n 1, 1) := by decide +kernel
theorem dM_putAll_8 : decode cM_putAll 8 = .ok (.iload_n 2, 1) := by decide +kernel
theorem dM_putAll_9 : decode cM_putAll 9 = .ok (.iload_n 3, 1) := by decide +kernel
theorem dM_putAll_10 : decode cM_putAll 10 = .ok (.invokevirtual 119, 3) := by decide +kernel
theorem dM_putAll_13 : decode cM_putAll 13 = .ok (.putfield 116, 3) := by decide +kernel
theorem dM_putAll_16 : decode cM_putAll 16 = .ok (.aload_n 0, 1) := by decide +kernel
theorem dM_putAll_17 : decode cM_putAll 17 = .ok (.iconst 0, 1) := by decide +kernel
theorem dM_putAll_18 : decode cM_putAll 18 = .ok (.putfield 123, 3) := by decide +kernel
theorem lM_123 : Cond.fieldLink RM 123 "RevisionWriteModel" "isAltered" "Z" ∈ A9 := in9 (by decide +kernel) rfl
theorem dM_putAll_21 : decode cM_putAll 21 = .ok (.aload_n 0, 1) := by decide +kernel
theorem dM_putAll_22 : decode cM_putAll 22 = .ok (.iload_n 2, 1) := by decide +kernel
theorem dM_putAll_23 : decode cM_putAll 23 = .ok (.invokevirtual 126, 3) := by decide +kernel
theorem dM_putAll_26 : decode cM_putAll 26 = .ok (.aload_n 0, 1) := by decide +kernel
theorem dM_putAll_27 : decode cM_putAll 27 = .ok (.invokevirtual 130, 3) := by decide +kernel
theorem dM_putAll_30 : decode cM_putAll 30 = .ok (.return_, 1) := by decide +kernel
abbrev cM_write : ByteArray := prog_10_method_21_code
def yM_write : MethodName := ⟨RM, "write", "(I)I"⟩
theorem wM_write : Cond.code yM_write cM_write 2 (some .int) ∈ A9 := in9 (by decide +kernel) rfl
theorem dM_write_0 : decode cM_write 0 = .ok (.aload_n 0, 1) := by decide +kernel
theorem dM_write_1 : decode cM_write 1 = .ok (.iload_n 1, 1) := by decide +kernel
theorem dM_write_2 : decode cM_write 2 = .ok (.ifCond .lt 8, 3) := by decide +kernel
theorem dM_write_5 : decode cM_write 5 = .ok (.iload_n 1, 1) := by decide +kernel
theorem dM_write_6 : decode cM_write 6 = .ok (.iconst 2, 1) := by decide +kernel
theorem dM_write_7 : decode cM_write 7 = .ok (.if_icmp .le 7, 3) := by decide +kernel
theorem dM_write_10 : decode cM_write 10 = .ok (.iconst 1, 1) := by decide +kernel
theorem dM_write_11 : decode cM_write 11 = .ok (.goto 4, 3) := by decide +kernel
theorem dM_write_14 : decode cM_write 14 = .ok (.iconst 0, 1) := by decide +kernel
theorem dM_write_15 : decode cM_write 15 = .ok (.putfield 63, 3) := by decide +kernel
theorem dM_write_18 : decode cM_write 18 = .ok (.aload_n 0, 1) := by decide +kernel
theorem dM_write_19 : decode cM_write 19 = .ok (.getfield 63, 3) := by decide +kernel
theorem dM_write_22 : decode cM_write 22 = .ok (.ifCond .le 5, 3) := by decide +kernel
theorem dM_write_25 : decode cM_write 25 = .ok (.iconst 0, 1) := by decide +kernel
theorem dM_write_26 : decode cM_write 26 = .ok (.ireturn, 1) := by decide +kernel
theorem dM_write_27 : decode cM_write 27 = .ok (.aload_n 0, 1) := by decide +kernel
theorem dM_write_28 : decode cM_write 28 = .ok (.iconst 1, 1) := by decide +kernel
theorem dM_write_29 : decode cM_write 29 = .ok (.putfield 78, 3) := by decide +kernel
theorem dM_write_32 : decode cM_write 32 = .ok (.aload_n 0, 1) := by decide +kernel
theorem dM_write_33 : decode cM_write 33 = .ok (.iconst 0, 1) := by decide +kernel
theorem dM_write_34 : decode cM_write 34 = .ok (.iconst 1, 1) := by decide +kernel
theorem dM_write_35 : decode cM_write 35 = .ok (.iload_n 1, 1) := by decide +kernel
theorem dM_write_36 : decode cM_write 36 = .ok (.invokevirtual 119, 3) := by decide +kernel
theorem dM_write_39 : decode cM_write 39 = .ok (.sipush 12000, 3) := by decide +kernel
theorem dM_write_42 : decode cM_write 42 = .ok (.if_icmp .le 10, 3) := by decide +kernel
theorem dM_write_45 : decode cM_write 45 = .ok (.aload_n 0, 1) := by decide +kernel
theorem dM_write_46 : decode cM_write 46 = .ok (.iconst 2, 1) := by decide +kernel
theorem dM_write_47 : decode cM_write 47 = .ok (.putfield 63, 3) := by decide +kernel
theorem dM_write_50 : decode cM_write 50 = .ok (.iconst 0, 1) := by decide +kernel
theorem dM_write_51 : decode cM_write 51 = .ok (.ireturn, 1) := by decide +kernel
theorem dM_write_52 : decode cM_write 52 = .ok (.aload_n 0, 1) := by decide +kernel
theorem dM_write_53 : decode cM_write 53 = .ok (.iconst 0, 1) := by decide +kernel
theorem dM_write_54 : decode cM_write 54 = .ok (.iconst 1, 1) := by decide +kernel
theorem dM_write_55 : decode cM_write 55 = .ok (.iload_n 1, 1) := by decide +kernel
theorem dM_write_56 : decode cM_write 56 = .ok (.invokevirtual 133, 3) := by decide +kernel
theorem dM_write_59 : decode cM_write 59 = .ok (.aload_n 0, 1) := by decide +kernel
theorem dM_write_60 : decode cM_write 60 = .ok (.getfield 116, 3) := by decide +kernel
theorem dM_write_63 : decode cM_write 63 = .ok (.ireturn, 1) := by decide +kernel
abbrev cM_changed : ByteArray := prog_10_method_22_code
def yM_changed : MethodName := ⟨RM, "changed", "()I"⟩
theorem wM_changed : Cond.code yM_changed cM_changed 3 (some .int) ∈ A9 := in9 (by decide +kernel) rfl
theorem dM_changed_0 : decode cM_changed 0 = .ok (.iconst 0, 1) := by decide +kernel
theorem dM_changed_1 : decode cM_changed 1 = .ok (.istore_n 1, 1) := by decide +kernel
theorem dM_changed_2 : decode cM_changed 2 = .ok (.iconst 1, 1) := by decide +kernel
theorem dM_changed_3 : decode cM_changed 3 = .ok (.istore_n 2, 1) := by decide +kernel
theorem dM_changed_4 : decode cM_changed 4 = .ok (.iload_n 2, 1) := by decide +kernel
theorem dM_changed_5 : decode cM_changed 5 = .ok (.bipush 40, 2) := by decide +kernel
theorem dM_changed_7 : decode cM_changed 7 = .ok (.if_icmp .gt 26, 3) := by decide +kernel
theorem dM_changed_10 : decode cM_changed 10 = .ok (.aload_n 0, 1) := by decide +kernel
theorem dM_changed_11 : decode cM_changed 11 = .ok (.getfield 16, 3) := by decide +kernel
theorem dM_changed_14 : decode cM_changed 14 = .ok (.iload_n 2, 1) := by decide +kernel
theorem dM_changed_15 : decode cM_changed 15 = .ok (.baload, 1) := by decide +kernel
theorem dM_changed_16 : decode cM_changed 16 = .ok (.ifCond .eq 9, 3) := by decide +kernel
theorem dM_changed_19 : decode cM_changed 19 = .ok (.iload_n 1, 1) := by decide +kernel
theorem dM_changed_20 : decode cM_changed 20 = .ok (.iconst 1, 1) := by decide +kernel
theorem dM_changed_21 : decode cM_changed 21 = .ok (.iadd, 1) := by decide +kernel
theorem dM_changed_22 : decode cM_changed 22 = .ok (.goto 4, 3) := by decide +kernel
theorem dM_changed_25 : decode cM_changed 25 = .ok (.iload_n 1, 1) := by decide +kernel
theorem dM_changed_26 : decode cM_changed 26 = .ok (.istore_n 1, 1) := by decide +kernel
theorem dM_changed_27 : decode cM_changed 27 = .ok (.iinc 2 1, 3) := by decide +kernel
theorem dM_changed_30 : decode cM_changed 30 = .ok (.goto (-26), 3) := by decide +kernel
theorem dM_changed_33 : decode cM_changed 33 = .ok (.iload_n 1, 1) := by decide +kernel
theorem dM_changed_34 : decode cM_changed 34 = .ok (.ireturn, 1) := by decide +kernel
abbrev cM_append : ByteArray := prog_10_method_23_code
def yM_append : MethodName := ⟨RM, "append", "()I"⟩
theorem wM_append : Cond.code yM_append cM_append 2 (some .int) ∈ A9 := in9 (by decide +kernel) rfl
theorem dM_append_0 : decode cM_append 0 = .ok (.aload_n 0, 1) := by decide +kernel
theorem dM_append_1 : decode cM_append 1 = .ok (.aload_n 0, 1) := by decide +kernel
theorem dM_append_2 : decode cM_append 2 = .ok (.getfield 116, 3) := by decide +kernel
theorem dM_append_5 : decode cM_append 5 = .ok (.ifCond .eq 10, 3) := by decide +kernel
theorem dM_append_8 : decode cM_append 8 = .ok (.aload_n 0, 1) := by decide +kernel
theorem dM_append_9 : decode cM_append 9 = .ok (.getfield 123, 3) := by decide +kernel
theorem dM_append_12 : decode cM_append 12 = .ok (.ifCond .eq 7, 3) := by decide +kernel
theorem dM_append_15 : decode cM_append 15 = .ok (.iconst 1, 1) := by decide +kernel
theorem dM_append_16 : decode cM_append 16 = .ok (.goto 4, 3) := by decide +kernel
theorem dM_append_19 : decode cM_append 19 = .ok (.iconst 0, 1) := by decide +kernel
theorem dM_append_20 : decode cM_append 20 = .ok (.putfield 63, 3) := by decide +kernel
theorem dM_append_23 : decode cM_append 23 = .ok (.aload_n 0, 1) := by decide +kernel
theorem dM_append_24 : decode cM_append 24 = .ok (.getfield 63, 3) := by decide +kernel
theorem dM_append_27 : decode cM_append 27 = .ok (.ifCond .gt 10, 3) := by decide +kernel
theorem dM_append_30 : decode cM_append 30 = .ok (.aload_n 0, 1) := by decide +kernel
theorem dM_append_31 : decode cM_append 31 = .ok (.invokevirtual 137, 3) := by decide +kernel
theorem dM_append_34 : decode cM_append 34 = .ok (.ifCond .ne 5, 3) := by decide +kernel
theorem dM_append_37 : decode cM_append 37 = .ok (.iconst 0, 1) := by decide +kernel
theorem dM_append_38 : decode cM_append 38 = .ok (.ireturn, 1) := by decide +kernel
theorem dM_append_39 : decode cM_append 39 = .ok (.aload_n 0, 1) := by decide +kernel
theorem dM_append_40 : decode cM_append 40 = .ok (.iconst 1, 1) := by decide +kernel
theorem dM_append_41 : decode cM_append 41 = .ok (.putfield 78, 3) := by decide +kernel
theorem dM_append_44 : decode cM_append 44 = .ok (.aload_n 0, 1) := by decide +kernel
theorem dM_append_45 : decode cM_append 45 = .ok (.getfield 110, 3) := by decide +kernel
theorem dM_append_48 : decode cM_append 48 = .ok (.bipush 60, 2) := by decide +kernel
theorem dM_append_50 : decode cM_append 50 = .ok (.if_icmp .eq 19, 3) := by decide +kernel
theorem dM_append_53 : decode cM_append 53 = .ok (.aload_n 0, 1) := by decide +kernel
theorem dM_append_54 : decode cM_append 54 = .ok (.aload_n 0, 1) := by decide +kernel
theorem dM_append_55 : decode cM_append 55 = .ok (.getfield 116, 3) := by decide +kernel
theorem dM_append_58 : decode cM_append 58 = .ok (.iconst 0, 1) := by decide +kernel
theorem dM_append_59 : decode cM_append 59 = .ok (.iconst 0, 1) := by decide +kernel
theorem dM_append_60 : decode cM_append 60 = .ok (.invokevirtual 119, 3) := by decide +kernel
theorem dM_append_63 : decode cM_append 63 = .ok (.sipush 12000, 3) := by decide +kernel
theorem dM_append_66 : decode cM_append 66 = .ok (.if_icmp .le 10, 3) := by decide +kernel
theorem dM_append_69 : decode cM_append 69 = .ok (.aload_n 0, 1) := by decide +kernel
theorem dM_append_70 : decode cM_append 70 = .ok (.iconst 2, 1) := by decide +kernel
theorem dM_append_71 : decode cM_append 71 = .ok (.putfield 63, 3) := by decide +kernel
theorem dM_append_74 : decode cM_append 74 = .ok (.iconst 0, 1) := by decide +kernel
theorem dM_append_75 : decode cM_append 75 = .ok (.ireturn, 1) := by decide +kernel
theorem dM_append_76 : decode cM_append 76 = .ok (.aload_n 0, 1) := by decide +kernel
theorem dM_append_77 : decode cM_append 77 = .ok (.getfield 116, 3) := by decide +kernel
theorem dM_append_80 : decode cM_append 80 = .ok (.istore_n 1, 1) := by decide +kernel
theorem dM_append_81 : decode cM_append 81 = .ok (.aload_n 0, 1) := by decide +kernel
theorem dM_append_82 : decode cM_append 82 = .ok (.aload_n 0, 1) := by decide +kernel
theorem dM_append_83 : decode cM_append 83 = .ok (.getfield 116, 3) := by decide +kernel
theorem dM_append_86 : decode cM_append 86 = .ok (.iconst 0, 1) := by decide +kernel
theorem dM_append_87 : decode cM_append 87 = .ok (.iconst 0, 1) := by decide +kernel
theorem dM_append_88 : decode cM_append 88 = .ok (.invokevirtual 133, 3) := by decide +kernel
theorem dM_append_91 : decode cM_append 91 = .ok (.aload_n 0, 1) := by decide +kernel
theorem dM_append_92 : decode cM_append 92 = .ok (.getfield 116, 3) := by decide +kernel
theorem dM_append_95 : decode cM_append 95 = .ok (.iload_n 1, 1) := by decide +kernel
theorem dM_append_96 : decode cM_append 96 = .ok (.isub, 1) := by decide +kernel
theorem dM_append_97 : decode cM_append 97 = .ok (.ireturn, 1) := by decide +kernel
abbrev cM_line : ByteArray := prog_10_method_24_code
def yM_line : MethodName := ⟨RM, "line", "(I)Z"⟩
theorem wM_line : Cond.code yM_line cM_line 2 (some .boolean) ∈ A9 := in9 (by decide +kernel) rfl
theorem dM_line_0 : decode cM_line 0 = .ok (.aload_n 0, 1) := by decide +kernel
theorem dM_line_1 : decode cM_line 1 = .ok (.iload_n 1, 1) := by decide +kernel
theorem dM_line_2 : decode cM_line 2 = .ok (.putfield 141, 3) := by decide +kernel
theorem lM_141 : Cond.fieldLink RM 141 "RevisionWriteModel" "cursor" "I" ∈ A9 := in9 (by decide +kernel) rfl
theorem dM_line_5 : decode cM_line 5 = .ok (.aload_n 0, 1) := by decide +kernel
theorem dM_line_6 : decode cM_line 6 = .ok (.iload_n 1, 1) := by decide +kernel
theorem dM_line_7 : decode cM_line 7 = .ok (.putfield 144, 3) := by decide +kernel
theorem lM_144 : Cond.fieldLink RM 144 "RevisionWriteModel" "lineEnd" "I" ∈ A9 := in9 (by decide +kernel) rfl
theorem dM_line_10 : decode cM_line 10 = .ok (.aload_n 0, 1) := by decide +kernel
theorem dM_line_11 : decode cM_line 11 = .ok (.getfield 144, 3) := by decide +kernel
theorem dM_line_14 : decode cM_line 14 = .ok (.aload_n 0, 1) := by decide +kernel
theorem dM_line_15 : decode cM_line 15 = .ok (.getfield 116, 3) := by decide +kernel
theorem dM_line_18 : decode cM_line 18 = .ok (.if_icmp .ge 30, 3) := by decide +kernel
theorem dM_line_21 : decode cM_line 21 = .ok (.aload_n 0, 1) := by decide +kernel
theorem dM_line_22 : decode cM_line 22 = .ok (.getfield 30, 3) := by decide +kernel
theorem dM_line_25 : decode cM_line 25 = .ok (.aload_n 0, 1) := by decide +kernel
theorem dM_line_26 : decode cM_line 26 = .ok (.getfield 144, 3) := by decide +kernel
theorem dM_line_29 : decode cM_line 29 = .ok (.baload, 1) := by decide +kernel
theorem dM_line_30 : decode cM_line 30 = .ok (.bipush 10, 2) := by decide +kernel
theorem dM_line_32 : decode cM_line 32 = .ok (.if_icmp .eq 16, 3) := by decide +kernel
theorem dM_line_35 : decode cM_line 35 = .ok (.aload_n 0, 1) := by decide +kernel
theorem dM_line_36 : decode cM_line 36 = .ok (.dup, 1) := by decide +kernel
theorem dM_line_37 : decode cM_line 37 = .ok (.getfield 144, 3) := by decide +kernel
theorem dM_line_40 : decode cM_line 40 = .ok (.iconst 1, 1) := by decide +kernel
theorem dM_line_41 : decode cM_line 41 = .ok (.iadd, 1) := by decide +kernel
theorem dM_line_42 : decode cM_line 42 = .ok (.putfield 144, 3) := by decide +kernel
theorem dM_line_45 : decode cM_line 45 = .ok (.goto (-35), 3) := by decide +kernel
theorem dM_line_48 : decode cM_line 48 = .ok (.aload_n 0, 1) := by decide +kernel
theorem dM_line_49 : decode cM_line 49 = .ok (.getfield 144, 3) := by decide +kernel
theorem dM_line_52 : decode cM_line 52 = .ok (.aload_n 0, 1) := by decide +kernel
theorem dM_line_53 : decode cM_line 53 = .ok (.getfield 116, 3) := by decide +kernel
theorem dM_line_56 : decode cM_line 56 = .ok (.if_icmp .ge 7, 3) := by decide +kernel
theorem dM_line_59 : decode cM_line 59 = .ok (.iconst 1, 1) := by decide +kernel
theorem dM_line_60 : decode cM_line 60 = .ok (.goto 4, 3) := by decide +kernel
theorem dM_line_63 : decode cM_line 63 = .ok (.iconst 0, 1) := by decide +kernel
theorem dM_line_64 : decode cM_line 64 = .ok (.ireturn, 1) := by decide +kernel
abbrev cM_takes : ByteArray := prog_10_method_25_code
def yM_takes : MethodName := ⟨RM, "takes", "(I)Z"⟩
theorem wM_takes : Cond.code yM_takes cM_takes 3 (some .boolean) ∈ A9 := in9 (by decide +kernel) rfl
theorem dM_takes_0 : decode cM_takes 0 = .ok (.aload_n 0, 1) := by decide +kernel
theorem dM_takes_1 : decode cM_takes 1 = .ok (.getfield 141, 3) := by decide +kernel
theorem dM_takes_4 : decode cM_takes 4 = .ok (.aload_n 0, 1) := by decide +kernel
theorem dM_takes_5 : decode cM_takes 5 = .ok (.getfield 144, 3) := by decide +kernel
theorem dM_takes_8 : decode cM_takes 8 = .ok (.if_icmp .ge 20, 3) := by decide +kernel
theorem dM_takes_11 : decode cM_takes 11 = .ok (.aload_n 0, 1) := by decide +kernel
theorem dM_takes_12 : decode cM_takes 12 = .ok (.getfield 30, 3) := by decide +kernel
theorem dM_takes_15 : decode cM_takes 15 = .ok (.aload_n 0, 1) := by decide +kernel
theorem dM_takes_16 : decode cM_takes 16 = .ok (.getfield 141, 3) := by decide +kernel
theorem dM_takes_19 : decode cM_takes 19 = .ok (.baload, 1) := by decide +kernel
theorem dM_takes_20 : decode cM_takes 20 = .ok (.iload_n 1, 1) := by decide +kernel
theorem dM_takes_21 : decode cM_takes 21 = .ok (.if_icmp .ne 7, 3) := by decide +kernel
theorem dM_takes_24 : decode cM_takes 24 = .ok (.iconst 1, 1) := by decide +kernel
theorem dM_takes_25 : decode cM_takes 25 = .ok (.goto 4, 3) := by decide +kernel
theorem dM_takes_28 : decode cM_takes 28 = .ok (.iconst 0, 1) := by decide +kernel
theorem dM_takes_29 : decode cM_takes 29 = .ok (.istore_n 2, 1) := by decide +kernel
theorem dM_takes_30 : decode cM_takes 30 = .ok (.aload_n 0, 1) := by decide +kernel
theorem dM_takes_31 : decode cM_takes 31 = .ok (.iload_n 2, 1) := by decide +kernel
theorem dM_takes_32 : decode cM_takes 32 = .ok (.ifCond .eq 12, 3) := by decide +kernel
theorem dM_takes_35 : decode cM_takes 35 = .ok (.aload_n 0, 1) := by decide +kernel
theorem dM_takes_36 : decode cM_takes 36 = .ok (.getfield 141, 3) := by decide +kernel
theorem dM_takes_39 : decode cM_takes 39 = .ok (.iconst 1, 1) := by decide +kernel
theorem dM_takes_40 : decode cM_takes 40 = .ok (.iadd, 1) := by decide +kernel
theorem dM_takes_41 : decode cM_takes 41 = .ok (.goto 7, 3) := by decide +kernel
theorem dM_takes_44 : decode cM_takes 44 = .ok (.aload_n 0, 1) := by decide +kernel
theorem dM_takes_45 : decode cM_takes 45 = .ok (.getfield 141, 3) := by decide +kernel
theorem dM_takes_48 : decode cM_takes 48 = .ok (.putfield 141, 3) := by decide +kernel
theorem dM_takes_51 : decode cM_takes 51 = .ok (.iload_n 2, 1) := by decide +kernel
theorem dM_takes_52 : decode cM_takes 52 = .ok (.ireturn, 1) := by decide +kernel
abbrev cM_takesNumber : ByteArray := prog_10_method_26_code
def yM_takesNumber : MethodName := ⟨RM, "takesNumber", "()Z"⟩
theorem wM_takesNumber : Cond.code yM_takesNumber cM_takesNumber 2 (some .boolean) ∈ A9 := in9 (by decide +kernel) rfl
theorem dM_takesNumber_0 : decode cM_takesNumber 0 = .ok (.aload_n 0, 1) := by decide +kernel
theorem dM_takesNumber_1 : decode cM_takesNumber 1 = .ok (.getfield 141, 3) := by decide +kernel
theorem dM_takesNumber_4 : decode cM_takesNumber 4 = .ok (.istore_n 1, 1) := by decide +kernel
theorem dM_takesNumber_5 : decode cM_takesNumber 5 = .ok (.aload_n 0, 1) := by decide +kernel
theorem dM_takesNumber_6 : decode cM_takesNumber 6 = .ok (.iconst 0, 1) := by decide +kernel
theorem dM_takesNumber_7 : decode cM_takesNumber 7 = .ok (.putfield 147, 3) := by decide +kernel
theorem lM_147 : Cond.fieldLink RM 147 "RevisionWriteModel" "number" "I" ∈ A9 := in9 (by decide +kernel) rfl
theorem dM_takesNumber_10 : decode cM_takesNumber 10 = .ok (.aload_n 0, 1) := by decide +kernel
theorem dM_takesNumber_11 : decode cM_takesNumber 11 = .ok (.getfield 141, 3) := by decide +kernel
theorem dM_takesNumber_14 : decode cM_takesNumber 14 = .ok (.aload_n 0, 1) := by decide +kernel
theorem dM_takesNumber_15 : decode cM_takesNumber 15 = .ok (.getfield 144, 3) := by decide +kernel
theorem dM_takesNumber_18 : decode cM_takesNumber 18 = .ok (.if_icmp .ge 78, 3) := by decide +kernel
theorem dM_takesNumber_21 : decode cM_takesNumber 21 = .ok (.aload_n 0, 1) := by decide +kernel
theorem dM_takesNumber_22 : decode cM_takesNumber 22 = .ok (.getfield 30, 3) := by decide +kernel
theorem dM_takesNumber_25 : decode cM_takesNumber 25 = .ok (.aload_n 0, 1) := by decide +kernel
theorem dM_takesNumber_26 : decode cM_takesNumber 26 = .ok (.getfield 141, 3) := by decide +kernel
theorem dM_takesNumber_29 : decode cM_takesNumber 29 = .ok (.baload, 1) := by decide +kernel
theorem dM_takesNumber_30 : decode cM_takesNumber 30 = .ok (.bipush 48, 2) := by decide +kernel
theorem dM_takesNumber_32 : decode cM_takesNumber 32 = .ok (.if_icmp .lt 64, 3) := by decide +kernel
theorem dM_takesNumber_35 : decode cM_takesNumber 35 = .ok (.aload_n 0, 1) := by decide +kernel
theorem dM_takesNumber_36 : decode cM_takesNumber 36 = .ok (.getfield 30, 3) := by decide +kernel
theorem dM_takesNumber_39 : decode cM_takesNumber 39 = .ok (.aload_n 0, 1) := by decide +kernel
theorem dM_takesNumber_40 : decode cM_takesNumber 40 = .ok (.getfield 141, 3) := by decide +kernel
theorem dM_takesNumber_43 : decode cM_takesNumber 43 = .ok (.baload, 1) := by decide +kernel
theorem dM_takesNumber_44 : decode cM_takesNumber 44 = .ok (.bipush 57, 2) := by decide +kernel
theorem dM_takesNumber_46 : decode cM_takesNumber 46 = .ok (.if_icmp .gt 50, 3) := by decide +kernel
theorem dM_takesNumber_49 : decode cM_takesNumber 49 = .ok (.aload_n 0, 1) := by decide +kernel
theorem dM_takesNumber_50 : decode cM_takesNumber 50 = .ok (.getfield 141, 3) := by decide +kernel
theorem dM_takesNumber_53 : decode cM_takesNumber 53 = .ok (.iload_n 1, 1) := by decide +kernel
theorem dM_takesNumber_54 : decode cM_takesNumber 54 = .ok (.isub, 1) := by decide +kernel
theorem dM_takesNumber_55 : decode cM_takesNumber 55 = .ok (.iconst 5, 1) := by decide +kernel
theorem dM_takesNumber_56 : decode cM_takesNumber 56 = .ok (.if_icmp .ge 40, 3) := by decide +kernel
theorem dM_takesNumber_59 : decode cM_takesNumber 59 = .ok (.aload_n 0, 1) := by decide +kernel
theorem dM_takesNumber_60 : decode cM_takesNumber 60 = .ok (.bipush 10, 2) := by decide +kernel
theorem dM_takesNumber_62 : decode cM_takesNumber 62 = .ok (.aload_n 0, 1) := by decide +kernel
theorem dM_takesNumber_63 : decode cM_takesNumber 63 = .ok (.getfield 147, 3) := by decide +kernel
theorem dM_takesNumber_66 : decode cM_takesNumber 66 = .ok (.imul, 1) := by decide +kernel
theorem dM_takesNumber_67 : decode cM_takesNumber 67 = .ok (.aload_n 0, 1) := by decide +kernel
theorem dM_takesNumber_68 : decode cM_takesNumber 68 = .ok (.getfield 30, 3) := by decide +kernel
theorem dM_takesNumber_71 : decode cM_takesNumber 71 = .ok (.aload_n 0, 1) := by decide +kernel
theorem dM_takesNumber_72 : decode cM_takesNumber 72 = .ok (.getfield 141, 3) := by decide +kernel
theorem dM_takesNumber_75 : decode cM_takesNumber 75 = .ok (.baload, 1) := by decide +kernel
theorem dM_takesNumber_76 : decode cM_takesNumber 76 = .ok (.iadd, 1) := by decide +kernel
theorem dM_takesNumber_77 : decode cM_takesNumber 77 = .ok (.bipush 48, 2) := by decide +kernel
theorem dM_takesNumber_79 : decode cM_takesNumber 79 = .ok (.isub, 1) := by decide +kernel
theorem dM_takesNumber_80 : decode cM_takesNumber 80 = .ok (.putfield 147, 3) := by decide +kernel
theorem dM_takesNumber_83 : decode cM_takesNumber 83 = .ok (.aload_n 0, 1) := by decide +kernel
theorem dM_takesNumber_84 : decode cM_takesNumber 84 = .ok (.dup, 1) := by decide +kernel
theorem dM_takesNumber_85 : decode cM_takesNumber 85 = .ok (.getfield 141, 3) := by decide +kernel
theorem dM_takesNumber_88 : decode cM_takesNumber 88 = .ok (.iconst 1, 1) := by decide +kernel
theorem dM_takesNumber_89 : decode cM_takesNumber 89 = .ok (.iadd, 1) := by decide +kernel
theorem dM_takesNumber_90 : decode cM_takesNumber 90 = .ok (.putfield 141, 3) := by decide +kernel
theorem dM_takesNumber_93 : decode cM_takesNumber 93 = .ok (.goto (-83), 3) := by decide +kernel
theorem dM_takesNumber_96 : decode cM_takesNumber 96 = .ok (.aload_n 0, 1) := by decide +kernel
theorem dM_takesNumber_97 : decode cM_takesNumber 97 = .ok (.getfield 141, 3) := by decide +kernel
theorem dM_takesNumber_100 : decode cM_takesNumber 100 = .ok (.iload_n 1, 1) := by decide +kernel
theorem dM_takesNumber_101 : decode cM_takesNumber 101 = .ok (.if_icmp .le 28, 3) := by decide +kernel
theorem dM_takesNumber_104 : decode cM_takesNumber 104 = .ok (.aload_n 0, 1) := by decide +kernel
theorem dM_takesNumber_105 : decode cM_takesNumber 105 = .ok (.getfield 141, 3) := by decide +kernel
theorem dM_takesNumber_108 : decode cM_takesNumber 108 = .ok (.iload_n 1, 1) := by decide +kernel
theorem dM_takesNumber_109 : decode cM_takesNumber 109 = .ok (.isub, 1) := by decide +kernel
theorem dM_takesNumber_110 : decode cM_takesNumber 110 = .ok (.iconst 1, 1) := by decide +kernel
theorem dM_takesNumber_111 : decode cM_takesNumber 111 = .ok (.if_icmp .eq 14, 3) := by decide +kernel
theorem dM_takesNumber_114 : decode cM_takesNumber 114 = .ok (.aload_n 0, 1) := by decide +kernel
theorem dM_takesNumber_115 : decode cM_takesNumber 115 = .ok (.getfield 30, 3) := by decide +kernel
theorem dM_takesNumber_118 : decode cM_takesNumber 118 = .ok (.iload_n 1, 1) := by decide +kernel
theorem dM_takesNumber_119 : decode cM_takesNumber 119 = .ok (.baload, 1) := by decide +kernel
theorem dM_takesNumber_120 : decode cM_takesNumber 120 = .ok (.bipush 48, 2) := by decide +kernel
theorem dM_takesNumber_122 : decode cM_takesNumber 122 = .ok (.if_icmp .eq 7, 3) := by decide +kernel
theorem dM_takesNumber_125 : decode cM_takesNumber 125 = .ok (.iconst 1, 1) := by decide +kernel
theorem dM_takesNumber_126 : decode cM_takesNumber 126 = .ok (.goto 4, 3) := by decide +kernel
theorem dM_takesNumber_129 : decode cM_takesNumber 129 = .ok (.iconst 0, 1) := by decide +kernel
theorem dM_takesNumber_130 : decode cM_takesNumber 130 = .ok (.ireturn, 1) := by decide +kernel
abbrev cM_isOver : ByteArray := prog_10_method_27_code
def yM_isOver : MethodName := ⟨RM, "isOver", "()Z"⟩
theorem wM_isOver : Cond.code yM_isOver cM_isOver 1 (some .boolean) ∈ A9 := in9 (by decide +kernel) rfl
theorem dM_isOver_0 : decode cM_isOver 0 = .ok (.aload_n 0, 1) := by decide +kernel
theorem dM_isOver_1 : decode cM_isOver 1 = .ok (.getfield 141, 3) := by decide +kernel
theorem dM_isOver_4 : decode cM_isOver 4 = .ok (.aload_n 0, 1) := by decide +kernel
theorem dM_isOver_5 : decode cM_isOver 5 = .ok (.getfield 144, 3) := by decide +kernel
theorem dM_isOver_8 : decode cM_isOver 8 = .ok (.if_icmp .ne 7, 3) := by decide +kernel
theorem dM_isOver_11 : decode cM_isOver 11 = .ok (.iconst 1, 1) := by decide +kernel
theorem dM_isOver_12 : decode cM_isOver 12 = .ok (.goto 4, 3) := by decide +kernel
theorem dM_isOver_15 : decode cM_isOver 15 = .ok (.iconst 0, 1) := by decide +kernel
theorem dM_isOver_16 : decode cM_isOver 16 = .ok (.ireturn, 1) := by decide +kernel
abbrev cM_tells : ByteArray := prog_10_method_28_code
def yM_tells : MethodName := ⟨RM, "tells", "(II)Z"⟩
theorem wM_tells : Cond.code yM_tells cM_tells 3 (some .boolean) ∈ A9 := in9 (by decide +kernel) rfl
theorem dM_tells_0 : decode cM_tells 0 = .ok (.aload_n 0, 1) := by decide +kernel
theorem dM_tells_1 : decode cM_tells 1 = .ok (.iload_n 1, 1) := by decide +kernel
theorem dM_tells_2 : decode cM_tells 2 = .ok (.invokevirtual 150, 3) := by decide +kernel
theorem dM_tells_5 : decode cM_tells 5 = .ok (.ifCond .eq 38, 3) := by decide +kernel
theorem dM_tells_8 : decode cM_tells 8 = .ok (.aload_n 0, 1) := by decide +kernel
theorem dM_tells_9 : decode cM_tells 9 = .ok (.iload_n 2, 1) := by decide +kernel
theorem dM_tells_10 : decode cM_tells 10 = .ok (.invokevirtual 153, 3) := by decide +kernel
theorem dM_tells_13 : decode cM_tells 13 = .ok (.ifCond .eq 30, 3) := by decide +kernel
theorem dM_tells_16 : decode cM_tells 16 = .ok (.aload_n 0, 1) := by decide +kernel
theorem dM_tells_17 : decode cM_tells 17 = .ok (.bipush 32, 2) := by decide +kernel
theorem dM_tells_19 : decode cM_tells 19 = .ok (.invokevirtual 153, 3) := by decide +kernel
theorem dM_tells_22 : decode cM_tells 22 = .ok (.ifCond .eq 21, 3) := by decide +kernel
theorem dM_tells_25 : decode cM_tells 25 = .ok (.aload_n 0, 1) := by decide +kernel
theorem dM_tells_26 : decode cM_tells 26 = .ok (.invokevirtual 156, 3) := by decide +kernel
theorem dM_tells_29 : decode cM_tells 29 = .ok (.ifCond .eq 14, 3) := by decide +kernel
theorem dM_tells_32 : decode cM_tells 32 = .ok (.aload_n 0, 1) := by decide +kernel
theorem dM_tells_33 : decode cM_tells 33 = .ok (.invokevirtual 160, 3) := by decide +kernel
theorem dM_tells_36 : decode cM_tells 36 = .ok (.ifCond .eq 7, 3) := by decide +kernel
theorem dM_tells_39 : decode cM_tells 39 = .ok (.iconst 1, 1) := by decide +kernel
theorem dM_tells_40 : decode cM_tells 40 = .ok (.goto 4, 3) := by decide +kernel
theorem dM_tells_43 : decode cM_tells 43 = .ok (.iconst 0, 1) := by decide +kernel
theorem dM_tells_44 : decode cM_tells 44 = .ok (.ireturn, 1) := by decide +kernel
abbrev cM_isRow : ByteArray := prog_10_method_29_code
def yM_isRow : MethodName := ⟨RM, "isRow", "(I)Z"⟩
theorem wM_isRow : Cond.code yM_isRow cM_isRow 3 (some .boolean) ∈ A9 := in9 (by decide +kernel) rfl
theorem dM_isRow_0 : decode cM_isRow 0 = .ok (.aload_n 0, 1) := by decide +kernel
theorem dM_isRow_1 : decode cM_isRow 1 = .ok (.iload_n 1, 1) := by decide +kernel
theorem dM_isRow_2 : decode cM_isRow 2 = .ok (.invokevirtual 150, 3) := by decide +kernel
theorem dM_isRow_5 : decode cM_isRow 5 = .ok (.ifCond .eq 10, 3) := by decide +kernel
theorem dM_isRow_8 : decode cM_isRow 8 = .ok (.aload_n 0, 1) := by decide +kernel
theorem dM_isRow_9 : decode cM_isRow 9 = .ok (.invokevirtual 156, 3) := by decide +kernel
theorem dM_isRow_12 : decode cM_isRow 12 = .ok (.ifCond .ne 5, 3) := by decide +kernel
theorem dM_isRow_15 : decode cM_isRow 15 = .ok (.iconst 0, 1) := by decide +kernel
theorem dM_isRow_16 : decode cM_isRow 16 = .ok (.ireturn, 1) := by decide +kernel
theorem dM_isRow_17 : decode cM_isRow 17 = .ok (.aload_n 0, 1) := by decide +kernel
theorem dM_isRow_18 : decode cM_isRow 18 = .ok (.aload_n 0, 1) := by decide +kernel
theorem dM_isRow_19 : decode cM_isRow 19 = .ok (.getfield 147, 3) := by decide +kernel
theorem dM_isRow_22 : decode cM_isRow 22 = .ok (.putfield 113, 3) := by decide +kernel
theorem dM_isRow_25 : decode cM_isRow 25 = .ok (.aload_n 0, 1) := by decide +kernel
theorem dM_isRow_26 : decode cM_isRow 26 = .ok (.bipush 32, 2) := by decide +kernel
theorem dM_isRow_28 : decode cM_isRow 28 = .ok (.invokevirtual 153, 3) := by decide +kernel
theorem dM_isRow_31 : decode cM_isRow 31 = .ok (.ifCond .ne 5, 3) := by decide +kernel
theorem dM_isRow_34 : decode cM_isRow 34 = .ok (.iconst 0, 1) := by decide +kernel
theorem dM_isRow_35 : decode cM_isRow 35 = .ok (.ireturn, 1) := by decide +kernel
theorem dM_isRow_36 : decode cM_isRow 36 = .ok (.aload_n 0, 1) := by decide +kernel
theorem dM_isRow_37 : decode cM_isRow 37 = .ok (.iconst (-1), 1) := by decide +kernel
theorem dM_isRow_38 : decode cM_isRow 38 = .ok (.putfield 163, 3) := by decide +kernel
theorem lM_163 : Cond.fieldLink RM 163 "RevisionWriteModel" "second" "I" ∈ A9 := in9 (by decide +kernel) rfl
theorem dM_isRow_41 : decode cM_isRow 41 = .ok (.aload_n 0, 1) := by decide +kernel
theorem dM_isRow_42 : decode cM_isRow 42 = .ok (.bipush 45, 2) := by decide +kernel
theorem dM_isRow_44 : decode cM_isRow 44 = .ok (.invokevirtual 153, 3) := by decide +kernel
theorem dM_isRow_47 : decode cM_isRow 47 = .ok (.ifCond .eq 8, 3) := by decide +kernel
theorem dM_isRow_50 : decode cM_isRow 50 = .ok (.aload_n 0, 1) := by decide +kernel
theorem dM_isRow_51 : decode cM_isRow 51 = .ok (.invokevirtual 160, 3) := by decide +kernel
theorem dM_isRow_54 : decode cM_isRow 54 = .ok (.ireturn, 1) := by decide +kernel
theorem dM_isRow_55 : decode cM_isRow 55 = .ok (.aload_n 0, 1) := by decide +kernel
theorem dM_isRow_56 : decode cM_isRow 56 = .ok (.invokevirtual 156, 3) := by decide +kernel
theorem dM_isRow_59 : decode cM_isRow 59 = .ok (.ifCond .eq 14, 3) := by decide +kernel
theorem dM_isRow_62 : decode cM_isRow 62 = .ok (.aload_n 0, 1) := by decide +kernel
theorem dM_isRow_63 : decode cM_isRow 63 = .ok (.invokevirtual 160, 3) := by decide +kernel
theorem dM_isRow_66 : decode cM_isRow 66 = .ok (.ifCond .eq 7, 3) := by decide +kernel
theorem dM_isRow_69 : decode cM_isRow 69 = .ok (.iconst 1, 1) := by decide +kernel
theorem dM_isRow_70 : decode cM_isRow 70 = .ok (.goto 4, 3) := by decide +kernel
theorem dM_isRow_73 : decode cM_isRow 73 = .ok (.iconst 0, 1) := by decide +kernel
theorem dM_isRow_74 : decode cM_isRow 74 = .ok (.istore_n 2, 1) := by decide +kernel
theorem dM_isRow_75 : decode cM_isRow 75 = .ok (.aload_n 0, 1) := by decide +kernel
theorem dM_isRow_76 : decode cM_isRow 76 = .ok (.aload_n 0, 1) := by decide +kernel
theorem dM_isRow_77 : decode cM_isRow 77 = .ok (.getfield 147, 3) := by decide +kernel
theorem dM_isRow_80 : decode cM_isRow 80 = .ok (.putfield 163, 3) := by decide +kernel
theorem dM_isRow_83 : decode cM_isRow 83 = .ok (.iload_n 2, 1) := by decide +kernel
theorem dM_isRow_84 : decode cM_isRow 84 = .ok (.ireturn, 1) := by decide +kernel
abbrev cM_isRecord : ByteArray := prog_10_method_30_code
def yM_isRecord : MethodName := ⟨RM, "isRecord", "(III)Z"⟩
theorem wM_isRecord : Cond.code yM_isRecord cM_isRecord 4 (some .boolean) ∈ A9 := in9 (by decide +kernel) rfl
theorem dM_isRecord_0 : decode cM_isRecord 0 = .ok (.aload_n 0, 1) := by decide +kernel
theorem dM_isRecord_1 : decode cM_isRecord 1 = .ok (.iload_n 1, 1) := by decide +kernel
theorem dM_isRecord_2 : decode cM_isRecord 2 = .ok (.invokevirtual 150, 3) := by decide +kernel
theorem dM_isRecord_5 : decode cM_isRecord 5 = .ok (.ifCond .eq 68, 3) := by decide +kernel
theorem dM_isRecord_8 : decode cM_isRecord 8 = .ok (.aload_n 0, 1) := by decide +kernel
theorem dM_isRecord_9 : decode cM_isRecord 9 = .ok (.bipush 111, 2) := by decide +kernel
theorem dM_isRecord_11 : decode cM_isRecord 11 = .ok (.invokevirtual 153, 3) := by decide +kernel
theorem dM_isRecord_14 : decode cM_isRecord 14 = .ok (.ifCond .eq 59, 3) := by decide +kernel
theorem dM_isRecord_17 : decode cM_isRecord 17 = .ok (.aload_n 0, 1) := by decide +kernel
end
section
theorem dM_isRecord_18 : decode cM_isRecord 18 = .ok (.bipush 32, 2) := by decide +kernel
theorem dM_isRecord_20 : decode cM_isRecord 20 = .ok (.invokevirtual 153, 3) := by decide +kernel
theorem dM_isRecord_23 : decode cM_isRecord 23 = .ok (.ifCond .eq 50, 3) := by decide +kernel
theorem dM_isRecord_26 : decode cM_isRecord 26 = .ok (.aload_n 0, 1) := by decide +kernel
theorem dM_isRecord_27 : decode cM_isRecord 27 = .ok (.invokevirtual 156, 3) := by decide +kernel
theorem dM_isRecord_30 : decode cM_isRecord 30 = .ok (.ifCond .eq 43, 3) := by decide +kernel
theorem dM_isRecord_33 : decode cM_isRecord 33 = .ok (.aload_n 0, 1) := by decide +kernel
theorem dM_isRecord_34 : decode cM_isRecord 34 = .ok (.getfield 147, 3) := by decide +kernel
theorem dM_isRecord_37 : decode cM_isRecord 37 = .ok (.iload_n 2, 1) := by decide +kernel
theorem dM_isRecord_38 : decode cM_isRecord 38 = .ok (.if_icmp .ne 35, 3) := by decide +kernel
theorem dM_isRecord_41 : decode cM_isRecord 41 = .ok (.aload_n 0, 1) := by decide +kernel
theorem dM_isRecord_42 : decode cM_isRecord 42 = .ok (.bipush 32, 2) := by decide +kernel
theorem dM_isRecord_44 : decode cM_isRecord 44 = .ok (.invokevirtual 153, 3) := by decide +kernel
theorem dM_isRecord_47 : decode cM_isRecord 47 = .ok (.ifCond .eq 26, 3) := by decide +kernel
theorem dM_isRecord_50 : decode cM_isRecord 50 = .ok (.aload_n 0, 1) := by decide +kernel
theorem dM_isRecord_51 : decode cM_isRecord 51 = .ok (.invokevirtual 156, 3) := by decide +kernel
theorem dM_isRecord_54 : decode cM_isRecord 54 = .ok (.ifCond .eq 19, 3) := by decide +kernel
theorem dM_isRecord_57 : decode cM_isRecord 57 = .ok (.aload_n 0, 1) := by decide +kernel
theorem dM_isRecord_58 : decode cM_isRecord 58 = .ok (.invokevirtual 160, 3) := by decide +kernel
theorem dM_isRecord_61 : decode cM_isRecord 61 = .ok (.ifCond .eq 12, 3) := by decide +kernel
theorem dM_isRecord_64 : decode cM_isRecord 64 = .ok (.aload_n 0, 1) := by decide +kernel
theorem dM_isRecord_65 : decode cM_isRecord 65 = .ok (.getfield 147, 3) := by decide +kernel
theorem dM_isRecord_68 : decode cM_isRecord 68 = .ok (.bipush 120, 2) := by decide +kernel
theorem dM_isRecord_70 : decode cM_isRecord 70 = .ok (.if_icmp .le 5, 3) := by decide +kernel
theorem dM_isRecord_73 : decode cM_isRecord 73 = .ok (.iconst 0, 1) := by decide +kernel
theorem dM_isRecord_74 : decode cM_isRecord 74 = .ok (.ireturn, 1) := by decide +kernel
theorem dM_isRecord_75 : decode cM_isRecord 75 = .ok (.aload_n 0, 1) := by decide +kernel
theorem dM_isRecord_76 : decode cM_isRecord 76 = .ok (.aload_n 0, 1) := by decide +kernel
theorem dM_isRecord_77 : decode cM_isRecord 77 = .ok (.getfield 144, 3) := by decide +kernel
theorem dM_isRecord_80 : decode cM_isRecord 80 = .ok (.iconst 1, 1) := by decide +kernel
theorem dM_isRecord_81 : decode cM_isRecord 81 = .ok (.iadd, 1) := by decide +kernel
theorem dM_isRecord_82 : decode cM_isRecord 82 = .ok (.putfield 113, 3) := by decide +kernel
theorem dM_isRecord_85 : decode cM_isRecord 85 = .ok (.aload_n 0, 1) := by decide +kernel
theorem dM_isRecord_86 : decode cM_isRecord 86 = .ok (.aload_n 0, 1) := by decide +kernel
theorem dM_isRecord_87 : decode cM_isRecord 87 = .ok (.getfield 147, 3) := by decide +kernel
theorem dM_isRecord_90 : decode cM_isRecord 90 = .ok (.putfield 163, 3) := by decide +kernel
theorem dM_isRecord_93 : decode cM_isRecord 93 = .ok (.aload_n 0, 1) := by decide +kernel
theorem dM_isRecord_94 : decode cM_isRecord 94 = .ok (.getfield 113, 3) := by decide +kernel
theorem dM_isRecord_97 : decode cM_isRecord 97 = .ok (.aload_n 0, 1) := by decide +kernel
theorem dM_isRecord_98 : decode cM_isRecord 98 = .ok (.getfield 163, 3) := by decide +kernel
theorem dM_isRecord_101 : decode cM_isRecord 101 = .ok (.iadd, 1) := by decide +kernel
theorem dM_isRecord_102 : decode cM_isRecord 102 = .ok (.iload_n 3, 1) := by decide +kernel
theorem dM_isRecord_103 : decode cM_isRecord 103 = .ok (.if_icmp .ge 26, 3) := by decide +kernel
theorem dM_isRecord_106 : decode cM_isRecord 106 = .ok (.aload_n 0, 1) := by decide +kernel
theorem dM_isRecord_107 : decode cM_isRecord 107 = .ok (.getfield 30, 3) := by decide +kernel
theorem dM_isRecord_110 : decode cM_isRecord 110 = .ok (.aload_n 0, 1) := by decide +kernel
theorem dM_isRecord_111 : decode cM_isRecord 111 = .ok (.getfield 113, 3) := by decide +kernel
theorem dM_isRecord_114 : decode cM_isRecord 114 = .ok (.aload_n 0, 1) := by decide +kernel
theorem dM_isRecord_115 : decode cM_isRecord 115 = .ok (.getfield 163, 3) := by decide +kernel
theorem dM_isRecord_118 : decode cM_isRecord 118 = .ok (.iadd, 1) := by decide +kernel
theorem dM_isRecord_119 : decode cM_isRecord 119 = .ok (.baload, 1) := by decide +kernel
theorem dM_isRecord_120 : decode cM_isRecord 120 = .ok (.bipush 10, 2) := by decide +kernel
theorem dM_isRecord_122 : decode cM_isRecord 122 = .ok (.if_icmp .ne 7, 3) := by decide +kernel
theorem dM_isRecord_125 : decode cM_isRecord 125 = .ok (.iconst 1, 1) := by decide +kernel
theorem dM_isRecord_126 : decode cM_isRecord 126 = .ok (.goto 4, 3) := by decide +kernel
theorem dM_isRecord_129 : decode cM_isRecord 129 = .ok (.iconst 0, 1) := by decide +kernel
theorem dM_isRecord_130 : decode cM_isRecord 130 = .ok (.ireturn, 1) := by decide +kernel
abbrev cM_wrong : ByteArray := prog_10_method_31_code
def yM_wrong : MethodName := ⟨RM, "wrong", "(I)Z"⟩
theorem wM_wrong : Cond.code yM_wrong cM_wrong 2 (some .boolean) ∈ A9 := in9 (by decide +kernel) rfl
theorem dM_wrong_0 : decode cM_wrong 0 = .ok (.aload_n 0, 1) := by decide +kernel
theorem dM_wrong_1 : decode cM_wrong 1 = .ok (.iload_n 1, 1) := by decide +kernel
theorem dM_wrong_2 : decode cM_wrong 2 = .ok (.putfield 166, 3) := by decide +kernel
theorem lM_166 : Cond.fieldLink RM 166 "RevisionWriteModel" "fault" "I" ∈ A9 := in9 (by decide +kernel) rfl
theorem dM_wrong_5 : decode cM_wrong 5 = .ok (.iconst 0, 1) := by decide +kernel
theorem dM_wrong_6 : decode cM_wrong 6 = .ok (.ireturn, 1) := by decide +kernel
abbrev cM_lookAt : ByteArray := prog_10_method_32_code
def yM_lookAt : MethodName := ⟨RM, "lookAt", "(I)I"⟩
theorem wM_lookAt : Cond.code yM_lookAt cM_lookAt 6 (some .int) ∈ A9 := in9 (by decide +kernel) rfl
theorem dM_lookAt_0 : decode cM_lookAt 0 = .ok (.aload_n 0, 1) := by decide +kernel
theorem dM_lookAt_1 : decode cM_lookAt 1 = .ok (.iload_n 1, 1) := by decide +kernel
theorem dM_lookAt_2 : decode cM_lookAt 2 = .ok (.bipush 120, 2) := by decide +kernel
theorem dM_lookAt_4 : decode cM_lookAt 4 = .ok (.invokevirtual 169, 3) := by decide +kernel
theorem dM_lookAt_7 : decode cM_lookAt 7 = .ok (.ifCond .ne 10, 3) := by decide +kernel
theorem dM_lookAt_10 : decode cM_lookAt 10 = .ok (.aload_n 0, 1) := by decide +kernel
theorem dM_lookAt_11 : decode cM_lookAt 11 = .ok (.iload_n 1, 1) := by decide +kernel
theorem dM_lookAt_12 : decode cM_lookAt 12 = .ok (.putfield 166, 3) := by decide +kernel
theorem dM_lookAt_15 : decode cM_lookAt 15 = .ok (.iconst (-1), 1) := by decide +kernel
theorem dM_lookAt_16 : decode cM_lookAt 16 = .ok (.ireturn, 1) := by decide +kernel
theorem dM_lookAt_17 : decode cM_lookAt 17 = .ok (.aload_n 0, 1) := by decide +kernel
theorem dM_lookAt_18 : decode cM_lookAt 18 = .ok (.getfield 147, 3) := by decide +kernel
theorem dM_lookAt_21 : decode cM_lookAt 21 = .ok (.istore_n 2, 1) := by decide +kernel
theorem dM_lookAt_22 : decode cM_lookAt 22 = .ok (.aload_n 0, 1) := by decide +kernel
theorem dM_lookAt_23 : decode cM_lookAt 23 = .ok (.getfield 144, 3) := by decide +kernel
theorem dM_lookAt_26 : decode cM_lookAt 26 = .ok (.iconst 1, 1) := by decide +kernel
theorem dM_lookAt_27 : decode cM_lookAt 27 = .ok (.iadd, 1) := by decide +kernel
theorem dM_lookAt_28 : decode cM_lookAt 28 = .ok (.istore_n 3, 1) := by decide +kernel
theorem dM_lookAt_29 : decode cM_lookAt 29 = .ok (.iconst 0, 1) := by decide +kernel
theorem dM_lookAt_30 : decode cM_lookAt 30 = .ok (.istore 4, 2) := by decide +kernel
theorem dM_lookAt_32 : decode cM_lookAt 32 = .ok (.iconst 0, 1) := by decide +kernel
theorem dM_lookAt_33 : decode cM_lookAt 33 = .ok (.istore 5, 2) := by decide +kernel
theorem dM_lookAt_35 : decode cM_lookAt 35 = .ok (.iload 5, 2) := by decide +kernel
theorem dM_lookAt_37 : decode cM_lookAt 37 = .ok (.iload_n 2, 1) := by decide +kernel
theorem dM_lookAt_38 : decode cM_lookAt 38 = .ok (.if_icmp .ge 64, 3) := by decide +kernel
theorem dM_lookAt_41 : decode cM_lookAt 41 = .ok (.aload_n 0, 1) := by decide +kernel
theorem dM_lookAt_42 : decode cM_lookAt 42 = .ok (.iload_n 3, 1) := by decide +kernel
theorem dM_lookAt_43 : decode cM_lookAt 43 = .ok (.invokevirtual 172, 3) := by decide +kernel
theorem dM_lookAt_46 : decode cM_lookAt 46 = .ok (.ifCond .eq 30, 3) := by decide +kernel
theorem dM_lookAt_49 : decode cM_lookAt 49 = .ok (.aload_n 0, 1) := by decide +kernel
theorem dM_lookAt_50 : decode cM_lookAt 50 = .ok (.getfield 113, 3) := by decide +kernel
theorem dM_lookAt_53 : decode cM_lookAt 53 = .ok (.invokestatic 67, 3) := by decide +kernel
theorem dM_lookAt_56 : decode cM_lookAt 56 = .ok (.ifCond .eq 20, 3) := by decide +kernel
theorem dM_lookAt_59 : decode cM_lookAt 59 = .ok (.aload_n 0, 1) := by decide +kernel
theorem dM_lookAt_60 : decode cM_lookAt 60 = .ok (.getfield 113, 3) := by decide +kernel
theorem dM_lookAt_63 : decode cM_lookAt 63 = .ok (.iload 4, 2) := by decide +kernel
theorem dM_lookAt_65 : decode cM_lookAt 65 = .ok (.if_icmp .le 11, 3) := by decide +kernel
theorem dM_lookAt_68 : decode cM_lookAt 68 = .ok (.aload_n 0, 1) := by decide +kernel
theorem dM_lookAt_69 : decode cM_lookAt 69 = .ok (.getfield 163, 3) := by decide +kernel
theorem dM_lookAt_72 : decode cM_lookAt 72 = .ok (.iload_n 1, 1) := by decide +kernel
theorem dM_lookAt_73 : decode cM_lookAt 73 = .ok (.if_icmp .lt 10, 3) := by decide +kernel
theorem dM_lookAt_76 : decode cM_lookAt 76 = .ok (.aload_n 0, 1) := by decide +kernel
theorem dM_lookAt_77 : decode cM_lookAt 77 = .ok (.iload_n 3, 1) := by decide +kernel
theorem dM_lookAt_78 : decode cM_lookAt 78 = .ok (.putfield 166, 3) := by decide +kernel
theorem dM_lookAt_81 : decode cM_lookAt 81 = .ok (.iconst (-1), 1) := by decide +kernel
theorem dM_lookAt_82 : decode cM_lookAt 82 = .ok (.ireturn, 1) := by decide +kernel
theorem dM_lookAt_83 : decode cM_lookAt 83 = .ok (.aload_n 0, 1) := by decide +kernel
theorem dM_lookAt_84 : decode cM_lookAt 84 = .ok (.getfield 113, 3) := by decide +kernel
theorem dM_lookAt_87 : decode cM_lookAt 87 = .ok (.istore 4, 2) := by decide +kernel
theorem dM_lookAt_89 : decode cM_lookAt 89 = .ok (.aload_n 0, 1) := by decide +kernel
theorem dM_lookAt_90 : decode cM_lookAt 90 = .ok (.getfield 144, 3) := by decide +kernel
theorem dM_lookAt_93 : decode cM_lookAt 93 = .ok (.iconst 1, 1) := by decide +kernel
theorem dM_lookAt_94 : decode cM_lookAt 94 = .ok (.iadd, 1) := by decide +kernel
theorem dM_lookAt_95 : decode cM_lookAt 95 = .ok (.istore_n 3, 1) := by decide +kernel
theorem dM_lookAt_96 : decode cM_lookAt 96 = .ok (.iinc 5 1, 3) := by decide +kernel
theorem dM_lookAt_99 : decode cM_lookAt 99 = .ok (.goto (-64), 3) := by decide +kernel
theorem dM_lookAt_102 : decode cM_lookAt 102 = .ok (.aload_n 0, 1) := by decide +kernel
theorem dM_lookAt_103 : decode cM_lookAt 103 = .ok (.iload_n 3, 1) := by decide +kernel
theorem dM_lookAt_104 : decode cM_lookAt 104 = .ok (.bipush 112, 2) := by decide +kernel
theorem dM_lookAt_106 : decode cM_lookAt 106 = .ok (.invokevirtual 169, 3) := by decide +kernel
theorem dM_lookAt_109 : decode cM_lookAt 109 = .ok (.ifCond .eq 27, 3) := by decide +kernel
theorem dM_lookAt_112 : decode cM_lookAt 112 = .ok (.aload_n 0, 1) := by decide +kernel
theorem dM_lookAt_113 : decode cM_lookAt 113 = .ok (.getfield 147, 3) := by decide +kernel
theorem dM_lookAt_116 : decode cM_lookAt 116 = .ok (.iload_n 1, 1) := by decide +kernel
theorem dM_lookAt_117 : decode cM_lookAt 117 = .ok (.if_icmp .ge 19, 3) := by decide +kernel
theorem dM_lookAt_120 : decode cM_lookAt 120 = .ok (.aload_n 0, 1) := by decide +kernel
theorem dM_lookAt_121 : decode cM_lookAt 121 = .ok (.getfield 147, 3) := by decide +kernel
theorem dM_lookAt_124 : decode cM_lookAt 124 = .ok (.ifCond .le 19, 3) := by decide +kernel
theorem dM_lookAt_127 : decode cM_lookAt 127 = .ok (.aload_n 0, 1) := by decide +kernel
theorem dM_lookAt_128 : decode cM_lookAt 128 = .ok (.getfield 175, 3) := by decide +kernel
theorem lM_175 : Cond.fieldLink RM 175 "RevisionWriteModel" "parts" "I" ∈ A9 := in9 (by decide +kernel) rfl
theorem dM_lookAt_131 : decode cM_lookAt 131 = .ok (.bipush 60, 2) := by decide +kernel
theorem dM_lookAt_133 : decode cM_lookAt 133 = .ok (.if_icmp .ne 10, 3) := by decide +kernel
theorem dM_lookAt_136 : decode cM_lookAt 136 = .ok (.aload_n 0, 1) := by decide +kernel
theorem dM_lookAt_137 : decode cM_lookAt 137 = .ok (.iload_n 3, 1) := by decide +kernel
theorem dM_lookAt_138 : decode cM_lookAt 138 = .ok (.putfield 166, 3) := by decide +kernel
theorem dM_lookAt_141 : decode cM_lookAt 141 = .ok (.iconst (-1), 1) := by decide +kernel
theorem dM_lookAt_142 : decode cM_lookAt 142 = .ok (.ireturn, 1) := by decide +kernel
theorem dM_lookAt_143 : decode cM_lookAt 143 = .ok (.aload_n 0, 1) := by decide +kernel
theorem dM_lookAt_144 : decode cM_lookAt 144 = .ok (.getfield 147, 3) := by decide +kernel
theorem dM_lookAt_147 : decode cM_lookAt 147 = .ok (.istore 5, 2) := by decide +kernel
theorem dM_lookAt_149 : decode cM_lookAt 149 = .ok (.aload_n 0, 1) := by decide +kernel
theorem dM_lookAt_150 : decode cM_lookAt 150 = .ok (.getfield 144, 3) := by decide +kernel
theorem dM_lookAt_153 : decode cM_lookAt 153 = .ok (.iconst 1, 1) := by decide +kernel
theorem dM_lookAt_154 : decode cM_lookAt 154 = .ok (.iadd, 1) := by decide +kernel
theorem dM_lookAt_155 : decode cM_lookAt 155 = .ok (.istore_n 3, 1) := by decide +kernel
theorem dM_lookAt_156 : decode cM_lookAt 156 = .ok (.aload_n 0, 1) := by decide +kernel
theorem dM_lookAt_157 : decode cM_lookAt 157 = .ok (.iload_n 3, 1) := by decide +kernel
theorem dM_lookAt_158 : decode cM_lookAt 158 = .ok (.bipush 101, 2) := by decide +kernel
theorem dM_lookAt_160 : decode cM_lookAt 160 = .ok (.invokevirtual 169, 3) := by decide +kernel
theorem dM_lookAt_163 : decode cM_lookAt 163 = .ok (.ifCond .eq 11, 3) := by decide +kernel
theorem dM_lookAt_166 : decode cM_lookAt 166 = .ok (.aload_n 0, 1) := by decide +kernel
theorem dM_lookAt_167 : decode cM_lookAt 167 = .ok (.getfield 147, 3) := by decide +kernel
theorem dM_lookAt_170 : decode cM_lookAt 170 = .ok (.iload_n 1, 1) := by decide +kernel
theorem dM_lookAt_171 : decode cM_lookAt 171 = .ok (.if_icmp .eq 10, 3) := by decide +kernel
theorem dM_lookAt_174 : decode cM_lookAt 174 = .ok (.aload_n 0, 1) := by decide +kernel
theorem dM_lookAt_175 : decode cM_lookAt 175 = .ok (.iload_n 3, 1) := by decide +kernel
theorem dM_lookAt_176 : decode cM_lookAt 176 = .ok (.putfield 166, 3) := by decide +kernel
theorem dM_lookAt_179 : decode cM_lookAt 179 = .ok (.iconst (-1), 1) := by decide +kernel
theorem dM_lookAt_180 : decode cM_lookAt 180 = .ok (.ireturn, 1) := by decide +kernel
theorem dM_lookAt_181 : decode cM_lookAt 181 = .ok (.aload_n 0, 1) := by decide +kernel
theorem dM_lookAt_182 : decode cM_lookAt 182 = .ok (.getfield 175, 3) := by decide +kernel
theorem dM_lookAt_185 : decode cM_lookAt 185 = .ok (.iconst 1, 1) := by decide +kernel
theorem dM_lookAt_186 : decode cM_lookAt 186 = .ok (.if_icmp .ne 28, 3) := by decide +kernel
theorem dM_lookAt_189 : decode cM_lookAt 189 = .ok (.aload_n 0, 1) := by decide +kernel
theorem dM_lookAt_190 : decode cM_lookAt 190 = .ok (.getfield 144, 3) := by decide +kernel
theorem dM_lookAt_193 : decode cM_lookAt 193 = .ok (.iconst 1, 1) := by decide +kernel
theorem dM_lookAt_194 : decode cM_lookAt 194 = .ok (.iadd, 1) := by decide +kernel
theorem dM_lookAt_195 : decode cM_lookAt 195 = .ok (.aload_n 0, 1) := by decide +kernel
theorem dM_lookAt_196 : decode cM_lookAt 196 = .ok (.getfield 116, 3) := by decide +kernel
theorem dM_lookAt_199 : decode cM_lookAt 199 = .ok (.if_icmp .eq 15, 3) := by decide +kernel
theorem dM_lookAt_202 : decode cM_lookAt 202 = .ok (.aload_n 0, 1) := by decide +kernel
theorem dM_lookAt_203 : decode cM_lookAt 203 = .ok (.aload_n 0, 1) := by decide +kernel
theorem dM_lookAt_204 : decode cM_lookAt 204 = .ok (.getfield 144, 3) := by decide +kernel
theorem dM_lookAt_207 : decode cM_lookAt 207 = .ok (.iconst 1, 1) := by decide +kernel
theorem dM_lookAt_208 : decode cM_lookAt 208 = .ok (.iadd, 1) := by decide +kernel
theorem dM_lookAt_209 : decode cM_lookAt 209 = .ok (.putfield 166, 3) := by decide +kernel
theorem dM_lookAt_212 : decode cM_lookAt 212 = .ok (.iconst (-1), 1) := by decide +kernel
theorem dM_lookAt_213 : decode cM_lookAt 213 = .ok (.ireturn, 1) := by decide +kernel
theorem dM_lookAt_214 : decode cM_lookAt 214 = .ok (.aload_n 0, 1) := by decide +kernel
theorem dM_lookAt_215 : decode cM_lookAt 215 = .ok (.iload_n 1, 1) := by decide +kernel
theorem dM_lookAt_216 : decode cM_lookAt 216 = .ok (.iload_n 2, 1) := by decide +kernel
theorem dM_lookAt_217 : decode cM_lookAt 217 = .ok (.invokevirtual 178, 3) := by decide +kernel
theorem dM_lookAt_220 : decode cM_lookAt 220 = .ok (.ifCond .eq 8, 3) := by decide +kernel
theorem dM_lookAt_223 : decode cM_lookAt 223 = .ok (.iload 5, 2) := by decide +kernel
theorem dM_lookAt_225 : decode cM_lookAt 225 = .ok (.goto 4, 3) := by decide +kernel
theorem dM_lookAt_228 : decode cM_lookAt 228 = .ok (.iconst (-1), 1) := by decide +kernel
theorem dM_lookAt_229 : decode cM_lookAt 229 = .ok (.ireturn, 1) := by decide +kernel
abbrev cM_recordsStand : ByteArray := prog_10_method_33_code
def yM_recordsStand : MethodName := ⟨RM, "recordsStand", "(II)Z"⟩
theorem wM_recordsStand : Cond.code yM_recordsStand cM_recordsStand 7 (some .boolean) ∈ A9 := in9 (by decide +kernel) rfl
theorem dM_recordsStand_0 : decode cM_recordsStand 0 = .ok (.aload_n 0, 1) := by decide +kernel
theorem dM_recordsStand_1 : decode cM_recordsStand 1 = .ok (.iload_n 1, 1) := by decide +kernel
theorem dM_recordsStand_2 : decode cM_recordsStand 2 = .ok (.invokevirtual 150, 3) := by decide +kernel
theorem dM_recordsStand_5 : decode cM_recordsStand 5 = .ok (.pop, 1) := by decide +kernel
theorem dM_recordsStand_6 : decode cM_recordsStand 6 = .ok (.aload_n 0, 1) := by decide +kernel
theorem dM_recordsStand_7 : decode cM_recordsStand 7 = .ok (.getfield 144, 3) := by decide +kernel
theorem dM_recordsStand_10 : decode cM_recordsStand 10 = .ok (.iconst 1, 1) := by decide +kernel
theorem dM_recordsStand_11 : decode cM_recordsStand 11 = .ok (.iadd, 1) := by decide +kernel
theorem dM_recordsStand_12 : decode cM_recordsStand 12 = .ok (.istore_n 3, 1) := by decide +kernel
theorem dM_recordsStand_13 : decode cM_recordsStand 13 = .ok (.iconst 0, 1) := by decide +kernel
theorem dM_recordsStand_14 : decode cM_recordsStand 14 = .ok (.istore 4, 2) := by decide +kernel
theorem dM_recordsStand_16 : decode cM_recordsStand 16 = .ok (.iload 4, 2) := by decide +kernel
theorem dM_recordsStand_18 : decode cM_recordsStand 18 = .ok (.iload_n 2, 1) := by decide +kernel
theorem dM_recordsStand_19 : decode cM_recordsStand 19 = .ok (.if_icmp .ge 61, 3) := by decide +kernel
theorem dM_recordsStand_22 : decode cM_recordsStand 22 = .ok (.aload_n 0, 1) := by decide +kernel
theorem dM_recordsStand_23 : decode cM_recordsStand 23 = .ok (.iload_n 3, 1) := by decide +kernel
theorem dM_recordsStand_24 : decode cM_recordsStand 24 = .ok (.invokevirtual 172, 3) := by decide +kernel
theorem dM_recordsStand_27 : decode cM_recordsStand 27 = .ok (.istore 5, 2) := by decide +kernel
theorem dM_recordsStand_29 : decode cM_recordsStand 29 = .ok (.aload_n 0, 1) := by decide +kernel
theorem dM_recordsStand_30 : decode cM_recordsStand 30 = .ok (.getfield 163, 3) := by decide +kernel
theorem dM_recordsStand_33 : decode cM_recordsStand 33 = .ok (.istore 6, 2) := by decide +kernel
theorem dM_recordsStand_35 : decode cM_recordsStand 35 = .ok (.aload_n 0, 1) := by decide +kernel
theorem dM_recordsStand_36 : decode cM_recordsStand 36 = .ok (.getfield 144, 3) := by decide +kernel
theorem dM_recordsStand_39 : decode cM_recordsStand 39 = .ok (.iconst 1, 1) := by decide +kernel
theorem dM_recordsStand_40 : decode cM_recordsStand 40 = .ok (.iadd, 1) := by decide +kernel
theorem dM_recordsStand_41 : decode cM_recordsStand 41 = .ok (.istore_n 3, 1) := by decide +kernel
theorem dM_recordsStand_42 : decode cM_recordsStand 42 = .ok (.iload 5, 2) := by decide +kernel
theorem dM_recordsStand_44 : decode cM_recordsStand 44 = .ok (.ifCond .eq 30, 3) := by decide +kernel
theorem dM_recordsStand_47 : decode cM_recordsStand 47 = .ok (.iload 6, 2) := by decide +kernel
theorem dM_recordsStand_49 : decode cM_recordsStand 49 = .ok (.iconst (-1), 1) := by decide +kernel
theorem dM_recordsStand_50 : decode cM_recordsStand 50 = .ok (.if_icmp .eq 24, 3) := by decide +kernel
theorem dM_recordsStand_53 : decode cM_recordsStand 53 = .ok (.aload_n 0, 1) := by decide +kernel
theorem dM_recordsStand_54 : decode cM_recordsStand 54 = .ok (.iload 6, 2) := by decide +kernel
theorem dM_recordsStand_56 : decode cM_recordsStand 56 = .ok (.aload_n 0, 1) := by decide +kernel
theorem dM_recordsStand_57 : decode cM_recordsStand 57 = .ok (.getfield 113, 3) := by decide +kernel
theorem dM_recordsStand_60 : decode cM_recordsStand 60 = .ok (.iload_n 1, 1) := by decide +kernel
theorem dM_recordsStand_61 : decode cM_recordsStand 61 = .ok (.invokevirtual 181, 3) := by decide +kernel
theorem dM_recordsStand_64 : decode cM_recordsStand 64 = .ok (.ifCond .ne 10, 3) := by decide +kernel
theorem dM_recordsStand_67 : decode cM_recordsStand 67 = .ok (.aload_n 0, 1) := by decide +kernel
theorem dM_recordsStand_68 : decode cM_recordsStand 68 = .ok (.iload 6, 2) := by decide +kernel
theorem dM_recordsStand_70 : decode cM_recordsStand 70 = .ok (.invokevirtual 185, 3) := by decide +kernel
theorem dM_recordsStand_73 : decode cM_recordsStand 73 = .ok (.ireturn, 1) := by decide +kernel
theorem dM_recordsStand_74 : decode cM_recordsStand 74 = .ok (.iinc 4 1, 3) := by decide +kernel
theorem dM_recordsStand_77 : decode cM_recordsStand 77 = .ok (.goto (-61), 3) := by decide +kernel
theorem dM_recordsStand_80 : decode cM_recordsStand 80 = .ok (.iconst 1, 1) := by decide +kernel
theorem dM_recordsStand_81 : decode cM_recordsStand 81 = .ok (.ireturn, 1) := by decide +kernel
abbrev cM_isFile : ByteArray := prog_10_method_34_code
def yM_isFile : MethodName := ⟨RM, "isFile", "()Z"⟩
theorem wM_isFile : Cond.code yM_isFile cM_isFile 4 (some .boolean) ∈ A9 := in9 (by decide +kernel) rfl
theorem dM_isFile_0 : decode cM_isFile 0 = .ok (.aload_n 0, 1) := by decide +kernel
theorem dM_isFile_1 : decode cM_isFile 1 = .ok (.iconst 0, 1) := by decide +kernel
theorem dM_isFile_2 : decode cM_isFile 2 = .ok (.invokevirtual 150, 3) := by decide +kernel
theorem dM_isFile_5 : decode cM_isFile 5 = .ok (.ifCond .eq 37, 3) := by decide +kernel
theorem dM_isFile_8 : decode cM_isFile 8 = .ok (.aload_n 0, 1) := by decide +kernel
theorem dM_isFile_9 : decode cM_isFile 9 = .ok (.bipush 37, 2) := by decide +kernel
theorem dM_isFile_11 : decode cM_isFile 11 = .ok (.invokevirtual 153, 3) := by decide +kernel
theorem dM_isFile_14 : decode cM_isFile 14 = .ok (.ifCond .eq 28, 3) := by decide +kernel
theorem dM_isFile_17 : decode cM_isFile 17 = .ok (.aload_n 0, 1) := by decide +kernel
theorem dM_isFile_18 : decode cM_isFile 18 = .ok (.bipush 70, 2) := by decide +kernel
theorem dM_isFile_20 : decode cM_isFile 20 = .ok (.invokevirtual 153, 3) := by decide +kernel
theorem dM_isFile_23 : decode cM_isFile 23 = .ok (.ifCond .eq 19, 3) := by decide +kernel
theorem dM_isFile_26 : decode cM_isFile 26 = .ok (.aload_n 0, 1) := by decide +kernel
theorem dM_isFile_27 : decode cM_isFile 27 = .ok (.bipush 49, 2) := by decide +kernel
theorem dM_isFile_29 : decode cM_isFile 29 = .ok (.invokevirtual 153, 3) := by decide +kernel
theorem dM_isFile_32 : decode cM_isFile 32 = .ok (.ifCond .eq 10, 3) := by decide +kernel
theorem dM_isFile_35 : decode cM_isFile 35 = .ok (.aload_n 0, 1) := by decide +kernel
theorem dM_isFile_36 : decode cM_isFile 36 = .ok (.invokevirtual 160, 3) := by decide +kernel
theorem dM_isFile_39 : decode cM_isFile 39 = .ok (.ifCond .ne 9, 3) := by decide +kernel
theorem dM_isFile_42 : decode cM_isFile 42 = .ok (.aload_n 0, 1) := by decide +kernel
theorem dM_isFile_43 : decode cM_isFile 43 = .ok (.iconst 0, 1) := by decide +kernel
theorem dM_isFile_44 : decode cM_isFile 44 = .ok (.invokevirtual 185, 3) := by decide +kernel
theorem dM_isFile_47 : decode cM_isFile 47 = .ok (.ireturn, 1) := by decide +kernel
theorem dM_isFile_48 : decode cM_isFile 48 = .ok (.aload_n 0, 1) := by decide +kernel
theorem dM_isFile_49 : decode cM_isFile 49 = .ok (.getfield 30, 3) := by decide +kernel
theorem dM_isFile_52 : decode cM_isFile 52 = .ok (.aload_n 0, 1) := by decide +kernel
theorem dM_isFile_53 : decode cM_isFile 53 = .ok (.getfield 116, 3) := by decide +kernel
theorem dM_isFile_56 : decode cM_isFile 56 = .ok (.iconst 1, 1) := by decide +kernel
theorem dM_isFile_57 : decode cM_isFile 57 = .ok (.isub, 1) := by decide +kernel
theorem dM_isFile_58 : decode cM_isFile 58 = .ok (.baload, 1) := by decide +kernel
theorem dM_isFile_59 : decode cM_isFile 59 = .ok (.bipush 10, 2) := by decide +kernel
theorem dM_isFile_61 : decode cM_isFile 61 = .ok (.if_icmp .eq 12, 3) := by decide +kernel
theorem dM_isFile_64 : decode cM_isFile 64 = .ok (.aload_n 0, 1) := by decide +kernel
theorem dM_isFile_65 : decode cM_isFile 65 = .ok (.aload_n 0, 1) := by decide +kernel
theorem dM_isFile_66 : decode cM_isFile 66 = .ok (.getfield 116, 3) := by decide +kernel
theorem dM_isFile_69 : decode cM_isFile 69 = .ok (.invokevirtual 185, 3) := by decide +kernel
theorem dM_isFile_72 : decode cM_isFile 72 = .ok (.ireturn, 1) := by decide +kernel
theorem dM_isFile_73 : decode cM_isFile 73 = .ok (.aload_n 0, 1) := by decide +kernel
theorem dM_isFile_74 : decode cM_isFile 74 = .ok (.getfield 116, 3) := by decide +kernel
theorem dM_isFile_77 : decode cM_isFile 77 = .ok (.iconst 1, 1) := by decide +kernel
theorem dM_isFile_78 : decode cM_isFile 78 = .ok (.isub, 1) := by decide +kernel
theorem dM_isFile_79 : decode cM_isFile 79 = .ok (.istore_n 1, 1) := by decide +kernel
theorem dM_isFile_80 : decode cM_isFile 80 = .ok (.iload_n 1, 1) := by decide +kernel
theorem dM_isFile_81 : decode cM_isFile 81 = .ok (.ifCond .le 22, 3) := by decide +kernel
theorem dM_isFile_84 : decode cM_isFile 84 = .ok (.aload_n 0, 1) := by decide +kernel
theorem dM_isFile_85 : decode cM_isFile 85 = .ok (.getfield 30, 3) := by decide +kernel
theorem dM_isFile_88 : decode cM_isFile 88 = .ok (.iload_n 1, 1) := by decide +kernel
theorem dM_isFile_89 : decode cM_isFile 89 = .ok (.iconst 1, 1) := by decide +kernel
theorem dM_isFile_90 : decode cM_isFile 90 = .ok (.isub, 1) := by decide +kernel
theorem dM_isFile_91 : decode cM_isFile 91 = .ok (.baload, 1) := by decide +kernel
theorem dM_isFile_92 : decode cM_isFile 92 = .ok (.bipush 10, 2) := by decide +kernel
theorem dM_isFile_94 : decode cM_isFile 94 = .ok (.if_icmp .eq 9, 3) := by decide +kernel
theorem dM_isFile_97 : decode cM_isFile 97 = .ok (.iinc 1 (-1), 3) := by decide +kernel
theorem dM_isFile_100 : decode cM_isFile 100 = .ok (.goto (-20), 3) := by decide +kernel
theorem dM_isFile_103 : decode cM_isFile 103 = .ok (.aload_n 0, 1) := by decide +kernel
theorem dM_isFile_104 : decode cM_isFile 104 = .ok (.iload_n 1, 1) := by decide +kernel
theorem dM_isFile_105 : decode cM_isFile 105 = .ok (.bipush 101, 2) := by decide +kernel
theorem dM_isFile_107 : decode cM_isFile 107 = .ok (.invokevirtual 169, 3) := by decide +kernel
theorem dM_isFile_110 : decode cM_isFile 110 = .ok (.ifCond .eq 11, 3) := by decide +kernel
theorem dM_isFile_113 : decode cM_isFile 113 = .ok (.aload_n 0, 1) := by decide +kernel
theorem dM_isFile_114 : decode cM_isFile 114 = .ok (.getfield 147, 3) := by decide +kernel
theorem dM_isFile_117 : decode cM_isFile 117 = .ok (.iload_n 1, 1) := by decide +kernel
theorem dM_isFile_118 : decode cM_isFile 118 = .ok (.if_icmp .lt 9, 3) := by decide +kernel
theorem dM_isFile_121 : decode cM_isFile 121 = .ok (.aload_n 0, 1) := by decide +kernel
theorem dM_isFile_122 : decode cM_isFile 122 = .ok (.iload_n 1, 1) := by decide +kernel
theorem dM_isFile_123 : decode cM_isFile 123 = .ok (.invokevirtual 185, 3) := by decide +kernel
theorem dM_isFile_126 : decode cM_isFile 126 = .ok (.ireturn, 1) := by decide +kernel
theorem dM_isFile_127 : decode cM_isFile 127 = .ok (.aload_n 0, 1) := by decide +kernel
theorem dM_isFile_128 : decode cM_isFile 128 = .ok (.getfield 147, 3) := by decide +kernel
theorem dM_isFile_131 : decode cM_isFile 131 = .ok (.istore_n 2, 1) := by decide +kernel
theorem dM_isFile_132 : decode cM_isFile 132 = .ok (.aload_n 0, 1) := by decide +kernel
theorem dM_isFile_133 : decode cM_isFile 133 = .ok (.iconst 0, 1) := by decide +kernel
theorem dM_isFile_134 : decode cM_isFile 134 = .ok (.putfield 175, 3) := by decide +kernel
theorem dM_isFile_137 : decode cM_isFile 137 = .ok (.iconst 1, 1) := by decide +kernel
theorem dM_isFile_138 : decode cM_isFile 138 = .ok (.istore_n 3, 1) := by decide +kernel
theorem dM_isFile_139 : decode cM_isFile 139 = .ok (.iload_n 3, 1) := by decide +kernel
theorem dM_isFile_140 : decode cM_isFile 140 = .ok (.ifCond .eq 49, 3) := by decide +kernel
theorem dM_isFile_143 : decode cM_isFile 143 = .ok (.aload_n 0, 1) := by decide +kernel
theorem dM_isFile_144 : decode cM_isFile 144 = .ok (.getfield 54, 3) := by decide +kernel
theorem dM_isFile_147 : decode cM_isFile 147 = .ok (.aload_n 0, 1) := by decide +kernel
theorem dM_isFile_148 : decode cM_isFile 148 = .ok (.getfield 175, 3) := by decide +kernel
theorem dM_isFile_151 : decode cM_isFile 151 = .ok (.iload_n 2, 1) := by decide +kernel
theorem dM_isFile_152 : decode cM_isFile 152 = .ok (.iastore, 1) := by decide +kernel
theorem dM_isFile_153 : decode cM_isFile 153 = .ok (.aload_n 0, 1) := by decide +kernel
theorem dM_isFile_154 : decode cM_isFile 154 = .ok (.dup, 1) := by decide +kernel
theorem dM_isFile_155 : decode cM_isFile 155 = .ok (.getfield 175, 3) := by decide +kernel
theorem dM_isFile_158 : decode cM_isFile 158 = .ok (.iconst 1, 1) := by decide +kernel
theorem dM_isFile_159 : decode cM_isFile 159 = .ok (.iadd, 1) := by decide +kernel
theorem dM_isFile_160 : decode cM_isFile 160 = .ok (.putfield 175, 3) := by decide +kernel
theorem dM_isFile_163 : decode cM_isFile 163 = .ok (.aload_n 0, 1) := by decide +kernel
theorem dM_isFile_164 : decode cM_isFile 164 = .ok (.iload_n 2, 1) := by decide +kernel
theorem dM_isFile_165 : decode cM_isFile 165 = .ok (.invokevirtual 188, 3) := by decide +kernel
theorem dM_isFile_168 : decode cM_isFile 168 = .ok (.istore_n 2, 1) := by decide +kernel
theorem dM_isFile_169 : decode cM_isFile 169 = .ok (.iload_n 2, 1) := by decide +kernel
theorem dM_isFile_170 : decode cM_isFile 170 = .ok (.iconst (-1), 1) := by decide +kernel
theorem dM_isFile_171 : decode cM_isFile 171 = .ok (.if_icmp .ne 5, 3) := by decide +kernel
theorem dM_isFile_174 : decode cM_isFile 174 = .ok (.iconst 0, 1) := by decide +kernel
theorem dM_isFile_175 : decode cM_isFile 175 = .ok (.ireturn, 1) := by decide +kernel
theorem dM_isFile_176 : decode cM_isFile 176 = .ok (.iload_n 2, 1) := by decide +kernel
theorem dM_isFile_177 : decode cM_isFile 177 = .ok (.ifCond .le 7, 3) := by decide +kernel
theorem dM_isFile_180 : decode cM_isFile 180 = .ok (.iconst 1, 1) := by decide +kernel
theorem dM_isFile_181 : decode cM_isFile 181 = .ok (.goto 4, 3) := by decide +kernel
theorem dM_isFile_184 : decode cM_isFile 184 = .ok (.iconst 0, 1) := by decide +kernel
theorem dM_isFile_185 : decode cM_isFile 185 = .ok (.istore_n 3, 1) := by decide +kernel
theorem dM_isFile_186 : decode cM_isFile 186 = .ok (.goto (-47), 3) := by decide +kernel
theorem dM_isFile_189 : decode cM_isFile 189 = .ok (.iconst 1, 1) := by decide +kernel
theorem dM_isFile_190 : decode cM_isFile 190 = .ok (.ireturn, 1) := by decide +kernel
abbrev cM_learn : ByteArray := prog_10_method_35_code
def yM_learn : MethodName := ⟨RM, "learn", "()V"⟩
theorem wM_learn : Cond.code yM_learn cM_learn 7 none ∈ A9 := in9 (by decide +kernel) rfl
theorem dM_learn_0 : decode cM_learn 0 = .ok (.aload_n 0, 1) := by decide +kernel
theorem dM_learn_1 : decode cM_learn 1 = .ok (.iconst 0, 1) := by decide +kernel
theorem dM_learn_2 : decode cM_learn 2 = .ok (.putfield 110, 3) := by decide +kernel
theorem dM_learn_5 : decode cM_learn 5 = .ok (.aload_n 0, 1) := by decide +kernel
theorem dM_learn_6 : decode cM_learn 6 = .ok (.getfield 175, 3) := by decide +kernel
theorem dM_learn_9 : decode cM_learn 9 = .ok (.iconst 1, 1) := by decide +kernel
theorem dM_learn_10 : decode cM_learn 10 = .ok (.isub, 1) := by decide +kernel
theorem dM_learn_11 : decode cM_learn 11 = .ok (.istore_n 1, 1) := by decide +kernel
theorem dM_learn_12 : decode cM_learn 12 = .ok (.iload_n 1, 1) := by decide +kernel
theorem dM_learn_13 : decode cM_learn 13 = .ok (.ifCond .lt 303, 3) := by decide +kernel
theorem dM_learn_16 : decode cM_learn 16 = .ok (.bipush 41, 2) := by decide +kernel
theorem dM_learn_18 : decode cM_learn 18 = .ok (.aload_n 0, 1) := by decide +kernel
theorem dM_learn_19 : decode cM_learn 19 = .ok (.getfield 110, 3) := by decide +kernel
theorem dM_learn_22 : decode cM_learn 22 = .ok (.imul, 1) := by decide +kernel
theorem dM_learn_23 : decode cM_learn 23 = .ok (.istore_n 2, 1) := by decide +kernel
theorem dM_learn_24 : decode cM_learn 24 = .ok (.iconst 1, 1) := by decide +kernel
theorem dM_learn_25 : decode cM_learn 25 = .ok (.istore_n 3, 1) := by decide +kernel
theorem dM_learn_26 : decode cM_learn 26 = .ok (.iload_n 3, 1) := by decide +kernel
theorem dM_learn_27 : decode cM_learn 27 = .ok (.bipush 40, 2) := by decide +kernel
theorem dM_learn_29 : decode cM_learn 29 = .ok (.if_icmp .gt 99, 3) := by decide +kernel
theorem dM_learn_32 : decode cM_learn 32 = .ok (.aload_n 0, 1) := by decide +kernel
theorem dM_learn_33 : decode cM_learn 33 = .ok (.getfield 39, 3) := by decide +kernel
theorem dM_learn_36 : decode cM_learn 36 = .ok (.iload_n 2, 1) := by decide +kernel
theorem dM_learn_37 : decode cM_learn 37 = .ok (.iload_n 3, 1) := by decide +kernel
theorem dM_learn_38 : decode cM_learn 38 = .ok (.iadd, 1) := by decide +kernel
theorem dM_learn_39 : decode cM_learn 39 = .ok (.aload_n 0, 1) := by decide +kernel
theorem dM_learn_40 : decode cM_learn 40 = .ok (.getfield 110, 3) := by decide +kernel
theorem dM_learn_43 : decode cM_learn 43 = .ok (.ifCond .ne 7, 3) := by decide +kernel
theorem dM_learn_46 : decode cM_learn 46 = .ok (.iconst (-1), 1) := by decide +kernel
theorem dM_learn_47 : decode cM_learn 47 = .ok (.goto 14, 3) := by decide +kernel
theorem dM_learn_50 : decode cM_learn 50 = .ok (.aload_n 0, 1) := by decide +kernel
theorem dM_learn_51 : decode cM_learn 51 = .ok (.getfield 39, 3) := by decide +kernel
theorem dM_learn_54 : decode cM_learn 54 = .ok (.iload_n 2, 1) := by decide +kernel
theorem dM_learn_55 : decode cM_learn 55 = .ok (.bipush 41, 2) := by decide +kernel
theorem dM_learn_57 : decode cM_learn 57 = .ok (.isub, 1) := by decide +kernel
theorem dM_learn_58 : decode cM_learn 58 = .ok (.iload_n 3, 1) := by decide +kernel
theorem dM_learn_59 : decode cM_learn 59 = .ok (.iadd, 1) := by decide +kernel
theorem dM_learn_60 : decode cM_learn 60 = .ok (.iaload, 1) := by decide +kernel
theorem dM_learn_61 : decode cM_learn 61 = .ok (.iastore, 1) := by decide +kernel
theorem dM_learn_62 : decode cM_learn 62 = .ok (.aload_n 0, 1) := by decide +kernel
theorem dM_learn_63 : decode cM_learn 63 = .ok (.getfield 42, 3) := by decide +kernel
theorem dM_learn_66 : decode cM_learn 66 = .ok (.iload_n 2, 1) := by decide +kernel
theorem dM_learn_67 : decode cM_learn 67 = .ok (.iload_n 3, 1) := by decide +kernel
theorem dM_learn_68 : decode cM_learn 68 = .ok (.iadd, 1) := by decide +kernel
theorem dM_learn_69 : decode cM_learn 69 = .ok (.aload_n 0, 1) := by decide +kernel
theorem dM_learn_70 : decode cM_learn 70 = .ok (.getfield 110, 3) := by decide +kernel
theorem dM_learn_73 : decode cM_learn 73 = .ok (.ifCond .ne 7, 3) := by decide +kernel
theorem dM_learn_76 : decode cM_learn 76 = .ok (.iconst 0, 1) := by decide +kernel
theorem dM_learn_77 : decode cM_learn 77 = .ok (.goto 14, 3) := by decide +kernel
theorem dM_learn_80 : decode cM_learn 80 = .ok (.aload_n 0, 1) := by decide +kernel
theorem dM_learn_81 : decode cM_learn 81 = .ok (.getfield 42, 3) := by decide +kernel
theorem dM_learn_84 : decode cM_learn 84 = .ok (.iload_n 2, 1) := by decide +kernel
theorem dM_learn_85 : decode cM_learn 85 = .ok (.bipush 41, 2) := by decide +kernel
theorem dM_learn_87 : decode cM_learn 87 = .ok (.isub, 1) := by decide +kernel
theorem dM_learn_88 : decode cM_learn 88 = .ok (.iload_n 3, 1) := by decide +kernel
theorem dM_learn_89 : decode cM_learn 89 = .ok (.iadd, 1) := by decide +kernel
theorem dM_learn_90 : decode cM_learn 90 = .ok (.iaload, 1) := by decide +kernel
theorem dM_learn_91 : decode cM_learn 91 = .ok (.iastore, 1) := by decide +kernel
theorem dM_learn_92 : decode cM_learn 92 = .ok (.aload_n 0, 1) := by decide +kernel
theorem dM_learn_93 : decode cM_learn 93 = .ok (.getfield 45, 3) := by decide +kernel
theorem dM_learn_96 : decode cM_learn 96 = .ok (.iload_n 2, 1) := by decide +kernel
theorem dM_learn_97 : decode cM_learn 97 = .ok (.iload_n 3, 1) := by decide +kernel
theorem dM_learn_98 : decode cM_learn 98 = .ok (.iadd, 1) := by decide +kernel
theorem dM_learn_99 : decode cM_learn 99 = .ok (.aload_n 0, 1) := by decide +kernel
theorem dM_learn_100 : decode cM_learn 100 = .ok (.getfield 110, 3) := by decide +kernel
theorem dM_learn_103 : decode cM_learn 103 = .ok (.ifCond .ne 7, 3) := by decide +kernel
theorem dM_learn_106 : decode cM_learn 106 = .ok (.iconst 0, 1) := by decide +kernel
theorem dM_learn_107 : decode cM_learn 107 = .ok (.goto 14, 3) := by decide +kernel
theorem dM_learn_110 : decode cM_learn 110 = .ok (.aload_n 0, 1) := by decide +kernel
theorem dM_learn_111 : decode cM_learn 111 = .ok (.getfield 45, 3) := by decide +kernel
theorem dM_learn_114 : decode cM_learn 114 = .ok (.iload_n 2, 1) := by decide +kernel
theorem dM_learn_115 : decode cM_learn 115 = .ok (.bipush 41, 2) := by decide +kernel
theorem dM_learn_117 : decode cM_learn 117 = .ok (.isub, 1) := by decide +kernel
theorem dM_learn_118 : decode cM_learn 118 = .ok (.iload_n 3, 1) := by decide +kernel
theorem dM_learn_119 : decode cM_learn 119 = .ok (.iadd, 1) := by decide +kernel
theorem dM_learn_120 : decode cM_learn 120 = .ok (.iaload, 1) := by decide +kernel
theorem dM_learn_121 : decode cM_learn 121 = .ok (.iastore, 1) := by decide +kernel
theorem dM_learn_122 : decode cM_learn 122 = .ok (.iinc 3 1, 3) := by decide +kernel
theorem dM_learn_125 : decode cM_learn 125 = .ok (.goto (-99), 3) := by decide +kernel
theorem dM_learn_128 : decode cM_learn 128 = .ok (.aload_n 0, 1) := by decide +kernel
theorem dM_learn_129 : decode cM_learn 129 = .ok (.aload_n 0, 1) := by decide +kernel
theorem dM_learn_130 : decode cM_learn 130 = .ok (.getfield 54, 3) := by decide +kernel
theorem dM_learn_133 : decode cM_learn 133 = .ok (.iload_n 1, 1) := by decide +kernel
theorem dM_learn_134 : decode cM_learn 134 = .ok (.iaload, 1) := by decide +kernel
theorem dM_learn_135 : decode cM_learn 135 = .ok (.bipush 120, 2) := by decide +kernel
theorem dM_learn_137 : decode cM_learn 137 = .ok (.invokevirtual 169, 3) := by decide +kernel
theorem dM_learn_140 : decode cM_learn 140 = .ok (.pop, 1) := by decide +kernel
theorem dM_learn_141 : decode cM_learn 141 = .ok (.aload_n 0, 1) := by decide +kernel
theorem dM_learn_142 : decode cM_learn 142 = .ok (.getfield 147, 3) := by decide +kernel
theorem dM_learn_145 : decode cM_learn 145 = .ok (.istore_n 3, 1) := by decide +kernel
theorem dM_learn_146 : decode cM_learn 146 = .ok (.aload_n 0, 1) := by decide +kernel
theorem dM_learn_147 : decode cM_learn 147 = .ok (.getfield 144, 3) := by decide +kernel
theorem dM_learn_150 : decode cM_learn 150 = .ok (.iconst 1, 1) := by decide +kernel
theorem dM_learn_151 : decode cM_learn 151 = .ok (.iadd, 1) := by decide +kernel
theorem dM_learn_152 : decode cM_learn 152 = .ok (.istore 4, 2) := by decide +kernel
theorem dM_learn_154 : decode cM_learn 154 = .ok (.iconst 0, 1) := by decide +kernel
theorem dM_learn_155 : decode cM_learn 155 = .ok (.istore 5, 2) := by decide +kernel
theorem dM_learn_157 : decode cM_learn 157 = .ok (.iload 5, 2) := by decide +kernel
theorem dM_learn_159 : decode cM_learn 159 = .ok (.iload_n 3, 1) := by decide +kernel
theorem dM_learn_160 : decode cM_learn 160 = .ok (.if_icmp .ge 92, 3) := by decide +kernel
theorem dM_learn_163 : decode cM_learn 163 = .ok (.aload_n 0, 1) := by decide +kernel
theorem dM_learn_164 : decode cM_learn 164 = .ok (.iload 4, 2) := by decide +kernel
theorem dM_learn_166 : decode cM_learn 166 = .ok (.invokevirtual 172, 3) := by decide +kernel
theorem dM_learn_169 : decode cM_learn 169 = .ok (.pop, 1) := by decide +kernel
theorem dM_learn_170 : decode cM_learn 170 = .ok (.aload_n 0, 1) := by decide +kernel
theorem dM_learn_171 : decode cM_learn 171 = .ok (.getfield 144, 3) := by decide +kernel
theorem dM_learn_174 : decode cM_learn 174 = .ok (.iconst 1, 1) := by decide +kernel
theorem dM_learn_175 : decode cM_learn 175 = .ok (.iadd, 1) := by decide +kernel
theorem dM_learn_176 : decode cM_learn 176 = .ok (.istore 4, 2) := by decide +kernel
theorem dM_learn_178 : decode cM_learn 178 = .ok (.aload_n 0, 1) := by decide +kernel
theorem dM_learn_179 : decode cM_learn 179 = .ok (.getfield 113, 3) := by decide +kernel
theorem dM_learn_182 : decode cM_learn 182 = .ok (.istore 6, 2) := by decide +kernel
theorem dM_learn_184 : decode cM_learn 184 = .ok (.aload_n 0, 1) := by decide +kernel
theorem dM_learn_185 : decode cM_learn 185 = .ok (.getfield 39, 3) := by decide +kernel
theorem dM_learn_188 : decode cM_learn 188 = .ok (.iload_n 2, 1) := by decide +kernel
theorem dM_learn_189 : decode cM_learn 189 = .ok (.iload 6, 2) := by decide +kernel
theorem dM_learn_191 : decode cM_learn 191 = .ok (.iadd, 1) := by decide +kernel
theorem dM_learn_192 : decode cM_learn 192 = .ok (.aload_n 0, 1) := by decide +kernel
theorem dM_learn_193 : decode cM_learn 193 = .ok (.getfield 163, 3) := by decide +kernel
theorem dM_learn_196 : decode cM_learn 196 = .ok (.iastore, 1) := by decide +kernel
theorem dM_learn_197 : decode cM_learn 197 = .ok (.aload_n 0, 1) := by decide +kernel
theorem dM_learn_198 : decode cM_learn 198 = .ok (.getfield 163, 3) := by decide +kernel
theorem dM_learn_201 : decode cM_learn 201 = .ok (.iconst (-1), 1) := by decide +kernel
theorem dM_learn_202 : decode cM_learn 202 = .ok (.if_icmp .eq 44, 3) := by decide +kernel
theorem dM_learn_205 : decode cM_learn 205 = .ok (.aload_n 0, 1) := by decide +kernel
theorem dM_learn_206 : decode cM_learn 206 = .ok (.aload_n 0, 1) := by decide +kernel
theorem dM_learn_207 : decode cM_learn 207 = .ok (.getfield 163, 3) := by decide +kernel
theorem dM_learn_210 : decode cM_learn 210 = .ok (.iload 6, 2) := by decide +kernel
theorem dM_learn_212 : decode cM_learn 212 = .ok (.aload_n 0, 1) := by decide +kernel
theorem dM_learn_213 : decode cM_learn 213 = .ok (.getfield 116, 3) := by decide +kernel
theorem dM_learn_216 : decode cM_learn 216 = .ok (.invokevirtual 181, 3) := by decide +kernel
theorem dM_learn_219 : decode cM_learn 219 = .ok (.pop, 1) := by decide +kernel
theorem dM_learn_220 : decode cM_learn 220 = .ok (.aload_n 0, 1) := by decide +kernel
theorem dM_learn_221 : decode cM_learn 221 = .ok (.getfield 42, 3) := by decide +kernel
theorem dM_learn_224 : decode cM_learn 224 = .ok (.iload_n 2, 1) := by decide +kernel
theorem dM_learn_225 : decode cM_learn 225 = .ok (.iload 6, 2) := by decide +kernel
theorem dM_learn_227 : decode cM_learn 227 = .ok (.iadd, 1) := by decide +kernel
theorem dM_learn_228 : decode cM_learn 228 = .ok (.aload_n 0, 1) := by decide +kernel
theorem dM_learn_229 : decode cM_learn 229 = .ok (.getfield 113, 3) := by decide +kernel
theorem dM_learn_232 : decode cM_learn 232 = .ok (.iastore, 1) := by decide +kernel
theorem dM_learn_233 : decode cM_learn 233 = .ok (.aload_n 0, 1) := by decide +kernel
theorem dM_learn_234 : decode cM_learn 234 = .ok (.getfield 45, 3) := by decide +kernel
theorem dM_learn_237 : decode cM_learn 237 = .ok (.iload_n 2, 1) := by decide +kernel
theorem dM_learn_238 : decode cM_learn 238 = .ok (.iload 6, 2) := by decide +kernel
theorem dM_learn_240 : decode cM_learn 240 = .ok (.iadd, 1) := by decide +kernel
theorem dM_learn_241 : decode cM_learn 241 = .ok (.aload_n 0, 1) := by decide +kernel
theorem dM_learn_242 : decode cM_learn 242 = .ok (.getfield 163, 3) := by decide +kernel
theorem dM_learn_245 : decode cM_learn 245 = .ok (.iastore, 1) := by decide +kernel
theorem dM_learn_246 : decode cM_learn 246 = .ok (.iinc 5 1, 3) := by decide +kernel
theorem dM_learn_249 : decode cM_learn 249 = .ok (.goto (-92), 3) := by decide +kernel
theorem dM_learn_252 : decode cM_learn 252 = .ok (.aload_n 0, 1) := by decide +kernel
theorem dM_learn_253 : decode cM_learn 253 = .ok (.iload 4, 2) := by decide +kernel
theorem dM_learn_255 : decode cM_learn 255 = .ok (.invokevirtual 150, 3) := by decide +kernel
theorem dM_learn_258 : decode cM_learn 258 = .ok (.pop, 1) := by decide +kernel
theorem dM_learn_259 : decode cM_learn 259 = .ok (.aload_n 0, 1) := by decide +kernel
theorem dM_learn_260 : decode cM_learn 260 = .ok (.aload_n 0, 1) := by decide +kernel
theorem dM_learn_261 : decode cM_learn 261 = .ok (.getfield 144, 3) := by decide +kernel
theorem dM_learn_264 : decode cM_learn 264 = .ok (.iconst 1, 1) := by decide +kernel
theorem dM_learn_265 : decode cM_learn 265 = .ok (.iadd, 1) := by decide +kernel
theorem dM_learn_266 : decode cM_learn 266 = .ok (.invokevirtual 150, 3) := by decide +kernel
theorem dM_learn_269 : decode cM_learn 269 = .ok (.pop, 1) := by decide +kernel
theorem dM_learn_270 : decode cM_learn 270 = .ok (.aload_n 0, 1) := by decide +kernel
theorem dM_learn_271 : decode cM_learn 271 = .ok (.getfield 33, 3) := by decide +kernel
theorem dM_learn_274 : decode cM_learn 274 = .ok (.aload_n 0, 1) := by decide +kernel
theorem dM_learn_275 : decode cM_learn 275 = .ok (.getfield 110, 3) := by decide +kernel
theorem dM_learn_278 : decode cM_learn 278 = .ok (.aload_n 0, 1) := by decide +kernel
theorem dM_learn_279 : decode cM_learn 279 = .ok (.getfield 144, 3) := by decide +kernel
theorem dM_learn_282 : decode cM_learn 282 = .ok (.iconst 1, 1) := by decide +kernel
theorem dM_learn_283 : decode cM_learn 283 = .ok (.iadd, 1) := by decide +kernel
theorem dM_learn_284 : decode cM_learn 284 = .ok (.iastore, 1) := by decide +kernel
theorem dM_learn_285 : decode cM_learn 285 = .ok (.aload_n 0, 1) := by decide +kernel
theorem dM_learn_286 : decode cM_learn 286 = .ok (.getfield 36, 3) := by decide +kernel
theorem dM_learn_289 : decode cM_learn 289 = .ok (.aload_n 0, 1) := by decide +kernel
theorem dM_learn_290 : decode cM_learn 290 = .ok (.getfield 110, 3) := by decide +kernel
theorem dM_learn_293 : decode cM_learn 293 = .ok (.aload_n 0, 1) := by decide +kernel
theorem dM_learn_294 : decode cM_learn 294 = .ok (.getfield 54, 3) := by decide +kernel
theorem dM_learn_297 : decode cM_learn 297 = .ok (.iload_n 1, 1) := by decide +kernel
theorem dM_learn_298 : decode cM_learn 298 = .ok (.iaload, 1) := by decide +kernel
theorem dM_learn_299 : decode cM_learn 299 = .ok (.iastore, 1) := by decide +kernel
theorem dM_learn_300 : decode cM_learn 300 = .ok (.aload_n 0, 1) := by decide +kernel
theorem dM_learn_301 : decode cM_learn 301 = .ok (.dup, 1) := by decide +kernel
theorem dM_learn_302 : decode cM_learn 302 = .ok (.getfield 110, 3) := by decide +kernel
theorem dM_learn_305 : decode cM_learn 305 = .ok (.iconst 1, 1) := by decide +kernel
theorem dM_learn_306 : decode cM_learn 306 = .ok (.iadd, 1) := by decide +kernel
theorem dM_learn_307 : decode cM_learn 307 = .ok (.putfield 110, 3) := by decide +kernel
theorem dM_learn_310 : decode cM_learn 310 = .ok (.iinc 1 (-1), 3) := by decide +kernel
theorem dM_learn_313 : decode cM_learn 313 = .ok (.goto (-301), 3) := by decide +kernel
theorem dM_learn_316 : decode cM_learn 316 = .ok (.return_, 1) := by decide +kernel
abbrev cM_readFile : ByteArray := prog_10_method_36_code
def yM_readFile : MethodName := ⟨RM, "readFile", "()I"⟩
theorem wM_readFile : Cond.code yM_readFile cM_readFile 4 (some .int) ∈ A9 := in9 (by decide +kernel) rfl
theorem dM_readFile_0 : decode cM_readFile 0 = .ok (.aload_n 0, 1) := by decide +kernel
theorem dM_readFile_1 : decode cM_readFile 1 = .ok (.invokevirtual 192, 3) := by decide +kernel
theorem dM_readFile_4 : decode cM_readFile 4 = .ok (.ifCond .ne 10, 3) := by decide +kernel
theorem dM_readFile_7 : decode cM_readFile 7 = .ok (.iconst (-1), 1) := by decide +kernel
theorem dM_readFile_8 : decode cM_readFile 8 = .ok (.aload_n 0, 1) := by decide +kernel
theorem dM_readFile_9 : decode cM_readFile 9 = .ok (.getfield 166, 3) := by decide +kernel
theorem dM_readFile_12 : decode cM_readFile 12 = .ok (.isub, 1) := by decide +kernel
theorem dM_readFile_13 : decode cM_readFile 13 = .ok (.ireturn, 1) := by decide +kernel
theorem dM_readFile_14 : decode cM_readFile 14 = .ok (.aload_n 0, 1) := by decide +kernel
theorem dM_readFile_15 : decode cM_readFile 15 = .ok (.invokevirtual 195, 3) := by decide +kernel
theorem dM_readFile_18 : decode cM_readFile 18 = .ok (.bipush 41, 2) := by decide +kernel
theorem dM_readFile_20 : decode cM_readFile 20 = .ok (.aload_n 0, 1) := by decide +kernel
theorem dM_readFile_21 : decode cM_readFile 21 = .ok (.getfield 110, 3) := by decide +kernel
theorem dM_readFile_24 : decode cM_readFile 24 = .ok (.iconst 1, 1) := by decide +kernel
theorem dM_readFile_25 : decode cM_readFile 25 = .ok (.isub, 1) := by decide +kernel
theorem dM_readFile_26 : decode cM_readFile 26 = .ok (.imul, 1) := by decide +kernel
theorem dM_readFile_27 : decode cM_readFile 27 = .ok (.istore_n 1, 1) := by decide +kernel
theorem dM_readFile_28 : decode cM_readFile 28 = .ok (.iconst 1, 1) := by decide +kernel
theorem dM_readFile_29 : decode cM_readFile 29 = .ok (.istore_n 2, 1) := by decide +kernel
theorem dM_readFile_30 : decode cM_readFile 30 = .ok (.iload_n 2, 1) := by decide +kernel
theorem dM_readFile_31 : decode cM_readFile 31 = .ok (.bipush 40, 2) := by decide +kernel
theorem dM_readFile_33 : decode cM_readFile 33 = .ok (.if_icmp .gt 120, 3) := by decide +kernel
theorem dM_readFile_36 : decode cM_readFile 36 = .ok (.aload_n 0, 1) := by decide +kernel
theorem dM_readFile_37 : decode cM_readFile 37 = .ok (.getfield 7, 3) := by decide +kernel
theorem dM_readFile_40 : decode cM_readFile 40 = .ok (.iload_n 2, 1) := by decide +kernel
theorem dM_readFile_41 : decode cM_readFile 41 = .ok (.aload_n 0, 1) := by decide +kernel
theorem dM_readFile_42 : decode cM_readFile 42 = .ok (.getfield 39, 3) := by decide +kernel
theorem dM_readFile_45 : decode cM_readFile 45 = .ok (.iload_n 1, 1) := by decide +kernel
theorem dM_readFile_46 : decode cM_readFile 46 = .ok (.iload_n 2, 1) := by decide +kernel
theorem dM_readFile_47 : decode cM_readFile 47 = .ok (.iadd, 1) := by decide +kernel
theorem dM_readFile_48 : decode cM_readFile 48 = .ok (.iaload, 1) := by decide +kernel
theorem dM_readFile_49 : decode cM_readFile 49 = .ok (.iconst (-1), 1) := by decide +kernel
theorem dM_readFile_50 : decode cM_readFile 50 = .ok (.if_icmp .eq 7, 3) := by decide +kernel
theorem dM_readFile_53 : decode cM_readFile 53 = .ok (.iconst 1, 1) := by decide +kernel
theorem dM_readFile_54 : decode cM_readFile 54 = .ok (.goto 4, 3) := by decide +kernel
theorem dM_readFile_57 : decode cM_readFile 57 = .ok (.iconst 0, 1) := by decide +kernel
theorem dM_readFile_58 : decode cM_readFile 58 = .ok (.bastore, 1) := by decide +kernel
theorem dM_readFile_59 : decode cM_readFile 59 = .ok (.aload_n 0, 1) := by decide +kernel
theorem dM_readFile_60 : decode cM_readFile 60 = .ok (.getfield 13, 3) := by decide +kernel
theorem dM_readFile_63 : decode cM_readFile 63 = .ok (.iload_n 2, 1) := by decide +kernel
theorem dM_readFile_64 : decode cM_readFile 64 = .ok (.iconst 0, 1) := by decide +kernel
theorem dM_readFile_65 : decode cM_readFile 65 = .ok (.bastore, 1) := by decide +kernel
theorem dM_readFile_66 : decode cM_readFile 66 = .ok (.aload_n 0, 1) := by decide +kernel
theorem dM_readFile_67 : decode cM_readFile 67 = .ok (.getfield 22, 3) := by decide +kernel
theorem dM_readFile_70 : decode cM_readFile 70 = .ok (.iload_n 2, 1) := by decide +kernel
theorem dM_readFile_71 : decode cM_readFile 71 = .ok (.aload_n 0, 1) := by decide +kernel
theorem dM_readFile_72 : decode cM_readFile 72 = .ok (.getfield 7, 3) := by decide +kernel
theorem dM_readFile_75 : decode cM_readFile 75 = .ok (.iload_n 2, 1) := by decide +kernel
theorem dM_readFile_76 : decode cM_readFile 76 = .ok (.baload, 1) := by decide +kernel
theorem dM_readFile_77 : decode cM_readFile 77 = .ok (.ifCond .eq 14, 3) := by decide +kernel
end
section
theorem dM_readFile_80 : decode cM_readFile 80 = .ok (.aload_n 0, 1) := by decide +kernel
theorem dM_readFile_81 : decode cM_readFile 81 = .ok (.getfield 45, 3) := by decide +kernel
theorem dM_readFile_84 : decode cM_readFile 84 = .ok (.iload_n 1, 1) := by decide +kernel
theorem dM_readFile_85 : decode cM_readFile 85 = .ok (.iload_n 2, 1) := by decide +kernel
theorem dM_readFile_86 : decode cM_readFile 86 = .ok (.iadd, 1) := by decide +kernel
theorem dM_readFile_87 : decode cM_readFile 87 = .ok (.iaload, 1) := by decide +kernel
theorem dM_readFile_88 : decode cM_readFile 88 = .ok (.goto 4, 3) := by decide +kernel
theorem dM_readFile_91 : decode cM_readFile 91 = .ok (.iconst 0, 1) := by decide +kernel
theorem dM_readFile_92 : decode cM_readFile 92 = .ok (.iastore, 1) := by decide +kernel
theorem dM_readFile_93 : decode cM_readFile 93 = .ok (.iconst 0, 1) := by decide +kernel
theorem dM_readFile_94 : decode cM_readFile 94 = .ok (.istore_n 3, 1) := by decide +kernel
theorem dM_readFile_95 : decode cM_readFile 95 = .ok (.iload_n 3, 1) := by decide +kernel
theorem dM_readFile_96 : decode cM_readFile 96 = .ok (.bipush 120, 2) := by decide +kernel
theorem dM_readFile_98 : decode cM_readFile 98 = .ok (.if_icmp .ge 49, 3) := by decide +kernel
theorem dM_readFile_101 : decode cM_readFile 101 = .ok (.aload_n 0, 1) := by decide +kernel
theorem dM_readFile_102 : decode cM_readFile 102 = .ok (.getfield 26, 3) := by decide +kernel
theorem dM_readFile_105 : decode cM_readFile 105 = .ok (.bipush 120, 2) := by decide +kernel
theorem dM_readFile_107 : decode cM_readFile 107 = .ok (.iload_n 2, 1) := by decide +kernel
theorem dM_readFile_108 : decode cM_readFile 108 = .ok (.imul, 1) := by decide +kernel
theorem dM_readFile_109 : decode cM_readFile 109 = .ok (.iload_n 3, 1) := by decide +kernel
theorem dM_readFile_110 : decode cM_readFile 110 = .ok (.iadd, 1) := by decide +kernel
theorem dM_readFile_111 : decode cM_readFile 111 = .ok (.iload_n 3, 1) := by decide +kernel
theorem dM_readFile_112 : decode cM_readFile 112 = .ok (.aload_n 0, 1) := by decide +kernel
theorem dM_readFile_113 : decode cM_readFile 113 = .ok (.getfield 22, 3) := by decide +kernel
theorem dM_readFile_116 : decode cM_readFile 116 = .ok (.iload_n 2, 1) := by decide +kernel
theorem dM_readFile_117 : decode cM_readFile 117 = .ok (.iaload, 1) := by decide +kernel
theorem dM_readFile_118 : decode cM_readFile 118 = .ok (.if_icmp .ge 21, 3) := by decide +kernel
theorem dM_readFile_121 : decode cM_readFile 121 = .ok (.aload_n 0, 1) := by decide +kernel
theorem dM_readFile_122 : decode cM_readFile 122 = .ok (.getfield 30, 3) := by decide +kernel
theorem dM_readFile_125 : decode cM_readFile 125 = .ok (.aload_n 0, 1) := by decide +kernel
theorem dM_readFile_126 : decode cM_readFile 126 = .ok (.getfield 42, 3) := by decide +kernel
theorem dM_readFile_129 : decode cM_readFile 129 = .ok (.iload_n 1, 1) := by decide +kernel
theorem dM_readFile_130 : decode cM_readFile 130 = .ok (.iload_n 2, 1) := by decide +kernel
theorem dM_readFile_131 : decode cM_readFile 131 = .ok (.iadd, 1) := by decide +kernel
theorem dM_readFile_132 : decode cM_readFile 132 = .ok (.iaload, 1) := by decide +kernel
theorem dM_readFile_133 : decode cM_readFile 133 = .ok (.iload_n 3, 1) := by decide +kernel
theorem dM_readFile_134 : decode cM_readFile 134 = .ok (.iadd, 1) := by decide +kernel
theorem dM_readFile_135 : decode cM_readFile 135 = .ok (.baload, 1) := by decide +kernel
theorem dM_readFile_136 : decode cM_readFile 136 = .ok (.goto 4, 3) := by decide +kernel
theorem dM_readFile_139 : decode cM_readFile 139 = .ok (.iconst 0, 1) := by decide +kernel
theorem dM_readFile_140 : decode cM_readFile 140 = .ok (.bastore, 1) := by decide +kernel
theorem dM_readFile_141 : decode cM_readFile 141 = .ok (.iinc 3 1, 3) := by decide +kernel
theorem dM_readFile_144 : decode cM_readFile 144 = .ok (.goto (-49), 3) := by decide +kernel
theorem dM_readFile_147 : decode cM_readFile 147 = .ok (.iinc 2 1, 3) := by decide +kernel
theorem dM_readFile_150 : decode cM_readFile 150 = .ok (.goto (-120), 3) := by decide +kernel
theorem dM_readFile_153 : decode cM_readFile 153 = .ok (.aload_n 0, 1) := by decide +kernel
theorem dM_readFile_154 : decode cM_readFile 154 = .ok (.iconst 0, 1) := by decide +kernel
theorem dM_readFile_155 : decode cM_readFile 155 = .ok (.putfield 123, 3) := by decide +kernel
theorem dM_readFile_158 : decode cM_readFile 158 = .ok (.aload_n 0, 1) := by decide +kernel
theorem dM_readFile_159 : decode cM_readFile 159 = .ok (.invokevirtual 130, 3) := by decide +kernel
theorem dM_readFile_162 : decode cM_readFile 162 = .ok (.aload_n 0, 1) := by decide +kernel
theorem dM_readFile_163 : decode cM_readFile 163 = .ok (.getfield 110, 3) := by decide +kernel
theorem dM_readFile_166 : decode cM_readFile 166 = .ok (.ireturn, 1) := by decide +kernel
abbrev cM_read : ByteArray := prog_10_method_37_code
def yM_read : MethodName := ⟨RM, "read", "()I"⟩
theorem wM_read : Cond.code yM_read cM_read 1 (some .int) ∈ A9 := in9 (by decide +kernel) rfl
theorem dM_read_0 : decode cM_read 0 = .ok (.aload_n 0, 1) := by decide +kernel
theorem dM_read_1 : decode cM_read 1 = .ok (.iconst 0, 1) := by decide +kernel
theorem dM_read_2 : decode cM_read 2 = .ok (.putfield 63, 3) := by decide +kernel
theorem dM_read_5 : decode cM_read 5 = .ok (.aload_n 0, 1) := by decide +kernel
theorem dM_read_6 : decode cM_read 6 = .ok (.invokevirtual 198, 3) := by decide +kernel
theorem dM_read_9 : decode cM_read 9 = .ok (.ireturn, 1) := by decide +kernel
abbrev cM_poke : ByteArray := prog_10_method_38_code
def yM_poke : MethodName := ⟨RM, "poke", "(IB)B"⟩
theorem wM_poke : Cond.code yM_poke cM_poke 4 (some .byte) ∈ A9 := in9 (by decide +kernel) rfl
theorem dM_poke_0 : decode cM_poke 0 = .ok (.aload_n 0, 1) := by decide +kernel
theorem dM_poke_1 : decode cM_poke 1 = .ok (.iload_n 1, 1) := by decide +kernel
theorem dM_poke_2 : decode cM_poke 2 = .ok (.ifCond .lt 11, 3) := by decide +kernel
theorem dM_poke_5 : decode cM_poke 5 = .ok (.iload_n 1, 1) := by decide +kernel
theorem dM_poke_6 : decode cM_poke 6 = .ok (.aload_n 0, 1) := by decide +kernel
theorem dM_poke_7 : decode cM_poke 7 = .ok (.getfield 116, 3) := by decide +kernel
theorem dM_poke_10 : decode cM_poke 10 = .ok (.if_icmp .lt 7, 3) := by decide +kernel
theorem dM_poke_13 : decode cM_poke 13 = .ok (.iconst 1, 1) := by decide +kernel
theorem dM_poke_14 : decode cM_poke 14 = .ok (.goto 4, 3) := by decide +kernel
theorem dM_poke_17 : decode cM_poke 17 = .ok (.iconst 0, 1) := by decide +kernel
theorem dM_poke_18 : decode cM_poke 18 = .ok (.putfield 63, 3) := by decide +kernel
theorem dM_poke_21 : decode cM_poke 21 = .ok (.aload_n 0, 1) := by decide +kernel
theorem dM_poke_22 : decode cM_poke 22 = .ok (.getfield 63, 3) := by decide +kernel
theorem dM_poke_25 : decode cM_poke 25 = .ok (.ifCond .le 5, 3) := by decide +kernel
theorem dM_poke_28 : decode cM_poke 28 = .ok (.iconst 0, 1) := by decide +kernel
theorem dM_poke_29 : decode cM_poke 29 = .ok (.ireturn, 1) := by decide +kernel
theorem dM_poke_30 : decode cM_poke 30 = .ok (.aload_n 0, 1) := by decide +kernel
theorem dM_poke_31 : decode cM_poke 31 = .ok (.getfield 30, 3) := by decide +kernel
theorem dM_poke_34 : decode cM_poke 34 = .ok (.iload_n 1, 1) := by decide +kernel
theorem dM_poke_35 : decode cM_poke 35 = .ok (.baload, 1) := by decide +kernel
theorem dM_poke_36 : decode cM_poke 36 = .ok (.istore_n 3, 1) := by decide +kernel
theorem dM_poke_37 : decode cM_poke 37 = .ok (.aload_n 0, 1) := by decide +kernel
theorem dM_poke_38 : decode cM_poke 38 = .ok (.getfield 30, 3) := by decide +kernel
theorem dM_poke_41 : decode cM_poke 41 = .ok (.iload_n 1, 1) := by decide +kernel
theorem dM_poke_42 : decode cM_poke 42 = .ok (.iload_n 2, 1) := by decide +kernel
theorem dM_poke_43 : decode cM_poke 43 = .ok (.bastore, 1) := by decide +kernel
theorem dM_poke_44 : decode cM_poke 44 = .ok (.aload_n 0, 1) := by decide +kernel
theorem dM_poke_45 : decode cM_poke 45 = .ok (.iconst 1, 1) := by decide +kernel
theorem dM_poke_46 : decode cM_poke 46 = .ok (.putfield 123, 3) := by decide +kernel
theorem dM_poke_49 : decode cM_poke 49 = .ok (.iload_n 3, 1) := by decide +kernel
theorem dM_poke_50 : decode cM_poke 50 = .ok (.ireturn, 1) := by decide +kernel
abbrev cM_isRevision : ByteArray := prog_10_method_39_code
def yM_isRevision : MethodName := ⟨RM, "isRevision", "(I)Z"⟩
theorem wM_isRevision : Cond.code yM_isRevision cM_isRevision 2 (some .boolean) ∈ A9 := in9 (by decide +kernel) rfl
theorem dM_isRevision_0 : decode cM_isRevision 0 = .ok (.aload_n 0, 1) := by decide +kernel
theorem dM_isRevision_1 : decode cM_isRevision 1 = .ok (.iload_n 1, 1) := by decide +kernel
theorem dM_isRevision_2 : decode cM_isRevision 2 = .ok (.ifCond .lt 11, 3) := by decide +kernel
theorem dM_isRevision_5 : decode cM_isRevision 5 = .ok (.iload_n 1, 1) := by decide +kernel
theorem dM_isRevision_6 : decode cM_isRevision 6 = .ok (.aload_n 0, 1) := by decide +kernel
theorem dM_isRevision_7 : decode cM_isRevision 7 = .ok (.getfield 110, 3) := by decide +kernel
theorem dM_isRevision_10 : decode cM_isRevision 10 = .ok (.if_icmp .lt 7, 3) := by decide +kernel
theorem dM_isRevision_13 : decode cM_isRevision 13 = .ok (.iconst 1, 1) := by decide +kernel
theorem dM_isRevision_14 : decode cM_isRevision 14 = .ok (.goto 4, 3) := by decide +kernel
theorem dM_isRevision_17 : decode cM_isRevision 17 = .ok (.iconst 0, 1) := by decide +kernel
theorem dM_isRevision_18 : decode cM_isRevision 18 = .ok (.putfield 63, 3) := by decide +kernel
theorem dM_isRevision_21 : decode cM_isRevision 21 = .ok (.aload_n 0, 1) := by decide +kernel
theorem dM_isRevision_22 : decode cM_isRevision 22 = .ok (.getfield 63, 3) := by decide +kernel
theorem dM_isRevision_25 : decode cM_isRevision 25 = .ok (.ifCond .ne 7, 3) := by decide +kernel
theorem dM_isRevision_28 : decode cM_isRevision 28 = .ok (.iconst 1, 1) := by decide +kernel
theorem dM_isRevision_29 : decode cM_isRevision 29 = .ok (.goto 4, 3) := by decide +kernel
theorem dM_isRevision_32 : decode cM_isRevision 32 = .ok (.iconst 0, 1) := by decide +kernel
theorem dM_isRevision_33 : decode cM_isRevision 33 = .ok (.ireturn, 1) := by decide +kernel
abbrev cM_take : ByteArray := prog_10_method_40_code
def yM_take : MethodName := ⟨RM, "take", "(I)I"⟩
theorem wM_take : Cond.code yM_take cM_take 2 (some .int) ∈ A9 := in9 (by decide +kernel) rfl
theorem dM_take_0 : decode cM_take 0 = .ok (.aload_n 0, 1) := by decide +kernel
theorem dM_take_1 : decode cM_take 1 = .ok (.iload_n 1, 1) := by decide +kernel
theorem dM_take_2 : decode cM_take 2 = .ok (.invokevirtual 201, 3) := by decide +kernel
theorem dM_take_5 : decode cM_take 5 = .ok (.ifCond .ne 5, 3) := by decide +kernel
theorem dM_take_8 : decode cM_take 8 = .ok (.iconst 0, 1) := by decide +kernel
theorem dM_take_9 : decode cM_take 9 = .ok (.ireturn, 1) := by decide +kernel
theorem dM_take_10 : decode cM_take 10 = .ok (.aload_n 0, 1) := by decide +kernel
theorem dM_take_11 : decode cM_take 11 = .ok (.aload_n 0, 1) := by decide +kernel
theorem dM_take_12 : decode cM_take 12 = .ok (.getfield 33, 3) := by decide +kernel
theorem dM_take_15 : decode cM_take 15 = .ok (.iload_n 1, 1) := by decide +kernel
theorem dM_take_16 : decode cM_take 16 = .ok (.iaload, 1) := by decide +kernel
theorem dM_take_17 : decode cM_take 17 = .ok (.aload_n 0, 1) := by decide +kernel
theorem dM_take_18 : decode cM_take 18 = .ok (.getfield 116, 3) := by decide +kernel
theorem dM_take_21 : decode cM_take 21 = .ok (.if_icmp .ge 12, 3) := by decide +kernel
theorem dM_take_24 : decode cM_take 24 = .ok (.aload_n 0, 1) := by decide +kernel
theorem dM_take_25 : decode cM_take 25 = .ok (.getfield 33, 3) := by decide +kernel
theorem dM_take_28 : decode cM_take 28 = .ok (.iload_n 1, 1) := by decide +kernel
theorem dM_take_29 : decode cM_take 29 = .ok (.iaload, 1) := by decide +kernel
theorem dM_take_30 : decode cM_take 30 = .ok (.goto 7, 3) := by decide +kernel
theorem dM_take_33 : decode cM_take 33 = .ok (.aload_n 0, 1) := by decide +kernel
theorem dM_take_34 : decode cM_take 34 = .ok (.getfield 116, 3) := by decide +kernel
theorem dM_take_37 : decode cM_take 37 = .ok (.putfield 116, 3) := by decide +kernel
theorem dM_take_40 : decode cM_take 40 = .ok (.aload_n 0, 1) := by decide +kernel
theorem dM_take_41 : decode cM_take 41 = .ok (.iconst 1, 1) := by decide +kernel
theorem dM_take_42 : decode cM_take 42 = .ok (.putfield 123, 3) := by decide +kernel
theorem dM_take_45 : decode cM_take 45 = .ok (.aload_n 0, 1) := by decide +kernel
theorem dM_take_46 : decode cM_take 46 = .ok (.invokevirtual 198, 3) := by decide +kernel
theorem dM_take_49 : decode cM_take 49 = .ok (.ireturn, 1) := by decide +kernel
abbrev cM_at : ByteArray := prog_10_method_41_code
def yM_at : MethodName := ⟨RM, "at", "(I)B"⟩
theorem wM_at : Cond.code yM_at cM_at 2 (some .byte) ∈ A9 := in9 (by decide +kernel) rfl
theorem dM_at_0 : decode cM_at 0 = .ok (.aload_n 0, 1) := by decide +kernel
theorem dM_at_1 : decode cM_at 1 = .ok (.iload_n 1, 1) := by decide +kernel
theorem dM_at_2 : decode cM_at 2 = .ok (.ifCond .lt 11, 3) := by decide +kernel
theorem dM_at_5 : decode cM_at 5 = .ok (.iload_n 1, 1) := by decide +kernel
theorem dM_at_6 : decode cM_at 6 = .ok (.aload_n 0, 1) := by decide +kernel
theorem dM_at_7 : decode cM_at 7 = .ok (.getfield 116, 3) := by decide +kernel
theorem dM_at_10 : decode cM_at 10 = .ok (.if_icmp .lt 7, 3) := by decide +kernel
theorem dM_at_13 : decode cM_at 13 = .ok (.iconst 1, 1) := by decide +kernel
theorem dM_at_14 : decode cM_at 14 = .ok (.goto 4, 3) := by decide +kernel
theorem dM_at_17 : decode cM_at 17 = .ok (.iconst 0, 1) := by decide +kernel
theorem dM_at_18 : decode cM_at 18 = .ok (.putfield 63, 3) := by decide +kernel
theorem dM_at_21 : decode cM_at 21 = .ok (.aload_n 0, 1) := by decide +kernel
theorem dM_at_22 : decode cM_at 22 = .ok (.getfield 63, 3) := by decide +kernel
theorem dM_at_25 : decode cM_at 25 = .ok (.ifCond .le 7, 3) := by decide +kernel
theorem dM_at_28 : decode cM_at 28 = .ok (.iconst 0, 1) := by decide +kernel
theorem dM_at_29 : decode cM_at 29 = .ok (.goto 9, 3) := by decide +kernel
theorem dM_at_32 : decode cM_at 32 = .ok (.aload_n 0, 1) := by decide +kernel
theorem dM_at_33 : decode cM_at 33 = .ok (.getfield 30, 3) := by decide +kernel
theorem dM_at_36 : decode cM_at 36 = .ok (.iload_n 1, 1) := by decide +kernel
theorem dM_at_37 : decode cM_at 37 = .ok (.baload, 1) := by decide +kernel
theorem dM_at_38 : decode cM_at 38 = .ok (.ireturn, 1) := by decide +kernel
abbrev cM_length : ByteArray := prog_10_method_42_code
def yM_length : MethodName := ⟨RM, "length", "(I)I"⟩
theorem wM_length : Cond.code yM_length cM_length 2 (some .int) ∈ A9 := in9 (by decide +kernel) rfl
theorem dM_length_0 : decode cM_length 0 = .ok (.aload_n 0, 1) := by decide +kernel
theorem dM_length_1 : decode cM_length 1 = .ok (.iload_n 1, 1) := by decide +kernel
theorem dM_length_2 : decode cM_length 2 = .ok (.invokestatic 67, 3) := by decide +kernel
theorem dM_length_5 : decode cM_length 5 = .ok (.ifCond .eq 7, 3) := by decide +kernel
theorem dM_length_8 : decode cM_length 8 = .ok (.iconst 0, 1) := by decide +kernel
theorem dM_length_9 : decode cM_length 9 = .ok (.goto 4, 3) := by decide +kernel
theorem dM_length_12 : decode cM_length 12 = .ok (.iconst 1, 1) := by decide +kernel
theorem dM_length_13 : decode cM_length 13 = .ok (.putfield 63, 3) := by decide +kernel
theorem dM_length_16 : decode cM_length 16 = .ok (.aload_n 0, 1) := by decide +kernel
theorem dM_length_17 : decode cM_length 17 = .ok (.getfield 63, 3) := by decide +kernel
theorem dM_length_20 : decode cM_length 20 = .ok (.ifCond .le 7, 3) := by decide +kernel
theorem dM_length_23 : decode cM_length 23 = .ok (.iconst 0, 1) := by decide +kernel
theorem dM_length_24 : decode cM_length 24 = .ok (.goto 22, 3) := by decide +kernel
theorem dM_length_27 : decode cM_length 27 = .ok (.aload_n 0, 1) := by decide +kernel
theorem dM_length_28 : decode cM_length 28 = .ok (.getfield 7, 3) := by decide +kernel
theorem dM_length_31 : decode cM_length 31 = .ok (.iload_n 1, 1) := by decide +kernel
theorem dM_length_32 : decode cM_length 32 = .ok (.baload, 1) := by decide +kernel
theorem dM_length_33 : decode cM_length 33 = .ok (.ifCond .eq 12, 3) := by decide +kernel
theorem dM_length_36 : decode cM_length 36 = .ok (.aload_n 0, 1) := by decide +kernel
theorem dM_length_37 : decode cM_length 37 = .ok (.getfield 22, 3) := by decide +kernel
theorem dM_length_40 : decode cM_length 40 = .ok (.iload_n 1, 1) := by decide +kernel
theorem dM_length_41 : decode cM_length 41 = .ok (.iaload, 1) := by decide +kernel
theorem dM_length_42 : decode cM_length 42 = .ok (.goto 4, 3) := by decide +kernel
theorem dM_length_45 : decode cM_length 45 = .ok (.iconst (-1), 1) := by decide +kernel
theorem dM_length_46 : decode cM_length 46 = .ok (.ireturn, 1) := by decide +kernel
abbrev cM_byteOf : ByteArray := prog_10_method_43_code
def yM_byteOf : MethodName := ⟨RM, "byteOf", "(II)B"⟩
theorem wM_byteOf : Cond.code yM_byteOf cM_byteOf 3 (some .byte) ∈ A9 := in9 (by decide +kernel) rfl
theorem dM_byteOf_0 : decode cM_byteOf 0 = .ok (.aload_n 0, 1) := by decide +kernel
theorem dM_byteOf_1 : decode cM_byteOf 1 = .ok (.iload_n 1, 1) := by decide +kernel
theorem dM_byteOf_2 : decode cM_byteOf 2 = .ok (.iload_n 2, 1) := by decide +kernel
theorem dM_byteOf_3 : decode cM_byteOf 3 = .ok (.invokevirtual 74, 3) := by decide +kernel
theorem dM_byteOf_6 : decode cM_byteOf 6 = .ok (.ifCond .eq 17, 3) := by decide +kernel
theorem dM_byteOf_9 : decode cM_byteOf 9 = .ok (.aload_n 0, 1) := by decide +kernel
theorem dM_byteOf_10 : decode cM_byteOf 10 = .ok (.getfield 26, 3) := by decide +kernel
theorem dM_byteOf_13 : decode cM_byteOf 13 = .ok (.bipush 120, 2) := by decide +kernel
theorem dM_byteOf_15 : decode cM_byteOf 15 = .ok (.iload_n 1, 1) := by decide +kernel
theorem dM_byteOf_16 : decode cM_byteOf 16 = .ok (.imul, 1) := by decide +kernel
theorem dM_byteOf_17 : decode cM_byteOf 17 = .ok (.iload_n 2, 1) := by decide +kernel
theorem dM_byteOf_18 : decode cM_byteOf 18 = .ok (.iadd, 1) := by decide +kernel
theorem dM_byteOf_19 : decode cM_byteOf 19 = .ok (.baload, 1) := by decide +kernel
theorem dM_byteOf_20 : decode cM_byteOf 20 = .ok (.goto 4, 3) := by decide +kernel
theorem dM_byteOf_23 : decode cM_byteOf 23 = .ok (.iconst 0, 1) := by decide +kernel
theorem dM_byteOf_24 : decode cM_byteOf 24 = .ok (.ireturn, 1) := by decide +kernel
abbrev cM_size : ByteArray := prog_10_method_44_code
def yM_size : MethodName := ⟨RM, "size", "(I)I"⟩
theorem wM_size : Cond.code yM_size cM_size 2 (some .int) ∈ A9 := in9 (by decide +kernel) rfl
theorem dM_size_0 : decode cM_size 0 = .ok (.aload_n 0, 1) := by decide +kernel
theorem dM_size_1 : decode cM_size 1 = .ok (.iload_n 1, 1) := by decide +kernel
theorem dM_size_2 : decode cM_size 2 = .ok (.invokevirtual 201, 3) := by decide +kernel
theorem dM_size_5 : decode cM_size 5 = .ok (.ifCond .eq 12, 3) := by decide +kernel
theorem dM_size_8 : decode cM_size 8 = .ok (.aload_n 0, 1) := by decide +kernel
theorem dM_size_9 : decode cM_size 9 = .ok (.getfield 33, 3) := by decide +kernel
theorem dM_size_12 : decode cM_size 12 = .ok (.iload_n 1, 1) := by decide +kernel
theorem dM_size_13 : decode cM_size 13 = .ok (.iaload, 1) := by decide +kernel
theorem dM_size_14 : decode cM_size 14 = .ok (.goto 4, 3) := by decide +kernel
theorem dM_size_17 : decode cM_size 17 = .ok (.iconst 0, 1) := by decide +kernel
theorem dM_size_18 : decode cM_size 18 = .ok (.ireturn, 1) := by decide +kernel
abbrev cM_place : ByteArray := prog_10_method_45_code
def yM_place : MethodName := ⟨RM, "place", "(II)I"⟩
theorem wM_place : Cond.code yM_place cM_place 3 (some .int) ∈ A9 := in9 (by decide +kernel) rfl
theorem dM_place_0 : decode cM_place 0 = .ok (.aload_n 0, 1) := by decide +kernel
theorem dM_place_1 : decode cM_place 1 = .ok (.iload_n 1, 1) := by decide +kernel
theorem dM_place_2 : decode cM_place 2 = .ok (.ifCond .lt 18, 3) := by decide +kernel
theorem dM_place_5 : decode cM_place 5 = .ok (.iload_n 1, 1) := by decide +kernel
theorem dM_place_6 : decode cM_place 6 = .ok (.aload_n 0, 1) := by decide +kernel
theorem dM_place_7 : decode cM_place 7 = .ok (.getfield 110, 3) := by decide +kernel
theorem dM_place_10 : decode cM_place 10 = .ok (.if_icmp .ge 10, 3) := by decide +kernel
theorem dM_place_13 : decode cM_place 13 = .ok (.iload_n 2, 1) := by decide +kernel
theorem dM_place_14 : decode cM_place 14 = .ok (.invokestatic 67, 3) := by decide +kernel
theorem dM_place_17 : decode cM_place 17 = .ok (.ifCond .ne 7, 3) := by decide +kernel
theorem dM_place_20 : decode cM_place 20 = .ok (.iconst 1, 1) := by decide +kernel
theorem dM_place_21 : decode cM_place 21 = .ok (.goto 4, 3) := by decide +kernel
theorem dM_place_24 : decode cM_place 24 = .ok (.iconst 0, 1) := by decide +kernel
theorem dM_place_25 : decode cM_place 25 = .ok (.putfield 63, 3) := by decide +kernel
theorem dM_place_28 : decode cM_place 28 = .ok (.aload_n 0, 1) := by decide +kernel
theorem dM_place_29 : decode cM_place 29 = .ok (.getfield 63, 3) := by decide +kernel
theorem dM_place_32 : decode cM_place 32 = .ok (.ifCond .le 7, 3) := by decide +kernel
theorem dM_place_35 : decode cM_place 35 = .ok (.iconst 0, 1) := by decide +kernel
theorem dM_place_36 : decode cM_place 36 = .ok (.goto 14, 3) := by decide +kernel
theorem dM_place_39 : decode cM_place 39 = .ok (.aload_n 0, 1) := by decide +kernel
theorem dM_place_40 : decode cM_place 40 = .ok (.getfield 39, 3) := by decide +kernel
theorem dM_place_43 : decode cM_place 43 = .ok (.bipush 41, 2) := by decide +kernel
theorem dM_place_45 : decode cM_place 45 = .ok (.iload_n 1, 1) := by decide +kernel
theorem dM_place_46 : decode cM_place 46 = .ok (.imul, 1) := by decide +kernel
theorem dM_place_47 : decode cM_place 47 = .ok (.iload_n 2, 1) := by decide +kernel
theorem dM_place_48 : decode cM_place 48 = .ok (.iadd, 1) := by decide +kernel
theorem dM_place_49 : decode cM_place 49 = .ok (.iaload, 1) := by decide +kernel
theorem dM_place_50 : decode cM_place 50 = .ok (.ireturn, 1) := by decide +kernel
abbrev cM_isAlike : ByteArray := prog_10_method_46_code
def yM_isAlike : MethodName := ⟨RM, "isAlike", "(II)Z"⟩
theorem wM_isAlike : Cond.code yM_isAlike cM_isAlike 5 (some .boolean) ∈ A9 := in9 (by decide +kernel) rfl
theorem dM_isAlike_0 : decode cM_isAlike 0 = .ok (.aload_n 0, 1) := by decide +kernel
theorem dM_isAlike_1 : decode cM_isAlike 1 = .ok (.getfield 45, 3) := by decide +kernel
theorem dM_isAlike_4 : decode cM_isAlike 4 = .ok (.iload_n 1, 1) := by decide +kernel
theorem dM_isAlike_5 : decode cM_isAlike 5 = .ok (.iaload, 1) := by decide +kernel
theorem dM_isAlike_6 : decode cM_isAlike 6 = .ok (.aload_n 0, 1) := by decide +kernel
theorem dM_isAlike_7 : decode cM_isAlike 7 = .ok (.getfield 45, 3) := by decide +kernel
theorem dM_isAlike_10 : decode cM_isAlike 10 = .ok (.iload_n 2, 1) := by decide +kernel
theorem dM_isAlike_11 : decode cM_isAlike 11 = .ok (.iaload, 1) := by decide +kernel
theorem dM_isAlike_12 : decode cM_isAlike 12 = .ok (.if_icmp .ne 7, 3) := by decide +kernel
theorem dM_isAlike_15 : decode cM_isAlike 15 = .ok (.iconst 1, 1) := by decide +kernel
theorem dM_isAlike_16 : decode cM_isAlike 16 = .ok (.goto 4, 3) := by decide +kernel
theorem dM_isAlike_19 : decode cM_isAlike 19 = .ok (.iconst 0, 1) := by decide +kernel
theorem dM_isAlike_20 : decode cM_isAlike 20 = .ok (.istore_n 3, 1) := by decide +kernel
theorem dM_isAlike_21 : decode cM_isAlike 21 = .ok (.iconst 0, 1) := by decide +kernel
theorem dM_isAlike_22 : decode cM_isAlike 22 = .ok (.istore 4, 2) := by decide +kernel
theorem dM_isAlike_24 : decode cM_isAlike 24 = .ok (.iload 4, 2) := by decide +kernel
theorem dM_isAlike_26 : decode cM_isAlike 26 = .ok (.aload_n 0, 1) := by decide +kernel
theorem dM_isAlike_27 : decode cM_isAlike 27 = .ok (.getfield 45, 3) := by decide +kernel
theorem dM_isAlike_30 : decode cM_isAlike 30 = .ok (.iload_n 1, 1) := by decide +kernel
theorem dM_isAlike_31 : decode cM_isAlike 31 = .ok (.iaload, 1) := by decide +kernel
theorem dM_isAlike_32 : decode cM_isAlike 32 = .ok (.if_icmp .ge 50, 3) := by decide +kernel
theorem dM_isAlike_35 : decode cM_isAlike 35 = .ok (.iload_n 3, 1) := by decide +kernel
theorem dM_isAlike_36 : decode cM_isAlike 36 = .ok (.ifCond .eq 46, 3) := by decide +kernel
theorem dM_isAlike_39 : decode cM_isAlike 39 = .ok (.aload_n 0, 1) := by decide +kernel
theorem dM_isAlike_40 : decode cM_isAlike 40 = .ok (.getfield 30, 3) := by decide +kernel
theorem dM_isAlike_43 : decode cM_isAlike 43 = .ok (.aload_n 0, 1) := by decide +kernel
theorem dM_isAlike_44 : decode cM_isAlike 44 = .ok (.getfield 42, 3) := by decide +kernel
theorem dM_isAlike_47 : decode cM_isAlike 47 = .ok (.iload_n 1, 1) := by decide +kernel
theorem dM_isAlike_48 : decode cM_isAlike 48 = .ok (.iaload, 1) := by decide +kernel
theorem dM_isAlike_49 : decode cM_isAlike 49 = .ok (.iload 4, 2) := by decide +kernel
theorem dM_isAlike_51 : decode cM_isAlike 51 = .ok (.iadd, 1) := by decide +kernel
theorem dM_isAlike_52 : decode cM_isAlike 52 = .ok (.baload, 1) := by decide +kernel
theorem dM_isAlike_53 : decode cM_isAlike 53 = .ok (.aload_n 0, 1) := by decide +kernel
theorem dM_isAlike_54 : decode cM_isAlike 54 = .ok (.getfield 30, 3) := by decide +kernel
theorem dM_isAlike_57 : decode cM_isAlike 57 = .ok (.aload_n 0, 1) := by decide +kernel
theorem dM_isAlike_58 : decode cM_isAlike 58 = .ok (.getfield 42, 3) := by decide +kernel
theorem dM_isAlike_61 : decode cM_isAlike 61 = .ok (.iload_n 2, 1) := by decide +kernel
theorem dM_isAlike_62 : decode cM_isAlike 62 = .ok (.iaload, 1) := by decide +kernel
theorem dM_isAlike_63 : decode cM_isAlike 63 = .ok (.iload 4, 2) := by decide +kernel
theorem dM_isAlike_65 : decode cM_isAlike 65 = .ok (.iadd, 1) := by decide +kernel
theorem dM_isAlike_66 : decode cM_isAlike 66 = .ok (.baload, 1) := by decide +kernel
theorem dM_isAlike_67 : decode cM_isAlike 67 = .ok (.if_icmp .ne 7, 3) := by decide +kernel
theorem dM_isAlike_70 : decode cM_isAlike 70 = .ok (.iconst 1, 1) := by decide +kernel
theorem dM_isAlike_71 : decode cM_isAlike 71 = .ok (.goto 4, 3) := by decide +kernel
theorem dM_isAlike_74 : decode cM_isAlike 74 = .ok (.iconst 0, 1) := by decide +kernel
theorem dM_isAlike_75 : decode cM_isAlike 75 = .ok (.istore_n 3, 1) := by decide +kernel
theorem dM_isAlike_76 : decode cM_isAlike 76 = .ok (.iinc 4 1, 3) := by decide +kernel
theorem dM_isAlike_79 : decode cM_isAlike 79 = .ok (.goto (-55), 3) := by decide +kernel
theorem dM_isAlike_82 : decode cM_isAlike 82 = .ok (.iload_n 3, 1) := by decide +kernel
theorem dM_isAlike_83 : decode cM_isAlike 83 = .ok (.ireturn, 1) := by decide +kernel
abbrev cM_differ : ByteArray := prog_10_method_47_code
def yM_differ : MethodName := ⟨RM, "differ", "(II)I"⟩
theorem wM_differ : Cond.code yM_differ cM_differ 9 (some .int) ∈ A9 := in9 (by decide +kernel) rfl
theorem dM_differ_0 : decode cM_differ 0 = .ok (.aload_n 0, 1) := by decide +kernel
theorem dM_differ_1 : decode cM_differ 1 = .ok (.iload_n 1, 1) := by decide +kernel
theorem dM_differ_2 : decode cM_differ 2 = .ok (.invokevirtual 201, 3) := by decide +kernel
theorem dM_differ_5 : decode cM_differ 5 = .ok (.ifCond .eq 11, 3) := by decide +kernel
theorem dM_differ_8 : decode cM_differ 8 = .ok (.aload_n 0, 1) := by decide +kernel
theorem dM_differ_9 : decode cM_differ 9 = .ok (.iload_n 2, 1) := by decide +kernel
theorem dM_differ_10 : decode cM_differ 10 = .ok (.invokevirtual 201, 3) := by decide +kernel
theorem dM_differ_13 : decode cM_differ 13 = .ok (.ifCond .ne 5, 3) := by decide +kernel
theorem dM_differ_16 : decode cM_differ 16 = .ok (.iconst 0, 1) := by decide +kernel
theorem dM_differ_17 : decode cM_differ 17 = .ok (.ireturn, 1) := by decide +kernel
theorem dM_differ_18 : decode cM_differ 18 = .ok (.aload_n 0, 1) := by decide +kernel
theorem dM_differ_19 : decode cM_differ 19 = .ok (.iconst 0, 1) := by decide +kernel
theorem dM_differ_20 : decode cM_differ 20 = .ok (.putfield 204, 3) := by decide +kernel
theorem lM_204 : Cond.fieldLink RM 204 "RevisionWriteModel" "rows" "I" ∈ A9 := in9 (by decide +kernel) rfl
theorem dM_differ_23 : decode cM_differ 23 = .ok (.aload_n 0, 1) := by decide +kernel
theorem dM_differ_24 : decode cM_differ 24 = .ok (.iconst 1, 1) := by decide +kernel
theorem dM_differ_25 : decode cM_differ 25 = .ok (.putfield 207, 3) := by decide +kernel
theorem lM_207 : Cond.fieldLink RM 207 "RevisionWriteModel" "hasDiffered" "Z" ∈ A9 := in9 (by decide +kernel) rfl
theorem dM_differ_28 : decode cM_differ 28 = .ok (.iconst 1, 1) := by decide +kernel
theorem dM_differ_29 : decode cM_differ 29 = .ok (.istore_n 3, 1) := by decide +kernel
theorem dM_differ_30 : decode cM_differ 30 = .ok (.iload_n 3, 1) := by decide +kernel
theorem dM_differ_31 : decode cM_differ 31 = .ok (.bipush 40, 2) := by decide +kernel
theorem dM_differ_33 : decode cM_differ 33 = .ok (.if_icmp .gt 147, 3) := by decide +kernel
theorem dM_differ_36 : decode cM_differ 36 = .ok (.bipush 41, 2) := by decide +kernel
theorem dM_differ_38 : decode cM_differ 38 = .ok (.iload_n 1, 1) := by decide +kernel
theorem dM_differ_39 : decode cM_differ 39 = .ok (.imul, 1) := by decide +kernel
theorem dM_differ_40 : decode cM_differ 40 = .ok (.iload_n 3, 1) := by decide +kernel
theorem dM_differ_41 : decode cM_differ 41 = .ok (.iadd, 1) := by decide +kernel
theorem dM_differ_42 : decode cM_differ 42 = .ok (.istore 4, 2) := by decide +kernel
theorem dM_differ_44 : decode cM_differ 44 = .ok (.bipush 41, 2) := by decide +kernel
theorem dM_differ_46 : decode cM_differ 46 = .ok (.iload_n 2, 1) := by decide +kernel
theorem dM_differ_47 : decode cM_differ 47 = .ok (.imul, 1) := by decide +kernel
theorem dM_differ_48 : decode cM_differ 48 = .ok (.iload_n 3, 1) := by decide +kernel
theorem dM_differ_49 : decode cM_differ 49 = .ok (.iadd, 1) := by decide +kernel
theorem dM_differ_50 : decode cM_differ 50 = .ok (.istore 5, 2) := by decide +kernel
theorem dM_differ_52 : decode cM_differ 52 = .ok (.aload_n 0, 1) := by decide +kernel
theorem dM_differ_53 : decode cM_differ 53 = .ok (.getfield 39, 3) := by decide +kernel
theorem dM_differ_56 : decode cM_differ 56 = .ok (.iload 4, 2) := by decide +kernel
theorem dM_differ_58 : decode cM_differ 58 = .ok (.iaload, 1) := by decide +kernel
theorem dM_differ_59 : decode cM_differ 59 = .ok (.iconst (-1), 1) := by decide +kernel
theorem dM_differ_60 : decode cM_differ 60 = .ok (.if_icmp .eq 7, 3) := by decide +kernel
theorem dM_differ_63 : decode cM_differ 63 = .ok (.iconst 1, 1) := by decide +kernel
theorem dM_differ_64 : decode cM_differ 64 = .ok (.goto 4, 3) := by decide +kernel
theorem dM_differ_67 : decode cM_differ 67 = .ok (.iconst 0, 1) := by decide +kernel
theorem dM_differ_68 : decode cM_differ 68 = .ok (.istore 6, 2) := by decide +kernel
theorem dM_differ_70 : decode cM_differ 70 = .ok (.aload_n 0, 1) := by decide +kernel
theorem dM_differ_71 : decode cM_differ 71 = .ok (.getfield 39, 3) := by decide +kernel
theorem dM_differ_74 : decode cM_differ 74 = .ok (.iload 5, 2) := by decide +kernel
theorem dM_differ_76 : decode cM_differ 76 = .ok (.iaload, 1) := by decide +kernel
theorem dM_differ_77 : decode cM_differ 77 = .ok (.iconst (-1), 1) := by decide +kernel
theorem dM_differ_78 : decode cM_differ 78 = .ok (.if_icmp .eq 7, 3) := by decide +kernel
theorem dM_differ_81 : decode cM_differ 81 = .ok (.iconst 1, 1) := by decide +kernel
theorem dM_differ_82 : decode cM_differ 82 = .ok (.goto 4, 3) := by decide +kernel
theorem dM_differ_85 : decode cM_differ 85 = .ok (.iconst 0, 1) := by decide +kernel
theorem dM_differ_86 : decode cM_differ 86 = .ok (.istore 7, 2) := by decide +kernel
theorem dM_differ_88 : decode cM_differ 88 = .ok (.iload 6, 2) := by decide +kernel
theorem dM_differ_90 : decode cM_differ 90 = .ok (.ifCond .eq 27, 3) := by decide +kernel
theorem dM_differ_93 : decode cM_differ 93 = .ok (.iload 7, 2) := by decide +kernel
theorem dM_differ_95 : decode cM_differ 95 = .ok (.ifCond .eq 22, 3) := by decide +kernel
theorem dM_differ_98 : decode cM_differ 98 = .ok (.aload_n 0, 1) := by decide +kernel
theorem dM_differ_99 : decode cM_differ 99 = .ok (.iload 4, 2) := by decide +kernel
theorem dM_differ_101 : decode cM_differ 101 = .ok (.iload 5, 2) := by decide +kernel
theorem dM_differ_103 : decode cM_differ 103 = .ok (.invokevirtual 210, 3) := by decide +kernel
theorem dM_differ_106 : decode cM_differ 106 = .ok (.ifCond .eq 7, 3) := by decide +kernel
theorem dM_differ_109 : decode cM_differ 109 = .ok (.iconst 0, 1) := by decide +kernel
theorem dM_differ_110 : decode cM_differ 110 = .ok (.goto 26, 3) := by decide +kernel
theorem dM_differ_113 : decode cM_differ 113 = .ok (.iconst 3, 1) := by decide +kernel
theorem dM_differ_114 : decode cM_differ 114 = .ok (.goto 22, 3) := by decide +kernel
theorem dM_differ_117 : decode cM_differ 117 = .ok (.iload 7, 2) := by decide +kernel
theorem dM_differ_119 : decode cM_differ 119 = .ok (.ifCond .eq 7, 3) := by decide +kernel
theorem dM_differ_122 : decode cM_differ 122 = .ok (.iconst 1, 1) := by decide +kernel
theorem dM_differ_123 : decode cM_differ 123 = .ok (.goto 13, 3) := by decide +kernel
theorem dM_differ_126 : decode cM_differ 126 = .ok (.iload 6, 2) := by decide +kernel
theorem dM_differ_128 : decode cM_differ 128 = .ok (.ifCond .eq 7, 3) := by decide +kernel
theorem dM_differ_131 : decode cM_differ 131 = .ok (.iconst 2, 1) := by decide +kernel
theorem dM_differ_132 : decode cM_differ 132 = .ok (.goto 4, 3) := by decide +kernel
theorem dM_differ_135 : decode cM_differ 135 = .ok (.iconst 0, 1) := by decide +kernel
theorem dM_differ_136 : decode cM_differ 136 = .ok (.istore 8, 2) := by decide +kernel
theorem dM_differ_138 : decode cM_differ 138 = .ok (.iload 8, 2) := by decide +kernel
theorem dM_differ_140 : decode cM_differ 140 = .ok (.ifCond .le 34, 3) := by decide +kernel
theorem dM_differ_143 : decode cM_differ 143 = .ok (.aload_n 0, 1) := by decide +kernel
theorem dM_differ_144 : decode cM_differ 144 = .ok (.getfield 57, 3) := by decide +kernel
theorem dM_differ_147 : decode cM_differ 147 = .ok (.aload_n 0, 1) := by decide +kernel
theorem dM_differ_148 : decode cM_differ 148 = .ok (.getfield 204, 3) := by decide +kernel
theorem dM_differ_151 : decode cM_differ 151 = .ok (.iload_n 3, 1) := by decide +kernel
theorem dM_differ_152 : decode cM_differ 152 = .ok (.iastore, 1) := by decide +kernel
theorem dM_differ_153 : decode cM_differ 153 = .ok (.aload_n 0, 1) := by decide +kernel
theorem dM_differ_154 : decode cM_differ 154 = .ok (.getfield 60, 3) := by decide +kernel
theorem dM_differ_157 : decode cM_differ 157 = .ok (.aload_n 0, 1) := by decide +kernel
theorem dM_differ_158 : decode cM_differ 158 = .ok (.getfield 204, 3) := by decide +kernel
theorem dM_differ_161 : decode cM_differ 161 = .ok (.iload 8, 2) := by decide +kernel
theorem dM_differ_163 : decode cM_differ 163 = .ok (.iastore, 1) := by decide +kernel
theorem dM_differ_164 : decode cM_differ 164 = .ok (.aload_n 0, 1) := by decide +kernel
theorem dM_differ_165 : decode cM_differ 165 = .ok (.dup, 1) := by decide +kernel
theorem dM_differ_166 : decode cM_differ 166 = .ok (.getfield 204, 3) := by decide +kernel
theorem dM_differ_169 : decode cM_differ 169 = .ok (.iconst 1, 1) := by decide +kernel
theorem dM_differ_170 : decode cM_differ 170 = .ok (.iadd, 1) := by decide +kernel
theorem dM_differ_171 : decode cM_differ 171 = .ok (.putfield 204, 3) := by decide +kernel
theorem dM_differ_174 : decode cM_differ 174 = .ok (.iinc 3 1, 3) := by decide +kernel
theorem dM_differ_177 : decode cM_differ 177 = .ok (.goto (-147), 3) := by decide +kernel
theorem dM_differ_180 : decode cM_differ 180 = .ok (.aload_n 0, 1) := by decide +kernel
theorem dM_differ_181 : decode cM_differ 181 = .ok (.getfield 204, 3) := by decide +kernel
theorem dM_differ_184 : decode cM_differ 184 = .ok (.ireturn, 1) := by decide +kernel
abbrev cM_row : ByteArray := prog_10_method_48_code
def yM_row : MethodName := ⟨RM, "row", "(II)I"⟩
theorem wM_row : Cond.code yM_row cM_row 3 (some .int) ∈ A9 := in9 (by decide +kernel) rfl
theorem dM_row_0 : decode cM_row 0 = .ok (.aload_n 0, 1) := by decide +kernel
theorem dM_row_1 : decode cM_row 1 = .ok (.aload_n 0, 1) := by decide +kernel
theorem dM_row_2 : decode cM_row 2 = .ok (.getfield 207, 3) := by decide +kernel
theorem dM_row_5 : decode cM_row 5 = .ok (.ifCond .eq 24, 3) := by decide +kernel
theorem dM_row_8 : decode cM_row 8 = .ok (.iload_n 1, 1) := by decide +kernel
theorem dM_row_9 : decode cM_row 9 = .ok (.ifCond .lt 20, 3) := by decide +kernel
theorem dM_row_12 : decode cM_row 12 = .ok (.iload_n 1, 1) := by decide +kernel
theorem dM_row_13 : decode cM_row 13 = .ok (.aload_n 0, 1) := by decide +kernel
theorem dM_row_14 : decode cM_row 14 = .ok (.getfield 204, 3) := by decide +kernel
theorem dM_row_17 : decode cM_row 17 = .ok (.if_icmp .ge 12, 3) := by decide +kernel
theorem dM_row_20 : decode cM_row 20 = .ok (.iload_n 2, 1) := by decide +kernel
theorem dM_row_21 : decode cM_row 21 = .ok (.ifCond .lt 8, 3) := by decide +kernel
theorem dM_row_24 : decode cM_row 24 = .ok (.iload_n 2, 1) := by decide +kernel
theorem dM_row_25 : decode cM_row 25 = .ok (.iconst 1, 1) := by decide +kernel
theorem dM_row_26 : decode cM_row 26 = .ok (.if_icmp .le 7, 3) := by decide +kernel
theorem dM_row_29 : decode cM_row 29 = .ok (.iconst 1, 1) := by decide +kernel
theorem dM_row_30 : decode cM_row 30 = .ok (.goto 4, 3) := by decide +kernel
theorem dM_row_33 : decode cM_row 33 = .ok (.iconst 0, 1) := by decide +kernel
theorem dM_row_34 : decode cM_row 34 = .ok (.putfield 63, 3) := by decide +kernel
theorem dM_row_37 : decode cM_row 37 = .ok (.aload_n 0, 1) := by decide +kernel
theorem dM_row_38 : decode cM_row 38 = .ok (.getfield 63, 3) := by decide +kernel
theorem dM_row_41 : decode cM_row 41 = .ok (.ifCond .le 7, 3) := by decide +kernel
theorem dM_row_44 : decode cM_row 44 = .ok (.iconst 0, 1) := by decide +kernel
theorem dM_row_45 : decode cM_row 45 = .ok (.goto 22, 3) := by decide +kernel
theorem dM_row_48 : decode cM_row 48 = .ok (.iload_n 2, 1) := by decide +kernel
theorem dM_row_49 : decode cM_row 49 = .ok (.ifCond .ne 12, 3) := by decide +kernel
theorem dM_row_52 : decode cM_row 52 = .ok (.aload_n 0, 1) := by decide +kernel
theorem dM_row_53 : decode cM_row 53 = .ok (.getfield 57, 3) := by decide +kernel
theorem dM_row_56 : decode cM_row 56 = .ok (.iload_n 1, 1) := by decide +kernel
theorem dM_row_57 : decode cM_row 57 = .ok (.iaload, 1) := by decide +kernel
theorem dM_row_58 : decode cM_row 58 = .ok (.goto 9, 3) := by decide +kernel
theorem dM_row_61 : decode cM_row 61 = .ok (.aload_n 0, 1) := by decide +kernel
theorem dM_row_62 : decode cM_row 62 = .ok (.getfield 60, 3) := by decide +kernel
theorem dM_row_65 : decode cM_row 65 = .ok (.iload_n 1, 1) := by decide +kernel
theorem dM_row_66 : decode cM_row 66 = .ok (.iaload, 1) := by decide +kernel
theorem dM_row_67 : decode cM_row 67 = .ok (.ireturn, 1) := by decide +kernel
abbrev cM_told : ByteArray := prog_10_method_49_code
def yM_told : MethodName := ⟨RM, "told", "(I)I"⟩
theorem wM_told : Cond.code yM_told cM_told 4 (some .int) ∈ A9 := in9 (by decide +kernel) rfl
theorem dM_told_0 : decode cM_told 0 = .ok (.aload_n 0, 1) := by decide +kernel
theorem dM_told_1 : decode cM_told 1 = .ok (.iconst 0, 1) := by decide +kernel
theorem dM_told_2 : decode cM_told 2 = .ok (.putfield 63, 3) := by decide +kernel
theorem dM_told_5 : decode cM_told 5 = .ok (.iconst 0, 1) := by decide +kernel
theorem dM_told_6 : decode cM_told 6 = .ok (.istore_n 2, 1) := by decide +kernel
theorem dM_told_7 : decode cM_told 7 = .ok (.iconst 1, 1) := by decide +kernel
theorem dM_told_8 : decode cM_told 8 = .ok (.istore_n 3, 1) := by decide +kernel
theorem dM_told_9 : decode cM_told 9 = .ok (.iload_n 3, 1) := by decide +kernel
theorem dM_told_10 : decode cM_told 10 = .ok (.bipush 40, 2) := by decide +kernel
theorem dM_told_12 : decode cM_told 12 = .ok (.if_icmp .gt 26, 3) := by decide +kernel
theorem dM_told_15 : decode cM_told 15 = .ok (.aload_n 0, 1) := by decide +kernel
theorem dM_told_16 : decode cM_told 16 = .ok (.getfield 7, 3) := by decide +kernel
theorem dM_told_19 : decode cM_told 19 = .ok (.iload_n 3, 1) := by decide +kernel
theorem dM_told_20 : decode cM_told 20 = .ok (.baload, 1) := by decide +kernel
theorem dM_told_21 : decode cM_told 21 = .ok (.ifCond .eq 9, 3) := by decide +kernel
theorem dM_told_24 : decode cM_told 24 = .ok (.iload_n 2, 1) := by decide +kernel
theorem dM_told_25 : decode cM_told 25 = .ok (.iconst 1, 1) := by decide +kernel
theorem dM_told_26 : decode cM_told 26 = .ok (.iadd, 1) := by decide +kernel
theorem dM_told_27 : decode cM_told 27 = .ok (.goto 4, 3) := by decide +kernel
theorem dM_told_30 : decode cM_told 30 = .ok (.iload_n 2, 1) := by decide +kernel
theorem dM_told_31 : decode cM_told 31 = .ok (.istore_n 2, 1) := by decide +kernel
theorem dM_told_32 : decode cM_told 32 = .ok (.iinc 3 1, 3) := by decide +kernel
theorem dM_told_35 : decode cM_told 35 = .ok (.goto (-26), 3) := by decide +kernel
theorem dM_told_38 : decode cM_told 38 = .ok (.iload_n 1, 1) := by decide +kernel
theorem dM_told_39 : decode cM_told 39 = .ok (.ifCond .ne 10, 3) := by decide +kernel
theorem dM_told_42 : decode cM_told 42 = .ok (.aload_n 0, 1) := by decide +kernel
theorem dM_told_43 : decode cM_told 43 = .ok (.getfield 116, 3) := by decide +kernel
theorem dM_told_46 : decode cM_told 46 = .ok (.goto 57, 3) := by decide +kernel
theorem dM_told_49 : decode cM_told 49 = .ok (.iload_n 1, 1) := by decide +kernel
theorem dM_told_50 : decode cM_told 50 = .ok (.iconst 1, 1) := by decide +kernel
theorem dM_told_51 : decode cM_told 51 = .ok (.if_icmp .ne 10, 3) := by decide +kernel
theorem dM_told_54 : decode cM_told 54 = .ok (.aload_n 0, 1) := by decide +kernel
theorem dM_told_55 : decode cM_told 55 = .ok (.getfield 110, 3) := by decide +kernel
theorem dM_told_58 : decode cM_told 58 = .ok (.goto 45, 3) := by decide +kernel
theorem dM_told_61 : decode cM_told 61 = .ok (.iload_n 1, 1) := by decide +kernel
theorem dM_told_62 : decode cM_told 62 = .ok (.iconst 2, 1) := by decide +kernel
theorem dM_told_63 : decode cM_told 63 = .ok (.if_icmp .ne 7, 3) := by decide +kernel
theorem dM_told_66 : decode cM_told 66 = .ok (.iload_n 2, 1) := by decide +kernel
theorem dM_told_67 : decode cM_told 67 = .ok (.goto 36, 3) := by decide +kernel
theorem dM_told_70 : decode cM_told 70 = .ok (.iload_n 1, 1) := by decide +kernel
theorem dM_told_71 : decode cM_told 71 = .ok (.iconst 3, 1) := by decide +kernel
theorem dM_told_72 : decode cM_told 72 = .ok (.if_icmp .ne 10, 3) := by decide +kernel
theorem dM_told_75 : decode cM_told 75 = .ok (.aload_n 0, 1) := by decide +kernel
theorem dM_told_76 : decode cM_told 76 = .ok (.invokevirtual 137, 3) := by decide +kernel
theorem dM_told_79 : decode cM_told 79 = .ok (.goto 24, 3) := by decide +kernel
theorem dM_told_82 : decode cM_told 82 = .ok (.iload_n 1, 1) := by decide +kernel
theorem dM_told_83 : decode cM_told 83 = .ok (.iconst 4, 1) := by decide +kernel
theorem dM_told_84 : decode cM_told 84 = .ok (.if_icmp .ne 18, 3) := by decide +kernel
theorem dM_told_87 : decode cM_told 87 = .ok (.aload_n 0, 1) := by decide +kernel
theorem dM_told_88 : decode cM_told 88 = .ok (.getfield 123, 3) := by decide +kernel
theorem dM_told_91 : decode cM_told 91 = .ok (.ifCond .eq 7, 3) := by decide +kernel
theorem dM_told_94 : decode cM_told 94 = .ok (.iconst 1, 1) := by decide +kernel
theorem dM_told_95 : decode cM_told 95 = .ok (.goto 8, 3) := by decide +kernel
theorem dM_told_98 : decode cM_told 98 = .ok (.iconst 0, 1) := by decide +kernel
theorem dM_told_99 : decode cM_told 99 = .ok (.goto 4, 3) := by decide +kernel
theorem dM_told_102 : decode cM_told 102 = .ok (.iconst (-1), 1) := by decide +kernel
theorem dM_told_103 : decode cM_told 103 = .ok (.ireturn, 1) := by decide +kernel
end
section
def TM : u_T := fun k => match k with
  | 0 => ("RevisionWriteModel", "refusal", "I", false)
  | 1 => ("RevisionWriteModel", "isThere", "[Z", true)
  | 2 => ("RevisionWriteModel", "isFirst", "[Z", true)
  | 3 => ("RevisionWriteModel", "isChanged", "[Z", true)
  | 4 => ("RevisionWriteModel", "wasThere", "[Z", true)
  | 5 => ("RevisionWriteModel", "sizes", "[I", true)
  | 6 => ("RevisionWriteModel", "octets", "[B", true)
  | 7 => ("RevisionWriteModel", "size", "I", false)
  | 8 => ("RevisionWriteModel", "file", "[B", true)
  | 9 => ("RevisionWriteModel", "isAltered", "Z", false)
  | 10 => ("RevisionWriteModel", "revisions", "I", false)
  | 11 => ("RevisionWriteModel", "ends", "[I", true)
  | 12 => ("RevisionWriteModel", "marks", "[I", true)
  | 13 => ("RevisionWriteModel", "places", "[I", true)
  | 14 => ("RevisionWriteModel", "starts", "[I", true)
  | 15 => ("RevisionWriteModel", "counts", "[I", true)
  | 16 => ("RevisionWriteModel", "next", "I", false)
  | 17 => ("RevisionWriteModel", "isCounted", "Z", false)
  | 18 => ("RevisionWriteModel", "recordAt", "[I", true)
  | 19 => ("RevisionWriteModel", "bytesAt", "[I", true)
  | 20 => ("RevisionWriteModel", "lineEnd", "I", false)
  | 21 => ("RevisionWriteModel", "cursor", "I", false)
  | 22 => ("RevisionWriteModel", "number", "I", false)
  | 23 => ("RevisionWriteModel", "fault", "I", false)
  | 24 => ("RevisionWriteModel", "parts", "I", false)
  | 25 => ("RevisionWriteModel", "xs", "[I", true)
  | 26 => ("RevisionWriteModel", "first", "I", false)
  | 27 => ("RevisionWriteModel", "second", "I", false)
  | 28 => ("RevisionWriteModel", "hasDiffered", "Z", false)
  | 29 => ("RevisionWriteModel", "rows", "I", false)
  | 30 => ("RevisionWriteModel", "rowObject", "[I", true)
  | _ => ("RevisionWriteModel", "rowKind", "[I", true)
def tyM : Nat → FieldType := fun k => match k with
  | 0 => .int
  | 1 => .array .boolean
  | 2 => .array .boolean
  | 3 => .array .boolean
  | 4 => .array .boolean
  | 5 => .array .int
  | 6 => .array .byte
  | 7 => .int
  | 8 => .array .byte
  | 9 => .boolean
  | 10 => .int
  | 11 => .array .int
  | 12 => .array .int
  | 13 => .array .int
  | 14 => .array .int
  | 15 => .array .int
  | 16 => .int
  | 17 => .boolean
  | 18 => .array .int
  | 19 => .array .int
  | 20 => .int
  | 21 => .int
  | 22 => .int
  | 23 => .int
  | 24 => .int
  | 25 => .array .int
  | 26 => .int
  | 27 => .int
  | 28 => .boolean
  | 29 => .int
  | 30 => .array .int
  | _ => .array .int
theorem nmM : ∀ a, a < 32 → ∀ b, b < 32 → a ≠ b → (TM a).2.1 ≠ (TM b).2.1 := by decide +kernel
theorem tyM_ok : ∀ k, k < 32 → parseFieldDescriptor (TM k).2.2.1 = some (tyM k) := by decide +kernel
theorem inM : ∀ w ∈ u_ws RM TM 32, w ∈ A9 := fun w h => in9 ((show ∀ w ∈ u_ws RM TM 32, w ∈ lw_tbl by decide +kernel) w h) ((show ∀ w ∈ u_ws RM TM 32, goodWord w = true by decide +kernel) w h)
/-- the fields of the reference: which hold a role, which a number -/
def mF : Nat → Nat ⊕ Bool := fun k => match k with
  | 0 => .inr true
  | 1 => .inl 1
  | 2 => .inl 2
  | 3 => .inl 3
  | 4 => .inl 4
  | 5 => .inl 5
  | 6 => .inl 6
  | 7 => .inr true
  | 8 => .inl 7
  | 9 => .inr true
  | 10 => .inr true
  | 11 => .inl 8
  | 12 => .inl 9
  | 13 => .inl 10
  | 14 => .inl 11
  | 15 => .inl 12
  | 16 => .inr true
  | 17 => .inr true
  | 18 => .inl 13
  | 19 => .inl 14
  | 20 => .inr true
  | 21 => .inr true
  | 22 => .inr true
  | 23 => .inr true
  | 24 => .inr true
  | 25 => .inl 15
  | 26 => .inr true
  | 27 => .inr true
  | 28 => .inr true
  | 29 => .inr true
  | 30 => .inl 16
  | _ => .inl 17
/-- the layout of the reference: role 0 the object, 1 .. its arrays in the order of their making -/
def mY : Nat → fL := fun k => match k with
  | 0 => .inl (0, 32, mF)
  | 1 => .inr (.inl (2, 41))
  | 2 => .inr (.inl (2, 41))
  | 3 => .inr (.inl (2, 41))
  | 4 => .inr (.inl (2, 41))
  | 5 => .inr (.inl (0, 41))
  | 6 => .inr (.inl (1, 4920))
  | 7 => .inr (.inl (1, 12000))
  | 8 => .inr (.inl (0, 60))
  | 9 => .inr (.inl (0, 60))
  | 10 => .inr (.inl (0, 2460))
  | 11 => .inr (.inl (0, 2460))
  | 12 => .inr (.inl (0, 2460))
  | 13 => .inr (.inl (0, 41))
  | 14 => .inr (.inl (0, 41))
  | 15 => .inr (.inl (0, 60))
  | 16 => .inr (.inl (0, 40))
  | _ => .inr (.inl (0, 40))
def w_tys (cA : Nat → ClassId) : List (ClassId × FieldType) := [(cA 0, .int), (cA 1, .byte), (cA 2, .boolean), (cA 3, .object "RevisionWrite$Table"), (cA 4, .long)]
abbrev mG (xCl : List vw_C) (D : va_G) (cA : Nat → ClassId) (ad : Nat → Nat) : fG := (D, (RM, TM, 32) :: xCl, w_tys cA, ad, cA, mY, 18)
def mE : Nat → State → Prop := fun _ _ => True
theorem mE_ok (G : fG) : f_E G mE := ⟨fun _ _ _ _ _ _ => trivial, fun _ _ _ _ _ _ => trivial⟩
theorem g9V {own CN : String} {idx : Nat} {y : MethodName} {b : ByteArray} {ml : Nat} {r : Option FieldType} (h1 : Cond.methodLink own idx y ∈ A9) (h2 : Cond.instanceMethod y ∈ A9) (h3 : Cond.selects CN y y ∈ A9) (h4 : Cond.initialized CN ∈ A9) (h5 : Cond.code y b ml r ∈ A9) : GoodIn A9 (wsV own idx CN y (Cond.code y b ml r :: A9)) := by
  intro w hw
  have h : w ∈ A9 := by
    unfold wsV at hw
    rcases List.mem_append.mp hw with hw | hw
    · simp only [List.mem_cons, List.not_mem_nil, or_false] at hw
      rcases hw with rfl | rfl | rfl | rfl <;> assumption
    · rcases List.mem_cons.mp hw with rfl | hw
      · exact h5
      · exact hw
  exact ⟨h, good9 h⟩
theorem g9S {own : String} {idx : Nat} {y : MethodName} {b : ByteArray} {ml : Nat} {r : Option FieldType} (h1 : Cond.methodLink own idx y ∈ A9) (h2 : Cond.static y ∈ A9) (h4 : Cond.initialized y.cls ∈ A9) (h5 : Cond.code y b ml r ∈ A9) : GoodIn A9 (va_wsS own idx y (Cond.code y b ml r :: A9)) := by
  intro w hw
  have h : w ∈ A9 := by
    unfold va_wsS at hw
    rcases List.mem_append.mp hw with hw | hw
    · simp only [List.mem_cons, List.not_mem_nil, or_false] at hw
      rcases hw with rfl | rfl | rfl <;> assumption
    · rcases List.mem_cons.mp hw with rfl | hw
      · exact h5
      · exact hw
  exact ⟨h, good9 h⟩
theorem iM : Cond.initialized RM ∈ A9 := in9 (by decide +kernel) rfl
theorem gM_67 : GoodIn A9 (va_wsS RM 67 yM_isObject (Cond.code yM_isObject cM_isObject 1 (some .boolean) :: A9)) := g9S (in9 (by decide +kernel) rfl) (in9 (by decide +kernel) rfl) iM wM_isObject
theorem gM_71 : GoodIn A9 (wsV RM 71 RM yM_has (Cond.code yM_has cM_has 2 (some .boolean) :: A9)) := g9V (in9 (by decide +kernel) rfl) (in9 (by decide +kernel) rfl) (in9 (by decide +kernel) rfl) iM wM_has
theorem gM_74 : GoodIn A9 (wsV RM 74 RM yM_isByte (Cond.code yM_isByte cM_isByte 3 (some .boolean) :: A9)) := g9V (in9 (by decide +kernel) rfl) (in9 (by decide +kernel) rfl) (in9 (by decide +kernel) rfl) iM wM_isByte
theorem gM_85 : GoodIn A9 (wsV RM 85 RM yM_put (Cond.code yM_put cM_put 2 none :: A9)) := g9V (in9 (by decide +kernel) rfl) (in9 (by decide +kernel) rfl) (in9 (by decide +kernel) rfl) iM wM_put
theorem gM_89 : GoodIn A9 (wsV RM 89 RM yM_putNumber (Cond.code yM_putNumber cM_putNumber 3 none :: A9)) := g9V (in9 (by decide +kernel) rfl) (in9 (by decide +kernel) rfl) (in9 (by decide +kernel) rfl) iM wM_putNumber
theorem gM_92 : GoodIn A9 (wsV RM 92 RM yM_isMeant (Cond.code yM_isMeant cM_isMeant 3 (some .boolean) :: A9)) := g9V (in9 (by decide +kernel) rfl) (in9 (by decide +kernel) rfl) (in9 (by decide +kernel) rfl) iM wM_isMeant
theorem gM_96 : GoodIn A9 (wsV RM 96 RM yM_putRecord (Cond.code yM_putRecord cM_putRecord 3 none :: A9)) := g9V (in9 (by decide +kernel) rfl) (in9 (by decide +kernel) rfl) (in9 (by decide +kernel) rfl) iM wM_putRecord
theorem gM_99 : GoodIn A9 (wsV RM 99 RM yM_putRecords (Cond.code yM_putRecords cM_putRecords 6 none :: A9)) := g9V (in9 (by decide +kernel) rfl) (in9 (by decide +kernel) rfl) (in9 (by decide +kernel) rfl) iM wM_putRecords
theorem gM_103 : GoodIn A9 (wsV RM 103 RM yM_putTold (Cond.code yM_putTold cM_putTold 3 none :: A9)) := g9V (in9 (by decide +kernel) rfl) (in9 (by decide +kernel) rfl) (in9 (by decide +kernel) rfl) iM wM_putTold
theorem gM_107 : GoodIn A9 (wsV RM 107 RM yM_putRow (Cond.code yM_putRow cM_putRow 2 none :: A9)) := g9V (in9 (by decide +kernel) rfl) (in9 (by decide +kernel) rfl) (in9 (by decide +kernel) rfl) iM wM_putRow
theorem gM_119 : GoodIn A9 (wsV RM 119 RM yM_putPart (Cond.code yM_putPart cM_putPart 7 (some .int) :: A9)) := g9V (in9 (by decide +kernel) rfl) (in9 (by decide +kernel) rfl) (in9 (by decide +kernel) rfl) iM wM_putPart
theorem gM_126 : GoodIn A9 (wsV RM 126 RM yM_remember (Cond.code yM_remember cM_remember 5 none :: A9)) := g9V (in9 (by decide +kernel) rfl) (in9 (by decide +kernel) rfl) (in9 (by decide +kernel) rfl) iM wM_remember
theorem gM_130 : GoodIn A9 (wsV RM 130 RM yM_save (Cond.code yM_save cM_save 2 none :: A9)) := g9V (in9 (by decide +kernel) rfl) (in9 (by decide +kernel) rfl) (in9 (by decide +kernel) rfl) iM wM_save
theorem gM_133 : GoodIn A9 (wsV RM 133 RM yM_putAll (Cond.code yM_putAll cM_putAll 4 none :: A9)) := g9V (in9 (by decide +kernel) rfl) (in9 (by decide +kernel) rfl) (in9 (by decide +kernel) rfl) iM wM_putAll
theorem gM_137 : GoodIn A9 (wsV RM 137 RM yM_changed (Cond.code yM_changed cM_changed 3 (some .int) :: A9)) := g9V (in9 (by decide +kernel) rfl) (in9 (by decide +kernel) rfl) (in9 (by decide +kernel) rfl) iM wM_changed
theorem gM_150 : GoodIn A9 (wsV RM 150 RM yM_line (Cond.code yM_line cM_line 2 (some .boolean) :: A9)) := g9V (in9 (by decide +kernel) rfl) (in9 (by decide +kernel) rfl) (in9 (by decide +kernel) rfl) iM wM_line
theorem gM_153 : GoodIn A9 (wsV RM 153 RM yM_takes (Cond.code yM_takes cM_takes 3 (some .boolean) :: A9)) := g9V (in9 (by decide +kernel) rfl) (in9 (by decide +kernel) rfl) (in9 (by decide +kernel) rfl) iM wM_takes
theorem gM_156 : GoodIn A9 (wsV RM 156 RM yM_takesNumber (Cond.code yM_takesNumber cM_takesNumber 2 (some .boolean) :: A9)) := g9V (in9 (by decide +kernel) rfl) (in9 (by decide +kernel) rfl) (in9 (by decide +kernel) rfl) iM wM_takesNumber
theorem gM_160 : GoodIn A9 (wsV RM 160 RM yM_isOver (Cond.code yM_isOver cM_isOver 1 (some .boolean) :: A9)) := g9V (in9 (by decide +kernel) rfl) (in9 (by decide +kernel) rfl) (in9 (by decide +kernel) rfl) iM wM_isOver
theorem gM_169 : GoodIn A9 (wsV RM 169 RM yM_tells (Cond.code yM_tells cM_tells 3 (some .boolean) :: A9)) := g9V (in9 (by decide +kernel) rfl) (in9 (by decide +kernel) rfl) (in9 (by decide +kernel) rfl) iM wM_tells
theorem gM_172 : GoodIn A9 (wsV RM 172 RM yM_isRow (Cond.code yM_isRow cM_isRow 3 (some .boolean) :: A9)) := g9V (in9 (by decide +kernel) rfl) (in9 (by decide +kernel) rfl) (in9 (by decide +kernel) rfl) iM wM_isRow
theorem gM_178 : GoodIn A9 (wsV RM 178 RM yM_recordsStand (Cond.code yM_recordsStand cM_recordsStand 7 (some .boolean) :: A9)) := g9V (in9 (by decide +kernel) rfl) (in9 (by decide +kernel) rfl) (in9 (by decide +kernel) rfl) iM wM_recordsStand
theorem gM_181 : GoodIn A9 (wsV RM 181 RM yM_isRecord (Cond.code yM_isRecord cM_isRecord 4 (some .boolean) :: A9)) := g9V (in9 (by decide +kernel) rfl) (in9 (by decide +kernel) rfl) (in9 (by decide +kernel) rfl) iM wM_isRecord
theorem gM_185 : GoodIn A9 (wsV RM 185 RM yM_wrong (Cond.code yM_wrong cM_wrong 2 (some .boolean) :: A9)) := g9V (in9 (by decide +kernel) rfl) (in9 (by decide +kernel) rfl) (in9 (by decide +kernel) rfl) iM wM_wrong
theorem gM_188 : GoodIn A9 (wsV RM 188 RM yM_lookAt (Cond.code yM_lookAt cM_lookAt 6 (some .int) :: A9)) := g9V (in9 (by decide +kernel) rfl) (in9 (by decide +kernel) rfl) (in9 (by decide +kernel) rfl) iM wM_lookAt
theorem gM_192 : GoodIn A9 (wsV RM 192 RM yM_isFile (Cond.code yM_isFile cM_isFile 4 (some .boolean) :: A9)) := g9V (in9 (by decide +kernel) rfl) (in9 (by decide +kernel) rfl) (in9 (by decide +kernel) rfl) iM wM_isFile
theorem gM_195 : GoodIn A9 (wsV RM 195 RM yM_learn (Cond.code yM_learn cM_learn 7 none :: A9)) := g9V (in9 (by decide +kernel) rfl) (in9 (by decide +kernel) rfl) (in9 (by decide +kernel) rfl) iM wM_learn
theorem gM_198 : GoodIn A9 (wsV RM 198 RM yM_readFile (Cond.code yM_readFile cM_readFile 4 (some .int) :: A9)) := g9V (in9 (by decide +kernel) rfl) (in9 (by decide +kernel) rfl) (in9 (by decide +kernel) rfl) iM wM_readFile
theorem gM_201 : GoodIn A9 (wsV RM 201 RM yM_isRevision (Cond.code yM_isRevision cM_isRevision 2 (some .boolean) :: A9)) := g9V (in9 (by decide +kernel) rfl) (in9 (by decide +kernel) rfl) (in9 (by decide +kernel) rfl) iM wM_isRevision
theorem gM_210 : GoodIn A9 (wsV RM 210 RM yM_isAlike (Cond.code yM_isAlike cM_isAlike 5 (some .boolean) :: A9)) := g9V (in9 (by decide +kernel) rfl) (in9 (by decide +kernel) rfl) (in9 (by decide +kernel) rfl) iM wM_isAlike
end
section
section FT
variable {z : fZ} {G : fG} {nL : Nat} {Q : State → Prop} {kc ks : Nat} {σ : fS} {pc : Nat} {lv : List (Option Value)} {st : List Value}
theorem v_top {a b : Int} (h : a = b) (k : fv z G nL Q kc ks σ pc lv (.int (fI b) :: st)) : fv z G nL Q kc ks σ pc lv (.int (fI a) :: st) := h ▸ k
theorem v_st {σ1 : fS} (h : σ = σ1) (k : fv z G nL Q kc ks σ1 pc lv st) : fv z G nL Q kc ks σ pc lv st := h ▸ k
theorem v_lv {lv1 : List (Option Value)} (h : lv = lv1) (k : fv z G nL Q kc ks σ pc lv1 st) : fv z G nL Q kc ks σ pc lv st := h ▸ k
end FT
/-- two states are one when their numbers are -/
theorem fS_ext {σ τ : fS} (h1 : ∀ a b, σ.1 a b = τ.1 a b) (h2 : ∀ a b, σ.2 a b = τ.2 a b) : σ = τ := Prod.ext (funext fun a => funext fun b => h1 a b) (funext fun a => funext fun b => h2 a b)
/-- digits, from the j-th on -/
def dg : Nat → Int → List Int
  | 0, v => [48 + v % 10]
  | j + 1, v => (48 + v / 10 ^ (j + 1) % 10) :: dg j v
def dl (v : Int) : Nat := if v < 10 then 0 else if v < 100 then 1 else if v < 1000 then 2 else if v < 10000 then 3 else 4
def dig (v : Int) : List Int := dg (dl v) v
theorem dg_len (j : Nat) (v : Int) : (dg j v).length = j + 1 := by
  induction j with
  | zero => rfl
  | succ j ih => simp [dg, ih]
theorem dig_len (v : Int) : 1 ≤ (dig v).length ∧ (dig v).length ≤ 5 := by
  unfold dig
  rw [dg_len]
  unfold dl
  split
  · omega
  · split
    · omega
    · split
      · omega
      · split <;> omega
theorem dg_byte (j : Nat) (v : Int) : ∀ x ∈ dg j v, 48 ≤ x ∧ x ≤ 57 := by
  induction j with
  | zero =>
    intro x hx
    simp [dg] at hx
    omega
  | succ j ih =>
    intro x hx
    simp only [dg, List.mem_cons] at hx
    rcases hx with rfl | hx
    · omega
    · exact ih x hx
theorem dl_4 (v : Int) : dl v ≤ 4 := by
  unfold dl
  split
  · omega
  · split
    · omega
    · split
      · omega
      · split <;> omega
theorem dl_le {v : Int} (hv : 0 ≤ v ∧ v ≤ 99999) : v / 10 ^ dl v ≤ 9 := by
  unfold dl
  split
  · show v / 1 ≤ 9; omega
  · split
    · show v / 10 ≤ 9; omega
    · split
      · show v / 100 ≤ 9; omega
      · split
        · show v / 1000 ≤ 9; omega
        · show v / 10000 ≤ 9; omega
theorem dl_gt {v : Int} {j : Nat} (h : j < dl v) : 9 < v / 10 ^ j := by
  have h4 := dl_4 v
  have hj : j = 0 ∨ j = 1 ∨ j = 2 ∨ j = 3 := by omega
  unfold dl at h
  rcases hj with rfl | rfl | rfl | rfl
  · show 9 < v / 1
    split at h <;> omega
  · show 9 < v / 10
    split at h
    · omega
    · split at h <;> omega
  · show 9 < v / 100
    split at h
    · omega
    · split at h
      · omega
      · split at h <;> omega
  · show 9 < v / 1000
    split at h
    · omega
    · split at h
      · omega
      · split at h
        · omega
        · split at h <;> omega
theorem pow10_4 {j : Nat} (h : j ≤ 4) : (10 : Int) ^ j ≤ 10000 := by
  have hj : j = 0 ∨ j = 1 ∨ j = 2 ∨ j = 3 ∨ j = 4 := by omega
  rcases hj with rfl | rfl | rfl | rfl | rfl <;> decide
end
section
/-- a byte goes to the file's place next, unless bytes are but counted -/
def m_put (σ : fS) (v : Int) : fS := if σ.1 0 17 = 1 then f_p1 σ 0 16 (σ.1 0 16 + 1) else f_p1 (f_p2 σ 7 (σ.1 0 16).toNat v) 0 16 (σ.1 0 16 + 1)
def m_puts (σ : fS) (l : List Int) : fS := l.foldl m_put σ
theorem m_puts_app (σ : fS) (a b : List Int) : m_puts σ (a ++ b) = m_puts (m_puts σ a) b := List.foldl_append
theorem m_puts_cons (σ : fS) (a : Int) (b : List Int) : m_puts σ (a :: b) = m_puts (m_put σ a) b := rfl
theorem m_puts_nil (σ : fS) : m_puts σ [] = σ := rfl
theorem m_put_1 (σ : fS) (v : Int) (a b : Nat) : (m_put σ v).1 a b = if a = 0 ∧ b = 16 then σ.1 0 16 + 1 else σ.1 a b := by
  unfold m_put
  split
  · rw [p1_1]
  · rw [p1_1]; rfl
theorem m_put_2 (σ : fS) (v : Int) (a b : Nat) : (m_put σ v).2 a b = if a = 7 ∧ b = (σ.1 0 16).toNat ∧ ¬ σ.1 0 17 = 1 then v else σ.2 a b := by
  unfold m_put
  split
  · rename_i h
    rw [p1_2, if_neg (by simp [h])]
  · rename_i h
    rw [p1_2, p2_2]
    simp [h]
theorem m_puts_1 (l : List Int) : ∀ (σ : fS) (a b : Nat), (m_puts σ l).1 a b = if a = 0 ∧ b = 16 then σ.1 0 16 + l.length else σ.1 a b := by
  induction l with
  | nil =>
    intro σ a b
    rw [m_puts_nil]
    split
    · rename_i h; rw [h.1, h.2]; simp
    · rfl
  | cons x r ih =>
    intro σ a b
    rw [m_puts_cons, ih, m_put_1, m_put_1]
    by_cases h : a = 0 ∧ b = 16
    · simp only [h, and_self, if_true, List.length_cons]; omega
    · simp [h]
theorem m_puts_2 (l : List Int) : ∀ (σ : fS) (a b : Nat), a ≠ 7 → (m_puts σ l).2 a b = σ.2 a b := by
  induction l with
  | nil => intro σ a b _; rfl
  | cons x r ih =>
    intro σ a b h
    rw [m_puts_cons, ih _ _ _ h, m_put_2, if_neg (by simp [h])]
theorem m_puts_next (σ : fS) (l : List Int) : (m_puts σ l).1 0 16 = σ.1 0 16 + l.length := by rw [m_puts_1]; simp
theorem m_puts_cnt (σ : fS) (l : List Int) : (m_puts σ l).1 0 17 = σ.1 0 17 := by rw [m_puts_1]; simp
theorem m_puts_snoc (σ : fS) (a : List Int) (x : Int) : m_put (m_puts σ a) x = m_puts σ (a ++ [x]) := by
  rw [m_puts_app]
  rfl
set_option maxRecDepth 100000 in
set_option maxHeartbeats 4000000 in
/-- isObject(n) -/
theorem kM_isObject (l : Launch) (xCl : List vw_C) (D : va_G) (cA : Nat → ClassId) (ad : Nat → Nat) (hJ : f_J (mG xCl D cA ad)) (σ : fS) (n : Int) (hn : -2147483648 ≤ n ∧ n ≤ 2147483647) : f_M l (mG xCl D cA ad) mE yM_isObject (Cond.code yM_isObject cM_isObject 1 (some .boolean) :: A9) 0 σ [.int (fI n)] (f_QI (fun r σ1 => r = (if 1 ≤ n ∧ n ≤ 40 then 1 else 0) ∧ σ1 = σ) (mG xCl D cA ad)) := by
  refine f_enter (by decide +kernel) hJ rfl (Nat.le_of_ble_eq_true rfl) ?_
  intro z hzl hR C hRt hLk hEz
  subst hzl
  refine v_iload_n C dM_isObject_0 rfl rfl ?_
  refine v_iconst C dM_isObject_1 ?_
  refine v_icmp_lt (tgt := 15) C dM_isObject_2 (by decide) (by omega) (by omega) (fun hc1 => ?_) (fun hc1 => ?_)
  · refine v_iconst C dM_isObject_15 ?_
    exact v_zret C hRt hLk dM_isObject_16 (fN_bool (by omega)) ⟨by split <;> omega, rfl⟩
  · refine v_iload_n C dM_isObject_5 rfl rfl ?_
    refine v_bipush C dM_isObject_6 (by decide +kernel) ?_
    refine v_icmp_gt (tgt := 15) C dM_isObject_8 (by decide) (by omega) (by omega) (fun hc2 => ?_) (fun hc2 => ?_)
    · refine v_iconst C dM_isObject_15 ?_
      exact v_zret C hRt hLk dM_isObject_16 (fN_bool (by omega)) ⟨by split <;> omega, rfl⟩
    · refine v_iconst C dM_isObject_11 ?_
      refine v_goto (tgt := 16) C dM_isObject_12 (by decide) ?_
      exact v_zret C hRt hLk dM_isObject_16 (fN_bool (by omega)) ⟨by split <;> omega, rfl⟩
set_option maxRecDepth 100000 in
set_option maxHeartbeats 4000000 in
/-- has(n) -/
theorem kM_has (l : Launch) (xCl : List vw_C) (D : va_G) (cA : Nat → ClassId) (ad : Nat → Nat) (hJ : f_J (mG xCl D cA ad)) (σ : fS) (n : Int) (hn : -2147483648 ≤ n ∧ n ≤ 2147483647) (hT : ∀ i, 0 ≤ σ.2 1 i ∧ σ.2 1 i ≤ 1) : f_M l (mG xCl D cA ad) mE yM_has (Cond.code yM_has cM_has 2 (some .boolean) :: A9) 1 σ [.ref (ad 0), .int (fI n)] (f_QI (fun r σ1 => r = (if (1 ≤ n ∧ n ≤ 40) ∧ σ.2 1 n.toNat = 1 then 1 else 0) ∧ σ1 = σ) (mG xCl D cA ad)) := by
  refine f_enter (by decide +kernel) hJ rfl (Nat.le_of_ble_eq_true rfl) ?_
  intro z hzl hR C hRt hLk hEz
  subst hzl
  refine v_iload_n C dM_has_0 rfl rfl ?_
  refine v_cSI (n := 1) C (mE_ok _) trivial hR (kM_isObject _ xCl D cA ad hJ σ (n) (by omega)) dM_has_1 gM_67 (by decide +kernel) (by decide) (by decide) rfl (Nat.le_of_ble_eq_true rfl) rfl ⟨rfl, rfl⟩ (fun r1 σ1 hp1 => ?_)
  obtain ⟨e1, e2⟩ := hp1
  subst σ1
  refine v_if_eq (tgt := 20) C dM_has_4 (by decide) (by omega) (fun hc1 => ?_) (fun hc1 => ?_)
  · refine v_iconst C dM_has_20 ?_
    exact v_zret C hRt hLk dM_has_21 (fN_bool (by omega)) ⟨by split <;> omega, rfl⟩
  · refine v_aload_n C dM_has_7 rfl rfl ?_
    refine v_getR (k := 0) (q := 1) C dM_has_8 (by show (0 : Nat) < 18; decide) rfl rfl (by decide) rfl inM lM_7 rfl ?_
    refine v_iload_n C dM_has_11 rfl rfl ?_
    have hb2 := hT (n).toNat
    refine v_zald (k := 1) (v := σ.2 1 (n).toNat) C dM_has_12 (by show (1 : Nat) < 18; decide) rfl rfl (by omega) (by decide) rfl ?_
    refine v_if_eq (tgt := 20) C dM_has_13 (by decide) (by omega) (fun hc3 => ?_) (fun hc3 => ?_)
    · refine v_iconst C dM_has_20 ?_
      exact v_zret C hRt hLk dM_has_21 (fN_bool (by omega)) ⟨by split <;> omega, rfl⟩
    · refine v_iconst C dM_has_16 ?_
      refine v_goto (tgt := 21) C dM_has_17 (by decide) ?_
      exact v_zret C hRt hLk dM_has_21 (fN_bool (by omega)) ⟨by split <;> omega, rfl⟩
set_option maxRecDepth 100000 in
set_option maxHeartbeats 4000000 in
/-- isOver() -/
theorem kM_isOver (l : Launch) (xCl : List vw_C) (D : va_G) (cA : Nat → ClassId) (ad : Nat → Nat) (hJ : f_J (mG xCl D cA ad)) (σ : fS) (hc : -2147483648 ≤ σ.1 0 21 ∧ σ.1 0 21 ≤ 2147483647) (hl : -2147483648 ≤ σ.1 0 20 ∧ σ.1 0 20 ≤ 2147483647) : f_M l (mG xCl D cA ad) mE yM_isOver (Cond.code yM_isOver cM_isOver 1 (some .boolean) :: A9) 0 σ [.ref (ad 0)] (f_QI (fun r σ1 => r = (if σ.1 0 21 = σ.1 0 20 then 1 else 0) ∧ σ1 = σ) (mG xCl D cA ad)) := by
  refine f_enter (by decide +kernel) hJ rfl (Nat.le_of_ble_eq_true rfl) ?_
  intro z hzl hR C hRt hLk hEz
  subst hzl
  refine v_aload_n C dM_isOver_0 rfl rfl ?_
  refine v_getI (k := 0) (q := 21) (v := σ.1 0 21) C dM_isOver_1 (by show (0 : Nat) < 18; decide) rfl rfl (by decide) rfl inM lM_141 rfl rfl ?_
  refine v_aload_n C dM_isOver_4 rfl rfl ?_
  refine v_getI (k := 0) (q := 20) (v := σ.1 0 20) C dM_isOver_5 (by show (0 : Nat) < 18; decide) rfl rfl (by decide) rfl inM lM_144 rfl rfl ?_
  refine v_icmp_ne (tgt := 15) C dM_isOver_8 (by decide) (by omega) (by omega) (fun hc1 => ?_) (fun hc1 => ?_)
  · refine v_iconst C dM_isOver_15 ?_
    exact v_zret C hRt hLk dM_isOver_16 (fN_bool (by omega)) ⟨by split <;> omega, rfl⟩
  · refine v_iconst C dM_isOver_11 ?_
    refine v_goto (tgt := 16) C dM_isOver_12 (by decide) ?_
    exact v_zret C hRt hLk dM_isOver_16 (fN_bool (by omega)) ⟨by split <;> omega, rfl⟩
set_option maxRecDepth 100000 in
set_option maxHeartbeats 4000000 in
/-- put(b) -/
theorem kM_put (l : Launch) (xCl : List vw_C) (D : va_G) (cA : Nat → ClassId) (ad : Nat → Nat) (hJ : f_J (mG xCl D cA ad)) (σ : fS) (v : Int) (hv : -128 ≤ v ∧ v ≤ 127) (hn : 0 ≤ σ.1 0 16 ∧ σ.1 0 16 ≤ 1000000) (hc : σ.1 0 17 = 0 ∨ σ.1 0 17 = 1) (hf : σ.1 0 17 = 0 → σ.1 0 16 < 12000) : f_M l (mG xCl D cA ad) mE yM_put (Cond.code yM_put cM_put 2 none :: A9) 0 σ [.ref (ad 0), .int (fI v)] (f_QV (fun σ1 => σ1 = m_put σ v) (mG xCl D cA ad)) := by
  refine f_enter (by decide +kernel) hJ rfl (Nat.le_of_ble_eq_true rfl) ?_
  intro z hzl hR C hRt hLk hEz
  subst hzl
  refine v_aload_n C dM_put_0 rfl rfl ?_
  refine v_getI (k := 0) (q := 17) (v := σ.1 0 17) C dM_put_1 (by show (0 : Nat) < 18; decide) rfl rfl (by decide) rfl inM lM_78 rfl rfl ?_
  refine v_if_ne (tgt := 18) C dM_put_4 (by decide) (by omega) (fun hc1 => ?_) (fun hc1 => ?_)
  · refine v_aload_n C dM_put_18 rfl rfl ?_
    refine v_dup C dM_put_19 rfl ?_
    refine v_getI (k := 0) (q := 16) (v := σ.1 0 16) C dM_put_20 (by show (0 : Nat) < 18; decide) rfl rfl (by decide) rfl inM lM_82 rfl rfl ?_
    refine v_iconst C dM_put_23 ?_
    refine v_iadd C dM_put_24 ?_
    refine v_putI (k := 0) (q := 16) C dM_put_25 (by show (0 : Nat) < 18; decide) rfl rfl (by decide) rfl inM tyM_ok nmM lM_82 rfl rfl rfl rfl rfl ?_
    exact v_vret C hRt hLk dM_put_28 (by unfold m_put; first | rw [if_pos (by omega)] | rw [if_neg (by omega)])
  · refine v_aload_n C dM_put_7 rfl rfl ?_
    refine v_getR (k := 0) (q := 8) C dM_put_8 (by show (0 : Nat) < 18; decide) rfl rfl (by decide) rfl inM lM_30 rfl ?_
    refine v_aload_n C dM_put_11 rfl rfl ?_
    refine v_getI (k := 0) (q := 16) (v := σ.1 0 16) C dM_put_12 (by show (0 : Nat) < 18; decide) rfl rfl (by decide) rfl inM lM_82 rfl rfl ?_
    refine v_iload_n C dM_put_15 rfl rfl ?_
    refine v_i2bi C dM_put_16 (by omega) ?_
    refine v_bast (k := 7) C dM_put_17 (by show (7 : Nat) < 18; decide) rfl rfl (by omega) (by decide) (by omega) ?_
    refine v_aload_n C dM_put_18 rfl rfl ?_
    refine v_dup C dM_put_19 rfl ?_
    refine v_getI (k := 0) (q := 16) (v := σ.1 0 16) C dM_put_20 (by show (0 : Nat) < 18; decide) rfl rfl (by decide) rfl inM lM_82 rfl rfl ?_
    refine v_iconst C dM_put_23 ?_
    refine v_iadd C dM_put_24 ?_
    refine v_putI (k := 0) (q := 16) C dM_put_25 (by show (0 : Nat) < 18; decide) rfl rfl (by decide) rfl inM tyM_ok nmM lM_82 rfl rfl rfl rfl rfl ?_
    exact v_vret C hRt hLk dM_put_28 (by unfold m_put; first | rw [if_pos (by omega)] | rw [if_neg (by omega)])
set_option maxRecDepth 100000 in
set_option maxHeartbeats 4000000 in
/-- putNumber(v) -/
theorem kM_putNumber (l : Launch) (xCl : List vw_C) (D : va_G) (cA : Nat → ClassId) (ad : Nat → Nat) (hJ : f_J (mG xCl D cA ad)) (σ : fS) (v : Int) (hv : 0 ≤ v ∧ v ≤ 99999) (hn : 0 ≤ σ.1 0 16 ∧ σ.1 0 16 ≤ 900000) (hc : σ.1 0 17 = 0 ∨ σ.1 0 17 = 1) (hf : σ.1 0 17 = 0 → σ.1 0 16 + (dig v).length ≤ 12000) : f_M l (mG xCl D cA ad) mE yM_putNumber (Cond.code yM_putNumber cM_putNumber 3 none :: A9) 1 σ [.ref (ad 0), .int (fI v)] (f_QV (fun σ1 => σ1 = m_puts σ (dig v)) (mG xCl D cA ad)) := by
  refine f_enter (by decide +kernel) hJ rfl (Nat.le_of_ble_eq_true rfl) ?_
  intro z hzl hR C hRt hLk hEz
  subst hzl
  have L0 : ∀ σ1 : fS, σ1 = m_puts σ (dig v) → fv z (mG xCl D cA ad) 3 (f_R z (mG xCl D cA ad) (f_QV (fun σ1 => σ1 = m_puts σ (dig v)) (mG xCl D cA ad))) 0 0 σ1 18 [some (.ref (ad 0)), some (.int (fI v)), some (.int (fI 0))] [] := by
    intro σ1 h1
    refine v_iload_n C dM_putNumber_18 rfl rfl ?_
    refine v_if_le (tgt := 43) C dM_putNumber_19 (by decide) (by omega) (fun hc1 => ?_) (fun hc1 => ?_)
    · exact v_vret C hRt hLk dM_putNumber_43 h1
    · exfalso; omega
  have L1 : ∀ (j : Nat) (p : Int) (pre : List Int), p = 10 ^ j → 1 ≤ p → p ≤ 10000 → dig v = pre ++ dg j v → fv z (mG xCl D cA ad) 3 (f_R z (mG xCl D cA ad) (f_QV (fun σ1 => σ1 = m_puts σ (dig v)) (mG xCl D cA ad))) 0 0 (m_puts σ pre) 18 [some (.ref (ad 0)), some (.int (fI v)), some (.int (fI p))] [] := by
    intro j
    induction j with
    | zero =>
      intro p pre hp h1 h2 hpre
      have hlen := congrArg List.length hpre
      rw [List.length_append, dg_len] at hlen
      have hd1 : 0 ≤ v / p := Int.ediv_nonneg hv.1 (by omega)
      have hd2 : v / p ≤ v := Int.ediv_le_self p hv.1
      have hdl := dig_len v
      have hnx := m_puts_next σ pre
      have hct := m_puts_cnt σ pre
      have hp1 : p = 1 := hp
      refine v_iload_n C dM_putNumber_18 rfl rfl ?_
      refine v_if_le (tgt := 43) C dM_putNumber_19 (by decide) (by omega) (fun hc2 => ?_) (fun hc2 => ?_)
      · exfalso; omega
      · refine v_aload_n C dM_putNumber_22 rfl rfl ?_
        refine v_bipush C dM_putNumber_23 (by decide +kernel) ?_
        refine v_iload_n C dM_putNumber_25 rfl rfl ?_
        refine v_iload_n C dM_putNumber_26 rfl rfl ?_
        refine v_idiv C dM_putNumber_27 (by omega) (by omega) ?_
        refine v_bipush C dM_putNumber_28 (by decide +kernel) ?_
        refine v_irem C dM_putNumber_30 (by omega) (by omega) ?_
        refine v_iadd C dM_putNumber_31 ?_
        refine v_cVV (k := 0) (n := 1) C (mE_ok _) trivial hR (kM_put _ xCl D cA ad hJ (m_puts σ pre) ((48 + ((v / p) % 10))) (by omega) (by omega) (by omega) (by omega)) dM_putNumber_32 (by show (0 : Nat) < 18; decide) rfl rfl gM_85 (by decide +kernel) (by decide) (by decide) rfl (Nat.le_of_ble_eq_true rfl) rfl ⟨rfl, rfl⟩ (fun σ1 hp1 => ?_)
        subst σ1
        refine v_iload_n C dM_putNumber_35 rfl rfl ?_
        refine v_bipush C dM_putNumber_36 (by decide +kernel) ?_
        refine v_idiv C dM_putNumber_38 (by omega) (by omega) ?_
        refine v_top (b := 0) (by omega) ?_
        refine v_istore_n C dM_putNumber_39 rfl (by decide) ?_
        refine v_goto (tgt := 18) C dM_putNumber_40 (by decide) ?_
        exact L0 _ (by rw [hpre, m_puts_app, hp1]; simp [dg, m_puts])
    | succ j ih =>
      intro p pre hp h1 h2 hpre
      have hlen := congrArg List.length hpre
      rw [List.length_append, dg_len] at hlen
      have hd1 : 0 ≤ v / p := Int.ediv_nonneg hv.1 (by omega)
      have hd2 : v / p ≤ v := Int.ediv_le_self p hv.1
      have hdl := dig_len v
      have hnx := m_puts_next σ pre
      have hct := m_puts_cnt σ pre
      have hp1 : p = 10 ^ j * 10 := by rw [hp, Int.pow_succ]
      refine v_iload_n C dM_putNumber_18 rfl rfl ?_
      refine v_if_le (tgt := 43) C dM_putNumber_19 (by decide) (by omega) (fun hc3 => ?_) (fun hc3 => ?_)
      · exfalso; omega
      · refine v_aload_n C dM_putNumber_22 rfl rfl ?_
        refine v_bipush C dM_putNumber_23 (by decide +kernel) ?_
        refine v_iload_n C dM_putNumber_25 rfl rfl ?_
        refine v_iload_n C dM_putNumber_26 rfl rfl ?_
        refine v_idiv C dM_putNumber_27 (by omega) (by omega) ?_
        refine v_bipush C dM_putNumber_28 (by decide +kernel) ?_
        refine v_irem C dM_putNumber_30 (by omega) (by omega) ?_
        refine v_iadd C dM_putNumber_31 ?_
        refine v_cVV (k := 0) (n := 1) C (mE_ok _) trivial hR (kM_put _ xCl D cA ad hJ (m_puts σ pre) ((48 + ((v / p) % 10))) (by omega) (by omega) (by omega) (by omega)) dM_putNumber_32 (by show (0 : Nat) < 18; decide) rfl rfl gM_85 (by decide +kernel) (by decide) (by decide) rfl (Nat.le_of_ble_eq_true rfl) rfl ⟨rfl, rfl⟩ (fun σ1 hp1 => ?_)
        subst σ1
        refine v_iload_n C dM_putNumber_35 rfl rfl ?_
        refine v_bipush C dM_putNumber_36 (by decide +kernel) ?_
        refine v_idiv C dM_putNumber_38 (by omega) (by omega) ?_
        refine v_top (b := 10 ^ j) (by omega) ?_
        refine v_istore_n C dM_putNumber_39 rfl (by decide) ?_
        refine v_goto (tgt := 18) C dM_putNumber_40 (by decide) ?_
        exact v_st (by rw [m_puts_app]; rfl) (ih (10 ^ j) (pre ++ [48 + v / p % 10]) rfl (by omega) (by omega) (by rw [hpre, hp]; simp [dg]))
  have L2 : ∀ (k j : Nat) (p : Int), p = 10 ^ j → 1 ≤ p → j + k = dl v → fv z (mG xCl D cA ad) 3 (f_R z (mG xCl D cA ad) (f_QV (fun σ1 => σ1 = m_puts σ (dig v)) (mG xCl D cA ad))) 0 0 σ 2 [some (.ref (ad 0)), some (.int (fI v)), some (.int (fI p))] [] := by
    intro k
    induction k with
    | zero =>
      intro j p hp h1 hj
      have h4 := dl_4 v
      have hd1 : 0 ≤ v / p := Int.ediv_nonneg hv.1 (by omega)
      have hd2 : v / p ≤ v := Int.ediv_le_self p hv.1
      have hp4 : p ≤ 10000 := by rw [hp]; exact pow10_4 (by omega)
      have hle : v / p ≤ 9 := by rw [hp, show j = dl v by omega]; exact dl_le hv
      refine v_iload_n C dM_putNumber_2 rfl rfl ?_
      refine v_iload_n C dM_putNumber_3 rfl rfl ?_
      refine v_idiv C dM_putNumber_4 (by omega) (by omega) ?_
      refine v_bipush C dM_putNumber_5 (by decide +kernel) ?_
      refine v_icmp_le (tgt := 18) C dM_putNumber_7 (by decide) (by omega) (by omega) (fun hc4 => ?_) (fun hc4 => ?_)
      · exact L1 j p [] hp h1 hp4 (by rw [show j = dl v by omega]; rfl)
      · exfalso; omega
    | succ k ih =>
      intro j p hp h1 hj
      have h4 := dl_4 v
      have hd1 : 0 ≤ v / p := Int.ediv_nonneg hv.1 (by omega)
      have hd2 : v / p ≤ v := Int.ediv_le_self p hv.1
      have hp4 : p ≤ 10000 := by rw [hp]; exact pow10_4 (by omega)
      have hgt : 9 < v / p := by rw [hp]; exact dl_gt (by omega)
      refine v_iload_n C dM_putNumber_2 rfl rfl ?_
      refine v_iload_n C dM_putNumber_3 rfl rfl ?_
      refine v_idiv C dM_putNumber_4 (by omega) (by omega) ?_
      refine v_bipush C dM_putNumber_5 (by decide +kernel) ?_
      refine v_icmp_le (tgt := 18) C dM_putNumber_7 (by decide) (by omega) (by omega) (fun hc5 => ?_) (fun hc5 => ?_)
      · exfalso; omega
      · refine v_iload_n C dM_putNumber_10 rfl rfl ?_
        refine v_bipush C dM_putNumber_11 (by decide +kernel) ?_
        refine v_imul C dM_putNumber_13 ?_
        refine v_istore_n C dM_putNumber_14 rfl (by decide) ?_
        refine v_goto (tgt := 2) C dM_putNumber_15 (by decide) ?_
        exact ih (j + 1) (p * 10) (by rw [hp, Int.pow_succ]) (by omega) (by omega)
  refine v_iconst C dM_putNumber_0 ?_
  refine v_istore_n C dM_putNumber_1 rfl (by decide) ?_
  exact L2 (dl v) 0 1 rfl (by omega) (by omega)
/-- the line of a letter and a number -/
def m_tell (c v : Int) : List Int := [c, 32] ++ dig v ++ [10]
theorem m_tell_len (c v : Int) : 4 ≤ (m_tell c v).length ∧ (m_tell c v).length ≤ 8 := by
  have := dig_len v
  unfold m_tell
  simp
  omega
/-- a row of object n -/
def m_row (σ : fS) (n : Int) : List Int := dig n ++ [32] ++ (if σ.2 1 n.toNat = 1 then dig (σ.2 13 n.toNat) else [45]) ++ [10]
theorem m_row_len (σ : fS) (n : Int) : 4 ≤ (m_row σ n).length ∧ (m_row σ n).length ≤ 12 := by
  have h1 := dig_len n
  have h2 := dig_len (σ.2 13 n.toNat)
  unfold m_row
  split <;> simp <;> omega
theorem m_row_eq (σ : fS) (n : Int) (h : 0 ≤ σ.2 1 n.toNat ∧ σ.2 1 n.toNat ≤ 1) : (σ.2 1 n.toNat = 1 ∧ (m_row σ n).length = (dig n).length + 2 + (dig (σ.2 13 n.toNat)).length) ∨ (σ.2 1 n.toNat = 0 ∧ (m_row σ n).length = (dig n).length + 3) := by
  unfold m_row
  by_cases h1 : σ.2 1 n.toNat = 1
  · refine Or.inl ⟨h1, ?_⟩
    rw [if_pos h1]
    simp
    omega
  · refine Or.inr ⟨by omega, ?_⟩
    rw [if_neg h1]
    simp
set_option maxRecDepth 100000 in
set_option maxHeartbeats 4000000 in
/-- putTold(letter, v) -/
theorem kM_putTold (l : Launch) (xCl : List vw_C) (D : va_G) (cA : Nat → ClassId) (ad : Nat → Nat) (hJ : f_J (mG xCl D cA ad)) (σ : fS) (c v : Int) (hb : -128 ≤ c ∧ c ≤ 127) (hv : 0 ≤ v ∧ v ≤ 99999) (hn : 0 ≤ σ.1 0 16 ∧ σ.1 0 16 ≤ 800000) (hc : σ.1 0 17 = 0 ∨ σ.1 0 17 = 1) (hf : σ.1 0 17 = 0 → σ.1 0 16 + ((dig v).length + 3) ≤ 12000) : f_M l (mG xCl D cA ad) mE yM_putTold (Cond.code yM_putTold cM_putTold 3 none :: A9) 2 σ [.ref (ad 0), .int (fI c), .int (fI v)] (f_QV (fun σ1 => σ1 = m_puts σ (m_tell c v)) (mG xCl D cA ad)) := by
  refine f_enter (by decide +kernel) hJ rfl (Nat.le_of_ble_eq_true rfl) ?_
  intro z hzl hR C hRt hLk hEz
  subst hzl
  refine v_st (σ1 := m_puts σ []) rfl ?_
  have hdv := dig_len v
  refine v_aload_n C dM_putTold_0 rfl rfl ?_
  refine v_iload_n C dM_putTold_1 rfl rfl ?_
  have hx1 := m_puts_next σ ([])
  try simp only [List.length_append, List.length_cons, List.length_nil, List.length_map, List.length_range] at hx1
  have hy2 := m_puts_cnt σ ([])
  refine v_cVV (k := 0) (n := 1) C (mE_ok _) trivial hR (kM_put _ xCl D cA ad hJ (m_puts σ ([])) (c) (by omega) (by omega) (by omega) (by omega)) dM_putTold_2 (by show (0 : Nat) < 18; decide) rfl rfl gM_85 (by decide +kernel) (by decide) (by decide) rfl (Nat.le_of_ble_eq_true rfl) rfl ⟨rfl, rfl⟩ (fun σ1 hp1 => ?_)
  subst σ1
  refine v_st (σ1 := m_puts σ ([c])) (rfl) ?_
  refine v_aload_n C dM_putTold_5 rfl rfl ?_
  refine v_bipush C dM_putTold_6 (by decide +kernel) ?_
  have hx3 := m_puts_next σ ([c])
  try simp only [List.length_append, List.length_cons, List.length_nil, List.length_map, List.length_range] at hx3
  have hy4 := m_puts_cnt σ ([c])
  refine v_cVV (k := 0) (n := 1) C (mE_ok _) trivial hR (kM_put _ xCl D cA ad hJ (m_puts σ ([c])) (32) (by omega) (by omega) (by omega) (by omega)) dM_putTold_8 (by show (0 : Nat) < 18; decide) rfl rfl gM_85 (by decide +kernel) (by decide) (by decide) rfl (Nat.le_of_ble_eq_true rfl) rfl ⟨rfl, rfl⟩ (fun σ1 hp1 => ?_)
  subst σ1
  refine v_st (σ1 := m_puts σ ([c] ++ [32])) (m_puts_snoc _ _ _) ?_
  refine v_aload_n C dM_putTold_11 rfl rfl ?_
  refine v_iload_n C dM_putTold_12 rfl rfl ?_
  have hx5 := m_puts_next σ ([c] ++ [32])
  try simp only [List.length_append, List.length_cons, List.length_nil, List.length_map, List.length_range] at hx5
  have hy6 := m_puts_cnt σ ([c] ++ [32])
  have hw7 := dig_len (v)
  refine v_cVV (k := 0) (n := 1) C (mE_ok _) trivial hR (kM_putNumber _ xCl D cA ad hJ (m_puts σ ([c] ++ [32])) (v) (by omega) (by omega) (by omega) (by omega)) dM_putTold_13 (by show (0 : Nat) < 18; decide) rfl rfl gM_89 (by decide +kernel) (by decide) (by decide) rfl (Nat.le_of_ble_eq_true rfl) rfl ⟨rfl, rfl⟩ (fun σ1 hp1 => ?_)
  subst σ1
  refine v_st (σ1 := m_puts σ ([c] ++ [32] ++ dig (v))) ((m_puts_app _ _ _).symm) ?_
  refine v_aload_n C dM_putTold_16 rfl rfl ?_
  refine v_bipush C dM_putTold_17 (by decide +kernel) ?_
  have hx8 := m_puts_next σ ([c] ++ [32] ++ dig (v))
  try simp only [List.length_append, List.length_cons, List.length_nil, List.length_map, List.length_range] at hx8
  have hy9 := m_puts_cnt σ ([c] ++ [32] ++ dig (v))
  refine v_cVV (k := 0) (n := 1) C (mE_ok _) trivial hR (kM_put _ xCl D cA ad hJ (m_puts σ ([c] ++ [32] ++ dig (v))) (10) (by omega) (by omega) (by omega) (by omega)) dM_putTold_19 (by show (0 : Nat) < 18; decide) rfl rfl gM_85 (by decide +kernel) (by decide) (by decide) rfl (Nat.le_of_ble_eq_true rfl) rfl ⟨rfl, rfl⟩ (fun σ1 hp1 => ?_)
  subst σ1
  refine v_st (σ1 := m_puts σ ([c] ++ [32] ++ dig (v) ++ [10])) (m_puts_snoc _ _ _) ?_
  exact v_vret C hRt hLk dM_putTold_22 (by unfold m_tell; simp)
set_option maxRecDepth 100000 in
set_option maxHeartbeats 4000000 in
/-- putRow(n) -/
theorem kM_putRow (l : Launch) (xCl : List vw_C) (D : va_G) (cA : Nat → ClassId) (ad : Nat → Nat) (hJ : f_J (mG xCl D cA ad)) (σ : fS) (n : Int) (hn1 : 1 ≤ n ∧ n ≤ 40) (hT : ∀ i, 0 ≤ σ.2 1 i ∧ σ.2 1 i ≤ 1) (hA : ∀ i, 0 ≤ σ.2 13 i ∧ σ.2 13 i ≤ 99999) (hn : 0 ≤ σ.1 0 16 ∧ σ.1 0 16 ≤ 800000) (hc : σ.1 0 17 = 0 ∨ σ.1 0 17 = 1) (hf : σ.1 0 17 = 0 → σ.1 0 16 + (m_row σ n).length ≤ 12000) : f_M l (mG xCl D cA ad) mE yM_putRow (Cond.code yM_putRow cM_putRow 2 none :: A9) 2 σ [.ref (ad 0), .int (fI n)] (f_QV (fun σ1 => σ1 = m_puts σ (m_row σ n)) (mG xCl D cA ad)) := by
  refine f_enter (by decide +kernel) hJ rfl (Nat.le_of_ble_eq_true rfl) ?_
  intro z hzl hR C hRt hLk hEz
  subst hzl
  refine v_st (σ1 := m_puts σ []) rfl ?_
  have hdn := dig_len n
  have hdr := dig_len (σ.2 13 n.toNat)
  have hT1 := hT n.toNat
  have hA1 := hA n.toNat
  have hrl := m_row_eq σ n hT1
  refine v_aload_n C dM_putRow_0 rfl rfl ?_
  refine v_iload_n C dM_putRow_1 rfl rfl ?_
  have hx1 := m_puts_next σ ([])
  try simp only [List.length_append, List.length_cons, List.length_nil, List.length_map, List.length_range] at hx1
  have hy2 := m_puts_cnt σ ([])
  have hw3 := dig_len (n)
  refine v_cVV (k := 0) (n := 1) C (mE_ok _) trivial hR (kM_putNumber _ xCl D cA ad hJ (m_puts σ ([])) (n) (by omega) (by omega) (by omega) (by omega)) dM_putRow_2 (by show (0 : Nat) < 18; decide) rfl rfl gM_89 (by decide +kernel) (by decide) (by decide) rfl (Nat.le_of_ble_eq_true rfl) rfl ⟨rfl, rfl⟩ (fun σ1 hp1 => ?_)
  subst σ1
  refine v_st (σ1 := m_puts σ (dig (n))) (rfl) ?_
  refine v_aload_n C dM_putRow_5 rfl rfl ?_
  refine v_bipush C dM_putRow_6 (by decide +kernel) ?_
  have hx4 := m_puts_next σ (dig (n))
  try simp only [List.length_append, List.length_cons, List.length_nil, List.length_map, List.length_range] at hx4
  have hy5 := m_puts_cnt σ (dig (n))
  refine v_cVV (k := 0) (n := 1) C (mE_ok _) trivial hR (kM_put _ xCl D cA ad hJ (m_puts σ (dig (n))) (32) (by omega) (by omega) (by omega) (by omega)) dM_putRow_8 (by show (0 : Nat) < 18; decide) rfl rfl gM_85 (by decide +kernel) (by decide) (by decide) rfl (Nat.le_of_ble_eq_true rfl) rfl ⟨rfl, rfl⟩ (fun σ1 hp1 => ?_)
  subst σ1
  refine v_st (σ1 := m_puts σ (dig (n) ++ [32])) (m_puts_snoc _ _ _) ?_
  refine v_aload_n C dM_putRow_11 rfl rfl ?_
  refine v_getR (k := 0) (q := 1) C dM_putRow_12 (by show (0 : Nat) < 18; decide) rfl rfl (by decide) rfl inM lM_7 rfl ?_
  refine v_iload_n C dM_putRow_15 rfl rfl ?_
  refine v_zald (k := 1) (v := σ.2 1 (n).toNat) C dM_putRow_16 (by show (1 : Nat) < 18; decide) rfl rfl (by omega) (by decide) (m_puts_2 _ _ _ _ (by decide)) ?_
  refine v_if_eq (tgt := 33) C dM_putRow_17 (by decide) (by omega) (fun hc6 => ?_) (fun hc6 => ?_)
  · refine v_aload_n C dM_putRow_33 rfl rfl ?_
    refine v_bipush C dM_putRow_34 (by decide +kernel) ?_
    have hx7 := m_puts_next σ (dig (n) ++ [32])
    try simp only [List.length_append, List.length_cons, List.length_nil, List.length_map, List.length_range] at hx7
    have hy8 := m_puts_cnt σ (dig (n) ++ [32])
    refine v_cVV (k := 0) (n := 1) C (mE_ok _) trivial hR (kM_put _ xCl D cA ad hJ (m_puts σ (dig (n) ++ [32])) (45) (by omega) (by omega) (by omega) (by omega)) dM_putRow_36 (by show (0 : Nat) < 18; decide) rfl rfl gM_85 (by decide +kernel) (by decide) (by decide) rfl (Nat.le_of_ble_eq_true rfl) rfl ⟨rfl, rfl⟩ (fun σ1 hp1 => ?_)
    subst σ1
    refine v_st (σ1 := m_puts σ (dig (n) ++ [32] ++ [45])) (m_puts_snoc _ _ _) ?_
    refine v_aload_n C dM_putRow_39 rfl rfl ?_
    refine v_bipush C dM_putRow_40 (by decide +kernel) ?_
    have hx9 := m_puts_next σ (dig (n) ++ [32] ++ [45])
    try simp only [List.length_append, List.length_cons, List.length_nil, List.length_map, List.length_range] at hx9
    have hy10 := m_puts_cnt σ (dig (n) ++ [32] ++ [45])
    refine v_cVV (k := 0) (n := 1) C (mE_ok _) trivial hR (kM_put _ xCl D cA ad hJ (m_puts σ (dig (n) ++ [32] ++ [45])) (10) (by omega) (by omega) (by omega) (by omega)) dM_putRow_42 (by show (0 : Nat) < 18; decide) rfl rfl gM_85 (by decide +kernel) (by decide) (by decide) rfl (Nat.le_of_ble_eq_true rfl) rfl ⟨rfl, rfl⟩ (fun σ1 hp1 => ?_)
    subst σ1
    refine v_st (σ1 := m_puts σ (dig (n) ++ [32] ++ [45] ++ [10])) (m_puts_snoc _ _ _) ?_
    exact v_vret C hRt hLk dM_putRow_45 (by unfold m_row; first | (rw [if_pos (by omega)]; done) | (rw [if_pos (by omega)]; simp; done) | (rw [if_neg (by omega)]; done) | (rw [if_neg (by omega)]; simp; done))
  · refine v_aload_n C dM_putRow_20 rfl rfl ?_
    refine v_aload_n C dM_putRow_21 rfl rfl ?_
    refine v_getR (k := 0) (q := 18) C dM_putRow_22 (by show (0 : Nat) < 18; decide) rfl rfl (by decide) rfl inM lM_48 rfl ?_
    refine v_iload_n C dM_putRow_25 rfl rfl ?_
    refine v_iald (k := 13) (v := σ.2 13 (n).toNat) C dM_putRow_26 (by show (13 : Nat) < 18; decide) rfl rfl (by omega) (by decide) (m_puts_2 _ _ _ _ (by decide)) ?_
    have hx11 := m_puts_next σ (dig (n) ++ [32])
    try simp only [List.length_append, List.length_cons, List.length_nil, List.length_map, List.length_range] at hx11
    have hy12 := m_puts_cnt σ (dig (n) ++ [32])
    have hw13 := dig_len (σ.2 13 (n).toNat)
    refine v_cVV (k := 0) (n := 1) C (mE_ok _) trivial hR (kM_putNumber _ xCl D cA ad hJ (m_puts σ (dig (n) ++ [32])) (σ.2 13 (n).toNat) (by omega) (by omega) (by omega) (by omega)) dM_putRow_27 (by show (0 : Nat) < 18; decide) rfl rfl gM_89 (by decide +kernel) (by decide) (by decide) rfl (Nat.le_of_ble_eq_true rfl) rfl ⟨rfl, rfl⟩ (fun σ1 hp1 => ?_)
    subst σ1
    refine v_st (σ1 := m_puts σ (dig (n) ++ [32] ++ dig (σ.2 13 (n).toNat))) ((m_puts_app _ _ _).symm) ?_
    refine v_goto (tgt := 39) C dM_putRow_30 (by decide) ?_
    refine v_aload_n C dM_putRow_39 rfl rfl ?_
    refine v_bipush C dM_putRow_40 (by decide +kernel) ?_
    have hx14 := m_puts_next σ (dig (n) ++ [32] ++ dig (σ.2 13 (n).toNat))
    try simp only [List.length_append, List.length_cons, List.length_nil, List.length_map, List.length_range] at hx14
    have hy15 := m_puts_cnt σ (dig (n) ++ [32] ++ dig (σ.2 13 (n).toNat))
    refine v_cVV (k := 0) (n := 1) C (mE_ok _) trivial hR (kM_put _ xCl D cA ad hJ (m_puts σ (dig (n) ++ [32] ++ dig (σ.2 13 (n).toNat))) (10) (by omega) (by omega) (by omega) (by omega)) dM_putRow_42 (by show (0 : Nat) < 18; decide) rfl rfl gM_85 (by decide +kernel) (by decide) (by decide) rfl (Nat.le_of_ble_eq_true rfl) rfl ⟨rfl, rfl⟩ (fun σ1 hp1 => ?_)
    subst σ1
    refine v_st (σ1 := m_puts σ (dig (n) ++ [32] ++ dig (σ.2 13 (n).toNat) ++ [10])) (m_puts_snoc _ _ _) ?_
    exact v_vret C hRt hLk dM_putRow_45 (by unfold m_row; first | (rw [if_pos (by omega)]; done) | (rw [if_pos (by omega)]; simp; done) | (rw [if_neg (by omega)]; done) | (rw [if_neg (by omega)]; simp; done))
end
section
/-- contracts may be weakened -/
theorem f_weakI {l : Launch} {G : fG} {E : Nat → State → Prop} {y : MethodName} {ws : List Cond} {d : Nat} {σ : fS} {av : List Value} {p q : Int → fS → Prop} (h : f_M l G E y ws d σ av (f_QI p G)) (hpq : ∀ r σ1, p r σ1 → q r σ1) : f_M l G E y ws d σ av (f_QI q G) := by
  intro sz p e ha hc hk s m args below hf happ hP hK
  obtain ⟨n, o, h1, h2, h3, h4⟩ := h sz p e ha hc hk s m args below hf happ hP hK
  obtain ⟨⟨⟨r, u, g1, ⟨g2, g3⟩, g4⟩, g5⟩, g6⟩ := h4
  exact ⟨n, o, h1, h2, h3, ⟨⟨⟨r, u, g1, ⟨g2, hpq _ _ g3⟩, g4⟩, g5⟩, g6⟩⟩
def m_isB (σ : fS) (n i : Int) : Prop := ((1 ≤ n ∧ n ≤ 40) ∧ σ.2 1 n.toNat = 1) ∧ 0 ≤ i ∧ i < σ.2 5 n.toNat
theorem kM_isObject2 (l : Launch) (xCl : List vw_C) (D : va_G) (cA : Nat → ClassId) (ad : Nat → Nat) (hJ : f_J (mG xCl D cA ad)) (σ : fS) (n : Int) (hn : -2147483648 ≤ n ∧ n ≤ 2147483647) : f_M l (mG xCl D cA ad) mE yM_isObject (Cond.code yM_isObject cM_isObject 1 (some .boolean) :: A9) 0 σ [.int (fI n)] (f_QI (fun r σ1 => ((1 ≤ n ∧ n ≤ 40) ∧ r = 1 ∧ σ1 = σ) ∨ (¬ (1 ≤ n ∧ n ≤ 40) ∧ r = 0 ∧ σ1 = σ)) (mG xCl D cA ad)) :=
  f_weakI (kM_isObject l xCl D cA ad hJ σ n hn) (fun r σ1 h => by
    obtain ⟨h1, h2⟩ := h
    by_cases hc : 1 ≤ n ∧ n ≤ 40
    · rw [if_pos hc] at h1; exact Or.inl ⟨hc, h1, h2⟩
    · rw [if_neg hc] at h1; exact Or.inr ⟨hc, h1, h2⟩)
theorem kM_has2 (l : Launch) (xCl : List vw_C) (D : va_G) (cA : Nat → ClassId) (ad : Nat → Nat) (hJ : f_J (mG xCl D cA ad)) (σ : fS) (n : Int) (hn : -2147483648 ≤ n ∧ n ≤ 2147483647) (h1 : ∀ i, 0 ≤ σ.2 1 i ∧ σ.2 1 i ≤ 1) : f_M l (mG xCl D cA ad) mE yM_has (Cond.code yM_has cM_has 2 (some .boolean) :: A9) 1 σ [.ref (ad 0), .int (fI n)] (f_QI (fun r σ1 => (((1 ≤ n ∧ n ≤ 40) ∧ σ.2 1 n.toNat = 1) ∧ r = 1 ∧ σ1 = σ) ∨ (¬ ((1 ≤ n ∧ n ≤ 40) ∧ σ.2 1 n.toNat = 1) ∧ r = 0 ∧ σ1 = σ)) (mG xCl D cA ad)) :=
  f_weakI (kM_has l xCl D cA ad hJ σ n hn h1) (fun r σ1 h => by
    obtain ⟨h1, h2⟩ := h
    by_cases hc : (1 ≤ n ∧ n ≤ 40) ∧ σ.2 1 n.toNat = 1
    · rw [if_pos hc] at h1; exact Or.inl ⟨hc, h1, h2⟩
    · rw [if_neg hc] at h1; exact Or.inr ⟨hc, h1, h2⟩)
set_option maxRecDepth 100000 in
set_option maxHeartbeats 4000000 in
/-- isMeant(n, whole) -/
theorem kM_isMeant (l : Launch) (xCl : List vw_C) (D : va_G) (cA : Nat → ClassId) (ad : Nat → Nat) (hJ : f_J (mG xCl D cA ad)) (σ : fS) (n w : Int) (hn : 1 ≤ n ∧ n ≤ 40) (hw : w = 0 ∨ w = 1) (h1 : ∀ i, 0 ≤ σ.2 1 i ∧ σ.2 1 i ≤ 1) (h3 : ∀ i, 0 ≤ σ.2 3 i ∧ σ.2 3 i ≤ 1) : f_M l (mG xCl D cA ad) mE yM_isMeant (Cond.code yM_isMeant cM_isMeant 3 (some .boolean) :: A9) 0 σ [.ref (ad 0), .int (fI n), .int (fI w)] (f_QI (fun r σ1 => (w = 1 ∧ r = σ.2 1 n.toNat ∧ σ1 = σ) ∨ (w = 0 ∧ r = σ.2 3 n.toNat ∧ σ1 = σ)) (mG xCl D cA ad)) := by
  refine f_enter (by decide +kernel) hJ rfl (Nat.le_of_ble_eq_true rfl) ?_
  intro z hzl hR C hRt hLk hEz
  subst hzl
  refine v_iload_n C dM_isMeant_0 rfl rfl ?_
  refine v_if_eq (tgt := 13) C dM_isMeant_1 (by decide) (by omega) (fun hc1 => ?_) (fun hc1 => ?_)
  · refine v_aload_n C dM_isMeant_13 rfl rfl ?_
    refine v_getR (k := 0) (q := 3) C dM_isMeant_14 (by show (0 : Nat) < 18; decide) rfl rfl (by decide) rfl inM lM_16 rfl ?_
    refine v_iload_n C dM_isMeant_17 rfl rfl ?_
    have hb2 := h3 (n).toNat
    refine v_zald (k := 3) (v := σ.2 3 (n).toNat) C dM_isMeant_18 (by show (3 : Nat) < 18; decide) rfl rfl (by omega) (by decide) rfl ?_
    exact v_zret C hRt hLk dM_isMeant_19 (fN_bool (by omega)) (by first | exact Or.inl ⟨by omega, rfl, rfl⟩ | exact Or.inr ⟨by omega, rfl, rfl⟩)
  · refine v_aload_n C dM_isMeant_4 rfl rfl ?_
    refine v_getR (k := 0) (q := 1) C dM_isMeant_5 (by show (0 : Nat) < 18; decide) rfl rfl (by decide) rfl inM lM_7 rfl ?_
    refine v_iload_n C dM_isMeant_8 rfl rfl ?_
    have hb3 := h1 (n).toNat
    refine v_zald (k := 1) (v := σ.2 1 (n).toNat) C dM_isMeant_9 (by show (1 : Nat) < 18; decide) rfl rfl (by omega) (by decide) rfl ?_
    refine v_goto (tgt := 19) C dM_isMeant_10 (by decide) ?_
    exact v_zret C hRt hLk dM_isMeant_19 (fN_bool (by omega)) (by first | exact Or.inl ⟨by omega, rfl, rfl⟩ | exact Or.inr ⟨by omega, rfl, rfl⟩)
set_option maxRecDepth 100000 in
set_option maxHeartbeats 4000000 in
/-- wrong(at) -/
theorem kM_wrong (l : Launch) (xCl : List vw_C) (D : va_G) (cA : Nat → ClassId) (ad : Nat → Nat) (hJ : f_J (mG xCl D cA ad)) (σ : fS) (a : Int) : f_M l (mG xCl D cA ad) mE yM_wrong (Cond.code yM_wrong cM_wrong 2 (some .boolean) :: A9) 0 σ [.ref (ad 0), .int (fI a)] (f_QI (fun r σ1 => r = 0 ∧ σ1 = f_p1 σ 0 23 a) (mG xCl D cA ad)) := by
  refine f_enter (by decide +kernel) hJ rfl (Nat.le_of_ble_eq_true rfl) ?_
  intro z hzl hR C hRt hLk hEz
  subst hzl
  refine v_aload_n C dM_wrong_0 rfl rfl ?_
  refine v_iload_n C dM_wrong_1 rfl rfl ?_
  refine v_putI (k := 0) (q := 23) C dM_wrong_2 (by show (0 : Nat) < 18; decide) rfl rfl (by decide) rfl inM tyM_ok nmM lM_166 rfl rfl rfl rfl rfl ?_
  refine v_iconst C dM_wrong_5 ?_
  exact v_zret C hRt hLk dM_wrong_6 (fN_bool (by omega)) ⟨rfl, rfl⟩
set_option maxRecDepth 100000 in
set_option maxHeartbeats 4000000 in
/-- isRevision(r) -/
theorem kM_isRevision (l : Launch) (xCl : List vw_C) (D : va_G) (cA : Nat → ClassId) (ad : Nat → Nat) (hJ : f_J (mG xCl D cA ad)) (σ : fS) (a : Int) (ha : -2147483648 ≤ a ∧ a ≤ 2147483647) (hr : 0 ≤ σ.1 0 10 ∧ σ.1 0 10 ≤ 60) : f_M l (mG xCl D cA ad) mE yM_isRevision (Cond.code yM_isRevision cM_isRevision 2 (some .boolean) :: A9) 0 σ [.ref (ad 0), .int (fI a)] (f_QI (fun r σ1 => ((0 ≤ a ∧ a < σ.1 0 10) ∧ r = 1 ∧ σ1 = f_p1 σ 0 0 0) ∨ (¬ (0 ≤ a ∧ a < σ.1 0 10) ∧ r = 0 ∧ σ1 = f_p1 σ 0 0 1)) (mG xCl D cA ad)) := by
  refine f_enter (by decide +kernel) hJ rfl (Nat.le_of_ble_eq_true rfl) ?_
  intro z hzl hR C hRt hLk hEz
  subst hzl
  refine v_aload_n C dM_isRevision_0 rfl rfl ?_
  refine v_iload_n C dM_isRevision_1 rfl rfl ?_
  refine v_if_lt (tgt := 13) C dM_isRevision_2 (by decide) (by omega) (fun hc1 => ?_) (fun hc1 => ?_)
  · refine v_iconst C dM_isRevision_13 ?_
    refine v_goto (tgt := 18) C dM_isRevision_14 (by decide) ?_
    refine v_putI (k := 0) (q := 0) C dM_isRevision_18 (by show (0 : Nat) < 18; decide) rfl rfl (by decide) rfl inM tyM_ok nmM lM_63 rfl rfl rfl rfl rfl ?_
    refine v_aload_n C dM_isRevision_21 rfl rfl ?_
    refine v_getI (k := 0) (q := 0) (v := 1) C dM_isRevision_22 (by show (0 : Nat) < 18; decide) rfl rfl (by decide) rfl inM lM_63 rfl rfl ?_
    refine v_if_ne (tgt := 32) C dM_isRevision_25 (by decide) (by omega) (fun hc2 => ?_) (fun hc2 => ?_)
    · refine v_iconst C dM_isRevision_32 ?_
      exact v_zret C hRt hLk dM_isRevision_33 (fN_bool (by omega)) (by first | exact Or.inl ⟨by omega, rfl, rfl⟩ | exact Or.inr ⟨by omega, rfl, rfl⟩)
    · exfalso; omega
  · refine v_iload_n C dM_isRevision_5 rfl rfl ?_
    refine v_aload_n C dM_isRevision_6 rfl rfl ?_
    refine v_getI (k := 0) (q := 10) (v := σ.1 0 10) C dM_isRevision_7 (by show (0 : Nat) < 18; decide) rfl rfl (by decide) rfl inM lM_110 rfl rfl ?_
    refine v_icmp_lt (tgt := 17) C dM_isRevision_10 (by decide) (by omega) (by omega) (fun hc3 => ?_) (fun hc3 => ?_)
    · refine v_iconst C dM_isRevision_17 ?_
      refine v_putI (k := 0) (q := 0) C dM_isRevision_18 (by show (0 : Nat) < 18; decide) rfl rfl (by decide) rfl inM tyM_ok nmM lM_63 rfl rfl rfl rfl rfl ?_
      refine v_aload_n C dM_isRevision_21 rfl rfl ?_
      refine v_getI (k := 0) (q := 0) (v := 0) C dM_isRevision_22 (by show (0 : Nat) < 18; decide) rfl rfl (by decide) rfl inM lM_63 rfl rfl ?_
      refine v_if_ne (tgt := 32) C dM_isRevision_25 (by decide) (by omega) (fun hc4 => ?_) (fun hc4 => ?_)
      · exfalso; omega
      · refine v_iconst C dM_isRevision_28 ?_
        refine v_goto (tgt := 33) C dM_isRevision_29 (by decide) ?_
        exact v_zret C hRt hLk dM_isRevision_33 (fN_bool (by omega)) (by first | exact Or.inl ⟨by omega, rfl, rfl⟩ | exact Or.inr ⟨by omega, rfl, rfl⟩)
    · refine v_iconst C dM_isRevision_13 ?_
      refine v_goto (tgt := 18) C dM_isRevision_14 (by decide) ?_
      refine v_putI (k := 0) (q := 0) C dM_isRevision_18 (by show (0 : Nat) < 18; decide) rfl rfl (by decide) rfl inM tyM_ok nmM lM_63 rfl rfl rfl rfl rfl ?_
      refine v_aload_n C dM_isRevision_21 rfl rfl ?_
      refine v_getI (k := 0) (q := 0) (v := 1) C dM_isRevision_22 (by show (0 : Nat) < 18; decide) rfl rfl (by decide) rfl inM lM_63 rfl rfl ?_
      refine v_if_ne (tgt := 32) C dM_isRevision_25 (by decide) (by omega) (fun hc5 => ?_) (fun hc5 => ?_)
      · refine v_iconst C dM_isRevision_32 ?_
        exact v_zret C hRt hLk dM_isRevision_33 (fN_bool (by omega)) (by first | exact Or.inl ⟨by omega, rfl, rfl⟩ | exact Or.inr ⟨by omega, rfl, rfl⟩)
      · exfalso; omega
set_option maxRecDepth 100000 in
set_option maxHeartbeats 4000000 in
/-- isByte(n, i) -/
theorem kM_isByte (l : Launch) (xCl : List vw_C) (D : va_G) (cA : Nat → ClassId) (ad : Nat → Nat) (hJ : f_J (mG xCl D cA ad)) (σ : fS) (n i : Int) (hn : -2147483648 ≤ n ∧ n ≤ 2147483647) (hi : -2147483648 ≤ i ∧ i ≤ 2147483647) (h1 : ∀ i, 0 ≤ σ.2 1 i ∧ σ.2 1 i ≤ 1) (h5 : ∀ i, 0 ≤ σ.2 5 i ∧ σ.2 5 i ≤ 120) : f_M l (mG xCl D cA ad) mE yM_isByte (Cond.code yM_isByte cM_isByte 3 (some .boolean) :: A9) 2 σ [.ref (ad 0), .int (fI n), .int (fI i)] (f_QI (fun r σ1 => (m_isB σ n i ∧ r = 1 ∧ σ1 = f_p1 σ 0 0 0) ∨ (¬ m_isB σ n i ∧ r = 0 ∧ σ1 = f_p1 σ 0 0 1)) (mG xCl D cA ad)) := by
  refine f_enter (by decide +kernel) hJ rfl (Nat.le_of_ble_eq_true rfl) ?_
  intro z hzl hR C hRt hLk hEz
  subst hzl
  refine v_aload_n C dM_isByte_0 rfl rfl ?_
  refine v_aload_n C dM_isByte_1 rfl rfl ?_
  refine v_iload_n C dM_isByte_2 rfl rfl ?_
  refine v_cVI (k := 0) (n := 1) C (mE_ok _) trivial hR (kM_has2 _ xCl D cA ad hJ _ (n) (by omega) h1) dM_isByte_3 (by show (0 : Nat) < 18; decide) rfl rfl gM_71 (by decide +kernel) (by decide) (by decide) rfl (Nat.le_of_ble_eq_true rfl) rfl ⟨rfl, rfl⟩ (fun r1 σ1 hp1 => ?_)
  rcases hp1 with ⟨hq, rfl, e2⟩ | ⟨hq, rfl, e2⟩
  · subst σ1
    refine v_if_eq (tgt := 23) C dM_isByte_6 (by decide) (by omega) (fun hc1 => ?_) (fun hc1 => ?_)
    · exfalso; omega
    · refine v_iload_n C dM_isByte_9 rfl rfl ?_
      refine v_if_lt (tgt := 23) C dM_isByte_10 (by decide) (by omega) (fun hc2 => ?_) (fun hc2 => ?_)
      · refine v_iconst C dM_isByte_23 ?_
        refine v_goto (tgt := 28) C dM_isByte_24 (by decide) ?_
        refine v_putI (k := 0) (q := 0) C dM_isByte_28 (by show (0 : Nat) < 18; decide) rfl rfl (by decide) rfl inM tyM_ok nmM lM_63 rfl rfl rfl rfl rfl ?_
        refine v_aload_n C dM_isByte_31 rfl rfl ?_
        refine v_getI (k := 0) (q := 0) (v := 1) C dM_isByte_32 (by show (0 : Nat) < 18; decide) rfl rfl (by decide) rfl inM lM_63 rfl rfl ?_
        refine v_if_ne (tgt := 42) C dM_isByte_35 (by decide) (by omega) (fun hc3 => ?_) (fun hc3 => ?_)
        · refine v_iconst C dM_isByte_42 ?_
          exact v_zret C hRt hLk dM_isByte_43 (fN_bool (by omega)) (by unfold m_isB; first | exact Or.inl ⟨by omega, rfl, rfl⟩ | exact Or.inr ⟨by omega, rfl, rfl⟩)
        · exfalso; omega
      · refine v_iload_n C dM_isByte_13 rfl rfl ?_
        refine v_aload_n C dM_isByte_14 rfl rfl ?_
        refine v_getR (k := 0) (q := 5) C dM_isByte_15 (by show (0 : Nat) < 18; decide) rfl rfl (by decide) rfl inM lM_22 rfl ?_
        refine v_iload_n C dM_isByte_18 rfl rfl ?_
        have hb4 := h5 (n).toNat
        refine v_iald (k := 5) (v := σ.2 5 (n).toNat) C dM_isByte_19 (by show (5 : Nat) < 18; decide) rfl rfl (by omega) (by decide) rfl ?_
        refine v_icmp_lt (tgt := 27) C dM_isByte_20 (by decide) (by omega) (by omega) (fun hc5 => ?_) (fun hc5 => ?_)
        · refine v_iconst C dM_isByte_27 ?_
          refine v_putI (k := 0) (q := 0) C dM_isByte_28 (by show (0 : Nat) < 18; decide) rfl rfl (by decide) rfl inM tyM_ok nmM lM_63 rfl rfl rfl rfl rfl ?_
          refine v_aload_n C dM_isByte_31 rfl rfl ?_
          refine v_getI (k := 0) (q := 0) (v := 0) C dM_isByte_32 (by show (0 : Nat) < 18; decide) rfl rfl (by decide) rfl inM lM_63 rfl rfl ?_
          refine v_if_ne (tgt := 42) C dM_isByte_35 (by decide) (by omega) (fun hc6 => ?_) (fun hc6 => ?_)
          · exfalso; omega
          · refine v_iconst C dM_isByte_38 ?_
            refine v_goto (tgt := 43) C dM_isByte_39 (by decide) ?_
            exact v_zret C hRt hLk dM_isByte_43 (fN_bool (by omega)) (by unfold m_isB; first | exact Or.inl ⟨by omega, rfl, rfl⟩ | exact Or.inr ⟨by omega, rfl, rfl⟩)
        · refine v_iconst C dM_isByte_23 ?_
          refine v_goto (tgt := 28) C dM_isByte_24 (by decide) ?_
          refine v_putI (k := 0) (q := 0) C dM_isByte_28 (by show (0 : Nat) < 18; decide) rfl rfl (by decide) rfl inM tyM_ok nmM lM_63 rfl rfl rfl rfl rfl ?_
          refine v_aload_n C dM_isByte_31 rfl rfl ?_
          refine v_getI (k := 0) (q := 0) (v := 1) C dM_isByte_32 (by show (0 : Nat) < 18; decide) rfl rfl (by decide) rfl inM lM_63 rfl rfl ?_
          refine v_if_ne (tgt := 42) C dM_isByte_35 (by decide) (by omega) (fun hc7 => ?_) (fun hc7 => ?_)
          · refine v_iconst C dM_isByte_42 ?_
            exact v_zret C hRt hLk dM_isByte_43 (fN_bool (by omega)) (by unfold m_isB; first | exact Or.inl ⟨by omega, rfl, rfl⟩ | exact Or.inr ⟨by omega, rfl, rfl⟩)
          · exfalso; omega
  · subst σ1
    refine v_if_eq (tgt := 23) C dM_isByte_6 (by decide) (by omega) (fun hc8 => ?_) (fun hc8 => ?_)
    · refine v_iconst C dM_isByte_23 ?_
      refine v_goto (tgt := 28) C dM_isByte_24 (by decide) ?_
      refine v_putI (k := 0) (q := 0) C dM_isByte_28 (by show (0 : Nat) < 18; decide) rfl rfl (by decide) rfl inM tyM_ok nmM lM_63 rfl rfl rfl rfl rfl ?_
      refine v_aload_n C dM_isByte_31 rfl rfl ?_
      refine v_getI (k := 0) (q := 0) (v := 1) C dM_isByte_32 (by show (0 : Nat) < 18; decide) rfl rfl (by decide) rfl inM lM_63 rfl rfl ?_
      refine v_if_ne (tgt := 42) C dM_isByte_35 (by decide) (by omega) (fun hc9 => ?_) (fun hc9 => ?_)
      · refine v_iconst C dM_isByte_42 ?_
        exact v_zret C hRt hLk dM_isByte_43 (fN_bool (by omega)) (by unfold m_isB; first | exact Or.inl ⟨by omega, rfl, rfl⟩ | exact Or.inr ⟨by omega, rfl, rfl⟩)
      · exfalso; omega
    · exfalso; omega
set_option maxRecDepth 100000 in
set_option maxHeartbeats 4000000 in
/-- at(i) -/
theorem kM_at (l : Launch) (xCl : List vw_C) (D : va_G) (cA : Nat → ClassId) (ad : Nat → Nat) (hJ : f_J (mG xCl D cA ad)) (σ : fS) (i : Int) (hi : -2147483648 ≤ i ∧ i ≤ 2147483647) (hz : 0 ≤ σ.1 0 7 ∧ σ.1 0 7 ≤ 12000) (h7 : ∀ i, -128 ≤ σ.2 7 i ∧ σ.2 7 i ≤ 127) : f_M l (mG xCl D cA ad) mE yM_at (Cond.code yM_at cM_at 2 (some .byte) :: A9) 0 σ [.ref (ad 0), .int (fI i)] (f_QI (fun r σ1 => ((0 ≤ i ∧ i < σ.1 0 7) ∧ r = σ.2 7 i.toNat ∧ σ1 = f_p1 σ 0 0 0) ∨ (¬ (0 ≤ i ∧ i < σ.1 0 7) ∧ r = 0 ∧ σ1 = f_p1 σ 0 0 1)) (mG xCl D cA ad)) := by
  refine f_enter (by decide +kernel) hJ rfl (Nat.le_of_ble_eq_true rfl) ?_
  intro z hzl hR C hRt hLk hEz
  subst hzl
  refine v_aload_n C dM_at_0 rfl rfl ?_
  refine v_iload_n C dM_at_1 rfl rfl ?_
  refine v_if_lt (tgt := 13) C dM_at_2 (by decide) (by omega) (fun hc1 => ?_) (fun hc1 => ?_)
  · refine v_iconst C dM_at_13 ?_
    refine v_goto (tgt := 18) C dM_at_14 (by decide) ?_
    refine v_putI (k := 0) (q := 0) C dM_at_18 (by show (0 : Nat) < 18; decide) rfl rfl (by decide) rfl inM tyM_ok nmM lM_63 rfl rfl rfl rfl rfl ?_
    refine v_aload_n C dM_at_21 rfl rfl ?_
    refine v_getI (k := 0) (q := 0) (v := 1) C dM_at_22 (by show (0 : Nat) < 18; decide) rfl rfl (by decide) rfl inM lM_63 rfl rfl ?_
    refine v_if_le (tgt := 32) C dM_at_25 (by decide) (by omega) (fun hc2 => ?_) (fun hc2 => ?_)
    · exfalso; omega
    · refine v_iconst C dM_at_28 ?_
      refine v_goto (tgt := 38) C dM_at_29 (by decide) ?_
      exact v_zret C hRt hLk dM_at_38 (fN_byte (by omega) (by omega)) (by first | exact Or.inl ⟨by omega, rfl, rfl⟩ | exact Or.inr ⟨by omega, rfl, rfl⟩)
  · refine v_iload_n C dM_at_5 rfl rfl ?_
    refine v_aload_n C dM_at_6 rfl rfl ?_
    refine v_getI (k := 0) (q := 7) (v := σ.1 0 7) C dM_at_7 (by show (0 : Nat) < 18; decide) rfl rfl (by decide) rfl inM lM_116 rfl rfl ?_
    refine v_icmp_lt (tgt := 17) C dM_at_10 (by decide) (by omega) (by omega) (fun hc3 => ?_) (fun hc3 => ?_)
    · refine v_iconst C dM_at_17 ?_
      refine v_putI (k := 0) (q := 0) C dM_at_18 (by show (0 : Nat) < 18; decide) rfl rfl (by decide) rfl inM tyM_ok nmM lM_63 rfl rfl rfl rfl rfl ?_
      refine v_aload_n C dM_at_21 rfl rfl ?_
      refine v_getI (k := 0) (q := 0) (v := 0) C dM_at_22 (by show (0 : Nat) < 18; decide) rfl rfl (by decide) rfl inM lM_63 rfl rfl ?_
      refine v_if_le (tgt := 32) C dM_at_25 (by decide) (by omega) (fun hc4 => ?_) (fun hc4 => ?_)
      · refine v_aload_n C dM_at_32 rfl rfl ?_
        refine v_getR (k := 0) (q := 8) C dM_at_33 (by show (0 : Nat) < 18; decide) rfl rfl (by decide) rfl inM lM_30 rfl ?_
        refine v_iload_n C dM_at_36 rfl rfl ?_
        have hb5 := h7 (i).toNat
        refine v_bald (k := 7) (v := σ.2 7 (i).toNat) C dM_at_37 (by show (7 : Nat) < 18; decide) rfl rfl (by omega) (by decide) rfl ?_
        exact v_zret C hRt hLk dM_at_38 (fN_byte (by omega) (by omega)) (by first | exact Or.inl ⟨by omega, rfl, rfl⟩ | exact Or.inr ⟨by omega, rfl, rfl⟩)
      · exfalso; omega
    · refine v_iconst C dM_at_13 ?_
      refine v_goto (tgt := 18) C dM_at_14 (by decide) ?_
      refine v_putI (k := 0) (q := 0) C dM_at_18 (by show (0 : Nat) < 18; decide) rfl rfl (by decide) rfl inM tyM_ok nmM lM_63 rfl rfl rfl rfl rfl ?_
      refine v_aload_n C dM_at_21 rfl rfl ?_
      refine v_getI (k := 0) (q := 0) (v := 1) C dM_at_22 (by show (0 : Nat) < 18; decide) rfl rfl (by decide) rfl inM lM_63 rfl rfl ?_
      refine v_if_le (tgt := 32) C dM_at_25 (by decide) (by omega) (fun hc6 => ?_) (fun hc6 => ?_)
      · exfalso; omega
      · refine v_iconst C dM_at_28 ?_
        refine v_goto (tgt := 38) C dM_at_29 (by decide) ?_
        exact v_zret C hRt hLk dM_at_38 (fN_byte (by omega) (by omega)) (by first | exact Or.inl ⟨by omega, rfl, rfl⟩ | exact Or.inr ⟨by omega, rfl, rfl⟩)
set_option maxRecDepth 100000 in
set_option maxHeartbeats 4000000 in
/-- length(n) -/
theorem kM_length (l : Launch) (xCl : List vw_C) (D : va_G) (cA : Nat → ClassId) (ad : Nat → Nat) (hJ : f_J (mG xCl D cA ad)) (σ : fS) (n : Int) (hn : -2147483648 ≤ n ∧ n ≤ 2147483647) (h1 : ∀ i, 0 ≤ σ.2 1 i ∧ σ.2 1 i ≤ 1) (h5 : ∀ i, 0 ≤ σ.2 5 i ∧ σ.2 5 i ≤ 120) : f_M l (mG xCl D cA ad) mE yM_length (Cond.code yM_length cM_length 2 (some .int) :: A9) 1 σ [.ref (ad 0), .int (fI n)] (f_QI (fun r σ1 => ((1 ≤ n ∧ n ≤ 40) ∧ ((σ.2 1 n.toNat = 1 ∧ r = σ.2 5 n.toNat) ∨ (σ.2 1 n.toNat = 0 ∧ r = -1)) ∧ σ1 = f_p1 σ 0 0 0) ∨ (¬ (1 ≤ n ∧ n ≤ 40) ∧ r = 0 ∧ σ1 = f_p1 σ 0 0 1)) (mG xCl D cA ad)) := by
  refine f_enter (by decide +kernel) hJ rfl (Nat.le_of_ble_eq_true rfl) ?_
  intro z hzl hR C hRt hLk hEz
  subst hzl
  refine v_aload_n C dM_length_0 rfl rfl ?_
  refine v_iload_n C dM_length_1 rfl rfl ?_
  refine v_cSI (n := 1) C (mE_ok _) trivial hR (kM_isObject2 _ xCl D cA ad hJ _ (n) (by omega)) dM_length_2 gM_67 (by decide +kernel) (by decide) (by decide) rfl (Nat.le_of_ble_eq_true rfl) rfl ⟨rfl, rfl⟩ (fun r1 σ1 hp1 => ?_)
  rcases hp1 with ⟨hq, rfl, e2⟩ | ⟨hq, rfl, e2⟩
  · subst σ1
    refine v_if_eq (tgt := 12) C dM_length_5 (by decide) (by omega) (fun hc1 => ?_) (fun hc1 => ?_)
    · exfalso; omega
    · refine v_iconst C dM_length_8 ?_
      refine v_goto (tgt := 13) C dM_length_9 (by decide) ?_
      refine v_putI (k := 0) (q := 0) C dM_length_13 (by show (0 : Nat) < 18; decide) rfl rfl (by decide) rfl inM tyM_ok nmM lM_63 rfl rfl rfl rfl rfl ?_
      refine v_aload_n C dM_length_16 rfl rfl ?_
      refine v_getI (k := 0) (q := 0) (v := 0) C dM_length_17 (by show (0 : Nat) < 18; decide) rfl rfl (by decide) rfl inM lM_63 rfl rfl ?_
      refine v_if_le (tgt := 27) C dM_length_20 (by decide) (by omega) (fun hc2 => ?_) (fun hc2 => ?_)
      · refine v_aload_n C dM_length_27 rfl rfl ?_
        refine v_getR (k := 0) (q := 1) C dM_length_28 (by show (0 : Nat) < 18; decide) rfl rfl (by decide) rfl inM lM_7 rfl ?_
        refine v_iload_n C dM_length_31 rfl rfl ?_
        have hb3 := h1 (n).toNat
        refine v_zald (k := 1) (v := σ.2 1 (n).toNat) C dM_length_32 (by show (1 : Nat) < 18; decide) rfl rfl (by omega) (by decide) rfl ?_
        refine v_if_eq (tgt := 45) C dM_length_33 (by decide) (by omega) (fun hc4 => ?_) (fun hc4 => ?_)
        · refine v_iconst C dM_length_45 ?_
          exact v_iret C hRt hLk dM_length_46 (by first | exact Or.inl ⟨by omega, by omega, rfl⟩ | exact Or.inr ⟨by omega, rfl, rfl⟩)
        · refine v_aload_n C dM_length_36 rfl rfl ?_
          refine v_getR (k := 0) (q := 5) C dM_length_37 (by show (0 : Nat) < 18; decide) rfl rfl (by decide) rfl inM lM_22 rfl ?_
          refine v_iload_n C dM_length_40 rfl rfl ?_
          have hb5 := h5 (n).toNat
          refine v_iald (k := 5) (v := σ.2 5 (n).toNat) C dM_length_41 (by show (5 : Nat) < 18; decide) rfl rfl (by omega) (by decide) rfl ?_
          refine v_goto (tgt := 46) C dM_length_42 (by decide) ?_
          exact v_iret C hRt hLk dM_length_46 (by first | exact Or.inl ⟨by omega, by omega, rfl⟩ | exact Or.inr ⟨by omega, rfl, rfl⟩)
      · exfalso; omega
  · subst σ1
    refine v_if_eq (tgt := 12) C dM_length_5 (by decide) (by omega) (fun hc6 => ?_) (fun hc6 => ?_)
    · refine v_iconst C dM_length_12 ?_
      refine v_putI (k := 0) (q := 0) C dM_length_13 (by show (0 : Nat) < 18; decide) rfl rfl (by decide) rfl inM tyM_ok nmM lM_63 rfl rfl rfl rfl rfl ?_
      refine v_aload_n C dM_length_16 rfl rfl ?_
      refine v_getI (k := 0) (q := 0) (v := 1) C dM_length_17 (by show (0 : Nat) < 18; decide) rfl rfl (by decide) rfl inM lM_63 rfl rfl ?_
      refine v_if_le (tgt := 27) C dM_length_20 (by decide) (by omega) (fun hc7 => ?_) (fun hc7 => ?_)
      · exfalso; omega
      · refine v_iconst C dM_length_23 ?_
        refine v_goto (tgt := 46) C dM_length_24 (by decide) ?_
        exact v_iret C hRt hLk dM_length_46 (by first | exact Or.inl ⟨by omega, by omega, rfl⟩ | exact Or.inr ⟨by omega, rfl, rfl⟩)
    · exfalso; omega
set_option maxRecDepth 100000 in
set_option maxHeartbeats 4000000 in
/-- byteOf(n, i) -/
theorem kM_byteOf (l : Launch) (xCl : List vw_C) (D : va_G) (cA : Nat → ClassId) (ad : Nat → Nat) (hJ : f_J (mG xCl D cA ad)) (σ : fS) (n i : Int) (hn : -2147483648 ≤ n ∧ n ≤ 2147483647) (hi : -2147483648 ≤ i ∧ i ≤ 2147483647) (h1 : ∀ i, 0 ≤ σ.2 1 i ∧ σ.2 1 i ≤ 1) (h5 : ∀ i, 0 ≤ σ.2 5 i ∧ σ.2 5 i ≤ 120) (h6 : ∀ i, -128 ≤ σ.2 6 i ∧ σ.2 6 i ≤ 127) : f_M l (mG xCl D cA ad) mE yM_byteOf (Cond.code yM_byteOf cM_byteOf 3 (some .byte) :: A9) 3 σ [.ref (ad 0), .int (fI n), .int (fI i)] (f_QI (fun r σ1 => (m_isB σ n i ∧ r = σ.2 6 (120 * n + i).toNat ∧ σ1 = f_p1 σ 0 0 0) ∨ (¬ m_isB σ n i ∧ r = 0 ∧ σ1 = f_p1 σ 0 0 1)) (mG xCl D cA ad)) := by
  refine f_enter (by decide +kernel) hJ rfl (Nat.le_of_ble_eq_true rfl) ?_
  intro z hzl hR C hRt hLk hEz
  subst hzl
  refine v_aload_n C dM_byteOf_0 rfl rfl ?_
  refine v_iload_n C dM_byteOf_1 rfl rfl ?_
  refine v_iload_n C dM_byteOf_2 rfl rfl ?_
  refine v_cVI (k := 0) (n := 2) C (mE_ok _) trivial hR (kM_isByte _ xCl D cA ad hJ σ n i (by omega) (by omega) h1 h5) dM_byteOf_3 (by show (0 : Nat) < 18; decide) rfl rfl gM_74 (by decide +kernel) (by decide) (by decide) rfl (Nat.le_of_ble_eq_true rfl) rfl ⟨rfl, rfl⟩ (fun r1 σ1 hp1 => ?_)
  rcases hp1 with ⟨hq, rfl, e2⟩ | ⟨hq, rfl, e2⟩
  · subst σ1
    have hq0 := hq
    unfold m_isB at hq0
    have h55 := h5 n.toNat
    refine v_if_eq (tgt := 23) C dM_byteOf_6 (by decide) (by omega) (fun hc1 => ?_) (fun hc1 => ?_)
    · exfalso; omega
    · refine v_aload_n C dM_byteOf_9 rfl rfl ?_
      refine v_getR (k := 0) (q := 6) C dM_byteOf_10 (by show (0 : Nat) < 18; decide) rfl rfl (by decide) rfl inM lM_26 rfl ?_
      refine v_bipush C dM_byteOf_13 (by decide +kernel) ?_
      refine v_iload_n C dM_byteOf_15 rfl rfl ?_
      refine v_imul C dM_byteOf_16 ?_
      refine v_iload_n C dM_byteOf_17 rfl rfl ?_
      refine v_iadd C dM_byteOf_18 ?_
      have hb2 := h6 (((120 * n) + i)).toNat
      refine v_bald (k := 6) (v := σ.2 6 (((120 * n) + i)).toNat) C dM_byteOf_19 (by show (6 : Nat) < 18; decide) rfl rfl (by omega) (by decide) rfl ?_
      refine v_goto (tgt := 24) C dM_byteOf_20 (by decide) ?_
      exact v_zret C hRt hLk dM_byteOf_24 (fN_byte (by omega) (by omega)) (by first | exact Or.inl ⟨hq, rfl, rfl⟩ | exact Or.inr ⟨hq, rfl, rfl⟩)
  · subst σ1
    refine v_if_eq (tgt := 23) C dM_byteOf_6 (by decide) (by omega) (fun hc3 => ?_) (fun hc3 => ?_)
    · refine v_iconst C dM_byteOf_23 ?_
      exact v_zret C hRt hLk dM_byteOf_24 (fN_byte (by omega) (by omega)) (by first | exact Or.inl ⟨hq, rfl, rfl⟩ | exact Or.inr ⟨hq, rfl, rfl⟩)
    · exfalso; omega
set_option maxRecDepth 100000 in
set_option maxHeartbeats 4000000 in
/-- size(revision) -/
theorem kM_size (l : Launch) (xCl : List vw_C) (D : va_G) (cA : Nat → ClassId) (ad : Nat → Nat) (hJ : f_J (mG xCl D cA ad)) (σ : fS) (a : Int) (ha : -2147483648 ≤ a ∧ a ≤ 2147483647) (hr : 0 ≤ σ.1 0 10 ∧ σ.1 0 10 ≤ 60) : f_M l (mG xCl D cA ad) mE yM_size (Cond.code yM_size cM_size 2 (some .int) :: A9) 1 σ [.ref (ad 0), .int (fI a)] (f_QI (fun r σ1 => ((0 ≤ a ∧ a < σ.1 0 10) ∧ r = σ.2 8 a.toNat ∧ σ1 = f_p1 σ 0 0 0) ∨ (¬ (0 ≤ a ∧ a < σ.1 0 10) ∧ r = 0 ∧ σ1 = f_p1 σ 0 0 1)) (mG xCl D cA ad)) := by
  refine f_enter (by decide +kernel) hJ rfl (Nat.le_of_ble_eq_true rfl) ?_
  intro z hzl hR C hRt hLk hEz
  subst hzl
  refine v_aload_n C dM_size_0 rfl rfl ?_
  refine v_iload_n C dM_size_1 rfl rfl ?_
  refine v_cVI (k := 0) (n := 1) C (mE_ok _) trivial hR (kM_isRevision _ xCl D cA ad hJ σ a (by omega) (by omega)) dM_size_2 (by show (0 : Nat) < 18; decide) rfl rfl gM_201 (by decide +kernel) (by decide) (by decide) rfl (Nat.le_of_ble_eq_true rfl) rfl ⟨rfl, rfl⟩ (fun r1 σ1 hp1 => ?_)
  rcases hp1 with ⟨hq, rfl, e2⟩ | ⟨hq, rfl, e2⟩
  · subst σ1
    refine v_if_eq (tgt := 17) C dM_size_5 (by decide) (by omega) (fun hc1 => ?_) (fun hc1 => ?_)
    · exfalso; omega
    · refine v_aload_n C dM_size_8 rfl rfl ?_
      refine v_getR (k := 0) (q := 11) C dM_size_9 (by show (0 : Nat) < 18; decide) rfl rfl (by decide) rfl inM lM_33 rfl ?_
      refine v_iload_n C dM_size_12 rfl rfl ?_
      refine v_iald (k := 8) (v := σ.2 8 (a).toNat) C dM_size_13 (by show (8 : Nat) < 18; decide) rfl rfl (by omega) (by decide) rfl ?_
      refine v_goto (tgt := 18) C dM_size_14 (by decide) ?_
      exact v_iret C hRt hLk dM_size_18 (by first | exact Or.inl ⟨by omega, rfl, rfl⟩ | exact Or.inr ⟨by omega, rfl, rfl⟩)
  · subst σ1
    refine v_if_eq (tgt := 17) C dM_size_5 (by decide) (by omega) (fun hc2 => ?_) (fun hc2 => ?_)
    · refine v_iconst C dM_size_17 ?_
      exact v_iret C hRt hLk dM_size_18 (by first | exact Or.inl ⟨by omega, rfl, rfl⟩ | exact Or.inr ⟨by omega, rfl, rfl⟩)
    · exfalso; omega
set_option maxRecDepth 100000 in
set_option maxHeartbeats 4000000 in
/-- place(revision, n) -/
theorem kM_place (l : Launch) (xCl : List vw_C) (D : va_G) (cA : Nat → ClassId) (ad : Nat → Nat) (hJ : f_J (mG xCl D cA ad)) (σ : fS) (a n : Int) (ha : -2147483648 ≤ a ∧ a ≤ 2147483647) (hn : -2147483648 ≤ n ∧ n ≤ 2147483647) (hr : 0 ≤ σ.1 0 10 ∧ σ.1 0 10 ≤ 60) : f_M l (mG xCl D cA ad) mE yM_place (Cond.code yM_place cM_place 3 (some .int) :: A9) 1 σ [.ref (ad 0), .int (fI a), .int (fI n)] (f_QI (fun r σ1 => (((0 ≤ a ∧ a < σ.1 0 10) ∧ 1 ≤ n ∧ n ≤ 40) ∧ r = σ.2 10 (41 * a + n).toNat ∧ σ1 = f_p1 σ 0 0 0) ∨ (¬ ((0 ≤ a ∧ a < σ.1 0 10) ∧ 1 ≤ n ∧ n ≤ 40) ∧ r = 0 ∧ σ1 = f_p1 σ 0 0 1)) (mG xCl D cA ad)) := by
  refine f_enter (by decide +kernel) hJ rfl (Nat.le_of_ble_eq_true rfl) ?_
  intro z hzl hR C hRt hLk hEz
  subst hzl
  refine v_aload_n C dM_place_0 rfl rfl ?_
  refine v_iload_n C dM_place_1 rfl rfl ?_
  refine v_if_lt (tgt := 20) C dM_place_2 (by decide) (by omega) (fun hc1 => ?_) (fun hc1 => ?_)
  · refine v_iconst C dM_place_20 ?_
    refine v_goto (tgt := 25) C dM_place_21 (by decide) ?_
    refine v_putI (k := 0) (q := 0) C dM_place_25 (by show (0 : Nat) < 18; decide) rfl rfl (by decide) rfl inM tyM_ok nmM lM_63 rfl rfl rfl rfl rfl ?_
    refine v_aload_n C dM_place_28 rfl rfl ?_
    refine v_getI (k := 0) (q := 0) (v := 1) C dM_place_29 (by show (0 : Nat) < 18; decide) rfl rfl (by decide) rfl inM lM_63 rfl rfl ?_
    refine v_if_le (tgt := 39) C dM_place_32 (by decide) (by omega) (fun hc2 => ?_) (fun hc2 => ?_)
    · exfalso; omega
    · refine v_iconst C dM_place_35 ?_
      refine v_goto (tgt := 50) C dM_place_36 (by decide) ?_
      exact v_iret C hRt hLk dM_place_50 (by first | exact Or.inl ⟨by omega, rfl, rfl⟩ | exact Or.inr ⟨by omega, rfl, rfl⟩)
  · refine v_iload_n C dM_place_5 rfl rfl ?_
    refine v_aload_n C dM_place_6 rfl rfl ?_
    refine v_getI (k := 0) (q := 10) (v := σ.1 0 10) C dM_place_7 (by show (0 : Nat) < 18; decide) rfl rfl (by decide) rfl inM lM_110 rfl rfl ?_
    refine v_icmp_ge (tgt := 20) C dM_place_10 (by decide) (by omega) (by omega) (fun hc3 => ?_) (fun hc3 => ?_)
    · refine v_iconst C dM_place_20 ?_
      refine v_goto (tgt := 25) C dM_place_21 (by decide) ?_
      refine v_putI (k := 0) (q := 0) C dM_place_25 (by show (0 : Nat) < 18; decide) rfl rfl (by decide) rfl inM tyM_ok nmM lM_63 rfl rfl rfl rfl rfl ?_
      refine v_aload_n C dM_place_28 rfl rfl ?_
      refine v_getI (k := 0) (q := 0) (v := 1) C dM_place_29 (by show (0 : Nat) < 18; decide) rfl rfl (by decide) rfl inM lM_63 rfl rfl ?_
      refine v_if_le (tgt := 39) C dM_place_32 (by decide) (by omega) (fun hc4 => ?_) (fun hc4 => ?_)
      · exfalso; omega
      · refine v_iconst C dM_place_35 ?_
        refine v_goto (tgt := 50) C dM_place_36 (by decide) ?_
        exact v_iret C hRt hLk dM_place_50 (by first | exact Or.inl ⟨by omega, rfl, rfl⟩ | exact Or.inr ⟨by omega, rfl, rfl⟩)
    · refine v_iload_n C dM_place_13 rfl rfl ?_
      refine v_cSI (n := 1) C (mE_ok _) trivial hR (kM_isObject2 _ xCl D cA ad hJ _ (n) (by omega)) dM_place_14 gM_67 (by decide +kernel) (by decide) (by decide) rfl (Nat.le_of_ble_eq_true rfl) rfl ⟨rfl, rfl⟩ (fun r1 σ1 hp1 => ?_)
      rcases hp1 with ⟨hq, rfl, e2⟩ | ⟨hq, rfl, e2⟩
      · subst σ1
        refine v_if_ne (tgt := 24) C dM_place_17 (by decide) (by omega) (fun hc5 => ?_) (fun hc5 => ?_)
        · refine v_iconst C dM_place_24 ?_
          refine v_putI (k := 0) (q := 0) C dM_place_25 (by show (0 : Nat) < 18; decide) rfl rfl (by decide) rfl inM tyM_ok nmM lM_63 rfl rfl rfl rfl rfl ?_
          refine v_aload_n C dM_place_28 rfl rfl ?_
          refine v_getI (k := 0) (q := 0) (v := 0) C dM_place_29 (by show (0 : Nat) < 18; decide) rfl rfl (by decide) rfl inM lM_63 rfl rfl ?_
          refine v_if_le (tgt := 39) C dM_place_32 (by decide) (by omega) (fun hc6 => ?_) (fun hc6 => ?_)
          · refine v_aload_n C dM_place_39 rfl rfl ?_
            refine v_getR (k := 0) (q := 13) C dM_place_40 (by show (0 : Nat) < 18; decide) rfl rfl (by decide) rfl inM lM_39 rfl ?_
            refine v_bipush C dM_place_43 (by decide +kernel) ?_
            refine v_iload_n C dM_place_45 rfl rfl ?_
            refine v_imul C dM_place_46 ?_
            refine v_iload_n C dM_place_47 rfl rfl ?_
            refine v_iadd C dM_place_48 ?_
            refine v_iald (k := 10) (v := σ.2 10 (((41 * a) + n)).toNat) C dM_place_49 (by show (10 : Nat) < 18; decide) rfl rfl (by omega) (by decide) rfl ?_
            exact v_iret C hRt hLk dM_place_50 (by first | exact Or.inl ⟨by omega, rfl, rfl⟩ | exact Or.inr ⟨by omega, rfl, rfl⟩)
          · exfalso; omega
        · exfalso; omega
      · subst σ1
        refine v_if_ne (tgt := 24) C dM_place_17 (by decide) (by omega) (fun hc7 => ?_) (fun hc7 => ?_)
        · exfalso; omega
        · refine v_iconst C dM_place_20 ?_
          refine v_goto (tgt := 25) C dM_place_21 (by decide) ?_
          refine v_putI (k := 0) (q := 0) C dM_place_25 (by show (0 : Nat) < 18; decide) rfl rfl (by decide) rfl inM tyM_ok nmM lM_63 rfl rfl rfl rfl rfl ?_
          refine v_aload_n C dM_place_28 rfl rfl ?_
          refine v_getI (k := 0) (q := 0) (v := 1) C dM_place_29 (by show (0 : Nat) < 18; decide) rfl rfl (by decide) rfl inM lM_63 rfl rfl ?_
          refine v_if_le (tgt := 39) C dM_place_32 (by decide) (by omega) (fun hc8 => ?_) (fun hc8 => ?_)
          · exfalso; omega
          · refine v_iconst C dM_place_35 ?_
            refine v_goto (tgt := 50) C dM_place_36 (by decide) ?_
            exact v_iret C hRt hLk dM_place_50 (by first | exact Or.inl ⟨by omega, rfl, rfl⟩ | exact Or.inr ⟨by omega, rfl, rfl⟩)
set_option maxRecDepth 100000 in
set_option maxHeartbeats 4000000 in
/-- poke(i, b) -/
theorem kM_poke (l : Launch) (xCl : List vw_C) (D : va_G) (cA : Nat → ClassId) (ad : Nat → Nat) (hJ : f_J (mG xCl D cA ad)) (σ : fS) (i b : Int) (hi : -2147483648 ≤ i ∧ i ≤ 2147483647) (hb : -128 ≤ b ∧ b ≤ 127) (hz : 0 ≤ σ.1 0 7 ∧ σ.1 0 7 ≤ 12000) (h7 : ∀ i, -128 ≤ σ.2 7 i ∧ σ.2 7 i ≤ 127) : f_M l (mG xCl D cA ad) mE yM_poke (Cond.code yM_poke cM_poke 4 (some .byte) :: A9) 0 σ [.ref (ad 0), .int (fI i), .int (fI b)] (f_QI (fun r σ1 => ((0 ≤ i ∧ i < σ.1 0 7) ∧ r = σ.2 7 i.toNat ∧ σ1 = f_p1 (f_p2 (f_p1 σ 0 0 0) 7 i.toNat b) 0 9 1) ∨ (¬ (0 ≤ i ∧ i < σ.1 0 7) ∧ r = 0 ∧ σ1 = f_p1 σ 0 0 1)) (mG xCl D cA ad)) := by
  refine f_enter (by decide +kernel) hJ rfl (Nat.le_of_ble_eq_true rfl) ?_
  intro z hzl hR C hRt hLk hEz
  subst hzl
  refine v_aload_n C dM_poke_0 rfl rfl ?_
  refine v_iload_n C dM_poke_1 rfl rfl ?_
  refine v_if_lt (tgt := 13) C dM_poke_2 (by decide) (by omega) (fun hc1 => ?_) (fun hc1 => ?_)
  · refine v_iconst C dM_poke_13 ?_
    refine v_goto (tgt := 18) C dM_poke_14 (by decide) ?_
    refine v_putI (k := 0) (q := 0) C dM_poke_18 (by show (0 : Nat) < 18; decide) rfl rfl (by decide) rfl inM tyM_ok nmM lM_63 rfl rfl rfl rfl rfl ?_
    refine v_aload_n C dM_poke_21 rfl rfl ?_
    refine v_getI (k := 0) (q := 0) (v := 1) C dM_poke_22 (by show (0 : Nat) < 18; decide) rfl rfl (by decide) rfl inM lM_63 rfl rfl ?_
    refine v_if_le (tgt := 30) C dM_poke_25 (by decide) (by omega) (fun hc2 => ?_) (fun hc2 => ?_)
    · exfalso; omega
    · refine v_iconst C dM_poke_28 ?_
      exact v_zret C hRt hLk dM_poke_29 (fN_byte (by omega) (by omega)) (by first | exact Or.inl ⟨by omega, rfl, rfl⟩ | exact Or.inr ⟨by omega, rfl, rfl⟩)
  · refine v_iload_n C dM_poke_5 rfl rfl ?_
    refine v_aload_n C dM_poke_6 rfl rfl ?_
    refine v_getI (k := 0) (q := 7) (v := σ.1 0 7) C dM_poke_7 (by show (0 : Nat) < 18; decide) rfl rfl (by decide) rfl inM lM_116 rfl rfl ?_
    refine v_icmp_lt (tgt := 17) C dM_poke_10 (by decide) (by omega) (by omega) (fun hc3 => ?_) (fun hc3 => ?_)
    · refine v_iconst C dM_poke_17 ?_
      refine v_putI (k := 0) (q := 0) C dM_poke_18 (by show (0 : Nat) < 18; decide) rfl rfl (by decide) rfl inM tyM_ok nmM lM_63 rfl rfl rfl rfl rfl ?_
      refine v_aload_n C dM_poke_21 rfl rfl ?_
      refine v_getI (k := 0) (q := 0) (v := 0) C dM_poke_22 (by show (0 : Nat) < 18; decide) rfl rfl (by decide) rfl inM lM_63 rfl rfl ?_
      refine v_if_le (tgt := 30) C dM_poke_25 (by decide) (by omega) (fun hc4 => ?_) (fun hc4 => ?_)
      · refine v_aload_n C dM_poke_30 rfl rfl ?_
        refine v_getR (k := 0) (q := 8) C dM_poke_31 (by show (0 : Nat) < 18; decide) rfl rfl (by decide) rfl inM lM_30 rfl ?_
        refine v_iload_n C dM_poke_34 rfl rfl ?_
        have hb5 := h7 (i).toNat
        refine v_bald (k := 7) (v := σ.2 7 (i).toNat) C dM_poke_35 (by show (7 : Nat) < 18; decide) rfl rfl (by omega) (by decide) rfl ?_
        refine v_istore_n C dM_poke_36 rfl (by decide) ?_
        refine v_aload_n C dM_poke_37 rfl rfl ?_
        refine v_getR (k := 0) (q := 8) C dM_poke_38 (by show (0 : Nat) < 18; decide) rfl rfl (by decide) rfl inM lM_30 rfl ?_
        refine v_iload_n C dM_poke_41 rfl rfl ?_
        refine v_iload_n C dM_poke_42 rfl rfl ?_
        refine v_bast (k := 7) C dM_poke_43 (by show (7 : Nat) < 18; decide) rfl rfl (by omega) (by decide) (by omega) ?_
        refine v_aload_n C dM_poke_44 rfl rfl ?_
        refine v_iconst C dM_poke_45 ?_
        refine v_putI (k := 0) (q := 9) C dM_poke_46 (by show (0 : Nat) < 18; decide) rfl rfl (by decide) rfl inM tyM_ok nmM lM_123 rfl rfl rfl (fN_bool (by omega)) (fF_bool (by omega)) ?_
        refine v_iload_n C dM_poke_49 rfl rfl ?_
        exact v_zret C hRt hLk dM_poke_50 (fN_byte (by omega) (by omega)) (by first | exact Or.inl ⟨by omega, rfl, rfl⟩ | exact Or.inr ⟨by omega, rfl, rfl⟩)
      · exfalso; omega
    · refine v_iconst C dM_poke_13 ?_
      refine v_goto (tgt := 18) C dM_poke_14 (by decide) ?_
      refine v_putI (k := 0) (q := 0) C dM_poke_18 (by show (0 : Nat) < 18; decide) rfl rfl (by decide) rfl inM tyM_ok nmM lM_63 rfl rfl rfl rfl rfl ?_
      refine v_aload_n C dM_poke_21 rfl rfl ?_
      refine v_getI (k := 0) (q := 0) (v := 1) C dM_poke_22 (by show (0 : Nat) < 18; decide) rfl rfl (by decide) rfl inM lM_63 rfl rfl ?_
      refine v_if_le (tgt := 30) C dM_poke_25 (by decide) (by omega) (fun hc6 => ?_) (fun hc6 => ?_)
      · exfalso; omega
      · refine v_iconst C dM_poke_28 ?_
        exact v_zret C hRt hLk dM_poke_29 (fN_byte (by omega) (by omega)) (by first | exact Or.inl ⟨by omega, rfl, rfl⟩ | exact Or.inr ⟨by omega, rfl, rfl⟩)
set_option maxRecDepth 100000 in
set_option maxHeartbeats 4000000 in
/-- drop(n) -/
theorem kM_drop (l : Launch) (xCl : List vw_C) (D : va_G) (cA : Nat → ClassId) (ad : Nat → Nat) (hJ : f_J (mG xCl D cA ad)) (σ : fS) (n : Int) (hn : -2147483648 ≤ n ∧ n ≤ 2147483647) (h1 : ∀ i, 0 ≤ σ.2 1 i ∧ σ.2 1 i ≤ 1) (h4 : ∀ i, 0 ≤ σ.2 4 i ∧ σ.2 4 i ≤ 1) : f_M l (mG xCl D cA ad) mE yM_drop (Cond.code yM_drop cM_drop 2 (some .boolean) :: A9) 1 σ [.ref (ad 0), .int (fI n)] (f_QI (fun r σ1 => ((1 ≤ n ∧ n ≤ 40) ∧ σ.2 1 n.toNat = 1 ∧ r = 1 ∧ σ1 = f_p2 (f_p2 (f_p2 (f_p1 σ 0 0 0) 1 n.toNat 0) 2 n.toNat 0) 3 n.toNat (σ.2 4 n.toNat)) ∨ ((1 ≤ n ∧ n ≤ 40) ∧ σ.2 1 n.toNat = 0 ∧ r = 0 ∧ σ1 = f_p1 σ 0 0 0) ∨ (¬ (1 ≤ n ∧ n ≤ 40) ∧ r = 0 ∧ σ1 = f_p1 σ 0 0 1)) (mG xCl D cA ad)) := by
  refine f_enter (by decide +kernel) hJ rfl (Nat.le_of_ble_eq_true rfl) ?_
  intro z hzl hR C hRt hLk hEz
  subst hzl
  refine v_aload_n C dM_drop_0 rfl rfl ?_
  refine v_iload_n C dM_drop_1 rfl rfl ?_
  refine v_cSI (n := 1) C (mE_ok _) trivial hR (kM_isObject2 _ xCl D cA ad hJ _ (n) (by omega)) dM_drop_2 gM_67 (by decide +kernel) (by decide) (by decide) rfl (Nat.le_of_ble_eq_true rfl) rfl ⟨rfl, rfl⟩ (fun r1 σ1 hp1 => ?_)
  rcases hp1 with ⟨hq, rfl, e2⟩ | ⟨hq, rfl, e2⟩
  · subst σ1
    refine v_if_eq (tgt := 12) C dM_drop_5 (by decide) (by omega) (fun hc1 => ?_) (fun hc1 => ?_)
    · exfalso; omega
    · refine v_iconst C dM_drop_8 ?_
      refine v_goto (tgt := 13) C dM_drop_9 (by decide) ?_
      refine v_putI (k := 0) (q := 0) C dM_drop_13 (by show (0 : Nat) < 18; decide) rfl rfl (by decide) rfl inM tyM_ok nmM lM_63 rfl rfl rfl rfl rfl ?_
      refine v_aload_n C dM_drop_16 rfl rfl ?_
      refine v_getI (k := 0) (q := 0) (v := 0) C dM_drop_17 (by show (0 : Nat) < 18; decide) rfl rfl (by decide) rfl inM lM_63 rfl rfl ?_
      refine v_if_gt (tgt := 32) C dM_drop_20 (by decide) (by omega) (fun hc2 => ?_) (fun hc2 => ?_)
      · exfalso; omega
      · refine v_aload_n C dM_drop_23 rfl rfl ?_
        refine v_getR (k := 0) (q := 1) C dM_drop_24 (by show (0 : Nat) < 18; decide) rfl rfl (by decide) rfl inM lM_7 rfl ?_
        refine v_iload_n C dM_drop_27 rfl rfl ?_
        have hb3 := h1 (n).toNat
        refine v_zald (k := 1) (v := σ.2 1 (n).toNat) C dM_drop_28 (by show (1 : Nat) < 18; decide) rfl rfl (by omega) (by decide) rfl ?_
        refine v_if_ne (tgt := 34) C dM_drop_29 (by decide) (by omega) (fun hc4 => ?_) (fun hc4 => ?_)
        · refine v_aload_n C dM_drop_34 rfl rfl ?_
          refine v_getR (k := 0) (q := 1) C dM_drop_35 (by show (0 : Nat) < 18; decide) rfl rfl (by decide) rfl inM lM_7 rfl ?_
          refine v_iload_n C dM_drop_38 rfl rfl ?_
          refine v_iconst C dM_drop_39 ?_
          refine v_zast (k := 1) C dM_drop_40 (by show (1 : Nat) < 18; decide) rfl rfl (by omega) (by decide) (by omega) ?_
          refine v_aload_n C dM_drop_41 rfl rfl ?_
          refine v_getR (k := 0) (q := 2) C dM_drop_42 (by show (0 : Nat) < 18; decide) rfl rfl (by decide) rfl inM lM_13 rfl ?_
          refine v_iload_n C dM_drop_45 rfl rfl ?_
          refine v_iconst C dM_drop_46 ?_
          refine v_zast (k := 2) C dM_drop_47 (by show (2 : Nat) < 18; decide) rfl rfl (by omega) (by decide) (by omega) ?_
          refine v_aload_n C dM_drop_48 rfl rfl ?_
          refine v_getR (k := 0) (q := 3) C dM_drop_49 (by show (0 : Nat) < 18; decide) rfl rfl (by decide) rfl inM lM_16 rfl ?_
          refine v_iload_n C dM_drop_52 rfl rfl ?_
          refine v_aload_n C dM_drop_53 rfl rfl ?_
          refine v_getR (k := 0) (q := 4) C dM_drop_54 (by show (0 : Nat) < 18; decide) rfl rfl (by decide) rfl inM lM_19 rfl ?_
          refine v_iload_n C dM_drop_57 rfl rfl ?_
          have hb5 := h4 (n).toNat
          refine v_zald (k := 4) (v := σ.2 4 (n).toNat) C dM_drop_58 (by show (4 : Nat) < 18; decide) rfl rfl (by omega) (by decide) rfl ?_
          refine v_zast (k := 3) C dM_drop_59 (by show (3 : Nat) < 18; decide) rfl rfl (by omega) (by decide) (by omega) ?_
          refine v_iconst C dM_drop_60 ?_
          exact v_zret C hRt hLk dM_drop_61 (fN_bool (by omega)) (by first | exact Or.inl ⟨by omega, by omega, rfl, rfl⟩ | exact Or.inr (Or.inl ⟨by omega, by omega, rfl, rfl⟩) | exact Or.inr (Or.inr ⟨by omega, rfl, rfl⟩))
        · refine v_iconst C dM_drop_32 ?_
          exact v_zret C hRt hLk dM_drop_33 (fN_bool (by omega)) (by first | exact Or.inl ⟨by omega, by omega, rfl, rfl⟩ | exact Or.inr (Or.inl ⟨by omega, by omega, rfl, rfl⟩) | exact Or.inr (Or.inr ⟨by omega, rfl, rfl⟩))
  · subst σ1
    refine v_if_eq (tgt := 12) C dM_drop_5 (by decide) (by omega) (fun hc6 => ?_) (fun hc6 => ?_)
    · refine v_iconst C dM_drop_12 ?_
      refine v_putI (k := 0) (q := 0) C dM_drop_13 (by show (0 : Nat) < 18; decide) rfl rfl (by decide) rfl inM tyM_ok nmM lM_63 rfl rfl rfl rfl rfl ?_
      refine v_aload_n C dM_drop_16 rfl rfl ?_
      refine v_getI (k := 0) (q := 0) (v := 1) C dM_drop_17 (by show (0 : Nat) < 18; decide) rfl rfl (by decide) rfl inM lM_63 rfl rfl ?_
      refine v_if_gt (tgt := 32) C dM_drop_20 (by decide) (by omega) (fun hc7 => ?_) (fun hc7 => ?_)
      · refine v_iconst C dM_drop_32 ?_
        exact v_zret C hRt hLk dM_drop_33 (fN_bool (by omega)) (by first | exact Or.inl ⟨by omega, by omega, rfl, rfl⟩ | exact Or.inr (Or.inl ⟨by omega, by omega, rfl, rfl⟩) | exact Or.inr (Or.inr ⟨by omega, rfl, rfl⟩))
      · exfalso; omega
    · exfalso; omega
set_option maxRecDepth 100000 in
set_option maxHeartbeats 4000000 in
/-- first(n, on) -/
theorem kM_first (l : Launch) (xCl : List vw_C) (D : va_G) (cA : Nat → ClassId) (ad : Nat → Nat) (hJ : f_J (mG xCl D cA ad)) (σ : fS) (n w : Int) (hn : -2147483648 ≤ n ∧ n ≤ 2147483647) (hw : w = 0 ∨ w = 1) (h1 : ∀ i, 0 ≤ σ.2 1 i ∧ σ.2 1 i ≤ 1) (h2 : ∀ i, 0 ≤ σ.2 2 i ∧ σ.2 2 i ≤ 1) : f_M l (mG xCl D cA ad) mE yM_first (Cond.code yM_first cM_first 3 (some .boolean) :: A9) 2 σ [.ref (ad 0), .int (fI n), .int (fI w)] (f_QI (fun r σ1 => (((1 ≤ n ∧ n ≤ 40) ∧ σ.2 1 n.toNat = 1) ∧ σ.2 2 n.toNat ≠ w ∧ r = 1 ∧ σ1 = f_p2 (f_p1 σ 0 0 0) 2 n.toNat w) ∨ (((1 ≤ n ∧ n ≤ 40) ∧ σ.2 1 n.toNat = 1) ∧ σ.2 2 n.toNat = w ∧ r = 0 ∧ σ1 = f_p1 σ 0 0 0) ∨ (¬ ((1 ≤ n ∧ n ≤ 40) ∧ σ.2 1 n.toNat = 1) ∧ r = 0 ∧ σ1 = f_p1 σ 0 0 1)) (mG xCl D cA ad)) := by
  refine f_enter (by decide +kernel) hJ rfl (Nat.le_of_ble_eq_true rfl) ?_
  intro z hzl hR C hRt hLk hEz
  subst hzl
  refine v_aload_n C dM_first_0 rfl rfl ?_
  refine v_aload_n C dM_first_1 rfl rfl ?_
  refine v_iload_n C dM_first_2 rfl rfl ?_
  refine v_cVI (k := 0) (n := 1) C (mE_ok _) trivial hR (kM_has2 _ xCl D cA ad hJ _ (n) (by omega) h1) dM_first_3 (by show (0 : Nat) < 18; decide) rfl rfl gM_71 (by decide +kernel) (by decide) (by decide) rfl (Nat.le_of_ble_eq_true rfl) rfl ⟨rfl, rfl⟩ (fun r1 σ1 hp1 => ?_)
  rcases hp1 with ⟨hq, rfl, e2⟩ | ⟨hq, rfl, e2⟩
  · subst σ1
    refine v_if_eq (tgt := 13) C dM_first_6 (by decide) (by omega) (fun hc1 => ?_) (fun hc1 => ?_)
    · exfalso; omega
    · refine v_iconst C dM_first_9 ?_
      refine v_goto (tgt := 14) C dM_first_10 (by decide) ?_
      refine v_putI (k := 0) (q := 0) C dM_first_14 (by show (0 : Nat) < 18; decide) rfl rfl (by decide) rfl inM tyM_ok nmM lM_63 rfl rfl rfl rfl rfl ?_
      refine v_aload_n C dM_first_17 rfl rfl ?_
      refine v_getI (k := 0) (q := 0) (v := 0) C dM_first_18 (by show (0 : Nat) < 18; decide) rfl rfl (by decide) rfl inM lM_63 rfl rfl ?_
      refine v_if_gt (tgt := 34) C dM_first_21 (by decide) (by omega) (fun hc2 => ?_) (fun hc2 => ?_)
      · exfalso; omega
      · refine v_aload_n C dM_first_24 rfl rfl ?_
        refine v_getR (k := 0) (q := 2) C dM_first_25 (by show (0 : Nat) < 18; decide) rfl rfl (by decide) rfl inM lM_13 rfl ?_
        refine v_iload_n C dM_first_28 rfl rfl ?_
        have hb3 := h2 (n).toNat
        refine v_zald (k := 2) (v := σ.2 2 (n).toNat) C dM_first_29 (by show (2 : Nat) < 18; decide) rfl rfl (by omega) (by decide) rfl ?_
        refine v_iload_n C dM_first_30 rfl rfl ?_
        refine v_icmp_ne (tgt := 36) C dM_first_31 (by decide) (by omega) (by omega) (fun hc4 => ?_) (fun hc4 => ?_)
        · refine v_aload_n C dM_first_36 rfl rfl ?_
          refine v_getR (k := 0) (q := 2) C dM_first_37 (by show (0 : Nat) < 18; decide) rfl rfl (by decide) rfl inM lM_13 rfl ?_
          refine v_iload_n C dM_first_40 rfl rfl ?_
          refine v_iload_n C dM_first_41 rfl rfl ?_
          refine v_zast (k := 2) C dM_first_42 (by show (2 : Nat) < 18; decide) rfl rfl (by omega) (by decide) (by omega) ?_
          refine v_iconst C dM_first_43 ?_
          exact v_zret C hRt hLk dM_first_44 (fN_bool (by omega)) (by first | exact Or.inl ⟨by omega, by omega, rfl, rfl⟩ | exact Or.inr (Or.inl ⟨by omega, by omega, rfl, rfl⟩) | exact Or.inr (Or.inr ⟨by omega, rfl, rfl⟩))
        · refine v_iconst C dM_first_34 ?_
          exact v_zret C hRt hLk dM_first_35 (fN_bool (by omega)) (by first | exact Or.inl ⟨by omega, by omega, rfl, rfl⟩ | exact Or.inr (Or.inl ⟨by omega, by omega, rfl, rfl⟩) | exact Or.inr (Or.inr ⟨by omega, rfl, rfl⟩))
  · subst σ1
    refine v_if_eq (tgt := 13) C dM_first_6 (by decide) (by omega) (fun hc5 => ?_) (fun hc5 => ?_)
    · refine v_iconst C dM_first_13 ?_
      refine v_putI (k := 0) (q := 0) C dM_first_14 (by show (0 : Nat) < 18; decide) rfl rfl (by decide) rfl inM tyM_ok nmM lM_63 rfl rfl rfl rfl rfl ?_
      refine v_aload_n C dM_first_17 rfl rfl ?_
      refine v_getI (k := 0) (q := 0) (v := 1) C dM_first_18 (by show (0 : Nat) < 18; decide) rfl rfl (by decide) rfl inM lM_63 rfl rfl ?_
      refine v_if_gt (tgt := 34) C dM_first_21 (by decide) (by omega) (fun hc6 => ?_) (fun hc6 => ?_)
      · refine v_iconst C dM_first_34 ?_
        exact v_zret C hRt hLk dM_first_35 (fN_bool (by omega)) (by first | exact Or.inl ⟨by omega, by omega, rfl, rfl⟩ | exact Or.inr (Or.inl ⟨by omega, by omega, rfl, rfl⟩) | exact Or.inr (Or.inr ⟨by omega, rfl, rfl⟩))
      · exfalso; omega
    · exfalso; omega
set_option maxRecDepth 100000 in
set_option maxHeartbeats 4000000 in
/-- row(i, what) -/
theorem kM_row (l : Launch) (xCl : List vw_C) (D : va_G) (cA : Nat → ClassId) (ad : Nat → Nat) (hJ : f_J (mG xCl D cA ad)) (σ : fS) (i w : Int) (hi : -2147483648 ≤ i ∧ i ≤ 2147483647) (hw : -2147483648 ≤ w ∧ w ≤ 2147483647) (hd : σ.1 0 28 = 0 ∨ σ.1 0 28 = 1) (hr : 0 ≤ σ.1 0 29 ∧ σ.1 0 29 ≤ 40) : f_M l (mG xCl D cA ad) mE yM_row (Cond.code yM_row cM_row 3 (some .int) :: A9) 0 σ [.ref (ad 0), .int (fI i), .int (fI w)] (f_QI (fun r σ1 => ((σ.1 0 28 = 1 ∧ (0 ≤ i ∧ i < σ.1 0 29) ∧ 0 ≤ w ∧ w ≤ 1) ∧ ((w = 0 ∧ r = σ.2 16 i.toNat) ∨ (w = 1 ∧ r = σ.2 17 i.toNat)) ∧ σ1 = f_p1 σ 0 0 0) ∨ (¬ (σ.1 0 28 = 1 ∧ (0 ≤ i ∧ i < σ.1 0 29) ∧ 0 ≤ w ∧ w ≤ 1) ∧ r = 0 ∧ σ1 = f_p1 σ 0 0 1)) (mG xCl D cA ad)) := by
  refine f_enter (by decide +kernel) hJ rfl (Nat.le_of_ble_eq_true rfl) ?_
  intro z hzl hR C hRt hLk hEz
  subst hzl
  refine v_aload_n C dM_row_0 rfl rfl ?_
  refine v_aload_n C dM_row_1 rfl rfl ?_
  refine v_getI (k := 0) (q := 28) (v := σ.1 0 28) C dM_row_2 (by show (0 : Nat) < 18; decide) rfl rfl (by decide) rfl inM lM_207 rfl rfl ?_
  refine v_if_eq (tgt := 29) C dM_row_5 (by decide) (by omega) (fun hc1 => ?_) (fun hc1 => ?_)
  · refine v_iconst C dM_row_29 ?_
    refine v_goto (tgt := 34) C dM_row_30 (by decide) ?_
    refine v_putI (k := 0) (q := 0) C dM_row_34 (by show (0 : Nat) < 18; decide) rfl rfl (by decide) rfl inM tyM_ok nmM lM_63 rfl rfl rfl rfl rfl ?_
    refine v_aload_n C dM_row_37 rfl rfl ?_
    refine v_getI (k := 0) (q := 0) (v := 1) C dM_row_38 (by show (0 : Nat) < 18; decide) rfl rfl (by decide) rfl inM lM_63 rfl rfl ?_
    refine v_if_le (tgt := 48) C dM_row_41 (by decide) (by omega) (fun hc2 => ?_) (fun hc2 => ?_)
    · exfalso; omega
    · refine v_iconst C dM_row_44 ?_
      refine v_goto (tgt := 67) C dM_row_45 (by decide) ?_
      exact v_iret C hRt hLk dM_row_67 (by first | exact Or.inl ⟨by omega, by omega, rfl⟩ | exact Or.inr ⟨by omega, rfl, rfl⟩)
  · refine v_iload_n C dM_row_8 rfl rfl ?_
    refine v_if_lt (tgt := 29) C dM_row_9 (by decide) (by omega) (fun hc3 => ?_) (fun hc3 => ?_)
    · refine v_iconst C dM_row_29 ?_
      refine v_goto (tgt := 34) C dM_row_30 (by decide) ?_
      refine v_putI (k := 0) (q := 0) C dM_row_34 (by show (0 : Nat) < 18; decide) rfl rfl (by decide) rfl inM tyM_ok nmM lM_63 rfl rfl rfl rfl rfl ?_
      refine v_aload_n C dM_row_37 rfl rfl ?_
      refine v_getI (k := 0) (q := 0) (v := 1) C dM_row_38 (by show (0 : Nat) < 18; decide) rfl rfl (by decide) rfl inM lM_63 rfl rfl ?_
      refine v_if_le (tgt := 48) C dM_row_41 (by decide) (by omega) (fun hc4 => ?_) (fun hc4 => ?_)
      · exfalso; omega
      · refine v_iconst C dM_row_44 ?_
        refine v_goto (tgt := 67) C dM_row_45 (by decide) ?_
        exact v_iret C hRt hLk dM_row_67 (by first | exact Or.inl ⟨by omega, by omega, rfl⟩ | exact Or.inr ⟨by omega, rfl, rfl⟩)
    · refine v_iload_n C dM_row_12 rfl rfl ?_
      refine v_aload_n C dM_row_13 rfl rfl ?_
      refine v_getI (k := 0) (q := 29) (v := σ.1 0 29) C dM_row_14 (by show (0 : Nat) < 18; decide) rfl rfl (by decide) rfl inM lM_204 rfl rfl ?_
      refine v_icmp_ge (tgt := 29) C dM_row_17 (by decide) (by omega) (by omega) (fun hc5 => ?_) (fun hc5 => ?_)
      · refine v_iconst C dM_row_29 ?_
        refine v_goto (tgt := 34) C dM_row_30 (by decide) ?_
        refine v_putI (k := 0) (q := 0) C dM_row_34 (by show (0 : Nat) < 18; decide) rfl rfl (by decide) rfl inM tyM_ok nmM lM_63 rfl rfl rfl rfl rfl ?_
        refine v_aload_n C dM_row_37 rfl rfl ?_
        refine v_getI (k := 0) (q := 0) (v := 1) C dM_row_38 (by show (0 : Nat) < 18; decide) rfl rfl (by decide) rfl inM lM_63 rfl rfl ?_
        refine v_if_le (tgt := 48) C dM_row_41 (by decide) (by omega) (fun hc6 => ?_) (fun hc6 => ?_)
        · exfalso; omega
        · refine v_iconst C dM_row_44 ?_
          refine v_goto (tgt := 67) C dM_row_45 (by decide) ?_
          exact v_iret C hRt hLk dM_row_67 (by first | exact Or.inl ⟨by omega, by omega, rfl⟩ | exact Or.inr ⟨by omega, rfl, rfl⟩)
      · refine v_iload_n C dM_row_20 rfl rfl ?_
        refine v_if_lt (tgt := 29) C dM_row_21 (by decide) (by omega) (fun hc7 => ?_) (fun hc7 => ?_)
        · refine v_iconst C dM_row_29 ?_
          refine v_goto (tgt := 34) C dM_row_30 (by decide) ?_
          refine v_putI (k := 0) (q := 0) C dM_row_34 (by show (0 : Nat) < 18; decide) rfl rfl (by decide) rfl inM tyM_ok nmM lM_63 rfl rfl rfl rfl rfl ?_
          refine v_aload_n C dM_row_37 rfl rfl ?_
          refine v_getI (k := 0) (q := 0) (v := 1) C dM_row_38 (by show (0 : Nat) < 18; decide) rfl rfl (by decide) rfl inM lM_63 rfl rfl ?_
          refine v_if_le (tgt := 48) C dM_row_41 (by decide) (by omega) (fun hc8 => ?_) (fun hc8 => ?_)
          · exfalso; omega
          · refine v_iconst C dM_row_44 ?_
            refine v_goto (tgt := 67) C dM_row_45 (by decide) ?_
            exact v_iret C hRt hLk dM_row_67 (by first | exact Or.inl ⟨by omega, by omega, rfl⟩ | exact Or.inr ⟨by omega, rfl, rfl⟩)
        · refine v_iload_n C dM_row_24 rfl rfl ?_
          refine v_iconst C dM_row_25 ?_
          refine v_icmp_le (tgt := 33) C dM_row_26 (by decide) (by omega) (by omega) (fun hc9 => ?_) (fun hc9 => ?_)
          · refine v_iconst C dM_row_33 ?_
            refine v_putI (k := 0) (q := 0) C dM_row_34 (by show (0 : Nat) < 18; decide) rfl rfl (by decide) rfl inM tyM_ok nmM lM_63 rfl rfl rfl rfl rfl ?_
            refine v_aload_n C dM_row_37 rfl rfl ?_
            refine v_getI (k := 0) (q := 0) (v := 0) C dM_row_38 (by show (0 : Nat) < 18; decide) rfl rfl (by decide) rfl inM lM_63 rfl rfl ?_
            refine v_if_le (tgt := 48) C dM_row_41 (by decide) (by omega) (fun hc10 => ?_) (fun hc10 => ?_)
            · refine v_iload_n C dM_row_48 rfl rfl ?_
              refine v_if_ne (tgt := 61) C dM_row_49 (by decide) (by omega) (fun hc11 => ?_) (fun hc11 => ?_)
              · refine v_aload_n C dM_row_61 rfl rfl ?_
                refine v_getR (k := 0) (q := 31) C dM_row_62 (by show (0 : Nat) < 18; decide) rfl rfl (by decide) rfl inM lM_60 rfl ?_
                refine v_iload_n C dM_row_65 rfl rfl ?_
                refine v_iald (k := 17) (v := σ.2 17 (i).toNat) C dM_row_66 (by show (17 : Nat) < 18; decide) rfl rfl (by omega) (by decide) rfl ?_
                exact v_iret C hRt hLk dM_row_67 (by first | exact Or.inl ⟨by omega, by omega, rfl⟩ | exact Or.inr ⟨by omega, rfl, rfl⟩)
              · refine v_aload_n C dM_row_52 rfl rfl ?_
                refine v_getR (k := 0) (q := 30) C dM_row_53 (by show (0 : Nat) < 18; decide) rfl rfl (by decide) rfl inM lM_57 rfl ?_
                refine v_iload_n C dM_row_56 rfl rfl ?_
                refine v_iald (k := 16) (v := σ.2 16 (i).toNat) C dM_row_57 (by show (16 : Nat) < 18; decide) rfl rfl (by omega) (by decide) rfl ?_
                refine v_goto (tgt := 67) C dM_row_58 (by decide) ?_
                exact v_iret C hRt hLk dM_row_67 (by first | exact Or.inl ⟨by omega, by omega, rfl⟩ | exact Or.inr ⟨by omega, rfl, rfl⟩)
            · exfalso; omega
          · refine v_iconst C dM_row_29 ?_
            refine v_goto (tgt := 34) C dM_row_30 (by decide) ?_
            refine v_putI (k := 0) (q := 0) C dM_row_34 (by show (0 : Nat) < 18; decide) rfl rfl (by decide) rfl inM tyM_ok nmM lM_63 rfl rfl rfl rfl rfl ?_
            refine v_aload_n C dM_row_37 rfl rfl ?_
            refine v_getI (k := 0) (q := 0) (v := 1) C dM_row_38 (by show (0 : Nat) < 18; decide) rfl rfl (by decide) rfl inM lM_63 rfl rfl ?_
            refine v_if_le (tgt := 48) C dM_row_41 (by decide) (by omega) (fun hc12 => ?_) (fun hc12 => ?_)
            · exfalso; omega
            · refine v_iconst C dM_row_44 ?_
              refine v_goto (tgt := 67) C dM_row_45 (by decide) ?_
              exact v_iret C hRt hLk dM_row_67 (by first | exact Or.inl ⟨by omega, by omega, rfl⟩ | exact Or.inr ⟨by omega, rfl, rfl⟩)
end
section
/-- all are saved, up to object k - 1 -/
def m_save (σ : fS) (k : Nat) : fS := (σ.1, fun a b => if a = 3 ∧ 1 ≤ b ∧ b < k then 0 else if a = 4 ∧ 1 ≤ b ∧ b < k then σ.2 1 b else σ.2 a b)
theorem m_save_0 (σ : fS) : σ = m_save σ 1 := fS_ext (fun _ _ => rfl) (fun a b => by
  show σ.2 a b = if a = 3 ∧ 1 ≤ b ∧ b < 1 then 0 else if a = 4 ∧ 1 ≤ b ∧ b < 1 then σ.2 1 b else σ.2 a b
  rw [if_neg (by omega), if_neg (by omega)])
theorem m_save_s (σ : fS) (n : Int) (hn : 1 ≤ n) : f_p2 (f_p2 (m_save σ n.toNat) 3 n.toNat 0) 4 n.toNat (σ.2 1 n.toNat) = m_save σ (n + 1).toNat := by
  refine fS_ext (fun a b => rfl) (fun a b => ?_)
  rw [p2_2, p2_2, show (n + 1).toNat = n.toNat + 1 by omega]
  have h1 : 1 ≤ n.toNat := by omega
  generalize n.toNat = k at *
  show (if a = 4 ∧ b = k then σ.2 1 k else if a = 3 ∧ b = k then 0 else if a = 3 ∧ 1 ≤ b ∧ b < k then 0 else if a = 4 ∧ 1 ≤ b ∧ b < k then σ.2 1 b else σ.2 a b) = if a = 3 ∧ 1 ≤ b ∧ b < k + 1 then 0 else if a = 4 ∧ 1 ≤ b ∧ b < k + 1 then σ.2 1 b else σ.2 a b
  grind
/-- how many of 1 .. k are 1 -/
def m_cnt (f : Nat → Int) : Nat → Int
  | 0 => 0
  | k + 1 => m_cnt f k + (if f (k + 1) = 1 then 1 else 0)
theorem m_cnt_s (f : Nat → Int) (n : Int) (hn : 1 ≤ n) : m_cnt f n.toNat = m_cnt f (n - 1).toNat + (if f n.toNat = 1 then 1 else 0) := by
  have h : n.toNat = (n - 1).toNat + 1 := by omega
  rw [h]
  rfl
/-- zeros in the row of object n, up to place k -/
def m_zero (σ : fS) (n : Int) (k : Nat) : fS := (σ.1, fun a b => if a = 6 ∧ (120 * n).toNat ≤ b ∧ b < (120 * n).toNat + k then 0 else σ.2 a b)
theorem m_zero_0 (σ : fS) (n : Int) : σ = m_zero σ n 0 := fS_ext (fun _ _ => rfl) (fun a b => by
  show σ.2 a b = if a = 6 ∧ (120 * n).toNat ≤ b ∧ b < (120 * n).toNat + 0 then 0 else σ.2 a b
  rw [if_neg (by omega)])
theorem m_zero_s (σ : fS) (n k : Int) (hn : 0 ≤ n) (hk : 0 ≤ k) : f_p2 (m_zero σ n k.toNat) 6 (120 * n + k).toNat 0 = m_zero σ n (k + 1).toNat := by
  refine fS_ext (fun a b => rfl) (fun a b => ?_)
  rw [p2_2, show (120 * n + k).toNat = (120 * n).toNat + k.toNat by omega, show (k + 1).toNat = k.toNat + 1 by omega]
  simp only [m_zero]
  generalize k.toNat = j
  generalize (120 * n).toNat = q
  show (if a = 6 ∧ b = q + j then 0 else if a = 6 ∧ q ≤ b ∧ b < q + j then 0 else σ.2 a b) = if a = 6 ∧ q ≤ b ∧ b < q + (j + 1) then 0 else σ.2 a b
  grind
/-- where the line that begins at p ends -/
def eolF (f : Nat → Int) : Nat → Int → Int
  | 0, p => p
  | k + 1, p => if f p.toNat = 10 then p else eolF f k (p + 1)
def m_eol (σ : fS) (p : Int) : Int := eolF (σ.2 7) (σ.1 0 7 - p).toNat p
theorem eolF_le (f : Nat → Int) : ∀ (k : Nat) (p : Int), p ≤ eolF f k p ∧ eolF f k p ≤ p + k := by
  intro k
  induction k with
  | zero => intro p; show p ≤ p ∧ p ≤ p + 0; omega
  | succ k ih =>
    intro p
    have h := ih (p + 1)
    unfold eolF
    split <;> omega
/-- digits read from p, of a value v so far -/
def numF (f : Nat → Int) (le : Int) : Nat → Int → Int → Int × Int
  | 0, p, v => (v, p)
  | k + 1, p, v => if p < le ∧ 48 ≤ f p.toNat ∧ f p.toNat ≤ 57 then numF f le k (p + 1) (10 * v + f p.toNat - 48) else (v, p)
/-- the fields number and cursor -/
def m_nc (σ : fS) (v p : Int) : fS := f_p1 (f_p1 σ 0 22 v) 0 21 p
theorem m_nc_s (σ : fS) (v p v1 p1 : Int) : f_p1 (f_p1 (m_nc σ v p) 0 22 v1) 0 21 p1 = m_nc σ v1 p1 := by
  refine fS_ext (fun a b => ?_) (fun _ _ => rfl)
  unfold m_nc
  rw [p1_1, p1_1, p1_1, p1_1, p1_1, p1_1]
  grind
theorem m_nc_0 (σ : fS) : f_p1 σ 0 22 0 = m_nc σ 0 (σ.1 0 21) := by
  refine fS_ext (fun a b => ?_) (fun _ _ => rfl)
  unfold m_nc
  rw [p1_1, p1_1, p1_1]
  grind
theorem p1_same (σ : fS) (k q : Nat) : f_p1 σ k q (σ.1 k q) = σ := fS_ext (fun a b => by
  rw [p1_1]
  split
  · rename_i h; rw [h.1, h.2]
  · rfl) (fun _ _ => rfl)
/-- the fields cursor and lineEnd -/
def m_cl (σ : fS) (p e : Int) : fS := f_p1 (f_p1 σ 0 21 p) 0 20 e
theorem m_cl_s (σ : fS) (p e e1 : Int) : f_p1 (m_cl σ p e) 0 20 e1 = m_cl σ p e1 := by
  refine fS_ext (fun a b => ?_) (fun _ _ => rfl)
  unfold m_cl
  rw [p1_1, p1_1, p1_1, p1_1, p1_1]
  grind
/-- object n comes, with m bytes -/
def m_bring (σ : fS) (n m : Int) : fS := f_p2 (f_p2 (f_p2 (f_p2 (f_p1 σ 0 0 0) 1 n.toNat 1) 2 n.toNat 0) 3 n.toNat 1) 5 n.toNat m
set_option maxRecDepth 100000 in
set_option maxHeartbeats 4000000 in
/-- save() -/
theorem kM_save (l : Launch) (xCl : List vw_C) (D : va_G) (cA : Nat → ClassId) (ad : Nat → Nat) (hJ : f_J (mG xCl D cA ad)) (σ : fS) (h1 : ∀ i, 0 ≤ σ.2 1 i ∧ σ.2 1 i ≤ 1) : f_M l (mG xCl D cA ad) mE yM_save (Cond.code yM_save cM_save 2 none :: A9) 0 σ [.ref (ad 0)] (f_QV (fun σ1 => σ1 = m_save σ 41) (mG xCl D cA ad)) := by
  refine f_enter (by decide +kernel) hJ rfl (Nat.le_of_ble_eq_true rfl) ?_
  intro z hzl hR C hRt hLk hEz
  subst hzl
  have L : ∀ (k : Nat) (n : Int), n + k = 41 → 1 ≤ n → fv z (mG xCl D cA ad) 2 (f_R z (mG xCl D cA ad) (f_QV (fun σ1 => σ1 = m_save σ 41) (mG xCl D cA ad))) 0 0 (m_save σ n.toNat) 2 [some (.ref (ad 0)), some (.int (fI n))] [] := by
    intro k
    induction k with
    | zero =>
      intro n hk hn
      have hb := h1 n.toNat
      refine v_iload_n C dM_save_2 rfl rfl ?_
      refine v_bipush C dM_save_3 (by decide +kernel) ?_
      refine v_icmp_gt (tgt := 33) C dM_save_5 (by decide) (by omega) (by omega) (fun hc1 => ?_) (fun hc1 => ?_)
      · exact v_vret C hRt hLk dM_save_33 (by rw [show n.toNat = 41 by omega])
      · exfalso; omega
    | succ k ih =>
      intro n hk hn
      have hb := h1 n.toNat
      refine v_iload_n C dM_save_2 rfl rfl ?_
      refine v_bipush C dM_save_3 (by decide +kernel) ?_
      refine v_icmp_gt (tgt := 33) C dM_save_5 (by decide) (by omega) (by omega) (fun hc2 => ?_) (fun hc2 => ?_)
      · exfalso; omega
      · refine v_aload_n C dM_save_8 rfl rfl ?_
        refine v_getR (k := 0) (q := 3) C dM_save_9 (by show (0 : Nat) < 18; decide) rfl rfl (by decide) rfl inM lM_16 rfl ?_
        refine v_iload_n C dM_save_12 rfl rfl ?_
        refine v_iconst C dM_save_13 ?_
        refine v_zast (k := 3) C dM_save_14 (by show (3 : Nat) < 18; decide) rfl rfl (by omega) (by decide) (by omega) ?_
        refine v_aload_n C dM_save_15 rfl rfl ?_
        refine v_getR (k := 0) (q := 4) C dM_save_16 (by show (0 : Nat) < 18; decide) rfl rfl (by decide) rfl inM lM_19 rfl ?_
        refine v_iload_n C dM_save_19 rfl rfl ?_
        refine v_aload_n C dM_save_20 rfl rfl ?_
        refine v_getR (k := 0) (q := 1) C dM_save_21 (by show (0 : Nat) < 18; decide) rfl rfl (by decide) rfl inM lM_7 rfl ?_
        refine v_iload_n C dM_save_24 rfl rfl ?_
        refine v_zald (k := 1) (v := σ.2 1 (n).toNat) C dM_save_25 (by show (1 : Nat) < 18; decide) rfl rfl (by omega) (by decide) (by simp [m_save, p2_2]) ?_
        refine v_zast (k := 4) C dM_save_26 (by show (4 : Nat) < 18; decide) rfl rfl (by omega) (by decide) (by omega) ?_
        refine v_iinc C dM_save_27 rfl (by decide) ?_
        refine v_goto (tgt := 2) C dM_save_30 (by decide) ?_
        exact v_st (m_save_s σ n hn) (ih (n + 1) (by omega) (by omega))
  refine v_iconst C dM_save_0 ?_
  refine v_istore_n C dM_save_1 rfl (by decide) ?_
  exact v_st (m_save_0 σ) (L 40 1 (by omega) (by omega))
set_option maxRecDepth 100000 in
set_option maxHeartbeats 4000000 in
/-- changed() -/
theorem kM_changed (l : Launch) (xCl : List vw_C) (D : va_G) (cA : Nat → ClassId) (ad : Nat → Nat) (hJ : f_J (mG xCl D cA ad)) (σ : fS) (h3 : ∀ i, 0 ≤ σ.2 3 i ∧ σ.2 3 i ≤ 1) : f_M l (mG xCl D cA ad) mE yM_changed (Cond.code yM_changed cM_changed 3 (some .int) :: A9) 0 σ [.ref (ad 0)] (f_QI (fun r σ1 => r = m_cnt (σ.2 3) 40 ∧ σ1 = σ) (mG xCl D cA ad)) := by
  refine f_enter (by decide +kernel) hJ rfl (Nat.le_of_ble_eq_true rfl) ?_
  intro z hzl hR C hRt hLk hEz
  subst hzl
  have L : ∀ (k : Nat) (n c : Int), n + k = 41 → 1 ≤ n → c = m_cnt (σ.2 3) (n - 1).toNat → fv z (mG xCl D cA ad) 3 (f_R z (mG xCl D cA ad) (f_QI (fun r σ1 => r = m_cnt (σ.2 3) 40 ∧ σ1 = σ) (mG xCl D cA ad))) 0 0 σ 4 [some (.ref (ad 0)), some (.int (fI c)), some (.int (fI n))] [] := by
    intro k
    induction k with
    | zero =>
      intro n c hk hn hc
      have hb := h3 n.toNat
      have hs := m_cnt_s (σ.2 3) n hn
      refine v_iload_n C dM_changed_4 rfl rfl ?_
      refine v_bipush C dM_changed_5 (by decide +kernel) ?_
      refine v_icmp_gt (tgt := 33) C dM_changed_7 (by decide) (by omega) (by omega) (fun hc1 => ?_) (fun hc1 => ?_)
      · refine v_iload_n C dM_changed_33 rfl rfl ?_
        exact v_iret C hRt hLk dM_changed_34 ⟨by rw [hc, show (n - 1).toNat = 40 by omega], rfl⟩
      · exfalso; omega
    | succ k ih =>
      intro n c hk hn hc
      have hb := h3 n.toNat
      have hs := m_cnt_s (σ.2 3) n hn
      refine v_iload_n C dM_changed_4 rfl rfl ?_
      refine v_bipush C dM_changed_5 (by decide +kernel) ?_
      refine v_icmp_gt (tgt := 33) C dM_changed_7 (by decide) (by omega) (by omega) (fun hc2 => ?_) (fun hc2 => ?_)
      · exfalso; omega
      · refine v_aload_n C dM_changed_10 rfl rfl ?_
        refine v_getR (k := 0) (q := 3) C dM_changed_11 (by show (0 : Nat) < 18; decide) rfl rfl (by decide) rfl inM lM_16 rfl ?_
        refine v_iload_n C dM_changed_14 rfl rfl ?_
        refine v_zald (k := 3) (v := σ.2 3 (n).toNat) C dM_changed_15 (by show (3 : Nat) < 18; decide) rfl rfl (by omega) (by decide) rfl ?_
        refine v_if_eq (tgt := 25) C dM_changed_16 (by decide) (by omega) (fun hc3 => ?_) (fun hc3 => ?_)
        · refine v_iload_n C dM_changed_25 rfl rfl ?_
          refine v_istore_n C dM_changed_26 rfl (by decide) ?_
          refine v_iinc C dM_changed_27 rfl (by decide) ?_
          refine v_goto (tgt := 4) C dM_changed_30 (by decide) ?_
          exact ih (n + 1) (c) (by omega) (by omega) (by rw [show (n + 1 - 1).toNat = n.toNat by omega, hs, hc]; first | (rw [if_pos (by omega)]; done) | (rw [if_neg (by omega)]; omega))
        · refine v_iload_n C dM_changed_19 rfl rfl ?_
          refine v_iconst C dM_changed_20 ?_
          refine v_iadd C dM_changed_21 ?_
          refine v_goto (tgt := 26) C dM_changed_22 (by decide) ?_
          refine v_istore_n C dM_changed_26 rfl (by decide) ?_
          refine v_iinc C dM_changed_27 rfl (by decide) ?_
          refine v_goto (tgt := 4) C dM_changed_30 (by decide) ?_
          exact ih (n + 1) ((c + 1)) (by omega) (by omega) (by rw [show (n + 1 - 1).toNat = n.toNat by omega, hs, hc]; first | (rw [if_pos (by omega)]; done) | (rw [if_neg (by omega)]; omega))
  refine v_iconst C dM_changed_0 ?_
  refine v_istore_n C dM_changed_1 rfl (by decide) ?_
  refine v_iconst C dM_changed_2 ?_
  refine v_istore_n C dM_changed_3 rfl (by decide) ?_
  exact L 40 1 0 (by omega) (by omega) rfl
set_option maxRecDepth 100000 in
set_option maxHeartbeats 4000000 in
/-- object(n, length) -/
theorem kM_object (l : Launch) (xCl : List vw_C) (D : va_G) (cA : Nat → ClassId) (ad : Nat → Nat) (hJ : f_J (mG xCl D cA ad)) (σ : fS) (n m : Int) (hn : -2147483648 ≤ n ∧ n ≤ 2147483647) (hm : -2147483648 ≤ m ∧ m ≤ 2147483647) : f_M l (mG xCl D cA ad) mE yM_object (Cond.code yM_object cM_object 4 none :: A9) 1 σ [.ref (ad 0), .int (fI n), .int (fI m)] (f_QV (fun σ1 => (¬ (1 ≤ n ∧ n ≤ 40) ∧ σ1 = f_p1 σ 0 0 1) ∨ ((1 ≤ n ∧ n ≤ 40) ∧ ¬ (0 ≤ m ∧ m ≤ 120) ∧ σ1 = f_p1 σ 0 0 2) ∨ ((1 ≤ n ∧ n ≤ 40) ∧ (0 ≤ m ∧ m ≤ 120) ∧ σ1 = m_zero (m_bring σ n m) n 120)) (mG xCl D cA ad)) := by
  refine f_enter (by decide +kernel) hJ rfl (Nat.le_of_ble_eq_true rfl) ?_
  intro z hzl hR C hRt hLk hEz
  subst hzl
  have L : (1 ≤ n ∧ n ≤ 40) → (0 ≤ m ∧ m ≤ 120) → ∀ (k : Nat) (j : Int), j + k = 120 → 0 ≤ j → fv z (mG xCl D cA ad) 4 (f_R z (mG xCl D cA ad) (f_QV (fun σ1 => (¬ (1 ≤ n ∧ n ≤ 40) ∧ σ1 = f_p1 σ 0 0 1) ∨ ((1 ≤ n ∧ n ≤ 40) ∧ ¬ (0 ≤ m ∧ m ≤ 120) ∧ σ1 = f_p1 σ 0 0 2) ∨ ((1 ≤ n ∧ n ≤ 40) ∧ (0 ≤ m ∧ m ≤ 120) ∧ σ1 = m_zero (m_bring σ n m) n 120)) (mG xCl D cA ad))) 0 0 (m_zero (m_bring σ n m) n j.toNat) 68 [some (.ref (ad 0)), some (.int (fI n)), some (.int (fI m)), some (.int (fI j))] [] := by
    intro hn1 hm1 k
    induction k with
    | zero =>
      intro j hk hj
      refine v_iload_n C dM_object_68 rfl rfl ?_
      refine v_bipush C dM_object_69 (by decide +kernel) ?_
      refine v_icmp_ge (tgt := 92) C dM_object_71 (by decide) (by omega) (by omega) (fun hc1 => ?_) (fun hc1 => ?_)
      · exact v_vret C hRt hLk dM_object_92 (by first | exact Or.inl ⟨by omega, rfl⟩ | exact Or.inr (Or.inl ⟨by omega, by omega, rfl⟩) | exact Or.inr (Or.inr ⟨by omega, by omega, by rw [show j.toNat = 120 by omega]⟩))
      · exfalso; omega
    | succ k ih =>
      intro j hk hj
      refine v_iload_n C dM_object_68 rfl rfl ?_
      refine v_bipush C dM_object_69 (by decide +kernel) ?_
      refine v_icmp_ge (tgt := 92) C dM_object_71 (by decide) (by omega) (by omega) (fun hc2 => ?_) (fun hc2 => ?_)
      · exfalso; omega
      · refine v_aload_n C dM_object_74 rfl rfl ?_
        refine v_getR (k := 0) (q := 6) C dM_object_75 (by show (0 : Nat) < 18; decide) rfl rfl (by decide) rfl inM lM_26 rfl ?_
        refine v_bipush C dM_object_78 (by decide +kernel) ?_
        refine v_iload_n C dM_object_80 rfl rfl ?_
        refine v_imul C dM_object_81 ?_
        refine v_iload_n C dM_object_82 rfl rfl ?_
        refine v_iadd C dM_object_83 ?_
        refine v_iconst C dM_object_84 ?_
        refine v_bast (k := 6) C dM_object_85 (by show (6 : Nat) < 18; decide) rfl rfl (by omega) (by decide) (by omega) ?_
        refine v_iinc C dM_object_86 rfl (by decide) ?_
        refine v_goto (tgt := 68) C dM_object_89 (by decide) ?_
        exact v_st (m_zero_s _ n j (by omega) hj) (ih (j + 1) (by omega) (by omega))
  refine v_aload_n C dM_object_0 rfl rfl ?_
  refine v_iload_n C dM_object_1 rfl rfl ?_
  refine v_cSI (n := 1) C (mE_ok _) trivial hR (kM_isObject2 _ xCl D cA ad hJ _ (n) (by omega)) dM_object_2 gM_67 (by decide +kernel) (by decide) (by decide) rfl (Nat.le_of_ble_eq_true rfl) rfl ⟨rfl, rfl⟩ (fun r1 σ1 hp1 => ?_)
  rcases hp1 with ⟨hq, rfl, e2⟩ | ⟨hq, rfl, e2⟩
  · subst σ1
    refine v_if_ne (tgt := 12) C dM_object_5 (by decide) (by omega) (fun hc3 => ?_) (fun hc3 => ?_)
    · refine v_iload_n C dM_object_12 rfl rfl ?_
      refine v_if_lt (tgt := 22) C dM_object_13 (by decide) (by omega) (fun hc4 => ?_) (fun hc4 => ?_)
      · refine v_iconst C dM_object_22 ?_
        refine v_goto (tgt := 27) C dM_object_23 (by decide) ?_
        refine v_putI (k := 0) (q := 0) C dM_object_27 (by show (0 : Nat) < 18; decide) rfl rfl (by decide) rfl inM tyM_ok nmM lM_63 rfl rfl rfl rfl rfl ?_
        refine v_aload_n C dM_object_30 rfl rfl ?_
        refine v_getI (k := 0) (q := 0) (v := 2) C dM_object_31 (by show (0 : Nat) < 18; decide) rfl rfl (by decide) rfl inM lM_63 rfl rfl ?_
        refine v_if_le (tgt := 38) C dM_object_34 (by decide) (by omega) (fun hc5 => ?_) (fun hc5 => ?_)
        · exfalso; omega
        · exact v_vret C hRt hLk dM_object_37 (by first | exact Or.inl ⟨by omega, rfl⟩ | exact Or.inr (Or.inl ⟨by omega, by omega, rfl⟩) | exact Or.inr (Or.inr ⟨by omega, by omega, by rw [show j.toNat = 120 by omega]⟩))
      · refine v_iload_n C dM_object_16 rfl rfl ?_
        refine v_bipush C dM_object_17 (by decide +kernel) ?_
        refine v_icmp_le (tgt := 26) C dM_object_19 (by decide) (by omega) (by omega) (fun hc6 => ?_) (fun hc6 => ?_)
        · refine v_iconst C dM_object_26 ?_
          refine v_putI (k := 0) (q := 0) C dM_object_27 (by show (0 : Nat) < 18; decide) rfl rfl (by decide) rfl inM tyM_ok nmM lM_63 rfl rfl rfl rfl rfl ?_
          refine v_aload_n C dM_object_30 rfl rfl ?_
          refine v_getI (k := 0) (q := 0) (v := 0) C dM_object_31 (by show (0 : Nat) < 18; decide) rfl rfl (by decide) rfl inM lM_63 rfl rfl ?_
          refine v_if_le (tgt := 38) C dM_object_34 (by decide) (by omega) (fun hc7 => ?_) (fun hc7 => ?_)
          · refine v_aload_n C dM_object_38 rfl rfl ?_
            refine v_getR (k := 0) (q := 1) C dM_object_39 (by show (0 : Nat) < 18; decide) rfl rfl (by decide) rfl inM lM_7 rfl ?_
            refine v_iload_n C dM_object_42 rfl rfl ?_
            refine v_iconst C dM_object_43 ?_
            refine v_zast (k := 1) C dM_object_44 (by show (1 : Nat) < 18; decide) rfl rfl (by omega) (by decide) (by omega) ?_
            refine v_aload_n C dM_object_45 rfl rfl ?_
            refine v_getR (k := 0) (q := 2) C dM_object_46 (by show (0 : Nat) < 18; decide) rfl rfl (by decide) rfl inM lM_13 rfl ?_
            refine v_iload_n C dM_object_49 rfl rfl ?_
            refine v_iconst C dM_object_50 ?_
            refine v_zast (k := 2) C dM_object_51 (by show (2 : Nat) < 18; decide) rfl rfl (by omega) (by decide) (by omega) ?_
            refine v_aload_n C dM_object_52 rfl rfl ?_
            refine v_getR (k := 0) (q := 3) C dM_object_53 (by show (0 : Nat) < 18; decide) rfl rfl (by decide) rfl inM lM_16 rfl ?_
            refine v_iload_n C dM_object_56 rfl rfl ?_
            refine v_iconst C dM_object_57 ?_
            refine v_zast (k := 3) C dM_object_58 (by show (3 : Nat) < 18; decide) rfl rfl (by omega) (by decide) (by omega) ?_
            refine v_aload_n C dM_object_59 rfl rfl ?_
            refine v_getR (k := 0) (q := 5) C dM_object_60 (by show (0 : Nat) < 18; decide) rfl rfl (by decide) rfl inM lM_22 rfl ?_
            refine v_iload_n C dM_object_63 rfl rfl ?_
            refine v_iload_n C dM_object_64 rfl rfl ?_
            refine v_iast (k := 5) C dM_object_65 (by show (5 : Nat) < 18; decide) rfl rfl (by omega) (by decide) ?_
            refine v_iconst C dM_object_66 ?_
            refine v_istore_n C dM_object_67 rfl (by decide) ?_
            exact v_st (m_zero_0 _ n) (L (by omega) (by omega) 120 0 (by omega) (by omega))
          · exfalso; omega
        · refine v_iconst C dM_object_22 ?_
          refine v_goto (tgt := 27) C dM_object_23 (by decide) ?_
          refine v_putI (k := 0) (q := 0) C dM_object_27 (by show (0 : Nat) < 18; decide) rfl rfl (by decide) rfl inM tyM_ok nmM lM_63 rfl rfl rfl rfl rfl ?_
          refine v_aload_n C dM_object_30 rfl rfl ?_
          refine v_getI (k := 0) (q := 0) (v := 2) C dM_object_31 (by show (0 : Nat) < 18; decide) rfl rfl (by decide) rfl inM lM_63 rfl rfl ?_
          refine v_if_le (tgt := 38) C dM_object_34 (by decide) (by omega) (fun hc8 => ?_) (fun hc8 => ?_)
          · exfalso; omega
          · exact v_vret C hRt hLk dM_object_37 (by first | exact Or.inl ⟨by omega, rfl⟩ | exact Or.inr (Or.inl ⟨by omega, by omega, rfl⟩) | exact Or.inr (Or.inr ⟨by omega, by omega, by rw [show j.toNat = 120 by omega]⟩))
    · exfalso; omega
  · subst σ1
    refine v_if_ne (tgt := 12) C dM_object_5 (by decide) (by omega) (fun hc9 => ?_) (fun hc9 => ?_)
    · exfalso; omega
    · refine v_iconst C dM_object_8 ?_
      refine v_goto (tgt := 27) C dM_object_9 (by decide) ?_
      refine v_putI (k := 0) (q := 0) C dM_object_27 (by show (0 : Nat) < 18; decide) rfl rfl (by decide) rfl inM tyM_ok nmM lM_63 rfl rfl rfl rfl rfl ?_
      refine v_aload_n C dM_object_30 rfl rfl ?_
      refine v_getI (k := 0) (q := 0) (v := 1) C dM_object_31 (by show (0 : Nat) < 18; decide) rfl rfl (by decide) rfl inM lM_63 rfl rfl ?_
      refine v_if_le (tgt := 38) C dM_object_34 (by decide) (by omega) (fun hc10 => ?_) (fun hc10 => ?_)
      · exfalso; omega
      · exact v_vret C hRt hLk dM_object_37 (by first | exact Or.inl ⟨by omega, rfl⟩ | exact Or.inr (Or.inl ⟨by omega, by omega, rfl⟩) | exact Or.inr (Or.inr ⟨by omega, by omega, by rw [show j.toNat = 120 by omega]⟩))
set_option maxRecDepth 100000 in
set_option maxHeartbeats 4000000 in
/-- octet(n, i, b) -/
theorem kM_octet (l : Launch) (xCl : List vw_C) (D : va_G) (cA : Nat → ClassId) (ad : Nat → Nat) (hJ : f_J (mG xCl D cA ad)) (σ : fS) (n i b : Int) (hn : -2147483648 ≤ n ∧ n ≤ 2147483647) (hi : -2147483648 ≤ i ∧ i ≤ 2147483647) (hb : -128 ≤ b ∧ b ≤ 127) (h1 : ∀ i, 0 ≤ σ.2 1 i ∧ σ.2 1 i ≤ 1) (h3 : ∀ i, 0 ≤ σ.2 3 i ∧ σ.2 3 i ≤ 1) (h5 : ∀ i, 0 ≤ σ.2 5 i ∧ σ.2 5 i ≤ 120) (h6 : ∀ i, -128 ≤ σ.2 6 i ∧ σ.2 6 i ≤ 127) : f_M l (mG xCl D cA ad) mE yM_octet (Cond.code yM_octet cM_octet 5 (some .byte) :: A9) 3 σ [.ref (ad 0), .int (fI n), .int (fI i), .int (fI b)] (f_QI (fun r σ1 => (m_isB σ n i ∧ r = σ.2 6 (120 * n + i).toNat ∧ ((σ.2 3 n.toNat = 1 ∨ σ.2 6 (120 * n + i).toNat ≠ b) ∧ σ1 = f_p2 (f_p2 (f_p1 σ 0 0 0) 6 (120 * n + i).toNat b) 3 n.toNat 1 ∨ (σ.2 3 n.toNat = 0 ∧ σ.2 6 (120 * n + i).toNat = b) ∧ σ1 = f_p2 (f_p2 (f_p1 σ 0 0 0) 6 (120 * n + i).toNat b) 3 n.toNat 0)) ∨ (¬ m_isB σ n i ∧ r = 0 ∧ σ1 = f_p1 σ 0 0 1)) (mG xCl D cA ad)) := by
  refine f_enter (by decide +kernel) hJ rfl (Nat.le_of_ble_eq_true rfl) ?_
  intro z hzl hR C hRt hLk hEz
  subst hzl
  refine v_aload_n C dM_octet_0 rfl rfl ?_
  refine v_iload_n C dM_octet_1 rfl rfl ?_
  refine v_iload_n C dM_octet_2 rfl rfl ?_
  refine v_cVI (k := 0) (n := 2) C (mE_ok _) trivial hR (kM_isByte _ xCl D cA ad hJ σ n i (by omega) (by omega) h1 h5) dM_octet_3 (by show (0 : Nat) < 18; decide) rfl rfl gM_74 (by decide +kernel) (by decide) (by decide) rfl (Nat.le_of_ble_eq_true rfl) rfl ⟨rfl, rfl⟩ (fun r1 σ1 hp1 => ?_)
  rcases hp1 with ⟨hq, rfl, e2⟩ | ⟨hq, rfl, e2⟩
  · subst σ1
    have hq0 := hq
    unfold m_isB at hq0
    have h55 := h5 n.toNat
    refine v_if_ne (tgt := 11) C dM_octet_6 (by decide) (by omega) (fun hc1 => ?_) (fun hc1 => ?_)
    · refine v_aload_n C dM_octet_11 rfl rfl ?_
      refine v_getR (k := 0) (q := 6) C dM_octet_12 (by show (0 : Nat) < 18; decide) rfl rfl (by decide) rfl inM lM_26 rfl ?_
      refine v_bipush C dM_octet_15 (by decide +kernel) ?_
      refine v_iload_n C dM_octet_17 rfl rfl ?_
      refine v_imul C dM_octet_18 ?_
      refine v_iload_n C dM_octet_19 rfl rfl ?_
      refine v_iadd C dM_octet_20 ?_
      have hb2 := h6 (((120 * n) + i)).toNat
      refine v_bald (k := 6) (v := σ.2 6 (((120 * n) + i)).toNat) C dM_octet_21 (by show (6 : Nat) < 18; decide) rfl rfl (by omega) (by decide) rfl ?_
      refine v_istore C dM_octet_22 (by decide) ?_
      refine v_aload_n C dM_octet_24 rfl rfl ?_
      refine v_getR (k := 0) (q := 6) C dM_octet_25 (by show (0 : Nat) < 18; decide) rfl rfl (by decide) rfl inM lM_26 rfl ?_
      refine v_bipush C dM_octet_28 (by decide +kernel) ?_
      refine v_iload_n C dM_octet_30 rfl rfl ?_
      refine v_imul C dM_octet_31 ?_
      refine v_iload_n C dM_octet_32 rfl rfl ?_
      refine v_iadd C dM_octet_33 ?_
      refine v_iload_n C dM_octet_34 rfl rfl ?_
      refine v_bast (k := 6) C dM_octet_35 (by show (6 : Nat) < 18; decide) rfl rfl (by omega) (by decide) (by omega) ?_
      refine v_aload_n C dM_octet_36 rfl rfl ?_
      refine v_getR (k := 0) (q := 3) C dM_octet_37 (by show (0 : Nat) < 18; decide) rfl rfl (by decide) rfl inM lM_16 rfl ?_
      refine v_iload_n C dM_octet_40 rfl rfl ?_
      refine v_aload_n C dM_octet_41 rfl rfl ?_
      refine v_getR (k := 0) (q := 3) C dM_octet_42 (by show (0 : Nat) < 18; decide) rfl rfl (by decide) rfl inM lM_16 rfl ?_
      refine v_iload_n C dM_octet_45 rfl rfl ?_
      have hb3 := h3 (n).toNat
      refine v_zald (k := 3) (v := σ.2 3 (n).toNat) C dM_octet_46 (by show (3 : Nat) < 18; decide) rfl rfl (by omega) (by decide) rfl ?_
      refine v_if_ne (tgt := 56) C dM_octet_47 (by decide) (by omega) (fun hc4 => ?_) (fun hc4 => ?_)
      · refine v_iconst C dM_octet_56 ?_
        refine v_goto (tgt := 61) C dM_octet_57 (by decide) ?_
        refine v_zast (k := 3) C dM_octet_61 (by show (3 : Nat) < 18; decide) rfl rfl (by omega) (by decide) (by omega) ?_
        refine v_iload C dM_octet_62 rfl ?_
        exact v_zret C hRt hLk dM_octet_64 (fN_byte (by omega) (by omega)) (by first | exact Or.inl ⟨hq, rfl, Or.inl ⟨by omega, rfl⟩⟩ | exact Or.inl ⟨hq, rfl, Or.inr ⟨by omega, rfl⟩⟩ | exact Or.inr ⟨hq, rfl, rfl⟩)
      · refine v_iload C dM_octet_50 rfl ?_
        refine v_iload_n C dM_octet_52 rfl rfl ?_
        refine v_icmp_eq (tgt := 60) C dM_octet_53 (by decide) (by omega) (by omega) (fun hc5 => ?_) (fun hc5 => ?_)
        · refine v_iconst C dM_octet_60 ?_
          refine v_zast (k := 3) C dM_octet_61 (by show (3 : Nat) < 18; decide) rfl rfl (by omega) (by decide) (by omega) ?_
          refine v_iload C dM_octet_62 rfl ?_
          exact v_zret C hRt hLk dM_octet_64 (fN_byte (by omega) (by omega)) (by first | exact Or.inl ⟨hq, rfl, Or.inl ⟨by omega, rfl⟩⟩ | exact Or.inl ⟨hq, rfl, Or.inr ⟨by omega, rfl⟩⟩ | exact Or.inr ⟨hq, rfl, rfl⟩)
        · refine v_iconst C dM_octet_56 ?_
          refine v_goto (tgt := 61) C dM_octet_57 (by decide) ?_
          refine v_zast (k := 3) C dM_octet_61 (by show (3 : Nat) < 18; decide) rfl rfl (by omega) (by decide) (by omega) ?_
          refine v_iload C dM_octet_62 rfl ?_
          exact v_zret C hRt hLk dM_octet_64 (fN_byte (by omega) (by omega)) (by first | exact Or.inl ⟨hq, rfl, Or.inl ⟨by omega, rfl⟩⟩ | exact Or.inl ⟨hq, rfl, Or.inr ⟨by omega, rfl⟩⟩ | exact Or.inr ⟨hq, rfl, rfl⟩)
    · exfalso; omega
  · subst σ1
    refine v_if_ne (tgt := 11) C dM_octet_6 (by decide) (by omega) (fun hc6 => ?_) (fun hc6 => ?_)
    · exfalso; omega
    · refine v_iconst C dM_octet_9 ?_
      exact v_zret C hRt hLk dM_octet_10 (fN_byte (by omega) (by omega)) (by first | exact Or.inl ⟨hq, rfl, Or.inl ⟨by omega, rfl⟩⟩ | exact Or.inl ⟨hq, rfl, Or.inr ⟨by omega, rfl⟩⟩ | exact Or.inr ⟨hq, rfl, rfl⟩)
set_option maxRecDepth 100000 in
set_option maxHeartbeats 4000000 in
/-- takes(c) -/
theorem kM_takes (l : Launch) (xCl : List vw_C) (D : va_G) (cA : Nat → ClassId) (ad : Nat → Nat) (hJ : f_J (mG xCl D cA ad)) (σ : fS) (c : Int) (hc : -128 ≤ c ∧ c ≤ 127) (hu : 0 ≤ σ.1 0 21 ∧ σ.1 0 21 ≤ 100000) (he : σ.1 0 20 ≤ 12000 ∨ σ.1 0 20 ≤ σ.1 0 21) (hl : -2147483648 ≤ σ.1 0 20 ∧ σ.1 0 20 ≤ 2147483647) (h7 : ∀ i, -128 ≤ σ.2 7 i ∧ σ.2 7 i ≤ 127) : f_M l (mG xCl D cA ad) mE yM_takes (Cond.code yM_takes cM_takes 3 (some .boolean) :: A9) 0 σ [.ref (ad 0), .int (fI c)] (f_QI (fun r σ1 => ((σ.1 0 21 < σ.1 0 20 ∧ σ.2 7 (σ.1 0 21).toNat = c) ∧ r = 1 ∧ σ1 = f_p1 σ 0 21 (σ.1 0 21 + 1)) ∨ (¬ (σ.1 0 21 < σ.1 0 20 ∧ σ.2 7 (σ.1 0 21).toNat = c) ∧ r = 0 ∧ σ1 = σ)) (mG xCl D cA ad)) := by
  refine f_enter (by decide +kernel) hJ rfl (Nat.le_of_ble_eq_true rfl) ?_
  intro z hzl hR C hRt hLk hEz
  subst hzl
  refine v_aload_n C dM_takes_0 rfl rfl ?_
  refine v_getI (k := 0) (q := 21) (v := σ.1 0 21) C dM_takes_1 (by show (0 : Nat) < 18; decide) rfl rfl (by decide) rfl inM lM_141 rfl rfl ?_
  refine v_aload_n C dM_takes_4 rfl rfl ?_
  refine v_getI (k := 0) (q := 20) (v := σ.1 0 20) C dM_takes_5 (by show (0 : Nat) < 18; decide) rfl rfl (by decide) rfl inM lM_144 rfl rfl ?_
  refine v_icmp_ge (tgt := 28) C dM_takes_8 (by decide) (by omega) (by omega) (fun hc1 => ?_) (fun hc1 => ?_)
  · refine v_iconst C dM_takes_28 ?_
    refine v_istore_n C dM_takes_29 rfl (by decide) ?_
    refine v_aload_n C dM_takes_30 rfl rfl ?_
    refine v_iload_n C dM_takes_31 rfl rfl ?_
    refine v_if_eq (tgt := 44) C dM_takes_32 (by decide) (by omega) (fun hc2 => ?_) (fun hc2 => ?_)
    · refine v_aload_n C dM_takes_44 rfl rfl ?_
      refine v_getI (k := 0) (q := 21) (v := σ.1 0 21) C dM_takes_45 (by show (0 : Nat) < 18; decide) rfl rfl (by decide) rfl inM lM_141 rfl rfl ?_
      refine v_putI (k := 0) (q := 21) C dM_takes_48 (by show (0 : Nat) < 18; decide) rfl rfl (by decide) rfl inM tyM_ok nmM lM_141 rfl rfl rfl rfl rfl ?_
      refine v_iload_n C dM_takes_51 rfl rfl ?_
      exact v_zret C hRt hLk dM_takes_52 (fN_bool (by omega)) (by first | exact Or.inl ⟨by omega, rfl, rfl⟩ | exact Or.inr ⟨by omega, rfl, p1_same _ _ _⟩)
    · exfalso; omega
  · refine v_aload_n C dM_takes_11 rfl rfl ?_
    refine v_getR (k := 0) (q := 8) C dM_takes_12 (by show (0 : Nat) < 18; decide) rfl rfl (by decide) rfl inM lM_30 rfl ?_
    refine v_aload_n C dM_takes_15 rfl rfl ?_
    refine v_getI (k := 0) (q := 21) (v := σ.1 0 21) C dM_takes_16 (by show (0 : Nat) < 18; decide) rfl rfl (by decide) rfl inM lM_141 rfl rfl ?_
    have hb3 := h7 (σ.1 0 21).toNat
    refine v_bald (k := 7) (v := σ.2 7 (σ.1 0 21).toNat) C dM_takes_19 (by show (7 : Nat) < 18; decide) rfl rfl (by omega) (by decide) rfl ?_
    refine v_iload_n C dM_takes_20 rfl rfl ?_
    refine v_icmp_ne (tgt := 28) C dM_takes_21 (by decide) (by omega) (by omega) (fun hc4 => ?_) (fun hc4 => ?_)
    · refine v_iconst C dM_takes_28 ?_
      refine v_istore_n C dM_takes_29 rfl (by decide) ?_
      refine v_aload_n C dM_takes_30 rfl rfl ?_
      refine v_iload_n C dM_takes_31 rfl rfl ?_
      refine v_if_eq (tgt := 44) C dM_takes_32 (by decide) (by omega) (fun hc5 => ?_) (fun hc5 => ?_)
      · refine v_aload_n C dM_takes_44 rfl rfl ?_
        refine v_getI (k := 0) (q := 21) (v := σ.1 0 21) C dM_takes_45 (by show (0 : Nat) < 18; decide) rfl rfl (by decide) rfl inM lM_141 rfl rfl ?_
        refine v_putI (k := 0) (q := 21) C dM_takes_48 (by show (0 : Nat) < 18; decide) rfl rfl (by decide) rfl inM tyM_ok nmM lM_141 rfl rfl rfl rfl rfl ?_
        refine v_iload_n C dM_takes_51 rfl rfl ?_
        exact v_zret C hRt hLk dM_takes_52 (fN_bool (by omega)) (by first | exact Or.inl ⟨by omega, rfl, rfl⟩ | exact Or.inr ⟨by omega, rfl, p1_same _ _ _⟩)
      · exfalso; omega
    · refine v_iconst C dM_takes_24 ?_
      refine v_goto (tgt := 29) C dM_takes_25 (by decide) ?_
      refine v_istore_n C dM_takes_29 rfl (by decide) ?_
      refine v_aload_n C dM_takes_30 rfl rfl ?_
      refine v_iload_n C dM_takes_31 rfl rfl ?_
      refine v_if_eq (tgt := 44) C dM_takes_32 (by decide) (by omega) (fun hc6 => ?_) (fun hc6 => ?_)
      · exfalso; omega
      · refine v_aload_n C dM_takes_35 rfl rfl ?_
        refine v_getI (k := 0) (q := 21) (v := σ.1 0 21) C dM_takes_36 (by show (0 : Nat) < 18; decide) rfl rfl (by decide) rfl inM lM_141 rfl rfl ?_
        refine v_iconst C dM_takes_39 ?_
        refine v_iadd C dM_takes_40 ?_
        refine v_goto (tgt := 48) C dM_takes_41 (by decide) ?_
        refine v_putI (k := 0) (q := 21) C dM_takes_48 (by show (0 : Nat) < 18; decide) rfl rfl (by decide) rfl inM tyM_ok nmM lM_141 rfl rfl rfl rfl rfl ?_
        refine v_iload_n C dM_takes_51 rfl rfl ?_
        exact v_zret C hRt hLk dM_takes_52 (fN_bool (by omega)) (by first | exact Or.inl ⟨by omega, rfl, rfl⟩ | exact Or.inr ⟨by omega, rfl, p1_same _ _ _⟩)
set_option maxRecDepth 100000 in
set_option maxHeartbeats 4000000 in
/-- line(from) -/
theorem kM_line (l : Launch) (xCl : List vw_C) (D : va_G) (cA : Nat → ClassId) (ad : Nat → Nat) (hJ : f_J (mG xCl D cA ad)) (σ : fS) (a : Int) (ha : 0 ≤ a ∧ a ≤ 100000) (hz : 0 ≤ σ.1 0 7 ∧ σ.1 0 7 ≤ 12000) (h7 : ∀ i, -128 ≤ σ.2 7 i ∧ σ.2 7 i ≤ 127) : f_M l (mG xCl D cA ad) mE yM_line (Cond.code yM_line cM_line 2 (some .boolean) :: A9) 0 σ [.ref (ad 0), .int (fI a)] (f_QI (fun r σ1 => (m_eol σ a < σ.1 0 7 ∧ r = 1 ∧ σ1 = m_cl σ a (m_eol σ a)) ∨ (¬ m_eol σ a < σ.1 0 7 ∧ r = 0 ∧ σ1 = m_cl σ a (m_eol σ a))) (mG xCl D cA ad)) := by
  refine f_enter (by decide +kernel) hJ rfl (Nat.le_of_ble_eq_true rfl) ?_
  intro z hzl hR C hRt hLk hEz
  subst hzl
  have hbe := eolF_le (σ.2 7) (σ.1 0 7 - a).toNat a
  change a ≤ m_eol σ a ∧ m_eol σ a ≤ a + ((σ.1 0 7 - a).toNat : Int) at hbe
  have L : ∀ (k : Nat) (p : Int), a ≤ p → (σ.1 0 7 - p).toNat = k → eolF (σ.2 7) k p = m_eol σ a → fv z (mG xCl D cA ad) 2 (f_R z (mG xCl D cA ad) (f_QI (fun r σ1 => (m_eol σ a < σ.1 0 7 ∧ r = 1 ∧ σ1 = m_cl σ a (m_eol σ a)) ∨ (¬ m_eol σ a < σ.1 0 7 ∧ r = 0 ∧ σ1 = m_cl σ a (m_eol σ a))) (mG xCl D cA ad))) 0 0 (m_cl σ a p) 10 [some (.ref (ad 0)), some (.int (fI a))] [] := by
    intro k
    induction k with
    | zero =>
      intro p hp hk hE
      have hb := h7 p.toNat
      have hE1 : p = m_eol σ a := hE
      refine v_aload_n C dM_line_10 rfl rfl ?_
      refine v_getI (k := 0) (q := 20) (v := p) C dM_line_11 (by show (0 : Nat) < 18; decide) rfl rfl (by decide) rfl inM lM_144 rfl rfl ?_
      refine v_aload_n C dM_line_14 rfl rfl ?_
      refine v_getI (k := 0) (q := 7) (v := σ.1 0 7) C dM_line_15 (by show (0 : Nat) < 18; decide) rfl rfl (by decide) rfl inM lM_116 rfl rfl ?_
      refine v_icmp_ge (tgt := 48) C dM_line_18 (by decide) (by omega) (by omega) (fun hc1 => ?_) (fun hc1 => ?_)
      · have hpe : p = m_eol σ a := by first | exact hE1 | exact hE2.elim (fun h => h.2) (fun h => absurd (by omega) h.1)
        refine v_aload_n C dM_line_48 rfl rfl ?_
        refine v_getI (k := 0) (q := 20) (v := p) C dM_line_49 (by show (0 : Nat) < 18; decide) rfl rfl (by decide) rfl inM lM_144 rfl rfl ?_
        refine v_aload_n C dM_line_52 rfl rfl ?_
        refine v_getI (k := 0) (q := 7) (v := σ.1 0 7) C dM_line_53 (by show (0 : Nat) < 18; decide) rfl rfl (by decide) rfl inM lM_116 rfl rfl ?_
        refine v_icmp_ge (tgt := 63) C dM_line_56 (by decide) (by omega) (by omega) (fun hc2 => ?_) (fun hc2 => ?_)
        · refine v_iconst C dM_line_63 ?_
          exact v_zret C hRt hLk dM_line_64 (fN_bool (by omega)) (by first | exact Or.inl ⟨by omega, rfl, by rw [← hpe]⟩ | exact Or.inr ⟨by omega, rfl, by rw [← hpe]⟩)
        · refine v_iconst C dM_line_59 ?_
          refine v_goto (tgt := 64) C dM_line_60 (by decide) ?_
          exact v_zret C hRt hLk dM_line_64 (fN_bool (by omega)) (by first | exact Or.inl ⟨by omega, rfl, by rw [← hpe]⟩ | exact Or.inr ⟨by omega, rfl, by rw [← hpe]⟩)
      · exfalso; omega
    | succ k ih =>
      intro p hp hk hE
      have hb := h7 p.toNat
      unfold eolF at hE
      have hE2 : (σ.2 7 p.toNat = 10 ∧ p = m_eol σ a) ∨ (¬ σ.2 7 p.toNat = 10 ∧ eolF (σ.2 7) k (p + 1) = m_eol σ a) := by
        by_cases h9 : σ.2 7 p.toNat = 10
        · rw [if_pos h9] at hE; exact Or.inl ⟨h9, hE⟩
        · rw [if_neg h9] at hE; exact Or.inr ⟨h9, hE⟩
      have hle := eolF_le (σ.2 7) k (p + 1)
      refine v_aload_n C dM_line_10 rfl rfl ?_
      refine v_getI (k := 0) (q := 20) (v := p) C dM_line_11 (by show (0 : Nat) < 18; decide) rfl rfl (by decide) rfl inM lM_144 rfl rfl ?_
      refine v_aload_n C dM_line_14 rfl rfl ?_
      refine v_getI (k := 0) (q := 7) (v := σ.1 0 7) C dM_line_15 (by show (0 : Nat) < 18; decide) rfl rfl (by decide) rfl inM lM_116 rfl rfl ?_
      refine v_icmp_ge (tgt := 48) C dM_line_18 (by decide) (by omega) (by omega) (fun hc3 => ?_) (fun hc3 => ?_)
      · exfalso; omega
      · refine v_aload_n C dM_line_21 rfl rfl ?_
        refine v_getR (k := 0) (q := 8) C dM_line_22 (by show (0 : Nat) < 18; decide) rfl rfl (by decide) rfl inM lM_30 rfl ?_
        refine v_aload_n C dM_line_25 rfl rfl ?_
        refine v_getI (k := 0) (q := 20) (v := p) C dM_line_26 (by show (0 : Nat) < 18; decide) rfl rfl (by decide) rfl inM lM_144 rfl rfl ?_
        have hb4 := h7 (p).toNat
        refine v_bald (k := 7) (v := σ.2 7 (p).toNat) C dM_line_29 (by show (7 : Nat) < 18; decide) rfl rfl (by omega) (by decide) rfl ?_
        refine v_bipush C dM_line_30 (by decide +kernel) ?_
        refine v_icmp_eq (tgt := 48) C dM_line_32 (by decide) (by omega) (by omega) (fun hc5 => ?_) (fun hc5 => ?_)
        · have hpe : p = m_eol σ a := by first | exact hE1 | exact hE2.elim (fun h => h.2) (fun h => absurd (by omega) h.1)
          refine v_aload_n C dM_line_48 rfl rfl ?_
          refine v_getI (k := 0) (q := 20) (v := p) C dM_line_49 (by show (0 : Nat) < 18; decide) rfl rfl (by decide) rfl inM lM_144 rfl rfl ?_
          refine v_aload_n C dM_line_52 rfl rfl ?_
          refine v_getI (k := 0) (q := 7) (v := σ.1 0 7) C dM_line_53 (by show (0 : Nat) < 18; decide) rfl rfl (by decide) rfl inM lM_116 rfl rfl ?_
          refine v_icmp_ge (tgt := 63) C dM_line_56 (by decide) (by omega) (by omega) (fun hc6 => ?_) (fun hc6 => ?_)
          · refine v_iconst C dM_line_63 ?_
            exact v_zret C hRt hLk dM_line_64 (fN_bool (by omega)) (by first | exact Or.inl ⟨by omega, rfl, by rw [← hpe]⟩ | exact Or.inr ⟨by omega, rfl, by rw [← hpe]⟩)
          · refine v_iconst C dM_line_59 ?_
            refine v_goto (tgt := 64) C dM_line_60 (by decide) ?_
            exact v_zret C hRt hLk dM_line_64 (fN_bool (by omega)) (by first | exact Or.inl ⟨by omega, rfl, by rw [← hpe]⟩ | exact Or.inr ⟨by omega, rfl, by rw [← hpe]⟩)
        · refine v_aload_n C dM_line_35 rfl rfl ?_
          refine v_dup C dM_line_36 rfl ?_
          refine v_getI (k := 0) (q := 20) (v := p) C dM_line_37 (by show (0 : Nat) < 18; decide) rfl rfl (by decide) rfl inM lM_144 rfl rfl ?_
          refine v_iconst C dM_line_40 ?_
          refine v_iadd C dM_line_41 ?_
          refine v_putI (k := 0) (q := 20) C dM_line_42 (by show (0 : Nat) < 18; decide) rfl rfl (by decide) rfl inM tyM_ok nmM lM_144 rfl rfl rfl rfl rfl ?_
          refine v_goto (tgt := 10) C dM_line_45 (by decide) ?_
          exact v_st (m_cl_s σ a p (p + 1)) (ih (p + 1) (by omega) (by omega) (hE2.elim (fun h => absurd h.1 (by omega)) (fun h => h.2)))
  refine v_aload_n C dM_line_0 rfl rfl ?_
  refine v_iload_n C dM_line_1 rfl rfl ?_
  refine v_putI (k := 0) (q := 21) C dM_line_2 (by show (0 : Nat) < 18; decide) rfl rfl (by decide) rfl inM tyM_ok nmM lM_141 rfl rfl rfl rfl rfl ?_
  refine v_aload_n C dM_line_5 rfl rfl ?_
  refine v_iload_n C dM_line_6 rfl rfl ?_
  refine v_putI (k := 0) (q := 20) C dM_line_7 (by show (0 : Nat) < 18; decide) rfl rfl (by decide) rfl inM tyM_ok nmM lM_144 rfl rfl rfl rfl rfl ?_
  exact L (σ.1 0 7 - a).toNat a (by omega) rfl rfl
end
section
/-- the state but for what is used while lines are read: cursor, lineEnd, number, first, second -/
def m_scr (σ σ1 : fS) : Prop := σ1.2 = σ.2 ∧ ∀ a b, ¬ (a = 0 ∧ (b = 20 ∨ b = 21 ∨ b = 22 ∨ b = 26 ∨ b = 27)) → σ1.1 a b = σ.1 a b
theorem m_scr_rf (σ : fS) : m_scr σ σ := ⟨rfl, fun _ _ _ => rfl⟩
theorem m_scr_tr {σ τ υ : fS} (h1 : m_scr σ τ) (h2 : m_scr τ υ) : m_scr σ υ := ⟨h2.1.trans h1.1, fun a b h => (h2.2 a b h).trans (h1.2 a b h)⟩
theorem m_scr_p {σ τ : fS} (h : m_scr σ τ) (q : Nat) (v : Int) (hq : q = 20 ∨ q = 21 ∨ q = 22 ∨ q = 26 ∨ q = 27) : m_scr σ (f_p1 τ 0 q v) := by
  refine ⟨h.1, fun a b hab => ?_⟩
  rw [p1_1, if_neg (by
    intro h9
    exact hab ⟨h9.1, by rw [h9.2]; exact hq⟩)]
  exact h.2 a b hab
theorem m_scr_a {σ σ1 : fS} (h : m_scr σ σ1) (k i : Nat) : σ1.2 k i = σ.2 k i := by rw [h.1]
theorem m_scr_z {σ σ1 : fS} (h : m_scr σ σ1) : σ1.1 0 7 = σ.1 0 7 := h.2 0 7 (by decide)
/-- the lines of a file: f its bytes, z its size -/
def p_eol (f : Nat → Int) (z p : Int) : Int := eolF f (z - p).toNat p
def p_num (f : Nat → Int) (le p : Int) : Int × Int := numF f le 5 p 0
def p_nok (f : Nat → Int) (le p : Int) : Prop := p < (p_num f le p).2 ∧ ((p_num f le p).2 = p + 1 ∨ f p.toNat ≠ 48)
def p_tell (f : Nat → Int) (z p c : Int) : Prop := p_eol f z p < z ∧ (p < p_eol f z p ∧ f p.toNat = c) ∧ (p + 1 < p_eol f z p ∧ f (p + 1).toNat = 32) ∧ p_nok f (p_eol f z p) (p + 2) ∧ (p_num f (p_eol f z p) (p + 2)).2 = p_eol f z p
def p_tv (f : Nat → Int) (z p : Int) : Int := (p_num f (p_eol f z p) (p + 2)).1
theorem p_eol_le {f : Nat → Int} {z p : Int} : p ≤ p_eol f z p ∧ (p_eol f z p ≤ z ∨ p_eol f z p = p) := by
  have h := eolF_le f (z - p).toNat p
  unfold p_eol
  by_cases hz : p ≤ z
  · omega
  · rw [show (z - p).toNat = 0 by omega] at h ⊢
    omega
theorem numF_le (f : Nat → Int) (le : Int) : ∀ (k : Nat) (p v : Int), p ≤ (numF f le k p v).2 ∧ (numF f le k p v).2 ≤ p + k ∧ ((numF f le k p v).2 ≤ le ∨ (numF f le k p v).2 = p) := by
  intro k
  induction k with
  | zero => intro p v; show p ≤ p ∧ p ≤ p + 0 ∧ (p ≤ le ∨ p = p); omega
  | succ k ih =>
    intro p v
    have h := ih (p + 1) (10 * v + f p.toNat - 48)
    unfold numF
    split
    · omega
    · show p ≤ p ∧ p ≤ p + ((k + 1 : Nat) : Int) ∧ (p ≤ le ∨ p = p); omega
theorem numF_v (f : Nat → Int) (le : Int) : ∀ (k : Nat) (p v M : Int), 0 ≤ v → v ≤ M → 0 ≤ (numF f le k p v).1 ∧ (numF f le k p v).1 + 1 ≤ (M + 1) * 10 ^ k := by
  intro k
  induction k with
  | zero => intro p v M h1 h2; show 0 ≤ v ∧ v + 1 ≤ (M + 1) * 1; omega
  | succ k ih =>
    intro p v M h1 h2
    unfold numF
    split
    · rename_i hc
      have h := ih (p + 1) (10 * v + f p.toNat - 48) (10 * M + 9) (by omega) (by omega)
      refine ⟨h.1, ?_⟩
      have e : (10 * M + 9 + 1) * 10 ^ k = (M + 1) * 10 ^ (k + 1) := by rw [Int.pow_succ]; grind
      rw [← e]; exact h.2
    · refine ⟨h1, ?_⟩
      show v + 1 ≤ (M + 1) * 10 ^ (k + 1)
      have hp : (1 : Int) ≤ 10 ^ (k + 1) := Int.pow_pos (by decide)
      have := Int.mul_le_mul_of_nonneg_left hp (show 0 ≤ M + 1 by omega)
      omega
theorem p_num_v (f : Nat → Int) (le p : Int) : 0 ≤ (p_num f le p).1 ∧ (p_num f le p).1 ≤ 99999 := by
  have h := numF_v f le 5 p 0 0 (by omega) (by omega)
  have e : ((0 : Int) + 1) * 10 ^ 5 = 100000 := by decide
  rw [e] at h
  unfold p_num
  omega
theorem p_num_le (f : Nat → Int) (le p : Int) : p ≤ (p_num f le p).2 ∧ (p_num f le p).2 ≤ p + 5 ∧ ((p_num f le p).2 ≤ le ∨ (p_num f le p).2 = p) := numF_le f le 5 p 0

set_option maxRecDepth 100000 in
set_option maxHeartbeats 4000000 in
/-- takesNumber() -/
theorem kM_takesNumber (l : Launch) (xCl : List vw_C) (D : va_G) (cA : Nat → ClassId) (ad : Nat → Nat) (hJ : f_J (mG xCl D cA ad)) (σ : fS) (hu : 0 ≤ σ.1 0 21 ∧ σ.1 0 21 ≤ 100000) (hl : σ.1 0 20 ≤ 12000 ∨ σ.1 0 20 ≤ σ.1 0 21) (hl2 : -2147483648 ≤ σ.1 0 20 ∧ σ.1 0 20 ≤ 2147483647) (hul : σ.1 0 21 ≤ 12000) (h7 : ∀ i, -128 ≤ σ.2 7 i ∧ σ.2 7 i ≤ 127) : f_M l (mG xCl D cA ad) mE yM_takesNumber (Cond.code yM_takesNumber cM_takesNumber 2 (some .boolean) :: A9) 0 σ [.ref (ad 0)] (f_QI (fun r σ1 => m_scr σ σ1 ∧ σ1.1 0 20 = σ.1 0 20 ∧ σ1.1 0 22 = (p_num (σ.2 7) (σ.1 0 20) (σ.1 0 21)).1 ∧ σ1.1 0 21 = (p_num (σ.2 7) (σ.1 0 20) (σ.1 0 21)).2 ∧ σ1.1 0 26 = σ.1 0 26 ∧ σ1.1 0 27 = σ.1 0 27 ∧ ((p_nok (σ.2 7) (σ.1 0 20) (σ.1 0 21) ∧ r = 1) ∨ (¬ p_nok (σ.2 7) (σ.1 0 20) (σ.1 0 21) ∧ r = 0))) (mG xCl D cA ad)) := by
  refine f_enter (by decide +kernel) hJ rfl (Nat.le_of_ble_eq_true rfl) ?_
  intro z hzl hR C hRt hLk hEz
  subst hzl
  have hpl := p_num_le (σ.2 7) (σ.1 0 20) (σ.1 0 21)
  have L : ∀ (k : Nat) (p v : Int), σ.1 0 21 ≤ p → p + k = σ.1 0 21 + 5 → (p ≤ σ.1 0 20 ∨ p = σ.1 0 21) → 0 ≤ v → v + 1 ≤ 10 ^ (5 - k) → numF (σ.2 7) (σ.1 0 20) k p v = p_num (σ.2 7) (σ.1 0 20) (σ.1 0 21) → fv z (mG xCl D cA ad) 2 (f_R z (mG xCl D cA ad) (f_QI (fun r σ1 => m_scr σ σ1 ∧ σ1.1 0 20 = σ.1 0 20 ∧ σ1.1 0 22 = (p_num (σ.2 7) (σ.1 0 20) (σ.1 0 21)).1 ∧ σ1.1 0 21 = (p_num (σ.2 7) (σ.1 0 20) (σ.1 0 21)).2 ∧ σ1.1 0 26 = σ.1 0 26 ∧ σ1.1 0 27 = σ.1 0 27 ∧ ((p_nok (σ.2 7) (σ.1 0 20) (σ.1 0 21) ∧ r = 1) ∨ (¬ p_nok (σ.2 7) (σ.1 0 20) (σ.1 0 21) ∧ r = 0))) (mG xCl D cA ad))) 0 0 (m_nc σ v p) 10 [some (.ref (ad 0)), some (.int (fI (σ.1 0 21)))] [] := by
    intro k
    induction k with
    | zero =>
      intro p v hp hk hle hv0 hv1 hE
      have hb := h7 p.toNat
      have hb0 := h7 (σ.1 0 21).toNat
      have hE1 : (v, p) = p_num (σ.2 7) (σ.1 0 20) (σ.1 0 21) := hE
      have hE3 := congrArg Prod.fst hE1
      have hE4 := congrArg Prod.snd hE1
      dsimp only at hE3 hE4
      refine v_aload_n C dM_takesNumber_10 rfl rfl ?_
      refine v_getI (k := 0) (q := 21) (v := p) C dM_takesNumber_11 (by show (0 : Nat) < 18; decide) rfl rfl (by decide) rfl inM lM_141 rfl rfl ?_
      refine v_aload_n C dM_takesNumber_14 rfl rfl ?_
      refine v_getI (k := 0) (q := 20) (v := σ.1 0 20) C dM_takesNumber_15 (by show (0 : Nat) < 18; decide) rfl rfl (by decide) rfl inM lM_144 rfl rfl ?_
      refine v_icmp_ge (tgt := 96) C dM_takesNumber_18 (by decide) (by omega) (by omega) (fun hc1 => ?_) (fun hc1 => ?_)
      · have hve : v = (p_num (σ.2 7) (σ.1 0 20) (σ.1 0 21)).1 := by first | exact hE3 | exact hE2.elim (fun h => absurd h.1 (by omega)) (fun h => h.2.1)
        have hpe : p = (p_num (σ.2 7) (σ.1 0 20) (σ.1 0 21)).2 := by first | exact hE4 | exact hE2.elim (fun h => absurd h.1 (by omega)) (fun h => h.2.2)
        refine v_aload_n C dM_takesNumber_96 rfl rfl ?_
        refine v_getI (k := 0) (q := 21) (v := p) C dM_takesNumber_97 (by show (0 : Nat) < 18; decide) rfl rfl (by decide) rfl inM lM_141 rfl rfl ?_
        refine v_iload_n C dM_takesNumber_100 rfl rfl ?_
        refine v_icmp_le (tgt := 129) C dM_takesNumber_101 (by decide) (by omega) (by omega) (fun hc2 => ?_) (fun hc2 => ?_)
        · refine v_iconst C dM_takesNumber_129 ?_
          exact v_zret C hRt hLk dM_takesNumber_130 (fN_bool (by omega)) ⟨m_scr_p (m_scr_p (m_scr_rf σ) 22 v (by decide)) 21 p (by decide), rfl, hve, hpe, rfl, rfl, by unfold p_nok; rw [← hpe]; first | exact Or.inl ⟨by omega, rfl⟩ | exact Or.inr ⟨by omega, rfl⟩⟩
        · refine v_aload_n C dM_takesNumber_104 rfl rfl ?_
          refine v_getI (k := 0) (q := 21) (v := p) C dM_takesNumber_105 (by show (0 : Nat) < 18; decide) rfl rfl (by decide) rfl inM lM_141 rfl rfl ?_
          refine v_iload_n C dM_takesNumber_108 rfl rfl ?_
          refine v_isub C dM_takesNumber_109 ?_
          refine v_iconst C dM_takesNumber_110 ?_
          refine v_icmp_eq (tgt := 125) C dM_takesNumber_111 (by decide) (by omega) (by omega) (fun hc3 => ?_) (fun hc3 => ?_)
          · refine v_iconst C dM_takesNumber_125 ?_
            refine v_goto (tgt := 130) C dM_takesNumber_126 (by decide) ?_
            exact v_zret C hRt hLk dM_takesNumber_130 (fN_bool (by omega)) ⟨m_scr_p (m_scr_p (m_scr_rf σ) 22 v (by decide)) 21 p (by decide), rfl, hve, hpe, rfl, rfl, by unfold p_nok; rw [← hpe]; first | exact Or.inl ⟨by omega, rfl⟩ | exact Or.inr ⟨by omega, rfl⟩⟩
          · refine v_aload_n C dM_takesNumber_114 rfl rfl ?_
            refine v_getR (k := 0) (q := 8) C dM_takesNumber_115 (by show (0 : Nat) < 18; decide) rfl rfl (by decide) rfl inM lM_30 rfl ?_
            refine v_iload_n C dM_takesNumber_118 rfl rfl ?_
            have hb4 := h7 (σ.1 0 21).toNat
            refine v_bald (k := 7) (v := σ.2 7 (σ.1 0 21).toNat) C dM_takesNumber_119 (by show (7 : Nat) < 18; decide) rfl rfl (by omega) (by decide) rfl ?_
            refine v_bipush C dM_takesNumber_120 (by decide +kernel) ?_
            refine v_icmp_eq (tgt := 129) C dM_takesNumber_122 (by decide) (by omega) (by omega) (fun hc5 => ?_) (fun hc5 => ?_)
            · refine v_iconst C dM_takesNumber_129 ?_
              exact v_zret C hRt hLk dM_takesNumber_130 (fN_bool (by omega)) ⟨m_scr_p (m_scr_p (m_scr_rf σ) 22 v (by decide)) 21 p (by decide), rfl, hve, hpe, rfl, rfl, by unfold p_nok; rw [← hpe]; first | exact Or.inl ⟨by omega, rfl⟩ | exact Or.inr ⟨by omega, rfl⟩⟩
            · refine v_iconst C dM_takesNumber_125 ?_
              refine v_goto (tgt := 130) C dM_takesNumber_126 (by decide) ?_
              exact v_zret C hRt hLk dM_takesNumber_130 (fN_bool (by omega)) ⟨m_scr_p (m_scr_p (m_scr_rf σ) 22 v (by decide)) 21 p (by decide), rfl, hve, hpe, rfl, rfl, by unfold p_nok; rw [← hpe]; first | exact Or.inl ⟨by omega, rfl⟩ | exact Or.inr ⟨by omega, rfl⟩⟩
      · refine v_aload_n C dM_takesNumber_21 rfl rfl ?_
        refine v_getR (k := 0) (q := 8) C dM_takesNumber_22 (by show (0 : Nat) < 18; decide) rfl rfl (by decide) rfl inM lM_30 rfl ?_
        refine v_aload_n C dM_takesNumber_25 rfl rfl ?_
        refine v_getI (k := 0) (q := 21) (v := p) C dM_takesNumber_26 (by show (0 : Nat) < 18; decide) rfl rfl (by decide) rfl inM lM_141 rfl rfl ?_
        have hb6 := h7 (p).toNat
        refine v_bald (k := 7) (v := σ.2 7 (p).toNat) C dM_takesNumber_29 (by show (7 : Nat) < 18; decide) rfl rfl (by omega) (by decide) rfl ?_
        refine v_bipush C dM_takesNumber_30 (by decide +kernel) ?_
        refine v_icmp_lt (tgt := 96) C dM_takesNumber_32 (by decide) (by omega) (by omega) (fun hc7 => ?_) (fun hc7 => ?_)
        · have hve : v = (p_num (σ.2 7) (σ.1 0 20) (σ.1 0 21)).1 := by first | exact hE3 | exact hE2.elim (fun h => absurd h.1 (by omega)) (fun h => h.2.1)
          have hpe : p = (p_num (σ.2 7) (σ.1 0 20) (σ.1 0 21)).2 := by first | exact hE4 | exact hE2.elim (fun h => absurd h.1 (by omega)) (fun h => h.2.2)
          refine v_aload_n C dM_takesNumber_96 rfl rfl ?_
          refine v_getI (k := 0) (q := 21) (v := p) C dM_takesNumber_97 (by show (0 : Nat) < 18; decide) rfl rfl (by decide) rfl inM lM_141 rfl rfl ?_
          refine v_iload_n C dM_takesNumber_100 rfl rfl ?_
          refine v_icmp_le (tgt := 129) C dM_takesNumber_101 (by decide) (by omega) (by omega) (fun hc8 => ?_) (fun hc8 => ?_)
          · refine v_iconst C dM_takesNumber_129 ?_
            exact v_zret C hRt hLk dM_takesNumber_130 (fN_bool (by omega)) ⟨m_scr_p (m_scr_p (m_scr_rf σ) 22 v (by decide)) 21 p (by decide), rfl, hve, hpe, rfl, rfl, by unfold p_nok; rw [← hpe]; first | exact Or.inl ⟨by omega, rfl⟩ | exact Or.inr ⟨by omega, rfl⟩⟩
          · refine v_aload_n C dM_takesNumber_104 rfl rfl ?_
            refine v_getI (k := 0) (q := 21) (v := p) C dM_takesNumber_105 (by show (0 : Nat) < 18; decide) rfl rfl (by decide) rfl inM lM_141 rfl rfl ?_
            refine v_iload_n C dM_takesNumber_108 rfl rfl ?_
            refine v_isub C dM_takesNumber_109 ?_
            refine v_iconst C dM_takesNumber_110 ?_
            refine v_icmp_eq (tgt := 125) C dM_takesNumber_111 (by decide) (by omega) (by omega) (fun hc9 => ?_) (fun hc9 => ?_)
            · refine v_iconst C dM_takesNumber_125 ?_
              refine v_goto (tgt := 130) C dM_takesNumber_126 (by decide) ?_
              exact v_zret C hRt hLk dM_takesNumber_130 (fN_bool (by omega)) ⟨m_scr_p (m_scr_p (m_scr_rf σ) 22 v (by decide)) 21 p (by decide), rfl, hve, hpe, rfl, rfl, by unfold p_nok; rw [← hpe]; first | exact Or.inl ⟨by omega, rfl⟩ | exact Or.inr ⟨by omega, rfl⟩⟩
            · refine v_aload_n C dM_takesNumber_114 rfl rfl ?_
              refine v_getR (k := 0) (q := 8) C dM_takesNumber_115 (by show (0 : Nat) < 18; decide) rfl rfl (by decide) rfl inM lM_30 rfl ?_
              refine v_iload_n C dM_takesNumber_118 rfl rfl ?_
              have hb10 := h7 (σ.1 0 21).toNat
              refine v_bald (k := 7) (v := σ.2 7 (σ.1 0 21).toNat) C dM_takesNumber_119 (by show (7 : Nat) < 18; decide) rfl rfl (by omega) (by decide) rfl ?_
              refine v_bipush C dM_takesNumber_120 (by decide +kernel) ?_
              refine v_icmp_eq (tgt := 129) C dM_takesNumber_122 (by decide) (by omega) (by omega) (fun hc11 => ?_) (fun hc11 => ?_)
              · refine v_iconst C dM_takesNumber_129 ?_
                exact v_zret C hRt hLk dM_takesNumber_130 (fN_bool (by omega)) ⟨m_scr_p (m_scr_p (m_scr_rf σ) 22 v (by decide)) 21 p (by decide), rfl, hve, hpe, rfl, rfl, by unfold p_nok; rw [← hpe]; first | exact Or.inl ⟨by omega, rfl⟩ | exact Or.inr ⟨by omega, rfl⟩⟩
              · refine v_iconst C dM_takesNumber_125 ?_
                refine v_goto (tgt := 130) C dM_takesNumber_126 (by decide) ?_
                exact v_zret C hRt hLk dM_takesNumber_130 (fN_bool (by omega)) ⟨m_scr_p (m_scr_p (m_scr_rf σ) 22 v (by decide)) 21 p (by decide), rfl, hve, hpe, rfl, rfl, by unfold p_nok; rw [← hpe]; first | exact Or.inl ⟨by omega, rfl⟩ | exact Or.inr ⟨by omega, rfl⟩⟩
        · refine v_aload_n C dM_takesNumber_35 rfl rfl ?_
          refine v_getR (k := 0) (q := 8) C dM_takesNumber_36 (by show (0 : Nat) < 18; decide) rfl rfl (by decide) rfl inM lM_30 rfl ?_
          refine v_aload_n C dM_takesNumber_39 rfl rfl ?_
          refine v_getI (k := 0) (q := 21) (v := p) C dM_takesNumber_40 (by show (0 : Nat) < 18; decide) rfl rfl (by decide) rfl inM lM_141 rfl rfl ?_
          have hb12 := h7 (p).toNat
          refine v_bald (k := 7) (v := σ.2 7 (p).toNat) C dM_takesNumber_43 (by show (7 : Nat) < 18; decide) rfl rfl (by omega) (by decide) rfl ?_
          refine v_bipush C dM_takesNumber_44 (by decide +kernel) ?_
          refine v_icmp_gt (tgt := 96) C dM_takesNumber_46 (by decide) (by omega) (by omega) (fun hc13 => ?_) (fun hc13 => ?_)
          · have hve : v = (p_num (σ.2 7) (σ.1 0 20) (σ.1 0 21)).1 := by first | exact hE3 | exact hE2.elim (fun h => absurd h.1 (by omega)) (fun h => h.2.1)
            have hpe : p = (p_num (σ.2 7) (σ.1 0 20) (σ.1 0 21)).2 := by first | exact hE4 | exact hE2.elim (fun h => absurd h.1 (by omega)) (fun h => h.2.2)
            refine v_aload_n C dM_takesNumber_96 rfl rfl ?_
            refine v_getI (k := 0) (q := 21) (v := p) C dM_takesNumber_97 (by show (0 : Nat) < 18; decide) rfl rfl (by decide) rfl inM lM_141 rfl rfl ?_
            refine v_iload_n C dM_takesNumber_100 rfl rfl ?_
            refine v_icmp_le (tgt := 129) C dM_takesNumber_101 (by decide) (by omega) (by omega) (fun hc14 => ?_) (fun hc14 => ?_)
            · refine v_iconst C dM_takesNumber_129 ?_
              exact v_zret C hRt hLk dM_takesNumber_130 (fN_bool (by omega)) ⟨m_scr_p (m_scr_p (m_scr_rf σ) 22 v (by decide)) 21 p (by decide), rfl, hve, hpe, rfl, rfl, by unfold p_nok; rw [← hpe]; first | exact Or.inl ⟨by omega, rfl⟩ | exact Or.inr ⟨by omega, rfl⟩⟩
            · refine v_aload_n C dM_takesNumber_104 rfl rfl ?_
              refine v_getI (k := 0) (q := 21) (v := p) C dM_takesNumber_105 (by show (0 : Nat) < 18; decide) rfl rfl (by decide) rfl inM lM_141 rfl rfl ?_
              refine v_iload_n C dM_takesNumber_108 rfl rfl ?_
              refine v_isub C dM_takesNumber_109 ?_
              refine v_iconst C dM_takesNumber_110 ?_
              refine v_icmp_eq (tgt := 125) C dM_takesNumber_111 (by decide) (by omega) (by omega) (fun hc15 => ?_) (fun hc15 => ?_)
              · refine v_iconst C dM_takesNumber_125 ?_
                refine v_goto (tgt := 130) C dM_takesNumber_126 (by decide) ?_
                exact v_zret C hRt hLk dM_takesNumber_130 (fN_bool (by omega)) ⟨m_scr_p (m_scr_p (m_scr_rf σ) 22 v (by decide)) 21 p (by decide), rfl, hve, hpe, rfl, rfl, by unfold p_nok; rw [← hpe]; first | exact Or.inl ⟨by omega, rfl⟩ | exact Or.inr ⟨by omega, rfl⟩⟩
              · refine v_aload_n C dM_takesNumber_114 rfl rfl ?_
                refine v_getR (k := 0) (q := 8) C dM_takesNumber_115 (by show (0 : Nat) < 18; decide) rfl rfl (by decide) rfl inM lM_30 rfl ?_
                refine v_iload_n C dM_takesNumber_118 rfl rfl ?_
                have hb16 := h7 (σ.1 0 21).toNat
                refine v_bald (k := 7) (v := σ.2 7 (σ.1 0 21).toNat) C dM_takesNumber_119 (by show (7 : Nat) < 18; decide) rfl rfl (by omega) (by decide) rfl ?_
                refine v_bipush C dM_takesNumber_120 (by decide +kernel) ?_
                refine v_icmp_eq (tgt := 129) C dM_takesNumber_122 (by decide) (by omega) (by omega) (fun hc17 => ?_) (fun hc17 => ?_)
                · refine v_iconst C dM_takesNumber_129 ?_
                  exact v_zret C hRt hLk dM_takesNumber_130 (fN_bool (by omega)) ⟨m_scr_p (m_scr_p (m_scr_rf σ) 22 v (by decide)) 21 p (by decide), rfl, hve, hpe, rfl, rfl, by unfold p_nok; rw [← hpe]; first | exact Or.inl ⟨by omega, rfl⟩ | exact Or.inr ⟨by omega, rfl⟩⟩
                · refine v_iconst C dM_takesNumber_125 ?_
                  refine v_goto (tgt := 130) C dM_takesNumber_126 (by decide) ?_
                  exact v_zret C hRt hLk dM_takesNumber_130 (fN_bool (by omega)) ⟨m_scr_p (m_scr_p (m_scr_rf σ) 22 v (by decide)) 21 p (by decide), rfl, hve, hpe, rfl, rfl, by unfold p_nok; rw [← hpe]; first | exact Or.inl ⟨by omega, rfl⟩ | exact Or.inr ⟨by omega, rfl⟩⟩
          · refine v_aload_n C dM_takesNumber_49 rfl rfl ?_
            refine v_getI (k := 0) (q := 21) (v := p) C dM_takesNumber_50 (by show (0 : Nat) < 18; decide) rfl rfl (by decide) rfl inM lM_141 rfl rfl ?_
            refine v_iload_n C dM_takesNumber_53 rfl rfl ?_
            refine v_isub C dM_takesNumber_54 ?_
            refine v_iconst C dM_takesNumber_55 ?_
            refine v_icmp_ge (tgt := 96) C dM_takesNumber_56 (by decide) (by omega) (by omega) (fun hc18 => ?_) (fun hc18 => ?_)
            · have hve : v = (p_num (σ.2 7) (σ.1 0 20) (σ.1 0 21)).1 := by first | exact hE3 | exact hE2.elim (fun h => absurd h.1 (by omega)) (fun h => h.2.1)
              have hpe : p = (p_num (σ.2 7) (σ.1 0 20) (σ.1 0 21)).2 := by first | exact hE4 | exact hE2.elim (fun h => absurd h.1 (by omega)) (fun h => h.2.2)
              refine v_aload_n C dM_takesNumber_96 rfl rfl ?_
              refine v_getI (k := 0) (q := 21) (v := p) C dM_takesNumber_97 (by show (0 : Nat) < 18; decide) rfl rfl (by decide) rfl inM lM_141 rfl rfl ?_
              refine v_iload_n C dM_takesNumber_100 rfl rfl ?_
              refine v_icmp_le (tgt := 129) C dM_takesNumber_101 (by decide) (by omega) (by omega) (fun hc19 => ?_) (fun hc19 => ?_)
              · refine v_iconst C dM_takesNumber_129 ?_
                exact v_zret C hRt hLk dM_takesNumber_130 (fN_bool (by omega)) ⟨m_scr_p (m_scr_p (m_scr_rf σ) 22 v (by decide)) 21 p (by decide), rfl, hve, hpe, rfl, rfl, by unfold p_nok; rw [← hpe]; first | exact Or.inl ⟨by omega, rfl⟩ | exact Or.inr ⟨by omega, rfl⟩⟩
              · refine v_aload_n C dM_takesNumber_104 rfl rfl ?_
                refine v_getI (k := 0) (q := 21) (v := p) C dM_takesNumber_105 (by show (0 : Nat) < 18; decide) rfl rfl (by decide) rfl inM lM_141 rfl rfl ?_
                refine v_iload_n C dM_takesNumber_108 rfl rfl ?_
                refine v_isub C dM_takesNumber_109 ?_
                refine v_iconst C dM_takesNumber_110 ?_
                refine v_icmp_eq (tgt := 125) C dM_takesNumber_111 (by decide) (by omega) (by omega) (fun hc20 => ?_) (fun hc20 => ?_)
                · refine v_iconst C dM_takesNumber_125 ?_
                  refine v_goto (tgt := 130) C dM_takesNumber_126 (by decide) ?_
                  exact v_zret C hRt hLk dM_takesNumber_130 (fN_bool (by omega)) ⟨m_scr_p (m_scr_p (m_scr_rf σ) 22 v (by decide)) 21 p (by decide), rfl, hve, hpe, rfl, rfl, by unfold p_nok; rw [← hpe]; first | exact Or.inl ⟨by omega, rfl⟩ | exact Or.inr ⟨by omega, rfl⟩⟩
                · refine v_aload_n C dM_takesNumber_114 rfl rfl ?_
                  refine v_getR (k := 0) (q := 8) C dM_takesNumber_115 (by show (0 : Nat) < 18; decide) rfl rfl (by decide) rfl inM lM_30 rfl ?_
                  refine v_iload_n C dM_takesNumber_118 rfl rfl ?_
                  have hb21 := h7 (σ.1 0 21).toNat
                  refine v_bald (k := 7) (v := σ.2 7 (σ.1 0 21).toNat) C dM_takesNumber_119 (by show (7 : Nat) < 18; decide) rfl rfl (by omega) (by decide) rfl ?_
                  refine v_bipush C dM_takesNumber_120 (by decide +kernel) ?_
                  refine v_icmp_eq (tgt := 129) C dM_takesNumber_122 (by decide) (by omega) (by omega) (fun hc22 => ?_) (fun hc22 => ?_)
                  · refine v_iconst C dM_takesNumber_129 ?_
                    exact v_zret C hRt hLk dM_takesNumber_130 (fN_bool (by omega)) ⟨m_scr_p (m_scr_p (m_scr_rf σ) 22 v (by decide)) 21 p (by decide), rfl, hve, hpe, rfl, rfl, by unfold p_nok; rw [← hpe]; first | exact Or.inl ⟨by omega, rfl⟩ | exact Or.inr ⟨by omega, rfl⟩⟩
                  · refine v_iconst C dM_takesNumber_125 ?_
                    refine v_goto (tgt := 130) C dM_takesNumber_126 (by decide) ?_
                    exact v_zret C hRt hLk dM_takesNumber_130 (fN_bool (by omega)) ⟨m_scr_p (m_scr_p (m_scr_rf σ) 22 v (by decide)) 21 p (by decide), rfl, hve, hpe, rfl, rfl, by unfold p_nok; rw [← hpe]; first | exact Or.inl ⟨by omega, rfl⟩ | exact Or.inr ⟨by omega, rfl⟩⟩
            · exfalso; omega
    | succ k ih =>
      intro p v hp hk hle hv0 hv1 hE
      have hb := h7 p.toNat
      have hb0 := h7 (σ.1 0 21).toNat
      unfold numF at hE
      have h10 : (10 : Int) ^ (5 - k) = 10 ^ (5 - (k + 1)) * 10 := by rw [← Int.pow_succ]; congr 1; omega
      have hE2 : ((p < σ.1 0 20 ∧ 48 ≤ σ.2 7 p.toNat ∧ σ.2 7 p.toNat ≤ 57) ∧ numF (σ.2 7) (σ.1 0 20) k (p + 1) (10 * v + σ.2 7 p.toNat - 48) = p_num (σ.2 7) (σ.1 0 20) (σ.1 0 21)) ∨ (¬ (p < σ.1 0 20 ∧ 48 ≤ σ.2 7 p.toNat ∧ σ.2 7 p.toNat ≤ 57) ∧ v = (p_num (σ.2 7) (σ.1 0 20) (σ.1 0 21)).1 ∧ p = (p_num (σ.2 7) (σ.1 0 20) (σ.1 0 21)).2) := by
        by_cases h9 : p < σ.1 0 20 ∧ 48 ≤ σ.2 7 p.toNat ∧ σ.2 7 p.toNat ≤ 57
        · rw [if_pos h9] at hE; exact Or.inl ⟨h9, hE⟩
        · rw [if_neg h9] at hE; exact Or.inr ⟨h9, congrArg Prod.fst hE, congrArg Prod.snd hE⟩
      refine v_aload_n C dM_takesNumber_10 rfl rfl ?_
      refine v_getI (k := 0) (q := 21) (v := p) C dM_takesNumber_11 (by show (0 : Nat) < 18; decide) rfl rfl (by decide) rfl inM lM_141 rfl rfl ?_
      refine v_aload_n C dM_takesNumber_14 rfl rfl ?_
      refine v_getI (k := 0) (q := 20) (v := σ.1 0 20) C dM_takesNumber_15 (by show (0 : Nat) < 18; decide) rfl rfl (by decide) rfl inM lM_144 rfl rfl ?_
      refine v_icmp_ge (tgt := 96) C dM_takesNumber_18 (by decide) (by omega) (by omega) (fun hc23 => ?_) (fun hc23 => ?_)
      · have hve : v = (p_num (σ.2 7) (σ.1 0 20) (σ.1 0 21)).1 := by first | exact hE3 | exact hE2.elim (fun h => absurd h.1 (by omega)) (fun h => h.2.1)
        have hpe : p = (p_num (σ.2 7) (σ.1 0 20) (σ.1 0 21)).2 := by first | exact hE4 | exact hE2.elim (fun h => absurd h.1 (by omega)) (fun h => h.2.2)
        refine v_aload_n C dM_takesNumber_96 rfl rfl ?_
        refine v_getI (k := 0) (q := 21) (v := p) C dM_takesNumber_97 (by show (0 : Nat) < 18; decide) rfl rfl (by decide) rfl inM lM_141 rfl rfl ?_
        refine v_iload_n C dM_takesNumber_100 rfl rfl ?_
        refine v_icmp_le (tgt := 129) C dM_takesNumber_101 (by decide) (by omega) (by omega) (fun hc24 => ?_) (fun hc24 => ?_)
        · refine v_iconst C dM_takesNumber_129 ?_
          exact v_zret C hRt hLk dM_takesNumber_130 (fN_bool (by omega)) ⟨m_scr_p (m_scr_p (m_scr_rf σ) 22 v (by decide)) 21 p (by decide), rfl, hve, hpe, rfl, rfl, by unfold p_nok; rw [← hpe]; first | exact Or.inl ⟨by omega, rfl⟩ | exact Or.inr ⟨by omega, rfl⟩⟩
        · refine v_aload_n C dM_takesNumber_104 rfl rfl ?_
          refine v_getI (k := 0) (q := 21) (v := p) C dM_takesNumber_105 (by show (0 : Nat) < 18; decide) rfl rfl (by decide) rfl inM lM_141 rfl rfl ?_
          refine v_iload_n C dM_takesNumber_108 rfl rfl ?_
          refine v_isub C dM_takesNumber_109 ?_
          refine v_iconst C dM_takesNumber_110 ?_
          refine v_icmp_eq (tgt := 125) C dM_takesNumber_111 (by decide) (by omega) (by omega) (fun hc25 => ?_) (fun hc25 => ?_)
          · refine v_iconst C dM_takesNumber_125 ?_
            refine v_goto (tgt := 130) C dM_takesNumber_126 (by decide) ?_
            exact v_zret C hRt hLk dM_takesNumber_130 (fN_bool (by omega)) ⟨m_scr_p (m_scr_p (m_scr_rf σ) 22 v (by decide)) 21 p (by decide), rfl, hve, hpe, rfl, rfl, by unfold p_nok; rw [← hpe]; first | exact Or.inl ⟨by omega, rfl⟩ | exact Or.inr ⟨by omega, rfl⟩⟩
          · refine v_aload_n C dM_takesNumber_114 rfl rfl ?_
            refine v_getR (k := 0) (q := 8) C dM_takesNumber_115 (by show (0 : Nat) < 18; decide) rfl rfl (by decide) rfl inM lM_30 rfl ?_
            refine v_iload_n C dM_takesNumber_118 rfl rfl ?_
            have hb26 := h7 (σ.1 0 21).toNat
            refine v_bald (k := 7) (v := σ.2 7 (σ.1 0 21).toNat) C dM_takesNumber_119 (by show (7 : Nat) < 18; decide) rfl rfl (by omega) (by decide) rfl ?_
            refine v_bipush C dM_takesNumber_120 (by decide +kernel) ?_
            refine v_icmp_eq (tgt := 129) C dM_takesNumber_122 (by decide) (by omega) (by omega) (fun hc27 => ?_) (fun hc27 => ?_)
            · refine v_iconst C dM_takesNumber_129 ?_
              exact v_zret C hRt hLk dM_takesNumber_130 (fN_bool (by omega)) ⟨m_scr_p (m_scr_p (m_scr_rf σ) 22 v (by decide)) 21 p (by decide), rfl, hve, hpe, rfl, rfl, by unfold p_nok; rw [← hpe]; first | exact Or.inl ⟨by omega, rfl⟩ | exact Or.inr ⟨by omega, rfl⟩⟩
            · refine v_iconst C dM_takesNumber_125 ?_
              refine v_goto (tgt := 130) C dM_takesNumber_126 (by decide) ?_
              exact v_zret C hRt hLk dM_takesNumber_130 (fN_bool (by omega)) ⟨m_scr_p (m_scr_p (m_scr_rf σ) 22 v (by decide)) 21 p (by decide), rfl, hve, hpe, rfl, rfl, by unfold p_nok; rw [← hpe]; first | exact Or.inl ⟨by omega, rfl⟩ | exact Or.inr ⟨by omega, rfl⟩⟩
      · refine v_aload_n C dM_takesNumber_21 rfl rfl ?_
        refine v_getR (k := 0) (q := 8) C dM_takesNumber_22 (by show (0 : Nat) < 18; decide) rfl rfl (by decide) rfl inM lM_30 rfl ?_
        refine v_aload_n C dM_takesNumber_25 rfl rfl ?_
        refine v_getI (k := 0) (q := 21) (v := p) C dM_takesNumber_26 (by show (0 : Nat) < 18; decide) rfl rfl (by decide) rfl inM lM_141 rfl rfl ?_
        have hb28 := h7 (p).toNat
        refine v_bald (k := 7) (v := σ.2 7 (p).toNat) C dM_takesNumber_29 (by show (7 : Nat) < 18; decide) rfl rfl (by omega) (by decide) rfl ?_
        refine v_bipush C dM_takesNumber_30 (by decide +kernel) ?_
        refine v_icmp_lt (tgt := 96) C dM_takesNumber_32 (by decide) (by omega) (by omega) (fun hc29 => ?_) (fun hc29 => ?_)
        · have hve : v = (p_num (σ.2 7) (σ.1 0 20) (σ.1 0 21)).1 := by first | exact hE3 | exact hE2.elim (fun h => absurd h.1 (by omega)) (fun h => h.2.1)
          have hpe : p = (p_num (σ.2 7) (σ.1 0 20) (σ.1 0 21)).2 := by first | exact hE4 | exact hE2.elim (fun h => absurd h.1 (by omega)) (fun h => h.2.2)
          refine v_aload_n C dM_takesNumber_96 rfl rfl ?_
          refine v_getI (k := 0) (q := 21) (v := p) C dM_takesNumber_97 (by show (0 : Nat) < 18; decide) rfl rfl (by decide) rfl inM lM_141 rfl rfl ?_
          refine v_iload_n C dM_takesNumber_100 rfl rfl ?_
          refine v_icmp_le (tgt := 129) C dM_takesNumber_101 (by decide) (by omega) (by omega) (fun hc30 => ?_) (fun hc30 => ?_)
          · refine v_iconst C dM_takesNumber_129 ?_
            exact v_zret C hRt hLk dM_takesNumber_130 (fN_bool (by omega)) ⟨m_scr_p (m_scr_p (m_scr_rf σ) 22 v (by decide)) 21 p (by decide), rfl, hve, hpe, rfl, rfl, by unfold p_nok; rw [← hpe]; first | exact Or.inl ⟨by omega, rfl⟩ | exact Or.inr ⟨by omega, rfl⟩⟩
          · refine v_aload_n C dM_takesNumber_104 rfl rfl ?_
            refine v_getI (k := 0) (q := 21) (v := p) C dM_takesNumber_105 (by show (0 : Nat) < 18; decide) rfl rfl (by decide) rfl inM lM_141 rfl rfl ?_
            refine v_iload_n C dM_takesNumber_108 rfl rfl ?_
            refine v_isub C dM_takesNumber_109 ?_
            refine v_iconst C dM_takesNumber_110 ?_
            refine v_icmp_eq (tgt := 125) C dM_takesNumber_111 (by decide) (by omega) (by omega) (fun hc31 => ?_) (fun hc31 => ?_)
            · refine v_iconst C dM_takesNumber_125 ?_
              refine v_goto (tgt := 130) C dM_takesNumber_126 (by decide) ?_
              exact v_zret C hRt hLk dM_takesNumber_130 (fN_bool (by omega)) ⟨m_scr_p (m_scr_p (m_scr_rf σ) 22 v (by decide)) 21 p (by decide), rfl, hve, hpe, rfl, rfl, by unfold p_nok; rw [← hpe]; first | exact Or.inl ⟨by omega, rfl⟩ | exact Or.inr ⟨by omega, rfl⟩⟩
            · refine v_aload_n C dM_takesNumber_114 rfl rfl ?_
              refine v_getR (k := 0) (q := 8) C dM_takesNumber_115 (by show (0 : Nat) < 18; decide) rfl rfl (by decide) rfl inM lM_30 rfl ?_
              refine v_iload_n C dM_takesNumber_118 rfl rfl ?_
              have hb32 := h7 (σ.1 0 21).toNat
              refine v_bald (k := 7) (v := σ.2 7 (σ.1 0 21).toNat) C dM_takesNumber_119 (by show (7 : Nat) < 18; decide) rfl rfl (by omega) (by decide) rfl ?_
              refine v_bipush C dM_takesNumber_120 (by decide +kernel) ?_
              refine v_icmp_eq (tgt := 129) C dM_takesNumber_122 (by decide) (by omega) (by omega) (fun hc33 => ?_) (fun hc33 => ?_)
              · refine v_iconst C dM_takesNumber_129 ?_
                exact v_zret C hRt hLk dM_takesNumber_130 (fN_bool (by omega)) ⟨m_scr_p (m_scr_p (m_scr_rf σ) 22 v (by decide)) 21 p (by decide), rfl, hve, hpe, rfl, rfl, by unfold p_nok; rw [← hpe]; first | exact Or.inl ⟨by omega, rfl⟩ | exact Or.inr ⟨by omega, rfl⟩⟩
              · refine v_iconst C dM_takesNumber_125 ?_
                refine v_goto (tgt := 130) C dM_takesNumber_126 (by decide) ?_
                exact v_zret C hRt hLk dM_takesNumber_130 (fN_bool (by omega)) ⟨m_scr_p (m_scr_p (m_scr_rf σ) 22 v (by decide)) 21 p (by decide), rfl, hve, hpe, rfl, rfl, by unfold p_nok; rw [← hpe]; first | exact Or.inl ⟨by omega, rfl⟩ | exact Or.inr ⟨by omega, rfl⟩⟩
        · refine v_aload_n C dM_takesNumber_35 rfl rfl ?_
          refine v_getR (k := 0) (q := 8) C dM_takesNumber_36 (by show (0 : Nat) < 18; decide) rfl rfl (by decide) rfl inM lM_30 rfl ?_
          refine v_aload_n C dM_takesNumber_39 rfl rfl ?_
          refine v_getI (k := 0) (q := 21) (v := p) C dM_takesNumber_40 (by show (0 : Nat) < 18; decide) rfl rfl (by decide) rfl inM lM_141 rfl rfl ?_
          have hb34 := h7 (p).toNat
          refine v_bald (k := 7) (v := σ.2 7 (p).toNat) C dM_takesNumber_43 (by show (7 : Nat) < 18; decide) rfl rfl (by omega) (by decide) rfl ?_
          refine v_bipush C dM_takesNumber_44 (by decide +kernel) ?_
          refine v_icmp_gt (tgt := 96) C dM_takesNumber_46 (by decide) (by omega) (by omega) (fun hc35 => ?_) (fun hc35 => ?_)
          · have hve : v = (p_num (σ.2 7) (σ.1 0 20) (σ.1 0 21)).1 := by first | exact hE3 | exact hE2.elim (fun h => absurd h.1 (by omega)) (fun h => h.2.1)
            have hpe : p = (p_num (σ.2 7) (σ.1 0 20) (σ.1 0 21)).2 := by first | exact hE4 | exact hE2.elim (fun h => absurd h.1 (by omega)) (fun h => h.2.2)
            refine v_aload_n C dM_takesNumber_96 rfl rfl ?_
            refine v_getI (k := 0) (q := 21) (v := p) C dM_takesNumber_97 (by show (0 : Nat) < 18; decide) rfl rfl (by decide) rfl inM lM_141 rfl rfl ?_
            refine v_iload_n C dM_takesNumber_100 rfl rfl ?_
            refine v_icmp_le (tgt := 129) C dM_takesNumber_101 (by decide) (by omega) (by omega) (fun hc36 => ?_) (fun hc36 => ?_)
            · refine v_iconst C dM_takesNumber_129 ?_
              exact v_zret C hRt hLk dM_takesNumber_130 (fN_bool (by omega)) ⟨m_scr_p (m_scr_p (m_scr_rf σ) 22 v (by decide)) 21 p (by decide), rfl, hve, hpe, rfl, rfl, by unfold p_nok; rw [← hpe]; first | exact Or.inl ⟨by omega, rfl⟩ | exact Or.inr ⟨by omega, rfl⟩⟩
            · refine v_aload_n C dM_takesNumber_104 rfl rfl ?_
              refine v_getI (k := 0) (q := 21) (v := p) C dM_takesNumber_105 (by show (0 : Nat) < 18; decide) rfl rfl (by decide) rfl inM lM_141 rfl rfl ?_
              refine v_iload_n C dM_takesNumber_108 rfl rfl ?_
              refine v_isub C dM_takesNumber_109 ?_
              refine v_iconst C dM_takesNumber_110 ?_
              refine v_icmp_eq (tgt := 125) C dM_takesNumber_111 (by decide) (by omega) (by omega) (fun hc37 => ?_) (fun hc37 => ?_)
              · refine v_iconst C dM_takesNumber_125 ?_
                refine v_goto (tgt := 130) C dM_takesNumber_126 (by decide) ?_
                exact v_zret C hRt hLk dM_takesNumber_130 (fN_bool (by omega)) ⟨m_scr_p (m_scr_p (m_scr_rf σ) 22 v (by decide)) 21 p (by decide), rfl, hve, hpe, rfl, rfl, by unfold p_nok; rw [← hpe]; first | exact Or.inl ⟨by omega, rfl⟩ | exact Or.inr ⟨by omega, rfl⟩⟩
              · refine v_aload_n C dM_takesNumber_114 rfl rfl ?_
                refine v_getR (k := 0) (q := 8) C dM_takesNumber_115 (by show (0 : Nat) < 18; decide) rfl rfl (by decide) rfl inM lM_30 rfl ?_
                refine v_iload_n C dM_takesNumber_118 rfl rfl ?_
                have hb38 := h7 (σ.1 0 21).toNat
                refine v_bald (k := 7) (v := σ.2 7 (σ.1 0 21).toNat) C dM_takesNumber_119 (by show (7 : Nat) < 18; decide) rfl rfl (by omega) (by decide) rfl ?_
                refine v_bipush C dM_takesNumber_120 (by decide +kernel) ?_
                refine v_icmp_eq (tgt := 129) C dM_takesNumber_122 (by decide) (by omega) (by omega) (fun hc39 => ?_) (fun hc39 => ?_)
                · refine v_iconst C dM_takesNumber_129 ?_
                  exact v_zret C hRt hLk dM_takesNumber_130 (fN_bool (by omega)) ⟨m_scr_p (m_scr_p (m_scr_rf σ) 22 v (by decide)) 21 p (by decide), rfl, hve, hpe, rfl, rfl, by unfold p_nok; rw [← hpe]; first | exact Or.inl ⟨by omega, rfl⟩ | exact Or.inr ⟨by omega, rfl⟩⟩
                · refine v_iconst C dM_takesNumber_125 ?_
                  refine v_goto (tgt := 130) C dM_takesNumber_126 (by decide) ?_
                  exact v_zret C hRt hLk dM_takesNumber_130 (fN_bool (by omega)) ⟨m_scr_p (m_scr_p (m_scr_rf σ) 22 v (by decide)) 21 p (by decide), rfl, hve, hpe, rfl, rfl, by unfold p_nok; rw [← hpe]; first | exact Or.inl ⟨by omega, rfl⟩ | exact Or.inr ⟨by omega, rfl⟩⟩
          · refine v_aload_n C dM_takesNumber_49 rfl rfl ?_
            refine v_getI (k := 0) (q := 21) (v := p) C dM_takesNumber_50 (by show (0 : Nat) < 18; decide) rfl rfl (by decide) rfl inM lM_141 rfl rfl ?_
            refine v_iload_n C dM_takesNumber_53 rfl rfl ?_
            refine v_isub C dM_takesNumber_54 ?_
            refine v_iconst C dM_takesNumber_55 ?_
            refine v_icmp_ge (tgt := 96) C dM_takesNumber_56 (by decide) (by omega) (by omega) (fun hc40 => ?_) (fun hc40 => ?_)
            · exfalso; omega
            · refine v_aload_n C dM_takesNumber_59 rfl rfl ?_
              refine v_bipush C dM_takesNumber_60 (by decide +kernel) ?_
              refine v_aload_n C dM_takesNumber_62 rfl rfl ?_
              refine v_getI (k := 0) (q := 22) (v := v) C dM_takesNumber_63 (by show (0 : Nat) < 18; decide) rfl rfl (by decide) rfl inM lM_147 rfl rfl ?_
              refine v_imul C dM_takesNumber_66 ?_
              refine v_aload_n C dM_takesNumber_67 rfl rfl ?_
              refine v_getR (k := 0) (q := 8) C dM_takesNumber_68 (by show (0 : Nat) < 18; decide) rfl rfl (by decide) rfl inM lM_30 rfl ?_
              refine v_aload_n C dM_takesNumber_71 rfl rfl ?_
              refine v_getI (k := 0) (q := 21) (v := p) C dM_takesNumber_72 (by show (0 : Nat) < 18; decide) rfl rfl (by decide) rfl inM lM_141 rfl rfl ?_
              have hb41 := h7 (p).toNat
              refine v_bald (k := 7) (v := σ.2 7 (p).toNat) C dM_takesNumber_75 (by show (7 : Nat) < 18; decide) rfl rfl (by omega) (by decide) rfl ?_
              refine v_iadd C dM_takesNumber_76 ?_
              refine v_bipush C dM_takesNumber_77 (by decide +kernel) ?_
              refine v_isub C dM_takesNumber_79 ?_
              refine v_putI (k := 0) (q := 22) C dM_takesNumber_80 (by show (0 : Nat) < 18; decide) rfl rfl (by decide) rfl inM tyM_ok nmM lM_147 rfl rfl rfl rfl rfl ?_
              refine v_aload_n C dM_takesNumber_83 rfl rfl ?_
              refine v_dup C dM_takesNumber_84 rfl ?_
              refine v_getI (k := 0) (q := 21) (v := p) C dM_takesNumber_85 (by show (0 : Nat) < 18; decide) rfl rfl (by decide) rfl inM lM_141 rfl rfl ?_
              refine v_iconst C dM_takesNumber_88 ?_
              refine v_iadd C dM_takesNumber_89 ?_
              refine v_putI (k := 0) (q := 21) C dM_takesNumber_90 (by show (0 : Nat) < 18; decide) rfl rfl (by decide) rfl inM tyM_ok nmM lM_141 rfl rfl rfl rfl rfl ?_
              refine v_goto (tgt := 10) C dM_takesNumber_93 (by decide) ?_
              exact v_st (m_nc_s σ v p _ _) (ih (p + 1) _ (by omega) (by omega) (by omega) (by omega) (by omega) (hE2.elim (fun h => h.2) (fun h => absurd (by omega) h.1)))
  refine v_aload_n C dM_takesNumber_0 rfl rfl ?_
  refine v_getI (k := 0) (q := 21) (v := σ.1 0 21) C dM_takesNumber_1 (by show (0 : Nat) < 18; decide) rfl rfl (by decide) rfl inM lM_141 rfl rfl ?_
  refine v_istore_n C dM_takesNumber_4 rfl (by decide) ?_
  refine v_aload_n C dM_takesNumber_5 rfl rfl ?_
  refine v_iconst C dM_takesNumber_6 ?_
  refine v_putI (k := 0) (q := 22) C dM_takesNumber_7 (by show (0 : Nat) < 18; decide) rfl rfl (by decide) rfl inM tyM_ok nmM lM_147 rfl rfl rfl rfl rfl ?_
  exact v_st (m_nc_0 σ) (L 5 (σ.1 0 21) 0 (by omega) (by omega) (by omega) (by omega) (by decide) rfl)
end
section
theorem kM_line2 (l : Launch) (xCl : List vw_C) (D : va_G) (cA : Nat → ClassId) (ad : Nat → Nat) (hJ : f_J (mG xCl D cA ad)) (σ : fS) (a : Int) (ha : 0 ≤ a ∧ a ≤ 100000) (hz : 0 ≤ σ.1 0 7 ∧ σ.1 0 7 ≤ 12000) (h7 : ∀ i, -128 ≤ σ.2 7 i ∧ σ.2 7 i ≤ 127) : f_M l (mG xCl D cA ad) mE yM_line (Cond.code yM_line cM_line 2 (some .boolean) :: A9) 0 σ [.ref (ad 0), .int (fI a)] (f_QI (fun r σ1 => m_scr σ σ1 ∧ σ1.1 0 21 = a ∧ σ1.1 0 20 = p_eol (σ.2 7) (σ.1 0 7) a ∧ σ1.1 0 22 = σ.1 0 22 ∧ σ1.1 0 26 = σ.1 0 26 ∧ σ1.1 0 27 = σ.1 0 27 ∧ ((p_eol (σ.2 7) (σ.1 0 7) a < σ.1 0 7 ∧ r = 1) ∨ (¬ p_eol (σ.2 7) (σ.1 0 7) a < σ.1 0 7 ∧ r = 0))) (mG xCl D cA ad)) :=
  f_weakI (kM_line l xCl D cA ad hJ σ a ha hz h7) (fun r σ1 h => by
    rcases h with ⟨h1, h2, rfl⟩ | ⟨h1, h2, rfl⟩
    · exact ⟨m_scr_p (m_scr_p (m_scr_rf σ) 21 a (by decide)) 20 _ (by decide), rfl, rfl, rfl, rfl, rfl, Or.inl ⟨h1, h2⟩⟩
    · exact ⟨m_scr_p (m_scr_p (m_scr_rf σ) 21 a (by decide)) 20 _ (by decide), rfl, rfl, rfl, rfl, rfl, Or.inr ⟨h1, h2⟩⟩)
theorem kM_takes2 (l : Launch) (xCl : List vw_C) (D : va_G) (cA : Nat → ClassId) (ad : Nat → Nat) (hJ : f_J (mG xCl D cA ad)) (σ : fS) (c : Int) (hc : -128 ≤ c ∧ c ≤ 127) (hu : 0 ≤ σ.1 0 21 ∧ σ.1 0 21 ≤ 100000) (he : σ.1 0 20 ≤ 12000 ∨ σ.1 0 20 ≤ σ.1 0 21) (hl : -2147483648 ≤ σ.1 0 20 ∧ σ.1 0 20 ≤ 2147483647) (h7 : ∀ i, -128 ≤ σ.2 7 i ∧ σ.2 7 i ≤ 127) : f_M l (mG xCl D cA ad) mE yM_takes (Cond.code yM_takes cM_takes 3 (some .boolean) :: A9) 0 σ [.ref (ad 0), .int (fI c)] (f_QI (fun r σ1 => m_scr σ σ1 ∧ σ1.1 0 20 = σ.1 0 20 ∧ σ1.1 0 22 = σ.1 0 22 ∧ σ1.1 0 26 = σ.1 0 26 ∧ σ1.1 0 27 = σ.1 0 27 ∧ (((σ.1 0 21 < σ.1 0 20 ∧ σ.2 7 (σ.1 0 21).toNat = c) ∧ r = 1 ∧ σ1.1 0 21 = σ.1 0 21 + 1) ∨ (¬ (σ.1 0 21 < σ.1 0 20 ∧ σ.2 7 (σ.1 0 21).toNat = c) ∧ r = 0 ∧ σ1.1 0 21 = σ.1 0 21))) (mG xCl D cA ad)) :=
  f_weakI (kM_takes l xCl D cA ad hJ σ c hc hu he hl h7) (fun r σ1 h => by
    rcases h with ⟨h1, h2, rfl⟩ | ⟨h1, h2, h3⟩
    · exact ⟨m_scr_p (m_scr_rf σ) 21 _ (by decide), rfl, rfl, rfl, rfl, Or.inl ⟨h1, h2, rfl⟩⟩
    · subst σ1; exact ⟨m_scr_rf σ, rfl, rfl, rfl, rfl, Or.inr ⟨h1, h2, rfl⟩⟩)
theorem kM_isOver2 (l : Launch) (xCl : List vw_C) (D : va_G) (cA : Nat → ClassId) (ad : Nat → Nat) (hJ : f_J (mG xCl D cA ad)) (σ : fS) (hc : -2147483648 ≤ σ.1 0 21 ∧ σ.1 0 21 ≤ 2147483647) (hl : -2147483648 ≤ σ.1 0 20 ∧ σ.1 0 20 ≤ 2147483647) : f_M l (mG xCl D cA ad) mE yM_isOver (Cond.code yM_isOver cM_isOver 1 (some .boolean) :: A9) 0 σ [.ref (ad 0)] (f_QI (fun r σ1 => (σ.1 0 21 = σ.1 0 20 ∧ r = 1 ∧ σ1 = σ) ∨ (¬ σ.1 0 21 = σ.1 0 20 ∧ r = 0 ∧ σ1 = σ)) (mG xCl D cA ad)) :=
  f_weakI (kM_isOver l xCl D cA ad hJ σ hc hl) (fun r σ1 h => by
    obtain ⟨h1, h2⟩ := h
    by_cases hc : σ.1 0 21 = σ.1 0 20
    · rw [if_pos hc] at h1; exact Or.inl ⟨hc, h1, h2⟩
    · rw [if_neg hc] at h1; exact Or.inr ⟨hc, h1, h2⟩)
set_option maxRecDepth 100000 in
set_option maxHeartbeats 4000000 in
/-- tells(from, letter) -/
theorem kM_tells (l : Launch) (xCl : List vw_C) (D : va_G) (cA : Nat → ClassId) (ad : Nat → Nat) (hJ : f_J (mG xCl D cA ad)) (σ : fS) (a c : Int) (ha : 0 ≤ a ∧ a ≤ 12000) (hc : -128 ≤ c ∧ c ≤ 127) (hz : 0 ≤ σ.1 0 7 ∧ σ.1 0 7 ≤ 12000) (h7 : ∀ i, -128 ≤ σ.2 7 i ∧ σ.2 7 i ≤ 127) : f_M l (mG xCl D cA ad) mE yM_tells (Cond.code yM_tells cM_tells 3 (some .boolean) :: A9) 1 σ [.ref (ad 0), .int (fI a), .int (fI c)] (f_QI (fun r σ1 => m_scr σ σ1 ∧ σ1.1 0 26 = σ.1 0 26 ∧ σ1.1 0 27 = σ.1 0 27 ∧ ((p_tell (σ.2 7) (σ.1 0 7) a c ∧ r = 1 ∧ σ1.1 0 20 = p_eol (σ.2 7) (σ.1 0 7) a ∧ σ1.1 0 22 = p_tv (σ.2 7) (σ.1 0 7) a) ∨ (¬ p_tell (σ.2 7) (σ.1 0 7) a c ∧ r = 0))) (mG xCl D cA ad)) := by
  refine f_enter (by decide +kernel) hJ rfl (Nat.le_of_ble_eq_true rfl) ?_
  intro z hzl hR C hRt hLk hEz
  subst hzl
  refine v_aload_n C dM_tells_0 rfl rfl ?_
  refine v_iload_n C dM_tells_1 rfl rfl ?_
  refine v_cVI (k := 0) (n := 1) C (mE_ok _) trivial hR (kM_line2 _ xCl D cA ad hJ σ (a) (by omega) hz h7) dM_tells_2 (by show (0 : Nat) < 18; decide) rfl rfl gM_150 (by decide +kernel) (by decide) (by decide) rfl (Nat.le_of_ble_eq_true rfl) rfl ⟨rfl, rfl⟩ (fun r1 τ1 hp1 => ?_)
  obtain ⟨g1_s, g1_21, g1_20, g1_22, g1_26, g1_27, ⟨g1_c, rfl⟩ | ⟨g1_c, rfl⟩⟩ := hp1
  · have hs1_ := g1_s
    have g1_l := @p_eol_le (σ.2 7) (σ.1 0 7) (a)
    refine v_if_eq (tgt := 43) C dM_tells_5 (by decide) (by omega) (fun hc1 => ?_) (fun hc1 => ?_)
    · exfalso; omega
    · refine v_aload_n C dM_tells_8 rfl rfl ?_
      refine v_iload_n C dM_tells_9 rfl rfl ?_
      have hz2 : 0 ≤ τ1.1 0 7 ∧ τ1.1 0 7 ≤ 12000 := by rw [m_scr_z hs1_]; exact hz
      have hb3 : ∀ i, -128 ≤ τ1.2 7 i ∧ τ1.2 7 i ≤ 127 := fun i => by rw [m_scr_a hs1_]; exact h7 i
      refine v_cVI (k := 0) (n := 1) C (mE_ok _) trivial hR (kM_takes2 _ xCl D cA ad hJ τ1 (c) (by omega) (by omega) (by omega) (by omega) hb3) dM_tells_10 (by show (0 : Nat) < 18; decide) rfl rfl gM_153 (by decide +kernel) (by decide) (by decide) rfl (Nat.le_of_ble_eq_true rfl) rfl ⟨rfl, rfl⟩ (fun r2 τ2 hp2 => ?_)
      simp only [hs1_.1, m_scr_z hs1_, g1_20, g1_21, g1_22, g1_26, g1_27] at hp2
      obtain ⟨g2_s, g2_20, g2_22, g2_26, g2_27, ⟨g2_c, rfl, g2_21⟩ | ⟨g2_c, rfl, g2_21⟩⟩ := hp2
      · have hs2_ := m_scr_tr hs1_ g2_s
        have g2_21n : τ2.1 0 21 = a + 1 := by omega
        refine v_if_eq (tgt := 43) C dM_tells_13 (by decide) (by omega) (fun hc4 => ?_) (fun hc4 => ?_)
        · exfalso; omega
        · refine v_aload_n C dM_tells_16 rfl rfl ?_
          refine v_bipush C dM_tells_17 (by decide +kernel) ?_
          have hz5 : 0 ≤ τ2.1 0 7 ∧ τ2.1 0 7 ≤ 12000 := by rw [m_scr_z hs2_]; exact hz
          have hb6 : ∀ i, -128 ≤ τ2.2 7 i ∧ τ2.2 7 i ≤ 127 := fun i => by rw [m_scr_a hs2_]; exact h7 i
          refine v_cVI (k := 0) (n := 1) C (mE_ok _) trivial hR (kM_takes2 _ xCl D cA ad hJ τ2 (32) (by omega) (by omega) (by omega) (by omega) hb6) dM_tells_19 (by show (0 : Nat) < 18; decide) rfl rfl gM_153 (by decide +kernel) (by decide) (by decide) rfl (Nat.le_of_ble_eq_true rfl) rfl ⟨rfl, rfl⟩ (fun r3 τ3 hp3 => ?_)
          simp only [hs2_.1, m_scr_z hs2_, g2_20, g2_21n, g2_22, g2_26, g2_27] at hp3
          obtain ⟨g3_s, g3_20, g3_22, g3_26, g3_27, ⟨g3_c, rfl, g3_21⟩ | ⟨g3_c, rfl, g3_21⟩⟩ := hp3
          · have hs3_ := m_scr_tr hs2_ g3_s
            have g3_21n : τ3.1 0 21 = a + 2 := by omega
            refine v_if_eq (tgt := 43) C dM_tells_22 (by decide) (by omega) (fun hc7 => ?_) (fun hc7 => ?_)
            · exfalso; omega
            · refine v_aload_n C dM_tells_25 rfl rfl ?_
              have hz8 : 0 ≤ τ3.1 0 7 ∧ τ3.1 0 7 ≤ 12000 := by rw [m_scr_z hs3_]; exact hz
              have hb9 : ∀ i, -128 ≤ τ3.2 7 i ∧ τ3.2 7 i ≤ 127 := fun i => by rw [m_scr_a hs3_]; exact h7 i
              refine v_cVI (k := 0) (n := 0) C (mE_ok _) trivial hR (kM_takesNumber _ xCl D cA ad hJ τ3 (by omega) (by omega) (by omega) (by omega) hb9) dM_tells_26 (by show (0 : Nat) < 18; decide) rfl rfl gM_156 (by decide +kernel) (by decide) (by decide) rfl (Nat.le_of_ble_eq_true rfl) rfl ⟨rfl, rfl⟩ (fun r4 τ4 hp4 => ?_)
              simp only [hs3_.1, m_scr_z hs3_, g3_20, g3_21n, g3_22, g3_26, g3_27] at hp4
              obtain ⟨g4_s, g4_20, g4_22, g4_21, g4_26, g4_27, ⟨g4_c, rfl⟩ | ⟨g4_c, rfl⟩⟩ := hp4
              · have hs4_ := m_scr_tr hs3_ g4_s
                have g4_l := p_num_le (σ.2 7) (p_eol (σ.2 7) (σ.1 0 7) (a)) (a + 2)
                have g4_v := p_num_v (σ.2 7) (p_eol (σ.2 7) (σ.1 0 7) (a)) (a + 2)
                refine v_if_eq (tgt := 43) C dM_tells_29 (by decide) (by omega) (fun hc10 => ?_) (fun hc10 => ?_)
                · exfalso; omega
                · refine v_aload_n C dM_tells_32 rfl rfl ?_
                  have hz11 : 0 ≤ τ4.1 0 7 ∧ τ4.1 0 7 ≤ 12000 := by rw [m_scr_z hs4_]; exact hz
                  have hb12 : ∀ i, -128 ≤ τ4.2 7 i ∧ τ4.2 7 i ≤ 127 := fun i => by rw [m_scr_a hs4_]; exact h7 i
                  refine v_cVI (k := 0) (n := 0) C (mE_ok _) trivial hR (kM_isOver2 _ xCl D cA ad hJ τ4 (by omega) (by omega)) dM_tells_33 (by show (0 : Nat) < 18; decide) rfl rfl gM_160 (by decide +kernel) (by decide) (by decide) rfl (Nat.le_of_ble_eq_true rfl) rfl ⟨rfl, rfl⟩ (fun r5 τ5 hp5 => ?_)
                  simp only [hs4_.1, m_scr_z hs4_, g4_20, g4_21, g4_22, g4_26, g4_27] at hp5
                  obtain ⟨g5_c, rfl, g5_e⟩ | ⟨g5_c, rfl, g5_e⟩ := hp5
                  · subst τ5
                    refine v_if_eq (tgt := 43) C dM_tells_36 (by decide) (by omega) (fun hc13 => ?_) (fun hc13 => ?_)
                    · exfalso; omega
                    · refine v_iconst C dM_tells_39 ?_
                      refine v_goto (tgt := 44) C dM_tells_40 (by decide) ?_
                      exact v_zret C hRt hLk dM_tells_44 (fN_bool (by omega)) ⟨hs4_, g4_26, g4_27, Or.inl ⟨⟨g1_c, g2_c, g3_c, g4_c, g5_c⟩, rfl, g4_20, g4_22⟩⟩
                  · subst τ5
                    refine v_if_eq (tgt := 43) C dM_tells_36 (by decide) (by omega) (fun hc14 => ?_) (fun hc14 => ?_)
                    · refine v_iconst C dM_tells_43 ?_
                      exact v_zret C hRt hLk dM_tells_44 (fN_bool (by omega)) ⟨hs4_, g4_26, g4_27, Or.inr ⟨fun h9 => by first | exact g1_c h9.1 | exact g2_c h9.2.1 | exact g3_c h9.2.2.1 | exact g4_c h9.2.2.2.1 | exact g5_c h9.2.2.2.2, rfl⟩⟩
                    · exfalso; omega
              · have hs4_ := m_scr_tr hs3_ g4_s
                have g4_l := p_num_le (σ.2 7) (p_eol (σ.2 7) (σ.1 0 7) (a)) (a + 2)
                have g4_v := p_num_v (σ.2 7) (p_eol (σ.2 7) (σ.1 0 7) (a)) (a + 2)
                refine v_if_eq (tgt := 43) C dM_tells_29 (by decide) (by omega) (fun hc15 => ?_) (fun hc15 => ?_)
                · refine v_iconst C dM_tells_43 ?_
                  exact v_zret C hRt hLk dM_tells_44 (fN_bool (by omega)) ⟨hs4_, g4_26, g4_27, Or.inr ⟨fun h9 => by first | exact g1_c h9.1 | exact g2_c h9.2.1 | exact g3_c h9.2.2.1 | exact g4_c h9.2.2.2.1 | exact g5_c h9.2.2.2.2, rfl⟩⟩
                · exfalso; omega
          · have hs3_ := m_scr_tr hs2_ g3_s
            refine v_if_eq (tgt := 43) C dM_tells_22 (by decide) (by omega) (fun hc16 => ?_) (fun hc16 => ?_)
            · refine v_iconst C dM_tells_43 ?_
              exact v_zret C hRt hLk dM_tells_44 (fN_bool (by omega)) ⟨hs3_, g3_26, g3_27, Or.inr ⟨fun h9 => by first | exact g1_c h9.1 | exact g2_c h9.2.1 | exact g3_c h9.2.2.1 | exact g4_c h9.2.2.2.1 | exact g5_c h9.2.2.2.2, rfl⟩⟩
            · exfalso; omega
      · have hs2_ := m_scr_tr hs1_ g2_s
        refine v_if_eq (tgt := 43) C dM_tells_13 (by decide) (by omega) (fun hc17 => ?_) (fun hc17 => ?_)
        · refine v_iconst C dM_tells_43 ?_
          exact v_zret C hRt hLk dM_tells_44 (fN_bool (by omega)) ⟨hs2_, g2_26, g2_27, Or.inr ⟨fun h9 => by first | exact g1_c h9.1 | exact g2_c h9.2.1 | exact g3_c h9.2.2.1 | exact g4_c h9.2.2.2.1 | exact g5_c h9.2.2.2.2, rfl⟩⟩
        · exfalso; omega
  · have hs1_ := g1_s
    have g1_l := @p_eol_le (σ.2 7) (σ.1 0 7) (a)
    refine v_if_eq (tgt := 43) C dM_tells_5 (by decide) (by omega) (fun hc18 => ?_) (fun hc18 => ?_)
    · refine v_iconst C dM_tells_43 ?_
      exact v_zret C hRt hLk dM_tells_44 (fN_bool (by omega)) ⟨hs1_, g1_26, g1_27, Or.inr ⟨fun h9 => by first | exact g1_c h9.1 | exact g2_c h9.2.1 | exact g3_c h9.2.2.1 | exact g4_c h9.2.2.2.1 | exact g5_c h9.2.2.2.2, rfl⟩⟩
    · exfalso; omega
end
section
/-- a row of the file at p: whether there is one, its number, its place (-1: gone) -/
def p_q (f : Nat → Int) (z p : Int) : Int := (p_num f (p_eol f z p) p).2
def p_dash (f : Nat → Int) (z p : Int) : Prop := p_q f z p + 1 < p_eol f z p ∧ f (p_q f z p + 1).toNat = 45
def p_row (f : Nat → Int) (z p : Int) : Prop := p_eol f z p < z ∧ p_nok f (p_eol f z p) p ∧ (p_q f z p < p_eol f z p ∧ f (p_q f z p).toNat = 32) ∧ ((p_dash f z p ∧ p_q f z p + 2 = p_eol f z p) ∨ (¬ p_dash f z p ∧ p_nok f (p_eol f z p) (p_q f z p + 1) ∧ (p_num f (p_eol f z p) (p_q f z p + 1)).2 = p_eol f z p))
def p_rn (f : Nat → Int) (z p : Int) : Int := (p_num f (p_eol f z p) p).1
def p_rp (f : Nat → Int) (z p v : Int) : Prop := (p_dash f z p ∧ v = -1) ∨ (¬ p_dash f z p ∧ v = (p_num f (p_eol f z p) (p_q f z p + 1)).1)
/-- a record of n at p, all of it before b -/
def p_rec (f : Nat → Int) (z p n b : Int) : Prop := p_eol f z p < z ∧ (p < p_eol f z p ∧ f p.toNat = 111) ∧ (p + 1 < p_eol f z p ∧ f (p + 1).toNat = 32) ∧ p_nok f (p_eol f z p) (p + 2) ∧ (p_num f (p_eol f z p) (p + 2)).1 = n ∧ ((p_num f (p_eol f z p) (p + 2)).2 < p_eol f z p ∧ f ((p_num f (p_eol f z p) (p + 2)).2).toNat = 32) ∧ p_nok f (p_eol f z p) ((p_num f (p_eol f z p) (p + 2)).2 + 1) ∧ (p_num f (p_eol f z p) ((p_num f (p_eol f z p) (p + 2)).2 + 1)).2 = p_eol f z p ∧ (p_num f (p_eol f z p) ((p_num f (p_eol f z p) (p + 2)).2 + 1)).1 ≤ 120 ∧ p_eol f z p + 1 + (p_num f (p_eol f z p) ((p_num f (p_eol f z p) (p + 2)).2 + 1)).1 < b ∧ f (p_eol f z p + 1 + (p_num f (p_eol f z p) ((p_num f (p_eol f z p) (p + 2)).2 + 1)).1).toNat = 10
def p_rl (f : Nat → Int) (z p : Int) : Int := (p_num f (p_eol f z p) ((p_num f (p_eol f z p) (p + 2)).2 + 1)).1
set_option maxRecDepth 100000 in
set_option maxHeartbeats 4000000 in
/-- isRow(from) -/
theorem kM_isRow (l : Launch) (xCl : List vw_C) (D : va_G) (cA : Nat → ClassId) (ad : Nat → Nat) (hJ : f_J (mG xCl D cA ad)) (σ : fS) (a : Int) (ha : 0 ≤ a ∧ a ≤ 12000) (hz : 0 ≤ σ.1 0 7 ∧ σ.1 0 7 ≤ 12000) (h7 : ∀ i, -128 ≤ σ.2 7 i ∧ σ.2 7 i ≤ 127) : f_M l (mG xCl D cA ad) mE yM_isRow (Cond.code yM_isRow cM_isRow 3 (some .boolean) :: A9) 1 σ [.ref (ad 0), .int (fI a)] (f_QI (fun r σ1 => m_scr σ σ1 ∧ σ1.1 0 20 = p_eol (σ.2 7) (σ.1 0 7) a ∧ ((p_row (σ.2 7) (σ.1 0 7) a ∧ r = 1 ∧ σ1.1 0 26 = p_rn (σ.2 7) (σ.1 0 7) a ∧ p_rp (σ.2 7) (σ.1 0 7) a (σ1.1 0 27)) ∨ (¬ p_row (σ.2 7) (σ.1 0 7) a ∧ r = 0))) (mG xCl D cA ad)) := by
  refine f_enter (by decide +kernel) hJ rfl (Nat.le_of_ble_eq_true rfl) ?_
  intro z hzl hR C hRt hLk hEz
  subst hzl
  refine v_aload_n C dM_isRow_0 rfl rfl ?_
  refine v_iload_n C dM_isRow_1 rfl rfl ?_
  refine v_cVI (k := 0) (n := 1) C (mE_ok _) trivial hR (kM_line2 _ xCl D cA ad hJ σ (a) (by omega) hz h7) dM_isRow_2 (by show (0 : Nat) < 18; decide) rfl rfl gM_150 (by decide +kernel) (by decide) (by decide) rfl (Nat.le_of_ble_eq_true rfl) rfl ⟨rfl, rfl⟩ (fun r1 τ1 hp1 => ?_)
  obtain ⟨g1_s, g1_21, g1_20, g1_22, g1_26, g1_27, ⟨g1_c, rfl⟩ | ⟨g1_c, rfl⟩⟩ := hp1
  · have hs1_ := g1_s
    have g1_l := @p_eol_le (σ.2 7) (σ.1 0 7) (a)
    refine v_if_eq (tgt := 15) C dM_isRow_5 (by decide) (by omega) (fun hc1 => ?_) (fun hc1 => ?_)
    · exfalso; omega
    · refine v_aload_n C dM_isRow_8 rfl rfl ?_
      have hz2 : 0 ≤ τ1.1 0 7 ∧ τ1.1 0 7 ≤ 12000 := by rw [m_scr_z hs1_]; exact hz
      have hb3 : ∀ i, -128 ≤ τ1.2 7 i ∧ τ1.2 7 i ≤ 127 := fun i => by rw [m_scr_a hs1_]; exact h7 i
      refine v_cVI (k := 0) (n := 0) C (mE_ok _) trivial hR (kM_takesNumber _ xCl D cA ad hJ τ1 (by omega) (by omega) (by omega) (by omega) hb3) dM_isRow_9 (by show (0 : Nat) < 18; decide) rfl rfl gM_156 (by decide +kernel) (by decide) (by decide) rfl (Nat.le_of_ble_eq_true rfl) rfl ⟨rfl, rfl⟩ (fun r2 τ2 hp2 => ?_)
      simp only [hs1_.1, m_scr_z hs1_, g1_20, g1_21, g1_22, g1_26, g1_27] at hp2
      obtain ⟨g2_s, g2_20, g2_22, g2_21, g2_26, g2_27, ⟨g2_c, rfl⟩ | ⟨g2_c, rfl⟩⟩ := hp2
      · have hs2_ := m_scr_tr hs1_ g2_s
        have g2_l := p_num_le (σ.2 7) (p_eol (σ.2 7) (σ.1 0 7) (a)) (a)
        have g2_v := p_num_v (σ.2 7) (p_eol (σ.2 7) (σ.1 0 7) (a)) (a)
        refine v_if_ne (tgt := 17) C dM_isRow_12 (by decide) (by omega) (fun hc4 => ?_) (fun hc4 => ?_)
        · refine v_aload_n C dM_isRow_17 rfl rfl ?_
          refine v_aload_n C dM_isRow_18 rfl rfl ?_
          refine v_getI (k := 0) (q := 22) (v := (p_num (σ.2 7) (p_eol (σ.2 7) (σ.1 0 7) (a)) (a)).1) C dM_isRow_19 (by show (0 : Nat) < 18; decide) rfl rfl (by decide) rfl inM lM_147 rfl g2_22 ?_
          refine v_putI (k := 0) (q := 26) C dM_isRow_22 (by show (0 : Nat) < 18; decide) rfl rfl (by decide) rfl inM tyM_ok nmM lM_113 rfl rfl rfl rfl rfl ?_
          refine v_aload_n C dM_isRow_25 rfl rfl ?_
          refine v_bipush C dM_isRow_26 (by decide +kernel) ?_
          obtain ⟨υ5, υ5e⟩ : ∃ s, s = (f_p1 τ2 0 26 ((p_num (σ.2 7) (p_eol (σ.2 7) (σ.1 0 7) (a)) (a)).1)) := ⟨_, rfl⟩
          refine v_st υ5e.symm ?_
          have hs6 : m_scr σ υ5 := by rw [υ5e]; exact (m_scr_p hs2_ 26 ((p_num (σ.2 7) (p_eol (σ.2 7) (σ.1 0 7) (a)) (a)).1) (by decide))
          have ef7 : υ5.1 0 20 = p_eol (σ.2 7) (σ.1 0 7) (a) := by rw [υ5e]; exact g2_20
          have ef8 : υ5.1 0 21 = (p_num (σ.2 7) (p_eol (σ.2 7) (σ.1 0 7) (a)) (a)).2 := by rw [υ5e]; exact g2_21
          have ef9 : υ5.1 0 22 = (p_num (σ.2 7) (p_eol (σ.2 7) (σ.1 0 7) (a)) (a)).1 := by rw [υ5e]; exact g2_22
          have ef10 : υ5.1 0 26 = (p_num (σ.2 7) (p_eol (σ.2 7) (σ.1 0 7) (a)) (a)).1 := by rw [υ5e]; exact rfl
          have ef11 : υ5.1 0 27 = σ.1 0 27 := by rw [υ5e]; exact g2_27
          have hz12 : 0 ≤ υ5.1 0 7 ∧ υ5.1 0 7 ≤ 12000 := by rw [m_scr_z hs6]; exact hz
          have hb13 : ∀ i, -128 ≤ υ5.2 7 i ∧ υ5.2 7 i ≤ 127 := fun i => by rw [m_scr_a hs6]; exact h7 i
          refine v_cVI (k := 0) (n := 1) C (mE_ok _) trivial hR (kM_takes2 _ xCl D cA ad hJ υ5 (32) (by omega) (by omega) (by omega) (by omega) hb13) dM_isRow_28 (by show (0 : Nat) < 18; decide) rfl rfl gM_153 (by decide +kernel) (by decide) (by decide) rfl (Nat.le_of_ble_eq_true rfl) rfl ⟨rfl, rfl⟩ (fun r3 τ3 hp3 => ?_)
          simp only [hs6.1, m_scr_z hs6, ef7, ef8, ef9, ef10, ef11] at hp3
          obtain ⟨g3_s, g3_20, g3_22, g3_26, g3_27, ⟨g3_c, rfl, g3_21⟩ | ⟨g3_c, rfl, g3_21⟩⟩ := hp3
          · have hs3_ := m_scr_tr hs6 g3_s
            have g3_21n : τ3.1 0 21 = (p_num (σ.2 7) (p_eol (σ.2 7) (σ.1 0 7) (a)) (a)).2 + 1 := by omega
            refine v_if_ne (tgt := 36) C dM_isRow_31 (by decide) (by omega) (fun hc14 => ?_) (fun hc14 => ?_)
            · refine v_aload_n C dM_isRow_36 rfl rfl ?_
              refine v_iconst C dM_isRow_37 ?_
              refine v_putI (k := 0) (q := 27) C dM_isRow_38 (by show (0 : Nat) < 18; decide) rfl rfl (by decide) rfl inM tyM_ok nmM lM_163 rfl rfl rfl rfl rfl ?_
              refine v_aload_n C dM_isRow_41 rfl rfl ?_
              refine v_bipush C dM_isRow_42 (by decide +kernel) ?_
              obtain ⟨υ15, υ15e⟩ : ∃ s, s = (f_p1 τ3 0 27 ((-1))) := ⟨_, rfl⟩
              refine v_st υ15e.symm ?_
              have hs16 : m_scr σ υ15 := by rw [υ15e]; exact (m_scr_p hs3_ 27 ((-1)) (by decide))
              have ef17 : υ15.1 0 20 = p_eol (σ.2 7) (σ.1 0 7) (a) := by rw [υ15e]; exact g3_20
              have ef18 : υ15.1 0 21 = (p_num (σ.2 7) (p_eol (σ.2 7) (σ.1 0 7) (a)) (a)).2 + 1 := by rw [υ15e]; exact g3_21n
              have ef19 : υ15.1 0 22 = (p_num (σ.2 7) (p_eol (σ.2 7) (σ.1 0 7) (a)) (a)).1 := by rw [υ15e]; exact g3_22
              have ef20 : υ15.1 0 26 = (p_num (σ.2 7) (p_eol (σ.2 7) (σ.1 0 7) (a)) (a)).1 := by rw [υ15e]; exact g3_26
              have ef21 : υ15.1 0 27 = (-1) := by rw [υ15e]; exact rfl
              have hz22 : 0 ≤ υ15.1 0 7 ∧ υ15.1 0 7 ≤ 12000 := by rw [m_scr_z hs16]; exact hz
              have hb23 : ∀ i, -128 ≤ υ15.2 7 i ∧ υ15.2 7 i ≤ 127 := fun i => by rw [m_scr_a hs16]; exact h7 i
              refine v_cVI (k := 0) (n := 1) C (mE_ok _) trivial hR (kM_takes2 _ xCl D cA ad hJ υ15 (45) (by omega) (by omega) (by omega) (by omega) hb23) dM_isRow_44 (by show (0 : Nat) < 18; decide) rfl rfl gM_153 (by decide +kernel) (by decide) (by decide) rfl (Nat.le_of_ble_eq_true rfl) rfl ⟨rfl, rfl⟩ (fun r4 τ4 hp4 => ?_)
              simp only [hs16.1, m_scr_z hs16, ef17, ef18, ef19, ef20, ef21] at hp4
              obtain ⟨g4_s, g4_20, g4_22, g4_26, g4_27, ⟨g4_c, rfl, g4_21⟩ | ⟨g4_c, rfl, g4_21⟩⟩ := hp4
              · have hs4_ := m_scr_tr hs16 g4_s
                have g4_21n : τ4.1 0 21 = (p_num (σ.2 7) (p_eol (σ.2 7) (σ.1 0 7) (a)) (a)).2 + 2 := by omega
                refine v_if_eq (tgt := 55) C dM_isRow_47 (by decide) (by omega) (fun hc24 => ?_) (fun hc24 => ?_)
                · exfalso; omega
                · refine v_aload_n C dM_isRow_50 rfl rfl ?_
                  have hz25 : 0 ≤ τ4.1 0 7 ∧ τ4.1 0 7 ≤ 12000 := by rw [m_scr_z hs4_]; exact hz
                  have hb26 : ∀ i, -128 ≤ τ4.2 7 i ∧ τ4.2 7 i ≤ 127 := fun i => by rw [m_scr_a hs4_]; exact h7 i
                  refine v_cVI (k := 0) (n := 0) C (mE_ok _) trivial hR (kM_isOver2 _ xCl D cA ad hJ τ4 (by omega) (by omega)) dM_isRow_51 (by show (0 : Nat) < 18; decide) rfl rfl gM_160 (by decide +kernel) (by decide) (by decide) rfl (Nat.le_of_ble_eq_true rfl) rfl ⟨rfl, rfl⟩ (fun r5 τ5 hp5 => ?_)
                  simp only [hs4_.1, m_scr_z hs4_, g4_20, g4_21n, g4_22, g4_26, g4_27] at hp5
                  obtain ⟨g5_c, rfl, g5_e⟩ | ⟨g5_c, rfl, g5_e⟩ := hp5
                  · subst τ5
                    exact v_zret C hRt hLk dM_isRow_54 (fN_bool (by omega)) ⟨hs4_, g4_20, Or.inl ⟨⟨g1_c, g2_c, g3_c, Or.inl ⟨g4_c, g5_c⟩⟩, rfl, g4_26, Or.inl ⟨g4_c, g4_27⟩⟩⟩
                  · subst τ5
                    exact v_zret C hRt hLk dM_isRow_54 (fN_bool (by omega)) ⟨hs4_, g4_20, Or.inr ⟨fun h9 => by first | exact g1_c h9.1 | exact g2_c h9.2.1 | exact g3_c h9.2.2.1 | exact h9.2.2.2.elim (fun k => by first | exact g5_c k.2 | exact g4_c k.1) (fun k => by first | exact k.1 g4_c | exact g5_c k.2.1 | exact nope k.2.2), rfl⟩⟩
              · have hs4_ := m_scr_tr hs16 g4_s
                refine v_if_eq (tgt := 55) C dM_isRow_47 (by decide) (by omega) (fun hc27 => ?_) (fun hc27 => ?_)
                · refine v_aload_n C dM_isRow_55 rfl rfl ?_
                  have hz28 : 0 ≤ τ4.1 0 7 ∧ τ4.1 0 7 ≤ 12000 := by rw [m_scr_z hs4_]; exact hz
                  have hb29 : ∀ i, -128 ≤ τ4.2 7 i ∧ τ4.2 7 i ≤ 127 := fun i => by rw [m_scr_a hs4_]; exact h7 i
                  refine v_cVI (k := 0) (n := 0) C (mE_ok _) trivial hR (kM_takesNumber _ xCl D cA ad hJ τ4 (by omega) (by omega) (by omega) (by omega) hb29) dM_isRow_56 (by show (0 : Nat) < 18; decide) rfl rfl gM_156 (by decide +kernel) (by decide) (by decide) rfl (Nat.le_of_ble_eq_true rfl) rfl ⟨rfl, rfl⟩ (fun r6 τ6 hp6 => ?_)
                  simp only [hs4_.1, m_scr_z hs4_, g4_20, g4_21, g4_22, g4_26, g4_27] at hp6
                  obtain ⟨g6_s, g6_20, g6_22, g6_21, g6_26, g6_27, ⟨g6_c, rfl⟩ | ⟨g6_c, rfl⟩⟩ := hp6
                  · have hs6_ := m_scr_tr hs4_ g6_s
                    have g6_l := p_num_le (σ.2 7) (p_eol (σ.2 7) (σ.1 0 7) (a)) ((p_num (σ.2 7) (p_eol (σ.2 7) (σ.1 0 7) (a)) (a)).2 + 1)
                    have g6_v := p_num_v (σ.2 7) (p_eol (σ.2 7) (σ.1 0 7) (a)) ((p_num (σ.2 7) (p_eol (σ.2 7) (σ.1 0 7) (a)) (a)).2 + 1)
                    refine v_if_eq (tgt := 73) C dM_isRow_59 (by decide) (by omega) (fun hc30 => ?_) (fun hc30 => ?_)
                    · exfalso; omega
                    · refine v_aload_n C dM_isRow_62 rfl rfl ?_
                      have hz31 : 0 ≤ τ6.1 0 7 ∧ τ6.1 0 7 ≤ 12000 := by rw [m_scr_z hs6_]; exact hz
                      have hb32 : ∀ i, -128 ≤ τ6.2 7 i ∧ τ6.2 7 i ≤ 127 := fun i => by rw [m_scr_a hs6_]; exact h7 i
                      refine v_cVI (k := 0) (n := 0) C (mE_ok _) trivial hR (kM_isOver2 _ xCl D cA ad hJ τ6 (by omega) (by omega)) dM_isRow_63 (by show (0 : Nat) < 18; decide) rfl rfl gM_160 (by decide +kernel) (by decide) (by decide) rfl (Nat.le_of_ble_eq_true rfl) rfl ⟨rfl, rfl⟩ (fun r7 τ7 hp7 => ?_)
                      simp only [hs6_.1, m_scr_z hs6_, g6_20, g6_21, g6_22, g6_26, g6_27] at hp7
                      obtain ⟨g7_c, rfl, g7_e⟩ | ⟨g7_c, rfl, g7_e⟩ := hp7
                      · subst τ7
                        refine v_if_eq (tgt := 73) C dM_isRow_66 (by decide) (by omega) (fun hc33 => ?_) (fun hc33 => ?_)
                        · exfalso; omega
                        · refine v_iconst C dM_isRow_69 ?_
                          refine v_goto (tgt := 74) C dM_isRow_70 (by decide) ?_
                          refine v_istore_n C dM_isRow_74 rfl (by decide) ?_
                          refine v_aload_n C dM_isRow_75 rfl rfl ?_
                          refine v_aload_n C dM_isRow_76 rfl rfl ?_
                          refine v_getI (k := 0) (q := 22) (v := (p_num (σ.2 7) (p_eol (σ.2 7) (σ.1 0 7) (a)) ((p_num (σ.2 7) (p_eol (σ.2 7) (σ.1 0 7) (a)) (a)).2 + 1)).1) C dM_isRow_77 (by show (0 : Nat) < 18; decide) rfl rfl (by decide) rfl inM lM_147 rfl g6_22 ?_
                          refine v_putI (k := 0) (q := 27) C dM_isRow_80 (by show (0 : Nat) < 18; decide) rfl rfl (by decide) rfl inM tyM_ok nmM lM_163 rfl rfl rfl rfl rfl ?_
                          refine v_iload_n C dM_isRow_83 rfl rfl ?_
                          exact v_zret C hRt hLk dM_isRow_84 (fN_bool (by omega)) ⟨(m_scr_p hs6_ 27 ((p_num (σ.2 7) (p_eol (σ.2 7) (σ.1 0 7) (a)) ((p_num (σ.2 7) (p_eol (σ.2 7) (σ.1 0 7) (a)) (a)).2 + 1)).1) (by decide)), g6_20, Or.inl ⟨⟨g1_c, g2_c, g3_c, Or.inr ⟨g4_c, g6_c, g7_c⟩⟩, rfl, g6_26, Or.inr ⟨g4_c, rfl⟩⟩⟩
                      · subst τ7
                        refine v_if_eq (tgt := 73) C dM_isRow_66 (by decide) (by omega) (fun hc34 => ?_) (fun hc34 => ?_)
                        · refine v_iconst C dM_isRow_73 ?_
                          refine v_istore_n C dM_isRow_74 rfl (by decide) ?_
                          refine v_aload_n C dM_isRow_75 rfl rfl ?_
                          refine v_aload_n C dM_isRow_76 rfl rfl ?_
                          refine v_getI (k := 0) (q := 22) (v := (p_num (σ.2 7) (p_eol (σ.2 7) (σ.1 0 7) (a)) ((p_num (σ.2 7) (p_eol (σ.2 7) (σ.1 0 7) (a)) (a)).2 + 1)).1) C dM_isRow_77 (by show (0 : Nat) < 18; decide) rfl rfl (by decide) rfl inM lM_147 rfl g6_22 ?_
                          refine v_putI (k := 0) (q := 27) C dM_isRow_80 (by show (0 : Nat) < 18; decide) rfl rfl (by decide) rfl inM tyM_ok nmM lM_163 rfl rfl rfl rfl rfl ?_
                          refine v_iload_n C dM_isRow_83 rfl rfl ?_
                          exact v_zret C hRt hLk dM_isRow_84 (fN_bool (by omega)) ⟨(m_scr_p hs6_ 27 ((p_num (σ.2 7) (p_eol (σ.2 7) (σ.1 0 7) (a)) ((p_num (σ.2 7) (p_eol (σ.2 7) (σ.1 0 7) (a)) (a)).2 + 1)).1) (by decide)), g6_20, Or.inr ⟨fun h9 => by first | exact g1_c h9.1 | exact g2_c h9.2.1 | exact g3_c h9.2.2.1 | exact h9.2.2.2.elim (fun k => by first | exact g6_c k.2 | exact g4_c k.1) (fun k => by first | exact k.1 g4_c | exact g6_c k.2.1 | exact g7_c k.2.2), rfl⟩⟩
                        · exfalso; omega
                  · have hs6_ := m_scr_tr hs4_ g6_s
                    have g6_l := p_num_le (σ.2 7) (p_eol (σ.2 7) (σ.1 0 7) (a)) ((p_num (σ.2 7) (p_eol (σ.2 7) (σ.1 0 7) (a)) (a)).2 + 1)
                    have g6_v := p_num_v (σ.2 7) (p_eol (σ.2 7) (σ.1 0 7) (a)) ((p_num (σ.2 7) (p_eol (σ.2 7) (σ.1 0 7) (a)) (a)).2 + 1)
                    refine v_if_eq (tgt := 73) C dM_isRow_59 (by decide) (by omega) (fun hc35 => ?_) (fun hc35 => ?_)
                    · refine v_iconst C dM_isRow_73 ?_
                      refine v_istore_n C dM_isRow_74 rfl (by decide) ?_
                      refine v_aload_n C dM_isRow_75 rfl rfl ?_
                      refine v_aload_n C dM_isRow_76 rfl rfl ?_
                      refine v_getI (k := 0) (q := 22) (v := (p_num (σ.2 7) (p_eol (σ.2 7) (σ.1 0 7) (a)) ((p_num (σ.2 7) (p_eol (σ.2 7) (σ.1 0 7) (a)) (a)).2 + 1)).1) C dM_isRow_77 (by show (0 : Nat) < 18; decide) rfl rfl (by decide) rfl inM lM_147 rfl g6_22 ?_
                      refine v_putI (k := 0) (q := 27) C dM_isRow_80 (by show (0 : Nat) < 18; decide) rfl rfl (by decide) rfl inM tyM_ok nmM lM_163 rfl rfl rfl rfl rfl ?_
                      refine v_iload_n C dM_isRow_83 rfl rfl ?_
                      exact v_zret C hRt hLk dM_isRow_84 (fN_bool (by omega)) ⟨(m_scr_p hs6_ 27 ((p_num (σ.2 7) (p_eol (σ.2 7) (σ.1 0 7) (a)) ((p_num (σ.2 7) (p_eol (σ.2 7) (σ.1 0 7) (a)) (a)).2 + 1)).1) (by decide)), g6_20, Or.inr ⟨fun h9 => by first | exact g1_c h9.1 | exact g2_c h9.2.1 | exact g3_c h9.2.2.1 | exact h9.2.2.2.elim (fun k => by first | exact g6_c k.2 | exact g4_c k.1) (fun k => by first | exact k.1 g4_c | exact g6_c k.2.1 | exact nope k.2.2), rfl⟩⟩
                    · exfalso; omega
                · exfalso; omega
            · exfalso; omega
          · have hs3_ := m_scr_tr hs6 g3_s
            refine v_if_ne (tgt := 36) C dM_isRow_31 (by decide) (by omega) (fun hc36 => ?_) (fun hc36 => ?_)
            · exfalso; omega
            · refine v_iconst C dM_isRow_34 ?_
              exact v_zret C hRt hLk dM_isRow_35 (fN_bool (by omega)) ⟨hs3_, g3_20, Or.inr ⟨fun h9 => by first | exact g1_c h9.1 | exact g2_c h9.2.1 | exact g3_c h9.2.2.1 | exact h9.2.2.2.elim (fun k => by first | exact nope k.2 | exact nope k.1) (fun k => by first | exact k.1 nope | exact nope k.2.1 | exact nope k.2.2), rfl⟩⟩
        · exfalso; omega
      · have hs2_ := m_scr_tr hs1_ g2_s
        have g2_l := p_num_le (σ.2 7) (p_eol (σ.2 7) (σ.1 0 7) (a)) (a)
        have g2_v := p_num_v (σ.2 7) (p_eol (σ.2 7) (σ.1 0 7) (a)) (a)
        refine v_if_ne (tgt := 17) C dM_isRow_12 (by decide) (by omega) (fun hc37 => ?_) (fun hc37 => ?_)
        · exfalso; omega
        · refine v_iconst C dM_isRow_15 ?_
          exact v_zret C hRt hLk dM_isRow_16 (fN_bool (by omega)) ⟨hs2_, g2_20, Or.inr ⟨fun h9 => by first | exact g1_c h9.1 | exact g2_c h9.2.1 | exact nope h9.2.2.1 | exact h9.2.2.2.elim (fun k => by first | exact nope k.2 | exact nope k.1) (fun k => by first | exact k.1 nope | exact nope k.2.1 | exact nope k.2.2), rfl⟩⟩
  · have hs1_ := g1_s
    have g1_l := @p_eol_le (σ.2 7) (σ.1 0 7) (a)
    refine v_if_eq (tgt := 15) C dM_isRow_5 (by decide) (by omega) (fun hc38 => ?_) (fun hc38 => ?_)
    · refine v_iconst C dM_isRow_15 ?_
      exact v_zret C hRt hLk dM_isRow_16 (fN_bool (by omega)) ⟨hs1_, g1_20, Or.inr ⟨fun h9 => by first | exact g1_c h9.1 | exact nope h9.2.1 | exact nope h9.2.2.1 | exact h9.2.2.2.elim (fun k => by first | exact nope k.2 | exact nope k.1) (fun k => by first | exact k.1 nope | exact nope k.2.1 | exact nope k.2.2), rfl⟩⟩
    · exfalso; omega
set_option maxRecDepth 100000 in
set_option maxHeartbeats 4000000 in
/-- isRecord(at, n, before) -/
theorem kM_isRecord (l : Launch) (xCl : List vw_C) (D : va_G) (cA : Nat → ClassId) (ad : Nat → Nat) (hJ : f_J (mG xCl D cA ad)) (σ : fS) (a n b : Int) (ha : 0 ≤ a ∧ a ≤ 11999) (hn : -2147483648 ≤ n ∧ n ≤ 2147483647) (hb : b ≤ 12000) (hb2 : 0 ≤ b) (hz : 0 ≤ σ.1 0 7 ∧ σ.1 0 7 ≤ 12000) (h7 : ∀ i, -128 ≤ σ.2 7 i ∧ σ.2 7 i ≤ 127) : f_M l (mG xCl D cA ad) mE yM_isRecord (Cond.code yM_isRecord cM_isRecord 4 (some .boolean) :: A9) 1 σ [.ref (ad 0), .int (fI a), .int (fI n), .int (fI b)] (f_QI (fun r σ1 => m_scr σ σ1 ∧ ((p_rec (σ.2 7) (σ.1 0 7) a n b ∧ r = 1 ∧ σ1.1 0 26 = p_eol (σ.2 7) (σ.1 0 7) a + 1 ∧ σ1.1 0 27 = p_rl (σ.2 7) (σ.1 0 7) a) ∨ (¬ p_rec (σ.2 7) (σ.1 0 7) a n b ∧ r = 0))) (mG xCl D cA ad)) := by
  refine f_enter (by decide +kernel) hJ rfl (Nat.le_of_ble_eq_true rfl) ?_
  intro z hzl hR C hRt hLk hEz
  subst hzl
  refine v_aload_n C dM_isRecord_0 rfl rfl ?_
  refine v_iload_n C dM_isRecord_1 rfl rfl ?_
  refine v_cVI (k := 0) (n := 1) C (mE_ok _) trivial hR (kM_line2 _ xCl D cA ad hJ σ (a) (by omega) hz h7) dM_isRecord_2 (by show (0 : Nat) < 18; decide) rfl rfl gM_150 (by decide +kernel) (by decide) (by decide) rfl (Nat.le_of_ble_eq_true rfl) rfl ⟨rfl, rfl⟩ (fun r1 τ1 hp1 => ?_)
  obtain ⟨g1_s, g1_21, g1_20, g1_22, g1_26, g1_27, ⟨g1_c, rfl⟩ | ⟨g1_c, rfl⟩⟩ := hp1
  · have hs1_ := g1_s
    have g1_l := @p_eol_le (σ.2 7) (σ.1 0 7) (a)
    refine v_if_eq (tgt := 73) C dM_isRecord_5 (by decide) (by omega) (fun hc1 => ?_) (fun hc1 => ?_)
    · exfalso; omega
    · refine v_aload_n C dM_isRecord_8 rfl rfl ?_
      refine v_bipush C dM_isRecord_9 (by decide +kernel) ?_
      have hz2 : 0 ≤ τ1.1 0 7 ∧ τ1.1 0 7 ≤ 12000 := by rw [m_scr_z hs1_]; exact hz
      have hb3 : ∀ i, -128 ≤ τ1.2 7 i ∧ τ1.2 7 i ≤ 127 := fun i => by rw [m_scr_a hs1_]; exact h7 i
      refine v_cVI (k := 0) (n := 1) C (mE_ok _) trivial hR (kM_takes2 _ xCl D cA ad hJ τ1 (111) (by omega) (by omega) (by omega) (by omega) hb3) dM_isRecord_11 (by show (0 : Nat) < 18; decide) rfl rfl gM_153 (by decide +kernel) (by decide) (by decide) rfl (Nat.le_of_ble_eq_true rfl) rfl ⟨rfl, rfl⟩ (fun r2 τ2 hp2 => ?_)
      simp only [hs1_.1, m_scr_z hs1_, g1_20, g1_21, g1_22, g1_26, g1_27] at hp2
      obtain ⟨g2_s, g2_20, g2_22, g2_26, g2_27, ⟨g2_c, rfl, g2_21⟩ | ⟨g2_c, rfl, g2_21⟩⟩ := hp2
      · have hs2_ := m_scr_tr hs1_ g2_s
        have g2_21n : τ2.1 0 21 = a + 1 := by omega
        refine v_if_eq (tgt := 73) C dM_isRecord_14 (by decide) (by omega) (fun hc4 => ?_) (fun hc4 => ?_)
        · exfalso; omega
        · refine v_aload_n C dM_isRecord_17 rfl rfl ?_
          refine v_bipush C dM_isRecord_18 (by decide +kernel) ?_
          have hz5 : 0 ≤ τ2.1 0 7 ∧ τ2.1 0 7 ≤ 12000 := by rw [m_scr_z hs2_]; exact hz
          have hb6 : ∀ i, -128 ≤ τ2.2 7 i ∧ τ2.2 7 i ≤ 127 := fun i => by rw [m_scr_a hs2_]; exact h7 i
          refine v_cVI (k := 0) (n := 1) C (mE_ok _) trivial hR (kM_takes2 _ xCl D cA ad hJ τ2 (32) (by omega) (by omega) (by omega) (by omega) hb6) dM_isRecord_20 (by show (0 : Nat) < 18; decide) rfl rfl gM_153 (by decide +kernel) (by decide) (by decide) rfl (Nat.le_of_ble_eq_true rfl) rfl ⟨rfl, rfl⟩ (fun r3 τ3 hp3 => ?_)
          simp only [hs2_.1, m_scr_z hs2_, g2_20, g2_21n, g2_22, g2_26, g2_27] at hp3
          obtain ⟨g3_s, g3_20, g3_22, g3_26, g3_27, ⟨g3_c, rfl, g3_21⟩ | ⟨g3_c, rfl, g3_21⟩⟩ := hp3
          · have hs3_ := m_scr_tr hs2_ g3_s
            have g3_21n : τ3.1 0 21 = a + 2 := by omega
            refine v_if_eq (tgt := 73) C dM_isRecord_23 (by decide) (by omega) (fun hc7 => ?_) (fun hc7 => ?_)
            · exfalso; omega
            · refine v_aload_n C dM_isRecord_26 rfl rfl ?_
              have hz8 : 0 ≤ τ3.1 0 7 ∧ τ3.1 0 7 ≤ 12000 := by rw [m_scr_z hs3_]; exact hz
              have hb9 : ∀ i, -128 ≤ τ3.2 7 i ∧ τ3.2 7 i ≤ 127 := fun i => by rw [m_scr_a hs3_]; exact h7 i
              refine v_cVI (k := 0) (n := 0) C (mE_ok _) trivial hR (kM_takesNumber _ xCl D cA ad hJ τ3 (by omega) (by omega) (by omega) (by omega) hb9) dM_isRecord_27 (by show (0 : Nat) < 18; decide) rfl rfl gM_156 (by decide +kernel) (by decide) (by decide) rfl (Nat.le_of_ble_eq_true rfl) rfl ⟨rfl, rfl⟩ (fun r4 τ4 hp4 => ?_)
              simp only [hs3_.1, m_scr_z hs3_, g3_20, g3_21n, g3_22, g3_26, g3_27] at hp4
              obtain ⟨g4_s, g4_20, g4_22, g4_21, g4_26, g4_27, ⟨g4_c, rfl⟩ | ⟨g4_c, rfl⟩⟩ := hp4
              · have hs4_ := m_scr_tr hs3_ g4_s
                have g4_l := p_num_le (σ.2 7) (p_eol (σ.2 7) (σ.1 0 7) (a)) (a + 2)
                have g4_v := p_num_v (σ.2 7) (p_eol (σ.2 7) (σ.1 0 7) (a)) (a + 2)
                refine v_if_eq (tgt := 73) C dM_isRecord_30 (by decide) (by omega) (fun hc10 => ?_) (fun hc10 => ?_)
                · exfalso; omega
                · refine v_aload_n C dM_isRecord_33 rfl rfl ?_
                  refine v_getI (k := 0) (q := 22) (v := (p_num (σ.2 7) (p_eol (σ.2 7) (σ.1 0 7) (a)) (a + 2)).1) C dM_isRecord_34 (by show (0 : Nat) < 18; decide) rfl rfl (by decide) rfl inM lM_147 rfl g4_22 ?_
                  refine v_iload_n C dM_isRecord_37 rfl rfl ?_
                  refine v_icmp_ne (tgt := 73) C dM_isRecord_38 (by decide) (by omega) (by omega) (fun hc11 => ?_) (fun hc11 => ?_)
                  · refine v_iconst C dM_isRecord_73 ?_
                    exact v_zret C hRt hLk dM_isRecord_74 (fN_bool (by omega)) ⟨hs4_, Or.inr ⟨fun h9 => by first | exact g1_c h9.1 | exact g2_c h9.2.1 | exact g3_c h9.2.2.1 | exact g4_c h9.2.2.2.1 | exact nope h9.2.2.2.2.2.1 | exact nope h9.2.2.2.2.2.2.1 | exact nope h9.2.2.2.2.2.2.2.1 | (have k1 := h9.2.2.2.2.1; have k2 := h9.2.2.2.2.2.2.2.2.1; have k3 := h9.2.2.2.2.2.2.2.2.2.1; have k4 := h9.2.2.2.2.2.2.2.2.2.2; omega), rfl⟩⟩
                  · refine v_aload_n C dM_isRecord_41 rfl rfl ?_
                    refine v_bipush C dM_isRecord_42 (by decide +kernel) ?_
                    have hz12 : 0 ≤ τ4.1 0 7 ∧ τ4.1 0 7 ≤ 12000 := by rw [m_scr_z hs4_]; exact hz
                    have hb13 : ∀ i, -128 ≤ τ4.2 7 i ∧ τ4.2 7 i ≤ 127 := fun i => by rw [m_scr_a hs4_]; exact h7 i
                    refine v_cVI (k := 0) (n := 1) C (mE_ok _) trivial hR (kM_takes2 _ xCl D cA ad hJ τ4 (32) (by omega) (by omega) (by omega) (by omega) hb13) dM_isRecord_44 (by show (0 : Nat) < 18; decide) rfl rfl gM_153 (by decide +kernel) (by decide) (by decide) rfl (Nat.le_of_ble_eq_true rfl) rfl ⟨rfl, rfl⟩ (fun r5 τ5 hp5 => ?_)
                    simp only [hs4_.1, m_scr_z hs4_, g4_20, g4_21, g4_22, g4_26, g4_27] at hp5
                    obtain ⟨g5_s, g5_20, g5_22, g5_26, g5_27, ⟨g5_c, rfl, g5_21⟩ | ⟨g5_c, rfl, g5_21⟩⟩ := hp5
                    · have hs5_ := m_scr_tr hs4_ g5_s
                      have g5_21n : τ5.1 0 21 = (p_num (σ.2 7) (p_eol (σ.2 7) (σ.1 0 7) (a)) (a + 2)).2 + 1 := by omega
                      refine v_if_eq (tgt := 73) C dM_isRecord_47 (by decide) (by omega) (fun hc14 => ?_) (fun hc14 => ?_)
                      · exfalso; omega
                      · refine v_aload_n C dM_isRecord_50 rfl rfl ?_
                        have hz15 : 0 ≤ τ5.1 0 7 ∧ τ5.1 0 7 ≤ 12000 := by rw [m_scr_z hs5_]; exact hz
                        have hb16 : ∀ i, -128 ≤ τ5.2 7 i ∧ τ5.2 7 i ≤ 127 := fun i => by rw [m_scr_a hs5_]; exact h7 i
                        refine v_cVI (k := 0) (n := 0) C (mE_ok _) trivial hR (kM_takesNumber _ xCl D cA ad hJ τ5 (by omega) (by omega) (by omega) (by omega) hb16) dM_isRecord_51 (by show (0 : Nat) < 18; decide) rfl rfl gM_156 (by decide +kernel) (by decide) (by decide) rfl (Nat.le_of_ble_eq_true rfl) rfl ⟨rfl, rfl⟩ (fun r6 τ6 hp6 => ?_)
                        simp only [hs5_.1, m_scr_z hs5_, g5_20, g5_21n, g5_22, g5_26, g5_27] at hp6
                        obtain ⟨g6_s, g6_20, g6_22, g6_21, g6_26, g6_27, ⟨g6_c, rfl⟩ | ⟨g6_c, rfl⟩⟩ := hp6
                        · have hs6_ := m_scr_tr hs5_ g6_s
                          have g6_l := p_num_le (σ.2 7) (p_eol (σ.2 7) (σ.1 0 7) (a)) ((p_num (σ.2 7) (p_eol (σ.2 7) (σ.1 0 7) (a)) (a + 2)).2 + 1)
                          have g6_v := p_num_v (σ.2 7) (p_eol (σ.2 7) (σ.1 0 7) (a)) ((p_num (σ.2 7) (p_eol (σ.2 7) (σ.1 0 7) (a)) (a + 2)).2 + 1)
                          refine v_if_eq (tgt := 73) C dM_isRecord_54 (by decide) (by omega) (fun hc17 => ?_) (fun hc17 => ?_)
                          · exfalso; omega
                          · refine v_aload_n C dM_isRecord_57 rfl rfl ?_
                            have hz18 : 0 ≤ τ6.1 0 7 ∧ τ6.1 0 7 ≤ 12000 := by rw [m_scr_z hs6_]; exact hz
                            have hb19 : ∀ i, -128 ≤ τ6.2 7 i ∧ τ6.2 7 i ≤ 127 := fun i => by rw [m_scr_a hs6_]; exact h7 i
                            refine v_cVI (k := 0) (n := 0) C (mE_ok _) trivial hR (kM_isOver2 _ xCl D cA ad hJ τ6 (by omega) (by omega)) dM_isRecord_58 (by show (0 : Nat) < 18; decide) rfl rfl gM_160 (by decide +kernel) (by decide) (by decide) rfl (Nat.le_of_ble_eq_true rfl) rfl ⟨rfl, rfl⟩ (fun r7 τ7 hp7 => ?_)
                            simp only [hs6_.1, m_scr_z hs6_, g6_20, g6_21, g6_22, g6_26, g6_27] at hp7
                            obtain ⟨g7_c, rfl, g7_e⟩ | ⟨g7_c, rfl, g7_e⟩ := hp7
                            · subst τ7
                              refine v_if_eq (tgt := 73) C dM_isRecord_61 (by decide) (by omega) (fun hc20 => ?_) (fun hc20 => ?_)
                              · exfalso; omega
                              · refine v_aload_n C dM_isRecord_64 rfl rfl ?_
                                refine v_getI (k := 0) (q := 22) (v := (p_num (σ.2 7) (p_eol (σ.2 7) (σ.1 0 7) (a)) ((p_num (σ.2 7) (p_eol (σ.2 7) (σ.1 0 7) (a)) (a + 2)).2 + 1)).1) C dM_isRecord_65 (by show (0 : Nat) < 18; decide) rfl rfl (by decide) rfl inM lM_147 rfl g6_22 ?_
                                refine v_bipush C dM_isRecord_68 (by decide +kernel) ?_
                                refine v_icmp_le (tgt := 75) C dM_isRecord_70 (by decide) (by omega) (by omega) (fun hc21 => ?_) (fun hc21 => ?_)
                                · refine v_aload_n C dM_isRecord_75 rfl rfl ?_
                                  refine v_aload_n C dM_isRecord_76 rfl rfl ?_
                                  refine v_getI (k := 0) (q := 20) (v := p_eol (σ.2 7) (σ.1 0 7) (a)) C dM_isRecord_77 (by show (0 : Nat) < 18; decide) rfl rfl (by decide) rfl inM lM_144 rfl g6_20 ?_
                                  refine v_iconst C dM_isRecord_80 ?_
                                  refine v_iadd C dM_isRecord_81 ?_
                                  refine v_putI (k := 0) (q := 26) C dM_isRecord_82 (by show (0 : Nat) < 18; decide) rfl rfl (by decide) rfl inM tyM_ok nmM lM_113 rfl rfl rfl rfl rfl ?_
                                  refine v_aload_n C dM_isRecord_85 rfl rfl ?_
                                  refine v_aload_n C dM_isRecord_86 rfl rfl ?_
                                  refine v_getI (k := 0) (q := 22) (v := (p_num (σ.2 7) (p_eol (σ.2 7) (σ.1 0 7) (a)) ((p_num (σ.2 7) (p_eol (σ.2 7) (σ.1 0 7) (a)) (a + 2)).2 + 1)).1) C dM_isRecord_87 (by show (0 : Nat) < 18; decide) rfl rfl (by decide) rfl inM lM_147 rfl g6_22 ?_
                                  refine v_putI (k := 0) (q := 27) C dM_isRecord_90 (by show (0 : Nat) < 18; decide) rfl rfl (by decide) rfl inM tyM_ok nmM lM_163 rfl rfl rfl rfl rfl ?_
                                  refine v_aload_n C dM_isRecord_93 rfl rfl ?_
                                  refine v_getI (k := 0) (q := 26) (v := (p_eol (σ.2 7) (σ.1 0 7) (a) + 1)) C dM_isRecord_94 (by show (0 : Nat) < 18; decide) rfl rfl (by decide) rfl inM lM_113 rfl rfl ?_
                                  refine v_aload_n C dM_isRecord_97 rfl rfl ?_
                                  refine v_getI (k := 0) (q := 27) (v := (p_num (σ.2 7) (p_eol (σ.2 7) (σ.1 0 7) (a)) ((p_num (σ.2 7) (p_eol (σ.2 7) (σ.1 0 7) (a)) (a + 2)).2 + 1)).1) C dM_isRecord_98 (by show (0 : Nat) < 18; decide) rfl rfl (by decide) rfl inM lM_163 rfl rfl ?_
                                  refine v_iadd C dM_isRecord_101 ?_
                                  refine v_iload_n C dM_isRecord_102 rfl rfl ?_
                                  refine v_icmp_ge (tgt := 129) C dM_isRecord_103 (by decide) (by omega) (by omega) (fun hc22 => ?_) (fun hc22 => ?_)
                                  · refine v_iconst C dM_isRecord_129 ?_
                                    exact v_zret C hRt hLk dM_isRecord_130 (fN_bool (by omega)) ⟨(m_scr_p (m_scr_p hs6_ 26 ((p_eol (σ.2 7) (σ.1 0 7) (a) + 1)) (by decide)) 27 ((p_num (σ.2 7) (p_eol (σ.2 7) (σ.1 0 7) (a)) ((p_num (σ.2 7) (p_eol (σ.2 7) (σ.1 0 7) (a)) (a + 2)).2 + 1)).1) (by decide)), Or.inr ⟨fun h9 => by first | exact g1_c h9.1 | exact g2_c h9.2.1 | exact g3_c h9.2.2.1 | exact g4_c h9.2.2.2.1 | exact g5_c h9.2.2.2.2.2.1 | exact g6_c h9.2.2.2.2.2.2.1 | exact g7_c h9.2.2.2.2.2.2.2.1 | (have k1 := h9.2.2.2.2.1; have k2 := h9.2.2.2.2.2.2.2.2.1; have k3 := h9.2.2.2.2.2.2.2.2.2.1; have k4 := h9.2.2.2.2.2.2.2.2.2.2; omega), rfl⟩⟩
                                  · refine v_aload_n C dM_isRecord_106 rfl rfl ?_
                                    refine v_getR (k := 0) (q := 8) C dM_isRecord_107 (by show (0 : Nat) < 18; decide) rfl rfl (by decide) rfl inM lM_30 rfl ?_
                                    refine v_aload_n C dM_isRecord_110 rfl rfl ?_
                                    refine v_getI (k := 0) (q := 26) (v := (p_eol (σ.2 7) (σ.1 0 7) (a) + 1)) C dM_isRecord_111 (by show (0 : Nat) < 18; decide) rfl rfl (by decide) rfl inM lM_113 rfl rfl ?_
                                    refine v_aload_n C dM_isRecord_114 rfl rfl ?_
                                    refine v_getI (k := 0) (q := 27) (v := (p_num (σ.2 7) (p_eol (σ.2 7) (σ.1 0 7) (a)) ((p_num (σ.2 7) (p_eol (σ.2 7) (σ.1 0 7) (a)) (a + 2)).2 + 1)).1) C dM_isRecord_115 (by show (0 : Nat) < 18; decide) rfl rfl (by decide) rfl inM lM_163 rfl rfl ?_
                                    refine v_iadd C dM_isRecord_118 ?_
                                    have hb23 := h7 (((p_eol (σ.2 7) (σ.1 0 7) (a) + 1) + (p_num (σ.2 7) (p_eol (σ.2 7) (σ.1 0 7) (a)) ((p_num (σ.2 7) (p_eol (σ.2 7) (σ.1 0 7) (a)) (a + 2)).2 + 1)).1)).toNat
                                    refine v_bald (k := 7) (v := σ.2 7 (((p_eol (σ.2 7) (σ.1 0 7) (a) + 1) + (p_num (σ.2 7) (p_eol (σ.2 7) (σ.1 0 7) (a)) ((p_num (σ.2 7) (p_eol (σ.2 7) (σ.1 0 7) (a)) (a + 2)).2 + 1)).1)).toNat) C dM_isRecord_119 (by show (7 : Nat) < 18; decide) rfl rfl (by omega) (by decide) (m_scr_a hs6_ _ _) ?_
                                    refine v_bipush C dM_isRecord_120 (by decide +kernel) ?_
                                    refine v_icmp_ne (tgt := 129) C dM_isRecord_122 (by decide) (by omega) (by omega) (fun hc24 => ?_) (fun hc24 => ?_)
                                    · refine v_iconst C dM_isRecord_129 ?_
                                      exact v_zret C hRt hLk dM_isRecord_130 (fN_bool (by omega)) ⟨(m_scr_p (m_scr_p hs6_ 26 ((p_eol (σ.2 7) (σ.1 0 7) (a) + 1)) (by decide)) 27 ((p_num (σ.2 7) (p_eol (σ.2 7) (σ.1 0 7) (a)) ((p_num (σ.2 7) (p_eol (σ.2 7) (σ.1 0 7) (a)) (a + 2)).2 + 1)).1) (by decide)), Or.inr ⟨fun h9 => by first | exact g1_c h9.1 | exact g2_c h9.2.1 | exact g3_c h9.2.2.1 | exact g4_c h9.2.2.2.1 | exact g5_c h9.2.2.2.2.2.1 | exact g6_c h9.2.2.2.2.2.2.1 | exact g7_c h9.2.2.2.2.2.2.2.1 | (have k1 := h9.2.2.2.2.1; have k2 := h9.2.2.2.2.2.2.2.2.1; have k3 := h9.2.2.2.2.2.2.2.2.2.1; have k4 := h9.2.2.2.2.2.2.2.2.2.2; omega), rfl⟩⟩
                                    · refine v_iconst C dM_isRecord_125 ?_
                                      refine v_goto (tgt := 130) C dM_isRecord_126 (by decide) ?_
                                      exact v_zret C hRt hLk dM_isRecord_130 (fN_bool (by omega)) ⟨(m_scr_p (m_scr_p hs6_ 26 ((p_eol (σ.2 7) (σ.1 0 7) (a) + 1)) (by decide)) 27 ((p_num (σ.2 7) (p_eol (σ.2 7) (σ.1 0 7) (a)) ((p_num (σ.2 7) (p_eol (σ.2 7) (σ.1 0 7) (a)) (a + 2)).2 + 1)).1) (by decide)), Or.inl ⟨⟨g1_c, g2_c, g3_c, g4_c, by omega, g5_c, g6_c, g7_c, by omega, by omega, by omega⟩, rfl, rfl, rfl⟩⟩
                                · refine v_iconst C dM_isRecord_73 ?_
                                  exact v_zret C hRt hLk dM_isRecord_74 (fN_bool (by omega)) ⟨hs6_, Or.inr ⟨fun h9 => by first | exact g1_c h9.1 | exact g2_c h9.2.1 | exact g3_c h9.2.2.1 | exact g4_c h9.2.2.2.1 | exact g5_c h9.2.2.2.2.2.1 | exact g6_c h9.2.2.2.2.2.2.1 | exact g7_c h9.2.2.2.2.2.2.2.1 | (have k1 := h9.2.2.2.2.1; have k2 := h9.2.2.2.2.2.2.2.2.1; have k3 := h9.2.2.2.2.2.2.2.2.2.1; have k4 := h9.2.2.2.2.2.2.2.2.2.2; omega), rfl⟩⟩
                            · subst τ7
                              refine v_if_eq (tgt := 73) C dM_isRecord_61 (by decide) (by omega) (fun hc25 => ?_) (fun hc25 => ?_)
                              · refine v_iconst C dM_isRecord_73 ?_
                                exact v_zret C hRt hLk dM_isRecord_74 (fN_bool (by omega)) ⟨hs6_, Or.inr ⟨fun h9 => by first | exact g1_c h9.1 | exact g2_c h9.2.1 | exact g3_c h9.2.2.1 | exact g4_c h9.2.2.2.1 | exact g5_c h9.2.2.2.2.2.1 | exact g6_c h9.2.2.2.2.2.2.1 | exact g7_c h9.2.2.2.2.2.2.2.1 | (have k1 := h9.2.2.2.2.1; have k2 := h9.2.2.2.2.2.2.2.2.1; have k3 := h9.2.2.2.2.2.2.2.2.2.1; have k4 := h9.2.2.2.2.2.2.2.2.2.2; omega), rfl⟩⟩
                              · exfalso; omega
                        · have hs6_ := m_scr_tr hs5_ g6_s
                          have g6_l := p_num_le (σ.2 7) (p_eol (σ.2 7) (σ.1 0 7) (a)) ((p_num (σ.2 7) (p_eol (σ.2 7) (σ.1 0 7) (a)) (a + 2)).2 + 1)
                          have g6_v := p_num_v (σ.2 7) (p_eol (σ.2 7) (σ.1 0 7) (a)) ((p_num (σ.2 7) (p_eol (σ.2 7) (σ.1 0 7) (a)) (a + 2)).2 + 1)
                          refine v_if_eq (tgt := 73) C dM_isRecord_54 (by decide) (by omega) (fun hc26 => ?_) (fun hc26 => ?_)
                          · refine v_iconst C dM_isRecord_73 ?_
                            exact v_zret C hRt hLk dM_isRecord_74 (fN_bool (by omega)) ⟨hs6_, Or.inr ⟨fun h9 => by first | exact g1_c h9.1 | exact g2_c h9.2.1 | exact g3_c h9.2.2.1 | exact g4_c h9.2.2.2.1 | exact g5_c h9.2.2.2.2.2.1 | exact g6_c h9.2.2.2.2.2.2.1 | exact nope h9.2.2.2.2.2.2.2.1 | (have k1 := h9.2.2.2.2.1; have k2 := h9.2.2.2.2.2.2.2.2.1; have k3 := h9.2.2.2.2.2.2.2.2.2.1; have k4 := h9.2.2.2.2.2.2.2.2.2.2; omega), rfl⟩⟩
                          · exfalso; omega
                    · have hs5_ := m_scr_tr hs4_ g5_s
                      refine v_if_eq (tgt := 73) C dM_isRecord_47 (by decide) (by omega) (fun hc27 => ?_) (fun hc27 => ?_)
                      · refine v_iconst C dM_isRecord_73 ?_
                        exact v_zret C hRt hLk dM_isRecord_74 (fN_bool (by omega)) ⟨hs5_, Or.inr ⟨fun h9 => by first | exact g1_c h9.1 | exact g2_c h9.2.1 | exact g3_c h9.2.2.1 | exact g4_c h9.2.2.2.1 | exact g5_c h9.2.2.2.2.2.1 | exact nope h9.2.2.2.2.2.2.1 | exact nope h9.2.2.2.2.2.2.2.1 | (have k1 := h9.2.2.2.2.1; have k2 := h9.2.2.2.2.2.2.2.2.1; have k3 := h9.2.2.2.2.2.2.2.2.2.1; have k4 := h9.2.2.2.2.2.2.2.2.2.2; omega), rfl⟩⟩
                      · exfalso; omega
              · have hs4_ := m_scr_tr hs3_ g4_s
                have g4_l := p_num_le (σ.2 7) (p_eol (σ.2 7) (σ.1 0 7) (a)) (a + 2)
                have g4_v := p_num_v (σ.2 7) (p_eol (σ.2 7) (σ.1 0 7) (a)) (a + 2)
                refine v_if_eq (tgt := 73) C dM_isRecord_30 (by decide) (by omega) (fun hc28 => ?_) (fun hc28 => ?_)
                · refine v_iconst C dM_isRecord_73 ?_
                  exact v_zret C hRt hLk dM_isRecord_74 (fN_bool (by omega)) ⟨hs4_, Or.inr ⟨fun h9 => by first | exact g1_c h9.1 | exact g2_c h9.2.1 | exact g3_c h9.2.2.1 | exact g4_c h9.2.2.2.1 | exact nope h9.2.2.2.2.2.1 | exact nope h9.2.2.2.2.2.2.1 | exact nope h9.2.2.2.2.2.2.2.1 | (have k1 := h9.2.2.2.2.1; have k2 := h9.2.2.2.2.2.2.2.2.1; have k3 := h9.2.2.2.2.2.2.2.2.2.1; have k4 := h9.2.2.2.2.2.2.2.2.2.2; omega), rfl⟩⟩
                · exfalso; omega
          · have hs3_ := m_scr_tr hs2_ g3_s
            refine v_if_eq (tgt := 73) C dM_isRecord_23 (by decide) (by omega) (fun hc29 => ?_) (fun hc29 => ?_)
            · refine v_iconst C dM_isRecord_73 ?_
              exact v_zret C hRt hLk dM_isRecord_74 (fN_bool (by omega)) ⟨hs3_, Or.inr ⟨fun h9 => by first | exact g1_c h9.1 | exact g2_c h9.2.1 | exact g3_c h9.2.2.1 | exact nope h9.2.2.2.1 | exact nope h9.2.2.2.2.2.1 | exact nope h9.2.2.2.2.2.2.1 | exact nope h9.2.2.2.2.2.2.2.1 | (have k1 := h9.2.2.2.2.1; have k2 := h9.2.2.2.2.2.2.2.2.1; have k3 := h9.2.2.2.2.2.2.2.2.2.1; have k4 := h9.2.2.2.2.2.2.2.2.2.2; omega), rfl⟩⟩
            · exfalso; omega
      · have hs2_ := m_scr_tr hs1_ g2_s
        refine v_if_eq (tgt := 73) C dM_isRecord_14 (by decide) (by omega) (fun hc30 => ?_) (fun hc30 => ?_)
        · refine v_iconst C dM_isRecord_73 ?_
          exact v_zret C hRt hLk dM_isRecord_74 (fN_bool (by omega)) ⟨hs2_, Or.inr ⟨fun h9 => by first | exact g1_c h9.1 | exact g2_c h9.2.1 | exact nope h9.2.2.1 | exact nope h9.2.2.2.1 | exact nope h9.2.2.2.2.2.1 | exact nope h9.2.2.2.2.2.2.1 | exact nope h9.2.2.2.2.2.2.2.1 | (have k1 := h9.2.2.2.2.1; have k2 := h9.2.2.2.2.2.2.2.2.1; have k3 := h9.2.2.2.2.2.2.2.2.2.1; have k4 := h9.2.2.2.2.2.2.2.2.2.2; omega), rfl⟩⟩
        · exfalso; omega
  · have hs1_ := g1_s
    have g1_l := @p_eol_le (σ.2 7) (σ.1 0 7) (a)
    refine v_if_eq (tgt := 73) C dM_isRecord_5 (by decide) (by omega) (fun hc31 => ?_) (fun hc31 => ?_)
    · refine v_iconst C dM_isRecord_73 ?_
      exact v_zret C hRt hLk dM_isRecord_74 (fN_bool (by omega)) ⟨hs1_, Or.inr ⟨fun h9 => by first | exact g1_c h9.1 | exact nope h9.2.1 | exact nope h9.2.2.1 | exact nope h9.2.2.2.1 | exact nope h9.2.2.2.2.2.1 | exact nope h9.2.2.2.2.2.2.1 | exact nope h9.2.2.2.2.2.2.2.1 | (have k1 := h9.2.2.2.2.1; have k2 := h9.2.2.2.2.2.2.2.2.1; have k3 := h9.2.2.2.2.2.2.2.2.2.1; have k4 := h9.2.2.2.2.2.2.2.2.2.2; omega), rfl⟩⟩
    · exfalso; omega
end
section
/-- what is known of locals is known there too -/
def lvLe : List (Option Value) → List (Option Value) → Prop
  | [], _ => True
  | none :: a, _ :: b => lvLe a b
  | some v :: a, w :: b => w = some v ∧ lvLe a b
  | _ :: _, [] => False
theorem lvLe_at : ∀ (a b : List (Option Value)), lvLe a b → ∀ (i : Nat) (v : Value), a[i]? = some (some v) → b[i]? = some (some v)
  | [], _, _, i, v, h => by simp at h
  | none :: a, w :: b, h, i, v, hi => by
    cases i with
    | zero => simp at hi
    | succ i => simp at hi ⊢; exact lvLe_at a b h i v hi
  | some u :: a, w :: b, h, i, v, hi => by
    cases i with
    | zero =>
      simp at hi ⊢
      rw [h.1, hi]
    | succ i => simp at hi ⊢; exact lvLe_at a b h.2 i v hi
/-- fewer locals are known -/
theorem v_less {z : fZ} {G : fG} {nL : Nat} {Q : State → Prop} {kc ks : Nat} {σ : fS} {pc : Nat} {lv0 lv1 : List (Option Value)} {st : List Value} (h : lvLe lv0 lv1) (k : fv z G nL Q kc ks σ pc lv0 st) : fv z G nL Q kc ks σ pc lv1 st :=
  fun H locs ls hP hS hl => k H locs ls hP hS ⟨hl.1, hl.2.1, fun i v hi => hl.2.2.1 i v (lvLe_at _ _ h i v hi), fun i v hi => hl.2.2.2 i v (lvLe_at _ _ h i v hi)⟩
/-- where the j-th line behind p begins -/
def p_ln (f : Nat → Int) (z : Int) : Nat → Int → Int
  | 0, a => a
  | j + 1, a => p_eol f z (p_ln f z j a) + 1
/-- a row's place as a number -/
def p_rpv (f : Nat → Int) (z p : Int) : Int := if p_q f z p + 1 < p_eol f z p ∧ f (p_q f z p + 1).toNat = 45 then -1 else (p_num f (p_eol f z p) (p_q f z p + 1)).1
theorem p_rp_v {f : Nat → Int} {z p v : Int} (h : p_rp f z p v) : v = p_rpv f z p := by
  unfold p_rpv
  rcases h with ⟨h1, h2⟩ | ⟨h1, h2⟩
  · rw [if_pos (show p_q f z p + 1 < p_eol f z p ∧ f (p_q f z p + 1).toNat = 45 from h1)]; exact h2
  · rw [if_neg (show ¬ (p_q f z p + 1 < p_eol f z p ∧ f (p_q f z p + 1).toNat = 45) from h1)]; exact h2
theorem p_ln_0 (f : Nat → Int) (z : Int) : ∀ (j : Nat) (a : Int), 0 ≤ a → 0 ≤ p_ln f z j a := by
  intro j
  induction j with
  | zero => intro a h; exact h
  | succ j ih =>
    intro a h
    have h1 := ih a h
    have h2 := @p_eol_le f z (p_ln f z j a)
    show 0 ≤ p_eol f z (p_ln f z j a) + 1
    omega
theorem p_rpv_r (f : Nat → Int) (z p : Int) : -1 ≤ p_rpv f z p ∧ p_rpv f z p ≤ 99999 := by
  unfold p_rpv
  have h := p_num_v f (p_eol f z p) (p_q f z p + 1)
  split <;> omega
theorem p_rn_r (f : Nat → Int) (z p : Int) : 0 ≤ p_rn f z p ∧ p_rn f z p ≤ 99999 := p_num_v _ _ _
/-- the j-th row's record stands -/
def p_rok (f : Nat → Int) (z x a : Int) : Prop := p_rpv f z a = -1 ∨ p_rec f z (p_rpv f z a) (p_rn f z a) x
/-- the state but for what is used while a file is read: also the fault -/
def m_scf (σ σ1 : fS) : Prop := σ1.2 = σ.2 ∧ ∀ a b, ¬ (a = 0 ∧ (b = 20 ∨ b = 21 ∨ b = 22 ∨ b = 23 ∨ b = 26 ∨ b = 27)) → σ1.1 a b = σ.1 a b
theorem m_scf_of {σ σ1 : fS} (h : m_scr σ σ1) : m_scf σ σ1 := ⟨h.1, fun a b hab => h.2 a b (fun q => hab ⟨q.1, by omega⟩)⟩
theorem m_scf_tr {σ τ υ : fS} (h1 : m_scf σ τ) (h2 : m_scf τ υ) : m_scf σ υ := ⟨h2.1.trans h1.1, fun a b h => (h2.2 a b h).trans (h1.2 a b h)⟩
theorem m_scf_p {σ τ : fS} (h : m_scf σ τ) (v : Int) : m_scf σ (f_p1 τ 0 23 v) := by
  refine ⟨h.1, fun a b hab => ?_⟩
  rw [p1_1, if_neg (by
    intro h9
    exact hab ⟨h9.1, by omega⟩)]
  exact h.2 a b hab
set_option maxRecDepth 100000 in
set_option maxHeartbeats 4000000 in
/-- recordsStand(x, many) -/
theorem kM_recordsStand (l : Launch) (xCl : List vw_C) (D : va_G) (cA : Nat → ClassId) (ad : Nat → Nat) (hJ : f_J (mG xCl D cA ad)) (σ : fS) (x w : Int) (hx : 0 ≤ x ∧ x ≤ 11999) (hw : 0 ≤ w ∧ w ≤ 99999) (hz : 0 ≤ σ.1 0 7 ∧ σ.1 0 7 ≤ 12000) (h7 : ∀ i, -128 ≤ σ.2 7 i ∧ σ.2 7 i ≤ 127) (hx1 : p_eol (σ.2 7) (σ.1 0 7) x < σ.1 0 7) (hrows : ∀ j, j < w.toNat → p_row (σ.2 7) (σ.1 0 7) (p_ln (σ.2 7) (σ.1 0 7) j (p_eol (σ.2 7) (σ.1 0 7) x + 1)) ∧ p_rpv (σ.2 7) (σ.1 0 7) (p_ln (σ.2 7) (σ.1 0 7) j (p_eol (σ.2 7) (σ.1 0 7) x + 1)) < x) : f_M l (mG xCl D cA ad) mE yM_recordsStand (Cond.code yM_recordsStand cM_recordsStand 7 (some .boolean) :: A9) 2 σ [.ref (ad 0), .int (fI x), .int (fI w)] (f_QI (fun r σ1 => m_scf σ σ1 ∧ ((∃ j : Nat, j < w.toNat ∧ (∀ i, i < j → p_rok (σ.2 7) (σ.1 0 7) x (p_ln (σ.2 7) (σ.1 0 7) i (p_eol (σ.2 7) (σ.1 0 7) x + 1))) ∧ ¬ p_rok (σ.2 7) (σ.1 0 7) x (p_ln (σ.2 7) (σ.1 0 7) j (p_eol (σ.2 7) (σ.1 0 7) x + 1)) ∧ r = 0 ∧ σ1.1 0 23 = p_rpv (σ.2 7) (σ.1 0 7) (p_ln (σ.2 7) (σ.1 0 7) j (p_eol (σ.2 7) (σ.1 0 7) x + 1))) ∨ ((∀ i, i < w.toNat → p_rok (σ.2 7) (σ.1 0 7) x (p_ln (σ.2 7) (σ.1 0 7) i (p_eol (σ.2 7) (σ.1 0 7) x + 1))) ∧ r = 1))) (mG xCl D cA ad)) := by
  refine f_enter (by decide +kernel) hJ rfl (Nat.le_of_ble_eq_true rfl) ?_
  intro z hzl hR C hRt hLk hEz
  subst hzl
  have L : ∀ (m k : Nat) (S : fS), m + k = w.toNat → m_scr σ S → (∀ i, i < k → p_rok (σ.2 7) (σ.1 0 7) x (p_ln (σ.2 7) (σ.1 0 7) i (p_eol (σ.2 7) (σ.1 0 7) x + 1))) → fv z (mG xCl D cA ad) 7 (f_R z (mG xCl D cA ad) (f_QI (fun r σ1 => m_scf σ σ1 ∧ ((∃ j : Nat, j < w.toNat ∧ (∀ i, i < j → p_rok (σ.2 7) (σ.1 0 7) x (p_ln (σ.2 7) (σ.1 0 7) i (p_eol (σ.2 7) (σ.1 0 7) x + 1))) ∧ ¬ p_rok (σ.2 7) (σ.1 0 7) x (p_ln (σ.2 7) (σ.1 0 7) j (p_eol (σ.2 7) (σ.1 0 7) x + 1)) ∧ r = 0 ∧ σ1.1 0 23 = p_rpv (σ.2 7) (σ.1 0 7) (p_ln (σ.2 7) (σ.1 0 7) j (p_eol (σ.2 7) (σ.1 0 7) x + 1))) ∨ ((∀ i, i < w.toNat → p_rok (σ.2 7) (σ.1 0 7) x (p_ln (σ.2 7) (σ.1 0 7) i (p_eol (σ.2 7) (σ.1 0 7) x + 1))) ∧ r = 1))) (mG xCl D cA ad))) 0 0 S 16 [some (.ref (ad 0)), some (.int (fI x)), some (.int (fI w)), some (.int (fI (p_ln (σ.2 7) (σ.1 0 7) k (p_eol (σ.2 7) (σ.1 0 7) x + 1)))), some (.int (fI (k : Int))), none, none] [] := by
    intro m
    induction m with
    | zero =>
      intro k S hk hs hall
      refine v_iload C dM_recordsStand_16 rfl ?_
      refine v_iload_n C dM_recordsStand_18 rfl rfl ?_
      refine v_icmp_ge (tgt := 80) C dM_recordsStand_19 (by decide) (by omega) (by omega) (fun hc1 => ?_) (fun hc1 => ?_)
      · refine v_iconst C dM_recordsStand_80 ?_
        exact v_zret C hRt hLk dM_recordsStand_81 (fN_bool (by omega)) ⟨m_scf_of hs, Or.inr ⟨fun i hi => hall i (by omega), rfl⟩⟩
      · exfalso; omega
    | succ m ih =>
      intro k S hk hs hall
      have hrow := hrows k (by omega)
      have hlk := @p_eol_le (σ.2 7) (σ.1 0 7) (p_ln (σ.2 7) (σ.1 0 7) k (p_eol (σ.2 7) (σ.1 0 7) x + 1))
      have hlt := hrow.1.1
      have hx0 := @p_eol_le (σ.2 7) (σ.1 0 7) x
      have hl0 := p_ln_0 (σ.2 7) (σ.1 0 7) k (p_eol (σ.2 7) (σ.1 0 7) x + 1) (by omega)
      refine v_iload C dM_recordsStand_16 rfl ?_
      refine v_iload_n C dM_recordsStand_18 rfl rfl ?_
      refine v_icmp_ge (tgt := 80) C dM_recordsStand_19 (by decide) (by omega) (by omega) (fun hc2 => ?_) (fun hc2 => ?_)
      · exfalso; omega
      · refine v_aload_n C dM_recordsStand_22 rfl rfl ?_
        refine v_iload_n C dM_recordsStand_23 rfl rfl ?_
        have hz3 : 0 ≤ S.1 0 7 ∧ S.1 0 7 ≤ 12000 := by rw [m_scr_z hs]; exact hz
        have hb4 : ∀ i, -128 ≤ S.2 7 i ∧ S.2 7 i ≤ 127 := fun i => by rw [m_scr_a hs]; exact h7 i
        refine v_cVI (k := 0) (n := 1) C (mE_ok _) trivial hR (kM_isRow _ xCl D cA ad hJ S (p_ln (σ.2 7) (σ.1 0 7) k (p_eol (σ.2 7) (σ.1 0 7) x + 1)) (by omega) hz3 hb4) dM_recordsStand_24 (by show (0 : Nat) < 18; decide) rfl rfl gM_172 (by decide +kernel) (by decide) (by decide) rfl (Nat.le_of_ble_eq_true rfl) rfl ⟨rfl, rfl⟩ (fun r1 τ1 hp1 => ?_)
        simp only [hs.1, m_scr_z hs] at hp1
        obtain ⟨g1_s, g1_20, ⟨g1_c, rfl, g1_26, g1_w⟩ | ⟨g1_c, rfl⟩⟩ := hp1
        · have hs1_ := m_scr_tr hs g1_s
          have g1_27 := p_rp_v g1_w
          have g1_r1 := p_rn_r (σ.2 7) (σ.1 0 7) (p_ln (σ.2 7) (σ.1 0 7) k (p_eol (σ.2 7) (σ.1 0 7) x + 1))
          have g1_r2 := p_rpv_r (σ.2 7) (σ.1 0 7) (p_ln (σ.2 7) (σ.1 0 7) k (p_eol (σ.2 7) (σ.1 0 7) x + 1))
          have g1_l := @p_eol_le (σ.2 7) (σ.1 0 7) (p_ln (σ.2 7) (σ.1 0 7) k (p_eol (σ.2 7) (σ.1 0 7) x + 1))
          refine v_istore C dM_recordsStand_27 (by decide) ?_
          refine v_aload_n C dM_recordsStand_29 rfl rfl ?_
          refine v_getI (k := 0) (q := 27) (v := p_rpv (σ.2 7) (σ.1 0 7) (p_ln (σ.2 7) (σ.1 0 7) k (p_eol (σ.2 7) (σ.1 0 7) x + 1))) C dM_recordsStand_30 (by show (0 : Nat) < 18; decide) rfl rfl (by decide) rfl inM lM_163 rfl g1_27 ?_
          refine v_istore C dM_recordsStand_33 (by decide) ?_
          refine v_aload_n C dM_recordsStand_35 rfl rfl ?_
          refine v_getI (k := 0) (q := 20) (v := p_eol (σ.2 7) (σ.1 0 7) (p_ln (σ.2 7) (σ.1 0 7) k (p_eol (σ.2 7) (σ.1 0 7) x + 1))) C dM_recordsStand_36 (by show (0 : Nat) < 18; decide) rfl rfl (by decide) rfl inM lM_144 rfl g1_20 ?_
          refine v_iconst C dM_recordsStand_39 ?_
          refine v_iadd C dM_recordsStand_40 ?_
          refine v_istore_n C dM_recordsStand_41 rfl (by decide) ?_
          refine v_iload C dM_recordsStand_42 rfl ?_
          refine v_if_eq (tgt := 74) C dM_recordsStand_44 (by decide) (by omega) (fun hc5 => ?_) (fun hc5 => ?_)
          · exfalso; omega
          · refine v_iload C dM_recordsStand_47 rfl ?_
            refine v_iconst C dM_recordsStand_49 ?_
            refine v_icmp_eq (tgt := 74) C dM_recordsStand_50 (by decide) (by omega) (by omega) (fun hc6 => ?_) (fun hc6 => ?_)
            · refine v_iinc C dM_recordsStand_74 rfl (by decide) ?_
              refine v_goto (tgt := 16) C dM_recordsStand_77 (by decide) ?_
              exact v_less (by exact ⟨rfl, rfl, rfl, rfl, rfl, trivial⟩) (ih (k + 1) τ1 (by omega) hs1_ (fun i hi => (Nat.lt_succ_iff_lt_or_eq.mp hi).elim (fun h => hall i h) (fun h => by rw [h]; first | exact Or.inl (by omega) | exact Or.inr nope)))
            · refine v_aload_n C dM_recordsStand_53 rfl rfl ?_
              refine v_iload C dM_recordsStand_54 rfl ?_
              refine v_aload_n C dM_recordsStand_56 rfl rfl ?_
              refine v_getI (k := 0) (q := 26) (v := p_rn (σ.2 7) (σ.1 0 7) (p_ln (σ.2 7) (σ.1 0 7) k (p_eol (σ.2 7) (σ.1 0 7) x + 1))) C dM_recordsStand_57 (by show (0 : Nat) < 18; decide) rfl rfl (by decide) rfl inM lM_113 rfl g1_26 ?_
              refine v_iload_n C dM_recordsStand_60 rfl rfl ?_
              have hz7 : 0 ≤ τ1.1 0 7 ∧ τ1.1 0 7 ≤ 12000 := by rw [m_scr_z hs1_]; exact hz
              have hb8 : ∀ i, -128 ≤ τ1.2 7 i ∧ τ1.2 7 i ≤ 127 := fun i => by rw [m_scr_a hs1_]; exact h7 i
              refine v_cVI (k := 0) (n := 3) C (mE_ok _) trivial hR (kM_isRecord _ xCl D cA ad hJ τ1 (p_rpv (σ.2 7) (σ.1 0 7) (p_ln (σ.2 7) (σ.1 0 7) k (p_eol (σ.2 7) (σ.1 0 7) x + 1))) (p_rn (σ.2 7) (σ.1 0 7) (p_ln (σ.2 7) (σ.1 0 7) k (p_eol (σ.2 7) (σ.1 0 7) x + 1))) (x) (by omega) (by omega) (by omega) (by omega) hz7 hb8) dM_recordsStand_61 (by show (0 : Nat) < 18; decide) rfl rfl gM_181 (by decide +kernel) (by decide) (by decide) rfl (Nat.le_of_ble_eq_true rfl) rfl ⟨rfl, rfl⟩ (fun r2 τ2 hp2 => ?_)
              simp only [hs1_.1, m_scr_z hs1_, g1_20, g1_26, g1_27] at hp2
              obtain ⟨g2_s, ⟨g2_c, rfl, g2_26, g2_27⟩ | ⟨g2_c, rfl⟩⟩ := hp2
              · have hs2_ := m_scr_tr hs1_ g2_s
                refine v_if_ne (tgt := 74) C dM_recordsStand_64 (by decide) (by omega) (fun hc9 => ?_) (fun hc9 => ?_)
                · refine v_iinc C dM_recordsStand_74 rfl (by decide) ?_
                  refine v_goto (tgt := 16) C dM_recordsStand_77 (by decide) ?_
                  exact v_less (by exact ⟨rfl, rfl, rfl, rfl, rfl, trivial⟩) (ih (k + 1) τ2 (by omega) hs2_ (fun i hi => (Nat.lt_succ_iff_lt_or_eq.mp hi).elim (fun h => hall i h) (fun h => by rw [h]; first | exact Or.inl (by omega) | exact Or.inr g2_c)))
                · exfalso; omega
              · have hs2_ := m_scr_tr hs1_ g2_s
                refine v_if_ne (tgt := 74) C dM_recordsStand_64 (by decide) (by omega) (fun hc10 => ?_) (fun hc10 => ?_)
                · exfalso; omega
                · refine v_aload_n C dM_recordsStand_67 rfl rfl ?_
                  refine v_iload C dM_recordsStand_68 rfl ?_
                  refine v_cVI (k := 0) (n := 1) C (mE_ok _) trivial hR (kM_wrong _ xCl D cA ad hJ τ2 (p_rpv (σ.2 7) (σ.1 0 7) (p_ln (σ.2 7) (σ.1 0 7) k (p_eol (σ.2 7) (σ.1 0 7) x + 1)))) dM_recordsStand_70 (by show (0 : Nat) < 18; decide) rfl rfl gM_185 (by decide +kernel) (by decide) (by decide) rfl (Nat.le_of_ble_eq_true rfl) rfl ⟨rfl, rfl⟩ (fun r3 τ3 hp3 => ?_)
                  obtain ⟨rfl, hw3⟩ := hp3
                  subst τ3
                  · exact v_zret C hRt hLk dM_recordsStand_73 (fN_bool (by omega)) ⟨m_scf_p (m_scf_of hs2_) _, Or.inl ⟨k, by omega, hall, fun h9 => h9.elim (fun h => absurd h (by omega)) g2_c, rfl, rfl⟩⟩
        · have hs1_ := m_scr_tr hs g1_s
          exact absurd hrow.1 g1_c
  refine v_aload_n C dM_recordsStand_0 rfl rfl ?_
  refine v_iload_n C dM_recordsStand_1 rfl rfl ?_
  refine v_cVI (k := 0) (n := 1) C (mE_ok _) trivial hR (kM_line2 _ xCl D cA ad hJ σ (x) (by omega) hz h7) dM_recordsStand_2 (by show (0 : Nat) < 18; decide) rfl rfl gM_150 (by decide +kernel) (by decide) (by decide) rfl (Nat.le_of_ble_eq_true rfl) rfl ⟨rfl, rfl⟩ (fun r4 τ4 hp4 => ?_)
  obtain ⟨g4_s, g4_21, g4_20, g4_22, g4_26, g4_27, ⟨g4_c, rfl⟩ | ⟨g4_c, rfl⟩⟩ := hp4
  · have hs4_ := g4_s
    have g4_l := @p_eol_le (σ.2 7) (σ.1 0 7) (x)
    refine v_pop C dM_recordsStand_5 rfl ?_
    refine v_aload_n C dM_recordsStand_6 rfl rfl ?_
    refine v_getI (k := 0) (q := 20) (v := p_eol (σ.2 7) (σ.1 0 7) (x)) C dM_recordsStand_7 (by show (0 : Nat) < 18; decide) rfl rfl (by decide) rfl inM lM_144 rfl g4_20 ?_
    refine v_iconst C dM_recordsStand_10 ?_
    refine v_iadd C dM_recordsStand_11 ?_
    refine v_istore_n C dM_recordsStand_12 rfl (by decide) ?_
    refine v_iconst C dM_recordsStand_13 ?_
    refine v_istore C dM_recordsStand_14 (by decide) ?_
    exact v_less (by exact ⟨rfl, rfl, rfl, rfl, rfl, trivial⟩) (L w.toNat 0 τ4 (by omega) hs4_ (fun i hi => absurd hi (Nat.not_lt_zero i)))
  · have hs4_ := g4_s
    have g4_l := @p_eol_le (σ.2 7) (σ.1 0 7) (x)
    refine v_pop C dM_recordsStand_5 rfl ?_
    refine v_aload_n C dM_recordsStand_6 rfl rfl ?_
    refine v_getI (k := 0) (q := 20) (v := p_eol (σ.2 7) (σ.1 0 7) (x)) C dM_recordsStand_7 (by show (0 : Nat) < 18; decide) rfl rfl (by decide) rfl inM lM_144 rfl g4_20 ?_
    refine v_iconst C dM_recordsStand_10 ?_
    refine v_iadd C dM_recordsStand_11 ?_
    refine v_istore_n C dM_recordsStand_12 rfl (by decide) ?_
    refine v_iconst C dM_recordsStand_13 ?_
    refine v_istore C dM_recordsStand_14 (by decide) ?_
    exact v_less (by exact ⟨rfl, rfl, rfl, rfl, rfl, trivial⟩) (L w.toNat 0 τ4 (by omega) hs4_ (fun i hi => absurd hi (Nat.not_lt_zero i)))
end
section
/-- a PART at x: its rows, its end, its records -/
def p_at (f : Nat → Int) (z x : Int) (j : Nat) : Int := p_ln f z j (p_eol f z x + 1)
def p_many (f : Nat → Int) (z x : Int) : Nat := (p_tv f z x).toNat
def p_lastn (f : Nat → Int) (z x : Int) : Nat → Int
  | 0 => 0
  | j + 1 => p_rn f z (p_at f z x j)
def p_good (f : Nat → Int) (z x : Int) (j : Nat) : Prop := p_row f z (p_at f z x j) ∧ (1 ≤ p_rn f z (p_at f z x j) ∧ p_rn f z (p_at f z x j) ≤ 40) ∧ p_lastn f z x j < p_rn f z (p_at f z x j) ∧ p_rpv f z (p_at f z x j) < x
def p_pl (f : Nat → Int) (z x : Int) : Int := p_at f z x (p_many f z x)
def p_pok (f : Nat → Int) (z x pt : Int) : Prop := p_tell f z (p_pl f z x) 112 ∧ p_tv f z (p_pl f z x) < x ∧ ¬ (0 < p_tv f z (p_pl f z x) ∧ pt = 60)
def p_el (f : Nat → Int) (z x : Int) : Int := p_eol f z (p_pl f z x) + 1
def p_eok (f : Nat → Int) (z x : Int) : Prop := p_tell f z (p_el f z x) 101 ∧ p_tv f z (p_el f z x) = x
def p_end (f : Nat → Int) (z x : Int) : Int := p_eol f z (p_el f z x) + 1
def p_look (f : Nat → Int) (z x pt r fl : Int) : Prop :=
  (¬ p_tell f z x 120 ∧ r = -1 ∧ fl = x) ∨ (p_tell f z x 120 ∧
  ((∃ j, j < p_many f z x ∧ (∀ i, i < j → p_good f z x i) ∧ ¬ p_good f z x j ∧ r = -1 ∧ fl = p_at f z x j) ∨ ((∀ i, i < p_many f z x → p_good f z x i) ∧
  ((¬ p_pok f z x pt ∧ r = -1 ∧ fl = p_pl f z x) ∨ (p_pok f z x pt ∧
  ((¬ p_eok f z x ∧ r = -1 ∧ fl = p_el f z x) ∨ (p_eok f z x ∧
  ((pt = 1 ∧ p_end f z x ≠ z ∧ r = -1 ∧ fl = p_end f z x) ∨ (¬ (pt = 1 ∧ p_end f z x ≠ z) ∧
  ((∃ j, j < p_many f z x ∧ (∀ i, i < j → p_rok f z x (p_at f z x i)) ∧ ¬ p_rok f z x (p_at f z x j) ∧ r = -1 ∧ fl = p_rpv f z (p_at f z x j)) ∨
   ((∀ i, i < p_many f z x → p_rok f z x (p_at f z x i)) ∧ r = p_tv f z (p_pl f z x))))))))))))
theorem p_at_s (f : Nat → Int) (z x : Int) (j : Nat) : p_at f z x (j + 1) = p_eol f z (p_at f z x j) + 1 := rfl
set_option maxRecDepth 100000 in
set_option maxHeartbeats 4000000 in
/-- lookAt(x) -/
theorem kM_lookAt (l : Launch) (xCl : List vw_C) (D : va_G) (cA : Nat → ClassId) (ad : Nat → Nat) (hJ : f_J (mG xCl D cA ad)) (σ : fS) (x : Int) (hx : 0 ≤ x ∧ x ≤ 11999) (hz : 0 ≤ σ.1 0 7 ∧ σ.1 0 7 ≤ 12000) (hpt : 0 ≤ σ.1 0 24 ∧ σ.1 0 24 ≤ 60) (h7 : ∀ i, -128 ≤ σ.2 7 i ∧ σ.2 7 i ≤ 127) : f_M l (mG xCl D cA ad) mE yM_lookAt (Cond.code yM_lookAt cM_lookAt 6 (some .int) :: A9) 3 σ [.ref (ad 0), .int (fI x)] (f_QI (fun r σ1 => m_scf σ σ1 ∧ p_look (σ.2 7) (σ.1 0 7) x (σ.1 0 24) r (σ1.1 0 23)) (mG xCl D cA ad)) := by
  refine f_enter (by decide +kernel) hJ rfl (Nat.le_of_ble_eq_true rfl) ?_
  intro z hzl hR C hRt hLk hEz
  subst hzl
  have hmany : 0 ≤ p_tv (σ.2 7) (σ.1 0 7) x ∧ p_tv (σ.2 7) (σ.1 0 7) x ≤ 99999 := p_num_v _ _ _
  have L : p_tell (σ.2 7) (σ.1 0 7) x 120 → ∀ (m k : Nat) (S : fS), m + k = p_many (σ.2 7) (σ.1 0 7) x → m_scr σ S → (∀ i, i < k → p_good (σ.2 7) (σ.1 0 7) x i) → 0 ≤ p_at (σ.2 7) (σ.1 0 7) x k → p_at (σ.2 7) (σ.1 0 7) x k ≤ σ.1 0 7 → 0 ≤ p_lastn (σ.2 7) (σ.1 0 7) x k ∧ p_lastn (σ.2 7) (σ.1 0 7) x k ≤ 40 → fv z (mG xCl D cA ad) 6 (f_R z (mG xCl D cA ad) (f_QI (fun r σ1 => m_scf σ σ1 ∧ p_look (σ.2 7) (σ.1 0 7) x (σ.1 0 24) r (σ1.1 0 23)) (mG xCl D cA ad))) 0 0 S 35 [some (.ref (ad 0)), some (.int (fI x)), some (.int (fI (p_tv (σ.2 7) (σ.1 0 7) x))), some (.int (fI (p_at (σ.2 7) (σ.1 0 7) x k))), some (.int (fI (p_lastn (σ.2 7) (σ.1 0 7) x k))), some (.int (fI (k : Int)))] [] := by
    intro gt_c m
    induction m with
    | zero =>
      intro k S hk hs hall ha0 ha1 hla
      have hmn : (p_many (σ.2 7) (σ.1 0 7) x : Int) = p_tv (σ.2 7) (σ.1 0 7) x := by unfold p_many; omega
      have hkm : k = p_many (σ.2 7) (σ.1 0 7) x := by omega
      have hpl : p_at (σ.2 7) (σ.1 0 7) x k = p_pl (σ.2 7) (σ.1 0 7) x := by rw [hkm]; rfl
      rw [hkm] at hall
      rw [hpl] at ha0 ha1 ⊢
      refine v_iload C dM_lookAt_35 rfl ?_
      refine v_iload_n C dM_lookAt_37 rfl rfl ?_
      refine v_icmp_ge (tgt := 102) C dM_lookAt_38 (by decide) (by omega) (by omega) (fun hc1 => ?_) (fun hc1 => ?_)
      · refine v_aload_n C dM_lookAt_102 rfl rfl ?_
        refine v_iload_n C dM_lookAt_103 rfl rfl ?_
        refine v_bipush C dM_lookAt_104 (by decide +kernel) ?_
        have hz2 : 0 ≤ S.1 0 7 ∧ S.1 0 7 ≤ 12000 := by rw [m_scr_z hs]; exact hz
        have hb3 : ∀ i, -128 ≤ S.2 7 i ∧ S.2 7 i ≤ 127 := fun i => by rw [m_scr_a hs]; exact h7 i
        refine v_cVI (k := 0) (n := 2) C (mE_ok _) trivial hR (kM_tells _ xCl D cA ad hJ S ((p_pl (σ.2 7) (σ.1 0 7) x)) (112) (by omega) (by omega) hz2 hb3) dM_lookAt_106 (by show (0 : Nat) < 18; decide) rfl rfl gM_169 (by decide +kernel) (by decide) (by decide) rfl (Nat.le_of_ble_eq_true rfl) rfl ⟨rfl, rfl⟩ (fun r1 τ1 hp1 => ?_)
        simp only [hs.1, m_scr_z hs] at hp1
        obtain ⟨g1_s, g1_x, g1_y, ⟨g1_c, rfl, g1_20, g1_22⟩ | ⟨g1_c, rfl⟩⟩ := hp1
        · have hs1_ := m_scr_tr hs g1_s
          have g1_e := g1_c.1
          have g1_l := @p_eol_le (σ.2 7) (σ.1 0 7) ((p_pl (σ.2 7) (σ.1 0 7) x))
          have g1_v := p_num_v (σ.2 7) (p_eol (σ.2 7) (σ.1 0 7) ((p_pl (σ.2 7) (σ.1 0 7) x))) ((p_pl (σ.2 7) (σ.1 0 7) x) + 2)
          change 0 ≤ p_tv (σ.2 7) (σ.1 0 7) ((p_pl (σ.2 7) (σ.1 0 7) x)) ∧ p_tv (σ.2 7) (σ.1 0 7) ((p_pl (σ.2 7) (σ.1 0 7) x)) ≤ 99999 at g1_v
          refine v_if_eq (tgt := 136) C dM_lookAt_109 (by decide) (by omega) (fun hc4 => ?_) (fun hc4 => ?_)
          · exfalso; omega
          · refine v_aload_n C dM_lookAt_112 rfl rfl ?_
            refine v_getI (k := 0) (q := 22) (v := p_tv (σ.2 7) (σ.1 0 7) ((p_pl (σ.2 7) (σ.1 0 7) x))) C dM_lookAt_113 (by show (0 : Nat) < 18; decide) rfl rfl (by decide) rfl inM lM_147 rfl g1_22 ?_
            refine v_iload_n C dM_lookAt_116 rfl rfl ?_
            refine v_icmp_ge (tgt := 136) C dM_lookAt_117 (by decide) (by omega) (by omega) (fun hc5 => ?_) (fun hc5 => ?_)
            · refine v_aload_n C dM_lookAt_136 rfl rfl ?_
              refine v_iload_n C dM_lookAt_137 rfl rfl ?_
              refine v_putI (k := 0) (q := 23) C dM_lookAt_138 (by show (0 : Nat) < 18; decide) rfl rfl (by decide) rfl inM tyM_ok nmM lM_166 rfl rfl rfl rfl rfl ?_
              refine v_iconst C dM_lookAt_141 ?_
              exact v_iret C hRt hLk dM_lookAt_142 ⟨m_scf_p (m_scf_of hs1_) _, Or.inr ⟨gt_c, Or.inr ⟨hall, Or.inl ⟨fun h9 => by first | exact g1_c h9.1 | (have h91 := h9.2.1; have h92 := h9.2.2; omega), rfl, rfl⟩⟩⟩⟩
            · refine v_aload_n C dM_lookAt_120 rfl rfl ?_
              refine v_getI (k := 0) (q := 22) (v := p_tv (σ.2 7) (σ.1 0 7) ((p_pl (σ.2 7) (σ.1 0 7) x))) C dM_lookAt_121 (by show (0 : Nat) < 18; decide) rfl rfl (by decide) rfl inM lM_147 rfl g1_22 ?_
              refine v_if_le (tgt := 143) C dM_lookAt_124 (by decide) (by omega) (fun hc6 => ?_) (fun hc6 => ?_)
              · refine v_aload_n C dM_lookAt_143 rfl rfl ?_
                refine v_getI (k := 0) (q := 22) (v := p_tv (σ.2 7) (σ.1 0 7) ((p_pl (σ.2 7) (σ.1 0 7) x))) C dM_lookAt_144 (by show (0 : Nat) < 18; decide) rfl rfl (by decide) rfl inM lM_147 rfl g1_22 ?_
                refine v_istore C dM_lookAt_147 (by decide) ?_
                refine v_aload_n C dM_lookAt_149 rfl rfl ?_
                refine v_getI (k := 0) (q := 20) (v := p_eol (σ.2 7) (σ.1 0 7) ((p_pl (σ.2 7) (σ.1 0 7) x))) C dM_lookAt_150 (by show (0 : Nat) < 18; decide) rfl rfl (by decide) rfl inM lM_144 rfl g1_20 ?_
                refine v_iconst C dM_lookAt_153 ?_
                refine v_iadd C dM_lookAt_154 ?_
                refine v_istore_n C dM_lookAt_155 rfl (by decide) ?_
                refine v_aload_n C dM_lookAt_156 rfl rfl ?_
                refine v_iload_n C dM_lookAt_157 rfl rfl ?_
                refine v_bipush C dM_lookAt_158 (by decide +kernel) ?_
                have hz7 : 0 ≤ τ1.1 0 7 ∧ τ1.1 0 7 ≤ 12000 := by rw [m_scr_z hs1_]; exact hz
                have hb8 : ∀ i, -128 ≤ τ1.2 7 i ∧ τ1.2 7 i ≤ 127 := fun i => by rw [m_scr_a hs1_]; exact h7 i
                refine v_cVI (k := 0) (n := 2) C (mE_ok _) trivial hR (kM_tells _ xCl D cA ad hJ τ1 ((p_eol (σ.2 7) (σ.1 0 7) ((p_pl (σ.2 7) (σ.1 0 7) x)) + 1)) (101) (by omega) (by omega) hz7 hb8) dM_lookAt_160 (by show (0 : Nat) < 18; decide) rfl rfl gM_169 (by decide +kernel) (by decide) (by decide) rfl (Nat.le_of_ble_eq_true rfl) rfl ⟨rfl, rfl⟩ (fun r2 τ2 hp2 => ?_)
                simp only [hs1_.1, m_scr_z hs1_, g1_20, g1_22] at hp2
                obtain ⟨g2_s, g2_x, g2_y, ⟨g2_c, rfl, g2_20, g2_22⟩ | ⟨g2_c, rfl⟩⟩ := hp2
                · have hs2_ := m_scr_tr hs1_ g2_s
                  have g2_e := g2_c.1
                  have g2_l := @p_eol_le (σ.2 7) (σ.1 0 7) ((p_eol (σ.2 7) (σ.1 0 7) ((p_pl (σ.2 7) (σ.1 0 7) x)) + 1))
                  have g2_v := p_num_v (σ.2 7) (p_eol (σ.2 7) (σ.1 0 7) ((p_eol (σ.2 7) (σ.1 0 7) ((p_pl (σ.2 7) (σ.1 0 7) x)) + 1))) ((p_eol (σ.2 7) (σ.1 0 7) ((p_pl (σ.2 7) (σ.1 0 7) x)) + 1) + 2)
                  change 0 ≤ p_tv (σ.2 7) (σ.1 0 7) ((p_eol (σ.2 7) (σ.1 0 7) ((p_pl (σ.2 7) (σ.1 0 7) x)) + 1)) ∧ p_tv (σ.2 7) (σ.1 0 7) ((p_eol (σ.2 7) (σ.1 0 7) ((p_pl (σ.2 7) (σ.1 0 7) x)) + 1)) ≤ 99999 at g2_v
                  refine v_if_eq (tgt := 174) C dM_lookAt_163 (by decide) (by omega) (fun hc9 => ?_) (fun hc9 => ?_)
                  · exfalso; omega
                  · refine v_aload_n C dM_lookAt_166 rfl rfl ?_
                    refine v_getI (k := 0) (q := 22) (v := p_tv (σ.2 7) (σ.1 0 7) ((p_eol (σ.2 7) (σ.1 0 7) ((p_pl (σ.2 7) (σ.1 0 7) x)) + 1))) C dM_lookAt_167 (by show (0 : Nat) < 18; decide) rfl rfl (by decide) rfl inM lM_147 rfl g2_22 ?_
                    refine v_iload_n C dM_lookAt_170 rfl rfl ?_
                    refine v_icmp_eq (tgt := 181) C dM_lookAt_171 (by decide) (by omega) (by omega) (fun hc10 => ?_) (fun hc10 => ?_)
                    · refine v_aload_n C dM_lookAt_181 rfl rfl ?_
                      refine v_getI (k := 0) (q := 24) (v := σ.1 0 24) C dM_lookAt_182 (by show (0 : Nat) < 18; decide) rfl rfl (by decide) rfl inM lM_175 rfl (hs2_.2 0 24 (by decide)) ?_
                      refine v_iconst C dM_lookAt_185 ?_
                      refine v_icmp_ne (tgt := 214) C dM_lookAt_186 (by decide) (by omega) (by omega) (fun hc11 => ?_) (fun hc11 => ?_)
                      · refine v_aload_n C dM_lookAt_214 rfl rfl ?_
                        refine v_iload_n C dM_lookAt_215 rfl rfl ?_
                        refine v_iload_n C dM_lookAt_216 rfl rfl ?_
                        have hz12 : 0 ≤ τ2.1 0 7 ∧ τ2.1 0 7 ≤ 12000 := by rw [m_scr_z hs2_]; exact hz
                        have hb13 : ∀ i, -128 ≤ τ2.2 7 i ∧ τ2.2 7 i ≤ 127 := fun i => by rw [m_scr_a hs2_]; exact h7 i
                        refine v_cVI (k := 0) (n := 2) C (mE_ok _) trivial hR (kM_recordsStand _ xCl D cA ad hJ τ2 x ((p_tv (σ.2 7) (σ.1 0 7) x)) (by omega) (by omega) hz12 hb13 (by rw [hs2_.1, m_scr_z hs2_]; exact gt_c.1) (by rw [hs2_.1, m_scr_z hs2_]; exact fun j hj => ⟨(hall j (by unfold p_many; omega)).1, (hall j (by unfold p_many; omega)).2.2.2⟩)) dM_lookAt_217 (by show (0 : Nat) < 18; decide) rfl rfl gM_178 (by decide +kernel) (by decide) (by decide) rfl (Nat.le_of_ble_eq_true rfl) rfl ⟨rfl, rfl⟩ (fun r3 τ3 hp3 => ?_)
                        simp only [hs2_.1, m_scr_z hs2_] at hp3
                        obtain ⟨g3_s, ⟨g3_j, g3_1, g3_2, g3_3, rfl, g3_4⟩ | ⟨g3_1, rfl⟩⟩ := hp3
                        · refine v_if_eq (tgt := 228) C dM_lookAt_220 (by decide) (by omega) (fun hc14 => ?_) (fun hc14 => ?_)
                          · refine v_iconst C dM_lookAt_228 ?_
                            exact v_iret C hRt hLk dM_lookAt_229 ⟨m_scf_tr (m_scf_of hs2_) g3_s, Or.inr ⟨gt_c, Or.inr ⟨hall, Or.inr ⟨⟨g1_c, by omega, by omega⟩, Or.inr ⟨⟨g2_c, by unfold p_el at *; omega⟩, Or.inr ⟨by unfold p_end p_el at *; omega, Or.inl ⟨g3_j, by unfold p_many; omega, g3_2, g3_3, rfl, g3_4⟩⟩⟩⟩⟩⟩⟩
                          · exfalso; omega
                        · refine v_if_eq (tgt := 228) C dM_lookAt_220 (by decide) (by omega) (fun hc15 => ?_) (fun hc15 => ?_)
                          · exfalso; omega
                          · refine v_iload C dM_lookAt_223 rfl ?_
                            refine v_goto (tgt := 229) C dM_lookAt_225 (by decide) ?_
                            exact v_iret C hRt hLk dM_lookAt_229 ⟨m_scf_tr (m_scf_of hs2_) g3_s, Or.inr ⟨gt_c, Or.inr ⟨hall, Or.inr ⟨⟨g1_c, by omega, by omega⟩, Or.inr ⟨⟨g2_c, by unfold p_el at *; omega⟩, Or.inr ⟨by unfold p_end p_el at *; omega, Or.inr ⟨fun i hi => g3_1 i (by unfold p_many at hi; omega), rfl⟩⟩⟩⟩⟩⟩⟩
                      · refine v_aload_n C dM_lookAt_189 rfl rfl ?_
                        refine v_getI (k := 0) (q := 20) (v := p_eol (σ.2 7) (σ.1 0 7) ((p_eol (σ.2 7) (σ.1 0 7) ((p_pl (σ.2 7) (σ.1 0 7) x)) + 1))) C dM_lookAt_190 (by show (0 : Nat) < 18; decide) rfl rfl (by decide) rfl inM lM_144 rfl g2_20 ?_
                        refine v_iconst C dM_lookAt_193 ?_
                        refine v_iadd C dM_lookAt_194 ?_
                        refine v_aload_n C dM_lookAt_195 rfl rfl ?_
                        refine v_getI (k := 0) (q := 7) (v := σ.1 0 7) C dM_lookAt_196 (by show (0 : Nat) < 18; decide) rfl rfl (by decide) rfl inM lM_116 rfl (hs2_.2 0 7 (by decide)) ?_
                        refine v_icmp_eq (tgt := 214) C dM_lookAt_199 (by decide) (by omega) (by omega) (fun hc16 => ?_) (fun hc16 => ?_)
                        · refine v_aload_n C dM_lookAt_214 rfl rfl ?_
                          refine v_iload_n C dM_lookAt_215 rfl rfl ?_
                          refine v_iload_n C dM_lookAt_216 rfl rfl ?_
                          have hz17 : 0 ≤ τ2.1 0 7 ∧ τ2.1 0 7 ≤ 12000 := by rw [m_scr_z hs2_]; exact hz
                          have hb18 : ∀ i, -128 ≤ τ2.2 7 i ∧ τ2.2 7 i ≤ 127 := fun i => by rw [m_scr_a hs2_]; exact h7 i
                          refine v_cVI (k := 0) (n := 2) C (mE_ok _) trivial hR (kM_recordsStand _ xCl D cA ad hJ τ2 x ((p_tv (σ.2 7) (σ.1 0 7) x)) (by omega) (by omega) hz17 hb18 (by rw [hs2_.1, m_scr_z hs2_]; exact gt_c.1) (by rw [hs2_.1, m_scr_z hs2_]; exact fun j hj => ⟨(hall j (by unfold p_many; omega)).1, (hall j (by unfold p_many; omega)).2.2.2⟩)) dM_lookAt_217 (by show (0 : Nat) < 18; decide) rfl rfl gM_178 (by decide +kernel) (by decide) (by decide) rfl (Nat.le_of_ble_eq_true rfl) rfl ⟨rfl, rfl⟩ (fun r4 τ4 hp4 => ?_)
                          simp only [hs2_.1, m_scr_z hs2_] at hp4
                          obtain ⟨g4_s, ⟨g4_j, g4_1, g4_2, g4_3, rfl, g4_4⟩ | ⟨g4_1, rfl⟩⟩ := hp4
                          · refine v_if_eq (tgt := 228) C dM_lookAt_220 (by decide) (by omega) (fun hc19 => ?_) (fun hc19 => ?_)
                            · refine v_iconst C dM_lookAt_228 ?_
                              exact v_iret C hRt hLk dM_lookAt_229 ⟨m_scf_tr (m_scf_of hs2_) g4_s, Or.inr ⟨gt_c, Or.inr ⟨hall, Or.inr ⟨⟨g1_c, by omega, by omega⟩, Or.inr ⟨⟨g2_c, by unfold p_el at *; omega⟩, Or.inr ⟨by unfold p_end p_el at *; omega, Or.inl ⟨g4_j, by unfold p_many; omega, g4_2, g4_3, rfl, g4_4⟩⟩⟩⟩⟩⟩⟩
                            · exfalso; omega
                          · refine v_if_eq (tgt := 228) C dM_lookAt_220 (by decide) (by omega) (fun hc20 => ?_) (fun hc20 => ?_)
                            · exfalso; omega
                            · refine v_iload C dM_lookAt_223 rfl ?_
                              refine v_goto (tgt := 229) C dM_lookAt_225 (by decide) ?_
                              exact v_iret C hRt hLk dM_lookAt_229 ⟨m_scf_tr (m_scf_of hs2_) g4_s, Or.inr ⟨gt_c, Or.inr ⟨hall, Or.inr ⟨⟨g1_c, by omega, by omega⟩, Or.inr ⟨⟨g2_c, by unfold p_el at *; omega⟩, Or.inr ⟨by unfold p_end p_el at *; omega, Or.inr ⟨fun i hi => g4_1 i (by unfold p_many at hi; omega), rfl⟩⟩⟩⟩⟩⟩⟩
                        · refine v_aload_n C dM_lookAt_202 rfl rfl ?_
                          refine v_aload_n C dM_lookAt_203 rfl rfl ?_
                          refine v_getI (k := 0) (q := 20) (v := p_eol (σ.2 7) (σ.1 0 7) ((p_eol (σ.2 7) (σ.1 0 7) ((p_pl (σ.2 7) (σ.1 0 7) x)) + 1))) C dM_lookAt_204 (by show (0 : Nat) < 18; decide) rfl rfl (by decide) rfl inM lM_144 rfl g2_20 ?_
                          refine v_iconst C dM_lookAt_207 ?_
                          refine v_iadd C dM_lookAt_208 ?_
                          refine v_putI (k := 0) (q := 23) C dM_lookAt_209 (by show (0 : Nat) < 18; decide) rfl rfl (by decide) rfl inM tyM_ok nmM lM_166 rfl rfl rfl rfl rfl ?_
                          refine v_iconst C dM_lookAt_212 ?_
                          exact v_iret C hRt hLk dM_lookAt_213 ⟨m_scf_p (m_scf_of hs2_) _, Or.inr ⟨gt_c, Or.inr ⟨hall, Or.inr ⟨⟨g1_c, by omega, by omega⟩, Or.inr ⟨⟨g2_c, by unfold p_el at *; omega⟩, Or.inl ⟨by omega, by unfold p_end p_el at *; omega, rfl, rfl⟩⟩⟩⟩⟩⟩
                    · refine v_aload_n C dM_lookAt_174 rfl rfl ?_
                      refine v_iload_n C dM_lookAt_175 rfl rfl ?_
                      refine v_putI (k := 0) (q := 23) C dM_lookAt_176 (by show (0 : Nat) < 18; decide) rfl rfl (by decide) rfl inM tyM_ok nmM lM_166 rfl rfl rfl rfl rfl ?_
                      refine v_iconst C dM_lookAt_179 ?_
                      exact v_iret C hRt hLk dM_lookAt_180 ⟨m_scf_p (m_scf_of hs2_) _, Or.inr ⟨gt_c, Or.inr ⟨hall, Or.inr ⟨⟨g1_c, by omega, by omega⟩, Or.inl ⟨fun h9 => by first | exact g2_c h9.1 | (have h91 := h9.2; unfold p_el at *; omega), rfl, rfl⟩⟩⟩⟩⟩
                · have hs2_ := m_scr_tr hs1_ g2_s
                  refine v_if_eq (tgt := 174) C dM_lookAt_163 (by decide) (by omega) (fun hc21 => ?_) (fun hc21 => ?_)
                  · refine v_aload_n C dM_lookAt_174 rfl rfl ?_
                    refine v_iload_n C dM_lookAt_175 rfl rfl ?_
                    refine v_putI (k := 0) (q := 23) C dM_lookAt_176 (by show (0 : Nat) < 18; decide) rfl rfl (by decide) rfl inM tyM_ok nmM lM_166 rfl rfl rfl rfl rfl ?_
                    refine v_iconst C dM_lookAt_179 ?_
                    exact v_iret C hRt hLk dM_lookAt_180 ⟨m_scf_p (m_scf_of hs2_) _, Or.inr ⟨gt_c, Or.inr ⟨hall, Or.inr ⟨⟨g1_c, by omega, by omega⟩, Or.inl ⟨fun h9 => by first | exact g2_c h9.1 | (have h91 := h9.2; unfold p_el at *; omega), rfl, rfl⟩⟩⟩⟩⟩
                  · exfalso; omega
              · refine v_aload_n C dM_lookAt_127 rfl rfl ?_
                refine v_getI (k := 0) (q := 24) (v := σ.1 0 24) C dM_lookAt_128 (by show (0 : Nat) < 18; decide) rfl rfl (by decide) rfl inM lM_175 rfl (hs1_.2 0 24 (by decide)) ?_
                refine v_bipush C dM_lookAt_131 (by decide +kernel) ?_
                refine v_icmp_ne (tgt := 143) C dM_lookAt_133 (by decide) (by omega) (by omega) (fun hc22 => ?_) (fun hc22 => ?_)
                · refine v_aload_n C dM_lookAt_143 rfl rfl ?_
                  refine v_getI (k := 0) (q := 22) (v := p_tv (σ.2 7) (σ.1 0 7) ((p_pl (σ.2 7) (σ.1 0 7) x))) C dM_lookAt_144 (by show (0 : Nat) < 18; decide) rfl rfl (by decide) rfl inM lM_147 rfl g1_22 ?_
                  refine v_istore C dM_lookAt_147 (by decide) ?_
                  refine v_aload_n C dM_lookAt_149 rfl rfl ?_
                  refine v_getI (k := 0) (q := 20) (v := p_eol (σ.2 7) (σ.1 0 7) ((p_pl (σ.2 7) (σ.1 0 7) x))) C dM_lookAt_150 (by show (0 : Nat) < 18; decide) rfl rfl (by decide) rfl inM lM_144 rfl g1_20 ?_
                  refine v_iconst C dM_lookAt_153 ?_
                  refine v_iadd C dM_lookAt_154 ?_
                  refine v_istore_n C dM_lookAt_155 rfl (by decide) ?_
                  refine v_aload_n C dM_lookAt_156 rfl rfl ?_
                  refine v_iload_n C dM_lookAt_157 rfl rfl ?_
                  refine v_bipush C dM_lookAt_158 (by decide +kernel) ?_
                  have hz23 : 0 ≤ τ1.1 0 7 ∧ τ1.1 0 7 ≤ 12000 := by rw [m_scr_z hs1_]; exact hz
                  have hb24 : ∀ i, -128 ≤ τ1.2 7 i ∧ τ1.2 7 i ≤ 127 := fun i => by rw [m_scr_a hs1_]; exact h7 i
                  refine v_cVI (k := 0) (n := 2) C (mE_ok _) trivial hR (kM_tells _ xCl D cA ad hJ τ1 ((p_eol (σ.2 7) (σ.1 0 7) ((p_pl (σ.2 7) (σ.1 0 7) x)) + 1)) (101) (by omega) (by omega) hz23 hb24) dM_lookAt_160 (by show (0 : Nat) < 18; decide) rfl rfl gM_169 (by decide +kernel) (by decide) (by decide) rfl (Nat.le_of_ble_eq_true rfl) rfl ⟨rfl, rfl⟩ (fun r5 τ5 hp5 => ?_)
                  simp only [hs1_.1, m_scr_z hs1_, g1_20, g1_22] at hp5
                  obtain ⟨g5_s, g5_x, g5_y, ⟨g5_c, rfl, g5_20, g5_22⟩ | ⟨g5_c, rfl⟩⟩ := hp5
                  · have hs5_ := m_scr_tr hs1_ g5_s
                    have g5_e := g5_c.1
                    have g5_l := @p_eol_le (σ.2 7) (σ.1 0 7) ((p_eol (σ.2 7) (σ.1 0 7) ((p_pl (σ.2 7) (σ.1 0 7) x)) + 1))
                    have g5_v := p_num_v (σ.2 7) (p_eol (σ.2 7) (σ.1 0 7) ((p_eol (σ.2 7) (σ.1 0 7) ((p_pl (σ.2 7) (σ.1 0 7) x)) + 1))) ((p_eol (σ.2 7) (σ.1 0 7) ((p_pl (σ.2 7) (σ.1 0 7) x)) + 1) + 2)
                    change 0 ≤ p_tv (σ.2 7) (σ.1 0 7) ((p_eol (σ.2 7) (σ.1 0 7) ((p_pl (σ.2 7) (σ.1 0 7) x)) + 1)) ∧ p_tv (σ.2 7) (σ.1 0 7) ((p_eol (σ.2 7) (σ.1 0 7) ((p_pl (σ.2 7) (σ.1 0 7) x)) + 1)) ≤ 99999 at g5_v
                    refine v_if_eq (tgt := 174) C dM_lookAt_163 (by decide) (by omega) (fun hc25 => ?_) (fun hc25 => ?_)
                    · exfalso; omega
                    · refine v_aload_n C dM_lookAt_166 rfl rfl ?_
                      refine v_getI (k := 0) (q := 22) (v := p_tv (σ.2 7) (σ.1 0 7) ((p_eol (σ.2 7) (σ.1 0 7) ((p_pl (σ.2 7) (σ.1 0 7) x)) + 1))) C dM_lookAt_167 (by show (0 : Nat) < 18; decide) rfl rfl (by decide) rfl inM lM_147 rfl g5_22 ?_
                      refine v_iload_n C dM_lookAt_170 rfl rfl ?_
                      refine v_icmp_eq (tgt := 181) C dM_lookAt_171 (by decide) (by omega) (by omega) (fun hc26 => ?_) (fun hc26 => ?_)
                      · refine v_aload_n C dM_lookAt_181 rfl rfl ?_
                        refine v_getI (k := 0) (q := 24) (v := σ.1 0 24) C dM_lookAt_182 (by show (0 : Nat) < 18; decide) rfl rfl (by decide) rfl inM lM_175 rfl (hs5_.2 0 24 (by decide)) ?_
                        refine v_iconst C dM_lookAt_185 ?_
                        refine v_icmp_ne (tgt := 214) C dM_lookAt_186 (by decide) (by omega) (by omega) (fun hc27 => ?_) (fun hc27 => ?_)
                        · refine v_aload_n C dM_lookAt_214 rfl rfl ?_
                          refine v_iload_n C dM_lookAt_215 rfl rfl ?_
                          refine v_iload_n C dM_lookAt_216 rfl rfl ?_
                          have hz28 : 0 ≤ τ5.1 0 7 ∧ τ5.1 0 7 ≤ 12000 := by rw [m_scr_z hs5_]; exact hz
                          have hb29 : ∀ i, -128 ≤ τ5.2 7 i ∧ τ5.2 7 i ≤ 127 := fun i => by rw [m_scr_a hs5_]; exact h7 i
                          refine v_cVI (k := 0) (n := 2) C (mE_ok _) trivial hR (kM_recordsStand _ xCl D cA ad hJ τ5 x ((p_tv (σ.2 7) (σ.1 0 7) x)) (by omega) (by omega) hz28 hb29 (by rw [hs5_.1, m_scr_z hs5_]; exact gt_c.1) (by rw [hs5_.1, m_scr_z hs5_]; exact fun j hj => ⟨(hall j (by unfold p_many; omega)).1, (hall j (by unfold p_many; omega)).2.2.2⟩)) dM_lookAt_217 (by show (0 : Nat) < 18; decide) rfl rfl gM_178 (by decide +kernel) (by decide) (by decide) rfl (Nat.le_of_ble_eq_true rfl) rfl ⟨rfl, rfl⟩ (fun r6 τ6 hp6 => ?_)
                          simp only [hs5_.1, m_scr_z hs5_] at hp6
                          obtain ⟨g6_s, ⟨g6_j, g6_1, g6_2, g6_3, rfl, g6_4⟩ | ⟨g6_1, rfl⟩⟩ := hp6
                          · refine v_if_eq (tgt := 228) C dM_lookAt_220 (by decide) (by omega) (fun hc30 => ?_) (fun hc30 => ?_)
                            · refine v_iconst C dM_lookAt_228 ?_
                              exact v_iret C hRt hLk dM_lookAt_229 ⟨m_scf_tr (m_scf_of hs5_) g6_s, Or.inr ⟨gt_c, Or.inr ⟨hall, Or.inr ⟨⟨g1_c, by omega, by omega⟩, Or.inr ⟨⟨g5_c, by unfold p_el at *; omega⟩, Or.inr ⟨by unfold p_end p_el at *; omega, Or.inl ⟨g6_j, by unfold p_many; omega, g6_2, g6_3, rfl, g6_4⟩⟩⟩⟩⟩⟩⟩
                            · exfalso; omega
                          · refine v_if_eq (tgt := 228) C dM_lookAt_220 (by decide) (by omega) (fun hc31 => ?_) (fun hc31 => ?_)
                            · exfalso; omega
                            · refine v_iload C dM_lookAt_223 rfl ?_
                              refine v_goto (tgt := 229) C dM_lookAt_225 (by decide) ?_
                              exact v_iret C hRt hLk dM_lookAt_229 ⟨m_scf_tr (m_scf_of hs5_) g6_s, Or.inr ⟨gt_c, Or.inr ⟨hall, Or.inr ⟨⟨g1_c, by omega, by omega⟩, Or.inr ⟨⟨g5_c, by unfold p_el at *; omega⟩, Or.inr ⟨by unfold p_end p_el at *; omega, Or.inr ⟨fun i hi => g6_1 i (by unfold p_many at hi; omega), rfl⟩⟩⟩⟩⟩⟩⟩
                        · refine v_aload_n C dM_lookAt_189 rfl rfl ?_
                          refine v_getI (k := 0) (q := 20) (v := p_eol (σ.2 7) (σ.1 0 7) ((p_eol (σ.2 7) (σ.1 0 7) ((p_pl (σ.2 7) (σ.1 0 7) x)) + 1))) C dM_lookAt_190 (by show (0 : Nat) < 18; decide) rfl rfl (by decide) rfl inM lM_144 rfl g5_20 ?_
                          refine v_iconst C dM_lookAt_193 ?_
                          refine v_iadd C dM_lookAt_194 ?_
                          refine v_aload_n C dM_lookAt_195 rfl rfl ?_
                          refine v_getI (k := 0) (q := 7) (v := σ.1 0 7) C dM_lookAt_196 (by show (0 : Nat) < 18; decide) rfl rfl (by decide) rfl inM lM_116 rfl (hs5_.2 0 7 (by decide)) ?_
                          refine v_icmp_eq (tgt := 214) C dM_lookAt_199 (by decide) (by omega) (by omega) (fun hc32 => ?_) (fun hc32 => ?_)
                          · refine v_aload_n C dM_lookAt_214 rfl rfl ?_
                            refine v_iload_n C dM_lookAt_215 rfl rfl ?_
                            refine v_iload_n C dM_lookAt_216 rfl rfl ?_
                            have hz33 : 0 ≤ τ5.1 0 7 ∧ τ5.1 0 7 ≤ 12000 := by rw [m_scr_z hs5_]; exact hz
                            have hb34 : ∀ i, -128 ≤ τ5.2 7 i ∧ τ5.2 7 i ≤ 127 := fun i => by rw [m_scr_a hs5_]; exact h7 i
                            refine v_cVI (k := 0) (n := 2) C (mE_ok _) trivial hR (kM_recordsStand _ xCl D cA ad hJ τ5 x ((p_tv (σ.2 7) (σ.1 0 7) x)) (by omega) (by omega) hz33 hb34 (by rw [hs5_.1, m_scr_z hs5_]; exact gt_c.1) (by rw [hs5_.1, m_scr_z hs5_]; exact fun j hj => ⟨(hall j (by unfold p_many; omega)).1, (hall j (by unfold p_many; omega)).2.2.2⟩)) dM_lookAt_217 (by show (0 : Nat) < 18; decide) rfl rfl gM_178 (by decide +kernel) (by decide) (by decide) rfl (Nat.le_of_ble_eq_true rfl) rfl ⟨rfl, rfl⟩ (fun r7 τ7 hp7 => ?_)
                            simp only [hs5_.1, m_scr_z hs5_] at hp7
                            obtain ⟨g7_s, ⟨g7_j, g7_1, g7_2, g7_3, rfl, g7_4⟩ | ⟨g7_1, rfl⟩⟩ := hp7
                            · refine v_if_eq (tgt := 228) C dM_lookAt_220 (by decide) (by omega) (fun hc35 => ?_) (fun hc35 => ?_)
                              · refine v_iconst C dM_lookAt_228 ?_
                                exact v_iret C hRt hLk dM_lookAt_229 ⟨m_scf_tr (m_scf_of hs5_) g7_s, Or.inr ⟨gt_c, Or.inr ⟨hall, Or.inr ⟨⟨g1_c, by omega, by omega⟩, Or.inr ⟨⟨g5_c, by unfold p_el at *; omega⟩, Or.inr ⟨by unfold p_end p_el at *; omega, Or.inl ⟨g7_j, by unfold p_many; omega, g7_2, g7_3, rfl, g7_4⟩⟩⟩⟩⟩⟩⟩
                              · exfalso; omega
                            · refine v_if_eq (tgt := 228) C dM_lookAt_220 (by decide) (by omega) (fun hc36 => ?_) (fun hc36 => ?_)
                              · exfalso; omega
                              · refine v_iload C dM_lookAt_223 rfl ?_
                                refine v_goto (tgt := 229) C dM_lookAt_225 (by decide) ?_
                                exact v_iret C hRt hLk dM_lookAt_229 ⟨m_scf_tr (m_scf_of hs5_) g7_s, Or.inr ⟨gt_c, Or.inr ⟨hall, Or.inr ⟨⟨g1_c, by omega, by omega⟩, Or.inr ⟨⟨g5_c, by unfold p_el at *; omega⟩, Or.inr ⟨by unfold p_end p_el at *; omega, Or.inr ⟨fun i hi => g7_1 i (by unfold p_many at hi; omega), rfl⟩⟩⟩⟩⟩⟩⟩
                          · refine v_aload_n C dM_lookAt_202 rfl rfl ?_
                            refine v_aload_n C dM_lookAt_203 rfl rfl ?_
                            refine v_getI (k := 0) (q := 20) (v := p_eol (σ.2 7) (σ.1 0 7) ((p_eol (σ.2 7) (σ.1 0 7) ((p_pl (σ.2 7) (σ.1 0 7) x)) + 1))) C dM_lookAt_204 (by show (0 : Nat) < 18; decide) rfl rfl (by decide) rfl inM lM_144 rfl g5_20 ?_
                            refine v_iconst C dM_lookAt_207 ?_
                            refine v_iadd C dM_lookAt_208 ?_
                            refine v_putI (k := 0) (q := 23) C dM_lookAt_209 (by show (0 : Nat) < 18; decide) rfl rfl (by decide) rfl inM tyM_ok nmM lM_166 rfl rfl rfl rfl rfl ?_
                            refine v_iconst C dM_lookAt_212 ?_
                            exact v_iret C hRt hLk dM_lookAt_213 ⟨m_scf_p (m_scf_of hs5_) _, Or.inr ⟨gt_c, Or.inr ⟨hall, Or.inr ⟨⟨g1_c, by omega, by omega⟩, Or.inr ⟨⟨g5_c, by unfold p_el at *; omega⟩, Or.inl ⟨by omega, by unfold p_end p_el at *; omega, rfl, rfl⟩⟩⟩⟩⟩⟩
                      · refine v_aload_n C dM_lookAt_174 rfl rfl ?_
                        refine v_iload_n C dM_lookAt_175 rfl rfl ?_
                        refine v_putI (k := 0) (q := 23) C dM_lookAt_176 (by show (0 : Nat) < 18; decide) rfl rfl (by decide) rfl inM tyM_ok nmM lM_166 rfl rfl rfl rfl rfl ?_
                        refine v_iconst C dM_lookAt_179 ?_
                        exact v_iret C hRt hLk dM_lookAt_180 ⟨m_scf_p (m_scf_of hs5_) _, Or.inr ⟨gt_c, Or.inr ⟨hall, Or.inr ⟨⟨g1_c, by omega, by omega⟩, Or.inl ⟨fun h9 => by first | exact g5_c h9.1 | (have h91 := h9.2; unfold p_el at *; omega), rfl, rfl⟩⟩⟩⟩⟩
                  · have hs5_ := m_scr_tr hs1_ g5_s
                    refine v_if_eq (tgt := 174) C dM_lookAt_163 (by decide) (by omega) (fun hc37 => ?_) (fun hc37 => ?_)
                    · refine v_aload_n C dM_lookAt_174 rfl rfl ?_
                      refine v_iload_n C dM_lookAt_175 rfl rfl ?_
                      refine v_putI (k := 0) (q := 23) C dM_lookAt_176 (by show (0 : Nat) < 18; decide) rfl rfl (by decide) rfl inM tyM_ok nmM lM_166 rfl rfl rfl rfl rfl ?_
                      refine v_iconst C dM_lookAt_179 ?_
                      exact v_iret C hRt hLk dM_lookAt_180 ⟨m_scf_p (m_scf_of hs5_) _, Or.inr ⟨gt_c, Or.inr ⟨hall, Or.inr ⟨⟨g1_c, by omega, by omega⟩, Or.inl ⟨fun h9 => by first | exact g5_c h9.1 | (have h91 := h9.2; unfold p_el at *; omega), rfl, rfl⟩⟩⟩⟩⟩
                    · exfalso; omega
                · refine v_aload_n C dM_lookAt_136 rfl rfl ?_
                  refine v_iload_n C dM_lookAt_137 rfl rfl ?_
                  refine v_putI (k := 0) (q := 23) C dM_lookAt_138 (by show (0 : Nat) < 18; decide) rfl rfl (by decide) rfl inM tyM_ok nmM lM_166 rfl rfl rfl rfl rfl ?_
                  refine v_iconst C dM_lookAt_141 ?_
                  exact v_iret C hRt hLk dM_lookAt_142 ⟨m_scf_p (m_scf_of hs1_) _, Or.inr ⟨gt_c, Or.inr ⟨hall, Or.inl ⟨fun h9 => by first | exact g1_c h9.1 | (have h91 := h9.2.1; have h92 := h9.2.2; omega), rfl, rfl⟩⟩⟩⟩
        · have hs1_ := m_scr_tr hs g1_s
          refine v_if_eq (tgt := 136) C dM_lookAt_109 (by decide) (by omega) (fun hc38 => ?_) (fun hc38 => ?_)
          · refine v_aload_n C dM_lookAt_136 rfl rfl ?_
            refine v_iload_n C dM_lookAt_137 rfl rfl ?_
            refine v_putI (k := 0) (q := 23) C dM_lookAt_138 (by show (0 : Nat) < 18; decide) rfl rfl (by decide) rfl inM tyM_ok nmM lM_166 rfl rfl rfl rfl rfl ?_
            refine v_iconst C dM_lookAt_141 ?_
            exact v_iret C hRt hLk dM_lookAt_142 ⟨m_scf_p (m_scf_of hs1_) _, Or.inr ⟨gt_c, Or.inr ⟨hall, Or.inl ⟨fun h9 => by first | exact g1_c h9.1 | (have h91 := h9.2.1; have h92 := h9.2.2; omega), rfl, rfl⟩⟩⟩⟩
          · exfalso; omega
      · exfalso; omega
    | succ m ih =>
      intro k S hk hs hall ha0 ha1 hla
      have hmn : (p_many (σ.2 7) (σ.1 0 7) x : Int) = p_tv (σ.2 7) (σ.1 0 7) x := by unfold p_many; omega
      have hrr := p_rn_r (σ.2 7) (σ.1 0 7) (p_at (σ.2 7) (σ.1 0 7) x k)
      have hpr := p_rpv_r (σ.2 7) (σ.1 0 7) (p_at (σ.2 7) (σ.1 0 7) x k)
      have hel := @p_eol_le (σ.2 7) (σ.1 0 7) (p_at (σ.2 7) (σ.1 0 7) x k)
      refine v_iload C dM_lookAt_35 rfl ?_
      refine v_iload_n C dM_lookAt_37 rfl rfl ?_
      refine v_icmp_ge (tgt := 102) C dM_lookAt_38 (by decide) (by omega) (by omega) (fun hc39 => ?_) (fun hc39 => ?_)
      · exfalso; omega
      · refine v_aload_n C dM_lookAt_41 rfl rfl ?_
        refine v_iload_n C dM_lookAt_42 rfl rfl ?_
        have hz40 : 0 ≤ S.1 0 7 ∧ S.1 0 7 ≤ 12000 := by rw [m_scr_z hs]; exact hz
        have hb41 : ∀ i, -128 ≤ S.2 7 i ∧ S.2 7 i ≤ 127 := fun i => by rw [m_scr_a hs]; exact h7 i
        refine v_cVI (k := 0) (n := 1) C (mE_ok _) trivial hR (kM_isRow _ xCl D cA ad hJ S ((p_at (σ.2 7) (σ.1 0 7) x k)) (by omega) hz40 hb41) dM_lookAt_43 (by show (0 : Nat) < 18; decide) rfl rfl gM_172 (by decide +kernel) (by decide) (by decide) rfl (Nat.le_of_ble_eq_true rfl) rfl ⟨rfl, rfl⟩ (fun r8 τ8 hp8 => ?_)
        simp only [hs.1, m_scr_z hs] at hp8
        obtain ⟨g8_s, g8_20, ⟨g8_c, rfl, g8_26, g8_w⟩ | ⟨g8_c, rfl⟩⟩ := hp8
        · have hs8_ := m_scr_tr hs g8_s
          have g8_27 := p_rp_v g8_w
          have g8_r1 := p_rn_r (σ.2 7) (σ.1 0 7) ((p_at (σ.2 7) (σ.1 0 7) x k))
          have g8_r2 := p_rpv_r (σ.2 7) (σ.1 0 7) ((p_at (σ.2 7) (σ.1 0 7) x k))
          have g8_l := @p_eol_le (σ.2 7) (σ.1 0 7) ((p_at (σ.2 7) (σ.1 0 7) x k))
          refine v_if_eq (tgt := 76) C dM_lookAt_46 (by decide) (by omega) (fun hc42 => ?_) (fun hc42 => ?_)
          · exfalso; omega
          · refine v_aload_n C dM_lookAt_49 rfl rfl ?_
            refine v_getI (k := 0) (q := 26) (v := p_rn (σ.2 7) (σ.1 0 7) ((p_at (σ.2 7) (σ.1 0 7) x k))) C dM_lookAt_50 (by show (0 : Nat) < 18; decide) rfl rfl (by decide) rfl inM lM_113 rfl g8_26 ?_
            refine v_cSI (n := 1) C (mE_ok _) trivial hR (kM_isObject2 _ xCl D cA ad hJ τ8 (p_rn (σ.2 7) (σ.1 0 7) ((p_at (σ.2 7) (σ.1 0 7) x k))) (by omega)) dM_lookAt_53 gM_67 (by decide +kernel) (by decide) (by decide) rfl (Nat.le_of_ble_eq_true rfl) rfl ⟨rfl, rfl⟩ (fun r9 τ9 hp9 => ?_)
            obtain ⟨go9, rfl, ge9⟩ | ⟨go9, rfl, ge9⟩ := hp9
            · subst τ9
              refine v_if_eq (tgt := 76) C dM_lookAt_56 (by decide) (by omega) (fun hc43 => ?_) (fun hc43 => ?_)
              · exfalso; omega
              · refine v_aload_n C dM_lookAt_59 rfl rfl ?_
                refine v_getI (k := 0) (q := 26) (v := p_rn (σ.2 7) (σ.1 0 7) ((p_at (σ.2 7) (σ.1 0 7) x k))) C dM_lookAt_60 (by show (0 : Nat) < 18; decide) rfl rfl (by decide) rfl inM lM_113 rfl g8_26 ?_
                refine v_iload C dM_lookAt_63 rfl ?_
                refine v_icmp_le (tgt := 76) C dM_lookAt_65 (by decide) (by omega) (by omega) (fun hc44 => ?_) (fun hc44 => ?_)
                · refine v_aload_n C dM_lookAt_76 rfl rfl ?_
                  refine v_iload_n C dM_lookAt_77 rfl rfl ?_
                  refine v_putI (k := 0) (q := 23) C dM_lookAt_78 (by show (0 : Nat) < 18; decide) rfl rfl (by decide) rfl inM tyM_ok nmM lM_166 rfl rfl rfl rfl rfl ?_
                  refine v_iconst C dM_lookAt_81 ?_
                  exact v_iret C hRt hLk dM_lookAt_82 ⟨m_scf_p (m_scf_of hs8_) _, Or.inr ⟨gt_c, Or.inl ⟨k, by omega, hall, fun h9 => by first | exact g8_c h9.1 | (have h91 := h9.2.1; have h92 := h9.2.2.1; have h93 := h9.2.2.2; omega), rfl, rfl⟩⟩⟩
                · refine v_aload_n C dM_lookAt_68 rfl rfl ?_
                  refine v_getI (k := 0) (q := 27) (v := p_rpv (σ.2 7) (σ.1 0 7) ((p_at (σ.2 7) (σ.1 0 7) x k))) C dM_lookAt_69 (by show (0 : Nat) < 18; decide) rfl rfl (by decide) rfl inM lM_163 rfl g8_27 ?_
                  refine v_iload_n C dM_lookAt_72 rfl rfl ?_
                  refine v_icmp_lt (tgt := 83) C dM_lookAt_73 (by decide) (by omega) (by omega) (fun hc45 => ?_) (fun hc45 => ?_)
                  · refine v_aload_n C dM_lookAt_83 rfl rfl ?_
                    refine v_getI (k := 0) (q := 26) (v := p_rn (σ.2 7) (σ.1 0 7) ((p_at (σ.2 7) (σ.1 0 7) x k))) C dM_lookAt_84 (by show (0 : Nat) < 18; decide) rfl rfl (by decide) rfl inM lM_113 rfl g8_26 ?_
                    refine v_istore C dM_lookAt_87 (by decide) ?_
                    refine v_aload_n C dM_lookAt_89 rfl rfl ?_
                    refine v_getI (k := 0) (q := 20) (v := p_eol (σ.2 7) (σ.1 0 7) ((p_at (σ.2 7) (σ.1 0 7) x k))) C dM_lookAt_90 (by show (0 : Nat) < 18; decide) rfl rfl (by decide) rfl inM lM_144 rfl g8_20 ?_
                    refine v_iconst C dM_lookAt_93 ?_
                    refine v_iadd C dM_lookAt_94 ?_
                    refine v_istore_n C dM_lookAt_95 rfl (by decide) ?_
                    refine v_iinc C dM_lookAt_96 rfl (by decide) ?_
                    refine v_goto (tgt := 35) C dM_lookAt_99 (by decide) ?_
                    exact v_less (by exact ⟨rfl, rfl, rfl, rfl, rfl, rfl, trivial⟩) (ih (k + 1) τ8 (by omega) hs8_ (fun i hi => (Nat.lt_succ_iff_lt_or_eq.mp hi).elim (fun h => hall i h) (fun h => by rw [h]; exact ⟨g8_c, by omega, by omega, by omega⟩)) (by rw [p_at_s]; omega) (by rw [p_at_s]; have := g8_c.1; omega) (by show 0 ≤ p_rn (σ.2 7) (σ.1 0 7) (p_at (σ.2 7) (σ.1 0 7) x k) ∧ p_rn (σ.2 7) (σ.1 0 7) (p_at (σ.2 7) (σ.1 0 7) x k) ≤ 40; omega))
                  · refine v_aload_n C dM_lookAt_76 rfl rfl ?_
                    refine v_iload_n C dM_lookAt_77 rfl rfl ?_
                    refine v_putI (k := 0) (q := 23) C dM_lookAt_78 (by show (0 : Nat) < 18; decide) rfl rfl (by decide) rfl inM tyM_ok nmM lM_166 rfl rfl rfl rfl rfl ?_
                    refine v_iconst C dM_lookAt_81 ?_
                    exact v_iret C hRt hLk dM_lookAt_82 ⟨m_scf_p (m_scf_of hs8_) _, Or.inr ⟨gt_c, Or.inl ⟨k, by omega, hall, fun h9 => by first | exact g8_c h9.1 | (have h91 := h9.2.1; have h92 := h9.2.2.1; have h93 := h9.2.2.2; omega), rfl, rfl⟩⟩⟩
            · subst τ9
              refine v_if_eq (tgt := 76) C dM_lookAt_56 (by decide) (by omega) (fun hc46 => ?_) (fun hc46 => ?_)
              · refine v_aload_n C dM_lookAt_76 rfl rfl ?_
                refine v_iload_n C dM_lookAt_77 rfl rfl ?_
                refine v_putI (k := 0) (q := 23) C dM_lookAt_78 (by show (0 : Nat) < 18; decide) rfl rfl (by decide) rfl inM tyM_ok nmM lM_166 rfl rfl rfl rfl rfl ?_
                refine v_iconst C dM_lookAt_81 ?_
                exact v_iret C hRt hLk dM_lookAt_82 ⟨m_scf_p (m_scf_of hs8_) _, Or.inr ⟨gt_c, Or.inl ⟨k, by omega, hall, fun h9 => by first | exact g8_c h9.1 | (have h91 := h9.2.1; have h92 := h9.2.2.1; have h93 := h9.2.2.2; omega), rfl, rfl⟩⟩⟩
              · exfalso; omega
        · have hs8_ := m_scr_tr hs g8_s
          refine v_if_eq (tgt := 76) C dM_lookAt_46 (by decide) (by omega) (fun hc47 => ?_) (fun hc47 => ?_)
          · refine v_aload_n C dM_lookAt_76 rfl rfl ?_
            refine v_iload_n C dM_lookAt_77 rfl rfl ?_
            refine v_putI (k := 0) (q := 23) C dM_lookAt_78 (by show (0 : Nat) < 18; decide) rfl rfl (by decide) rfl inM tyM_ok nmM lM_166 rfl rfl rfl rfl rfl ?_
            refine v_iconst C dM_lookAt_81 ?_
            exact v_iret C hRt hLk dM_lookAt_82 ⟨m_scf_p (m_scf_of hs8_) _, Or.inr ⟨gt_c, Or.inl ⟨k, by omega, hall, fun h9 => by first | exact g8_c h9.1 | (have h91 := h9.2.1; have h92 := h9.2.2.1; have h93 := h9.2.2.2; omega), rfl, rfl⟩⟩⟩
          · exfalso; omega
  refine v_aload_n C dM_lookAt_0 rfl rfl ?_
  refine v_iload_n C dM_lookAt_1 rfl rfl ?_
  refine v_bipush C dM_lookAt_2 (by decide +kernel) ?_
  refine v_cVI (k := 0) (n := 2) C (mE_ok _) trivial hR (kM_tells _ xCl D cA ad hJ σ (x) (120) (by omega) (by omega) hz h7) dM_lookAt_4 (by show (0 : Nat) < 18; decide) rfl rfl gM_169 (by decide +kernel) (by decide) (by decide) rfl (Nat.le_of_ble_eq_true rfl) rfl ⟨rfl, rfl⟩ (fun r10 τ10 hp10 => ?_)
  obtain ⟨g10_s, g10_x, g10_y, ⟨g10_c, rfl, g10_20, g10_22⟩ | ⟨g10_c, rfl⟩⟩ := hp10
  · have hs10_ := g10_s
    have g10_e := g10_c.1
    have g10_l := @p_eol_le (σ.2 7) (σ.1 0 7) (x)
    have g10_v := p_num_v (σ.2 7) (p_eol (σ.2 7) (σ.1 0 7) (x)) (x + 2)
    change 0 ≤ p_tv (σ.2 7) (σ.1 0 7) (x) ∧ p_tv (σ.2 7) (σ.1 0 7) (x) ≤ 99999 at g10_v
    refine v_if_ne (tgt := 17) C dM_lookAt_7 (by decide) (by omega) (fun hc48 => ?_) (fun hc48 => ?_)
    · refine v_aload_n C dM_lookAt_17 rfl rfl ?_
      refine v_getI (k := 0) (q := 22) (v := p_tv (σ.2 7) (σ.1 0 7) (x)) C dM_lookAt_18 (by show (0 : Nat) < 18; decide) rfl rfl (by decide) rfl inM lM_147 rfl g10_22 ?_
      refine v_istore_n C dM_lookAt_21 rfl (by decide) ?_
      refine v_aload_n C dM_lookAt_22 rfl rfl ?_
      refine v_getI (k := 0) (q := 20) (v := p_eol (σ.2 7) (σ.1 0 7) (x)) C dM_lookAt_23 (by show (0 : Nat) < 18; decide) rfl rfl (by decide) rfl inM lM_144 rfl g10_20 ?_
      refine v_iconst C dM_lookAt_26 ?_
      refine v_iadd C dM_lookAt_27 ?_
      refine v_istore_n C dM_lookAt_28 rfl (by decide) ?_
      refine v_iconst C dM_lookAt_29 ?_
      refine v_istore C dM_lookAt_30 (by decide) ?_
      refine v_iconst C dM_lookAt_32 ?_
      refine v_istore C dM_lookAt_33 (by decide) ?_
      exact L g10_c (p_many (σ.2 7) (σ.1 0 7) x) 0 τ10 (by omega) hs10_ (fun i hi => absurd hi (Nat.not_lt_zero i)) (by show 0 ≤ p_eol (σ.2 7) (σ.1 0 7) x + 1; omega) (by show p_eol (σ.2 7) (σ.1 0 7) x + 1 ≤ σ.1 0 7; have := g10_c.1; omega) (by show (0 : Int) ≤ 0 ∧ (0 : Int) ≤ 40; omega)
    · exfalso; omega
  · have hs10_ := g10_s
    refine v_if_ne (tgt := 17) C dM_lookAt_7 (by decide) (by omega) (fun hc49 => ?_) (fun hc49 => ?_)
    · exfalso; omega
    · refine v_aload_n C dM_lookAt_10 rfl rfl ?_
      refine v_iload_n C dM_lookAt_11 rfl rfl ?_
      refine v_putI (k := 0) (q := 23) C dM_lookAt_12 (by show (0 : Nat) < 18; decide) rfl rfl (by decide) rfl inM tyM_ok nmM lM_166 rfl rfl rfl rfl rfl ?_
      refine v_iconst C dM_lookAt_15 ?_
      exact v_iret C hRt hLk dM_lookAt_16 ⟨m_scf_p (m_scf_of hs10_) _, Or.inl ⟨g10_c, rfl, rfl⟩⟩
end
section
/-- where the last line begins -/
def lastF (f : Nat → Int) : Nat → Int → Int
  | 0, p => p
  | k + 1, p => if f (p - 1).toNat = 10 then p else lastF f k (p - 1)
def p_lst (f : Nat → Int) (z : Int) : Int := lastF f (z - 1).toNat (z - 1)
theorem lastF_le (f : Nat → Int) : ∀ (k : Nat) (p : Int), p - k ≤ lastF f k p ∧ lastF f k p ≤ p := by
  intro k
  induction k with
  | zero => intro p; show p - 0 ≤ p ∧ p ≤ p; omega
  | succ k ih =>
    intro p
    have h := ih (p - 1)
    unfold lastF
    split <;> omega
def p_first (f : Nat → Int) (z : Int) : Prop := p_eol f z 0 < z ∧ (0 < p_eol f z 0 ∧ f (0 : Int).toNat = 37) ∧ (0 + 1 < p_eol f z 0 ∧ f (0 + 1 : Int).toNat = 70) ∧ (0 + 2 < p_eol f z 0 ∧ f (0 + 2 : Int).toNat = 49) ∧ 0 + 3 = p_eol f z 0
def p_x0 (f : Nat → Int) (z : Int) : Int := p_tv f z (p_lst f z)
/-- the places of the x of the PARTS, from the last one on -/
def p_ch (f : Nat → Int) (z : Int) : Nat → Int
  | 0 => p_x0 f z
  | i + 1 => p_tv f z (p_pl f z (p_ch f z i))
def p_file (f : Nat → Int) (z r fl pts : Int) (xs : Nat → Int) : Prop :=
  (¬ p_first f z ∧ r = 0 ∧ fl = 0) ∨ (p_first f z ∧ ((f (z - 1).toNat ≠ 10 ∧ r = 0 ∧ fl = z) ∨ (f (z - 1).toNat = 10 ∧
  ((¬ (p_tell f z (p_lst f z) 101 ∧ p_x0 f z < p_lst f z) ∧ r = 0 ∧ fl = p_lst f z) ∨ ((p_tell f z (p_lst f z) 101 ∧ p_x0 f z < p_lst f z) ∧
  ∃ j : Nat, j ≤ 59 ∧ (∀ i, i < j → (∃ g, p_look f z (p_ch f z i) (i + 1) (p_ch f z (i + 1)) g) ∧ 0 < p_ch f z (i + 1)) ∧
  ((p_look f z (p_ch f z j) (j + 1) (-1) fl ∧ r = 0) ∨ ((∃ g, p_look f z (p_ch f z j) (j + 1) 0 g) ∧ r = 1 ∧ pts = j + 1 ∧ ∀ i, i ≤ j → xs i = p_ch f z i)))))))
theorem p_look_r {f : Nat → Int} {z x pt r fl : Int} (h : p_look f z x pt r fl) : r = -1 ∨ (r = p_tv f z (p_pl f z x) ∧ p_pok f z x pt) := by
  rcases h with ⟨_, h, _⟩ | ⟨_, h⟩
  · exact Or.inl h
  rcases h with ⟨_, _, _, _, h, _⟩ | ⟨_, h⟩
  · exact Or.inl h
  rcases h with ⟨_, h, _⟩ | ⟨hp, h⟩
  · exact Or.inl h
  rcases h with ⟨_, h, _⟩ | ⟨_, h⟩
  · exact Or.inl h
  rcases h with ⟨_, _, h, _⟩ | ⟨_, h⟩
  · exact Or.inl h
  rcases h with ⟨_, _, _, _, h, _⟩ | ⟨_, h⟩
  · exact Or.inl h
  · exact Or.inr ⟨h, hp⟩
/-- the state but for what is used while a file is read: also the PARTS and their places -/
def m_scx (σ σ1 : fS) : Prop := (∀ k i, k ≠ 15 → σ1.2 k i = σ.2 k i) ∧ ∀ a b, ¬ (a = 0 ∧ (b = 20 ∨ b = 21 ∨ b = 22 ∨ b = 23 ∨ b = 24 ∨ b = 26 ∨ b = 27)) → σ1.1 a b = σ.1 a b
theorem m_scx_of {σ σ1 : fS} (h : m_scf σ σ1) : m_scx σ σ1 := ⟨fun k i _ => by rw [h.1], fun a b hab => h.2 a b (fun q => hab ⟨q.1, by omega⟩)⟩
theorem m_scx_tr {σ τ υ : fS} (h1 : m_scx σ τ) (h2 : m_scx τ υ) : m_scx σ υ := ⟨fun k i h => (h2.1 k i h).trans (h1.1 k i h), fun a b h => (h2.2 a b h).trans (h1.2 a b h)⟩
theorem m_scx_24 {σ τ : fS} (h : m_scx σ τ) (v : Int) : m_scx σ (f_p1 τ 0 24 v) := by
  refine ⟨h.1, fun a b hab => ?_⟩
  rw [p1_1, if_neg (by
    intro h9
    exact hab ⟨h9.1, by omega⟩)]
  exact h.2 a b hab
theorem m_scx_15 {σ τ : fS} (h : m_scx σ τ) (q : Nat) (v : Int) : m_scx σ (f_p2 τ 15 q v) := by
  refine ⟨fun k i hk => ?_, h.2⟩
  rw [p2_2, if_neg (by intro h9; exact hk h9.1)]
  exact h.1 k i hk
theorem m_scx_f {σ σ1 : fS} (h : m_scx σ σ1) : σ1.2 7 = σ.2 7 := funext fun i => h.1 7 i (by decide)
theorem m_scx_z {σ σ1 : fS} (h : m_scx σ σ1) : σ1.1 0 7 = σ.1 0 7 := h.2 0 7 (by decide)
set_option maxRecDepth 100000 in
set_option maxHeartbeats 4000000 in
/-- isFile() -/
theorem kM_isFile (l : Launch) (xCl : List vw_C) (D : va_G) (cA : Nat → ClassId) (ad : Nat → Nat) (hJ : f_J (mG xCl D cA ad)) (σ : fS) (hz : 0 ≤ σ.1 0 7 ∧ σ.1 0 7 ≤ 12000) (h7 : ∀ i, -128 ≤ σ.2 7 i ∧ σ.2 7 i ≤ 127) : f_M l (mG xCl D cA ad) mE yM_isFile (Cond.code yM_isFile cM_isFile 4 (some .boolean) :: A9) 4 σ [.ref (ad 0)] (f_QI (fun r σ1 => m_scx σ σ1 ∧ p_file (σ.2 7) (σ.1 0 7) r (σ1.1 0 23) (σ1.1 0 24) (σ1.2 15)) (mG xCl D cA ad)) := by
  refine f_enter (by decide +kernel) hJ rfl (Nat.le_of_ble_eq_true rfl) ?_
  intro z hzl hR C hRt hLk hEz
  subst hzl
  have hll := lastF_le (σ.2 7) (σ.1 0 7 - 1).toNat (σ.1 0 7 - 1)
  change σ.1 0 7 - 1 - ((σ.1 0 7 - 1).toNat : Int) ≤ p_lst (σ.2 7) (σ.1 0 7) ∧ p_lst (σ.2 7) (σ.1 0 7) ≤ σ.1 0 7 - 1 at hll
  have L : p_first (σ.2 7) (σ.1 0 7) → σ.2 7 (σ.1 0 7 - 1).toNat = 10 → (p_tell (σ.2 7) (σ.1 0 7) (p_lst (σ.2 7) (σ.1 0 7)) 101 ∧ p_x0 (σ.2 7) (σ.1 0 7) < p_lst (σ.2 7) (σ.1 0 7)) → ∀ (n i : Nat) (S : fS), (p_ch (σ.2 7) (σ.1 0 7) i).toNat < n → 0 ≤ p_ch (σ.2 7) (σ.1 0 7) i → p_ch (σ.2 7) (σ.1 0 7) i ≤ 11999 → i ≤ 59 → m_scx σ S → S.1 0 24 = (i : Int) → (∀ t, t < i → S.2 15 t = p_ch (σ.2 7) (σ.1 0 7) t) → (∀ t, t < i → (∃ g, p_look (σ.2 7) (σ.1 0 7) (p_ch (σ.2 7) (σ.1 0 7) t) (t + 1) (p_ch (σ.2 7) (σ.1 0 7) (t + 1)) g) ∧ 0 < p_ch (σ.2 7) (σ.1 0 7) (t + 1)) → fv z (mG xCl D cA ad) 4 (f_R z (mG xCl D cA ad) (f_QI (fun r σ1 => m_scx σ σ1 ∧ p_file (σ.2 7) (σ.1 0 7) r (σ1.1 0 23) (σ1.1 0 24) (σ1.2 15)) (mG xCl D cA ad))) 0 0 S 139 [some (.ref (ad 0)), some (.int (fI (p_lst (σ.2 7) (σ.1 0 7)))), some (.int (fI (p_ch (σ.2 7) (σ.1 0 7) i))), some (.int (fI 1))] [] := by
    intro hF1 hF2 hF3 n
    induction n with
    | zero => intro i S h; exact absurd h (Nat.not_lt_zero _)
    | succ n ih =>
      intro i S hn hc0 hc1 hi hS hS24 hxs hlk
      refine v_iload_n C dM_isFile_139 rfl rfl ?_
      refine v_if_eq (tgt := 189) C dM_isFile_140 (by decide) (by omega) (fun hc1 => ?_) (fun hc1 => ?_)
      · exfalso; omega
      · refine v_aload_n C dM_isFile_143 rfl rfl ?_
        refine v_getR (k := 0) (q := 25) C dM_isFile_144 (by show (0 : Nat) < 18; decide) rfl rfl (by decide) rfl inM lM_54 rfl ?_
        refine v_aload_n C dM_isFile_147 rfl rfl ?_
        refine v_getI (k := 0) (q := 24) (v := (i : Int)) C dM_isFile_148 (by show (0 : Nat) < 18; decide) rfl rfl (by decide) rfl inM lM_175 rfl hS24 ?_
        refine v_iload_n C dM_isFile_151 rfl rfl ?_
        refine v_iast (k := 15) C dM_isFile_152 (by show (15 : Nat) < 18; decide) rfl rfl (by omega) (by decide) ?_
        refine v_aload_n C dM_isFile_153 rfl rfl ?_
        refine v_dup C dM_isFile_154 rfl ?_
        refine v_getI (k := 0) (q := 24) (v := (i : Int)) C dM_isFile_155 (by show (0 : Nat) < 18; decide) rfl rfl (by decide) rfl inM lM_175 rfl hS24 ?_
        refine v_iconst C dM_isFile_158 ?_
        refine v_iadd C dM_isFile_159 ?_
        refine v_putI (k := 0) (q := 24) C dM_isFile_160 (by show (0 : Nat) < 18; decide) rfl rfl (by decide) rfl inM tyM_ok nmM lM_175 rfl rfl rfl rfl rfl ?_
        obtain ⟨υ, hυ⟩ : ∃ s, s = f_p1 (f_p2 S 15 ((i : Int)).toNat (p_ch (σ.2 7) (σ.1 0 7) i)) 0 24 ((i : Int) + 1) := ⟨_, rfl⟩
        refine v_st hυ.symm ?_
        have hυx : m_scx σ υ := by rw [hυ]; exact m_scx_24 (m_scx_15 hS _ _) _
        have hυ24 : υ.1 0 24 = (i : Int) + 1 := by rw [hυ]; rfl
        have hυ15 : ∀ t, t ≤ i → υ.2 15 t = p_ch (σ.2 7) (σ.1 0 7) t := by
          intro t ht
          rw [hυ, p1_2, p2_2]
          by_cases h9 : t = i
          · rw [if_pos (by omega), h9]
          · rw [if_neg (by omega)]; exact hxs t (by omega)
        refine v_aload_n C dM_isFile_163 rfl rfl ?_
        refine v_iload_n C dM_isFile_164 rfl rfl ?_
        refine v_cVI (k := 0) (n := 1) C (mE_ok _) trivial hR (kM_lookAt _ xCl D cA ad hJ υ ((p_ch (σ.2 7) (σ.1 0 7) i)) (by omega) (by rw [m_scx_z hυx]; exact hz) (by rw [hυ24]; omega) (fun i => by rw [m_scx_f hυx]; exact h7 i)) dM_isFile_165 (by show (0 : Nat) < 18; decide) rfl rfl gM_188 (by decide +kernel) (by decide) (by decide) rfl (Nat.le_of_ble_eq_true rfl) rfl ⟨rfl, rfl⟩ (fun r1 τ1 hp1 => ?_)
        obtain ⟨g1_s, g1_p⟩ := hp1
        rw [m_scx_f hυx, m_scx_z hυx, hυ24] at g1_p
        have g1_r := p_look_r g1_p
        have g1_x := m_scx_tr hυx (m_scx_of g1_s)
        have g1_24 : τ1.1 0 24 = (i : Int) + 1 := by rw [g1_s.2 0 24 (by decide)]; exact hυ24
        have g1_15 : τ1.2 15 = υ.2 15 := by rw [g1_s.1]
        · refine v_istore_n C dM_isFile_168 rfl (by decide) ?_
          have g1_b : -1 ≤ r1 ∧ r1 ≤ 99999 := by rcases g1_r with h | h; (· omega); (· have := p_num_v (σ.2 7) (p_eol (σ.2 7) (σ.1 0 7) (p_pl (σ.2 7) (σ.1 0 7) (p_ch (σ.2 7) (σ.1 0 7) i))) (p_pl (σ.2 7) (σ.1 0 7) (p_ch (σ.2 7) (σ.1 0 7) i) + 2); rw [h.1]; unfold p_tv; omega)
          refine v_iload_n C dM_isFile_169 rfl rfl ?_
          refine v_iconst C dM_isFile_170 ?_
          refine v_icmp_ne (tgt := 176) C dM_isFile_171 (by decide) (by omega) (by omega) (fun hc2 => ?_) (fun hc2 => ?_)
          · have g1_q := g1_r.resolve_left (by omega)
            have g1_v : r1 = p_ch (σ.2 7) (σ.1 0 7) (i + 1) := g1_q.1
            have g1_k := g1_q.2
            have g1_k1 := g1_k.2.1
            have g1_k2 := g1_k.2.2
            change p_ch (σ.2 7) (σ.1 0 7) (i + 1) < p_ch (σ.2 7) (σ.1 0 7) i at g1_k1
            change ¬ (0 < p_ch (σ.2 7) (σ.1 0 7) (i + 1) ∧ ((i : Int) + 1) = 60) at g1_k2
            refine v_iload_n C dM_isFile_176 rfl rfl ?_
            refine v_if_le (tgt := 184) C dM_isFile_177 (by decide) (by omega) (fun hc3 => ?_) (fun hc3 => ?_)
            · refine v_iconst C dM_isFile_184 ?_
              refine v_istore_n C dM_isFile_185 rfl (by decide) ?_
              refine v_goto (tgt := 139) C dM_isFile_186 (by decide) ?_
              refine v_iload_n C dM_isFile_139 rfl rfl ?_
              refine v_if_eq (tgt := 189) C dM_isFile_140 (by decide) (by omega) (fun hc4 => ?_) (fun hc4 => ?_)
              · refine v_iconst C dM_isFile_189 ?_
                exact v_zret C hRt hLk dM_isFile_190 (fN_bool (by omega)) ⟨g1_x, Or.inr ⟨hF1, Or.inr ⟨hF2, Or.inr ⟨hF3, i, hi, hlk, Or.inr ⟨⟨_, by rw [show (0 : Int) = r1 by omega]; exact g1_p⟩, rfl, g1_24, fun t ht => by rw [g1_15]; exact hυ15 t ht⟩⟩⟩⟩⟩
              · exfalso; omega
            · refine v_iconst C dM_isFile_180 ?_
              refine v_goto (tgt := 185) C dM_isFile_181 (by decide) ?_
              refine v_istore_n C dM_isFile_185 rfl (by decide) ?_
              refine v_goto (tgt := 139) C dM_isFile_186 (by decide) ?_
              exact v_lv (by rw [g1_v]; rfl) (ih (i + 1) τ1 (by rw [← g1_v]; omega) (by omega) (by omega) (by omega) g1_x (by rw [g1_24]; push_cast; rfl) (fun t ht => by rw [g1_15]; exact hυ15 t (by omega)) (fun t ht => (Nat.lt_succ_iff_lt_or_eq.mp ht).elim (fun h => hlk t h) (fun h => by rw [h]; exact ⟨⟨_, by rw [← g1_v]; exact g1_p⟩, by omega⟩)))
          · refine v_iconst C dM_isFile_174 ?_
            exact v_zret C hRt hLk dM_isFile_175 (fN_bool (by omega)) ⟨g1_x, Or.inr ⟨hF1, Or.inr ⟨hF2, Or.inr ⟨hF3, i, hi, hlk, Or.inl ⟨by rw [show (-1 : Int) = r1 by omega]; exact g1_p, rfl⟩⟩⟩⟩⟩
  have LL : p_first (σ.2 7) (σ.1 0 7) → σ.2 7 (σ.1 0 7 - 1).toNat = 10 → ∀ (k : Nat) (p : Int) (S : fS), p.toNat = k → 0 ≤ p → p ≤ σ.1 0 7 - 1 → lastF (σ.2 7) k p = p_lst (σ.2 7) (σ.1 0 7) → m_scr σ S → fv z (mG xCl D cA ad) 4 (f_R z (mG xCl D cA ad) (f_QI (fun r σ1 => m_scx σ σ1 ∧ p_file (σ.2 7) (σ.1 0 7) r (σ1.1 0 23) (σ1.1 0 24) (σ1.2 15)) (mG xCl D cA ad))) 0 0 S 80 [some (.ref (ad 0)), some (.int (fI p)), none, none] [] := by
    intro hF1 hF2 k
    induction k with
    | zero =>
      intro p S hk hp0 hp1 hE hs
      have hbp := h7 (p - 1).toNat
      have hE1 : p = p_lst (σ.2 7) (σ.1 0 7) := hE
      refine v_iload_n C dM_isFile_80 rfl rfl ?_
      refine v_if_le (tgt := 103) C dM_isFile_81 (by decide) (by omega) (fun hc5 => ?_) (fun hc5 => ?_)
      · have hpe : p = p_lst (σ.2 7) (σ.1 0 7) := by first | exact hE1 | exact hE2.elim (fun h => h.2) (fun h => absurd (by omega) h.1)
        subst hpe
        refine v_aload_n C dM_isFile_103 rfl rfl ?_
        refine v_iload_n C dM_isFile_104 rfl rfl ?_
        refine v_bipush C dM_isFile_105 (by decide +kernel) ?_
        have hz6 : 0 ≤ S.1 0 7 ∧ S.1 0 7 ≤ 12000 := by rw [m_scr_z hs]; exact hz
        have hb7 : ∀ i, -128 ≤ S.2 7 i ∧ S.2 7 i ≤ 127 := fun i => by rw [m_scr_a hs]; exact h7 i
        refine v_cVI (k := 0) (n := 2) C (mE_ok _) trivial hR (kM_tells _ xCl D cA ad hJ S ((p_lst (σ.2 7) (σ.1 0 7))) (101) (by omega) (by omega) hz6 hb7) dM_isFile_107 (by show (0 : Nat) < 18; decide) rfl rfl gM_169 (by decide +kernel) (by decide) (by decide) rfl (Nat.le_of_ble_eq_true rfl) rfl ⟨rfl, rfl⟩ (fun r2 τ2 hp2 => ?_)
        simp only [hs.1, m_scr_z hs] at hp2
        obtain ⟨g2_s, g2_x, g2_y, ⟨g2_c, rfl, g2_20, g2_22⟩ | ⟨g2_c, rfl⟩⟩ := hp2
        · have hs2_ := m_scr_tr hs g2_s
          have g2_e := g2_c.1
          have g2_l := @p_eol_le (σ.2 7) (σ.1 0 7) ((p_lst (σ.2 7) (σ.1 0 7)))
          have g2_v := p_num_v (σ.2 7) (p_eol (σ.2 7) (σ.1 0 7) ((p_lst (σ.2 7) (σ.1 0 7)))) ((p_lst (σ.2 7) (σ.1 0 7)) + 2)
          change 0 ≤ p_tv (σ.2 7) (σ.1 0 7) ((p_lst (σ.2 7) (σ.1 0 7))) ∧ p_tv (σ.2 7) (σ.1 0 7) ((p_lst (σ.2 7) (σ.1 0 7))) ≤ 99999 at g2_v
          refine v_if_eq (tgt := 121) C dM_isFile_110 (by decide) (by omega) (fun hc8 => ?_) (fun hc8 => ?_)
          · exfalso; omega
          · refine v_aload_n C dM_isFile_113 rfl rfl ?_
            refine v_getI (k := 0) (q := 22) (v := p_tv (σ.2 7) (σ.1 0 7) ((p_lst (σ.2 7) (σ.1 0 7)))) C dM_isFile_114 (by show (0 : Nat) < 18; decide) rfl rfl (by decide) rfl inM lM_147 rfl g2_22 ?_
            refine v_iload_n C dM_isFile_117 rfl rfl ?_
            refine v_icmp_lt (tgt := 127) C dM_isFile_118 (by decide) (by omega) (by omega) (fun hc9 => ?_) (fun hc9 => ?_)
            · refine v_aload_n C dM_isFile_127 rfl rfl ?_
              refine v_getI (k := 0) (q := 22) (v := p_tv (σ.2 7) (σ.1 0 7) ((p_lst (σ.2 7) (σ.1 0 7)))) C dM_isFile_128 (by show (0 : Nat) < 18; decide) rfl rfl (by decide) rfl inM lM_147 rfl g2_22 ?_
              refine v_istore_n C dM_isFile_131 rfl (by decide) ?_
              refine v_aload_n C dM_isFile_132 rfl rfl ?_
              refine v_iconst C dM_isFile_133 ?_
              refine v_putI (k := 0) (q := 24) C dM_isFile_134 (by show (0 : Nat) < 18; decide) rfl rfl (by decide) rfl inM tyM_ok nmM lM_175 rfl rfl rfl rfl rfl ?_
              refine v_iconst C dM_isFile_137 ?_
              refine v_istore_n C dM_isFile_138 rfl (by decide) ?_
              exact L hF1 hF2 ⟨g2_c, by unfold p_x0; omega⟩ ((p_x0 (σ.2 7) (σ.1 0 7)).toNat + 1) 0 _ (by show (p_x0 (σ.2 7) (σ.1 0 7)).toNat < _; omega) (by show 0 ≤ p_x0 (σ.2 7) (σ.1 0 7); unfold p_x0; omega) (by show p_x0 (σ.2 7) (σ.1 0 7) ≤ 11999; unfold p_x0; omega) (by omega) (m_scx_24 (m_scx_of (m_scf_of hs2_)) 0) rfl (fun t ht => absurd ht (Nat.not_lt_zero t)) (fun t ht => absurd ht (Nat.not_lt_zero t))
            · refine v_aload_n C dM_isFile_121 rfl rfl ?_
              refine v_iload_n C dM_isFile_122 rfl rfl ?_
              refine v_cVI (k := 0) (n := 1) C (mE_ok _) trivial hR (kM_wrong _ xCl D cA ad hJ τ2 ((p_lst (σ.2 7) (σ.1 0 7)))) dM_isFile_123 (by show (0 : Nat) < 18; decide) rfl rfl gM_185 (by decide +kernel) (by decide) (by decide) rfl (Nat.le_of_ble_eq_true rfl) rfl ⟨rfl, rfl⟩ (fun r3 τ3 hp3 => ?_)
              obtain ⟨rfl, hw3⟩ := hp3
              subst τ3
              · exact v_zret C hRt hLk dM_isFile_126 (fN_bool (by omega)) ⟨m_scx_of (m_scf_p (m_scf_of hs2_) _), Or.inr ⟨hF1, Or.inr ⟨hF2, Or.inl ⟨fun h9 => by first | exact g2_c h9.1 | (have h91 := h9.2; unfold p_x0 at h91; omega), rfl, rfl⟩⟩⟩⟩
        · have hs2_ := m_scr_tr hs g2_s
          refine v_if_eq (tgt := 121) C dM_isFile_110 (by decide) (by omega) (fun hc10 => ?_) (fun hc10 => ?_)
          · refine v_aload_n C dM_isFile_121 rfl rfl ?_
            refine v_iload_n C dM_isFile_122 rfl rfl ?_
            refine v_cVI (k := 0) (n := 1) C (mE_ok _) trivial hR (kM_wrong _ xCl D cA ad hJ τ2 ((p_lst (σ.2 7) (σ.1 0 7)))) dM_isFile_123 (by show (0 : Nat) < 18; decide) rfl rfl gM_185 (by decide +kernel) (by decide) (by decide) rfl (Nat.le_of_ble_eq_true rfl) rfl ⟨rfl, rfl⟩ (fun r4 τ4 hp4 => ?_)
            obtain ⟨rfl, hw4⟩ := hp4
            subst τ4
            · exact v_zret C hRt hLk dM_isFile_126 (fN_bool (by omega)) ⟨m_scx_of (m_scf_p (m_scf_of hs2_) _), Or.inr ⟨hF1, Or.inr ⟨hF2, Or.inl ⟨fun h9 => by first | exact g2_c h9.1 | (have h91 := h9.2; unfold p_x0 at h91; omega), rfl, rfl⟩⟩⟩⟩
          · exfalso; omega
      · exfalso; omega
    | succ k ih =>
      intro p S hk hp0 hp1 hE hs
      have hbp := h7 (p - 1).toNat
      unfold lastF at hE
      have hE2 : (σ.2 7 (p - 1).toNat = 10 ∧ p = p_lst (σ.2 7) (σ.1 0 7)) ∨ (¬ σ.2 7 (p - 1).toNat = 10 ∧ lastF (σ.2 7) k (p - 1) = p_lst (σ.2 7) (σ.1 0 7)) := by
        by_cases h9 : σ.2 7 (p - 1).toNat = 10
        · rw [if_pos h9] at hE; exact Or.inl ⟨h9, hE⟩
        · rw [if_neg h9] at hE; exact Or.inr ⟨h9, hE⟩
      refine v_iload_n C dM_isFile_80 rfl rfl ?_
      refine v_if_le (tgt := 103) C dM_isFile_81 (by decide) (by omega) (fun hc11 => ?_) (fun hc11 => ?_)
      · exfalso; omega
      · refine v_aload_n C dM_isFile_84 rfl rfl ?_
        refine v_getR (k := 0) (q := 8) C dM_isFile_85 (by show (0 : Nat) < 18; decide) rfl rfl (by decide) rfl inM lM_30 rfl ?_
        refine v_iload_n C dM_isFile_88 rfl rfl ?_
        refine v_iconst C dM_isFile_89 ?_
        refine v_isub C dM_isFile_90 ?_
        refine v_bald (k := 7) (v := σ.2 7 ((p - 1)).toNat) C dM_isFile_91 (by show (7 : Nat) < 18; decide) rfl rfl (by omega) (by decide) (m_scr_a hs _ _) ?_
        refine v_bipush C dM_isFile_92 (by decide +kernel) ?_
        refine v_icmp_eq (tgt := 103) C dM_isFile_94 (by decide) (by omega) (by omega) (fun hc12 => ?_) (fun hc12 => ?_)
        · have hpe : p = p_lst (σ.2 7) (σ.1 0 7) := by first | exact hE1 | exact hE2.elim (fun h => h.2) (fun h => absurd (by omega) h.1)
          subst hpe
          refine v_aload_n C dM_isFile_103 rfl rfl ?_
          refine v_iload_n C dM_isFile_104 rfl rfl ?_
          refine v_bipush C dM_isFile_105 (by decide +kernel) ?_
          have hz13 : 0 ≤ S.1 0 7 ∧ S.1 0 7 ≤ 12000 := by rw [m_scr_z hs]; exact hz
          have hb14 : ∀ i, -128 ≤ S.2 7 i ∧ S.2 7 i ≤ 127 := fun i => by rw [m_scr_a hs]; exact h7 i
          refine v_cVI (k := 0) (n := 2) C (mE_ok _) trivial hR (kM_tells _ xCl D cA ad hJ S ((p_lst (σ.2 7) (σ.1 0 7))) (101) (by omega) (by omega) hz13 hb14) dM_isFile_107 (by show (0 : Nat) < 18; decide) rfl rfl gM_169 (by decide +kernel) (by decide) (by decide) rfl (Nat.le_of_ble_eq_true rfl) rfl ⟨rfl, rfl⟩ (fun r5 τ5 hp5 => ?_)
          simp only [hs.1, m_scr_z hs] at hp5
          obtain ⟨g5_s, g5_x, g5_y, ⟨g5_c, rfl, g5_20, g5_22⟩ | ⟨g5_c, rfl⟩⟩ := hp5
          · have hs5_ := m_scr_tr hs g5_s
            have g5_e := g5_c.1
            have g5_l := @p_eol_le (σ.2 7) (σ.1 0 7) ((p_lst (σ.2 7) (σ.1 0 7)))
            have g5_v := p_num_v (σ.2 7) (p_eol (σ.2 7) (σ.1 0 7) ((p_lst (σ.2 7) (σ.1 0 7)))) ((p_lst (σ.2 7) (σ.1 0 7)) + 2)
            change 0 ≤ p_tv (σ.2 7) (σ.1 0 7) ((p_lst (σ.2 7) (σ.1 0 7))) ∧ p_tv (σ.2 7) (σ.1 0 7) ((p_lst (σ.2 7) (σ.1 0 7))) ≤ 99999 at g5_v
            refine v_if_eq (tgt := 121) C dM_isFile_110 (by decide) (by omega) (fun hc15 => ?_) (fun hc15 => ?_)
            · exfalso; omega
            · refine v_aload_n C dM_isFile_113 rfl rfl ?_
              refine v_getI (k := 0) (q := 22) (v := p_tv (σ.2 7) (σ.1 0 7) ((p_lst (σ.2 7) (σ.1 0 7)))) C dM_isFile_114 (by show (0 : Nat) < 18; decide) rfl rfl (by decide) rfl inM lM_147 rfl g5_22 ?_
              refine v_iload_n C dM_isFile_117 rfl rfl ?_
              refine v_icmp_lt (tgt := 127) C dM_isFile_118 (by decide) (by omega) (by omega) (fun hc16 => ?_) (fun hc16 => ?_)
              · refine v_aload_n C dM_isFile_127 rfl rfl ?_
                refine v_getI (k := 0) (q := 22) (v := p_tv (σ.2 7) (σ.1 0 7) ((p_lst (σ.2 7) (σ.1 0 7)))) C dM_isFile_128 (by show (0 : Nat) < 18; decide) rfl rfl (by decide) rfl inM lM_147 rfl g5_22 ?_
                refine v_istore_n C dM_isFile_131 rfl (by decide) ?_
                refine v_aload_n C dM_isFile_132 rfl rfl ?_
                refine v_iconst C dM_isFile_133 ?_
                refine v_putI (k := 0) (q := 24) C dM_isFile_134 (by show (0 : Nat) < 18; decide) rfl rfl (by decide) rfl inM tyM_ok nmM lM_175 rfl rfl rfl rfl rfl ?_
                refine v_iconst C dM_isFile_137 ?_
                refine v_istore_n C dM_isFile_138 rfl (by decide) ?_
                exact L hF1 hF2 ⟨g5_c, by unfold p_x0; omega⟩ ((p_x0 (σ.2 7) (σ.1 0 7)).toNat + 1) 0 _ (by show (p_x0 (σ.2 7) (σ.1 0 7)).toNat < _; omega) (by show 0 ≤ p_x0 (σ.2 7) (σ.1 0 7); unfold p_x0; omega) (by show p_x0 (σ.2 7) (σ.1 0 7) ≤ 11999; unfold p_x0; omega) (by omega) (m_scx_24 (m_scx_of (m_scf_of hs5_)) 0) rfl (fun t ht => absurd ht (Nat.not_lt_zero t)) (fun t ht => absurd ht (Nat.not_lt_zero t))
              · refine v_aload_n C dM_isFile_121 rfl rfl ?_
                refine v_iload_n C dM_isFile_122 rfl rfl ?_
                refine v_cVI (k := 0) (n := 1) C (mE_ok _) trivial hR (kM_wrong _ xCl D cA ad hJ τ5 ((p_lst (σ.2 7) (σ.1 0 7)))) dM_isFile_123 (by show (0 : Nat) < 18; decide) rfl rfl gM_185 (by decide +kernel) (by decide) (by decide) rfl (Nat.le_of_ble_eq_true rfl) rfl ⟨rfl, rfl⟩ (fun r6 τ6 hp6 => ?_)
                obtain ⟨rfl, hw6⟩ := hp6
                subst τ6
                · exact v_zret C hRt hLk dM_isFile_126 (fN_bool (by omega)) ⟨m_scx_of (m_scf_p (m_scf_of hs5_) _), Or.inr ⟨hF1, Or.inr ⟨hF2, Or.inl ⟨fun h9 => by first | exact g5_c h9.1 | (have h91 := h9.2; unfold p_x0 at h91; omega), rfl, rfl⟩⟩⟩⟩
          · have hs5_ := m_scr_tr hs g5_s
            refine v_if_eq (tgt := 121) C dM_isFile_110 (by decide) (by omega) (fun hc17 => ?_) (fun hc17 => ?_)
            · refine v_aload_n C dM_isFile_121 rfl rfl ?_
              refine v_iload_n C dM_isFile_122 rfl rfl ?_
              refine v_cVI (k := 0) (n := 1) C (mE_ok _) trivial hR (kM_wrong _ xCl D cA ad hJ τ5 ((p_lst (σ.2 7) (σ.1 0 7)))) dM_isFile_123 (by show (0 : Nat) < 18; decide) rfl rfl gM_185 (by decide +kernel) (by decide) (by decide) rfl (Nat.le_of_ble_eq_true rfl) rfl ⟨rfl, rfl⟩ (fun r7 τ7 hp7 => ?_)
              obtain ⟨rfl, hw7⟩ := hp7
              subst τ7
              · exact v_zret C hRt hLk dM_isFile_126 (fN_bool (by omega)) ⟨m_scx_of (m_scf_p (m_scf_of hs5_) _), Or.inr ⟨hF1, Or.inr ⟨hF2, Or.inl ⟨fun h9 => by first | exact g5_c h9.1 | (have h91 := h9.2; unfold p_x0 at h91; omega), rfl, rfl⟩⟩⟩⟩
            · exfalso; omega
        · refine v_iinc C dM_isFile_97 rfl (by decide) ?_
          refine v_goto (tgt := 80) C dM_isFile_100 (by decide) ?_
          exact v_lv rfl (ih (p + (-1)) S (by omega) (by omega) (by omega) (by rw [show p + (-1) = p - 1 by omega]; exact hE2.elim (fun h => absurd h.1 (by omega)) (fun h => h.2)) hs)
  refine v_aload_n C dM_isFile_0 rfl rfl ?_
  refine v_iconst C dM_isFile_1 ?_
  refine v_cVI (k := 0) (n := 1) C (mE_ok _) trivial hR (kM_line2 _ xCl D cA ad hJ σ (0) (by omega) hz h7) dM_isFile_2 (by show (0 : Nat) < 18; decide) rfl rfl gM_150 (by decide +kernel) (by decide) (by decide) rfl (Nat.le_of_ble_eq_true rfl) rfl ⟨rfl, rfl⟩ (fun r8 τ8 hp8 => ?_)
  obtain ⟨g8_s, g8_21, g8_20, g8_22, g8_26, g8_27, ⟨g8_c, rfl⟩ | ⟨g8_c, rfl⟩⟩ := hp8
  · have hs8_ := g8_s
    have g8_l := @p_eol_le (σ.2 7) (σ.1 0 7) (0)
    refine v_if_eq (tgt := 42) C dM_isFile_5 (by decide) (by omega) (fun hc18 => ?_) (fun hc18 => ?_)
    · exfalso; omega
    · refine v_aload_n C dM_isFile_8 rfl rfl ?_
      refine v_bipush C dM_isFile_9 (by decide +kernel) ?_
      have hz19 : 0 ≤ τ8.1 0 7 ∧ τ8.1 0 7 ≤ 12000 := by rw [m_scr_z hs8_]; exact hz
      have hb20 : ∀ i, -128 ≤ τ8.2 7 i ∧ τ8.2 7 i ≤ 127 := fun i => by rw [m_scr_a hs8_]; exact h7 i
      refine v_cVI (k := 0) (n := 1) C (mE_ok _) trivial hR (kM_takes2 _ xCl D cA ad hJ τ8 (37) (by omega) (by omega) (by omega) (by omega) hb20) dM_isFile_11 (by show (0 : Nat) < 18; decide) rfl rfl gM_153 (by decide +kernel) (by decide) (by decide) rfl (Nat.le_of_ble_eq_true rfl) rfl ⟨rfl, rfl⟩ (fun r9 τ9 hp9 => ?_)
      simp only [hs8_.1, m_scr_z hs8_, g8_20, g8_21, g8_22, g8_26, g8_27] at hp9
      obtain ⟨g9_s, g9_20, g9_22, g9_26, g9_27, ⟨g9_c, rfl, g9_21⟩ | ⟨g9_c, rfl, g9_21⟩⟩ := hp9
      · have hs9_ := m_scr_tr hs8_ g9_s
        have g9_21n : τ9.1 0 21 = 0 + 1 := by omega
        refine v_if_eq (tgt := 42) C dM_isFile_14 (by decide) (by omega) (fun hc21 => ?_) (fun hc21 => ?_)
        · exfalso; omega
        · refine v_aload_n C dM_isFile_17 rfl rfl ?_
          refine v_bipush C dM_isFile_18 (by decide +kernel) ?_
          have hz22 : 0 ≤ τ9.1 0 7 ∧ τ9.1 0 7 ≤ 12000 := by rw [m_scr_z hs9_]; exact hz
          have hb23 : ∀ i, -128 ≤ τ9.2 7 i ∧ τ9.2 7 i ≤ 127 := fun i => by rw [m_scr_a hs9_]; exact h7 i
          refine v_cVI (k := 0) (n := 1) C (mE_ok _) trivial hR (kM_takes2 _ xCl D cA ad hJ τ9 (70) (by omega) (by omega) (by omega) (by omega) hb23) dM_isFile_20 (by show (0 : Nat) < 18; decide) rfl rfl gM_153 (by decide +kernel) (by decide) (by decide) rfl (Nat.le_of_ble_eq_true rfl) rfl ⟨rfl, rfl⟩ (fun r10 τ10 hp10 => ?_)
          simp only [hs9_.1, m_scr_z hs9_, g9_20, g9_21n, g9_22, g9_26, g9_27] at hp10
          obtain ⟨g10_s, g10_20, g10_22, g10_26, g10_27, ⟨g10_c, rfl, g10_21⟩ | ⟨g10_c, rfl, g10_21⟩⟩ := hp10
          · have hs10_ := m_scr_tr hs9_ g10_s
            have g10_21n : τ10.1 0 21 = 0 + 2 := by omega
            refine v_if_eq (tgt := 42) C dM_isFile_23 (by decide) (by omega) (fun hc24 => ?_) (fun hc24 => ?_)
            · exfalso; omega
            · refine v_aload_n C dM_isFile_26 rfl rfl ?_
              refine v_bipush C dM_isFile_27 (by decide +kernel) ?_
              have hz25 : 0 ≤ τ10.1 0 7 ∧ τ10.1 0 7 ≤ 12000 := by rw [m_scr_z hs10_]; exact hz
              have hb26 : ∀ i, -128 ≤ τ10.2 7 i ∧ τ10.2 7 i ≤ 127 := fun i => by rw [m_scr_a hs10_]; exact h7 i
              refine v_cVI (k := 0) (n := 1) C (mE_ok _) trivial hR (kM_takes2 _ xCl D cA ad hJ τ10 (49) (by omega) (by omega) (by omega) (by omega) hb26) dM_isFile_29 (by show (0 : Nat) < 18; decide) rfl rfl gM_153 (by decide +kernel) (by decide) (by decide) rfl (Nat.le_of_ble_eq_true rfl) rfl ⟨rfl, rfl⟩ (fun r11 τ11 hp11 => ?_)
              simp only [hs10_.1, m_scr_z hs10_, g10_20, g10_21n, g10_22, g10_26, g10_27] at hp11
              obtain ⟨g11_s, g11_20, g11_22, g11_26, g11_27, ⟨g11_c, rfl, g11_21⟩ | ⟨g11_c, rfl, g11_21⟩⟩ := hp11
              · have hs11_ := m_scr_tr hs10_ g11_s
                have g11_21n : τ11.1 0 21 = 0 + 3 := by omega
                refine v_if_eq (tgt := 42) C dM_isFile_32 (by decide) (by omega) (fun hc27 => ?_) (fun hc27 => ?_)
                · exfalso; omega
                · refine v_aload_n C dM_isFile_35 rfl rfl ?_
                  have hz28 : 0 ≤ τ11.1 0 7 ∧ τ11.1 0 7 ≤ 12000 := by rw [m_scr_z hs11_]; exact hz
                  have hb29 : ∀ i, -128 ≤ τ11.2 7 i ∧ τ11.2 7 i ≤ 127 := fun i => by rw [m_scr_a hs11_]; exact h7 i
                  refine v_cVI (k := 0) (n := 0) C (mE_ok _) trivial hR (kM_isOver2 _ xCl D cA ad hJ τ11 (by omega) (by omega)) dM_isFile_36 (by show (0 : Nat) < 18; decide) rfl rfl gM_160 (by decide +kernel) (by decide) (by decide) rfl (Nat.le_of_ble_eq_true rfl) rfl ⟨rfl, rfl⟩ (fun r12 τ12 hp12 => ?_)
                  simp only [hs11_.1, m_scr_z hs11_, g11_20, g11_21n, g11_22, g11_26, g11_27] at hp12
                  obtain ⟨g12_c, rfl, g12_e⟩ | ⟨g12_c, rfl, g12_e⟩ := hp12
                  · subst τ12
                    refine v_if_ne (tgt := 48) C dM_isFile_39 (by decide) (by omega) (fun hc30 => ?_) (fun hc30 => ?_)
                    · refine v_aload_n C dM_isFile_48 rfl rfl ?_
                      refine v_getR (k := 0) (q := 8) C dM_isFile_49 (by show (0 : Nat) < 18; decide) rfl rfl (by decide) rfl inM lM_30 rfl ?_
                      refine v_aload_n C dM_isFile_52 rfl rfl ?_
                      refine v_getI (k := 0) (q := 7) (v := σ.1 0 7) C dM_isFile_53 (by show (0 : Nat) < 18; decide) rfl rfl (by decide) rfl inM lM_116 rfl (hs11_.2 0 7 (by decide)) ?_
                      refine v_iconst C dM_isFile_56 ?_
                      refine v_isub C dM_isFile_57 ?_
                      have hb31 := h7 ((σ.1 0 7 - 1)).toNat
                      refine v_bald (k := 7) (v := σ.2 7 ((σ.1 0 7 - 1)).toNat) C dM_isFile_58 (by show (7 : Nat) < 18; decide) rfl rfl (by omega) (by decide) (m_scr_a hs11_ _ _) ?_
                      refine v_bipush C dM_isFile_59 (by decide +kernel) ?_
                      refine v_icmp_eq (tgt := 73) C dM_isFile_61 (by decide) (by omega) (by omega) (fun hc32 => ?_) (fun hc32 => ?_)
                      · refine v_aload_n C dM_isFile_73 rfl rfl ?_
                        refine v_getI (k := 0) (q := 7) (v := σ.1 0 7) C dM_isFile_74 (by show (0 : Nat) < 18; decide) rfl rfl (by decide) rfl inM lM_116 rfl (hs11_.2 0 7 (by decide)) ?_
                        refine v_iconst C dM_isFile_77 ?_
                        refine v_isub C dM_isFile_78 ?_
                        refine v_istore_n C dM_isFile_79 rfl (by decide) ?_
                        exact v_less (by exact ⟨rfl, rfl, trivial⟩) (LL ⟨g8_c, g9_c, g10_c, g11_c, g12_c⟩ (by omega) (σ.1 0 7 - 1).toNat (σ.1 0 7 - 1) τ11 rfl (by omega) (by omega) rfl hs11_)
                      · refine v_aload_n C dM_isFile_64 rfl rfl ?_
                        refine v_aload_n C dM_isFile_65 rfl rfl ?_
                        refine v_getI (k := 0) (q := 7) (v := σ.1 0 7) C dM_isFile_66 (by show (0 : Nat) < 18; decide) rfl rfl (by decide) rfl inM lM_116 rfl (hs11_.2 0 7 (by decide)) ?_
                        refine v_cVI (k := 0) (n := 1) C (mE_ok _) trivial hR (kM_wrong _ xCl D cA ad hJ τ11 (σ.1 0 7)) dM_isFile_69 (by show (0 : Nat) < 18; decide) rfl rfl gM_185 (by decide +kernel) (by decide) (by decide) rfl (Nat.le_of_ble_eq_true rfl) rfl ⟨rfl, rfl⟩ (fun r13 τ13 hp13 => ?_)
                        obtain ⟨rfl, hw13⟩ := hp13
                        subst τ13
                        · exact v_zret C hRt hLk dM_isFile_72 (fN_bool (by omega)) ⟨m_scx_of (m_scf_p (m_scf_of hs11_) _), Or.inr ⟨⟨g8_c, g9_c, g10_c, g11_c, g12_c⟩, Or.inl ⟨by omega, rfl, rfl⟩⟩⟩
                    · exfalso; omega
                  · subst τ12
                    refine v_if_ne (tgt := 48) C dM_isFile_39 (by decide) (by omega) (fun hc33 => ?_) (fun hc33 => ?_)
                    · exfalso; omega
                    · refine v_aload_n C dM_isFile_42 rfl rfl ?_
                      refine v_iconst C dM_isFile_43 ?_
                      refine v_cVI (k := 0) (n := 1) C (mE_ok _) trivial hR (kM_wrong _ xCl D cA ad hJ τ11 (0)) dM_isFile_44 (by show (0 : Nat) < 18; decide) rfl rfl gM_185 (by decide +kernel) (by decide) (by decide) rfl (Nat.le_of_ble_eq_true rfl) rfl ⟨rfl, rfl⟩ (fun r14 τ14 hp14 => ?_)
                      obtain ⟨rfl, hw14⟩ := hp14
                      subst τ14
                      · exact v_zret C hRt hLk dM_isFile_47 (fN_bool (by omega)) ⟨m_scx_of (m_scf_p (m_scf_of hs11_) _), Or.inl ⟨fun h9 => by first | exact g8_c h9.1 | exact g9_c h9.2.1 | exact g10_c h9.2.2.1 | exact g11_c h9.2.2.2.1 | exact g12_c h9.2.2.2.2, rfl, rfl⟩⟩
              · have hs11_ := m_scr_tr hs10_ g11_s
                refine v_if_eq (tgt := 42) C dM_isFile_32 (by decide) (by omega) (fun hc34 => ?_) (fun hc34 => ?_)
                · refine v_aload_n C dM_isFile_42 rfl rfl ?_
                  refine v_iconst C dM_isFile_43 ?_
                  refine v_cVI (k := 0) (n := 1) C (mE_ok _) trivial hR (kM_wrong _ xCl D cA ad hJ τ11 (0)) dM_isFile_44 (by show (0 : Nat) < 18; decide) rfl rfl gM_185 (by decide +kernel) (by decide) (by decide) rfl (Nat.le_of_ble_eq_true rfl) rfl ⟨rfl, rfl⟩ (fun r15 τ15 hp15 => ?_)
                  obtain ⟨rfl, hw15⟩ := hp15
                  subst τ15
                  · exact v_zret C hRt hLk dM_isFile_47 (fN_bool (by omega)) ⟨m_scx_of (m_scf_p (m_scf_of hs11_) _), Or.inl ⟨fun h9 => by first | exact g8_c h9.1 | exact g9_c h9.2.1 | exact g10_c h9.2.2.1 | exact g11_c h9.2.2.2.1 | exact nope h9.2.2.2.2, rfl, rfl⟩⟩
                · exfalso; omega
          · have hs10_ := m_scr_tr hs9_ g10_s
            refine v_if_eq (tgt := 42) C dM_isFile_23 (by decide) (by omega) (fun hc35 => ?_) (fun hc35 => ?_)
            · refine v_aload_n C dM_isFile_42 rfl rfl ?_
              refine v_iconst C dM_isFile_43 ?_
              refine v_cVI (k := 0) (n := 1) C (mE_ok _) trivial hR (kM_wrong _ xCl D cA ad hJ τ10 (0)) dM_isFile_44 (by show (0 : Nat) < 18; decide) rfl rfl gM_185 (by decide +kernel) (by decide) (by decide) rfl (Nat.le_of_ble_eq_true rfl) rfl ⟨rfl, rfl⟩ (fun r16 τ16 hp16 => ?_)
              obtain ⟨rfl, hw16⟩ := hp16
              subst τ16
              · exact v_zret C hRt hLk dM_isFile_47 (fN_bool (by omega)) ⟨m_scx_of (m_scf_p (m_scf_of hs10_) _), Or.inl ⟨fun h9 => by first | exact g8_c h9.1 | exact g9_c h9.2.1 | exact g10_c h9.2.2.1 | exact nope h9.2.2.2.1 | exact nope h9.2.2.2.2, rfl, rfl⟩⟩
            · exfalso; omega
      · have hs9_ := m_scr_tr hs8_ g9_s
        refine v_if_eq (tgt := 42) C dM_isFile_14 (by decide) (by omega) (fun hc36 => ?_) (fun hc36 => ?_)
        · refine v_aload_n C dM_isFile_42 rfl rfl ?_
          refine v_iconst C dM_isFile_43 ?_
          refine v_cVI (k := 0) (n := 1) C (mE_ok _) trivial hR (kM_wrong _ xCl D cA ad hJ τ9 (0)) dM_isFile_44 (by show (0 : Nat) < 18; decide) rfl rfl gM_185 (by decide +kernel) (by decide) (by decide) rfl (Nat.le_of_ble_eq_true rfl) rfl ⟨rfl, rfl⟩ (fun r17 τ17 hp17 => ?_)
          obtain ⟨rfl, hw17⟩ := hp17
          subst τ17
          · exact v_zret C hRt hLk dM_isFile_47 (fN_bool (by omega)) ⟨m_scx_of (m_scf_p (m_scf_of hs9_) _), Or.inl ⟨fun h9 => by first | exact g8_c h9.1 | exact g9_c h9.2.1 | exact nope h9.2.2.1 | exact nope h9.2.2.2.1 | exact nope h9.2.2.2.2, rfl, rfl⟩⟩
        · exfalso; omega
  · have hs8_ := g8_s
    have g8_l := @p_eol_le (σ.2 7) (σ.1 0 7) (0)
    refine v_if_eq (tgt := 42) C dM_isFile_5 (by decide) (by omega) (fun hc37 => ?_) (fun hc37 => ?_)
    · refine v_aload_n C dM_isFile_42 rfl rfl ?_
      refine v_iconst C dM_isFile_43 ?_
      refine v_cVI (k := 0) (n := 1) C (mE_ok _) trivial hR (kM_wrong _ xCl D cA ad hJ τ8 (0)) dM_isFile_44 (by show (0 : Nat) < 18; decide) rfl rfl gM_185 (by decide +kernel) (by decide) (by decide) rfl (Nat.le_of_ble_eq_true rfl) rfl ⟨rfl, rfl⟩ (fun r18 τ18 hp18 => ?_)
      obtain ⟨rfl, hw18⟩ := hp18
      subst τ18
      · exact v_zret C hRt hLk dM_isFile_47 (fN_bool (by omega)) ⟨m_scx_of (m_scf_p (m_scf_of hs8_) _), Or.inl ⟨fun h9 => by first | exact g8_c h9.1 | exact nope h9.2.1 | exact nope h9.2.2.1 | exact nope h9.2.2.2.1 | exact nope h9.2.2.2.2, rfl, rfl⟩⟩
    · exfalso; omega
end
section
/-- what told answers -/
def m_told (σ : fS) (w r : Int) : Prop := (w = 0 ∧ r = σ.1 0 7) ∨ (w = 1 ∧ r = σ.1 0 10) ∨ (w = 2 ∧ r = m_cnt (σ.2 1) 40) ∨ (w = 3 ∧ r = m_cnt (σ.2 3) 40) ∨ (w = 4 ∧ r = σ.1 0 9) ∨ (¬ (0 ≤ w ∧ w ≤ 4) ∧ r = -1)
/-- two records are alike, by the bytes -/
def m_alike (σ : fS) (a b : Int) : Prop := σ.2 12 a.toNat = σ.2 12 b.toNat ∧ ∀ t : Int, 0 ≤ t → t < σ.2 12 a.toNat → σ.2 7 (σ.2 11 a.toNat + t).toNat = σ.2 7 (σ.2 11 b.toNat + t).toNat
/-- the state but for differ's own rows -/
def m_dfr (σ σ1 : fS) : Prop := (∀ k i, k ≠ 16 → k ≠ 17 → σ1.2 k i = σ.2 k i) ∧ ∀ a b, ¬ (a = 0 ∧ (b = 0 ∨ b = 28 ∨ b = 29)) → σ1.1 a b = σ.1 a b
theorem m_dfr_rf (σ : fS) : m_dfr σ σ := ⟨fun _ _ _ _ => rfl, fun _ _ _ => rfl⟩
theorem m_dfr_p {σ τ : fS} (h : m_dfr σ τ) (q : Nat) (v : Int) (hq : q = 0 ∨ q = 28 ∨ q = 29) : m_dfr σ (f_p1 τ 0 q v) := by
  refine ⟨h.1, fun a b hab => ?_⟩
  rw [p1_1, if_neg (by
    intro h9
    exact hab ⟨h9.1, by rw [h9.2]; exact hq⟩)]
  exact h.2 a b hab
theorem m_dfr_a {σ τ : fS} (h : m_dfr σ τ) (k q : Nat) (v : Int) (hk : k = 16 ∨ k = 17) : m_dfr σ (f_p2 τ k q v) := by
  refine ⟨fun j i h1 h2 => ?_, h.2⟩
  rw [p2_2, if_neg (by intro h9; omega)]
  exact h.1 j i h1 h2
theorem m_cnt_le (f : Nat → Int) : ∀ k : Nat, 0 ≤ m_cnt f k ∧ m_cnt f k ≤ k := by
  intro k
  induction k with
  | zero => show (0 : Int) ≤ 0 ∧ (0 : Int) ≤ ((0 : Nat) : Int); omega
  | succ k ih =>
    unfold m_cnt
    split <;> omega
theorem cnt40 (f : Nat → Int) (n c : Int) (h1 : 1 ≤ n) (h2 : n ≤ 40) (hc : m_cnt f n.toNat = c) : c ≤ 40 := by
  have h := m_cnt_le f n.toNat
  omega
set_option maxRecDepth 100000 in
set_option maxHeartbeats 4000000 in
/-- told(what) -/
theorem kM_told (l : Launch) (xCl : List vw_C) (D : va_G) (cA : Nat → ClassId) (ad : Nat → Nat) (hJ : f_J (mG xCl D cA ad)) (σ : fS) (w : Int) (hw : -2147483648 ≤ w ∧ w ≤ 2147483647) (ha : σ.1 0 9 = 0 ∨ σ.1 0 9 = 1) (h1 : ∀ i, 0 ≤ σ.2 1 i ∧ σ.2 1 i ≤ 1) (h3 : ∀ i, 0 ≤ σ.2 3 i ∧ σ.2 3 i ≤ 1) : f_M l (mG xCl D cA ad) mE yM_told (Cond.code yM_told cM_told 4 (some .int) :: A9) 1 σ [.ref (ad 0), .int (fI w)] (f_QI (fun r σ1 => σ1 = f_p1 σ 0 0 0 ∧ m_told σ w r) (mG xCl D cA ad)) := by
  refine f_enter (by decide +kernel) hJ rfl (Nat.le_of_ble_eq_true rfl) ?_
  intro z hzl hR C hRt hLk hEz
  subst hzl
  have L : ∀ (k : Nat) (n c : Int), n + k = 41 → 1 ≤ n → c = m_cnt (σ.2 1) (n - 1).toNat → 0 ≤ c → c ≤ 40 → fv z (mG xCl D cA ad) 4 (f_R z (mG xCl D cA ad) (f_QI (fun r σ1 => σ1 = f_p1 σ 0 0 0 ∧ m_told σ w r) (mG xCl D cA ad))) 0 0 (f_p1 σ 0 0 0) 9 [some (.ref (ad 0)), some (.int (fI w)), some (.int (fI c)), some (.int (fI n))] [] := by
    intro k
    induction k with
    | zero =>
      intro n c hk hn hc hc0 hc1
      have hb := h1 n.toNat
      have hs := m_cnt_s (σ.2 1) n hn
      have hc9 : c = m_cnt (σ.2 1) 40 := by rw [hc, show (n - 1).toNat = 40 by omega]
      refine v_iload_n C dM_told_9 rfl rfl ?_
      refine v_bipush C dM_told_10 (by decide +kernel) ?_
      refine v_icmp_gt (tgt := 38) C dM_told_12 (by decide) (by omega) (by omega) (fun hc1 => ?_) (fun hc1 => ?_)
      · refine v_iload_n C dM_told_38 rfl rfl ?_
        refine v_if_ne (tgt := 49) C dM_told_39 (by decide) (by omega) (fun hc2 => ?_) (fun hc2 => ?_)
        · refine v_iload_n C dM_told_49 rfl rfl ?_
          refine v_iconst C dM_told_50 ?_
          refine v_icmp_ne (tgt := 61) C dM_told_51 (by decide) (by omega) (by omega) (fun hc3 => ?_) (fun hc3 => ?_)
          · refine v_iload_n C dM_told_61 rfl rfl ?_
            refine v_iconst C dM_told_62 ?_
            refine v_icmp_ne (tgt := 70) C dM_told_63 (by decide) (by omega) (by omega) (fun hc4 => ?_) (fun hc4 => ?_)
            · refine v_iload_n C dM_told_70 rfl rfl ?_
              refine v_iconst C dM_told_71 ?_
              refine v_icmp_ne (tgt := 82) C dM_told_72 (by decide) (by omega) (by omega) (fun hc5 => ?_) (fun hc5 => ?_)
              · refine v_iload_n C dM_told_82 rfl rfl ?_
                refine v_iconst C dM_told_83 ?_
                refine v_icmp_ne (tgt := 102) C dM_told_84 (by decide) (by omega) (by omega) (fun hc6 => ?_) (fun hc6 => ?_)
                · refine v_iconst C dM_told_102 ?_
                  exact v_iret C hRt hLk dM_told_103 ⟨rfl, by unfold m_told; first | exact Or.inl ⟨by omega, rfl⟩ | exact Or.inr (Or.inl ⟨by omega, rfl⟩) | exact Or.inr (Or.inr (Or.inl ⟨by omega, hc9⟩)) | exact Or.inr (Or.inr (Or.inr (Or.inl ⟨by omega, e1⟩))) | exact Or.inr (Or.inr (Or.inr (Or.inr (Or.inl ⟨by omega, by omega⟩)))) | exact Or.inr (Or.inr (Or.inr (Or.inr (Or.inr ⟨by omega, rfl⟩))))⟩
                · refine v_aload_n C dM_told_87 rfl rfl ?_
                  refine v_getI (k := 0) (q := 9) (v := σ.1 0 9) C dM_told_88 (by show (0 : Nat) < 18; decide) rfl rfl (by decide) rfl inM lM_123 rfl rfl ?_
                  refine v_if_eq (tgt := 98) C dM_told_91 (by decide) (by omega) (fun hc7 => ?_) (fun hc7 => ?_)
                  · refine v_iconst C dM_told_98 ?_
                    refine v_goto (tgt := 103) C dM_told_99 (by decide) ?_
                    exact v_iret C hRt hLk dM_told_103 ⟨rfl, by unfold m_told; first | exact Or.inl ⟨by omega, rfl⟩ | exact Or.inr (Or.inl ⟨by omega, rfl⟩) | exact Or.inr (Or.inr (Or.inl ⟨by omega, hc9⟩)) | exact Or.inr (Or.inr (Or.inr (Or.inl ⟨by omega, e1⟩))) | exact Or.inr (Or.inr (Or.inr (Or.inr (Or.inl ⟨by omega, by omega⟩)))) | exact Or.inr (Or.inr (Or.inr (Or.inr (Or.inr ⟨by omega, rfl⟩))))⟩
                  · refine v_iconst C dM_told_94 ?_
                    refine v_goto (tgt := 103) C dM_told_95 (by decide) ?_
                    exact v_iret C hRt hLk dM_told_103 ⟨rfl, by unfold m_told; first | exact Or.inl ⟨by omega, rfl⟩ | exact Or.inr (Or.inl ⟨by omega, rfl⟩) | exact Or.inr (Or.inr (Or.inl ⟨by omega, hc9⟩)) | exact Or.inr (Or.inr (Or.inr (Or.inl ⟨by omega, e1⟩))) | exact Or.inr (Or.inr (Or.inr (Or.inr (Or.inl ⟨by omega, by omega⟩)))) | exact Or.inr (Or.inr (Or.inr (Or.inr (Or.inr ⟨by omega, rfl⟩))))⟩
              · refine v_aload_n C dM_told_75 rfl rfl ?_
                refine v_cVI (k := 0) (n := 0) C (mE_ok _) trivial hR (kM_changed _ xCl D cA ad hJ (f_p1 σ 0 0 0) h3) dM_told_76 (by show (0 : Nat) < 18; decide) rfl rfl gM_137 (by decide +kernel) (by decide) (by decide) rfl (Nat.le_of_ble_eq_true rfl) rfl ⟨rfl, rfl⟩ (fun r1 σ1 hp1 => ?_)
                obtain ⟨e1, e2⟩ := hp1
                subst σ1
                refine v_goto (tgt := 103) C dM_told_79 (by decide) ?_
                exact v_iret C hRt hLk dM_told_103 ⟨rfl, by unfold m_told; first | exact Or.inl ⟨by omega, rfl⟩ | exact Or.inr (Or.inl ⟨by omega, rfl⟩) | exact Or.inr (Or.inr (Or.inl ⟨by omega, hc9⟩)) | exact Or.inr (Or.inr (Or.inr (Or.inl ⟨by omega, e1⟩))) | exact Or.inr (Or.inr (Or.inr (Or.inr (Or.inl ⟨by omega, by omega⟩)))) | exact Or.inr (Or.inr (Or.inr (Or.inr (Or.inr ⟨by omega, rfl⟩))))⟩
            · refine v_iload_n C dM_told_66 rfl rfl ?_
              refine v_goto (tgt := 103) C dM_told_67 (by decide) ?_
              exact v_iret C hRt hLk dM_told_103 ⟨rfl, by unfold m_told; first | exact Or.inl ⟨by omega, rfl⟩ | exact Or.inr (Or.inl ⟨by omega, rfl⟩) | exact Or.inr (Or.inr (Or.inl ⟨by omega, hc9⟩)) | exact Or.inr (Or.inr (Or.inr (Or.inl ⟨by omega, e1⟩))) | exact Or.inr (Or.inr (Or.inr (Or.inr (Or.inl ⟨by omega, by omega⟩)))) | exact Or.inr (Or.inr (Or.inr (Or.inr (Or.inr ⟨by omega, rfl⟩))))⟩
          · refine v_aload_n C dM_told_54 rfl rfl ?_
            refine v_getI (k := 0) (q := 10) (v := σ.1 0 10) C dM_told_55 (by show (0 : Nat) < 18; decide) rfl rfl (by decide) rfl inM lM_110 rfl rfl ?_
            refine v_goto (tgt := 103) C dM_told_58 (by decide) ?_
            exact v_iret C hRt hLk dM_told_103 ⟨rfl, by unfold m_told; first | exact Or.inl ⟨by omega, rfl⟩ | exact Or.inr (Or.inl ⟨by omega, rfl⟩) | exact Or.inr (Or.inr (Or.inl ⟨by omega, hc9⟩)) | exact Or.inr (Or.inr (Or.inr (Or.inl ⟨by omega, e1⟩))) | exact Or.inr (Or.inr (Or.inr (Or.inr (Or.inl ⟨by omega, by omega⟩)))) | exact Or.inr (Or.inr (Or.inr (Or.inr (Or.inr ⟨by omega, rfl⟩))))⟩
        · refine v_aload_n C dM_told_42 rfl rfl ?_
          refine v_getI (k := 0) (q := 7) (v := σ.1 0 7) C dM_told_43 (by show (0 : Nat) < 18; decide) rfl rfl (by decide) rfl inM lM_116 rfl rfl ?_
          refine v_goto (tgt := 103) C dM_told_46 (by decide) ?_
          exact v_iret C hRt hLk dM_told_103 ⟨rfl, by unfold m_told; first | exact Or.inl ⟨by omega, rfl⟩ | exact Or.inr (Or.inl ⟨by omega, rfl⟩) | exact Or.inr (Or.inr (Or.inl ⟨by omega, hc9⟩)) | exact Or.inr (Or.inr (Or.inr (Or.inl ⟨by omega, e1⟩))) | exact Or.inr (Or.inr (Or.inr (Or.inr (Or.inl ⟨by omega, by omega⟩)))) | exact Or.inr (Or.inr (Or.inr (Or.inr (Or.inr ⟨by omega, rfl⟩))))⟩
      · exfalso; omega
    | succ k ih =>
      intro n c hk hn hc hc0 hc1
      have hb := h1 n.toNat
      have hs := m_cnt_s (σ.2 1) n hn
      refine v_iload_n C dM_told_9 rfl rfl ?_
      refine v_bipush C dM_told_10 (by decide +kernel) ?_
      refine v_icmp_gt (tgt := 38) C dM_told_12 (by decide) (by omega) (by omega) (fun hc8 => ?_) (fun hc8 => ?_)
      · exfalso; omega
      · refine v_aload_n C dM_told_15 rfl rfl ?_
        refine v_getR (k := 0) (q := 1) C dM_told_16 (by show (0 : Nat) < 18; decide) rfl rfl (by decide) rfl inM lM_7 rfl ?_
        refine v_iload_n C dM_told_19 rfl rfl ?_
        refine v_zald (k := 1) (v := σ.2 1 (n).toNat) C dM_told_20 (by show (1 : Nat) < 18; decide) rfl rfl (by omega) (by decide) rfl ?_
        refine v_if_eq (tgt := 30) C dM_told_21 (by decide) (by omega) (fun hc9 => ?_) (fun hc9 => ?_)
        · refine v_iload_n C dM_told_30 rfl rfl ?_
          refine v_istore_n C dM_told_31 rfl (by decide) ?_
          refine v_iinc C dM_told_32 rfl (by decide) ?_
          refine v_goto (tgt := 9) C dM_told_35 (by decide) ?_
          exact ih (n + 1) (c) (by omega) (by omega) (by rw [show (n + 1 - 1).toNat = n.toNat by omega, hs, hc]; first | (rw [if_pos (by omega)]; done) | (rw [if_neg (by omega)]; omega)) (by omega) (cnt40 (σ.2 1) n _ (by omega) (by omega) (by rw [hs, hc]; first | (rw [if_pos (by omega)]; done) | (rw [if_neg (by omega)]; omega)))
        · refine v_iload_n C dM_told_24 rfl rfl ?_
          refine v_iconst C dM_told_25 ?_
          refine v_iadd C dM_told_26 ?_
          refine v_goto (tgt := 31) C dM_told_27 (by decide) ?_
          refine v_istore_n C dM_told_31 rfl (by decide) ?_
          refine v_iinc C dM_told_32 rfl (by decide) ?_
          refine v_goto (tgt := 9) C dM_told_35 (by decide) ?_
          exact ih (n + 1) ((c + 1)) (by omega) (by omega) (by rw [show (n + 1 - 1).toNat = n.toNat by omega, hs, hc]; first | (rw [if_pos (by omega)]; done) | (rw [if_neg (by omega)]; omega)) (by omega) (cnt40 (σ.2 1) n _ (by omega) (by omega) (by rw [hs, hc]; first | (rw [if_pos (by omega)]; done) | (rw [if_neg (by omega)]; omega)))
  refine v_aload_n C dM_told_0 rfl rfl ?_
  refine v_iconst C dM_told_1 ?_
  refine v_putI (k := 0) (q := 0) C dM_told_2 (by show (0 : Nat) < 18; decide) rfl rfl (by decide) rfl inM tyM_ok nmM lM_63 rfl rfl rfl rfl rfl ?_
  refine v_iconst C dM_told_5 ?_
  refine v_istore_n C dM_told_6 rfl (by decide) ?_
  refine v_iconst C dM_told_7 ?_
  refine v_istore_n C dM_told_8 rfl (by decide) ?_
  exact L 40 1 0 (by omega) (by omega) rfl (by omega) (by omega)
set_option maxRecDepth 100000 in
set_option maxHeartbeats 4000000 in
/-- isAlike(a, b) -/
theorem kM_isAlike (l : Launch) (xCl : List vw_C) (D : va_G) (cA : Nat → ClassId) (ad : Nat → Nat) (hJ : f_J (mG xCl D cA ad)) (σ : fS) (a b : Int) (ha : 0 ≤ a ∧ a < 2460) (hb : 0 ≤ b ∧ b < 2460) (h7 : ∀ i, -128 ≤ σ.2 7 i ∧ σ.2 7 i ≤ 127) (h12 : ∀ i, 0 ≤ σ.2 12 i ∧ σ.2 12 i ≤ 120) (hsa : 0 ≤ σ.2 11 a.toNat ∧ σ.2 11 a.toNat + σ.2 12 a.toNat ≤ 12000) (hsb : 0 ≤ σ.2 11 b.toNat ∧ σ.2 11 b.toNat + σ.2 12 b.toNat ≤ 12000) : f_M l (mG xCl D cA ad) mE yM_isAlike (Cond.code yM_isAlike cM_isAlike 5 (some .boolean) :: A9) 0 σ [.ref (ad 0), .int (fI a), .int (fI b)] (f_QI (fun r σ1 => σ1 = σ ∧ ((m_alike σ a b ∧ r = 1) ∨ (¬ m_alike σ a b ∧ r = 0))) (mG xCl D cA ad)) := by
  refine f_enter (by decide +kernel) hJ rfl (Nat.le_of_ble_eq_true rfl) ?_
  intro z hzl hR C hRt hLk hEz
  subst hzl
  have hca := h12 a.toNat
  have hcb := h12 b.toNat
  have L : σ.2 12 a.toNat = σ.2 12 b.toNat → ∀ (m : Nat) (k : Int), k + m = σ.2 12 a.toNat → 0 ≤ k → (∀ t : Int, 0 ≤ t → t < k → σ.2 7 (σ.2 11 a.toNat + t).toNat = σ.2 7 (σ.2 11 b.toNat + t).toNat) → fv z (mG xCl D cA ad) 5 (f_R z (mG xCl D cA ad) (f_QI (fun r σ1 => σ1 = σ ∧ ((m_alike σ a b ∧ r = 1) ∨ (¬ m_alike σ a b ∧ r = 0))) (mG xCl D cA ad))) 0 0 σ 24 [some (.ref (ad 0)), some (.int (fI a)), some (.int (fI b)), some (.int (fI 1)), some (.int (fI k))] [] := by
    intro hcc m
    induction m with
    | zero =>
      intro k hk hk0 hall
      have hb1 := h7 (σ.2 11 a.toNat + k).toNat
      have hb2 := h7 (σ.2 11 b.toNat + k).toNat
      refine v_iload C dM_isAlike_24 rfl ?_
      refine v_aload_n C dM_isAlike_26 rfl rfl ?_
      refine v_getR (k := 0) (q := 15) C dM_isAlike_27 (by show (0 : Nat) < 18; decide) rfl rfl (by decide) rfl inM lM_45 rfl ?_
      refine v_iload_n C dM_isAlike_30 rfl rfl ?_
      refine v_iald (k := 12) (v := σ.2 12 (a).toNat) C dM_isAlike_31 (by show (12 : Nat) < 18; decide) rfl rfl (by omega) (by decide) rfl ?_
      refine v_icmp_ge (tgt := 82) C dM_isAlike_32 (by decide) (by omega) (by omega) (fun hc1 => ?_) (fun hc1 => ?_)
      · refine v_iload_n C dM_isAlike_82 rfl rfl ?_
        exact v_zret C hRt hLk dM_isAlike_83 (fN_bool (by omega)) ⟨rfl, by first | exact Or.inl ⟨⟨by omega, fun t h0 h1 => hall t h0 (by omega)⟩, rfl⟩ | exact Or.inr ⟨fun h9 => by first | (have h91 := h9.1; omega) | (have h92 := h9.2 k (by omega) (by omega); omega), rfl⟩⟩
      · exfalso; omega
    | succ m ih =>
      intro k hk hk0 hall
      have hb1 := h7 (σ.2 11 a.toNat + k).toNat
      have hb2 := h7 (σ.2 11 b.toNat + k).toNat
      refine v_iload C dM_isAlike_24 rfl ?_
      refine v_aload_n C dM_isAlike_26 rfl rfl ?_
      refine v_getR (k := 0) (q := 15) C dM_isAlike_27 (by show (0 : Nat) < 18; decide) rfl rfl (by decide) rfl inM lM_45 rfl ?_
      refine v_iload_n C dM_isAlike_30 rfl rfl ?_
      refine v_iald (k := 12) (v := σ.2 12 (a).toNat) C dM_isAlike_31 (by show (12 : Nat) < 18; decide) rfl rfl (by omega) (by decide) rfl ?_
      refine v_icmp_ge (tgt := 82) C dM_isAlike_32 (by decide) (by omega) (by omega) (fun hc2 => ?_) (fun hc2 => ?_)
      · refine v_iload_n C dM_isAlike_82 rfl rfl ?_
        exact v_zret C hRt hLk dM_isAlike_83 (fN_bool (by omega)) ⟨rfl, by first | exact Or.inl ⟨⟨by omega, fun t h0 h1 => hall t h0 (by omega)⟩, rfl⟩ | exact Or.inr ⟨fun h9 => by first | (have h91 := h9.1; omega) | (have h92 := h9.2 k (by omega) (by omega); omega), rfl⟩⟩
      · refine v_iload_n C dM_isAlike_35 rfl rfl ?_
        refine v_if_eq (tgt := 82) C dM_isAlike_36 (by decide) (by omega) (fun hc3 => ?_) (fun hc3 => ?_)
        · exfalso; omega
        · refine v_aload_n C dM_isAlike_39 rfl rfl ?_
          refine v_getR (k := 0) (q := 8) C dM_isAlike_40 (by show (0 : Nat) < 18; decide) rfl rfl (by decide) rfl inM lM_30 rfl ?_
          refine v_aload_n C dM_isAlike_43 rfl rfl ?_
          refine v_getR (k := 0) (q := 14) C dM_isAlike_44 (by show (0 : Nat) < 18; decide) rfl rfl (by decide) rfl inM lM_42 rfl ?_
          refine v_iload_n C dM_isAlike_47 rfl rfl ?_
          refine v_iald (k := 11) (v := σ.2 11 (a).toNat) C dM_isAlike_48 (by show (11 : Nat) < 18; decide) rfl rfl (by omega) (by decide) rfl ?_
          refine v_iload C dM_isAlike_49 rfl ?_
          refine v_iadd C dM_isAlike_51 ?_
          refine v_bald (k := 7) (v := σ.2 7 ((σ.2 11 (a).toNat + k)).toNat) C dM_isAlike_52 (by show (7 : Nat) < 18; decide) rfl rfl (by omega) (by decide) rfl ?_
          refine v_aload_n C dM_isAlike_53 rfl rfl ?_
          refine v_getR (k := 0) (q := 8) C dM_isAlike_54 (by show (0 : Nat) < 18; decide) rfl rfl (by decide) rfl inM lM_30 rfl ?_
          refine v_aload_n C dM_isAlike_57 rfl rfl ?_
          refine v_getR (k := 0) (q := 14) C dM_isAlike_58 (by show (0 : Nat) < 18; decide) rfl rfl (by decide) rfl inM lM_42 rfl ?_
          refine v_iload_n C dM_isAlike_61 rfl rfl ?_
          refine v_iald (k := 11) (v := σ.2 11 (b).toNat) C dM_isAlike_62 (by show (11 : Nat) < 18; decide) rfl rfl (by omega) (by decide) rfl ?_
          refine v_iload C dM_isAlike_63 rfl ?_
          refine v_iadd C dM_isAlike_65 ?_
          refine v_bald (k := 7) (v := σ.2 7 ((σ.2 11 (b).toNat + k)).toNat) C dM_isAlike_66 (by show (7 : Nat) < 18; decide) rfl rfl (by omega) (by decide) rfl ?_
          refine v_icmp_ne (tgt := 74) C dM_isAlike_67 (by decide) (by omega) (by omega) (fun hc4 => ?_) (fun hc4 => ?_)
          · refine v_iconst C dM_isAlike_74 ?_
            refine v_istore_n C dM_isAlike_75 rfl (by decide) ?_
            refine v_iinc C dM_isAlike_76 rfl (by decide) ?_
            refine v_goto (tgt := 24) C dM_isAlike_79 (by decide) ?_
            refine v_iload C dM_isAlike_24 rfl ?_
            refine v_aload_n C dM_isAlike_26 rfl rfl ?_
            refine v_getR (k := 0) (q := 15) C dM_isAlike_27 (by show (0 : Nat) < 18; decide) rfl rfl (by decide) rfl inM lM_45 rfl ?_
            refine v_iload_n C dM_isAlike_30 rfl rfl ?_
            refine v_iald (k := 12) (v := σ.2 12 (a).toNat) C dM_isAlike_31 (by show (12 : Nat) < 18; decide) rfl rfl (by omega) (by decide) rfl ?_
            refine v_icmp_ge (tgt := 82) C dM_isAlike_32 (by decide) (by omega) (by omega) (fun hc5 => ?_) (fun hc5 => ?_)
            · refine v_iload_n C dM_isAlike_82 rfl rfl ?_
              exact v_zret C hRt hLk dM_isAlike_83 (fN_bool (by omega)) ⟨rfl, by first | exact Or.inl ⟨⟨by omega, fun t h0 h1 => hall t h0 (by omega)⟩, rfl⟩ | exact Or.inr ⟨fun h9 => by first | (have h91 := h9.1; omega) | (have h92 := h9.2 k (by omega) (by omega); omega), rfl⟩⟩
            · refine v_iload_n C dM_isAlike_35 rfl rfl ?_
              refine v_if_eq (tgt := 82) C dM_isAlike_36 (by decide) (by omega) (fun hc6 => ?_) (fun hc6 => ?_)
              · refine v_iload_n C dM_isAlike_82 rfl rfl ?_
                exact v_zret C hRt hLk dM_isAlike_83 (fN_bool (by omega)) ⟨rfl, by first | exact Or.inl ⟨⟨by omega, fun t h0 h1 => hall t h0 (by omega)⟩, rfl⟩ | exact Or.inr ⟨fun h9 => by first | (have h91 := h9.1; omega) | (have h92 := h9.2 k (by omega) (by omega); omega), rfl⟩⟩
              · exfalso; omega
          · refine v_iconst C dM_isAlike_70 ?_
            refine v_goto (tgt := 75) C dM_isAlike_71 (by decide) ?_
            refine v_istore_n C dM_isAlike_75 rfl (by decide) ?_
            refine v_iinc C dM_isAlike_76 rfl (by decide) ?_
            refine v_goto (tgt := 24) C dM_isAlike_79 (by decide) ?_
            exact ih (k + 1) (by omega) (by omega) (fun t h0 h1 => by by_cases h9 : t = k; (· rw [h9]; assumption); (· exact hall t h0 (by omega)))
  refine v_aload_n C dM_isAlike_0 rfl rfl ?_
  refine v_getR (k := 0) (q := 15) C dM_isAlike_1 (by show (0 : Nat) < 18; decide) rfl rfl (by decide) rfl inM lM_45 rfl ?_
  refine v_iload_n C dM_isAlike_4 rfl rfl ?_
  refine v_iald (k := 12) (v := σ.2 12 (a).toNat) C dM_isAlike_5 (by show (12 : Nat) < 18; decide) rfl rfl (by omega) (by decide) rfl ?_
  refine v_aload_n C dM_isAlike_6 rfl rfl ?_
  refine v_getR (k := 0) (q := 15) C dM_isAlike_7 (by show (0 : Nat) < 18; decide) rfl rfl (by decide) rfl inM lM_45 rfl ?_
  refine v_iload_n C dM_isAlike_10 rfl rfl ?_
  refine v_iald (k := 12) (v := σ.2 12 (b).toNat) C dM_isAlike_11 (by show (12 : Nat) < 18; decide) rfl rfl (by omega) (by decide) rfl ?_
  refine v_icmp_ne (tgt := 19) C dM_isAlike_12 (by decide) (by omega) (by omega) (fun hc7 => ?_) (fun hc7 => ?_)
  · refine v_iconst C dM_isAlike_19 ?_
    refine v_istore_n C dM_isAlike_20 rfl (by decide) ?_
    refine v_iconst C dM_isAlike_21 ?_
    refine v_istore C dM_isAlike_22 (by decide) ?_
    refine v_iload C dM_isAlike_24 rfl ?_
    refine v_aload_n C dM_isAlike_26 rfl rfl ?_
    refine v_getR (k := 0) (q := 15) C dM_isAlike_27 (by show (0 : Nat) < 18; decide) rfl rfl (by decide) rfl inM lM_45 rfl ?_
    refine v_iload_n C dM_isAlike_30 rfl rfl ?_
    refine v_iald (k := 12) (v := σ.2 12 (a).toNat) C dM_isAlike_31 (by show (12 : Nat) < 18; decide) rfl rfl (by omega) (by decide) rfl ?_
    refine v_icmp_ge (tgt := 82) C dM_isAlike_32 (by decide) (by omega) (by omega) (fun hc8 => ?_) (fun hc8 => ?_)
    · refine v_iload_n C dM_isAlike_82 rfl rfl ?_
      exact v_zret C hRt hLk dM_isAlike_83 (fN_bool (by omega)) ⟨rfl, by first | exact Or.inl ⟨⟨by omega, fun t h0 h1 => hall t h0 (by omega)⟩, rfl⟩ | exact Or.inr ⟨fun h9 => by first | (have h91 := h9.1; omega) | (have h92 := h9.2 k (by omega) (by omega); omega), rfl⟩⟩
    · refine v_iload_n C dM_isAlike_35 rfl rfl ?_
      refine v_if_eq (tgt := 82) C dM_isAlike_36 (by decide) (by omega) (fun hc9 => ?_) (fun hc9 => ?_)
      · refine v_iload_n C dM_isAlike_82 rfl rfl ?_
        exact v_zret C hRt hLk dM_isAlike_83 (fN_bool (by omega)) ⟨rfl, by first | exact Or.inl ⟨⟨by omega, fun t h0 h1 => hall t h0 (by omega)⟩, rfl⟩ | exact Or.inr ⟨fun h9 => by first | (have h91 := h9.1; omega) | (have h92 := h9.2 k (by omega) (by omega); omega), rfl⟩⟩
      · exfalso; omega
  · refine v_iconst C dM_isAlike_15 ?_
    refine v_goto (tgt := 20) C dM_isAlike_16 (by decide) ?_
    refine v_istore_n C dM_isAlike_20 rfl (by decide) ?_
    refine v_iconst C dM_isAlike_21 ?_
    refine v_istore C dM_isAlike_22 (by decide) ?_
    exact L (by omega) (σ.2 12 a.toNat).toNat 0 (by omega) (by omega) (fun t h0 h1 => absurd h1 (by omega))
end
section
theorem m_puts_p2 (l : List Int) : ∀ (σ : fS) (k i : Nat) (v : Int), k ≠ 7 → f_p2 (m_puts σ l) k i v = m_puts (f_p2 σ k i v) l := by
  induction l with
  | nil => intro σ k i v _; rfl
  | cons x r ih =>
    intro σ k i v hk
    rw [m_puts_cons, m_puts_cons, ih _ _ _ _ hk]
    congr 1
    refine fS_ext (fun a b => ?_) (fun a b => ?_)
    · rw [p2_1, m_put_1, m_put_1, p2_1]
    · rw [p2_2, m_put_2, m_put_2, p2_2, p2_1]
      by_cases h1 : a = k ∧ b = i
      · rw [if_pos h1, if_pos h1, if_neg (by omega)]
      · rw [if_neg h1, if_neg h1]
/-- a record of object n: its line, its bytes -/
def m_hdr (σ : fS) (n : Int) : List Int := [111, 32] ++ dig n ++ [32] ++ dig (σ.2 5 n.toNat) ++ [10]
def m_byt (σ : fS) (n : Int) (k : Nat) : List Int := (List.range k).map (fun (j : Nat) => σ.2 6 (120 * n + (j : Int)).toNat)
def m_rec (σ : fS) (n : Int) : List Int := m_hdr σ n ++ m_byt σ n (σ.2 5 n.toNat).toNat ++ [10]
theorem m_hdr_len (σ : fS) (n : Int) : (m_hdr σ n).length = (dig n).length + (dig (σ.2 5 n.toNat)).length + 4 := by
  unfold m_hdr
  simp
  omega
theorem m_byt_len (σ : fS) (n : Int) (k : Nat) : (m_byt σ n k).length = k := by simp [m_byt]
theorem m_rec_len (σ : fS) (n : Int) : (m_rec σ n).length = (dig n).length + (dig (σ.2 5 n.toNat)).length + (σ.2 5 n.toNat).toNat + 5 := by
  unfold m_rec
  rw [List.length_append, List.length_append, m_hdr_len, m_byt_len]
  simp
  omega
theorem m_byt_s (σ : fS) (n : Int) (k : Nat) : m_byt σ n (k + 1) = m_byt σ n k ++ [σ.2 6 (120 * n + (k : Int)).toNat] := by
  unfold m_byt
  rw [List.range_succ, List.map_append]
  rfl
/-- where a record lies is kept -/
def m_r0 (σ : fS) (n : Int) : fS := f_p2 (f_p2 σ 13 n.toNat (σ.1 0 16)) 14 n.toNat (σ.1 0 16 + (m_hdr σ n).length)
set_option maxRecDepth 100000 in
set_option maxHeartbeats 4000000 in
/-- putRecord(n) -/
theorem kM_putRecord (l : Launch) (xCl : List vw_C) (D : va_G) (cA : Nat → ClassId) (ad : Nat → Nat) (hJ : f_J (mG xCl D cA ad)) (σ : fS) (n : Int) (hn1 : 1 ≤ n ∧ n ≤ 40) (h5 : ∀ i, 0 ≤ σ.2 5 i ∧ σ.2 5 i ≤ 120) (h6 : ∀ i, -128 ≤ σ.2 6 i ∧ σ.2 6 i ≤ 127) (hn : 0 ≤ σ.1 0 16 ∧ σ.1 0 16 ≤ 700000) (hc : σ.1 0 17 = 0 ∨ σ.1 0 17 = 1) (hf : σ.1 0 17 = 0 → σ.1 0 16 + (m_rec σ n).length ≤ 12000) : f_M l (mG xCl D cA ad) mE yM_putRecord (Cond.code yM_putRecord cM_putRecord 3 none :: A9) 2 σ [.ref (ad 0), .int (fI n)] (f_QV (fun σ1 => σ1 = m_puts (m_r0 σ n) (m_rec σ n)) (mG xCl D cA ad)) := by
  refine f_enter (by decide +kernel) hJ rfl (Nat.le_of_ble_eq_true rfl) ?_
  intro z hzl hR C hRt hLk hEz
  subst hzl
  have hsz := h5 n.toNat
  have hd1 := dig_len n
  have hd2 := dig_len (σ.2 5 n.toNat)
  have hrl := m_rec_len σ n
  have hhl := m_hdr_len σ n
  have L : ∀ (m k : Nat), m + k = (σ.2 5 n.toNat).toNat → fv z (mG xCl D cA ad) 3 (f_R z (mG xCl D cA ad) (f_QV (fun σ1 => σ1 = m_puts (m_r0 σ n) (m_rec σ n)) (mG xCl D cA ad))) 0 0 (m_puts (m_r0 σ n) (m_hdr σ n ++ m_byt σ n k)) 61 [some (.ref (ad 0)), some (.int (fI n)), some (.int (fI ((k : Int))))] [] := by
    intro m
    induction m with
    | zero =>
      intro k hk
      have hb := h6 (120 * n + (k : Int)).toNat
      have hkk : k = (σ.2 5 n.toNat).toNat := by omega
      refine v_iload_n C dM_putRecord_61 rfl rfl ?_
      refine v_aload_n C dM_putRecord_62 rfl rfl ?_
      refine v_getR (k := 0) (q := 5) C dM_putRecord_63 (by show (0 : Nat) < 18; decide) rfl rfl (by decide) rfl inM lM_22 rfl ?_
      refine v_iload_n C dM_putRecord_66 rfl rfl ?_
      refine v_iald (k := 5) (v := σ.2 5 (n).toNat) C dM_putRecord_67 (by show (5 : Nat) < 18; decide) rfl rfl (by omega) (by decide) ((m_puts_2 _ _ _ _ (by decide)).trans rfl) ?_
      refine v_icmp_ge (tgt := 92) C dM_putRecord_68 (by decide) (by omega) (by omega) (fun hc1 => ?_) (fun hc1 => ?_)
      · refine v_aload_n C dM_putRecord_92 rfl rfl ?_
        refine v_bipush C dM_putRecord_93 (by decide +kernel) ?_
        have hx2 := m_puts_next (m_r0 σ n) (m_hdr σ n ++ m_byt σ n k)
        try simp only [List.length_append, List.length_cons, List.length_nil, m_byt_len] at hx2
        have hy3 := m_puts_cnt (m_r0 σ n) (m_hdr σ n ++ m_byt σ n k)
        change _ = σ.1 0 17 at hy3
        change _ = σ.1 0 16 + _ at hx2
        refine v_cVV (k := 0) (n := 1) C (mE_ok _) trivial hR (kM_put _ xCl D cA ad hJ (m_puts (m_r0 σ n) (m_hdr σ n ++ m_byt σ n k)) (10) (by omega) (by omega) (by omega) (by omega)) dM_putRecord_95 (by show (0 : Nat) < 18; decide) rfl rfl gM_85 (by decide +kernel) (by decide) (by decide) rfl (Nat.le_of_ble_eq_true rfl) rfl ⟨rfl, rfl⟩ (fun σ1 hp1 => ?_)
        subst σ1
        refine v_st (σ1 := m_puts (m_r0 σ n) (m_hdr σ n ++ m_byt σ n k ++ [10])) (m_puts_snoc _ _ _) ?_
        exact v_vret C hRt hLk dM_putRecord_98 (by unfold m_rec; rw [hkk])
      · exfalso; omega
    | succ m ih =>
      intro k hk
      have hb := h6 (120 * n + (k : Int)).toNat
      refine v_iload_n C dM_putRecord_61 rfl rfl ?_
      refine v_aload_n C dM_putRecord_62 rfl rfl ?_
      refine v_getR (k := 0) (q := 5) C dM_putRecord_63 (by show (0 : Nat) < 18; decide) rfl rfl (by decide) rfl inM lM_22 rfl ?_
      refine v_iload_n C dM_putRecord_66 rfl rfl ?_
      refine v_iald (k := 5) (v := σ.2 5 (n).toNat) C dM_putRecord_67 (by show (5 : Nat) < 18; decide) rfl rfl (by omega) (by decide) ((m_puts_2 _ _ _ _ (by decide)).trans rfl) ?_
      refine v_icmp_ge (tgt := 92) C dM_putRecord_68 (by decide) (by omega) (by omega) (fun hc4 => ?_) (fun hc4 => ?_)
      · exfalso; omega
      · refine v_aload_n C dM_putRecord_71 rfl rfl ?_
        refine v_aload_n C dM_putRecord_72 rfl rfl ?_
        refine v_getR (k := 0) (q := 6) C dM_putRecord_73 (by show (0 : Nat) < 18; decide) rfl rfl (by decide) rfl inM lM_26 rfl ?_
        refine v_bipush C dM_putRecord_76 (by decide +kernel) ?_
        refine v_iload_n C dM_putRecord_78 rfl rfl ?_
        refine v_imul C dM_putRecord_79 ?_
        refine v_iload_n C dM_putRecord_80 rfl rfl ?_
        refine v_iadd C dM_putRecord_81 ?_
        refine v_bald (k := 6) (v := σ.2 6 (((120 * n) + (k : Int))).toNat) C dM_putRecord_82 (by show (6 : Nat) < 18; decide) rfl rfl (by omega) (by decide) ((m_puts_2 _ _ _ _ (by decide)).trans rfl) ?_
        have hx5 := m_puts_next (m_r0 σ n) (m_hdr σ n ++ m_byt σ n k)
        try simp only [List.length_append, List.length_cons, List.length_nil, m_byt_len] at hx5
        have hy6 := m_puts_cnt (m_r0 σ n) (m_hdr σ n ++ m_byt σ n k)
        change _ = σ.1 0 17 at hy6
        change _ = σ.1 0 16 + _ at hx5
        refine v_cVV (k := 0) (n := 1) C (mE_ok _) trivial hR (kM_put _ xCl D cA ad hJ (m_puts (m_r0 σ n) (m_hdr σ n ++ m_byt σ n k)) (σ.2 6 (((120 * n) + (k : Int))).toNat) (by omega) (by omega) (by omega) (by omega)) dM_putRecord_83 (by show (0 : Nat) < 18; decide) rfl rfl gM_85 (by decide +kernel) (by decide) (by decide) rfl (Nat.le_of_ble_eq_true rfl) rfl ⟨rfl, rfl⟩ (fun σ1 hp1 => ?_)
        subst σ1
        refine v_st (σ1 := m_puts (m_r0 σ n) (m_hdr σ n ++ m_byt σ n k ++ [σ.2 6 (((120 * n) + (k : Int))).toNat])) (m_puts_snoc _ _ _) ?_
        refine v_iinc C dM_putRecord_86 rfl (by decide) ?_
        refine v_goto (tgt := 61) C dM_putRecord_89 (by decide) ?_
        exact v_st (by rw [m_byt_s, ← List.append_assoc]) (ih (k + 1) (by omega))
  refine v_aload_n C dM_putRecord_0 rfl rfl ?_
  refine v_getR (k := 0) (q := 18) C dM_putRecord_1 (by show (0 : Nat) < 18; decide) rfl rfl (by decide) rfl inM lM_48 rfl ?_
  refine v_iload_n C dM_putRecord_4 rfl rfl ?_
  refine v_aload_n C dM_putRecord_5 rfl rfl ?_
  refine v_getI (k := 0) (q := 16) (v := σ.1 0 16) C dM_putRecord_6 (by show (0 : Nat) < 18; decide) rfl rfl (by decide) rfl inM lM_82 rfl rfl ?_
  refine v_iast (k := 13) C dM_putRecord_9 (by show (13 : Nat) < 18; decide) rfl rfl (by omega) (by decide) ?_
  refine v_st (σ1 := m_puts (f_p2 σ 13 n.toNat (σ.1 0 16)) []) rfl ?_
  refine v_aload_n C dM_putRecord_10 rfl rfl ?_
  refine v_bipush C dM_putRecord_11 (by decide +kernel) ?_
  have hx7 := m_puts_next (f_p2 σ 13 n.toNat (σ.1 0 16)) ([])
  try simp only [List.length_append, List.length_cons, List.length_nil, m_byt_len] at hx7
  have hy8 := m_puts_cnt (f_p2 σ 13 n.toNat (σ.1 0 16)) ([])
  change _ = σ.1 0 17 at hy8
  change _ = σ.1 0 16 + _ at hx7
  refine v_cVV (k := 0) (n := 1) C (mE_ok _) trivial hR (kM_put _ xCl D cA ad hJ (m_puts (f_p2 σ 13 n.toNat (σ.1 0 16)) ([])) (111) (by omega) (by omega) (by omega) (by omega)) dM_putRecord_13 (by show (0 : Nat) < 18; decide) rfl rfl gM_85 (by decide +kernel) (by decide) (by decide) rfl (Nat.le_of_ble_eq_true rfl) rfl ⟨rfl, rfl⟩ (fun σ1 hp1 => ?_)
  subst σ1
  refine v_st (σ1 := m_puts (f_p2 σ 13 n.toNat (σ.1 0 16)) ([111])) (rfl) ?_
  refine v_aload_n C dM_putRecord_16 rfl rfl ?_
  refine v_bipush C dM_putRecord_17 (by decide +kernel) ?_
  have hx9 := m_puts_next (f_p2 σ 13 n.toNat (σ.1 0 16)) ([111])
  try simp only [List.length_append, List.length_cons, List.length_nil, m_byt_len] at hx9
  have hy10 := m_puts_cnt (f_p2 σ 13 n.toNat (σ.1 0 16)) ([111])
  change _ = σ.1 0 17 at hy10
  change _ = σ.1 0 16 + _ at hx9
  refine v_cVV (k := 0) (n := 1) C (mE_ok _) trivial hR (kM_put _ xCl D cA ad hJ (m_puts (f_p2 σ 13 n.toNat (σ.1 0 16)) ([111])) (32) (by omega) (by omega) (by omega) (by omega)) dM_putRecord_19 (by show (0 : Nat) < 18; decide) rfl rfl gM_85 (by decide +kernel) (by decide) (by decide) rfl (Nat.le_of_ble_eq_true rfl) rfl ⟨rfl, rfl⟩ (fun σ1 hp1 => ?_)
  subst σ1
  refine v_st (σ1 := m_puts (f_p2 σ 13 n.toNat (σ.1 0 16)) ([111] ++ [32])) (m_puts_snoc _ _ _) ?_
  refine v_aload_n C dM_putRecord_22 rfl rfl ?_
  refine v_iload_n C dM_putRecord_23 rfl rfl ?_
  have hx11 := m_puts_next (f_p2 σ 13 n.toNat (σ.1 0 16)) ([111] ++ [32])
  try simp only [List.length_append, List.length_cons, List.length_nil, m_byt_len] at hx11
  have hy12 := m_puts_cnt (f_p2 σ 13 n.toNat (σ.1 0 16)) ([111] ++ [32])
  change _ = σ.1 0 17 at hy12
  change _ = σ.1 0 16 + _ at hx11
  have hw13 := dig_len (n)
  refine v_cVV (k := 0) (n := 1) C (mE_ok _) trivial hR (kM_putNumber _ xCl D cA ad hJ (m_puts (f_p2 σ 13 n.toNat (σ.1 0 16)) ([111] ++ [32])) (n) (by omega) (by omega) (by omega) (by omega)) dM_putRecord_24 (by show (0 : Nat) < 18; decide) rfl rfl gM_89 (by decide +kernel) (by decide) (by decide) rfl (Nat.le_of_ble_eq_true rfl) rfl ⟨rfl, rfl⟩ (fun σ1 hp1 => ?_)
  subst σ1
  refine v_st (σ1 := m_puts (f_p2 σ 13 n.toNat (σ.1 0 16)) ([111] ++ [32] ++ dig (n))) ((m_puts_app _ _ _).symm) ?_
  refine v_aload_n C dM_putRecord_27 rfl rfl ?_
  refine v_bipush C dM_putRecord_28 (by decide +kernel) ?_
  have hx14 := m_puts_next (f_p2 σ 13 n.toNat (σ.1 0 16)) ([111] ++ [32] ++ dig (n))
  try simp only [List.length_append, List.length_cons, List.length_nil, m_byt_len] at hx14
  have hy15 := m_puts_cnt (f_p2 σ 13 n.toNat (σ.1 0 16)) ([111] ++ [32] ++ dig (n))
  change _ = σ.1 0 17 at hy15
  change _ = σ.1 0 16 + _ at hx14
  refine v_cVV (k := 0) (n := 1) C (mE_ok _) trivial hR (kM_put _ xCl D cA ad hJ (m_puts (f_p2 σ 13 n.toNat (σ.1 0 16)) ([111] ++ [32] ++ dig (n))) (32) (by omega) (by omega) (by omega) (by omega)) dM_putRecord_30 (by show (0 : Nat) < 18; decide) rfl rfl gM_85 (by decide +kernel) (by decide) (by decide) rfl (Nat.le_of_ble_eq_true rfl) rfl ⟨rfl, rfl⟩ (fun σ1 hp1 => ?_)
  subst σ1
  refine v_st (σ1 := m_puts (f_p2 σ 13 n.toNat (σ.1 0 16)) ([111] ++ [32] ++ dig (n) ++ [32])) (m_puts_snoc _ _ _) ?_
  refine v_aload_n C dM_putRecord_33 rfl rfl ?_
  refine v_aload_n C dM_putRecord_34 rfl rfl ?_
  refine v_getR (k := 0) (q := 5) C dM_putRecord_35 (by show (0 : Nat) < 18; decide) rfl rfl (by decide) rfl inM lM_22 rfl ?_
  refine v_iload_n C dM_putRecord_38 rfl rfl ?_
  refine v_iald (k := 5) (v := σ.2 5 (n).toNat) C dM_putRecord_39 (by show (5 : Nat) < 18; decide) rfl rfl (by omega) (by decide) ((m_puts_2 _ _ _ _ (by decide)).trans rfl) ?_
  have hx16 := m_puts_next (f_p2 σ 13 n.toNat (σ.1 0 16)) ([111] ++ [32] ++ dig (n) ++ [32])
  try simp only [List.length_append, List.length_cons, List.length_nil, m_byt_len] at hx16
  have hy17 := m_puts_cnt (f_p2 σ 13 n.toNat (σ.1 0 16)) ([111] ++ [32] ++ dig (n) ++ [32])
  change _ = σ.1 0 17 at hy17
  change _ = σ.1 0 16 + _ at hx16
  have hw18 := dig_len (σ.2 5 (n).toNat)
  refine v_cVV (k := 0) (n := 1) C (mE_ok _) trivial hR (kM_putNumber _ xCl D cA ad hJ (m_puts (f_p2 σ 13 n.toNat (σ.1 0 16)) ([111] ++ [32] ++ dig (n) ++ [32])) (σ.2 5 (n).toNat) (by omega) (by omega) (by omega) (by omega)) dM_putRecord_40 (by show (0 : Nat) < 18; decide) rfl rfl gM_89 (by decide +kernel) (by decide) (by decide) rfl (Nat.le_of_ble_eq_true rfl) rfl ⟨rfl, rfl⟩ (fun σ1 hp1 => ?_)
  subst σ1
  refine v_st (σ1 := m_puts (f_p2 σ 13 n.toNat (σ.1 0 16)) ([111] ++ [32] ++ dig (n) ++ [32] ++ dig (σ.2 5 (n).toNat))) ((m_puts_app _ _ _).symm) ?_
  refine v_aload_n C dM_putRecord_43 rfl rfl ?_
  refine v_bipush C dM_putRecord_44 (by decide +kernel) ?_
  have hx19 := m_puts_next (f_p2 σ 13 n.toNat (σ.1 0 16)) ([111] ++ [32] ++ dig (n) ++ [32] ++ dig (σ.2 5 (n).toNat))
  try simp only [List.length_append, List.length_cons, List.length_nil, m_byt_len] at hx19
  have hy20 := m_puts_cnt (f_p2 σ 13 n.toNat (σ.1 0 16)) ([111] ++ [32] ++ dig (n) ++ [32] ++ dig (σ.2 5 (n).toNat))
  change _ = σ.1 0 17 at hy20
  change _ = σ.1 0 16 + _ at hx19
  refine v_cVV (k := 0) (n := 1) C (mE_ok _) trivial hR (kM_put _ xCl D cA ad hJ (m_puts (f_p2 σ 13 n.toNat (σ.1 0 16)) ([111] ++ [32] ++ dig (n) ++ [32] ++ dig (σ.2 5 (n).toNat))) (10) (by omega) (by omega) (by omega) (by omega)) dM_putRecord_46 (by show (0 : Nat) < 18; decide) rfl rfl gM_85 (by decide +kernel) (by decide) (by decide) rfl (Nat.le_of_ble_eq_true rfl) rfl ⟨rfl, rfl⟩ (fun σ1 hp1 => ?_)
  subst σ1
  refine v_st (σ1 := m_puts (f_p2 σ 13 n.toNat (σ.1 0 16)) ([111] ++ [32] ++ dig (n) ++ [32] ++ dig (σ.2 5 (n).toNat) ++ [10])) (m_puts_snoc _ _ _) ?_
  refine v_aload_n C dM_putRecord_49 rfl rfl ?_
  refine v_getR (k := 0) (q := 19) C dM_putRecord_50 (by show (0 : Nat) < 18; decide) rfl rfl (by decide) rfl inM lM_51 rfl ?_
  refine v_iload_n C dM_putRecord_53 rfl rfl ?_
  refine v_aload_n C dM_putRecord_54 rfl rfl ?_
  refine v_getI (k := 0) (q := 16) (v := σ.1 0 16 + ([111] ++ [32] ++ dig (n) ++ [32] ++ dig (σ.2 5 (n).toNat) ++ [10] : List Int).length) C dM_putRecord_55 (by show (0 : Nat) < 18; decide) rfl rfl (by decide) rfl inM lM_82 rfl (m_puts_next _ _) ?_
  refine v_iast (k := 14) C dM_putRecord_58 (by show (14 : Nat) < 18; decide) rfl rfl (by omega) (by decide) ?_
  refine v_st (σ1 := m_puts (f_p2 (f_p2 σ 13 n.toNat (σ.1 0 16)) 14 (n).toNat (σ.1 0 16 + ([111] ++ [32] ++ dig (n) ++ [32] ++ dig (σ.2 5 (n).toNat) ++ [10] : List Int).length)) ([111] ++ [32] ++ dig (n) ++ [32] ++ dig (σ.2 5 (n).toNat) ++ [10])) (m_puts_p2 _ _ _ _ _ (by decide)) ?_
  refine v_iconst C dM_putRecord_59 ?_
  refine v_istore_n C dM_putRecord_60 rfl (by decide) ?_
  exact v_st (by unfold m_r0; rw [show m_byt σ n 0 = [] from rfl, List.append_nil]; unfold m_hdr; simp) (L (σ.2 5 n.toNat).toNat 0 (by omega))
end
section
noncomputable def cif {α : Type} (p : Prop) (a b : α) : α := @ite α p (Classical.propDecidable p) a b
theorem cif_pos {α : Type} {p : Prop} {a b : α} (h : p) : cif p a b = a := if_pos h
theorem cif_neg {α : Type} {p : Prop} {a b : α} (h : ¬ p) : cif p a b = b := if_neg h
/-- records of a list of objects, one behind the other -/
def m_recs (σ : fS) (l : List Int) : fS := l.foldl (fun s n => m_puts (m_r0 s n) (m_rec s n)) σ
def m_rlen (σ : fS) : List Int → Nat
  | [] => 0
  | n :: r => (m_rec σ n).length + m_rlen σ r
theorem m_rlen_app (σ : fS) (a b : List Int) : m_rlen σ (a ++ b) = m_rlen σ a + m_rlen σ b := by
  induction a with
  | nil => simp [m_rlen]
  | cons x r ih => simp only [List.cons_append, m_rlen, ih]; omega
theorem m_rec_congr {σ τ : fS} (h5 : ∀ i, τ.2 5 i = σ.2 5 i) (h6 : ∀ i, τ.2 6 i = σ.2 6 i) (n : Int) : m_rec τ n = m_rec σ n ∧ m_hdr τ n = m_hdr σ n := by
  unfold m_rec m_hdr m_byt
  simp only [h5, h6, and_self]
theorem m_rlen_congr {σ τ : fS} (h5 : ∀ i, τ.2 5 i = σ.2 5 i) (h6 : ∀ i, τ.2 6 i = σ.2 6 i) (l : List Int) : m_rlen τ l = m_rlen σ l := by
  induction l with
  | nil => rfl
  | cons x r ih => simp only [m_rlen, ih, (m_rec_congr h5 h6 x).1]
theorem m_one_2 (σ : fS) (n : Int) (k i : Nat) (h7 : k ≠ 7) (h13 : k ≠ 13) (h14 : k ≠ 14) : (m_puts (m_r0 σ n) (m_rec σ n)).2 k i = σ.2 k i := by
  rw [m_puts_2 _ _ _ _ h7]
  unfold m_r0
  rw [p2_2, if_neg (by omega), p2_2, if_neg (by omega)]
theorem m_one_1 (σ : fS) (n : Int) (a b : Nat) : (m_puts (m_r0 σ n) (m_rec σ n)).1 a b = if a = 0 ∧ b = 16 then σ.1 0 16 + (m_rec σ n).length else σ.1 a b := by
  rw [m_puts_1]
  rfl
theorem m_recs_2 (l : List Int) : ∀ (σ : fS) (k i : Nat), k ≠ 7 → k ≠ 13 → k ≠ 14 → (m_recs σ l).2 k i = σ.2 k i := by
  induction l with
  | nil => intro σ k i _ _ _; rfl
  | cons x r ih =>
    intro σ k i h1 h2 h3
    show (m_recs (m_puts (m_r0 σ x) (m_rec σ x)) r).2 k i = σ.2 k i
    rw [ih _ _ _ h1 h2 h3, m_one_2 _ _ _ _ h1 h2 h3]
theorem m_recs_1 (l : List Int) : ∀ (σ : fS) (a b : Nat), (m_recs σ l).1 a b = if a = 0 ∧ b = 16 then σ.1 0 16 + m_rlen σ l else σ.1 a b := by
  induction l with
  | nil =>
    intro σ a b
    show σ.1 a b = _
    split
    · rename_i h; rw [h.1, h.2]; simp [m_rlen]
    · rfl
  | cons x r ih =>
    intro σ a b
    show (m_recs (m_puts (m_r0 σ x) (m_rec σ x)) r).1 a b = _
    rw [ih, m_one_1, m_one_1, m_rlen_congr (fun i => m_one_2 σ x 5 i (by decide) (by decide) (by decide)) (fun i => m_one_2 σ x 6 i (by decide) (by decide) (by decide))]
    by_cases h : a = 0 ∧ b = 16
    · simp only [h, and_self, if_true, m_rlen]; omega
    · simp [h]
theorem m_recs_snoc (σ : fS) (l : List Int) (n : Int) : m_puts (m_r0 (m_recs σ l) n) (m_rec (m_recs σ l) n) = m_recs σ (l ++ [n]) := by
  unfold m_recs
  rw [List.foldl_append]
  rfl
theorem m_recs_next (σ : fS) (l : List Int) : (m_recs σ l).1 0 16 = σ.1 0 16 + m_rlen σ l := by rw [m_recs_1]; simp
theorem m_recs_cnt (σ : fS) (l : List Int) : (m_recs σ l).1 0 17 = σ.1 0 17 := by rw [m_recs_1]; simp
/-- whether object n's record is written, at a turn -/
def m_sel (σ : fS) (w how t n : Int) : Prop := ((w = 1 ∧ σ.2 1 n.toNat = 1) ∨ (w = 0 ∧ σ.2 3 n.toNat = 1)) ∧ σ.2 1 n.toNat = 1 ∧ ((how = 1 ∧ σ.2 5 n.toNat = t) ∨ (how = 2 ∧ ((σ.2 2 n.toNat = 1 ∧ t = 0) ∨ (σ.2 2 n.toNat = 0 ∧ t ≠ 0))) ∨ (how ≠ 1 ∧ how ≠ 2))
noncomputable def m_turn (σ : fS) (w how t : Int) : Nat → List Int
  | 0 => []
  | k + 1 => m_turn σ w how t k ++ cif (m_sel σ w how t ((k : Int) + 1)) [(k : Int) + 1] []
noncomputable def m_turns (σ : fS) (w how : Int) : Nat → List Int
  | 0 => []
  | t + 1 => m_turns σ w how t ++ m_turn σ w how (t : Int) 40
def m_last (how : Int) : Nat := if how = 1 then 120 else if how = 2 then 1 else 0
theorem m_turn_le (σ : fS) (w how t : Int) (a b : Nat) : m_rlen σ (m_turn σ w how t a) ≤ m_rlen σ (m_turn σ w how t (a + b)) := by
  induction b with
  | zero => exact Nat.le_refl _
  | succ b ih =>
    refine Nat.le_trans ih ?_
    show _ ≤ m_rlen σ (m_turn σ w how t (a + b) ++ _)
    rw [m_rlen_app]
    omega
theorem m_turns_le (σ : fS) (w how : Int) (a b : Nat) : m_rlen σ (m_turns σ w how a) ≤ m_rlen σ (m_turns σ w how (a + b)) := by
  induction b with
  | zero => exact Nat.le_refl _
  | succ b ih =>
    refine Nat.le_trans ih ?_
    show _ ≤ m_rlen σ (m_turns σ w how (a + b) ++ _)
    rw [m_rlen_app]
    omega
set_option maxRecDepth 100000 in
set_option maxHeartbeats 4000000 in
/-- putRecords(whole, how) -/
theorem kM_putRecords (l : Launch) (xCl : List vw_C) (D : va_G) (cA : Nat → ClassId) (ad : Nat → Nat) (hJ : f_J (mG xCl D cA ad)) (σ : fS) (w how : Int) (hw : w = 0 ∨ w = 1) (hh : 0 ≤ how ∧ how ≤ 2) (h1 : ∀ i, 0 ≤ σ.2 1 i ∧ σ.2 1 i ≤ 1) (h2 : ∀ i, 0 ≤ σ.2 2 i ∧ σ.2 2 i ≤ 1) (h3 : ∀ i, 0 ≤ σ.2 3 i ∧ σ.2 3 i ≤ 1) (h5 : ∀ i, 0 ≤ σ.2 5 i ∧ σ.2 5 i ≤ 120) (h6 : ∀ i, -128 ≤ σ.2 6 i ∧ σ.2 6 i ≤ 127) (hn : 0 ≤ σ.1 0 16) (hnT : σ.1 0 16 + m_rlen σ (m_turns σ w how (m_last how + 1)) ≤ 90000) (hc : σ.1 0 17 = 0 ∨ σ.1 0 17 = 1) (hf : σ.1 0 17 = 0 → σ.1 0 16 + m_rlen σ (m_turns σ w how (m_last how + 1)) ≤ 12000) : f_M l (mG xCl D cA ad) mE yM_putRecords (Cond.code yM_putRecords cM_putRecords 6 none :: A9) 3 σ [.ref (ad 0), .int (fI w), .int (fI how)] (f_QV (fun σ1 => σ1 = m_recs σ (m_turns σ w how (m_last how + 1))) (mG xCl D cA ad)) := by
  refine f_enter (by decide +kernel) hJ rfl (Nat.le_of_ble_eq_true rfl) ?_
  intro z hzl hR C hRt hLk hEz
  subst hzl
  have hml : (how = 1 ∧ m_last how = 120) ∨ (how = 2 ∧ m_last how = 1) ∨ ((how ≠ 1 ∧ how ≠ 2) ∧ m_last how = 0) := by unfold m_last; split; (· omega); (· split <;> omega)
  have LI : ∀ (t : Nat), t ≤ m_last how → fv z (mG xCl D cA ad) 6 (f_R z (mG xCl D cA ad) (f_QV (fun σ1 => σ1 = m_recs σ (m_turns σ w how (m_last how + 1))) (mG xCl D cA ad))) 0 0 (m_recs σ (m_turns σ w how (t + 1))) 132 [some (.ref (ad 0)), some (.int (fI w)), some (.int (fI how)), some (.int (fI (t : Int))), none, none] [] → ∀ (m k : Nat), m + k = 40 → fv z (mG xCl D cA ad) 6 (f_R z (mG xCl D cA ad) (f_QV (fun σ1 => σ1 = m_recs σ (m_turns σ w how (m_last how + 1))) (mG xCl D cA ad))) 0 0 (m_recs σ (m_turns σ w how t ++ m_turn σ w how (t : Int) k)) 29 [some (.ref (ad 0)), some (.int (fI w)), some (.int (fI how)), some (.int (fI (t : Int))), some (.int (fI ((k : Int) + 1))), none] [] := by
    intro t ht KK m
    induction m with
    | zero =>
      intro k hk
      refine v_iload C dM_putRecords_29 rfl ?_
      refine v_bipush C dM_putRecords_31 (by decide +kernel) ?_
      refine v_icmp_gt (tgt := 132) C dM_putRecords_33 (by decide) (by omega) (by omega) (fun hc1 => ?_) (fun hc1 => ?_)
      · exact v_less (by exact ⟨rfl, rfl, rfl, rfl, trivial⟩) (v_st (by rw [show k = 40 by omega]; rfl) KK)
      · exfalso; omega
    | succ m ih =>
      intro k hk
      have hb1 := h1 ((k : Int) + 1).toNat
      have hb2 := h2 ((k : Int) + 1).toNat
      have hb3 := h3 ((k : Int) + 1).toNat
      have hb5 := h5 ((k : Int) + 1).toNat
      have hnx := m_recs_next σ (m_turns σ w how t ++ m_turn σ w how (t : Int) k)
      have hct := m_recs_cnt σ (m_turns σ w how t ++ m_turn σ w how (t : Int) k)
      have hl1 := m_rlen_app σ (m_turns σ w how t) (m_turn σ w how (t : Int) k)
      have hl2 := m_turn_le σ w how (t : Int) (k + 1) m
      rw [show k + 1 + m = 40 by omega] at hl2
      have hl3 := m_turns_le σ w how (t + 1) (m_last how - t)
      rw [show t + 1 + (m_last how - t) = m_last how + 1 by omega, show m_turns σ w how (t + 1) = m_turns σ w how t ++ m_turn σ w how (t : Int) 40 from rfl, m_rlen_app] at hl3
      rw [show m_turn σ w how (t : Int) (k + 1) = m_turn σ w how (t : Int) k ++ cif (m_sel σ w how (t : Int) ((k : Int) + 1)) [(k : Int) + 1] [] from rfl, m_rlen_app] at hl2
      have BK : ∀ s : fS, s = m_recs σ (m_turns σ w how t ++ m_turn σ w how (t : Int) (k + 1)) → fv z (mG xCl D cA ad) 6 (f_R z (mG xCl D cA ad) (f_QV (fun σ1 => σ1 = m_recs σ (m_turns σ w how (m_last how + 1))) (mG xCl D cA ad))) 0 0 s 126 [some (.ref (ad 0)), some (.int (fI w)), some (.int (fI how)), some (.int (fI (t : Int))), some (.int (fI ((k : Int) + 1))), none] [] := by
        intro s hs
        subst hs
        refine v_iinc C dM_putRecords_126 rfl (by decide) ?_
        refine v_goto (tgt := 29) C dM_putRecords_129 (by decide) ?_
        exact v_lv rfl (ih (k + 1) (by omega))
      refine v_iload C dM_putRecords_29 rfl ?_
      refine v_bipush C dM_putRecords_31 (by decide +kernel) ?_
      refine v_icmp_gt (tgt := 132) C dM_putRecords_33 (by decide) (by omega) (by omega) (fun hc2 => ?_) (fun hc2 => ?_)
      · exfalso; omega
      · refine v_iload_n C dM_putRecords_36 rfl rfl ?_
        refine v_iconst C dM_putRecords_37 ?_
        refine v_icmp_ne (tgt := 60) C dM_putRecords_38 (by decide) (by omega) (by omega) (fun hc3 => ?_) (fun hc3 => ?_)
        · refine v_iload_n C dM_putRecords_60 rfl rfl ?_
          refine v_iconst C dM_putRecords_61 ?_
          refine v_icmp_ne (tgt := 92) C dM_putRecords_62 (by decide) (by omega) (by omega) (fun hc4 => ?_) (fun hc4 => ?_)
          · refine v_iconst C dM_putRecords_92 ?_
            refine v_istore C dM_putRecords_93 (by decide) ?_
            refine v_aload_n C dM_putRecords_95 rfl rfl ?_
            refine v_iload C dM_putRecords_96 rfl ?_
            refine v_iload_n C dM_putRecords_98 rfl rfl ?_
            have hm1 : ∀ i, 0 ≤ (m_recs σ (m_turns σ w how t ++ m_turn σ w how (t : Int) k)).2 1 i ∧ (m_recs σ (m_turns σ w how t ++ m_turn σ w how (t : Int) k)).2 1 i ≤ 1 := fun i => by rw [m_recs_2 _ _ _ _ (by decide) (by decide) (by decide)]; exact h1 i
            have hm3 : ∀ i, 0 ≤ (m_recs σ (m_turns σ w how t ++ m_turn σ w how (t : Int) k)).2 3 i ∧ (m_recs σ (m_turns σ w how t ++ m_turn σ w how (t : Int) k)).2 3 i ≤ 1 := fun i => by rw [m_recs_2 _ _ _ _ (by decide) (by decide) (by decide)]; exact h3 i
            refine v_cVI (k := 0) (n := 2) C (mE_ok _) trivial hR (kM_isMeant _ xCl D cA ad hJ (m_recs σ (m_turns σ w how t ++ m_turn σ w how (t : Int) k)) (((k : Int) + 1)) w (by omega) (by omega) hm1 hm3) dM_putRecords_99 (by show (0 : Nat) < 18; decide) rfl rfl gM_92 (by decide +kernel) (by decide) (by decide) rfl (Nat.le_of_ble_eq_true rfl) rfl ⟨rfl, rfl⟩ (fun r1 τ1 hp1 => ?_)
            rw [m_recs_2 _ _ _ _ (by decide) (by decide) (by decide), m_recs_2 _ _ _ _ (by decide) (by decide) (by decide)] at hp1
            rcases hp1 with ⟨hw9, e9, e8⟩ | ⟨hw9, e9, e8⟩
            · subst τ1
              subst r1
              refine v_if_eq (tgt := 126) C dM_putRecords_102 (by decide) (by omega) (fun hc5 => ?_) (fun hc5 => ?_)
              · exact v_less (by exact ⟨rfl, rfl, rfl, rfl, rfl, trivial⟩) (BK _ (by show _ = m_recs σ (m_turns σ w how t ++ (m_turn σ w how (t : Int) k ++ cif (m_sel σ w how (t : Int) ((k : Int) + 1)) [(k : Int) + 1] [])); rw [cif_neg (by unfold m_sel; omega), List.append_nil]))
              · refine v_aload_n C dM_putRecords_105 rfl rfl ?_
                refine v_getR (k := 0) (q := 1) C dM_putRecords_106 (by show (0 : Nat) < 18; decide) rfl rfl (by decide) rfl inM lM_7 rfl ?_
                refine v_iload C dM_putRecords_109 rfl ?_
                refine v_zald (k := 1) (v := σ.2 1 (((k : Int) + 1)).toNat) C dM_putRecords_111 (by show (1 : Nat) < 18; decide) rfl rfl (by omega) (by decide) (m_recs_2 _ _ _ _ (by decide) (by decide) (by decide)) ?_
                refine v_if_eq (tgt := 126) C dM_putRecords_112 (by decide) (by omega) (fun hc6 => ?_) (fun hc6 => ?_)
                · exact v_less (by exact ⟨rfl, rfl, rfl, rfl, rfl, trivial⟩) (BK _ (by show _ = m_recs σ (m_turns σ w how t ++ (m_turn σ w how (t : Int) k ++ cif (m_sel σ w how (t : Int) ((k : Int) + 1)) [(k : Int) + 1] [])); rw [cif_neg (by unfold m_sel; omega), List.append_nil]))
                · refine v_iload C dM_putRecords_115 rfl ?_
                  refine v_if_eq (tgt := 126) C dM_putRecords_117 (by decide) (by omega) (fun hc7 => ?_) (fun hc7 => ?_)
                  · exfalso; omega
                  · refine v_aload_n C dM_putRecords_120 rfl rfl ?_
                    refine v_iload C dM_putRecords_121 rfl ?_
                    have hq5 : ∀ i, (m_recs σ (m_turns σ w how t ++ m_turn σ w how (t : Int) k)).2 5 i = σ.2 5 i := fun i => m_recs_2 _ _ _ _ (by decide) (by decide) (by decide)
                    have hq6 : ∀ i, (m_recs σ (m_turns σ w how t ++ m_turn σ w how (t : Int) k)).2 6 i = σ.2 6 i := fun i => m_recs_2 _ _ _ _ (by decide) (by decide) (by decide)
                    have hrc := (m_rec_congr hq5 hq6 (((k : Int) + 1))).1
                    have hsel : m_sel σ w how (t : Int) ((k : Int) + 1) := by unfold m_sel; omega
                    rw [cif_pos hsel] at hl2
                    have hl4 : m_rlen σ [(k : Int) + 1] = (m_rec σ ((k : Int) + 1)).length := by simp [m_rlen]
                    refine v_cVV (k := 0) (n := 1) C (mE_ok _) trivial hR (kM_putRecord _ xCl D cA ad hJ (m_recs σ (m_turns σ w how t ++ m_turn σ w how (t : Int) k)) (((k : Int) + 1)) (by omega) (fun i => by rw [hq5]; exact h5 i) (fun i => by rw [hq6]; exact h6 i) (by omega) (by omega) (by rw [hrc]; omega)) dM_putRecords_123 (by show (0 : Nat) < 18; decide) rfl rfl gM_96 (by decide +kernel) (by decide) (by decide) rfl (Nat.le_of_ble_eq_true rfl) rfl ⟨rfl, rfl⟩ (fun τ2 hp2 => ?_)
                    subst τ2
                    · exact v_less (by exact ⟨rfl, rfl, rfl, rfl, rfl, trivial⟩) (BK _ (by rw [m_recs_snoc, List.append_assoc]; show _ = m_recs σ (m_turns σ w how t ++ (m_turn σ w how (t : Int) k ++ cif (m_sel σ w how (t : Int) ((k : Int) + 1)) [(k : Int) + 1] [])); rw [cif_pos (by unfold m_sel; omega)]))
            · subst τ1
              subst r1
              refine v_if_eq (tgt := 126) C dM_putRecords_102 (by decide) (by omega) (fun hc8 => ?_) (fun hc8 => ?_)
              · exact v_less (by exact ⟨rfl, rfl, rfl, rfl, rfl, trivial⟩) (BK _ (by show _ = m_recs σ (m_turns σ w how t ++ (m_turn σ w how (t : Int) k ++ cif (m_sel σ w how (t : Int) ((k : Int) + 1)) [(k : Int) + 1] [])); rw [cif_neg (by unfold m_sel; omega), List.append_nil]))
              · refine v_aload_n C dM_putRecords_105 rfl rfl ?_
                refine v_getR (k := 0) (q := 1) C dM_putRecords_106 (by show (0 : Nat) < 18; decide) rfl rfl (by decide) rfl inM lM_7 rfl ?_
                refine v_iload C dM_putRecords_109 rfl ?_
                refine v_zald (k := 1) (v := σ.2 1 (((k : Int) + 1)).toNat) C dM_putRecords_111 (by show (1 : Nat) < 18; decide) rfl rfl (by omega) (by decide) (m_recs_2 _ _ _ _ (by decide) (by decide) (by decide)) ?_
                refine v_if_eq (tgt := 126) C dM_putRecords_112 (by decide) (by omega) (fun hc9 => ?_) (fun hc9 => ?_)
                · exact v_less (by exact ⟨rfl, rfl, rfl, rfl, rfl, trivial⟩) (BK _ (by show _ = m_recs σ (m_turns σ w how t ++ (m_turn σ w how (t : Int) k ++ cif (m_sel σ w how (t : Int) ((k : Int) + 1)) [(k : Int) + 1] [])); rw [cif_neg (by unfold m_sel; omega), List.append_nil]))
                · refine v_iload C dM_putRecords_115 rfl ?_
                  refine v_if_eq (tgt := 126) C dM_putRecords_117 (by decide) (by omega) (fun hc10 => ?_) (fun hc10 => ?_)
                  · exfalso; omega
                  · refine v_aload_n C dM_putRecords_120 rfl rfl ?_
                    refine v_iload C dM_putRecords_121 rfl ?_
                    have hq5 : ∀ i, (m_recs σ (m_turns σ w how t ++ m_turn σ w how (t : Int) k)).2 5 i = σ.2 5 i := fun i => m_recs_2 _ _ _ _ (by decide) (by decide) (by decide)
                    have hq6 : ∀ i, (m_recs σ (m_turns σ w how t ++ m_turn σ w how (t : Int) k)).2 6 i = σ.2 6 i := fun i => m_recs_2 _ _ _ _ (by decide) (by decide) (by decide)
                    have hrc := (m_rec_congr hq5 hq6 (((k : Int) + 1))).1
                    have hsel : m_sel σ w how (t : Int) ((k : Int) + 1) := by unfold m_sel; omega
                    rw [cif_pos hsel] at hl2
                    have hl4 : m_rlen σ [(k : Int) + 1] = (m_rec σ ((k : Int) + 1)).length := by simp [m_rlen]
                    refine v_cVV (k := 0) (n := 1) C (mE_ok _) trivial hR (kM_putRecord _ xCl D cA ad hJ (m_recs σ (m_turns σ w how t ++ m_turn σ w how (t : Int) k)) (((k : Int) + 1)) (by omega) (fun i => by rw [hq5]; exact h5 i) (fun i => by rw [hq6]; exact h6 i) (by omega) (by omega) (by rw [hrc]; omega)) dM_putRecords_123 (by show (0 : Nat) < 18; decide) rfl rfl gM_96 (by decide +kernel) (by decide) (by decide) rfl (Nat.le_of_ble_eq_true rfl) rfl ⟨rfl, rfl⟩ (fun τ3 hp3 => ?_)
                    subst τ3
                    · exact v_less (by exact ⟨rfl, rfl, rfl, rfl, rfl, trivial⟩) (BK _ (by rw [m_recs_snoc, List.append_assoc]; show _ = m_recs σ (m_turns σ w how t ++ (m_turn σ w how (t : Int) k ++ cif (m_sel σ w how (t : Int) ((k : Int) + 1)) [(k : Int) + 1] [])); rw [cif_pos (by unfold m_sel; omega)]))
          · refine v_aload_n C dM_putRecords_65 rfl rfl ?_
            refine v_getR (k := 0) (q := 2) C dM_putRecords_66 (by show (0 : Nat) < 18; decide) rfl rfl (by decide) rfl inM lM_13 rfl ?_
            refine v_iload C dM_putRecords_69 rfl ?_
            refine v_zald (k := 2) (v := σ.2 2 (((k : Int) + 1)).toNat) C dM_putRecords_71 (by show (2 : Nat) < 18; decide) rfl rfl (by omega) (by decide) (m_recs_2 _ _ _ _ (by decide) (by decide) (by decide)) ?_
            refine v_iload_n C dM_putRecords_72 rfl rfl ?_
            refine v_if_ne (tgt := 80) C dM_putRecords_73 (by decide) (by omega) (fun hc11 => ?_) (fun hc11 => ?_)
            · refine v_iconst C dM_putRecords_80 ?_
              refine v_icmp_ne (tgt := 88) C dM_putRecords_81 (by decide) (by omega) (by omega) (fun hc12 => ?_) (fun hc12 => ?_)
              · refine v_iconst C dM_putRecords_88 ?_
                refine v_goto (tgt := 93) C dM_putRecords_89 (by decide) ?_
                refine v_istore C dM_putRecords_93 (by decide) ?_
                refine v_aload_n C dM_putRecords_95 rfl rfl ?_
                refine v_iload C dM_putRecords_96 rfl ?_
                refine v_iload_n C dM_putRecords_98 rfl rfl ?_
                have hm1 : ∀ i, 0 ≤ (m_recs σ (m_turns σ w how t ++ m_turn σ w how (t : Int) k)).2 1 i ∧ (m_recs σ (m_turns σ w how t ++ m_turn σ w how (t : Int) k)).2 1 i ≤ 1 := fun i => by rw [m_recs_2 _ _ _ _ (by decide) (by decide) (by decide)]; exact h1 i
                have hm3 : ∀ i, 0 ≤ (m_recs σ (m_turns σ w how t ++ m_turn σ w how (t : Int) k)).2 3 i ∧ (m_recs σ (m_turns σ w how t ++ m_turn σ w how (t : Int) k)).2 3 i ≤ 1 := fun i => by rw [m_recs_2 _ _ _ _ (by decide) (by decide) (by decide)]; exact h3 i
                refine v_cVI (k := 0) (n := 2) C (mE_ok _) trivial hR (kM_isMeant _ xCl D cA ad hJ (m_recs σ (m_turns σ w how t ++ m_turn σ w how (t : Int) k)) (((k : Int) + 1)) w (by omega) (by omega) hm1 hm3) dM_putRecords_99 (by show (0 : Nat) < 18; decide) rfl rfl gM_92 (by decide +kernel) (by decide) (by decide) rfl (Nat.le_of_ble_eq_true rfl) rfl ⟨rfl, rfl⟩ (fun r4 τ4 hp4 => ?_)
                rw [m_recs_2 _ _ _ _ (by decide) (by decide) (by decide), m_recs_2 _ _ _ _ (by decide) (by decide) (by decide)] at hp4
                rcases hp4 with ⟨hw9, e9, e8⟩ | ⟨hw9, e9, e8⟩
                · subst τ4
                  subst r4
                  refine v_if_eq (tgt := 126) C dM_putRecords_102 (by decide) (by omega) (fun hc13 => ?_) (fun hc13 => ?_)
                  · exact v_less (by exact ⟨rfl, rfl, rfl, rfl, rfl, trivial⟩) (BK _ (by show _ = m_recs σ (m_turns σ w how t ++ (m_turn σ w how (t : Int) k ++ cif (m_sel σ w how (t : Int) ((k : Int) + 1)) [(k : Int) + 1] [])); rw [cif_neg (by unfold m_sel; omega), List.append_nil]))
                  · refine v_aload_n C dM_putRecords_105 rfl rfl ?_
                    refine v_getR (k := 0) (q := 1) C dM_putRecords_106 (by show (0 : Nat) < 18; decide) rfl rfl (by decide) rfl inM lM_7 rfl ?_
                    refine v_iload C dM_putRecords_109 rfl ?_
                    refine v_zald (k := 1) (v := σ.2 1 (((k : Int) + 1)).toNat) C dM_putRecords_111 (by show (1 : Nat) < 18; decide) rfl rfl (by omega) (by decide) (m_recs_2 _ _ _ _ (by decide) (by decide) (by decide)) ?_
                    refine v_if_eq (tgt := 126) C dM_putRecords_112 (by decide) (by omega) (fun hc14 => ?_) (fun hc14 => ?_)
                    · exact v_less (by exact ⟨rfl, rfl, rfl, rfl, rfl, trivial⟩) (BK _ (by show _ = m_recs σ (m_turns σ w how t ++ (m_turn σ w how (t : Int) k ++ cif (m_sel σ w how (t : Int) ((k : Int) + 1)) [(k : Int) + 1] [])); rw [cif_neg (by unfold m_sel; omega), List.append_nil]))
                    · refine v_iload C dM_putRecords_115 rfl ?_
                      refine v_if_eq (tgt := 126) C dM_putRecords_117 (by decide) (by omega) (fun hc15 => ?_) (fun hc15 => ?_)
                      · exact v_less (by exact ⟨rfl, rfl, rfl, rfl, rfl, trivial⟩) (BK _ (by show _ = m_recs σ (m_turns σ w how t ++ (m_turn σ w how (t : Int) k ++ cif (m_sel σ w how (t : Int) ((k : Int) + 1)) [(k : Int) + 1] [])); rw [cif_neg (by unfold m_sel; omega), List.append_nil]))
                      · exfalso; omega
                · subst τ4
                  subst r4
                  refine v_if_eq (tgt := 126) C dM_putRecords_102 (by decide) (by omega) (fun hc16 => ?_) (fun hc16 => ?_)
                  · exact v_less (by exact ⟨rfl, rfl, rfl, rfl, rfl, trivial⟩) (BK _ (by show _ = m_recs σ (m_turns σ w how t ++ (m_turn σ w how (t : Int) k ++ cif (m_sel σ w how (t : Int) ((k : Int) + 1)) [(k : Int) + 1] [])); rw [cif_neg (by unfold m_sel; omega), List.append_nil]))
                  · refine v_aload_n C dM_putRecords_105 rfl rfl ?_
                    refine v_getR (k := 0) (q := 1) C dM_putRecords_106 (by show (0 : Nat) < 18; decide) rfl rfl (by decide) rfl inM lM_7 rfl ?_
                    refine v_iload C dM_putRecords_109 rfl ?_
                    refine v_zald (k := 1) (v := σ.2 1 (((k : Int) + 1)).toNat) C dM_putRecords_111 (by show (1 : Nat) < 18; decide) rfl rfl (by omega) (by decide) (m_recs_2 _ _ _ _ (by decide) (by decide) (by decide)) ?_
                    refine v_if_eq (tgt := 126) C dM_putRecords_112 (by decide) (by omega) (fun hc17 => ?_) (fun hc17 => ?_)
                    · exact v_less (by exact ⟨rfl, rfl, rfl, rfl, rfl, trivial⟩) (BK _ (by show _ = m_recs σ (m_turns σ w how t ++ (m_turn σ w how (t : Int) k ++ cif (m_sel σ w how (t : Int) ((k : Int) + 1)) [(k : Int) + 1] [])); rw [cif_neg (by unfold m_sel; omega), List.append_nil]))
                    · refine v_iload C dM_putRecords_115 rfl ?_
                      refine v_if_eq (tgt := 126) C dM_putRecords_117 (by decide) (by omega) (fun hc18 => ?_) (fun hc18 => ?_)
                      · exact v_less (by exact ⟨rfl, rfl, rfl, rfl, rfl, trivial⟩) (BK _ (by show _ = m_recs σ (m_turns σ w how t ++ (m_turn σ w how (t : Int) k ++ cif (m_sel σ w how (t : Int) ((k : Int) + 1)) [(k : Int) + 1] [])); rw [cif_neg (by unfold m_sel; omega), List.append_nil]))
                      · exfalso; omega
              · refine v_iconst C dM_putRecords_84 ?_
                refine v_goto (tgt := 93) C dM_putRecords_85 (by decide) ?_
                refine v_istore C dM_putRecords_93 (by decide) ?_
                refine v_aload_n C dM_putRecords_95 rfl rfl ?_
                refine v_iload C dM_putRecords_96 rfl ?_
                refine v_iload_n C dM_putRecords_98 rfl rfl ?_
                have hm1 : ∀ i, 0 ≤ (m_recs σ (m_turns σ w how t ++ m_turn σ w how (t : Int) k)).2 1 i ∧ (m_recs σ (m_turns σ w how t ++ m_turn σ w how (t : Int) k)).2 1 i ≤ 1 := fun i => by rw [m_recs_2 _ _ _ _ (by decide) (by decide) (by decide)]; exact h1 i
                have hm3 : ∀ i, 0 ≤ (m_recs σ (m_turns σ w how t ++ m_turn σ w how (t : Int) k)).2 3 i ∧ (m_recs σ (m_turns σ w how t ++ m_turn σ w how (t : Int) k)).2 3 i ≤ 1 := fun i => by rw [m_recs_2 _ _ _ _ (by decide) (by decide) (by decide)]; exact h3 i
                refine v_cVI (k := 0) (n := 2) C (mE_ok _) trivial hR (kM_isMeant _ xCl D cA ad hJ (m_recs σ (m_turns σ w how t ++ m_turn σ w how (t : Int) k)) (((k : Int) + 1)) w (by omega) (by omega) hm1 hm3) dM_putRecords_99 (by show (0 : Nat) < 18; decide) rfl rfl gM_92 (by decide +kernel) (by decide) (by decide) rfl (Nat.le_of_ble_eq_true rfl) rfl ⟨rfl, rfl⟩ (fun r5 τ5 hp5 => ?_)
                rw [m_recs_2 _ _ _ _ (by decide) (by decide) (by decide), m_recs_2 _ _ _ _ (by decide) (by decide) (by decide)] at hp5
                rcases hp5 with ⟨hw9, e9, e8⟩ | ⟨hw9, e9, e8⟩
                · subst τ5
                  subst r5
                  refine v_if_eq (tgt := 126) C dM_putRecords_102 (by decide) (by omega) (fun hc19 => ?_) (fun hc19 => ?_)
                  · exact v_less (by exact ⟨rfl, rfl, rfl, rfl, rfl, trivial⟩) (BK _ (by show _ = m_recs σ (m_turns σ w how t ++ (m_turn σ w how (t : Int) k ++ cif (m_sel σ w how (t : Int) ((k : Int) + 1)) [(k : Int) + 1] [])); rw [cif_neg (by unfold m_sel; omega), List.append_nil]))
                  · refine v_aload_n C dM_putRecords_105 rfl rfl ?_
                    refine v_getR (k := 0) (q := 1) C dM_putRecords_106 (by show (0 : Nat) < 18; decide) rfl rfl (by decide) rfl inM lM_7 rfl ?_
                    refine v_iload C dM_putRecords_109 rfl ?_
                    refine v_zald (k := 1) (v := σ.2 1 (((k : Int) + 1)).toNat) C dM_putRecords_111 (by show (1 : Nat) < 18; decide) rfl rfl (by omega) (by decide) (m_recs_2 _ _ _ _ (by decide) (by decide) (by decide)) ?_
                    refine v_if_eq (tgt := 126) C dM_putRecords_112 (by decide) (by omega) (fun hc20 => ?_) (fun hc20 => ?_)
                    · exact v_less (by exact ⟨rfl, rfl, rfl, rfl, rfl, trivial⟩) (BK _ (by show _ = m_recs σ (m_turns σ w how t ++ (m_turn σ w how (t : Int) k ++ cif (m_sel σ w how (t : Int) ((k : Int) + 1)) [(k : Int) + 1] [])); rw [cif_neg (by unfold m_sel; omega), List.append_nil]))
                    · refine v_iload C dM_putRecords_115 rfl ?_
                      refine v_if_eq (tgt := 126) C dM_putRecords_117 (by decide) (by omega) (fun hc21 => ?_) (fun hc21 => ?_)
                      · exfalso; omega
                      · refine v_aload_n C dM_putRecords_120 rfl rfl ?_
                        refine v_iload C dM_putRecords_121 rfl ?_
                        have hq5 : ∀ i, (m_recs σ (m_turns σ w how t ++ m_turn σ w how (t : Int) k)).2 5 i = σ.2 5 i := fun i => m_recs_2 _ _ _ _ (by decide) (by decide) (by decide)
                        have hq6 : ∀ i, (m_recs σ (m_turns σ w how t ++ m_turn σ w how (t : Int) k)).2 6 i = σ.2 6 i := fun i => m_recs_2 _ _ _ _ (by decide) (by decide) (by decide)
                        have hrc := (m_rec_congr hq5 hq6 (((k : Int) + 1))).1
                        have hsel : m_sel σ w how (t : Int) ((k : Int) + 1) := by unfold m_sel; omega
                        rw [cif_pos hsel] at hl2
                        have hl4 : m_rlen σ [(k : Int) + 1] = (m_rec σ ((k : Int) + 1)).length := by simp [m_rlen]
                        refine v_cVV (k := 0) (n := 1) C (mE_ok _) trivial hR (kM_putRecord _ xCl D cA ad hJ (m_recs σ (m_turns σ w how t ++ m_turn σ w how (t : Int) k)) (((k : Int) + 1)) (by omega) (fun i => by rw [hq5]; exact h5 i) (fun i => by rw [hq6]; exact h6 i) (by omega) (by omega) (by rw [hrc]; omega)) dM_putRecords_123 (by show (0 : Nat) < 18; decide) rfl rfl gM_96 (by decide +kernel) (by decide) (by decide) rfl (Nat.le_of_ble_eq_true rfl) rfl ⟨rfl, rfl⟩ (fun τ6 hp6 => ?_)
                        subst τ6
                        · exact v_less (by exact ⟨rfl, rfl, rfl, rfl, rfl, trivial⟩) (BK _ (by rw [m_recs_snoc, List.append_assoc]; show _ = m_recs σ (m_turns σ w how t ++ (m_turn σ w how (t : Int) k ++ cif (m_sel σ w how (t : Int) ((k : Int) + 1)) [(k : Int) + 1] [])); rw [cif_pos (by unfold m_sel; omega)]))
                · subst τ5
                  subst r5
                  refine v_if_eq (tgt := 126) C dM_putRecords_102 (by decide) (by omega) (fun hc22 => ?_) (fun hc22 => ?_)
                  · exact v_less (by exact ⟨rfl, rfl, rfl, rfl, rfl, trivial⟩) (BK _ (by show _ = m_recs σ (m_turns σ w how t ++ (m_turn σ w how (t : Int) k ++ cif (m_sel σ w how (t : Int) ((k : Int) + 1)) [(k : Int) + 1] [])); rw [cif_neg (by unfold m_sel; omega), List.append_nil]))
                  · refine v_aload_n C dM_putRecords_105 rfl rfl ?_
                    refine v_getR (k := 0) (q := 1) C dM_putRecords_106 (by show (0 : Nat) < 18; decide) rfl rfl (by decide) rfl inM lM_7 rfl ?_
                    refine v_iload C dM_putRecords_109 rfl ?_
                    refine v_zald (k := 1) (v := σ.2 1 (((k : Int) + 1)).toNat) C dM_putRecords_111 (by show (1 : Nat) < 18; decide) rfl rfl (by omega) (by decide) (m_recs_2 _ _ _ _ (by decide) (by decide) (by decide)) ?_
                    refine v_if_eq (tgt := 126) C dM_putRecords_112 (by decide) (by omega) (fun hc23 => ?_) (fun hc23 => ?_)
                    · exact v_less (by exact ⟨rfl, rfl, rfl, rfl, rfl, trivial⟩) (BK _ (by show _ = m_recs σ (m_turns σ w how t ++ (m_turn σ w how (t : Int) k ++ cif (m_sel σ w how (t : Int) ((k : Int) + 1)) [(k : Int) + 1] [])); rw [cif_neg (by unfold m_sel; omega), List.append_nil]))
                    · refine v_iload C dM_putRecords_115 rfl ?_
                      refine v_if_eq (tgt := 126) C dM_putRecords_117 (by decide) (by omega) (fun hc24 => ?_) (fun hc24 => ?_)
                      · exfalso; omega
                      · refine v_aload_n C dM_putRecords_120 rfl rfl ?_
                        refine v_iload C dM_putRecords_121 rfl ?_
                        have hq5 : ∀ i, (m_recs σ (m_turns σ w how t ++ m_turn σ w how (t : Int) k)).2 5 i = σ.2 5 i := fun i => m_recs_2 _ _ _ _ (by decide) (by decide) (by decide)
                        have hq6 : ∀ i, (m_recs σ (m_turns σ w how t ++ m_turn σ w how (t : Int) k)).2 6 i = σ.2 6 i := fun i => m_recs_2 _ _ _ _ (by decide) (by decide) (by decide)
                        have hrc := (m_rec_congr hq5 hq6 (((k : Int) + 1))).1
                        have hsel : m_sel σ w how (t : Int) ((k : Int) + 1) := by unfold m_sel; omega
                        rw [cif_pos hsel] at hl2
                        have hl4 : m_rlen σ [(k : Int) + 1] = (m_rec σ ((k : Int) + 1)).length := by simp [m_rlen]
                        refine v_cVV (k := 0) (n := 1) C (mE_ok _) trivial hR (kM_putRecord _ xCl D cA ad hJ (m_recs σ (m_turns σ w how t ++ m_turn σ w how (t : Int) k)) (((k : Int) + 1)) (by omega) (fun i => by rw [hq5]; exact h5 i) (fun i => by rw [hq6]; exact h6 i) (by omega) (by omega) (by rw [hrc]; omega)) dM_putRecords_123 (by show (0 : Nat) < 18; decide) rfl rfl gM_96 (by decide +kernel) (by decide) (by decide) rfl (Nat.le_of_ble_eq_true rfl) rfl ⟨rfl, rfl⟩ (fun τ7 hp7 => ?_)
                        subst τ7
                        · exact v_less (by exact ⟨rfl, rfl, rfl, rfl, rfl, trivial⟩) (BK _ (by rw [m_recs_snoc, List.append_assoc]; show _ = m_recs σ (m_turns σ w how t ++ (m_turn σ w how (t : Int) k ++ cif (m_sel σ w how (t : Int) ((k : Int) + 1)) [(k : Int) + 1] [])); rw [cif_pos (by unfold m_sel; omega)]))
            · refine v_iconst C dM_putRecords_76 ?_
              refine v_goto (tgt := 81) C dM_putRecords_77 (by decide) ?_
              refine v_icmp_ne (tgt := 88) C dM_putRecords_81 (by decide) (by omega) (by omega) (fun hc25 => ?_) (fun hc25 => ?_)
              · refine v_iconst C dM_putRecords_88 ?_
                refine v_goto (tgt := 93) C dM_putRecords_89 (by decide) ?_
                refine v_istore C dM_putRecords_93 (by decide) ?_
                refine v_aload_n C dM_putRecords_95 rfl rfl ?_
                refine v_iload C dM_putRecords_96 rfl ?_
                refine v_iload_n C dM_putRecords_98 rfl rfl ?_
                have hm1 : ∀ i, 0 ≤ (m_recs σ (m_turns σ w how t ++ m_turn σ w how (t : Int) k)).2 1 i ∧ (m_recs σ (m_turns σ w how t ++ m_turn σ w how (t : Int) k)).2 1 i ≤ 1 := fun i => by rw [m_recs_2 _ _ _ _ (by decide) (by decide) (by decide)]; exact h1 i
                have hm3 : ∀ i, 0 ≤ (m_recs σ (m_turns σ w how t ++ m_turn σ w how (t : Int) k)).2 3 i ∧ (m_recs σ (m_turns σ w how t ++ m_turn σ w how (t : Int) k)).2 3 i ≤ 1 := fun i => by rw [m_recs_2 _ _ _ _ (by decide) (by decide) (by decide)]; exact h3 i
                refine v_cVI (k := 0) (n := 2) C (mE_ok _) trivial hR (kM_isMeant _ xCl D cA ad hJ (m_recs σ (m_turns σ w how t ++ m_turn σ w how (t : Int) k)) (((k : Int) + 1)) w (by omega) (by omega) hm1 hm3) dM_putRecords_99 (by show (0 : Nat) < 18; decide) rfl rfl gM_92 (by decide +kernel) (by decide) (by decide) rfl (Nat.le_of_ble_eq_true rfl) rfl ⟨rfl, rfl⟩ (fun r8 τ8 hp8 => ?_)
                rw [m_recs_2 _ _ _ _ (by decide) (by decide) (by decide), m_recs_2 _ _ _ _ (by decide) (by decide) (by decide)] at hp8
                rcases hp8 with ⟨hw9, e9, e8⟩ | ⟨hw9, e9, e8⟩
                · subst τ8
                  subst r8
                  refine v_if_eq (tgt := 126) C dM_putRecords_102 (by decide) (by omega) (fun hc26 => ?_) (fun hc26 => ?_)
                  · exact v_less (by exact ⟨rfl, rfl, rfl, rfl, rfl, trivial⟩) (BK _ (by show _ = m_recs σ (m_turns σ w how t ++ (m_turn σ w how (t : Int) k ++ cif (m_sel σ w how (t : Int) ((k : Int) + 1)) [(k : Int) + 1] [])); rw [cif_neg (by unfold m_sel; omega), List.append_nil]))
                  · refine v_aload_n C dM_putRecords_105 rfl rfl ?_
                    refine v_getR (k := 0) (q := 1) C dM_putRecords_106 (by show (0 : Nat) < 18; decide) rfl rfl (by decide) rfl inM lM_7 rfl ?_
                    refine v_iload C dM_putRecords_109 rfl ?_
                    refine v_zald (k := 1) (v := σ.2 1 (((k : Int) + 1)).toNat) C dM_putRecords_111 (by show (1 : Nat) < 18; decide) rfl rfl (by omega) (by decide) (m_recs_2 _ _ _ _ (by decide) (by decide) (by decide)) ?_
                    refine v_if_eq (tgt := 126) C dM_putRecords_112 (by decide) (by omega) (fun hc27 => ?_) (fun hc27 => ?_)
                    · exact v_less (by exact ⟨rfl, rfl, rfl, rfl, rfl, trivial⟩) (BK _ (by show _ = m_recs σ (m_turns σ w how t ++ (m_turn σ w how (t : Int) k ++ cif (m_sel σ w how (t : Int) ((k : Int) + 1)) [(k : Int) + 1] [])); rw [cif_neg (by unfold m_sel; omega), List.append_nil]))
                    · refine v_iload C dM_putRecords_115 rfl ?_
                      refine v_if_eq (tgt := 126) C dM_putRecords_117 (by decide) (by omega) (fun hc28 => ?_) (fun hc28 => ?_)
                      · exact v_less (by exact ⟨rfl, rfl, rfl, rfl, rfl, trivial⟩) (BK _ (by show _ = m_recs σ (m_turns σ w how t ++ (m_turn σ w how (t : Int) k ++ cif (m_sel σ w how (t : Int) ((k : Int) + 1)) [(k : Int) + 1] [])); rw [cif_neg (by unfold m_sel; omega), List.append_nil]))
                      · exfalso; omega
                · subst τ8
                  subst r8
                  refine v_if_eq (tgt := 126) C dM_putRecords_102 (by decide) (by omega) (fun hc29 => ?_) (fun hc29 => ?_)
                  · exact v_less (by exact ⟨rfl, rfl, rfl, rfl, rfl, trivial⟩) (BK _ (by show _ = m_recs σ (m_turns σ w how t ++ (m_turn σ w how (t : Int) k ++ cif (m_sel σ w how (t : Int) ((k : Int) + 1)) [(k : Int) + 1] [])); rw [cif_neg (by unfold m_sel; omega), List.append_nil]))
                  · refine v_aload_n C dM_putRecords_105 rfl rfl ?_
                    refine v_getR (k := 0) (q := 1) C dM_putRecords_106 (by show (0 : Nat) < 18; decide) rfl rfl (by decide) rfl inM lM_7 rfl ?_
                    refine v_iload C dM_putRecords_109 rfl ?_
                    refine v_zald (k := 1) (v := σ.2 1 (((k : Int) + 1)).toNat) C dM_putRecords_111 (by show (1 : Nat) < 18; decide) rfl rfl (by omega) (by decide) (m_recs_2 _ _ _ _ (by decide) (by decide) (by decide)) ?_
                    refine v_if_eq (tgt := 126) C dM_putRecords_112 (by decide) (by omega) (fun hc30 => ?_) (fun hc30 => ?_)
                    · exact v_less (by exact ⟨rfl, rfl, rfl, rfl, rfl, trivial⟩) (BK _ (by show _ = m_recs σ (m_turns σ w how t ++ (m_turn σ w how (t : Int) k ++ cif (m_sel σ w how (t : Int) ((k : Int) + 1)) [(k : Int) + 1] [])); rw [cif_neg (by unfold m_sel; omega), List.append_nil]))
                    · refine v_iload C dM_putRecords_115 rfl ?_
                      refine v_if_eq (tgt := 126) C dM_putRecords_117 (by decide) (by omega) (fun hc31 => ?_) (fun hc31 => ?_)
                      · exact v_less (by exact ⟨rfl, rfl, rfl, rfl, rfl, trivial⟩) (BK _ (by show _ = m_recs σ (m_turns σ w how t ++ (m_turn σ w how (t : Int) k ++ cif (m_sel σ w how (t : Int) ((k : Int) + 1)) [(k : Int) + 1] [])); rw [cif_neg (by unfold m_sel; omega), List.append_nil]))
                      · exfalso; omega
              · refine v_iconst C dM_putRecords_84 ?_
                refine v_goto (tgt := 93) C dM_putRecords_85 (by decide) ?_
                refine v_istore C dM_putRecords_93 (by decide) ?_
                refine v_aload_n C dM_putRecords_95 rfl rfl ?_
                refine v_iload C dM_putRecords_96 rfl ?_
                refine v_iload_n C dM_putRecords_98 rfl rfl ?_
                have hm1 : ∀ i, 0 ≤ (m_recs σ (m_turns σ w how t ++ m_turn σ w how (t : Int) k)).2 1 i ∧ (m_recs σ (m_turns σ w how t ++ m_turn σ w how (t : Int) k)).2 1 i ≤ 1 := fun i => by rw [m_recs_2 _ _ _ _ (by decide) (by decide) (by decide)]; exact h1 i
                have hm3 : ∀ i, 0 ≤ (m_recs σ (m_turns σ w how t ++ m_turn σ w how (t : Int) k)).2 3 i ∧ (m_recs σ (m_turns σ w how t ++ m_turn σ w how (t : Int) k)).2 3 i ≤ 1 := fun i => by rw [m_recs_2 _ _ _ _ (by decide) (by decide) (by decide)]; exact h3 i
                refine v_cVI (k := 0) (n := 2) C (mE_ok _) trivial hR (kM_isMeant _ xCl D cA ad hJ (m_recs σ (m_turns σ w how t ++ m_turn σ w how (t : Int) k)) (((k : Int) + 1)) w (by omega) (by omega) hm1 hm3) dM_putRecords_99 (by show (0 : Nat) < 18; decide) rfl rfl gM_92 (by decide +kernel) (by decide) (by decide) rfl (Nat.le_of_ble_eq_true rfl) rfl ⟨rfl, rfl⟩ (fun r9 τ9 hp9 => ?_)
                rw [m_recs_2 _ _ _ _ (by decide) (by decide) (by decide), m_recs_2 _ _ _ _ (by decide) (by decide) (by decide)] at hp9
                rcases hp9 with ⟨hw9, e9, e8⟩ | ⟨hw9, e9, e8⟩
                · subst τ9
                  subst r9
                  refine v_if_eq (tgt := 126) C dM_putRecords_102 (by decide) (by omega) (fun hc32 => ?_) (fun hc32 => ?_)
                  · exact v_less (by exact ⟨rfl, rfl, rfl, rfl, rfl, trivial⟩) (BK _ (by show _ = m_recs σ (m_turns σ w how t ++ (m_turn σ w how (t : Int) k ++ cif (m_sel σ w how (t : Int) ((k : Int) + 1)) [(k : Int) + 1] [])); rw [cif_neg (by unfold m_sel; omega), List.append_nil]))
                  · refine v_aload_n C dM_putRecords_105 rfl rfl ?_
                    refine v_getR (k := 0) (q := 1) C dM_putRecords_106 (by show (0 : Nat) < 18; decide) rfl rfl (by decide) rfl inM lM_7 rfl ?_
                    refine v_iload C dM_putRecords_109 rfl ?_
                    refine v_zald (k := 1) (v := σ.2 1 (((k : Int) + 1)).toNat) C dM_putRecords_111 (by show (1 : Nat) < 18; decide) rfl rfl (by omega) (by decide) (m_recs_2 _ _ _ _ (by decide) (by decide) (by decide)) ?_
                    refine v_if_eq (tgt := 126) C dM_putRecords_112 (by decide) (by omega) (fun hc33 => ?_) (fun hc33 => ?_)
                    · exact v_less (by exact ⟨rfl, rfl, rfl, rfl, rfl, trivial⟩) (BK _ (by show _ = m_recs σ (m_turns σ w how t ++ (m_turn σ w how (t : Int) k ++ cif (m_sel σ w how (t : Int) ((k : Int) + 1)) [(k : Int) + 1] [])); rw [cif_neg (by unfold m_sel; omega), List.append_nil]))
                    · refine v_iload C dM_putRecords_115 rfl ?_
                      refine v_if_eq (tgt := 126) C dM_putRecords_117 (by decide) (by omega) (fun hc34 => ?_) (fun hc34 => ?_)
                      · exfalso; omega
                      · refine v_aload_n C dM_putRecords_120 rfl rfl ?_
                        refine v_iload C dM_putRecords_121 rfl ?_
                        have hq5 : ∀ i, (m_recs σ (m_turns σ w how t ++ m_turn σ w how (t : Int) k)).2 5 i = σ.2 5 i := fun i => m_recs_2 _ _ _ _ (by decide) (by decide) (by decide)
                        have hq6 : ∀ i, (m_recs σ (m_turns σ w how t ++ m_turn σ w how (t : Int) k)).2 6 i = σ.2 6 i := fun i => m_recs_2 _ _ _ _ (by decide) (by decide) (by decide)
                        have hrc := (m_rec_congr hq5 hq6 (((k : Int) + 1))).1
                        have hsel : m_sel σ w how (t : Int) ((k : Int) + 1) := by unfold m_sel; omega
                        rw [cif_pos hsel] at hl2
                        have hl4 : m_rlen σ [(k : Int) + 1] = (m_rec σ ((k : Int) + 1)).length := by simp [m_rlen]
                        refine v_cVV (k := 0) (n := 1) C (mE_ok _) trivial hR (kM_putRecord _ xCl D cA ad hJ (m_recs σ (m_turns σ w how t ++ m_turn σ w how (t : Int) k)) (((k : Int) + 1)) (by omega) (fun i => by rw [hq5]; exact h5 i) (fun i => by rw [hq6]; exact h6 i) (by omega) (by omega) (by rw [hrc]; omega)) dM_putRecords_123 (by show (0 : Nat) < 18; decide) rfl rfl gM_96 (by decide +kernel) (by decide) (by decide) rfl (Nat.le_of_ble_eq_true rfl) rfl ⟨rfl, rfl⟩ (fun τ10 hp10 => ?_)
                        subst τ10
                        · exact v_less (by exact ⟨rfl, rfl, rfl, rfl, rfl, trivial⟩) (BK _ (by rw [m_recs_snoc, List.append_assoc]; show _ = m_recs σ (m_turns σ w how t ++ (m_turn σ w how (t : Int) k ++ cif (m_sel σ w how (t : Int) ((k : Int) + 1)) [(k : Int) + 1] [])); rw [cif_pos (by unfold m_sel; omega)]))
                · subst τ9
                  subst r9
                  refine v_if_eq (tgt := 126) C dM_putRecords_102 (by decide) (by omega) (fun hc35 => ?_) (fun hc35 => ?_)
                  · exact v_less (by exact ⟨rfl, rfl, rfl, rfl, rfl, trivial⟩) (BK _ (by show _ = m_recs σ (m_turns σ w how t ++ (m_turn σ w how (t : Int) k ++ cif (m_sel σ w how (t : Int) ((k : Int) + 1)) [(k : Int) + 1] [])); rw [cif_neg (by unfold m_sel; omega), List.append_nil]))
                  · refine v_aload_n C dM_putRecords_105 rfl rfl ?_
                    refine v_getR (k := 0) (q := 1) C dM_putRecords_106 (by show (0 : Nat) < 18; decide) rfl rfl (by decide) rfl inM lM_7 rfl ?_
                    refine v_iload C dM_putRecords_109 rfl ?_
                    refine v_zald (k := 1) (v := σ.2 1 (((k : Int) + 1)).toNat) C dM_putRecords_111 (by show (1 : Nat) < 18; decide) rfl rfl (by omega) (by decide) (m_recs_2 _ _ _ _ (by decide) (by decide) (by decide)) ?_
                    refine v_if_eq (tgt := 126) C dM_putRecords_112 (by decide) (by omega) (fun hc36 => ?_) (fun hc36 => ?_)
                    · exact v_less (by exact ⟨rfl, rfl, rfl, rfl, rfl, trivial⟩) (BK _ (by show _ = m_recs σ (m_turns σ w how t ++ (m_turn σ w how (t : Int) k ++ cif (m_sel σ w how (t : Int) ((k : Int) + 1)) [(k : Int) + 1] [])); rw [cif_neg (by unfold m_sel; omega), List.append_nil]))
                    · refine v_iload C dM_putRecords_115 rfl ?_
                      refine v_if_eq (tgt := 126) C dM_putRecords_117 (by decide) (by omega) (fun hc37 => ?_) (fun hc37 => ?_)
                      · exfalso; omega
                      · refine v_aload_n C dM_putRecords_120 rfl rfl ?_
                        refine v_iload C dM_putRecords_121 rfl ?_
                        have hq5 : ∀ i, (m_recs σ (m_turns σ w how t ++ m_turn σ w how (t : Int) k)).2 5 i = σ.2 5 i := fun i => m_recs_2 _ _ _ _ (by decide) (by decide) (by decide)
                        have hq6 : ∀ i, (m_recs σ (m_turns σ w how t ++ m_turn σ w how (t : Int) k)).2 6 i = σ.2 6 i := fun i => m_recs_2 _ _ _ _ (by decide) (by decide) (by decide)
                        have hrc := (m_rec_congr hq5 hq6 (((k : Int) + 1))).1
                        have hsel : m_sel σ w how (t : Int) ((k : Int) + 1) := by unfold m_sel; omega
                        rw [cif_pos hsel] at hl2
                        have hl4 : m_rlen σ [(k : Int) + 1] = (m_rec σ ((k : Int) + 1)).length := by simp [m_rlen]
                        refine v_cVV (k := 0) (n := 1) C (mE_ok _) trivial hR (kM_putRecord _ xCl D cA ad hJ (m_recs σ (m_turns σ w how t ++ m_turn σ w how (t : Int) k)) (((k : Int) + 1)) (by omega) (fun i => by rw [hq5]; exact h5 i) (fun i => by rw [hq6]; exact h6 i) (by omega) (by omega) (by rw [hrc]; omega)) dM_putRecords_123 (by show (0 : Nat) < 18; decide) rfl rfl gM_96 (by decide +kernel) (by decide) (by decide) rfl (Nat.le_of_ble_eq_true rfl) rfl ⟨rfl, rfl⟩ (fun τ11 hp11 => ?_)
                        subst τ11
                        · exact v_less (by exact ⟨rfl, rfl, rfl, rfl, rfl, trivial⟩) (BK _ (by rw [m_recs_snoc, List.append_assoc]; show _ = m_recs σ (m_turns σ w how t ++ (m_turn σ w how (t : Int) k ++ cif (m_sel σ w how (t : Int) ((k : Int) + 1)) [(k : Int) + 1] [])); rw [cif_pos (by unfold m_sel; omega)]))
        · refine v_aload_n C dM_putRecords_41 rfl rfl ?_
          refine v_getR (k := 0) (q := 5) C dM_putRecords_42 (by show (0 : Nat) < 18; decide) rfl rfl (by decide) rfl inM lM_22 rfl ?_
          refine v_iload C dM_putRecords_45 rfl ?_
          refine v_iald (k := 5) (v := σ.2 5 (((k : Int) + 1)).toNat) C dM_putRecords_47 (by show (5 : Nat) < 18; decide) rfl rfl (by omega) (by decide) (m_recs_2 _ _ _ _ (by decide) (by decide) (by decide)) ?_
          refine v_iload_n C dM_putRecords_48 rfl rfl ?_
          refine v_icmp_ne (tgt := 56) C dM_putRecords_49 (by decide) (by omega) (by omega) (fun hc38 => ?_) (fun hc38 => ?_)
          · refine v_iconst C dM_putRecords_56 ?_
            refine v_goto (tgt := 93) C dM_putRecords_57 (by decide) ?_
            refine v_istore C dM_putRecords_93 (by decide) ?_
            refine v_aload_n C dM_putRecords_95 rfl rfl ?_
            refine v_iload C dM_putRecords_96 rfl ?_
            refine v_iload_n C dM_putRecords_98 rfl rfl ?_
            have hm1 : ∀ i, 0 ≤ (m_recs σ (m_turns σ w how t ++ m_turn σ w how (t : Int) k)).2 1 i ∧ (m_recs σ (m_turns σ w how t ++ m_turn σ w how (t : Int) k)).2 1 i ≤ 1 := fun i => by rw [m_recs_2 _ _ _ _ (by decide) (by decide) (by decide)]; exact h1 i
            have hm3 : ∀ i, 0 ≤ (m_recs σ (m_turns σ w how t ++ m_turn σ w how (t : Int) k)).2 3 i ∧ (m_recs σ (m_turns σ w how t ++ m_turn σ w how (t : Int) k)).2 3 i ≤ 1 := fun i => by rw [m_recs_2 _ _ _ _ (by decide) (by decide) (by decide)]; exact h3 i
            refine v_cVI (k := 0) (n := 2) C (mE_ok _) trivial hR (kM_isMeant _ xCl D cA ad hJ (m_recs σ (m_turns σ w how t ++ m_turn σ w how (t : Int) k)) (((k : Int) + 1)) w (by omega) (by omega) hm1 hm3) dM_putRecords_99 (by show (0 : Nat) < 18; decide) rfl rfl gM_92 (by decide +kernel) (by decide) (by decide) rfl (Nat.le_of_ble_eq_true rfl) rfl ⟨rfl, rfl⟩ (fun r12 τ12 hp12 => ?_)
            rw [m_recs_2 _ _ _ _ (by decide) (by decide) (by decide), m_recs_2 _ _ _ _ (by decide) (by decide) (by decide)] at hp12
            rcases hp12 with ⟨hw9, e9, e8⟩ | ⟨hw9, e9, e8⟩
            · subst τ12
              subst r12
              refine v_if_eq (tgt := 126) C dM_putRecords_102 (by decide) (by omega) (fun hc39 => ?_) (fun hc39 => ?_)
              · exact v_less (by exact ⟨rfl, rfl, rfl, rfl, rfl, trivial⟩) (BK _ (by show _ = m_recs σ (m_turns σ w how t ++ (m_turn σ w how (t : Int) k ++ cif (m_sel σ w how (t : Int) ((k : Int) + 1)) [(k : Int) + 1] [])); rw [cif_neg (by unfold m_sel; omega), List.append_nil]))
              · refine v_aload_n C dM_putRecords_105 rfl rfl ?_
                refine v_getR (k := 0) (q := 1) C dM_putRecords_106 (by show (0 : Nat) < 18; decide) rfl rfl (by decide) rfl inM lM_7 rfl ?_
                refine v_iload C dM_putRecords_109 rfl ?_
                refine v_zald (k := 1) (v := σ.2 1 (((k : Int) + 1)).toNat) C dM_putRecords_111 (by show (1 : Nat) < 18; decide) rfl rfl (by omega) (by decide) (m_recs_2 _ _ _ _ (by decide) (by decide) (by decide)) ?_
                refine v_if_eq (tgt := 126) C dM_putRecords_112 (by decide) (by omega) (fun hc40 => ?_) (fun hc40 => ?_)
                · exact v_less (by exact ⟨rfl, rfl, rfl, rfl, rfl, trivial⟩) (BK _ (by show _ = m_recs σ (m_turns σ w how t ++ (m_turn σ w how (t : Int) k ++ cif (m_sel σ w how (t : Int) ((k : Int) + 1)) [(k : Int) + 1] [])); rw [cif_neg (by unfold m_sel; omega), List.append_nil]))
                · refine v_iload C dM_putRecords_115 rfl ?_
                  refine v_if_eq (tgt := 126) C dM_putRecords_117 (by decide) (by omega) (fun hc41 => ?_) (fun hc41 => ?_)
                  · exact v_less (by exact ⟨rfl, rfl, rfl, rfl, rfl, trivial⟩) (BK _ (by show _ = m_recs σ (m_turns σ w how t ++ (m_turn σ w how (t : Int) k ++ cif (m_sel σ w how (t : Int) ((k : Int) + 1)) [(k : Int) + 1] [])); rw [cif_neg (by unfold m_sel; omega), List.append_nil]))
                  · exfalso; omega
            · subst τ12
              subst r12
              refine v_if_eq (tgt := 126) C dM_putRecords_102 (by decide) (by omega) (fun hc42 => ?_) (fun hc42 => ?_)
              · exact v_less (by exact ⟨rfl, rfl, rfl, rfl, rfl, trivial⟩) (BK _ (by show _ = m_recs σ (m_turns σ w how t ++ (m_turn σ w how (t : Int) k ++ cif (m_sel σ w how (t : Int) ((k : Int) + 1)) [(k : Int) + 1] [])); rw [cif_neg (by unfold m_sel; omega), List.append_nil]))
              · refine v_aload_n C dM_putRecords_105 rfl rfl ?_
                refine v_getR (k := 0) (q := 1) C dM_putRecords_106 (by show (0 : Nat) < 18; decide) rfl rfl (by decide) rfl inM lM_7 rfl ?_
                refine v_iload C dM_putRecords_109 rfl ?_
                refine v_zald (k := 1) (v := σ.2 1 (((k : Int) + 1)).toNat) C dM_putRecords_111 (by show (1 : Nat) < 18; decide) rfl rfl (by omega) (by decide) (m_recs_2 _ _ _ _ (by decide) (by decide) (by decide)) ?_
                refine v_if_eq (tgt := 126) C dM_putRecords_112 (by decide) (by omega) (fun hc43 => ?_) (fun hc43 => ?_)
                · exact v_less (by exact ⟨rfl, rfl, rfl, rfl, rfl, trivial⟩) (BK _ (by show _ = m_recs σ (m_turns σ w how t ++ (m_turn σ w how (t : Int) k ++ cif (m_sel σ w how (t : Int) ((k : Int) + 1)) [(k : Int) + 1] [])); rw [cif_neg (by unfold m_sel; omega), List.append_nil]))
                · refine v_iload C dM_putRecords_115 rfl ?_
                  refine v_if_eq (tgt := 126) C dM_putRecords_117 (by decide) (by omega) (fun hc44 => ?_) (fun hc44 => ?_)
                  · exact v_less (by exact ⟨rfl, rfl, rfl, rfl, rfl, trivial⟩) (BK _ (by show _ = m_recs σ (m_turns σ w how t ++ (m_turn σ w how (t : Int) k ++ cif (m_sel σ w how (t : Int) ((k : Int) + 1)) [(k : Int) + 1] [])); rw [cif_neg (by unfold m_sel; omega), List.append_nil]))
                  · exfalso; omega
          · refine v_iconst C dM_putRecords_52 ?_
            refine v_goto (tgt := 93) C dM_putRecords_53 (by decide) ?_
            refine v_istore C dM_putRecords_93 (by decide) ?_
            refine v_aload_n C dM_putRecords_95 rfl rfl ?_
            refine v_iload C dM_putRecords_96 rfl ?_
            refine v_iload_n C dM_putRecords_98 rfl rfl ?_
            have hm1 : ∀ i, 0 ≤ (m_recs σ (m_turns σ w how t ++ m_turn σ w how (t : Int) k)).2 1 i ∧ (m_recs σ (m_turns σ w how t ++ m_turn σ w how (t : Int) k)).2 1 i ≤ 1 := fun i => by rw [m_recs_2 _ _ _ _ (by decide) (by decide) (by decide)]; exact h1 i
            have hm3 : ∀ i, 0 ≤ (m_recs σ (m_turns σ w how t ++ m_turn σ w how (t : Int) k)).2 3 i ∧ (m_recs σ (m_turns σ w how t ++ m_turn σ w how (t : Int) k)).2 3 i ≤ 1 := fun i => by rw [m_recs_2 _ _ _ _ (by decide) (by decide) (by decide)]; exact h3 i
            refine v_cVI (k := 0) (n := 2) C (mE_ok _) trivial hR (kM_isMeant _ xCl D cA ad hJ (m_recs σ (m_turns σ w how t ++ m_turn σ w how (t : Int) k)) (((k : Int) + 1)) w (by omega) (by omega) hm1 hm3) dM_putRecords_99 (by show (0 : Nat) < 18; decide) rfl rfl gM_92 (by decide +kernel) (by decide) (by decide) rfl (Nat.le_of_ble_eq_true rfl) rfl ⟨rfl, rfl⟩ (fun r13 τ13 hp13 => ?_)
            rw [m_recs_2 _ _ _ _ (by decide) (by decide) (by decide), m_recs_2 _ _ _ _ (by decide) (by decide) (by decide)] at hp13
            rcases hp13 with ⟨hw9, e9, e8⟩ | ⟨hw9, e9, e8⟩
            · subst τ13
              subst r13
              refine v_if_eq (tgt := 126) C dM_putRecords_102 (by decide) (by omega) (fun hc45 => ?_) (fun hc45 => ?_)
              · exact v_less (by exact ⟨rfl, rfl, rfl, rfl, rfl, trivial⟩) (BK _ (by show _ = m_recs σ (m_turns σ w how t ++ (m_turn σ w how (t : Int) k ++ cif (m_sel σ w how (t : Int) ((k : Int) + 1)) [(k : Int) + 1] [])); rw [cif_neg (by unfold m_sel; omega), List.append_nil]))
              · refine v_aload_n C dM_putRecords_105 rfl rfl ?_
                refine v_getR (k := 0) (q := 1) C dM_putRecords_106 (by show (0 : Nat) < 18; decide) rfl rfl (by decide) rfl inM lM_7 rfl ?_
                refine v_iload C dM_putRecords_109 rfl ?_
                refine v_zald (k := 1) (v := σ.2 1 (((k : Int) + 1)).toNat) C dM_putRecords_111 (by show (1 : Nat) < 18; decide) rfl rfl (by omega) (by decide) (m_recs_2 _ _ _ _ (by decide) (by decide) (by decide)) ?_
                refine v_if_eq (tgt := 126) C dM_putRecords_112 (by decide) (by omega) (fun hc46 => ?_) (fun hc46 => ?_)
                · exact v_less (by exact ⟨rfl, rfl, rfl, rfl, rfl, trivial⟩) (BK _ (by show _ = m_recs σ (m_turns σ w how t ++ (m_turn σ w how (t : Int) k ++ cif (m_sel σ w how (t : Int) ((k : Int) + 1)) [(k : Int) + 1] [])); rw [cif_neg (by unfold m_sel; omega), List.append_nil]))
                · refine v_iload C dM_putRecords_115 rfl ?_
                  refine v_if_eq (tgt := 126) C dM_putRecords_117 (by decide) (by omega) (fun hc47 => ?_) (fun hc47 => ?_)
                  · exfalso; omega
                  · refine v_aload_n C dM_putRecords_120 rfl rfl ?_
                    refine v_iload C dM_putRecords_121 rfl ?_
                    have hq5 : ∀ i, (m_recs σ (m_turns σ w how t ++ m_turn σ w how (t : Int) k)).2 5 i = σ.2 5 i := fun i => m_recs_2 _ _ _ _ (by decide) (by decide) (by decide)
                    have hq6 : ∀ i, (m_recs σ (m_turns σ w how t ++ m_turn σ w how (t : Int) k)).2 6 i = σ.2 6 i := fun i => m_recs_2 _ _ _ _ (by decide) (by decide) (by decide)
                    have hrc := (m_rec_congr hq5 hq6 (((k : Int) + 1))).1
                    have hsel : m_sel σ w how (t : Int) ((k : Int) + 1) := by unfold m_sel; omega
                    rw [cif_pos hsel] at hl2
                    have hl4 : m_rlen σ [(k : Int) + 1] = (m_rec σ ((k : Int) + 1)).length := by simp [m_rlen]
                    refine v_cVV (k := 0) (n := 1) C (mE_ok _) trivial hR (kM_putRecord _ xCl D cA ad hJ (m_recs σ (m_turns σ w how t ++ m_turn σ w how (t : Int) k)) (((k : Int) + 1)) (by omega) (fun i => by rw [hq5]; exact h5 i) (fun i => by rw [hq6]; exact h6 i) (by omega) (by omega) (by rw [hrc]; omega)) dM_putRecords_123 (by show (0 : Nat) < 18; decide) rfl rfl gM_96 (by decide +kernel) (by decide) (by decide) rfl (Nat.le_of_ble_eq_true rfl) rfl ⟨rfl, rfl⟩ (fun τ14 hp14 => ?_)
                    subst τ14
                    · exact v_less (by exact ⟨rfl, rfl, rfl, rfl, rfl, trivial⟩) (BK _ (by rw [m_recs_snoc, List.append_assoc]; show _ = m_recs σ (m_turns σ w how t ++ (m_turn σ w how (t : Int) k ++ cif (m_sel σ w how (t : Int) ((k : Int) + 1)) [(k : Int) + 1] [])); rw [cif_pos (by unfold m_sel; omega)]))
            · subst τ13
              subst r13
              refine v_if_eq (tgt := 126) C dM_putRecords_102 (by decide) (by omega) (fun hc48 => ?_) (fun hc48 => ?_)
              · exact v_less (by exact ⟨rfl, rfl, rfl, rfl, rfl, trivial⟩) (BK _ (by show _ = m_recs σ (m_turns σ w how t ++ (m_turn σ w how (t : Int) k ++ cif (m_sel σ w how (t : Int) ((k : Int) + 1)) [(k : Int) + 1] [])); rw [cif_neg (by unfold m_sel; omega), List.append_nil]))
              · refine v_aload_n C dM_putRecords_105 rfl rfl ?_
                refine v_getR (k := 0) (q := 1) C dM_putRecords_106 (by show (0 : Nat) < 18; decide) rfl rfl (by decide) rfl inM lM_7 rfl ?_
                refine v_iload C dM_putRecords_109 rfl ?_
                refine v_zald (k := 1) (v := σ.2 1 (((k : Int) + 1)).toNat) C dM_putRecords_111 (by show (1 : Nat) < 18; decide) rfl rfl (by omega) (by decide) (m_recs_2 _ _ _ _ (by decide) (by decide) (by decide)) ?_
                refine v_if_eq (tgt := 126) C dM_putRecords_112 (by decide) (by omega) (fun hc49 => ?_) (fun hc49 => ?_)
                · exact v_less (by exact ⟨rfl, rfl, rfl, rfl, rfl, trivial⟩) (BK _ (by show _ = m_recs σ (m_turns σ w how t ++ (m_turn σ w how (t : Int) k ++ cif (m_sel σ w how (t : Int) ((k : Int) + 1)) [(k : Int) + 1] [])); rw [cif_neg (by unfold m_sel; omega), List.append_nil]))
                · refine v_iload C dM_putRecords_115 rfl ?_
                  refine v_if_eq (tgt := 126) C dM_putRecords_117 (by decide) (by omega) (fun hc50 => ?_) (fun hc50 => ?_)
                  · exfalso; omega
                  · refine v_aload_n C dM_putRecords_120 rfl rfl ?_
                    refine v_iload C dM_putRecords_121 rfl ?_
                    have hq5 : ∀ i, (m_recs σ (m_turns σ w how t ++ m_turn σ w how (t : Int) k)).2 5 i = σ.2 5 i := fun i => m_recs_2 _ _ _ _ (by decide) (by decide) (by decide)
                    have hq6 : ∀ i, (m_recs σ (m_turns σ w how t ++ m_turn σ w how (t : Int) k)).2 6 i = σ.2 6 i := fun i => m_recs_2 _ _ _ _ (by decide) (by decide) (by decide)
                    have hrc := (m_rec_congr hq5 hq6 (((k : Int) + 1))).1
                    have hsel : m_sel σ w how (t : Int) ((k : Int) + 1) := by unfold m_sel; omega
                    rw [cif_pos hsel] at hl2
                    have hl4 : m_rlen σ [(k : Int) + 1] = (m_rec σ ((k : Int) + 1)).length := by simp [m_rlen]
                    refine v_cVV (k := 0) (n := 1) C (mE_ok _) trivial hR (kM_putRecord _ xCl D cA ad hJ (m_recs σ (m_turns σ w how t ++ m_turn σ w how (t : Int) k)) (((k : Int) + 1)) (by omega) (fun i => by rw [hq5]; exact h5 i) (fun i => by rw [hq6]; exact h6 i) (by omega) (by omega) (by rw [hrc]; omega)) dM_putRecords_123 (by show (0 : Nat) < 18; decide) rfl rfl gM_96 (by decide +kernel) (by decide) (by decide) rfl (Nat.le_of_ble_eq_true rfl) rfl ⟨rfl, rfl⟩ (fun τ15 hp15 => ?_)
                    subst τ15
                    · exact v_less (by exact ⟨rfl, rfl, rfl, rfl, rfl, trivial⟩) (BK _ (by rw [m_recs_snoc, List.append_assoc]; show _ = m_recs σ (m_turns σ w how t ++ (m_turn σ w how (t : Int) k ++ cif (m_sel σ w how (t : Int) ((k : Int) + 1)) [(k : Int) + 1] [])); rw [cif_pos (by unfold m_sel; omega)]))
  have LO : ∀ (m t : Nat), m + t = m_last how + 1 → fv z (mG xCl D cA ad) 6 (f_R z (mG xCl D cA ad) (f_QV (fun σ1 => σ1 = m_recs σ (m_turns σ w how (m_last how + 1))) (mG xCl D cA ad))) 0 0 (m_recs σ (m_turns σ w how t)) 2 [some (.ref (ad 0)), some (.int (fI w)), some (.int (fI how)), some (.int (fI (t : Int))), none, none] [] := by
    intro m
    induction m with
    | zero =>
      intro t ht
      refine v_iload_n C dM_putRecords_2 rfl rfl ?_
      refine v_iload_n C dM_putRecords_3 rfl rfl ?_
      refine v_iconst C dM_putRecords_4 ?_
      refine v_icmp_ne (tgt := 13) C dM_putRecords_5 (by decide) (by omega) (by omega) (fun hc51 => ?_) (fun hc51 => ?_)
      · refine v_iload_n C dM_putRecords_13 rfl rfl ?_
        refine v_iconst C dM_putRecords_14 ?_
        refine v_icmp_ne (tgt := 22) C dM_putRecords_15 (by decide) (by omega) (by omega) (fun hc52 => ?_) (fun hc52 => ?_)
        · refine v_iconst C dM_putRecords_22 ?_
          refine v_icmp_gt (tgt := 138) C dM_putRecords_23 (by decide) (by omega) (by omega) (fun hc53 => ?_) (fun hc53 => ?_)
          · exact v_vret C hRt hLk dM_putRecords_138 (by rw [show t = m_last how + 1 by omega])
          · exfalso; omega
        · refine v_iconst C dM_putRecords_18 ?_
          refine v_goto (tgt := 23) C dM_putRecords_19 (by decide) ?_
          refine v_icmp_gt (tgt := 138) C dM_putRecords_23 (by decide) (by omega) (by omega) (fun hc54 => ?_) (fun hc54 => ?_)
          · exact v_vret C hRt hLk dM_putRecords_138 (by rw [show t = m_last how + 1 by omega])
          · exfalso; omega
      · refine v_bipush C dM_putRecords_8 (by decide +kernel) ?_
        refine v_goto (tgt := 23) C dM_putRecords_10 (by decide) ?_
        refine v_icmp_gt (tgt := 138) C dM_putRecords_23 (by decide) (by omega) (by omega) (fun hc55 => ?_) (fun hc55 => ?_)
        · exact v_vret C hRt hLk dM_putRecords_138 (by rw [show t = m_last how + 1 by omega])
        · exfalso; omega
    | succ m ih =>
      intro t ht
      have KK : fv z (mG xCl D cA ad) 6 (f_R z (mG xCl D cA ad) (f_QV (fun σ1 => σ1 = m_recs σ (m_turns σ w how (m_last how + 1))) (mG xCl D cA ad))) 0 0 (m_recs σ (m_turns σ w how (t + 1))) 132 [some (.ref (ad 0)), some (.int (fI w)), some (.int (fI how)), some (.int (fI (t : Int))), none, none] [] := by
        refine v_iinc C dM_putRecords_132 rfl (by decide) ?_
        refine v_goto (tgt := 2) C dM_putRecords_135 (by decide) ?_
        exact v_lv rfl (ih (t + 1) (by omega))
      refine v_iload_n C dM_putRecords_2 rfl rfl ?_
      refine v_iload_n C dM_putRecords_3 rfl rfl ?_
      refine v_iconst C dM_putRecords_4 ?_
      refine v_icmp_ne (tgt := 13) C dM_putRecords_5 (by decide) (by omega) (by omega) (fun hc56 => ?_) (fun hc56 => ?_)
      · refine v_iload_n C dM_putRecords_13 rfl rfl ?_
        refine v_iconst C dM_putRecords_14 ?_
        refine v_icmp_ne (tgt := 22) C dM_putRecords_15 (by decide) (by omega) (by omega) (fun hc57 => ?_) (fun hc57 => ?_)
        · refine v_iconst C dM_putRecords_22 ?_
          refine v_icmp_gt (tgt := 138) C dM_putRecords_23 (by decide) (by omega) (by omega) (fun hc58 => ?_) (fun hc58 => ?_)
          · exfalso; omega
          · refine v_iconst C dM_putRecords_26 ?_
            refine v_istore C dM_putRecords_27 (by decide) ?_
            exact v_less (by exact ⟨rfl, rfl, rfl, rfl, rfl, trivial⟩) (v_st (by rw [show m_turn σ w how (t : Int) 0 = [] from rfl, List.append_nil]) (LI t (by omega) KK 40 0 (by omega)))
        · refine v_iconst C dM_putRecords_18 ?_
          refine v_goto (tgt := 23) C dM_putRecords_19 (by decide) ?_
          refine v_icmp_gt (tgt := 138) C dM_putRecords_23 (by decide) (by omega) (by omega) (fun hc59 => ?_) (fun hc59 => ?_)
          · exfalso; omega
          · refine v_iconst C dM_putRecords_26 ?_
            refine v_istore C dM_putRecords_27 (by decide) ?_
            exact v_less (by exact ⟨rfl, rfl, rfl, rfl, rfl, trivial⟩) (v_st (by rw [show m_turn σ w how (t : Int) 0 = [] from rfl, List.append_nil]) (LI t (by omega) KK 40 0 (by omega)))
      · refine v_bipush C dM_putRecords_8 (by decide +kernel) ?_
        refine v_goto (tgt := 23) C dM_putRecords_10 (by decide) ?_
        refine v_icmp_gt (tgt := 138) C dM_putRecords_23 (by decide) (by omega) (by omega) (fun hc60 => ?_) (fun hc60 => ?_)
        · exfalso; omega
        · refine v_iconst C dM_putRecords_26 ?_
          refine v_istore C dM_putRecords_27 (by decide) ?_
          exact v_less (by exact ⟨rfl, rfl, rfl, rfl, rfl, trivial⟩) (v_st (by rw [show m_turn σ w how (t : Int) 0 = [] from rfl, List.append_nil]) (LI t (by omega) KK 40 0 (by omega)))
  refine v_iconst C dM_putRecords_0 ?_
  refine v_istore_n C dM_putRecords_1 rfl (by decide) ?_
  exact v_less (by exact ⟨rfl, rfl, rfl, rfl, trivial⟩) (LO (m_last how + 1) 0 (by omega))
end
section
theorem m_sel_congr {σ τ : fS} (h1 : ∀ i, τ.2 1 i = σ.2 1 i) (h2 : ∀ i, τ.2 2 i = σ.2 2 i) (h3 : ∀ i, τ.2 3 i = σ.2 3 i) (h5 : ∀ i, τ.2 5 i = σ.2 5 i) (w how t n : Int) : m_sel τ w how t n = m_sel σ w how t n := by
  unfold m_sel
  simp only [h1, h2, h3, h5]
theorem m_turn_congr {σ τ : fS} (h1 : ∀ i, τ.2 1 i = σ.2 1 i) (h2 : ∀ i, τ.2 2 i = σ.2 2 i) (h3 : ∀ i, τ.2 3 i = σ.2 3 i) (h5 : ∀ i, τ.2 5 i = σ.2 5 i) (w how t : Int) (k : Nat) : m_turn τ w how t k = m_turn σ w how t k := by
  induction k with
  | zero => rfl
  | succ k ih => unfold m_turn; rw [ih, m_sel_congr h1 h2 h3 h5]
theorem m_turns_congr {σ τ : fS} (h1 : ∀ i, τ.2 1 i = σ.2 1 i) (h2 : ∀ i, τ.2 2 i = σ.2 2 i) (h3 : ∀ i, τ.2 3 i = σ.2 3 i) (h5 : ∀ i, τ.2 5 i = σ.2 5 i) (w how : Int) (t : Nat) : m_turns τ w how t = m_turns σ w how t := by
  induction t with
  | zero => rfl
  | succ t ih => unfold m_turns; rw [ih, m_turn_congr h1 h2 h3 h5]
theorem m_recs_13 (l : List Int) : ∀ (σ : fS), 0 ≤ σ.1 0 16 → σ.1 0 16 + m_rlen σ l ≤ 99999 → (∀ i, 0 ≤ σ.2 13 i ∧ σ.2 13 i ≤ 99999) → ∀ i, 0 ≤ (m_recs σ l).2 13 i ∧ (m_recs σ l).2 13 i ≤ 99999 := by
  induction l with
  | nil => intro σ _ _ h i; exact h i
  | cons x r ih =>
    intro σ h0 h1 h i
    show 0 ≤ (m_recs (m_puts (m_r0 σ x) (m_rec σ x)) r).2 13 i ∧ _
    have e1 := m_one_1 σ x 0 16
    rw [if_pos ⟨rfl, rfl⟩] at e1
    have e2 := m_rlen_congr (fun i => m_one_2 σ x 5 i (by decide) (by decide) (by decide)) (fun i => m_one_2 σ x 6 i (by decide) (by decide) (by decide)) r
    unfold m_rlen at h1
    refine ih _ (by rw [e1]; omega) (by rw [e1, e2]; omega) (fun j => ?_) i
    rw [m_puts_2 _ _ _ _ (by decide)]
    unfold m_r0
    rw [p2_2, if_neg (by omega), p2_2]
    split
    · omega
    · exact h j
/-- what a PART is made of: whether object n is meant, rows of those -/
def m_mv (B : fS) (w : Int) (i : Nat) : Int := if w = 1 then B.2 1 i else B.2 3 i
def m_rows (B : fS) (w : Int) : Nat → List Int
  | 0 => []
  | k + 1 => m_rows B w k ++ (if m_mv B w (k + 1) = 1 then m_row B ((k : Int) + 1) else [])
theorem m_rows_le (B : fS) (w : Int) (a b : Nat) : (m_rows B w a).length ≤ (m_rows B w (a + b)).length ∧ (m_rows B w a).length ≤ 12 * a := by
  constructor
  · induction b with
    | zero => exact Nat.le_refl _
    | succ b ih =>
      refine Nat.le_trans ih ?_
      show _ ≤ (m_rows B w (a + b) ++ _).length
      rw [List.length_append]
      omega
  · induction a with
    | zero => exact Nat.le_refl _
    | succ a ih =>
      show (m_rows B w a ++ _).length ≤ _
      rw [List.length_append]
      have := m_row_len B ((a : Int) + 1)
      split
      · omega
      · simp; omega
def m_tail (B : fS) (w q : Int) : List Int := m_tell 120 (m_cnt (m_mv B w) 40) ++ m_rows B w 40 ++ m_tell 112 q ++ m_tell 101 (B.1 0 16)
theorem m_tail_len (B : fS) (w q : Int) : (m_tail B w q).length = (m_tell 120 (m_cnt (m_mv B w) 40)).length + (m_rows B w 40).length + (m_tell 112 q).length + (m_tell 101 (B.1 0 16)).length := by
  unfold m_tail
  simp only [List.length_append]
noncomputable def m_body (σ : fS) (a w how : Int) : fS := m_recs (m_puts (f_p1 σ 0 16 a) (if w = 1 then [37, 70, 49, 10] else [])) (m_turns σ w how (m_last how + 1))
/-- the place that a PART's p line tells -/
def m_pq (σ : fS) (w : Int) : Int := if w = 1 then 0 else σ.2 9 (σ.1 0 10 - 1).toNat
noncomputable def m_part (σ : fS) (a w how : Int) : fS := f_p1 (m_puts (m_body σ a w how) (m_tail (m_body σ a w how) w (m_pq σ w))) 0 26 ((m_body σ a w how).1 0 16)
theorem m_row_congr {σ τ : fS} (h1 : ∀ i, τ.2 1 i = σ.2 1 i) (h13 : ∀ i, τ.2 13 i = σ.2 13 i) (n : Int) : m_row τ n = m_row σ n := by
  unfold m_row
  simp only [h1, h13]
set_option maxRecDepth 100000 in
set_option maxHeartbeats 4000000 in
/-- putPart(from, whole, how) -/
theorem kM_putPart (l : Launch) (xCl : List vw_C) (D : va_G) (cA : Nat → ClassId) (ad : Nat → Nat) (hJ : f_J (mG xCl D cA ad)) (σ : fS) (a w how : Int) (ha : 0 ≤ a ∧ a ≤ 12000) (hw : w = 0 ∨ w = 1) (hh : 0 ≤ how ∧ how ≤ 2) (hrv : w = 0 → 1 ≤ σ.1 0 10 ∧ σ.1 0 10 ≤ 60) (h1 : ∀ i, 0 ≤ σ.2 1 i ∧ σ.2 1 i ≤ 1) (h2 : ∀ i, 0 ≤ σ.2 2 i ∧ σ.2 2 i ≤ 1) (h3 : ∀ i, 0 ≤ σ.2 3 i ∧ σ.2 3 i ≤ 1) (h5 : ∀ i, 0 ≤ σ.2 5 i ∧ σ.2 5 i ≤ 120) (h6 : ∀ i, -128 ≤ σ.2 6 i ∧ σ.2 6 i ≤ 127) (h9 : ∀ i, 0 ≤ σ.2 9 i ∧ σ.2 9 i ≤ 99999) (h13 : ∀ i, 0 ≤ σ.2 13 i ∧ σ.2 13 i ≤ 99999) (hc : σ.1 0 17 = 0 ∨ σ.1 0 17 = 1) (hnT : a + m_rlen σ (m_turns σ w how (m_last how + 1)) ≤ 80000) (hf : σ.1 0 17 = 0 → (m_body σ a w how).1 0 16 + (m_tail (m_body σ a w how) w (m_pq σ w)).length ≤ 12000) (hf0 : σ.1 0 17 = 0 → a + 4 + m_rlen σ (m_turns σ w how (m_last how + 1)) ≤ 12000) : f_M l (mG xCl D cA ad) mE yM_putPart (Cond.code yM_putPart cM_putPart 7 (some .int) :: A9) 4 σ [.ref (ad 0), .int (fI a), .int (fI w), .int (fI how)] (f_QI (fun r σ1 => r = (m_part σ a w how).1 0 16 ∧ σ1 = m_part σ a w how) (mG xCl D cA ad)) := by
  refine f_enter (by decide +kernel) hJ rfl (Nat.le_of_ble_eq_true rfl) ?_
  intro z hzl hR C hRt hLk hEz
  subst hzl
  have KA : fv z (mG xCl D cA ad) 7 (f_R z (mG xCl D cA ad) (f_QI (fun r σ1 => r = (m_part σ a w how).1 0 16 ∧ σ1 = m_part σ a w how) (mG xCl D cA ad))) 0 0 (m_puts (f_p1 σ 0 16 a) (if w = 1 then [37, 70, 49, 10] else [])) 33 [some (.ref (ad 0)), some (.int (fI a)), some (.int (fI w)), some (.int (fI how)), none, none, none] [] := by
    refine v_aload_n C dM_putPart_33 rfl rfl ?_
    refine v_iload_n C dM_putPart_34 rfl rfl ?_
    refine v_iload_n C dM_putPart_35 rfl rfl ?_
    have hS2 : ∀ (k i : Nat), k ≠ 7 → (m_puts (f_p1 σ 0 16 a) (if w = 1 then [37, 70, 49, 10] else [])).2 k i = σ.2 k i := fun k i h => m_puts_2 _ _ _ _ h
    have hS16 : (m_puts (f_p1 σ 0 16 a) (if w = 1 then [37, 70, 49, 10] else [])).1 0 16 = a + (if w = 1 then [37, 70, 49, 10] else ([] : List Int)).length := m_puts_next _ _
    have hS17 : (m_puts (f_p1 σ 0 16 a) (if w = 1 then [37, 70, 49, 10] else [])).1 0 17 = σ.1 0 17 := m_puts_cnt _ _
    have hSt : m_turns (m_puts (f_p1 σ 0 16 a) (if w = 1 then [37, 70, 49, 10] else [])) w how (m_last how + 1) = m_turns σ w how (m_last how + 1) := m_turns_congr (fun i => hS2 1 i (by decide)) (fun i => hS2 2 i (by decide)) (fun i => hS2 3 i (by decide)) (fun i => hS2 5 i (by decide)) w how _
    have hSl : ∀ l, m_rlen (m_puts (f_p1 σ 0 16 a) (if w = 1 then [37, 70, 49, 10] else [])) l = m_rlen σ l := fun l => m_rlen_congr (fun i => hS2 5 i (by decide)) (fun i => hS2 6 i (by decide)) l
    have hfl : (if w = 1 then [37, 70, 49, 10] else ([] : List Int)).length ≤ 4 := by split <;> simp
    refine v_cVV (k := 0) (n := 2) C (mE_ok _) trivial hR (kM_putRecords _ xCl D cA ad hJ (m_puts (f_p1 σ 0 16 a) (if w = 1 then [37, 70, 49, 10] else [])) w how (by omega) (by omega) (fun i => by rw [hS2 1 i (by decide)]; exact h1 i) (fun i => by rw [hS2 2 i (by decide)]; exact h2 i) (fun i => by rw [hS2 3 i (by decide)]; exact h3 i) (fun i => by rw [hS2 5 i (by decide)]; exact h5 i) (fun i => by rw [hS2 6 i (by decide)]; exact h6 i) (by rw [hS16]; omega) (by rw [hS16, hSt, hSl]; omega) (by rw [hS17]; exact hc) (by rw [hS17, hS16, hSt, hSl]; omega)) dM_putPart_36 (by show (0 : Nat) < 18; decide) rfl rfl gM_99 (by decide +kernel) (by decide) (by decide) rfl (Nat.le_of_ble_eq_true rfl) rfl ⟨rfl, rfl⟩ (fun τ1 hp1 => ?_)
    subst τ1
    rw [hSt]
    obtain ⟨B, hB⟩ : ∃ s, s = m_recs (m_puts (f_p1 σ 0 16 a) (if w = 1 then [37, 70, 49, 10] else [])) (m_turns σ w how (m_last how + 1)) := ⟨_, rfl⟩
    refine v_st hB.symm ?_
    have hBm : B = m_body σ a w how := hB
    have hBa : ∀ (k i : Nat), k ≠ 7 → k ≠ 13 → k ≠ 14 → B.2 k i = σ.2 k i := fun k i q1 q2 q3 => by rw [hB, m_recs_2 _ _ _ _ q1 q2 q3]; exact hS2 k i q1
    have hB16 : B.1 0 16 = a + (if w = 1 then [37, 70, 49, 10] else ([] : List Int)).length + m_rlen σ (m_turns σ w how (m_last how + 1)) := by rw [hB, m_recs_next, hS16, hSl]
    have hBs : ∀ q, q ≠ 16 → B.1 0 q = σ.1 0 q := fun q hq => by rw [hB, m_recs_1, if_neg (by omega), m_puts_1, if_neg (by omega), p1_1, if_neg (by omega)]
    have hB17 : B.1 0 17 = σ.1 0 17 := hBs 17 (by decide)
    have hB13 : ∀ i, 0 ≤ B.2 13 i ∧ B.2 13 i ≤ 99999 := by rw [hB]; exact m_recs_13 _ _ (by rw [hS16]; omega) (by rw [hS16, hSl]; omega) (fun i => by rw [hS2 13 i (by decide)]; exact h13 i)
    have hmv01 : ∀ i, 0 ≤ m_mv B w i ∧ m_mv B w i ≤ 1 := fun i => by unfold m_mv; split; (· rw [hBa 1 i (by decide) (by decide) (by decide)]; exact h1 i); (· rw [hBa 3 i (by decide) (by decide) (by decide)]; exact h3 i)
    have hmc := m_cnt_le (m_mv B w) 40
    have hrw := m_rows_le B w 40 0
    have htl := m_tail_len B w (m_pq σ w)
    have hpq : 0 ≤ m_pq σ w ∧ m_pq σ w ≤ 99999 := by unfold m_pq; split; (· omega); (· exact h9 _)
    have hu1 := m_tell_len 120 (m_cnt (m_mv B w) 40)
    have hu2 := m_tell_len 112 (m_pq σ w)
    have hu3 := m_tell_len 101 (B.1 0 16)
    rw [← hBm] at hf
    · have LR : ∀ (m k : Nat), m + k = 40 → fv z (mG xCl D cA ad) 7 (f_R z (mG xCl D cA ad) (f_QI (fun r σ1 => r = (m_part σ a w how).1 0 16 ∧ σ1 = m_part σ a w how) (mG xCl D cA ad))) 0 0 (m_puts B (m_tell 120 (m_cnt (m_mv B w) 40) ++ m_rows B w k)) 96 [some (.ref (ad 0)), some (.int (fI a)), some (.int (fI w)), some (.int (fI how)), some (.int (fI (B.1 0 16))), some (.int (fI (m_cnt (m_mv B w) 40))), some (.int (fI ((k : Int) + 1)))] [] := by
        intro m
        induction m with
        | zero =>
          intro k hk
          have hk40 : k = 40 := by omega
          subst hk40
          refine v_iload C dM_putPart_96 rfl ?_
          refine v_bipush C dM_putPart_98 (by decide +kernel) ?_
          refine v_icmp_gt (tgt := 125) C dM_putPart_100 (by decide) (by omega) (by omega) (fun hc1 => ?_) (fun hc1 => ?_)
          · refine v_aload_n C dM_putPart_125 rfl rfl ?_
            refine v_bipush C dM_putPart_126 (by decide +kernel) ?_
            refine v_iload_n C dM_putPart_128 rfl rfl ?_
            refine v_if_eq (tgt := 136) C dM_putPart_129 (by decide) (by omega) (fun hc2 => ?_) (fun hc2 => ?_)
            · refine v_aload_n C dM_putPart_136 rfl rfl ?_
              refine v_getR (k := 0) (q := 12) C dM_putPart_137 (by show (0 : Nat) < 18; decide) rfl rfl (by decide) rfl inM lM_36 rfl ?_
              refine v_aload_n C dM_putPart_140 rfl rfl ?_
              refine v_getI (k := 0) (q := 10) (v := σ.1 0 10) C dM_putPart_141 (by show (0 : Nat) < 18; decide) rfl rfl (by decide) rfl inM lM_110 rfl ((by rw [m_puts_1, if_neg (by decide)]; exact hBs 10 (by decide))) ?_
              refine v_iconst C dM_putPart_144 ?_
              refine v_isub C dM_putPart_145 ?_
              refine v_iald (k := 9) (v := σ.2 9 ((σ.1 0 10 - 1)).toNat) C dM_putPart_146 (by show (9 : Nat) < 18; decide) rfl rfl (by omega) (by decide) ((m_puts_2 _ _ _ _ (by decide)).trans (hBa 9 _ (by decide) (by decide) (by decide))) ?_
              refine v_top (b := m_pq σ w) (by unfold m_pq; rw [if_neg (by omega)]) ?_
              have hx3 := m_puts_next B (m_tell 120 (m_cnt (m_mv B w) 40) ++ m_rows B w 40)
              try simp only [List.length_append, List.length_cons, List.length_nil] at hx3
              have hy4 := m_puts_cnt B (m_tell 120 (m_cnt (m_mv B w) 40) ++ m_rows B w 40)
              have hu5 := m_tell_len (112) (m_pq σ w)
              have hu6 : (m_tell (112) (m_pq σ w)).length = (dig (m_pq σ w)).length + 3 := by unfold m_tell; simp
              refine v_cVV (k := 0) (n := 2) C (mE_ok _) trivial hR (kM_putTold _ xCl D cA ad hJ (m_puts B (m_tell 120 (m_cnt (m_mv B w) 40) ++ m_rows B w 40)) (112) (m_pq σ w) (by omega) (by omega) (by omega) (by omega) (by omega)) dM_putPart_147 (by show (0 : Nat) < 18; decide) rfl rfl gM_103 (by decide +kernel) (by decide) (by decide) rfl (Nat.le_of_ble_eq_true rfl) rfl ⟨rfl, rfl⟩ (fun τ2 hp2 => ?_)
              subst τ2
              refine v_st (σ1 := m_puts B (m_tell 120 (m_cnt (m_mv B w) 40) ++ m_rows B w 40 ++ m_tell (112) (m_pq σ w))) (m_puts_app _ _ _).symm ?_
              · refine v_aload_n C dM_putPart_150 rfl rfl ?_
                refine v_bipush C dM_putPart_151 (by decide +kernel) ?_
                refine v_iload C dM_putPart_153 rfl ?_
                have hx7 := m_puts_next B (m_tell 120 (m_cnt (m_mv B w) 40) ++ m_rows B w 40 ++ m_tell (112) (m_pq σ w))
                try simp only [List.length_append, List.length_cons, List.length_nil] at hx7
                have hy8 := m_puts_cnt B (m_tell 120 (m_cnt (m_mv B w) 40) ++ m_rows B w 40 ++ m_tell (112) (m_pq σ w))
                have hu9 := m_tell_len (101) ((B.1 0 16))
                have hu10 : (m_tell (101) ((B.1 0 16))).length = (dig ((B.1 0 16))).length + 3 := by unfold m_tell; simp
                refine v_cVV (k := 0) (n := 2) C (mE_ok _) trivial hR (kM_putTold _ xCl D cA ad hJ (m_puts B (m_tell 120 (m_cnt (m_mv B w) 40) ++ m_rows B w 40 ++ m_tell (112) (m_pq σ w))) (101) ((B.1 0 16)) (by omega) (by omega) (by omega) (by omega) (by omega)) dM_putPart_155 (by show (0 : Nat) < 18; decide) rfl rfl gM_103 (by decide +kernel) (by decide) (by decide) rfl (Nat.le_of_ble_eq_true rfl) rfl ⟨rfl, rfl⟩ (fun τ3 hp3 => ?_)
                subst τ3
                refine v_st (σ1 := m_puts B (m_tell 120 (m_cnt (m_mv B w) 40) ++ m_rows B w 40 ++ m_tell (112) (m_pq σ w) ++ m_tell (101) ((B.1 0 16)))) (m_puts_app _ _ _).symm ?_
                · refine v_aload_n C dM_putPart_158 rfl rfl ?_
                  refine v_iload C dM_putPart_159 rfl ?_
                  refine v_putI (k := 0) (q := 26) C dM_putPart_161 (by show (0 : Nat) < 18; decide) rfl rfl (by decide) rfl inM tyM_ok nmM lM_113 rfl rfl rfl rfl rfl ?_
                  refine v_aload_n C dM_putPart_164 rfl rfl ?_
                  refine v_getI (k := 0) (q := 16) (v := B.1 0 16 + (m_tell 120 (m_cnt (m_mv B w) 40) ++ m_rows B w 40 ++ m_tell (112) (m_pq σ w) ++ m_tell (101) ((B.1 0 16)) : List Int).length) C dM_putPart_165 (by show (0 : Nat) < 18; decide) rfl rfl (by decide) rfl inM lM_82 rfl (m_puts_next _ _) ?_
                  exact v_iret C hRt hLk dM_putPart_168 (by unfold m_part; rw [← hBm]; exact ⟨by rw [p1_1, if_neg (by decide), m_puts_next]; rfl, rfl⟩)
            · refine v_iconst C dM_putPart_132 ?_
              refine v_top (b := m_pq σ w) (by unfold m_pq; rw [if_pos (by omega)]) ?_
              refine v_goto (tgt := 147) C dM_putPart_133 (by decide) ?_
              have hx11 := m_puts_next B (m_tell 120 (m_cnt (m_mv B w) 40) ++ m_rows B w 40)
              try simp only [List.length_append, List.length_cons, List.length_nil] at hx11
              have hy12 := m_puts_cnt B (m_tell 120 (m_cnt (m_mv B w) 40) ++ m_rows B w 40)
              have hu13 := m_tell_len (112) (m_pq σ w)
              have hu14 : (m_tell (112) (m_pq σ w)).length = (dig (m_pq σ w)).length + 3 := by unfold m_tell; simp
              refine v_cVV (k := 0) (n := 2) C (mE_ok _) trivial hR (kM_putTold _ xCl D cA ad hJ (m_puts B (m_tell 120 (m_cnt (m_mv B w) 40) ++ m_rows B w 40)) (112) (m_pq σ w) (by omega) (by omega) (by omega) (by omega) (by omega)) dM_putPart_147 (by show (0 : Nat) < 18; decide) rfl rfl gM_103 (by decide +kernel) (by decide) (by decide) rfl (Nat.le_of_ble_eq_true rfl) rfl ⟨rfl, rfl⟩ (fun τ4 hp4 => ?_)
              subst τ4
              refine v_st (σ1 := m_puts B (m_tell 120 (m_cnt (m_mv B w) 40) ++ m_rows B w 40 ++ m_tell (112) (m_pq σ w))) (m_puts_app _ _ _).symm ?_
              · refine v_aload_n C dM_putPart_150 rfl rfl ?_
                refine v_bipush C dM_putPart_151 (by decide +kernel) ?_
                refine v_iload C dM_putPart_153 rfl ?_
                have hx15 := m_puts_next B (m_tell 120 (m_cnt (m_mv B w) 40) ++ m_rows B w 40 ++ m_tell (112) (m_pq σ w))
                try simp only [List.length_append, List.length_cons, List.length_nil] at hx15
                have hy16 := m_puts_cnt B (m_tell 120 (m_cnt (m_mv B w) 40) ++ m_rows B w 40 ++ m_tell (112) (m_pq σ w))
                have hu17 := m_tell_len (101) ((B.1 0 16))
                have hu18 : (m_tell (101) ((B.1 0 16))).length = (dig ((B.1 0 16))).length + 3 := by unfold m_tell; simp
                refine v_cVV (k := 0) (n := 2) C (mE_ok _) trivial hR (kM_putTold _ xCl D cA ad hJ (m_puts B (m_tell 120 (m_cnt (m_mv B w) 40) ++ m_rows B w 40 ++ m_tell (112) (m_pq σ w))) (101) ((B.1 0 16)) (by omega) (by omega) (by omega) (by omega) (by omega)) dM_putPart_155 (by show (0 : Nat) < 18; decide) rfl rfl gM_103 (by decide +kernel) (by decide) (by decide) rfl (Nat.le_of_ble_eq_true rfl) rfl ⟨rfl, rfl⟩ (fun τ5 hp5 => ?_)
                subst τ5
                refine v_st (σ1 := m_puts B (m_tell 120 (m_cnt (m_mv B w) 40) ++ m_rows B w 40 ++ m_tell (112) (m_pq σ w) ++ m_tell (101) ((B.1 0 16)))) (m_puts_app _ _ _).symm ?_
                · refine v_aload_n C dM_putPart_158 rfl rfl ?_
                  refine v_iload C dM_putPart_159 rfl ?_
                  refine v_putI (k := 0) (q := 26) C dM_putPart_161 (by show (0 : Nat) < 18; decide) rfl rfl (by decide) rfl inM tyM_ok nmM lM_113 rfl rfl rfl rfl rfl ?_
                  refine v_aload_n C dM_putPart_164 rfl rfl ?_
                  refine v_getI (k := 0) (q := 16) (v := B.1 0 16 + (m_tell 120 (m_cnt (m_mv B w) 40) ++ m_rows B w 40 ++ m_tell (112) (m_pq σ w) ++ m_tell (101) ((B.1 0 16)) : List Int).length) C dM_putPart_165 (by show (0 : Nat) < 18; decide) rfl rfl (by decide) rfl inM lM_82 rfl (m_puts_next _ _) ?_
                  exact v_iret C hRt hLk dM_putPart_168 (by unfold m_part; rw [← hBm]; exact ⟨by rw [p1_1, if_neg (by decide), m_puts_next]; rfl, rfl⟩)
          · exfalso; omega
        | succ m ih =>
          intro k hk
          have hle := (m_rows_le B w (k + 1) m).1
          rw [show k + 1 + m = 40 by omega] at hle
          rw [show m_rows B w (k + 1) = m_rows B w k ++ (if m_mv B w (k + 1) = 1 then m_row B ((k : Int) + 1) else []) from rfl, List.length_append] at hle
          have hkt : ((k : Int) + 1).toNat = k + 1 := by omega
          have hrl := m_row_len B ((k : Int) + 1)
          refine v_iload C dM_putPart_96 rfl ?_
          refine v_bipush C dM_putPart_98 (by decide +kernel) ?_
          refine v_icmp_gt (tgt := 125) C dM_putPart_100 (by decide) (by omega) (by omega) (fun hc19 => ?_) (fun hc19 => ?_)
          · exfalso; omega
          · refine v_aload_n C dM_putPart_103 rfl rfl ?_
            refine v_iload C dM_putPart_104 rfl ?_
            refine v_iload_n C dM_putPart_106 rfl rfl ?_
            have hm1 : ∀ i, 0 ≤ (m_puts B (m_tell 120 (m_cnt (m_mv B w) 40) ++ m_rows B w k)).2 1 i ∧ (m_puts B (m_tell 120 (m_cnt (m_mv B w) 40) ++ m_rows B w k)).2 1 i ≤ 1 := fun i => by rw [m_puts_2 _ _ _ _ (by decide)]; rw [hBa 1 i (by decide) (by decide) (by decide)]; exact h1 i
            have hm3 : ∀ i, 0 ≤ (m_puts B (m_tell 120 (m_cnt (m_mv B w) 40) ++ m_rows B w k)).2 3 i ∧ (m_puts B (m_tell 120 (m_cnt (m_mv B w) 40) ++ m_rows B w k)).2 3 i ≤ 1 := fun i => by rw [m_puts_2 _ _ _ _ (by decide)]; rw [hBa 3 i (by decide) (by decide) (by decide)]; exact h3 i
            have hmv : m_mv B w (((k : Int) + 1)).toNat = m_mv B w (((k : Int) + 1)).toNat := rfl
            unfold m_mv at hmv
            refine v_cVI (k := 0) (n := 2) C (mE_ok _) trivial hR (kM_isMeant _ xCl D cA ad hJ (m_puts B (m_tell 120 (m_cnt (m_mv B w) 40) ++ m_rows B w k)) (((k : Int) + 1)) w (by omega) (by omega) hm1 hm3) dM_putPart_107 (by show (0 : Nat) < 18; decide) rfl rfl gM_92 (by decide +kernel) (by decide) (by decide) rfl (Nat.le_of_ble_eq_true rfl) rfl ⟨rfl, rfl⟩ (fun r6 τ6 hp6 => ?_)
            rw [m_puts_2 _ _ _ _ (by decide), m_puts_2 _ _ _ _ (by decide)] at hp6
            have hv6 : r6 = m_mv B w (((k : Int) + 1)).toNat ∧ τ6 = (m_puts B (m_tell 120 (m_cnt (m_mv B w) 40) ++ m_rows B w k)) := by unfold m_mv; rcases hp6 with ⟨h9, h8, h7⟩ | ⟨h9, h8, h7⟩; (· rw [if_pos h9]; exact ⟨h8, h7⟩); (· rw [if_neg (by omega)]; exact ⟨h8, h7⟩)
            obtain ⟨hv6, he6⟩ := hv6
            subst τ6
            have hmb := hmv01 (((k : Int) + 1)).toNat
            · refine v_if_eq (tgt := 119) C dM_putPart_110 (by decide) (by omega) (fun hc20 => ?_) (fun hc20 => ?_)
              · refine v_iinc C dM_putPart_119 rfl (by decide) ?_
                refine v_goto (tgt := 96) C dM_putPart_122 (by decide) ?_
                exact v_lv rfl (v_st (by show _ = m_puts B (_ ++ (m_rows B w k ++ (if m_mv B w (k + 1) = 1 then m_row B ((k : Int) + 1) else []))); rw [if_neg (by rw [← hkt]; omega), List.append_nil]) (ih (k + 1) (by omega)))
              · rw [if_pos (by rw [← hkt]; omega)] at hle
                refine v_aload_n C dM_putPart_113 rfl rfl ?_
                refine v_iload C dM_putPart_114 rfl ?_
                have hx21 := m_puts_next B (m_tell 120 (m_cnt (m_mv B w) 40) ++ m_rows B w k)
                try simp only [List.length_append, List.length_cons, List.length_nil] at hx21
                have hy22 := m_puts_cnt B (m_tell 120 (m_cnt (m_mv B w) 40) ++ m_rows B w k)
                have hq1 : ∀ i, (m_puts B (m_tell 120 (m_cnt (m_mv B w) 40) ++ m_rows B w k)).2 1 i = B.2 1 i := fun i => m_puts_2 _ _ _ _ (by decide)
                have hq13 : ∀ i, (m_puts B (m_tell 120 (m_cnt (m_mv B w) 40) ++ m_rows B w k)).2 13 i = B.2 13 i := fun i => m_puts_2 _ _ _ _ (by decide)
                have hrc := m_row_congr hq1 hq13 (((k : Int) + 1))
                refine v_cVV (k := 0) (n := 1) C (mE_ok _) trivial hR (kM_putRow _ xCl D cA ad hJ (m_puts B (m_tell 120 (m_cnt (m_mv B w) 40) ++ m_rows B w k)) (((k : Int) + 1)) (by omega) (fun i => by rw [hq1, hBa 1 i (by decide) (by decide) (by decide)]; exact h1 i) (fun i => by rw [hq13]; exact hB13 i) (by omega) (by omega) (by rw [hrc]; omega)) dM_putPart_116 (by show (0 : Nat) < 18; decide) rfl rfl gM_107 (by decide +kernel) (by decide) (by decide) rfl (Nat.le_of_ble_eq_true rfl) rfl ⟨rfl, rfl⟩ (fun τ7 hp7 => ?_)
                subst τ7
                refine v_st (σ1 := m_puts B (m_tell 120 (m_cnt (m_mv B w) 40) ++ m_rows B w k ++ m_row B (((k : Int) + 1)))) (by rw [hrc]; exact (m_puts_app _ _ _).symm) ?_
                · refine v_iinc C dM_putPart_119 rfl (by decide) ?_
                  refine v_goto (tgt := 96) C dM_putPart_122 (by decide) ?_
                  exact v_lv rfl (v_st (by rw [List.append_assoc]; show _ = m_puts B (_ ++ (m_rows B w k ++ (if m_mv B w (k + 1) = 1 then m_row B ((k : Int) + 1) else []))); rw [if_pos (by rw [← hkt]; omega)]) (ih (k + 1) (by omega)))
      have LC : ∀ (m k : Nat), m + k = 40 → fv z (mG xCl D cA ad) 7 (f_R z (mG xCl D cA ad) (f_QI (fun r σ1 => r = (m_part σ a w how).1 0 16 ∧ σ1 = m_part σ a w how) (mG xCl D cA ad))) 0 0 B 51 [some (.ref (ad 0)), some (.int (fI a)), some (.int (fI w)), some (.int (fI how)), some (.int (fI (B.1 0 16))), some (.int (fI (m_cnt (m_mv B w) k))), some (.int (fI ((k : Int) + 1)))] [] := by
        intro m
        induction m with
        | zero =>
          intro k hk
          have hk40 : k = 40 := by omega
          subst hk40
          refine v_iload C dM_putPart_51 rfl ?_
          refine v_bipush C dM_putPart_53 (by decide +kernel) ?_
          refine v_icmp_gt (tgt := 85) C dM_putPart_55 (by decide) (by omega) (by omega) (fun hc23 => ?_) (fun hc23 => ?_)
          · refine v_aload_n C dM_putPart_85 rfl rfl ?_
            refine v_bipush C dM_putPart_86 (by decide +kernel) ?_
            refine v_iload C dM_putPart_88 rfl ?_
            have hu24 := m_tell_len (120) ((m_cnt (m_mv B w) 40))
            have hu25 : (m_tell (120) ((m_cnt (m_mv B w) 40))).length = (dig ((m_cnt (m_mv B w) 40))).length + 3 := by unfold m_tell; simp
            refine v_cVV (k := 0) (n := 2) C (mE_ok _) trivial hR (kM_putTold _ xCl D cA ad hJ B (120) ((m_cnt (m_mv B w) 40)) (by omega) (by omega) (by omega) (by omega) (by omega)) dM_putPart_90 (by show (0 : Nat) < 18; decide) rfl rfl gM_103 (by decide +kernel) (by decide) (by decide) rfl (Nat.le_of_ble_eq_true rfl) rfl ⟨rfl, rfl⟩ (fun τ8 hp8 => ?_)
            subst τ8
            · refine v_iconst C dM_putPart_93 ?_
              refine v_istore C dM_putPart_94 (by decide) ?_
              exact v_lv rfl (v_st (by rw [show m_rows B w 0 = [] from rfl, List.append_nil]) (LR 40 0 (by omega)))
          · exfalso; omega
        | succ m ih =>
          intro k hk
          have hkt : ((k : Int) + 1).toNat = k + 1 := by omega
          have hcs : m_cnt (m_mv B w) (k + 1) = m_cnt (m_mv B w) k + (if m_mv B w (k + 1) = 1 then 1 else 0) := rfl
          refine v_iload C dM_putPart_51 rfl ?_
          refine v_bipush C dM_putPart_53 (by decide +kernel) ?_
          refine v_icmp_gt (tgt := 85) C dM_putPart_55 (by decide) (by omega) (by omega) (fun hc26 => ?_) (fun hc26 => ?_)
          · exfalso; omega
          · refine v_aload_n C dM_putPart_58 rfl rfl ?_
            refine v_iload C dM_putPart_59 rfl ?_
            refine v_iload_n C dM_putPart_61 rfl rfl ?_
            have hm1 : ∀ i, 0 ≤ B.2 1 i ∧ B.2 1 i ≤ 1 := fun i => by rw [hBa 1 i (by decide) (by decide) (by decide)]; exact h1 i
            have hm3 : ∀ i, 0 ≤ B.2 3 i ∧ B.2 3 i ≤ 1 := fun i => by rw [hBa 3 i (by decide) (by decide) (by decide)]; exact h3 i
            have hmv : m_mv B w (((k : Int) + 1)).toNat = m_mv B w (((k : Int) + 1)).toNat := rfl
            unfold m_mv at hmv
            refine v_cVI (k := 0) (n := 2) C (mE_ok _) trivial hR (kM_isMeant _ xCl D cA ad hJ B (((k : Int) + 1)) w (by omega) (by omega) hm1 hm3) dM_putPart_62 (by show (0 : Nat) < 18; decide) rfl rfl gM_92 (by decide +kernel) (by decide) (by decide) rfl (Nat.le_of_ble_eq_true rfl) rfl ⟨rfl, rfl⟩ (fun r9 τ9 hp9 => ?_)
            have hv9 : r9 = m_mv B w (((k : Int) + 1)).toNat ∧ τ9 = B := by unfold m_mv; rcases hp9 with ⟨h9, h8, h7⟩ | ⟨h9, h8, h7⟩; (· rw [if_pos h9]; exact ⟨h8, h7⟩); (· rw [if_neg (by omega)]; exact ⟨h8, h7⟩)
            obtain ⟨hv9, he9⟩ := hv9
            subst τ9
            have hmb := hmv01 (((k : Int) + 1)).toNat
            · refine v_if_eq (tgt := 75) C dM_putPart_65 (by decide) (by omega) (fun hc27 => ?_) (fun hc27 => ?_)
              · refine v_iload C dM_putPart_75 rfl ?_
                refine v_istore C dM_putPart_77 (by decide) ?_
                refine v_iinc C dM_putPart_79 rfl (by decide) ?_
                refine v_goto (tgt := 51) C dM_putPart_82 (by decide) ?_
                exact v_lv (by rw [hcs]; (first | rw [if_pos (by rw [← hkt]; omega)] | rw [if_neg (by rw [← hkt]; omega), Int.add_zero]); rfl) (ih (k + 1) (by omega))
              · refine v_iload C dM_putPart_68 rfl ?_
                refine v_iconst C dM_putPart_70 ?_
                refine v_iadd C dM_putPart_71 ?_
                refine v_goto (tgt := 77) C dM_putPart_72 (by decide) ?_
                refine v_istore C dM_putPart_77 (by decide) ?_
                refine v_iinc C dM_putPart_79 rfl (by decide) ?_
                refine v_goto (tgt := 51) C dM_putPart_82 (by decide) ?_
                exact v_lv (by rw [hcs]; (first | rw [if_pos (by rw [← hkt]; omega)] | rw [if_neg (by rw [← hkt]; omega), Int.add_zero]); rfl) (ih (k + 1) (by omega))
      refine v_aload_n C dM_putPart_39 rfl rfl ?_
      refine v_getI (k := 0) (q := 16) (v := B.1 0 16) C dM_putPart_40 (by show (0 : Nat) < 18; decide) rfl rfl (by decide) rfl inM lM_82 rfl rfl ?_
      refine v_istore C dM_putPart_43 (by decide) ?_
      refine v_iconst C dM_putPart_45 ?_
      refine v_istore C dM_putPart_46 (by decide) ?_
      refine v_iconst C dM_putPart_48 ?_
      refine v_istore C dM_putPart_49 (by decide) ?_
      exact v_lv rfl (LC 40 0 (by omega))
  refine v_aload_n C dM_putPart_0 rfl rfl ?_
  refine v_iload_n C dM_putPart_1 rfl rfl ?_
  refine v_putI (k := 0) (q := 16) C dM_putPart_2 (by show (0 : Nat) < 18; decide) rfl rfl (by decide) rfl inM tyM_ok nmM lM_82 rfl rfl rfl rfl rfl ?_
  refine v_st (σ1 := m_puts (f_p1 σ 0 16 a) []) rfl ?_
  refine v_iload_n C dM_putPart_5 rfl rfl ?_
  refine v_if_eq (tgt := 33) C dM_putPart_6 (by decide) (by omega) (fun hc28 => ?_) (fun hc28 => ?_)
  · exact v_st (by rw [if_neg (by omega)]) KA
  · refine v_aload_n C dM_putPart_9 rfl rfl ?_
    refine v_bipush C dM_putPart_10 (by decide +kernel) ?_
    have hx29 := m_puts_next (f_p1 σ 0 16 a) ([])
    try simp only [List.length_append, List.length_cons, List.length_nil] at hx29
    have hy30 := m_puts_cnt (f_p1 σ 0 16 a) ([])
    change _ = a + _ at hx29
    change _ = σ.1 0 17 at hy30
    refine v_cVV (k := 0) (n := 1) C (mE_ok _) trivial hR (kM_put _ xCl D cA ad hJ (m_puts (f_p1 σ 0 16 a) ([])) (37) (by omega) (by omega) (by omega) (by omega)) dM_putPart_12 (by show (0 : Nat) < 18; decide) rfl rfl gM_85 (by decide +kernel) (by decide) (by decide) rfl (Nat.le_of_ble_eq_true rfl) rfl ⟨rfl, rfl⟩ (fun σ1 hp1 => ?_)
    subst σ1
    refine v_st (σ1 := m_puts (f_p1 σ 0 16 a) ([37])) (rfl) ?_
    refine v_aload_n C dM_putPart_15 rfl rfl ?_
    refine v_bipush C dM_putPart_16 (by decide +kernel) ?_
    have hx31 := m_puts_next (f_p1 σ 0 16 a) ([37])
    try simp only [List.length_append, List.length_cons, List.length_nil] at hx31
    have hy32 := m_puts_cnt (f_p1 σ 0 16 a) ([37])
    change _ = a + _ at hx31
    change _ = σ.1 0 17 at hy32
    refine v_cVV (k := 0) (n := 1) C (mE_ok _) trivial hR (kM_put _ xCl D cA ad hJ (m_puts (f_p1 σ 0 16 a) ([37])) (70) (by omega) (by omega) (by omega) (by omega)) dM_putPart_18 (by show (0 : Nat) < 18; decide) rfl rfl gM_85 (by decide +kernel) (by decide) (by decide) rfl (Nat.le_of_ble_eq_true rfl) rfl ⟨rfl, rfl⟩ (fun σ1 hp1 => ?_)
    subst σ1
    refine v_st (σ1 := m_puts (f_p1 σ 0 16 a) ([37] ++ [70])) (m_puts_snoc _ _ _) ?_
    refine v_aload_n C dM_putPart_21 rfl rfl ?_
    refine v_bipush C dM_putPart_22 (by decide +kernel) ?_
    have hx33 := m_puts_next (f_p1 σ 0 16 a) ([37] ++ [70])
    try simp only [List.length_append, List.length_cons, List.length_nil] at hx33
    have hy34 := m_puts_cnt (f_p1 σ 0 16 a) ([37] ++ [70])
    change _ = a + _ at hx33
    change _ = σ.1 0 17 at hy34
    refine v_cVV (k := 0) (n := 1) C (mE_ok _) trivial hR (kM_put _ xCl D cA ad hJ (m_puts (f_p1 σ 0 16 a) ([37] ++ [70])) (49) (by omega) (by omega) (by omega) (by omega)) dM_putPart_24 (by show (0 : Nat) < 18; decide) rfl rfl gM_85 (by decide +kernel) (by decide) (by decide) rfl (Nat.le_of_ble_eq_true rfl) rfl ⟨rfl, rfl⟩ (fun σ1 hp1 => ?_)
    subst σ1
    refine v_st (σ1 := m_puts (f_p1 σ 0 16 a) ([37] ++ [70] ++ [49])) (m_puts_snoc _ _ _) ?_
    refine v_aload_n C dM_putPart_27 rfl rfl ?_
    refine v_bipush C dM_putPart_28 (by decide +kernel) ?_
    have hx35 := m_puts_next (f_p1 σ 0 16 a) ([37] ++ [70] ++ [49])
    try simp only [List.length_append, List.length_cons, List.length_nil] at hx35
    have hy36 := m_puts_cnt (f_p1 σ 0 16 a) ([37] ++ [70] ++ [49])
    change _ = a + _ at hx35
    change _ = σ.1 0 17 at hy36
    refine v_cVV (k := 0) (n := 1) C (mE_ok _) trivial hR (kM_put _ xCl D cA ad hJ (m_puts (f_p1 σ 0 16 a) ([37] ++ [70] ++ [49])) (10) (by omega) (by omega) (by omega) (by omega)) dM_putPart_30 (by show (0 : Nat) < 18; decide) rfl rfl gM_85 (by decide +kernel) (by decide) (by decide) rfl (Nat.le_of_ble_eq_true rfl) rfl ⟨rfl, rfl⟩ (fun σ1 hp1 => ?_)
    subst σ1
    refine v_st (σ1 := m_puts (f_p1 σ 0 16 a) ([37] ++ [70] ++ [49] ++ [10])) (m_puts_snoc _ _ _) ?_
    exact v_st (by rw [if_pos (by omega)]; rfl) KA
end
section
/-- what is remembered of object n in a revision's row -/
def m_rv (σ : fS) (w : Int) (a b n : Nat) : Int :=
  if m_mv σ w n = 1 then (if a = 10 then (if σ.2 1 n = 1 then σ.2 13 n else -1) else if a = 11 then σ.2 14 n else σ.2 5 n)
  else if w = 1 then (if a = 10 then -1 else σ.2 a b) else σ.2 a (b - 41)
def m_rem (σ : fS) (w : Int) (r k : Nat) : fS := (σ.1, fun a b => if (a = 10 ∨ a = 11 ∨ a = 12) ∧ 41 * r + 1 ≤ b ∧ b < 41 * r + k then m_rv σ w a b (b - 41 * r) else σ.2 a b)
theorem m_rem_o (σ : fS) (w : Int) (r k a b : Nat) (h : ¬ ((a = 10 ∨ a = 11 ∨ a = 12) ∧ 41 * r + 1 ≤ b ∧ b < 41 * r + k)) : (m_rem σ w r k).2 a b = σ.2 a b := if_neg h
theorem m_rem_0 (σ : fS) (w : Int) (r : Nat) : σ = m_rem σ w r 1 := fS_ext (fun _ _ => rfl) (fun a b => (m_rem_o σ w r 1 a b (by omega)).symm)
theorem m_rem_s (σ S : fS) (w : Int) (r k : Nat) (hk : 1 ≤ k) (h1 : ∀ a b, S.1 a b = σ.1 a b) (h2 : ∀ a b, S.2 a b = if (a = 10 ∨ a = 11 ∨ a = 12) ∧ b = 41 * r + k then m_rv σ w a b k else (m_rem σ w r k).2 a b) : S = m_rem σ w r (k + 1) := by
  refine fS_ext h1 (fun a b => ?_)
  rw [h2]
  show _ = if (a = 10 ∨ a = 11 ∨ a = 12) ∧ 41 * r + 1 ≤ b ∧ b < 41 * r + (k + 1) then m_rv σ w a b (b - 41 * r) else σ.2 a b
  by_cases h : (a = 10 ∨ a = 11 ∨ a = 12) ∧ b = 41 * r + k
  · rw [if_pos h, if_pos (by omega), show b - 41 * r = k by omega]
  · rw [if_neg h]
    show (if (a = 10 ∨ a = 11 ∨ a = 12) ∧ 41 * r + 1 ≤ b ∧ b < 41 * r + k then m_rv σ w a b (b - 41 * r) else σ.2 a b) = _
    by_cases h9 : (a = 10 ∨ a = 11 ∨ a = 12) ∧ 41 * r + 1 ≤ b ∧ b < 41 * r + k
    · rw [if_pos h9, if_pos (by omega)]
    · rw [if_neg h9, if_neg (by omega)]
theorem m_rem_A (σ : fS) (w : Int) (r k : Nat) (hk : 1 ≤ k) (hm : m_mv σ w k = 1) (v : Int) (hv : v = if σ.2 1 k = 1 then σ.2 13 k else -1) : f_p2 (f_p2 (f_p2 (m_rem σ w r k) 10 (41 * r + k) v) 11 (41 * r + k) (σ.2 14 k)) 12 (41 * r + k) (σ.2 5 k) = m_rem σ w r (k + 1) := by
  refine m_rem_s σ _ w r k hk (fun _ _ => rfl) (fun a b => ?_)
  rw [p2_2, p2_2, p2_2]
  unfold m_rv
  rw [if_pos hm]
  by_cases hb : b = 41 * r + k
  · subst hb
    by_cases g1 : a = 10
    · subst g1; simp [hv]
    · by_cases g2 : a = 11
      · subst g2; simp
      · by_cases g3 : a = 12
        · subst g3; simp
        · simp [g1, g2, g3]
  · simp [hb]
theorem m_rem_B (σ : fS) (w : Int) (r k : Nat) (hk : 1 ≤ k) (hm : ¬ m_mv σ w k = 1) (hw : w = 1) : f_p2 (m_rem σ w r k) 10 (41 * r + k) (-1) = m_rem σ w r (k + 1) := by
  refine m_rem_s σ _ w r k hk (fun _ _ => rfl) (fun a b => ?_)
  rw [p2_2]
  unfold m_rv
  rw [if_neg hm, if_pos hw]
  by_cases hb : b = 41 * r + k
  · subst hb
    have ho := m_rem_o σ w r k a (41 * r + k) (by omega)
    by_cases g1 : a = 10
    · subst g1; simp
    · simp only [g1, false_and, if_false, false_or, and_true, ho]
      split <;> rfl
  · simp [hb]
theorem m_rem_C (σ : fS) (w : Int) (r k : Nat) (hk : 1 ≤ k) (hm : ¬ m_mv σ w k = 1) (hw : ¬ w = 1) : f_p2 (f_p2 (f_p2 (m_rem σ w r k) 10 (41 * r + k) (σ.2 10 (41 * r + k - 41))) 11 (41 * r + k) (σ.2 11 (41 * r + k - 41))) 12 (41 * r + k) (σ.2 12 (41 * r + k - 41)) = m_rem σ w r (k + 1) := by
  refine m_rem_s σ _ w r k hk (fun _ _ => rfl) (fun a b => ?_)
  rw [p2_2, p2_2, p2_2]
  unfold m_rv
  rw [if_neg hm, if_neg hw]
  by_cases hb : b = 41 * r + k
  · subst hb
    by_cases g1 : a = 10
    · subst g1; simp
    · by_cases g2 : a = 11
      · subst g2; simp
      · by_cases g3 : a = 12
        · subst g3; simp
        · simp [g1, g2, g3]
  · simp [hb]
/-- a revision is remembered -/
def m_remd (σ : fS) (w : Int) (r : Nat) : fS := f_p1 (f_p2 (f_p2 (m_rem σ w r 41) 8 r (σ.1 0 7)) 9 r (σ.1 0 26)) 0 10 ((r : Int) + 1)
def m_rr (σ : fS) (w : Int) : Nat := if w = 1 then 0 else (σ.1 0 10).toNat
set_option maxRecDepth 100000 in
set_option maxHeartbeats 4000000 in
/-- remember(whole) -/
theorem kM_remember (l : Launch) (xCl : List vw_C) (D : va_G) (cA : Nat → ClassId) (ad : Nat → Nat) (hJ : f_J (mG xCl D cA ad)) (σ : fS) (w : Int) (hw : w = 0 ∨ w = 1) (hrv : w = 0 → 1 ≤ σ.1 0 10 ∧ σ.1 0 10 ≤ 59) (h1 : ∀ i, 0 ≤ σ.2 1 i ∧ σ.2 1 i ≤ 1) (h3 : ∀ i, 0 ≤ σ.2 3 i ∧ σ.2 3 i ≤ 1) : f_M l (mG xCl D cA ad) mE yM_remember (Cond.code yM_remember cM_remember 5 none :: A9) 1 σ [.ref (ad 0), .int (fI w)] (f_QV (fun σ1 => σ1 = m_remd σ w (m_rr σ w)) (mG xCl D cA ad)) := by
  refine f_enter (by decide +kernel) hJ rfl (Nat.le_of_ble_eq_true rfl) ?_
  intro z hzl hR C hRt hLk hEz
  subst hzl
  have L : ∀ (r : Nat), r = m_rr σ w → r ≤ 59 → (w = 0 → 1 ≤ r) → ∀ (m k : Nat), m + k = 41 → 1 ≤ k → fv z (mG xCl D cA ad) 5 (f_R z (mG xCl D cA ad) (f_QV (fun σ1 => σ1 = m_remd σ w (m_rr σ w)) (mG xCl D cA ad))) 0 0 (m_rem σ w r k) 15 [some (.ref (ad 0)), some (.int (fI w)), some (.int (fI (r : Int))), some (.int (fI (k : Int))), none] [] := by
    intro r hr hr59 hr1 m
    induction m with
    | zero =>
      intro k hk hk1
      have hk41 : k = 41 := by omega
      subst hk41
      refine v_iload_n C dM_remember_15 rfl rfl ?_
      refine v_bipush C dM_remember_16 (by decide +kernel) ?_
      refine v_icmp_gt (tgt := 165) C dM_remember_18 (by decide) (by omega) (by omega) (fun hc1 => ?_) (fun hc1 => ?_)
      · refine v_aload_n C dM_remember_165 rfl rfl ?_
        refine v_getR (k := 0) (q := 11) C dM_remember_166 (by show (0 : Nat) < 18; decide) rfl rfl (by decide) rfl inM lM_33 rfl ?_
        refine v_iload_n C dM_remember_169 rfl rfl ?_
        refine v_aload_n C dM_remember_170 rfl rfl ?_
        refine v_getI (k := 0) (q := 7) (v := σ.1 0 7) C dM_remember_171 (by show (0 : Nat) < 18; decide) rfl rfl (by decide) rfl inM lM_116 rfl rfl ?_
        refine v_iast (k := 8) C dM_remember_174 (by show (8 : Nat) < 18; decide) rfl rfl (by omega) (by decide) ?_
        refine v_aload_n C dM_remember_175 rfl rfl ?_
        refine v_getR (k := 0) (q := 12) C dM_remember_176 (by show (0 : Nat) < 18; decide) rfl rfl (by decide) rfl inM lM_36 rfl ?_
        refine v_iload_n C dM_remember_179 rfl rfl ?_
        refine v_aload_n C dM_remember_180 rfl rfl ?_
        refine v_getI (k := 0) (q := 26) (v := σ.1 0 26) C dM_remember_181 (by show (0 : Nat) < 18; decide) rfl rfl (by decide) rfl inM lM_113 rfl rfl ?_
        refine v_iast (k := 9) C dM_remember_184 (by show (9 : Nat) < 18; decide) rfl rfl (by omega) (by decide) ?_
        refine v_aload_n C dM_remember_185 rfl rfl ?_
        refine v_iload_n C dM_remember_186 rfl rfl ?_
        refine v_iconst C dM_remember_187 ?_
        refine v_iadd C dM_remember_188 ?_
        refine v_putI (k := 0) (q := 10) C dM_remember_189 (by show (0 : Nat) < 18; decide) rfl rfl (by decide) rfl inM tyM_ok nmM lM_110 rfl rfl rfl rfl rfl ?_
        exact v_vret C hRt hLk dM_remember_192 (by unfold m_remd; rw [← hr]; simp only [Int.toNat_natCast])
      · exfalso; omega
    | succ m ih =>
      intro k hk hk1
      have hat : (41 * (r : Int) + (k : Int)).toNat = 41 * r + k := by omega
      have hat41 : (41 * (r : Int) + (k : Int) - 41).toNat = 41 * r + k - 41 := by omega
      have hkn : ((k : Int)).toNat = k := by omega
      have hb1 := h1 k
      have hb1e : σ.2 1 ((k : Int)).toNat = σ.2 1 k := by rw [hkn]
      have hmb : 0 ≤ m_mv σ w k ∧ m_mv σ w k ≤ 1 := by unfold m_mv; split; (· exact h1 k); (· exact h3 k)
      refine v_iload_n C dM_remember_15 rfl rfl ?_
      refine v_bipush C dM_remember_16 (by decide +kernel) ?_
      refine v_icmp_gt (tgt := 165) C dM_remember_18 (by decide) (by omega) (by omega) (fun hc2 => ?_) (fun hc2 => ?_)
      · exfalso; omega
      · refine v_bipush C dM_remember_21 (by decide +kernel) ?_
        refine v_iload_n C dM_remember_23 rfl rfl ?_
        refine v_imul C dM_remember_24 ?_
        refine v_iload_n C dM_remember_25 rfl rfl ?_
        refine v_iadd C dM_remember_26 ?_
        refine v_istore C dM_remember_27 (by decide) ?_
        refine v_aload_n C dM_remember_29 rfl rfl ?_
        refine v_iload_n C dM_remember_30 rfl rfl ?_
        refine v_iload_n C dM_remember_31 rfl rfl ?_
        have hm1 : ∀ i, 0 ≤ (m_rem σ w r k).2 1 i ∧ (m_rem σ w r k).2 1 i ≤ 1 := fun i => by rw [m_rem_o _ _ _ _ _ _ (by omega)]; exact h1 i
        have hm3 : ∀ i, 0 ≤ (m_rem σ w r k).2 3 i ∧ (m_rem σ w r k).2 3 i ≤ 1 := fun i => by rw [m_rem_o _ _ _ _ _ _ (by omega)]; exact h3 i
        refine v_cVI (k := 0) (n := 2) C (mE_ok _) trivial hR (kM_isMeant _ xCl D cA ad hJ (m_rem σ w r k) (k : Int) w (by omega) (by omega) hm1 hm3) dM_remember_32 (by show (0 : Nat) < 18; decide) rfl rfl gM_92 (by decide +kernel) (by decide) (by decide) rfl (Nat.le_of_ble_eq_true rfl) rfl ⟨rfl, rfl⟩ (fun r1 τ1 hp1 => ?_)
        rw [hkn, m_rem_o _ _ _ _ 1 _ (by omega), m_rem_o _ _ _ _ 3 _ (by omega)] at hp1
        have hv1 : r1 = m_mv σ w k ∧ τ1 = (m_rem σ w r k) := by unfold m_mv; rcases hp1 with ⟨h9, h8, h7⟩ | ⟨h9, h8, h7⟩; (· rw [if_pos h9]; exact ⟨h8, h7⟩); (· rw [if_neg (by omega)]; exact ⟨h8, h7⟩)
        obtain ⟨hv1, he1⟩ := hv1
        subst τ1
        · refine v_if_eq (tgt := 93) C dM_remember_35 (by decide) (by omega) (fun hc3 => ?_) (fun hc3 => ?_)
          · refine v_iload_n C dM_remember_93 rfl rfl ?_
            refine v_if_eq (tgt := 108) C dM_remember_94 (by decide) (by omega) (fun hc4 => ?_) (fun hc4 => ?_)
            · refine v_aload_n C dM_remember_108 rfl rfl ?_
              refine v_getR (k := 0) (q := 13) C dM_remember_109 (by show (0 : Nat) < 18; decide) rfl rfl (by decide) rfl inM lM_39 rfl ?_
              refine v_iload C dM_remember_112 rfl ?_
              refine v_aload_n C dM_remember_114 rfl rfl ?_
              refine v_getR (k := 0) (q := 13) C dM_remember_115 (by show (0 : Nat) < 18; decide) rfl rfl (by decide) rfl inM lM_39 rfl ?_
              refine v_iload C dM_remember_118 rfl ?_
              refine v_bipush C dM_remember_120 (by decide +kernel) ?_
              refine v_isub C dM_remember_122 ?_
              refine v_iald (k := 10) (v := σ.2 10 ((((41 * (r : Int)) + (k : Int)) - 41)).toNat) C dM_remember_123 (by show (10 : Nat) < 18; decide) rfl rfl (by omega) (by decide) (by (try simp only [p2_2]); (try rw [if_neg (by omega)]); (try rw [if_neg (by omega)]); exact m_rem_o _ _ _ _ _ _ (by omega)) ?_
              refine v_iast (k := 10) C dM_remember_124 (by show (10 : Nat) < 18; decide) rfl rfl (by omega) (by decide) ?_
              refine v_aload_n C dM_remember_125 rfl rfl ?_
              refine v_getR (k := 0) (q := 14) C dM_remember_126 (by show (0 : Nat) < 18; decide) rfl rfl (by decide) rfl inM lM_42 rfl ?_
              refine v_iload C dM_remember_129 rfl ?_
              refine v_aload_n C dM_remember_131 rfl rfl ?_
              refine v_getR (k := 0) (q := 14) C dM_remember_132 (by show (0 : Nat) < 18; decide) rfl rfl (by decide) rfl inM lM_42 rfl ?_
              refine v_iload C dM_remember_135 rfl ?_
              refine v_bipush C dM_remember_137 (by decide +kernel) ?_
              refine v_isub C dM_remember_139 ?_
              refine v_iald (k := 11) (v := σ.2 11 ((((41 * (r : Int)) + (k : Int)) - 41)).toNat) C dM_remember_140 (by show (11 : Nat) < 18; decide) rfl rfl (by omega) (by decide) (by (try simp only [p2_2]); (try rw [if_neg (by omega)]); (try rw [if_neg (by omega)]); exact m_rem_o _ _ _ _ _ _ (by omega)) ?_
              refine v_iast (k := 11) C dM_remember_141 (by show (11 : Nat) < 18; decide) rfl rfl (by omega) (by decide) ?_
              refine v_aload_n C dM_remember_142 rfl rfl ?_
              refine v_getR (k := 0) (q := 15) C dM_remember_143 (by show (0 : Nat) < 18; decide) rfl rfl (by decide) rfl inM lM_45 rfl ?_
              refine v_iload C dM_remember_146 rfl ?_
              refine v_aload_n C dM_remember_148 rfl rfl ?_
              refine v_getR (k := 0) (q := 15) C dM_remember_149 (by show (0 : Nat) < 18; decide) rfl rfl (by decide) rfl inM lM_45 rfl ?_
              refine v_iload C dM_remember_152 rfl ?_
              refine v_bipush C dM_remember_154 (by decide +kernel) ?_
              refine v_isub C dM_remember_156 ?_
              refine v_iald (k := 12) (v := σ.2 12 ((((41 * (r : Int)) + (k : Int)) - 41)).toNat) C dM_remember_157 (by show (12 : Nat) < 18; decide) rfl rfl (by omega) (by decide) (by (try simp only [p2_2]); (try rw [if_neg (by omega)]); (try rw [if_neg (by omega)]); exact m_rem_o _ _ _ _ _ _ (by omega)) ?_
              refine v_iast (k := 12) C dM_remember_158 (by show (12 : Nat) < 18; decide) rfl rfl (by omega) (by decide) ?_
              refine v_iinc C dM_remember_159 rfl (by decide) ?_
              refine v_goto (tgt := 15) C dM_remember_162 (by decide) ?_
              exact v_less (by exact ⟨rfl, rfl, rfl, rfl, trivial⟩) (v_st (by simp only [hat, hat41, hkn]; exact m_rem_C σ w r k hk1 (by omega) (by omega)) (ih (k + 1) (by omega) (by omega)))
            · refine v_aload_n C dM_remember_97 rfl rfl ?_
              refine v_getR (k := 0) (q := 13) C dM_remember_98 (by show (0 : Nat) < 18; decide) rfl rfl (by decide) rfl inM lM_39 rfl ?_
              refine v_iload C dM_remember_101 rfl ?_
              refine v_iconst C dM_remember_103 ?_
              refine v_iast (k := 10) C dM_remember_104 (by show (10 : Nat) < 18; decide) rfl rfl (by omega) (by decide) ?_
              refine v_goto (tgt := 159) C dM_remember_105 (by decide) ?_
              refine v_iinc C dM_remember_159 rfl (by decide) ?_
              refine v_goto (tgt := 15) C dM_remember_162 (by decide) ?_
              exact v_less (by exact ⟨rfl, rfl, rfl, rfl, trivial⟩) (v_st (by simp only [hat, hat41, hkn]; exact m_rem_B σ w r k hk1 (by omega) (by omega)) (ih (k + 1) (by omega) (by omega)))
          · refine v_aload_n C dM_remember_38 rfl rfl ?_
            refine v_getR (k := 0) (q := 13) C dM_remember_39 (by show (0 : Nat) < 18; decide) rfl rfl (by decide) rfl inM lM_39 rfl ?_
            refine v_iload C dM_remember_42 rfl ?_
            refine v_aload_n C dM_remember_44 rfl rfl ?_
            refine v_getR (k := 0) (q := 1) C dM_remember_45 (by show (0 : Nat) < 18; decide) rfl rfl (by decide) rfl inM lM_7 rfl ?_
            refine v_iload_n C dM_remember_48 rfl rfl ?_
            refine v_zald (k := 1) (v := σ.2 1 ((k : Int)).toNat) C dM_remember_49 (by show (1 : Nat) < 18; decide) rfl rfl (by omega) (by decide) (by (try simp only [p2_2]); (try rw [if_neg (by omega)]); (try rw [if_neg (by omega)]); exact m_rem_o _ _ _ _ _ _ (by omega)) ?_
            refine v_if_eq (tgt := 62) C dM_remember_50 (by decide) (by omega) (fun hc5 => ?_) (fun hc5 => ?_)
            · refine v_iconst C dM_remember_62 ?_
              refine v_iast (k := 10) C dM_remember_63 (by show (10 : Nat) < 18; decide) rfl rfl (by omega) (by decide) ?_
              refine v_aload_n C dM_remember_64 rfl rfl ?_
              refine v_getR (k := 0) (q := 14) C dM_remember_65 (by show (0 : Nat) < 18; decide) rfl rfl (by decide) rfl inM lM_42 rfl ?_
              refine v_iload C dM_remember_68 rfl ?_
              refine v_aload_n C dM_remember_70 rfl rfl ?_
              refine v_getR (k := 0) (q := 19) C dM_remember_71 (by show (0 : Nat) < 18; decide) rfl rfl (by decide) rfl inM lM_51 rfl ?_
              refine v_iload_n C dM_remember_74 rfl rfl ?_
              refine v_iald (k := 14) (v := σ.2 14 ((k : Int)).toNat) C dM_remember_75 (by show (14 : Nat) < 18; decide) rfl rfl (by omega) (by decide) (by (try simp only [p2_2]); (try rw [if_neg (by omega)]); (try rw [if_neg (by omega)]); exact m_rem_o _ _ _ _ _ _ (by omega)) ?_
              refine v_iast (k := 11) C dM_remember_76 (by show (11 : Nat) < 18; decide) rfl rfl (by omega) (by decide) ?_
              refine v_aload_n C dM_remember_77 rfl rfl ?_
              refine v_getR (k := 0) (q := 15) C dM_remember_78 (by show (0 : Nat) < 18; decide) rfl rfl (by decide) rfl inM lM_45 rfl ?_
              refine v_iload C dM_remember_81 rfl ?_
              refine v_aload_n C dM_remember_83 rfl rfl ?_
              refine v_getR (k := 0) (q := 5) C dM_remember_84 (by show (0 : Nat) < 18; decide) rfl rfl (by decide) rfl inM lM_22 rfl ?_
              refine v_iload_n C dM_remember_87 rfl rfl ?_
              refine v_iald (k := 5) (v := σ.2 5 ((k : Int)).toNat) C dM_remember_88 (by show (5 : Nat) < 18; decide) rfl rfl (by omega) (by decide) (by (try simp only [p2_2]); (try rw [if_neg (by omega)]); (try rw [if_neg (by omega)]); exact m_rem_o _ _ _ _ _ _ (by omega)) ?_
              refine v_iast (k := 12) C dM_remember_89 (by show (12 : Nat) < 18; decide) rfl rfl (by omega) (by decide) ?_
              refine v_goto (tgt := 159) C dM_remember_90 (by decide) ?_
              refine v_iinc C dM_remember_159 rfl (by decide) ?_
              refine v_goto (tgt := 15) C dM_remember_162 (by decide) ?_
              exact v_less (by exact ⟨rfl, rfl, rfl, rfl, trivial⟩) (v_st (by simp only [hat, hat41, hkn]; exact m_rem_A σ w r k hk1 (by omega) _ (by first | (rw [if_pos (by omega)]; done) | (rw [if_neg (by omega)]; done))) (ih (k + 1) (by omega) (by omega)))
            · refine v_aload_n C dM_remember_53 rfl rfl ?_
              refine v_getR (k := 0) (q := 18) C dM_remember_54 (by show (0 : Nat) < 18; decide) rfl rfl (by decide) rfl inM lM_48 rfl ?_
              refine v_iload_n C dM_remember_57 rfl rfl ?_
              refine v_iald (k := 13) (v := σ.2 13 ((k : Int)).toNat) C dM_remember_58 (by show (13 : Nat) < 18; decide) rfl rfl (by omega) (by decide) (by (try simp only [p2_2]); (try rw [if_neg (by omega)]); (try rw [if_neg (by omega)]); exact m_rem_o _ _ _ _ _ _ (by omega)) ?_
              refine v_goto (tgt := 63) C dM_remember_59 (by decide) ?_
              refine v_iast (k := 10) C dM_remember_63 (by show (10 : Nat) < 18; decide) rfl rfl (by omega) (by decide) ?_
              refine v_aload_n C dM_remember_64 rfl rfl ?_
              refine v_getR (k := 0) (q := 14) C dM_remember_65 (by show (0 : Nat) < 18; decide) rfl rfl (by decide) rfl inM lM_42 rfl ?_
              refine v_iload C dM_remember_68 rfl ?_
              refine v_aload_n C dM_remember_70 rfl rfl ?_
              refine v_getR (k := 0) (q := 19) C dM_remember_71 (by show (0 : Nat) < 18; decide) rfl rfl (by decide) rfl inM lM_51 rfl ?_
              refine v_iload_n C dM_remember_74 rfl rfl ?_
              refine v_iald (k := 14) (v := σ.2 14 ((k : Int)).toNat) C dM_remember_75 (by show (14 : Nat) < 18; decide) rfl rfl (by omega) (by decide) (by (try simp only [p2_2]); (try rw [if_neg (by omega)]); (try rw [if_neg (by omega)]); exact m_rem_o _ _ _ _ _ _ (by omega)) ?_
              refine v_iast (k := 11) C dM_remember_76 (by show (11 : Nat) < 18; decide) rfl rfl (by omega) (by decide) ?_
              refine v_aload_n C dM_remember_77 rfl rfl ?_
              refine v_getR (k := 0) (q := 15) C dM_remember_78 (by show (0 : Nat) < 18; decide) rfl rfl (by decide) rfl inM lM_45 rfl ?_
              refine v_iload C dM_remember_81 rfl ?_
              refine v_aload_n C dM_remember_83 rfl rfl ?_
              refine v_getR (k := 0) (q := 5) C dM_remember_84 (by show (0 : Nat) < 18; decide) rfl rfl (by decide) rfl inM lM_22 rfl ?_
              refine v_iload_n C dM_remember_87 rfl rfl ?_
              refine v_iald (k := 5) (v := σ.2 5 ((k : Int)).toNat) C dM_remember_88 (by show (5 : Nat) < 18; decide) rfl rfl (by omega) (by decide) (by (try simp only [p2_2]); (try rw [if_neg (by omega)]); (try rw [if_neg (by omega)]); exact m_rem_o _ _ _ _ _ _ (by omega)) ?_
              refine v_iast (k := 12) C dM_remember_89 (by show (12 : Nat) < 18; decide) rfl rfl (by omega) (by decide) ?_
              refine v_goto (tgt := 159) C dM_remember_90 (by decide) ?_
              refine v_iinc C dM_remember_159 rfl (by decide) ?_
              refine v_goto (tgt := 15) C dM_remember_162 (by decide) ?_
              exact v_less (by exact ⟨rfl, rfl, rfl, rfl, trivial⟩) (v_st (by simp only [hat, hat41, hkn]; exact m_rem_A σ w r k hk1 (by omega) _ (by first | (rw [if_pos (by omega)]; done) | (rw [if_neg (by omega)]; done))) (ih (k + 1) (by omega) (by omega)))
  refine v_iload_n C dM_remember_0 rfl rfl ?_
  refine v_if_eq (tgt := 8) C dM_remember_1 (by decide) (by omega) (fun hc6 => ?_) (fun hc6 => ?_)
  · refine v_aload_n C dM_remember_8 rfl rfl ?_
    refine v_getI (k := 0) (q := 10) (v := σ.1 0 10) C dM_remember_9 (by show (0 : Nat) < 18; decide) rfl rfl (by decide) rfl inM lM_110 rfl rfl ?_
    refine v_top (b := (((σ.1 0 10).toNat : Nat) : Int)) (by omega) ?_
    refine v_istore_n C dM_remember_12 rfl (by decide) ?_
    refine v_iconst C dM_remember_13 ?_
    refine v_istore_n C dM_remember_14 rfl (by decide) ?_
    exact v_less (by exact ⟨rfl, rfl, rfl, rfl, trivial⟩) (v_st (m_rem_0 σ w (σ.1 0 10).toNat) (L (σ.1 0 10).toNat (by unfold m_rr; rw [if_neg (by omega)]) (by omega) (by omega) 40 1 (by omega) (by omega)))
  · refine v_iconst C dM_remember_4 ?_
    refine v_goto (tgt := 12) C dM_remember_5 (by decide) ?_
    refine v_istore_n C dM_remember_12 rfl (by decide) ?_
    refine v_iconst C dM_remember_13 ?_
    refine v_istore_n C dM_remember_14 rfl (by decide) ?_
    exact v_less (by exact ⟨rfl, rfl, rfl, rfl, trivial⟩) (v_st (m_rem_0 σ w 0) (L 0 (by unfold m_rr; rw [if_pos (by omega)]) (by omega) (by omega) 40 1 (by omega) (by omega)))
end
section
theorem p1_p1 (σ : fS) (k q : Nat) (u v : Int) : f_p1 (f_p1 σ k q u) k q v = f_p1 σ k q v := by
  refine fS_ext (fun a b => ?_) (fun _ _ => rfl)
  rw [p1_1, p1_1, p1_1]
  split <;> rfl
set_option maxRecDepth 100000 in
set_option maxHeartbeats 4000000 in
/-- differ(a, b) -/
theorem kM_differ (l : Launch) (xCl : List vw_C) (D : va_G) (cA : Nat → ClassId) (ad : Nat → Nat) (hJ : f_J (mG xCl D cA ad)) (σ : fS) (a b : Int) (ha : -2147483648 ≤ a ∧ a ≤ 2147483647) (hb : -2147483648 ≤ b ∧ b ≤ 2147483647) (hr : 0 ≤ σ.1 0 10 ∧ σ.1 0 10 ≤ 60) (h7 : ∀ i, -128 ≤ σ.2 7 i ∧ σ.2 7 i ≤ 127) (h10 : ∀ i, -1 ≤ σ.2 10 i ∧ σ.2 10 i ≤ 99999) (h12 : ∀ i, 0 ≤ σ.2 12 i ∧ σ.2 12 i ≤ 120) (hst : ∀ i, 0 ≤ σ.2 11 i ∧ σ.2 11 i + σ.2 12 i ≤ 12000) : f_M l (mG xCl D cA ad) mE yM_differ (Cond.code yM_differ cM_differ 9 (some .int) :: A9) 1 σ [.ref (ad 0), .int (fI a), .int (fI b)] (f_QI (fun r σ1 => (¬ ((0 ≤ a ∧ a < σ.1 0 10) ∧ 0 ≤ b ∧ b < σ.1 0 10) ∧ r = 0 ∧ σ1 = f_p1 σ 0 0 1) ∨ (((0 ≤ a ∧ a < σ.1 0 10) ∧ 0 ≤ b ∧ b < σ.1 0 10) ∧ m_dfr σ σ1 ∧ σ1.1 0 0 = 0 ∧ σ1.1 0 28 = 1 ∧ σ1.1 0 29 = r ∧ 0 ≤ r ∧ r ≤ 40)) (mG xCl D cA ad)) := by
  refine f_enter (by decide +kernel) hJ rfl (Nat.le_of_ble_eq_true rfl) ?_
  intro z hzl hR C hRt hLk hEz
  subst hzl
  have L : ((0 ≤ a ∧ a < σ.1 0 10) ∧ 0 ≤ b ∧ b < σ.1 0 10) → ∀ (m : Nat) (k v : Int) (S : fS), k + m = 41 → 1 ≤ k → m_dfr σ S → S.1 0 0 = 0 → S.1 0 28 = 1 → S.1 0 29 = v → 0 ≤ v → v < k → fv z (mG xCl D cA ad) 9 (f_R z (mG xCl D cA ad) (f_QI (fun r σ1 => (¬ ((0 ≤ a ∧ a < σ.1 0 10) ∧ 0 ≤ b ∧ b < σ.1 0 10) ∧ r = 0 ∧ σ1 = f_p1 σ 0 0 1) ∨ (((0 ≤ a ∧ a < σ.1 0 10) ∧ 0 ≤ b ∧ b < σ.1 0 10) ∧ m_dfr σ σ1 ∧ σ1.1 0 0 = 0 ∧ σ1.1 0 28 = 1 ∧ σ1.1 0 29 = r ∧ 0 ≤ r ∧ r ≤ 40)) (mG xCl D cA ad))) 0 0 S 30 [some (.ref (ad 0)), some (.int (fI a)), some (.int (fI b)), some (.int (fI k)), none, none, none, none, none] [] := by
    intro hab m
    induction m with
    | zero =>
      intro k v S hk hk1 hS hS0 hS28 hS29 hv0 hv1
      refine v_iload_n C dM_differ_30 rfl rfl ?_
      refine v_bipush C dM_differ_31 (by decide +kernel) ?_
      refine v_icmp_gt (tgt := 180) C dM_differ_33 (by decide) (by omega) (by omega) (fun hc1 => ?_) (fun hc1 => ?_)
      · refine v_aload_n C dM_differ_180 rfl rfl ?_
        refine v_getI (k := 0) (q := 29) (v := v) C dM_differ_181 (by show (0 : Nat) < 18; decide) rfl rfl (by decide) rfl inM lM_204 rfl hS29 ?_
        exact v_iret C hRt hLk dM_differ_184 (Or.inr ⟨hab, hS, hS0, hS28, hS29, by omega, by omega⟩)
      · exfalso; omega
    | succ m ih =>
      intro k v S hk hk1 hS hS0 hS28 hS29 hv0 hv1
      have hpa := h10 (41 * a + k).toNat
      have hpb := h10 (41 * b + k).toNat
      refine v_iload_n C dM_differ_30 rfl rfl ?_
      refine v_bipush C dM_differ_31 (by decide +kernel) ?_
      refine v_icmp_gt (tgt := 180) C dM_differ_33 (by decide) (by omega) (by omega) (fun hc2 => ?_) (fun hc2 => ?_)
      · exfalso; omega
      · refine v_bipush C dM_differ_36 (by decide +kernel) ?_
        refine v_iload_n C dM_differ_38 rfl rfl ?_
        refine v_imul C dM_differ_39 ?_
        refine v_iload_n C dM_differ_40 rfl rfl ?_
        refine v_iadd C dM_differ_41 ?_
        refine v_istore C dM_differ_42 (by decide) ?_
        refine v_bipush C dM_differ_44 (by decide +kernel) ?_
        refine v_iload_n C dM_differ_46 rfl rfl ?_
        refine v_imul C dM_differ_47 ?_
        refine v_iload_n C dM_differ_48 rfl rfl ?_
        refine v_iadd C dM_differ_49 ?_
        refine v_istore C dM_differ_50 (by decide) ?_
        refine v_aload_n C dM_differ_52 rfl rfl ?_
        refine v_getR (k := 0) (q := 13) C dM_differ_53 (by show (0 : Nat) < 18; decide) rfl rfl (by decide) rfl inM lM_39 rfl ?_
        refine v_iload C dM_differ_56 rfl ?_
        refine v_iald (k := 10) (v := σ.2 10 (((41 * a) + k)).toNat) C dM_differ_58 (by show (10 : Nat) < 18; decide) rfl rfl (by omega) (by decide) (hS.1 10 _ (by decide) (by decide)) ?_
        refine v_iconst C dM_differ_59 ?_
        refine v_icmp_eq (tgt := 67) C dM_differ_60 (by decide) (by omega) (by omega) (fun hc3 => ?_) (fun hc3 => ?_)
        · refine v_iconst C dM_differ_67 ?_
          refine v_istore C dM_differ_68 (by decide) ?_
          refine v_aload_n C dM_differ_70 rfl rfl ?_
          refine v_getR (k := 0) (q := 13) C dM_differ_71 (by show (0 : Nat) < 18; decide) rfl rfl (by decide) rfl inM lM_39 rfl ?_
          refine v_iload C dM_differ_74 rfl ?_
          refine v_iald (k := 10) (v := σ.2 10 (((41 * b) + k)).toNat) C dM_differ_76 (by show (10 : Nat) < 18; decide) rfl rfl (by omega) (by decide) (hS.1 10 _ (by decide) (by decide)) ?_
          refine v_iconst C dM_differ_77 ?_
          refine v_icmp_eq (tgt := 85) C dM_differ_78 (by decide) (by omega) (by omega) (fun hc4 => ?_) (fun hc4 => ?_)
          · refine v_iconst C dM_differ_85 ?_
            refine v_istore C dM_differ_86 (by decide) ?_
            refine v_iload C dM_differ_88 rfl ?_
            refine v_if_eq (tgt := 117) C dM_differ_90 (by decide) (by omega) (fun hc5 => ?_) (fun hc5 => ?_)
            · refine v_iload C dM_differ_117 rfl ?_
              refine v_if_eq (tgt := 126) C dM_differ_119 (by decide) (by omega) (fun hc6 => ?_) (fun hc6 => ?_)
              · refine v_iload C dM_differ_126 rfl ?_
                refine v_if_eq (tgt := 135) C dM_differ_128 (by decide) (by omega) (fun hc7 => ?_) (fun hc7 => ?_)
                · refine v_iconst C dM_differ_135 ?_
                  refine v_istore C dM_differ_136 (by decide) ?_
                  refine v_iload C dM_differ_138 rfl ?_
                  refine v_if_le (tgt := 174) C dM_differ_140 (by decide) (by omega) (fun hc8 => ?_) (fun hc8 => ?_)
                  · refine v_iinc C dM_differ_174 rfl (by decide) ?_
                    refine v_goto (tgt := 30) C dM_differ_177 (by decide) ?_
                    exact v_less (by exact ⟨rfl, rfl, rfl, rfl, trivial⟩) (ih (k + 1) v _ (by omega) (by omega) hS hS0 hS28 hS29 (by omega) (by omega))
                  · exfalso; omega
                · exfalso; omega
              · exfalso; omega
            · exfalso; omega
          · refine v_iconst C dM_differ_81 ?_
            refine v_goto (tgt := 86) C dM_differ_82 (by decide) ?_
            refine v_istore C dM_differ_86 (by decide) ?_
            refine v_iload C dM_differ_88 rfl ?_
            refine v_if_eq (tgt := 117) C dM_differ_90 (by decide) (by omega) (fun hc9 => ?_) (fun hc9 => ?_)
            · refine v_iload C dM_differ_117 rfl ?_
              refine v_if_eq (tgt := 126) C dM_differ_119 (by decide) (by omega) (fun hc10 => ?_) (fun hc10 => ?_)
              · exfalso; omega
              · refine v_iconst C dM_differ_122 ?_
                refine v_goto (tgt := 136) C dM_differ_123 (by decide) ?_
                refine v_istore C dM_differ_136 (by decide) ?_
                refine v_iload C dM_differ_138 rfl ?_
                refine v_if_le (tgt := 174) C dM_differ_140 (by decide) (by omega) (fun hc11 => ?_) (fun hc11 => ?_)
                · exfalso; omega
                · refine v_aload_n C dM_differ_143 rfl rfl ?_
                  refine v_getR (k := 0) (q := 30) C dM_differ_144 (by show (0 : Nat) < 18; decide) rfl rfl (by decide) rfl inM lM_57 rfl ?_
                  refine v_aload_n C dM_differ_147 rfl rfl ?_
                  refine v_getI (k := 0) (q := 29) (v := v) C dM_differ_148 (by show (0 : Nat) < 18; decide) rfl rfl (by decide) rfl inM lM_204 rfl hS29 ?_
                  refine v_iload_n C dM_differ_151 rfl rfl ?_
                  refine v_iast (k := 16) C dM_differ_152 (by show (16 : Nat) < 18; decide) rfl rfl (by omega) (by decide) ?_
                  refine v_aload_n C dM_differ_153 rfl rfl ?_
                  refine v_getR (k := 0) (q := 31) C dM_differ_154 (by show (0 : Nat) < 18; decide) rfl rfl (by decide) rfl inM lM_60 rfl ?_
                  refine v_aload_n C dM_differ_157 rfl rfl ?_
                  refine v_getI (k := 0) (q := 29) (v := v) C dM_differ_158 (by show (0 : Nat) < 18; decide) rfl rfl (by decide) rfl inM lM_204 rfl hS29 ?_
                  refine v_iload C dM_differ_161 rfl ?_
                  refine v_iast (k := 17) C dM_differ_163 (by show (17 : Nat) < 18; decide) rfl rfl (by omega) (by decide) ?_
                  refine v_aload_n C dM_differ_164 rfl rfl ?_
                  refine v_dup C dM_differ_165 rfl ?_
                  refine v_getI (k := 0) (q := 29) (v := v) C dM_differ_166 (by show (0 : Nat) < 18; decide) rfl rfl (by decide) rfl inM lM_204 rfl hS29 ?_
                  refine v_iconst C dM_differ_169 ?_
                  refine v_iadd C dM_differ_170 ?_
                  refine v_putI (k := 0) (q := 29) C dM_differ_171 (by show (0 : Nat) < 18; decide) rfl rfl (by decide) rfl inM tyM_ok nmM lM_204 rfl rfl rfl rfl rfl ?_
                  refine v_iinc C dM_differ_174 rfl (by decide) ?_
                  refine v_goto (tgt := 30) C dM_differ_177 (by decide) ?_
                  exact v_less (by exact ⟨rfl, rfl, rfl, rfl, trivial⟩) (ih (k + 1) (v + 1) _ (by omega) (by omega) (m_dfr_p (m_dfr_a (m_dfr_a hS 16 _ _ (by decide)) 17 _ _ (by decide)) 29 _ (by decide)) hS0 hS28 rfl (by omega) (by omega))
            · exfalso; omega
        · refine v_iconst C dM_differ_63 ?_
          refine v_goto (tgt := 68) C dM_differ_64 (by decide) ?_
          refine v_istore C dM_differ_68 (by decide) ?_
          refine v_aload_n C dM_differ_70 rfl rfl ?_
          refine v_getR (k := 0) (q := 13) C dM_differ_71 (by show (0 : Nat) < 18; decide) rfl rfl (by decide) rfl inM lM_39 rfl ?_
          refine v_iload C dM_differ_74 rfl ?_
          refine v_iald (k := 10) (v := σ.2 10 (((41 * b) + k)).toNat) C dM_differ_76 (by show (10 : Nat) < 18; decide) rfl rfl (by omega) (by decide) (hS.1 10 _ (by decide) (by decide)) ?_
          refine v_iconst C dM_differ_77 ?_
          refine v_icmp_eq (tgt := 85) C dM_differ_78 (by decide) (by omega) (by omega) (fun hc12 => ?_) (fun hc12 => ?_)
          · refine v_iconst C dM_differ_85 ?_
            refine v_istore C dM_differ_86 (by decide) ?_
            refine v_iload C dM_differ_88 rfl ?_
            refine v_if_eq (tgt := 117) C dM_differ_90 (by decide) (by omega) (fun hc13 => ?_) (fun hc13 => ?_)
            · exfalso; omega
            · refine v_iload C dM_differ_93 rfl ?_
              refine v_if_eq (tgt := 117) C dM_differ_95 (by decide) (by omega) (fun hc14 => ?_) (fun hc14 => ?_)
              · refine v_iload C dM_differ_117 rfl ?_
                refine v_if_eq (tgt := 126) C dM_differ_119 (by decide) (by omega) (fun hc15 => ?_) (fun hc15 => ?_)
                · refine v_iload C dM_differ_126 rfl ?_
                  refine v_if_eq (tgt := 135) C dM_differ_128 (by decide) (by omega) (fun hc16 => ?_) (fun hc16 => ?_)
                  · exfalso; omega
                  · refine v_iconst C dM_differ_131 ?_
                    refine v_goto (tgt := 136) C dM_differ_132 (by decide) ?_
                    refine v_istore C dM_differ_136 (by decide) ?_
                    refine v_iload C dM_differ_138 rfl ?_
                    refine v_if_le (tgt := 174) C dM_differ_140 (by decide) (by omega) (fun hc17 => ?_) (fun hc17 => ?_)
                    · exfalso; omega
                    · refine v_aload_n C dM_differ_143 rfl rfl ?_
                      refine v_getR (k := 0) (q := 30) C dM_differ_144 (by show (0 : Nat) < 18; decide) rfl rfl (by decide) rfl inM lM_57 rfl ?_
                      refine v_aload_n C dM_differ_147 rfl rfl ?_
                      refine v_getI (k := 0) (q := 29) (v := v) C dM_differ_148 (by show (0 : Nat) < 18; decide) rfl rfl (by decide) rfl inM lM_204 rfl hS29 ?_
                      refine v_iload_n C dM_differ_151 rfl rfl ?_
                      refine v_iast (k := 16) C dM_differ_152 (by show (16 : Nat) < 18; decide) rfl rfl (by omega) (by decide) ?_
                      refine v_aload_n C dM_differ_153 rfl rfl ?_
                      refine v_getR (k := 0) (q := 31) C dM_differ_154 (by show (0 : Nat) < 18; decide) rfl rfl (by decide) rfl inM lM_60 rfl ?_
                      refine v_aload_n C dM_differ_157 rfl rfl ?_
                      refine v_getI (k := 0) (q := 29) (v := v) C dM_differ_158 (by show (0 : Nat) < 18; decide) rfl rfl (by decide) rfl inM lM_204 rfl hS29 ?_
                      refine v_iload C dM_differ_161 rfl ?_
                      refine v_iast (k := 17) C dM_differ_163 (by show (17 : Nat) < 18; decide) rfl rfl (by omega) (by decide) ?_
                      refine v_aload_n C dM_differ_164 rfl rfl ?_
                      refine v_dup C dM_differ_165 rfl ?_
                      refine v_getI (k := 0) (q := 29) (v := v) C dM_differ_166 (by show (0 : Nat) < 18; decide) rfl rfl (by decide) rfl inM lM_204 rfl hS29 ?_
                      refine v_iconst C dM_differ_169 ?_
                      refine v_iadd C dM_differ_170 ?_
                      refine v_putI (k := 0) (q := 29) C dM_differ_171 (by show (0 : Nat) < 18; decide) rfl rfl (by decide) rfl inM tyM_ok nmM lM_204 rfl rfl rfl rfl rfl ?_
                      refine v_iinc C dM_differ_174 rfl (by decide) ?_
                      refine v_goto (tgt := 30) C dM_differ_177 (by decide) ?_
                      exact v_less (by exact ⟨rfl, rfl, rfl, rfl, trivial⟩) (ih (k + 1) (v + 1) _ (by omega) (by omega) (m_dfr_p (m_dfr_a (m_dfr_a hS 16 _ _ (by decide)) 17 _ _ (by decide)) 29 _ (by decide)) hS0 hS28 rfl (by omega) (by omega))
                · exfalso; omega
              · exfalso; omega
          · refine v_iconst C dM_differ_81 ?_
            refine v_goto (tgt := 86) C dM_differ_82 (by decide) ?_
            refine v_istore C dM_differ_86 (by decide) ?_
            refine v_iload C dM_differ_88 rfl ?_
            refine v_if_eq (tgt := 117) C dM_differ_90 (by decide) (by omega) (fun hc18 => ?_) (fun hc18 => ?_)
            · exfalso; omega
            · refine v_iload C dM_differ_93 rfl ?_
              refine v_if_eq (tgt := 117) C dM_differ_95 (by decide) (by omega) (fun hc19 => ?_) (fun hc19 => ?_)
              · exfalso; omega
              · refine v_aload_n C dM_differ_98 rfl rfl ?_
                refine v_iload C dM_differ_99 rfl ?_
                refine v_iload C dM_differ_101 rfl ?_
                refine v_cVI (k := 0) (n := 2) C (mE_ok _) trivial hR (kM_isAlike _ xCl D cA ad hJ S (((41 * a) + k)) (((41 * b) + k)) (by omega) (by omega) (fun i => by rw [hS.1 7 i (by decide) (by decide)]; exact h7 i) (fun i => by rw [hS.1 12 i (by decide) (by decide)]; exact h12 i) (by rw [hS.1 11 _ (by decide) (by decide), hS.1 12 _ (by decide) (by decide)]; exact hst _) (by rw [hS.1 11 _ (by decide) (by decide), hS.1 12 _ (by decide) (by decide)]; exact hst _)) dM_differ_103 (by show (0 : Nat) < 18; decide) rfl rfl gM_210 (by decide +kernel) (by decide) (by decide) rfl (Nat.le_of_ble_eq_true rfl) rfl ⟨rfl, rfl⟩ (fun r1 τ1 hp1 => ?_)
                obtain ⟨he1, hv1⟩ := hp1
                subst τ1
                have hv1b : r1 = 1 ∨ r1 = 0 := hv1.elim (fun h => Or.inl h.2) (fun h => Or.inr h.2)
                rcases hv1b with hv1c | hv1c
                · subst r1
                  refine v_if_eq (tgt := 113) C dM_differ_106 (by decide) (by omega) (fun hc20 => ?_) (fun hc20 => ?_)
                  · exfalso; omega
                  · refine v_iconst C dM_differ_109 ?_
                    refine v_goto (tgt := 136) C dM_differ_110 (by decide) ?_
                    refine v_istore C dM_differ_136 (by decide) ?_
                    refine v_iload C dM_differ_138 rfl ?_
                    refine v_if_le (tgt := 174) C dM_differ_140 (by decide) (by omega) (fun hc21 => ?_) (fun hc21 => ?_)
                    · refine v_iinc C dM_differ_174 rfl (by decide) ?_
                      refine v_goto (tgt := 30) C dM_differ_177 (by decide) ?_
                      exact v_less (by exact ⟨rfl, rfl, rfl, rfl, trivial⟩) (ih (k + 1) v _ (by omega) (by omega) hS hS0 hS28 hS29 (by omega) (by omega))
                    · exfalso; omega
                · subst r1
                  refine v_if_eq (tgt := 113) C dM_differ_106 (by decide) (by omega) (fun hc22 => ?_) (fun hc22 => ?_)
                  · refine v_iconst C dM_differ_113 ?_
                    refine v_goto (tgt := 136) C dM_differ_114 (by decide) ?_
                    refine v_istore C dM_differ_136 (by decide) ?_
                    refine v_iload C dM_differ_138 rfl ?_
                    refine v_if_le (tgt := 174) C dM_differ_140 (by decide) (by omega) (fun hc23 => ?_) (fun hc23 => ?_)
                    · exfalso; omega
                    · refine v_aload_n C dM_differ_143 rfl rfl ?_
                      refine v_getR (k := 0) (q := 30) C dM_differ_144 (by show (0 : Nat) < 18; decide) rfl rfl (by decide) rfl inM lM_57 rfl ?_
                      refine v_aload_n C dM_differ_147 rfl rfl ?_
                      refine v_getI (k := 0) (q := 29) (v := v) C dM_differ_148 (by show (0 : Nat) < 18; decide) rfl rfl (by decide) rfl inM lM_204 rfl hS29 ?_
                      refine v_iload_n C dM_differ_151 rfl rfl ?_
                      refine v_iast (k := 16) C dM_differ_152 (by show (16 : Nat) < 18; decide) rfl rfl (by omega) (by decide) ?_
                      refine v_aload_n C dM_differ_153 rfl rfl ?_
                      refine v_getR (k := 0) (q := 31) C dM_differ_154 (by show (0 : Nat) < 18; decide) rfl rfl (by decide) rfl inM lM_60 rfl ?_
                      refine v_aload_n C dM_differ_157 rfl rfl ?_
                      refine v_getI (k := 0) (q := 29) (v := v) C dM_differ_158 (by show (0 : Nat) < 18; decide) rfl rfl (by decide) rfl inM lM_204 rfl hS29 ?_
                      refine v_iload C dM_differ_161 rfl ?_
                      refine v_iast (k := 17) C dM_differ_163 (by show (17 : Nat) < 18; decide) rfl rfl (by omega) (by decide) ?_
                      refine v_aload_n C dM_differ_164 rfl rfl ?_
                      refine v_dup C dM_differ_165 rfl ?_
                      refine v_getI (k := 0) (q := 29) (v := v) C dM_differ_166 (by show (0 : Nat) < 18; decide) rfl rfl (by decide) rfl inM lM_204 rfl hS29 ?_
                      refine v_iconst C dM_differ_169 ?_
                      refine v_iadd C dM_differ_170 ?_
                      refine v_putI (k := 0) (q := 29) C dM_differ_171 (by show (0 : Nat) < 18; decide) rfl rfl (by decide) rfl inM tyM_ok nmM lM_204 rfl rfl rfl rfl rfl ?_
                      refine v_iinc C dM_differ_174 rfl (by decide) ?_
                      refine v_goto (tgt := 30) C dM_differ_177 (by decide) ?_
                      exact v_less (by exact ⟨rfl, rfl, rfl, rfl, trivial⟩) (ih (k + 1) (v + 1) _ (by omega) (by omega) (m_dfr_p (m_dfr_a (m_dfr_a hS 16 _ _ (by decide)) 17 _ _ (by decide)) 29 _ (by decide)) hS0 hS28 rfl (by omega) (by omega))
                  · exfalso; omega
  refine v_aload_n C dM_differ_0 rfl rfl ?_
  refine v_iload_n C dM_differ_1 rfl rfl ?_
  refine v_cVI (k := 0) (n := 1) C (mE_ok _) trivial hR (kM_isRevision _ xCl D cA ad hJ σ (a) (by omega) hr) dM_differ_2 (by show (0 : Nat) < 18; decide) rfl rfl gM_201 (by decide +kernel) (by decide) (by decide) rfl (Nat.le_of_ble_eq_true rfl) rfl ⟨rfl, rfl⟩ (fun r2 τ2 hp2 => ?_)
  rcases hp2 with ⟨hq2, e9, e8⟩ | ⟨hq2, e9, e8⟩
  · subst τ2
    subst r2
    refine v_if_eq (tgt := 16) C dM_differ_5 (by decide) (by omega) (fun hc24 => ?_) (fun hc24 => ?_)
    · exfalso; omega
    · refine v_aload_n C dM_differ_8 rfl rfl ?_
      refine v_iload_n C dM_differ_9 rfl rfl ?_
      refine v_cVI (k := 0) (n := 1) C (mE_ok _) trivial hR (kM_isRevision _ xCl D cA ad hJ (f_p1 σ 0 0 0) (b) (by omega) hr) dM_differ_10 (by show (0 : Nat) < 18; decide) rfl rfl gM_201 (by decide +kernel) (by decide) (by decide) rfl (Nat.le_of_ble_eq_true rfl) rfl ⟨rfl, rfl⟩ (fun r3 τ3 hp3 => ?_)
      rcases hp3 with ⟨hq3, e9, e8⟩ | ⟨hq3, e9, e8⟩
      · subst τ3
        subst r3
        rw [p1_p1]
        change 0 ≤ b ∧ b < σ.1 0 10 at hq3
        refine v_if_ne (tgt := 18) C dM_differ_13 (by decide) (by omega) (fun hc25 => ?_) (fun hc25 => ?_)
        · refine v_aload_n C dM_differ_18 rfl rfl ?_
          refine v_iconst C dM_differ_19 ?_
          refine v_putI (k := 0) (q := 29) C dM_differ_20 (by show (0 : Nat) < 18; decide) rfl rfl (by decide) rfl inM tyM_ok nmM lM_204 rfl rfl rfl rfl rfl ?_
          refine v_aload_n C dM_differ_23 rfl rfl ?_
          refine v_iconst C dM_differ_24 ?_
          refine v_putI (k := 0) (q := 28) C dM_differ_25 (by show (0 : Nat) < 18; decide) rfl rfl (by decide) rfl inM tyM_ok nmM lM_207 rfl rfl rfl (fN_bool (by omega)) (fF_bool (by omega)) ?_
          refine v_iconst C dM_differ_28 ?_
          refine v_istore_n C dM_differ_29 rfl (by decide) ?_
          exact v_less (by exact ⟨rfl, rfl, rfl, rfl, trivial⟩) (L (by omega) 40 1 0 _ (by omega) (by omega) (m_dfr_p (m_dfr_p (m_dfr_p (m_dfr_rf σ) 0 0 (by decide)) 29 0 (by decide)) 28 1 (by decide)) rfl rfl rfl (by omega) (by omega))
        · exfalso; omega
      · subst τ3
        subst r3
        rw [p1_p1]
        change ¬ (0 ≤ b ∧ b < σ.1 0 10) at hq3
        refine v_if_ne (tgt := 18) C dM_differ_13 (by decide) (by omega) (fun hc26 => ?_) (fun hc26 => ?_)
        · exfalso; omega
        · refine v_iconst C dM_differ_16 ?_
          exact v_iret C hRt hLk dM_differ_17 (Or.inl ⟨by omega, rfl, rfl⟩)
  · subst τ2
    subst r2
    refine v_if_eq (tgt := 16) C dM_differ_5 (by decide) (by omega) (fun hc27 => ?_) (fun hc27 => ?_)
    · refine v_iconst C dM_differ_16 ?_
      exact v_iret C hRt hLk dM_differ_17 (Or.inl ⟨by omega, rfl, rfl⟩)
    · exfalso; omega
set_option maxRecDepth 100000 in
set_option maxHeartbeats 4000000 in
/-- thrown() -/
theorem kM_thrown (l : Launch) (xCl : List vw_C) (D : va_G) (cA : Nat → ClassId) (ad : Nat → Nat) (hJ : f_J (mG xCl D cA ad)) (σ : fS) : f_M l (mG xCl D cA ad) mE yM_thrown (Cond.code yM_thrown cM_thrown 1 (some .int) :: A9) 0 σ [.ref (ad 0)] (f_QI (fun r σ1 => r = σ.1 0 0 ∧ σ1 = σ) (mG xCl D cA ad)) := by
  refine f_enter (by decide +kernel) hJ rfl (Nat.le_of_ble_eq_true rfl) ?_
  intro z hzl hR C hRt hLk hEz
  subst hzl
  refine v_aload_n C dM_thrown_0 rfl rfl ?_
  refine v_getI (k := 0) (q := 0) (v := σ.1 0 0) C dM_thrown_1 (by show (0 : Nat) < 18; decide) rfl rfl (by decide) rfl inM lM_63 rfl rfl ?_
  exact v_iret C hRt hLk dM_thrown_4 ⟨rfl, rfl⟩
end
section
/-- the place of a record, once written, doesn't depend on what was there before -/
theorem m_recs_ra (l : List Int) : ∀ (σ τ : fS), σ.1 0 16 = τ.1 0 16 → (∀ i, τ.2 5 i = σ.2 5 i) → (∀ i, τ.2 6 i = σ.2 6 i) → ∀ i, (i ∈ l.map Int.toNat ∨ σ.2 13 i = τ.2 13 i) → (m_recs σ l).2 13 i = (m_recs τ l).2 13 i := by
  induction l with
  | nil =>
    intro σ τ _ _ _ i h
    rcases h with h | h
    · simp at h
    · exact h
  | cons x r ih =>
    intro σ τ h16 h5 h6 i h
    show (m_recs (m_puts (m_r0 σ x) (m_rec σ x)) r).2 13 i = (m_recs (m_puts (m_r0 τ x) (m_rec τ x)) r).2 13 i
    have e1 := m_one_1 σ x 0 16
    have e2 := m_one_1 τ x 0 16
    rw [if_pos ⟨rfl, rfl⟩] at e1 e2
    have e3 := (m_rec_congr h5 h6 x).1
    refine ih _ _ (by rw [e1, e2, e3, h16]) (fun j => by rw [m_one_2 _ _ _ _ (by decide) (by decide) (by decide), m_one_2 _ _ _ _ (by decide) (by decide) (by decide)]; exact h5 j) (fun j => by rw [m_one_2 _ _ _ _ (by decide) (by decide) (by decide), m_one_2 _ _ _ _ (by decide) (by decide) (by decide)]; exact h6 j) i ?_
    have f1 : ∀ s : fS, (m_puts (m_r0 s x) (m_rec s x)).2 13 i = if i = x.toNat then s.1 0 16 else s.2 13 i := by
      intro s
      rw [m_puts_2 _ _ _ _ (by decide)]
      unfold m_r0
      rw [p2_2, if_neg (by omega), p2_2]
      simp
    rw [f1, f1]
    by_cases hi : i = x.toNat
    · rw [if_pos hi, if_pos hi]; exact Or.inr h16
    · rw [if_neg hi, if_neg hi]
      rcases h with h | h
      · rw [List.map_cons, List.mem_cons] at h
        rcases h with h | h
        · exact absurd h hi
        · exact Or.inl h
      · exact Or.inr h
theorem m_turn_mem (σ : fS) (w how t : Int) (n : Nat) (h : m_sel σ w how t ((n : Int) + 1)) : ∀ k, n < k → ((n : Int) + 1) ∈ m_turn σ w how t k := by
  intro k
  induction k with
  | zero => intro h; exact absurd h (Nat.not_lt_zero _)
  | succ k ih =>
    intro hk
    unfold m_turn
    rw [List.mem_append]
    by_cases e : n = k
    · subst e
      rw [cif_pos h]
      exact Or.inr (List.mem_singleton.mpr rfl)
    · exact Or.inl (ih (by omega))
theorem m_turns_mem (σ : fS) (w how : Int) (t : Nat) (x : Int) (h : x ∈ m_turn σ w how (t : Int) 40) : ∀ k, t < k → x ∈ m_turns σ w how k := by
  intro k
  induction k with
  | zero => intro h; exact absurd h (Nat.not_lt_zero _)
  | succ k ih =>
    intro hk
    unfold m_turns
    rw [List.mem_append]
    by_cases e : t = k
    · subst e; exact Or.inr h
    · exact Or.inl (ih (by omega))
theorem m_all_in (σ : fS) (w how : Int) (n : Nat) (hn : n < 40) (hh : 0 ≤ how ∧ how ≤ 2) (hm : (w = 1 ∧ σ.2 1 (n + 1) = 1) ∨ (w = 0 ∧ σ.2 3 (n + 1) = 1)) (ht : σ.2 1 (n + 1) = 1) (h2 : 0 ≤ σ.2 2 (n + 1) ∧ σ.2 2 (n + 1) ≤ 1) (h5 : 0 ≤ σ.2 5 (n + 1) ∧ σ.2 5 (n + 1) ≤ 120) : ((n : Int) + 1) ∈ m_turns σ w how (m_last how + 1) := by
  have hnt : ((n : Int) + 1).toNat = n + 1 := by omega
  have hc : how = 0 ∨ how = 1 ∨ how = 2 := by omega
  rcases hc with rfl | rfl | rfl
  · exact m_turns_mem σ w 0 0 _ (m_turn_mem σ w 0 _ n (by unfold m_sel; rw [hnt]; exact ⟨hm, ht, Or.inr (Or.inr ⟨by decide, by decide⟩)⟩) 40 hn) _ (by show 0 < 0 + 1; omega)
  · exact m_turns_mem σ w 1 (σ.2 5 (n + 1)).toNat _ (m_turn_mem σ w 1 _ n (by unfold m_sel; rw [hnt]; exact ⟨hm, ht, Or.inl ⟨rfl, by omega⟩⟩) 40 hn) _ (by show _ < 120 + 1; omega)
  · by_cases hf : σ.2 2 (n + 1) = 1
    · exact m_turns_mem σ w 2 0 _ (m_turn_mem σ w 2 _ n (by unfold m_sel; rw [hnt]; exact ⟨hm, ht, Or.inr (Or.inl ⟨rfl, Or.inl ⟨hf, rfl⟩⟩)⟩) 40 hn) _ (by show 0 < 1 + 1; omega)
    · exact m_turns_mem σ w 2 1 _ (m_turn_mem σ w 2 _ n (by unfold m_sel; rw [hnt]; exact ⟨hm, ht, Or.inr (Or.inl ⟨rfl, Or.inr ⟨by omega, by decide⟩⟩)⟩) 40 hn) _ (by show 1 < 1 + 1; omega)
/-- two states that agree in what is written -/
def m_eqw (σ τ : fS) : Prop := ∀ k i, k = 1 ∨ k = 2 ∨ k = 3 ∨ k = 5 ∨ k = 6 → τ.2 k i = σ.2 k i
theorem m_body_2 (σ : fS) (a w how : Int) (k i : Nat) (h7 : k ≠ 7) (h13 : k ≠ 13) (h14 : k ≠ 14) : (m_body σ a w how).2 k i = σ.2 k i := by
  unfold m_body
  rw [m_recs_2 _ _ _ _ h7 h13 h14, m_puts_2 _ _ _ _ h7]
  rfl
theorem m_body_1 (σ : fS) (a w how : Int) (q : Nat) (h : q ≠ 16) : (m_body σ a w how).1 0 q = σ.1 0 q := by
  unfold m_body
  rw [m_recs_1, if_neg (by omega), m_puts_1, if_neg (by omega), p1_1, if_neg (by omega)]
theorem m_body_16 (σ : fS) (a w how : Int) : (m_body σ a w how).1 0 16 = a + (if w = 1 then [37, 70, 49, 10] else ([] : List Int)).length + m_rlen σ (m_turns σ w how (m_last how + 1)) := by
  unfold m_body
  rw [m_recs_next, m_puts_next, m_rlen_congr (σ := σ) (τ := m_puts (f_p1 σ 0 16 a) (if w = 1 then [37, 70, 49, 10] else [])) (fun i => m_puts_2 _ _ _ _ (by decide)) (fun i => m_puts_2 _ _ _ _ (by decide))]
  rfl
theorem m_eqw_t {σ τ : fS} (h : m_eqw σ τ) (w how : Int) (t : Nat) : m_turns τ w how t = m_turns σ w how t := m_turns_congr (fun i => h 1 i (by decide)) (fun i => h 2 i (by decide)) (fun i => h 3 i (by decide)) (fun i => h 5 i (by decide)) w how t
theorem m_eqw_16 {σ τ : fS} (h : m_eqw σ τ) (a w how : Int) : (m_body τ a w how).1 0 16 = (m_body σ a w how).1 0 16 := by
  rw [m_body_16, m_body_16, m_eqw_t h, m_rlen_congr (fun i => h 5 i (by decide)) (fun i => h 6 i (by decide))]
theorem m_eqw_row {σ τ : fS} (h : m_eqw σ τ) (a w how : Int) (hw : w = 0 ∨ w = 1) (hh : 0 ≤ how ∧ how ≤ 2) (h2 : ∀ i, 0 ≤ σ.2 2 i ∧ σ.2 2 i ≤ 1) (h5 : ∀ i, 0 ≤ σ.2 5 i ∧ σ.2 5 i ≤ 120) (k : Nat) (hk : k ≤ 40) : m_rows (m_body τ a w how) w k = m_rows (m_body σ a w how) w k := by
  induction k with
  | zero => rfl
  | succ k ih =>
    unfold m_rows
    rw [ih (by omega)]
    have e1 : m_mv (m_body τ a w how) w (k + 1) = m_mv (m_body σ a w how) w (k + 1) := by
      unfold m_mv
      rw [m_body_2 _ _ _ _ _ _ (by decide) (by decide) (by decide), m_body_2 _ _ _ _ _ _ (by decide) (by decide) (by decide), m_body_2 _ _ _ _ _ _ (by decide) (by decide) (by decide), m_body_2 _ _ _ _ _ _ (by decide) (by decide) (by decide), h 1 _ (by decide), h 3 _ (by decide)]
    rw [e1]
    congr 1
    by_cases hm : m_mv (m_body σ a w how) w (k + 1) = 1
    · rw [if_pos hm, if_pos hm]
      unfold m_row
      have hkt : ((k : Int) + 1).toNat = k + 1 := by omega
      rw [hkt, m_body_2 _ _ _ _ _ _ (by decide) (by decide) (by decide), m_body_2 σ _ _ _ _ _ (by decide) (by decide) (by decide), h 1 _ (by decide)]
      by_cases ht : σ.2 1 (k + 1) = 1
      · have hmm : (w = 1 ∧ σ.2 1 (k + 1) = 1) ∨ (w = 0 ∧ σ.2 3 (k + 1) = 1) := by
          rcases hw with rfl | rfl
          · unfold m_mv at hm
            rw [if_neg (by decide), m_body_2 _ _ _ _ _ _ (by decide) (by decide) (by decide)] at hm
            exact Or.inr ⟨rfl, hm⟩
          · exact Or.inl ⟨rfl, ht⟩
        have hin := m_all_in σ w how k (by omega) hh hmm ht (h2 _) (h5 _)
        have hra : (m_body τ a w how).2 13 (k + 1) = (m_body σ a w how).2 13 (k + 1) := by
          unfold m_body
          rw [m_eqw_t h]
          refine m_recs_ra _ _ _ ?_ (fun i => ?_) (fun i => ?_) _ (Or.inl ?_)
          · rw [m_puts_next, m_puts_next]; rfl
          · rw [m_puts_2 _ _ _ _ (by decide), m_puts_2 _ _ _ _ (by decide)]; exact (h 5 i (by decide)).symm
          · rw [m_puts_2 _ _ _ _ (by decide), m_puts_2 _ _ _ _ (by decide)]; exact (h 6 i (by decide)).symm
          · exact List.mem_map.mpr ⟨_, hin, hkt⟩
        rw [hra]
      · rw [if_neg ht, if_neg ht]
    · rw [if_neg hm, if_neg hm]
theorem m_eqw_cnt {σ τ : fS} (h : m_eqw σ τ) (a w how : Int) : m_cnt (m_mv (m_body τ a w how) w) 40 = m_cnt (m_mv (m_body σ a w how) w) 40 := by
  congr 1
  funext i
  unfold m_mv
  rw [m_body_2 _ _ _ _ _ _ (by decide) (by decide) (by decide), m_body_2 _ _ _ _ _ _ (by decide) (by decide) (by decide), m_body_2 _ _ _ _ _ _ (by decide) (by decide) (by decide), m_body_2 _ _ _ _ _ _ (by decide) (by decide) (by decide), h 1 _ (by decide), h 3 _ (by decide)]
/-- counted and written alike -/
theorem m_eqw_tail {σ τ : fS} (h : m_eqw σ τ) (a w how q : Int) (hw : w = 0 ∨ w = 1) (hh : 0 ≤ how ∧ how ≤ 2) (h2 : ∀ i, 0 ≤ σ.2 2 i ∧ σ.2 2 i ≤ 1) (h5 : ∀ i, 0 ≤ σ.2 5 i ∧ σ.2 5 i ≤ 120) : m_tail (m_body τ a w how) w q = m_tail (m_body σ a w how) w q := by
  unfold m_tail
  rw [m_eqw_cnt h, m_eqw_row h a w how hw hh h2 h5 40 (Nat.le_refl _), m_eqw_16 h]
end
