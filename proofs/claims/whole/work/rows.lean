section
-- ===== PART A: goes FIRST, ahead of the names: the tables' words, and 'selects' of the private methods out of them =====
/-- a private method of a class that the tables say can be made, by its rows of tables_1 -/
def lw_okq (q : MethodName × Nat) : Prop := (q.1.cls ≠ "java/lang/invoke/MethodHandle" ∧ q.1.cls ≠ "java/lang/invoke/VarHandle") ∧ Cond.instantiable q.1.cls q.2 ∈ tables_1 ∧ Cond.privateMethod q.1 ∈ tables_1 ∧ Cond.instanceMethod q.1 ∈ tables_1
theorem lw_p0 : lw_okq (⟨"ExamBoard", "studentsWith", "(II)I"⟩, 11) := ⟨⟨by decide +kernel, by decide +kernel⟩, List.mem_of_getElem? (i := 21) (by decide +kernel), List.mem_of_getElem? (i := 396) (by decide +kernel), List.mem_of_getElem? (i := 397) (by decide +kernel)⟩
theorem lw_p1 : lw_okq (⟨"ExamBoard$Standing", "judge", "(LExamBoard$Board;)V"⟩, 12) := ⟨⟨by decide +kernel, by decide +kernel⟩, List.mem_of_getElem? (i := 136) (by decide +kernel), List.mem_of_getElem? (i := 433) (by decide +kernel), List.mem_of_getElem? (i := 434) (by decide +kernel)⟩
theorem lw_p2 : lw_okq (⟨"ExamBoard$Standing", "weigh", "(LExamBoard$Board;I)V"⟩, 12) := ⟨⟨by decide +kernel, by decide +kernel⟩, List.mem_of_getElem? (i := 136) (by decide +kernel), List.mem_of_getElem? (i := 437) (by decide +kernel), List.mem_of_getElem? (i := 438) (by decide +kernel)⟩
theorem lw_p3 : lw_okq (⟨"ExamBoard$Standing", "decidePapers", "(LExamBoard$Board;)V"⟩, 12) := ⟨⟨by decide +kernel, by decide +kernel⟩, List.mem_of_getElem? (i := 136) (by decide +kernel), List.mem_of_getElem? (i := 442) (by decide +kernel), List.mem_of_getElem? (i := 443) (by decide +kernel)⟩
theorem lw_p4 : lw_okq (⟨"ExamBoard$Standing", "isCompensable", "(LExamBoard$Board;I)Z"⟩, 12) := ⟨⟨by decide +kernel, by decide +kernel⟩, List.mem_of_getElem? (i := 136) (by decide +kernel), List.mem_of_getElem? (i := 446) (by decide +kernel), List.mem_of_getElem? (i := 447) (by decide +kernel)⟩
theorem lw_p5 : lw_okq (⟨"ExamBoard$Standing", "sumUp", "(LExamBoard$Board;)V"⟩, 12) := ⟨⟨by decide +kernel, by decide +kernel⟩, List.mem_of_getElem? (i := 136) (by decide +kernel), List.mem_of_getElem? (i := 450) (by decide +kernel), List.mem_of_getElem? (i := 451) (by decide +kernel)⟩
theorem lw_p6 : lw_okq (⟨"ExamBoard$Standing", "classify", "(LExamBoard$Board;)V"⟩, 12) := ⟨⟨by decide +kernel, by decide +kernel⟩, List.mem_of_getElem? (i := 136) (by decide +kernel), List.mem_of_getElem? (i := 466) (by decide +kernel), List.mem_of_getElem? (i := 467) (by decide +kernel)⟩
theorem lw_p7 : lw_okq (⟨"ExamBoard$Standing", "gradeOfAverage", "()I"⟩, 12) := ⟨⟨by decide +kernel, by decide +kernel⟩, List.mem_of_getElem? (i := 136) (by decide +kernel), List.mem_of_getElem? (i := 470) (by decide +kernel), List.mem_of_getElem? (i := 471) (by decide +kernel)⟩
theorem lw_p8 : lw_okq (⟨"ExamBoard$Standing", "isAtBorder", "(LExamBoard$Board;I)Z"⟩, 12) := ⟨⟨by decide +kernel, by decide +kernel⟩, List.mem_of_getElem? (i := 136) (by decide +kernel), List.mem_of_getElem? (i := 476) (by decide +kernel), List.mem_of_getElem? (i := 477) (by decide +kernel)⟩
theorem lw_p9 : lw_okq (⟨"ExamBoard$Standing", "hasHalfFrom", "(LExamBoard$Board;I)Z"⟩, 12) := ⟨⟨by decide +kernel, by decide +kernel⟩, List.mem_of_getElem? (i := 136) (by decide +kernel), List.mem_of_getElem? (i := 480) (by decide +kernel), List.mem_of_getElem? (i := 481) (by decide +kernel)⟩
theorem lw_p10 : lw_okq (⟨"ExamBoard", "isRefused", "(CIIII)Z"⟩, 11) := ⟨⟨by decide +kernel, by decide +kernel⟩, List.mem_of_getElem? (i := 21) (by decide +kernel), List.mem_of_getElem? (i := 488) (by decide +kernel), List.mem_of_getElem? (i := 489) (by decide +kernel)⟩
theorem lw_p11 : lw_okq (⟨"ExamBoard$Board", "putFirst", "(IIII)V"⟩, 18) := ⟨⟨by decide +kernel, by decide +kernel⟩, List.mem_of_getElem? (i := 29) (by decide +kernel), List.mem_of_getElem? (i := 509) (by decide +kernel), List.mem_of_getElem? (i := 510) (by decide +kernel)⟩
theorem lw_p12 : lw_okq (⟨"ExamBoard$Board", "countRaw", "(III)V"⟩, 18) := ⟨⟨by decide +kernel, by decide +kernel⟩, List.mem_of_getElem? (i := 29) (by decide +kernel), List.mem_of_getElem? (i := 513) (by decide +kernel), List.mem_of_getElem? (i := 514) (by decide +kernel)⟩
theorem lw_p13 : lw_okq (⟨"ExamBoard$Board", "takeAttempts", "(II)V"⟩, 18) := ⟨⟨by decide +kernel, by decide +kernel⟩, List.mem_of_getElem? (i := 29) (by decide +kernel), List.mem_of_getElem? (i := 517) (by decide +kernel), List.mem_of_getElem? (i := 518) (by decide +kernel)⟩
theorem lw_p14 : lw_okq (⟨"ExamBoard", "resitNumber", "(III)I"⟩, 11) := ⟨⟨by decide +kernel, by decide +kernel⟩, List.mem_of_getElem? (i := 21) (by decide +kernel), List.mem_of_getElem? (i := 546) (by decide +kernel), List.mem_of_getElem? (i := 547) (by decide +kernel)⟩
theorem lw_p15 : lw_okq (⟨"ExamBoard", "firstNumber", "(III)I"⟩, 11) := ⟨⟨by decide +kernel, by decide +kernel⟩, List.mem_of_getElem? (i := 21) (by decide +kernel), List.mem_of_getElem? (i := 550) (by decide +kernel), List.mem_of_getElem? (i := 551) (by decide +kernel)⟩
def lw_privs_1 : List (MethodName × Nat) := [(⟨"ExamBoard", "studentsWith", "(II)I"⟩, 11), (⟨"ExamBoard$Standing", "judge", "(LExamBoard$Board;)V"⟩, 12), (⟨"ExamBoard$Standing", "weigh", "(LExamBoard$Board;I)V"⟩, 12), (⟨"ExamBoard$Standing", "decidePapers", "(LExamBoard$Board;)V"⟩, 12), (⟨"ExamBoard$Standing", "isCompensable", "(LExamBoard$Board;I)Z"⟩, 12), (⟨"ExamBoard$Standing", "sumUp", "(LExamBoard$Board;)V"⟩, 12), (⟨"ExamBoard$Standing", "classify", "(LExamBoard$Board;)V"⟩, 12), (⟨"ExamBoard$Standing", "gradeOfAverage", "()I"⟩, 12), (⟨"ExamBoard$Standing", "isAtBorder", "(LExamBoard$Board;I)Z"⟩, 12), (⟨"ExamBoard$Standing", "hasHalfFrom", "(LExamBoard$Board;I)Z"⟩, 12), (⟨"ExamBoard", "isRefused", "(CIIII)Z"⟩, 11), (⟨"ExamBoard$Board", "putFirst", "(IIII)V"⟩, 18), (⟨"ExamBoard$Board", "countRaw", "(III)V"⟩, 18), (⟨"ExamBoard$Board", "takeAttempts", "(II)V"⟩, 18), (⟨"ExamBoard", "resitNumber", "(III)I"⟩, 11), (⟨"ExamBoard", "firstNumber", "(III)I"⟩, 11)]
theorem lw_r1 : ∀ q ∈ lw_privs_1, lw_okq q := List.forall_mem_cons.mpr ⟨lw_p0, List.forall_mem_cons.mpr ⟨lw_p1, List.forall_mem_cons.mpr ⟨lw_p2, List.forall_mem_cons.mpr ⟨lw_p3, List.forall_mem_cons.mpr ⟨lw_p4, List.forall_mem_cons.mpr ⟨lw_p5, List.forall_mem_cons.mpr ⟨lw_p6, List.forall_mem_cons.mpr ⟨lw_p7, List.forall_mem_cons.mpr ⟨lw_p8, List.forall_mem_cons.mpr ⟨lw_p9, List.forall_mem_cons.mpr ⟨lw_p10, List.forall_mem_cons.mpr ⟨lw_p11, List.forall_mem_cons.mpr ⟨lw_p12, List.forall_mem_cons.mpr ⟨lw_p13, List.forall_mem_cons.mpr ⟨lw_p14, List.forall_mem_cons.mpr ⟨lw_p15, fun _ h => absurd h List.not_mem_nil⟩⟩⟩⟩⟩⟩⟩⟩⟩⟩⟩⟩⟩⟩⟩⟩
theorem lw_p16 : lw_okq (⟨"ExamBoard$Board", "hasRaw", "(III)Z"⟩, 18) := ⟨⟨by decide +kernel, by decide +kernel⟩, List.mem_of_getElem? (i := 29) (by decide +kernel), List.mem_of_getElem? (i := 577) (by decide +kernel), List.mem_of_getElem? (i := 578) (by decide +kernel)⟩
theorem lw_p17 : lw_okq (⟨"ExamBoard$Board", "isTurned", "(III)Z"⟩, 18) := ⟨⟨by decide +kernel, by decide +kernel⟩, List.mem_of_getElem? (i := 29) (by decide +kernel), List.mem_of_getElem? (i := 585) (by decide +kernel), List.mem_of_getElem? (i := 586) (by decide +kernel)⟩
theorem lw_p18 : lw_okq (⟨"ExamBoard$Board", "isFirstOfItsScaled", "(III)Z"⟩, 18) := ⟨⟨by decide +kernel, by decide +kernel⟩, List.mem_of_getElem? (i := 29) (by decide +kernel), List.mem_of_getElem? (i := 593) (by decide +kernel), List.mem_of_getElem? (i := 594) (by decide +kernel)⟩
theorem lw_p19 : lw_okq (⟨"ExamBoard$Ranks", "standsBefore", "(II)Z"⟩, 4) := ⟨⟨by decide +kernel, by decide +kernel⟩, List.mem_of_getElem? (i := 190) (by decide +kernel), List.mem_of_getElem? (i := 636) (by decide +kernel), List.mem_of_getElem? (i := 637) (by decide +kernel)⟩
theorem lw_p20 : lw_okq (⟨"ExamBoard$EntryText", "takesEntry", "()Z"⟩, 7) := ⟨⟨by decide +kernel, by decide +kernel⟩, List.mem_of_getElem? (i := 210) (by decide +kernel), List.mem_of_getElem? (i := 822) (by decide +kernel), List.mem_of_getElem? (i := 823) (by decide +kernel)⟩
theorem lw_p21 : lw_okq (⟨"ExamBoard$EntryText", "takeNumber", "()I"⟩, 7) := ⟨⟨by decide +kernel, by decide +kernel⟩, List.mem_of_getElem? (i := 210) (by decide +kernel), List.mem_of_getElem? (i := 908) (by decide +kernel), List.mem_of_getElem? (i := 909) (by decide +kernel)⟩
theorem lw_p22 : lw_okq (⟨"ExamBoard$EntryText", "takes", "(C)Z"⟩, 7) := ⟨⟨by decide +kernel, by decide +kernel⟩, List.mem_of_getElem? (i := 210) (by decide +kernel), List.mem_of_getElem? (i := 915) (by decide +kernel), List.mem_of_getElem? (i := 916) (by decide +kernel)⟩
theorem lw_p23 : lw_okq (⟨"ExamBoard$EntryText", "takesMark", "(Z)Z"⟩, 7) := ⟨⟨by decide +kernel, by decide +kernel⟩, List.mem_of_getElem? (i := 210) (by decide +kernel), List.mem_of_getElem? (i := 919) (by decide +kernel), List.mem_of_getElem? (i := 920) (by decide +kernel)⟩
theorem lw_p24 : lw_okq (⟨"ExamBoard", "writePaper", "(II)V"⟩, 11) := ⟨⟨by decide +kernel, by decide +kernel⟩, List.mem_of_getElem? (i := 21) (by decide +kernel), List.mem_of_getElem? (i := 957) (by decide +kernel), List.mem_of_getElem? (i := 958) (by decide +kernel)⟩
theorem lw_p25 : lw_okq (⟨"ExamBoard", "allPassedCredits", "()I"⟩, 11) := ⟨⟨by decide +kernel, by decide +kernel⟩, List.mem_of_getElem? (i := 21) (by decide +kernel), List.mem_of_getElem? (i := 1014) (by decide +kernel), List.mem_of_getElem? (i := 1015) (by decide +kernel)⟩
theorem lw_p26 : lw_okq (⟨"ExamBoardModel", "changes", "()V"⟩, 27) := ⟨⟨by decide +kernel, by decide +kernel⟩, List.mem_of_getElem? (i := 1036) (by decide +kernel), List.mem_of_getElem? (i := 1134) (by decide +kernel), List.mem_of_getElem? (i := 1135) (by decide +kernel)⟩
theorem lw_p27 : lw_okq (⟨"ExamBoardModel", "tries", "()V"⟩, 27) := ⟨⟨by decide +kernel, by decide +kernel⟩, List.mem_of_getElem? (i := 1036) (by decide +kernel), List.mem_of_getElem? (i := 1138) (by decide +kernel), List.mem_of_getElem? (i := 1139) (by decide +kernel)⟩
theorem lw_p28 : lw_okq (⟨"ExamBoardModel", "keeps", "()V"⟩, 27) := ⟨⟨by decide +kernel, by decide +kernel⟩, List.mem_of_getElem? (i := 1036) (by decide +kernel), List.mem_of_getElem? (i := 1142) (by decide +kernel), List.mem_of_getElem? (i := 1143) (by decide +kernel)⟩
theorem lw_p29 : lw_okq (⟨"ExamBoardModel", "isModule", "(I)Z"⟩, 27) := ⟨⟨by decide +kernel, by decide +kernel⟩, List.mem_of_getElem? (i := 1036) (by decide +kernel), List.mem_of_getElem? (i := 1154) (by decide +kernel), List.mem_of_getElem? (i := 1155) (by decide +kernel)⟩
theorem lw_p30 : lw_okq (⟨"ExamBoardModel", "isPaper", "(I)Z"⟩, 27) := ⟨⟨by decide +kernel, by decide +kernel⟩, List.mem_of_getElem? (i := 1036) (by decide +kernel), List.mem_of_getElem? (i := 1169) (by decide +kernel), List.mem_of_getElem? (i := 1170) (by decide +kernel)⟩
theorem lw_p31 : lw_okq (⟨"ExamBoardModel", "of", "(II)I"⟩, 27) := ⟨⟨by decide +kernel, by decide +kernel⟩, List.mem_of_getElem? (i := 1036) (by decide +kernel), List.mem_of_getElem? (i := 1173) (by decide +kernel), List.mem_of_getElem? (i := 1174) (by decide +kernel)⟩
def lw_privs_2 : List (MethodName × Nat) := [(⟨"ExamBoard$Board", "hasRaw", "(III)Z"⟩, 18), (⟨"ExamBoard$Board", "isTurned", "(III)Z"⟩, 18), (⟨"ExamBoard$Board", "isFirstOfItsScaled", "(III)Z"⟩, 18), (⟨"ExamBoard$Ranks", "standsBefore", "(II)Z"⟩, 4), (⟨"ExamBoard$EntryText", "takesEntry", "()Z"⟩, 7), (⟨"ExamBoard$EntryText", "takeNumber", "()I"⟩, 7), (⟨"ExamBoard$EntryText", "takes", "(C)Z"⟩, 7), (⟨"ExamBoard$EntryText", "takesMark", "(Z)Z"⟩, 7), (⟨"ExamBoard", "writePaper", "(II)V"⟩, 11), (⟨"ExamBoard", "allPassedCredits", "()I"⟩, 11), (⟨"ExamBoardModel", "changes", "()V"⟩, 27), (⟨"ExamBoardModel", "tries", "()V"⟩, 27), (⟨"ExamBoardModel", "keeps", "()V"⟩, 27), (⟨"ExamBoardModel", "isModule", "(I)Z"⟩, 27), (⟨"ExamBoardModel", "isPaper", "(I)Z"⟩, 27), (⟨"ExamBoardModel", "of", "(II)I"⟩, 27)]
theorem lw_r2 : ∀ q ∈ lw_privs_2, lw_okq q := List.forall_mem_cons.mpr ⟨lw_p16, List.forall_mem_cons.mpr ⟨lw_p17, List.forall_mem_cons.mpr ⟨lw_p18, List.forall_mem_cons.mpr ⟨lw_p19, List.forall_mem_cons.mpr ⟨lw_p20, List.forall_mem_cons.mpr ⟨lw_p21, List.forall_mem_cons.mpr ⟨lw_p22, List.forall_mem_cons.mpr ⟨lw_p23, List.forall_mem_cons.mpr ⟨lw_p24, List.forall_mem_cons.mpr ⟨lw_p25, List.forall_mem_cons.mpr ⟨lw_p26, List.forall_mem_cons.mpr ⟨lw_p27, List.forall_mem_cons.mpr ⟨lw_p28, List.forall_mem_cons.mpr ⟨lw_p29, List.forall_mem_cons.mpr ⟨lw_p30, List.forall_mem_cons.mpr ⟨lw_p31, fun _ h => absurd h List.not_mem_nil⟩⟩⟩⟩⟩⟩⟩⟩⟩⟩⟩⟩⟩⟩⟩⟩
theorem lw_p32 : lw_okq (⟨"ExamBoardModel", "looks", "(III)V"⟩, 27) := ⟨⟨by decide +kernel, by decide +kernel⟩, List.mem_of_getElem? (i := 1036) (by decide +kernel), List.mem_of_getElem? (i := 1177) (by decide +kernel), List.mem_of_getElem? (i := 1178) (by decide +kernel)⟩
theorem lw_p33 : lw_okq (⟨"ExamBoardModel", "markOf", "(II)I"⟩, 27) := ⟨⟨by decide +kernel, by decide +kernel⟩, List.mem_of_getElem? (i := 1036) (by decide +kernel), List.mem_of_getElem? (i := 1181) (by decide +kernel), List.mem_of_getElem? (i := 1182) (by decide +kernel)⟩
theorem lw_p34 : lw_okq (⟨"ExamBoardModel", "scaledOf", "(II)I"⟩, 27) := ⟨⟨by decide +kernel, by decide +kernel⟩, List.mem_of_getElem? (i := 1036) (by decide +kernel), List.mem_of_getElem? (i := 1185) (by decide +kernel), List.mem_of_getElem? (i := 1186) (by decide +kernel)⟩
theorem lw_p35 : lw_okq (⟨"ExamBoardModel", "first", "(II)I"⟩, 27) := ⟨⟨by decide +kernel, by decide +kernel⟩, List.mem_of_getElem? (i := 1036) (by decide +kernel), List.mem_of_getElem? (i := 1189) (by decide +kernel), List.mem_of_getElem? (i := 1190) (by decide +kernel)⟩
theorem lw_p36 : lw_okq (⟨"ExamBoardModel", "percent", "(II)I"⟩, 27) := ⟨⟨by decide +kernel, by decide +kernel⟩, List.mem_of_getElem? (i := 1036) (by decide +kernel), List.mem_of_getElem? (i := 1193) (by decide +kernel), List.mem_of_getElem? (i := 1194) (by decide +kernel)⟩
theorem lw_p37 : lw_okq (⟨"ExamBoardModel", "by", "(III)I"⟩, 27) := ⟨⟨by decide +kernel, by decide +kernel⟩, List.mem_of_getElem? (i := 1036) (by decide +kernel), List.mem_of_getElem? (i := 1201) (by decide +kernel), List.mem_of_getElem? (i := 1202) (by decide +kernel)⟩
theorem lw_p38 : lw_okq (⟨"ExamBoardModel", "percents", "(IIZ)I"⟩, 27) := ⟨⟨by decide +kernel, by decide +kernel⟩, List.mem_of_getElem? (i := 1036) (by decide +kernel), List.mem_of_getElem? (i := 1205) (by decide +kernel), List.mem_of_getElem? (i := 1206) (by decide +kernel)⟩
theorem lw_p39 : lw_okq (⟨"ExamBoardModel", "again", "(II)I"⟩, 27) := ⟨⟨by decide +kernel, by decide +kernel⟩, List.mem_of_getElem? (i := 1036) (by decide +kernel), List.mem_of_getElem? (i := 1211) (by decide +kernel), List.mem_of_getElem? (i := 1212) (by decide +kernel)⟩
theorem lw_p40 : lw_okq (⟨"ExamBoardModel", "grades", "()V"⟩, 27) := ⟨⟨by decide +kernel, by decide +kernel⟩, List.mem_of_getElem? (i := 1036) (by decide +kernel), List.mem_of_getElem? (i := 1215) (by decide +kernel), List.mem_of_getElem? (i := 1216) (by decide +kernel)⟩
theorem lw_p41 : lw_okq (⟨"ExamBoardModel", "counts", "(I)Z"⟩, 27) := ⟨⟨by decide +kernel, by decide +kernel⟩, List.mem_of_getElem? (i := 1036) (by decide +kernel), List.mem_of_getElem? (i := 1219) (by decide +kernel), List.mem_of_getElem? (i := 1220) (by decide +kernel)⟩
theorem lw_p42 : lw_okq (⟨"ExamBoardModel", "credits", "(I)I"⟩, 27) := ⟨⟨by decide +kernel, by decide +kernel⟩, List.mem_of_getElem? (i := 1036) (by decide +kernel), List.mem_of_getElem? (i := 1223) (by decide +kernel), List.mem_of_getElem? (i := 1224) (by decide +kernel)⟩
theorem lw_p43 : lw_okq (⟨"ExamBoardModel", "graded", "(III)V"⟩, 27) := ⟨⟨by decide +kernel, by decide +kernel⟩, List.mem_of_getElem? (i := 1036) (by decide +kernel), List.mem_of_getElem? (i := 1227) (by decide +kernel), List.mem_of_getElem? (i := 1228) (by decide +kernel)⟩
theorem lw_p44 : lw_okq (⟨"ExamBoardModel", "enters", "(IIII)I"⟩, 27) := ⟨⟨by decide +kernel, by decide +kernel⟩, List.mem_of_getElem? (i := 1036) (by decide +kernel), List.mem_of_getElem? (i := 1238) (by decide +kernel), List.mem_of_getElem? (i := 1239) (by decide +kernel)⟩
theorem lw_p45 : lw_okq (⟨"ExamBoardModel", "isStudent", "(I)Z"⟩, 27) := ⟨⟨by decide +kernel, by decide +kernel⟩, List.mem_of_getElem? (i := 1036) (by decide +kernel), List.mem_of_getElem? (i := 1242) (by decide +kernel), List.mem_of_getElem? (i := 1243) (by decide +kernel)⟩
theorem lw_p46 : lw_okq (⟨"ExamBoardModel", "refuses", "(II)I"⟩, 27) := ⟨⟨by decide +kernel, by decide +kernel⟩, List.mem_of_getElem? (i := 1036) (by decide +kernel), List.mem_of_getElem? (i := 1246) (by decide +kernel), List.mem_of_getElem? (i := 1247) (by decide +kernel)⟩
theorem lw_p47 : lw_okq (⟨"ExamBoardModel", "isDone", "(I)Z"⟩, 27) := ⟨⟨by decide +kernel, by decide +kernel⟩, List.mem_of_getElem? (i := 1036) (by decide +kernel), List.mem_of_getElem? (i := 1250) (by decide +kernel), List.mem_of_getElem? (i := 1251) (by decide +kernel)⟩
def lw_privs_3 : List (MethodName × Nat) := [(⟨"ExamBoardModel", "looks", "(III)V"⟩, 27), (⟨"ExamBoardModel", "markOf", "(II)I"⟩, 27), (⟨"ExamBoardModel", "scaledOf", "(II)I"⟩, 27), (⟨"ExamBoardModel", "first", "(II)I"⟩, 27), (⟨"ExamBoardModel", "percent", "(II)I"⟩, 27), (⟨"ExamBoardModel", "by", "(III)I"⟩, 27), (⟨"ExamBoardModel", "percents", "(IIZ)I"⟩, 27), (⟨"ExamBoardModel", "again", "(II)I"⟩, 27), (⟨"ExamBoardModel", "grades", "()V"⟩, 27), (⟨"ExamBoardModel", "counts", "(I)Z"⟩, 27), (⟨"ExamBoardModel", "credits", "(I)I"⟩, 27), (⟨"ExamBoardModel", "graded", "(III)V"⟩, 27), (⟨"ExamBoardModel", "enters", "(IIII)I"⟩, 27), (⟨"ExamBoardModel", "isStudent", "(I)Z"⟩, 27), (⟨"ExamBoardModel", "refuses", "(II)I"⟩, 27), (⟨"ExamBoardModel", "isDone", "(I)Z"⟩, 27)]
theorem lw_r3 : ∀ q ∈ lw_privs_3, lw_okq q := List.forall_mem_cons.mpr ⟨lw_p32, List.forall_mem_cons.mpr ⟨lw_p33, List.forall_mem_cons.mpr ⟨lw_p34, List.forall_mem_cons.mpr ⟨lw_p35, List.forall_mem_cons.mpr ⟨lw_p36, List.forall_mem_cons.mpr ⟨lw_p37, List.forall_mem_cons.mpr ⟨lw_p38, List.forall_mem_cons.mpr ⟨lw_p39, List.forall_mem_cons.mpr ⟨lw_p40, List.forall_mem_cons.mpr ⟨lw_p41, List.forall_mem_cons.mpr ⟨lw_p42, List.forall_mem_cons.mpr ⟨lw_p43, List.forall_mem_cons.mpr ⟨lw_p44, List.forall_mem_cons.mpr ⟨lw_p45, List.forall_mem_cons.mpr ⟨lw_p46, List.forall_mem_cons.mpr ⟨lw_p47, fun _ h => absurd h List.not_mem_nil⟩⟩⟩⟩⟩⟩⟩⟩⟩⟩⟩⟩⟩⟩⟩⟩
theorem lw_p48 : lw_okq (⟨"ExamBoardModel", "sits", "(III)I"⟩, 27) := ⟨⟨by decide +kernel, by decide +kernel⟩, List.mem_of_getElem? (i := 1036) (by decide +kernel), List.mem_of_getElem? (i := 1262) (by decide +kernel), List.mem_of_getElem? (i := 1263) (by decide +kernel)⟩
theorem lw_p49 : lw_okq (⟨"ExamBoardModel", "removes", "(II)I"⟩, 27) := ⟨⟨by decide +kernel, by decide +kernel⟩, List.mem_of_getElem? (i := 1036) (by decide +kernel), List.mem_of_getElem? (i := 1270) (by decide +kernel), List.mem_of_getElem? (i := 1271) (by decide +kernel)⟩
theorem lw_p50 : lw_okq (⟨"ExamBoardModel", "hasRule", "(II)Z"⟩, 27) := ⟨⟨by decide +kernel, by decide +kernel⟩, List.mem_of_getElem? (i := 1036) (by decide +kernel), List.mem_of_getElem? (i := 1286) (by decide +kernel), List.mem_of_getElem? (i := 1287) (by decide +kernel)⟩
theorem lw_p51 : lw_okq (⟨"ExamBoardModel", "belongs", "(III)Z"⟩, 27) := ⟨⟨by decide +kernel, by decide +kernel⟩, List.mem_of_getElem? (i := 1036) (by decide +kernel), List.mem_of_getElem? (i := 1297) (by decide +kernel), List.mem_of_getElem? (i := 1298) (by decide +kernel)⟩
theorem lw_p52 : lw_okq (⟨"ExamBoardModel", "ranks", "()V"⟩, 27) := ⟨⟨by decide +kernel, by decide +kernel⟩, List.mem_of_getElem? (i := 1036) (by decide +kernel), List.mem_of_getElem? (i := 1313) (by decide +kernel), List.mem_of_getElem? (i := 1314) (by decide +kernel)⟩
theorem lw_p53 : lw_okq (⟨"ExamBoardModel", "isAhead", "(II)Z"⟩, 27) := ⟨⟨by decide +kernel, by decide +kernel⟩, List.mem_of_getElem? (i := 1036) (by decide +kernel), List.mem_of_getElem? (i := 1317) (by decide +kernel), List.mem_of_getElem? (i := 1318) (by decide +kernel)⟩
theorem lw_p54 : lw_okq (⟨"ExamBoardModel", "passedCredits", "()I"⟩, 27) := ⟨⟨by decide +kernel, by decide +kernel⟩, List.mem_of_getElem? (i := 1036) (by decide +kernel), List.mem_of_getElem? (i := 1321) (by decide +kernel), List.mem_of_getElem? (i := 1322) (by decide +kernel)⟩
theorem lw_p55 : lw_okq (⟨"ExamBoardModel", "entry", "(Z)I"⟩, 27) := ⟨⟨by decide +kernel, by decide +kernel⟩, List.mem_of_getElem? (i := 1036) (by decide +kernel), List.mem_of_getElem? (i := 1361) (by decide +kernel), List.mem_of_getElem? (i := 1362) (by decide +kernel)⟩
theorem lw_p56 : lw_okq (⟨"ExamBoardModel", "here", "()I"⟩, 27) := ⟨⟨by decide +kernel, by decide +kernel⟩, List.mem_of_getElem? (i := 1036) (by decide +kernel), List.mem_of_getElem? (i := 1365) (by decide +kernel), List.mem_of_getElem? (i := 1366) (by decide +kernel)⟩
theorem lw_p57 : lw_okq (⟨"ExamBoardModel", "number", "()I"⟩, 27) := ⟨⟨by decide +kernel, by decide +kernel⟩, List.mem_of_getElem? (i := 1036) (by decide +kernel), List.mem_of_getElem? (i := 1369) (by decide +kernel), List.mem_of_getElem? (i := 1370) (by decide +kernel)⟩
theorem lw_p58 : lw_okq (⟨"ExamBoardModel", "takes", "(I)Z"⟩, 27) := ⟨⟨by decide +kernel, by decide +kernel⟩, List.mem_of_getElem? (i := 1036) (by decide +kernel), List.mem_of_getElem? (i := 1373) (by decide +kernel), List.mem_of_getElem? (i := 1374) (by decide +kernel)⟩
theorem lw_p59 : lw_okq (⟨"ExamBoardModel", "comesBack", "()V"⟩, 27) := ⟨⟨by decide +kernel, by decide +kernel⟩, List.mem_of_getElem? (i := 1036) (by decide +kernel), List.mem_of_getElem? (i := 1377) (by decide +kernel), List.mem_of_getElem? (i := 1378) (by decide +kernel)⟩
theorem lw_p60 : lw_okq (⟨"ExamBoardModel", "writes", "(I)V"⟩, 27) := ⟨⟨by decide +kernel, by decide +kernel⟩, List.mem_of_getElem? (i := 1036) (by decide +kernel), List.mem_of_getElem? (i := 1389) (by decide +kernel), List.mem_of_getElem? (i := 1390) (by decide +kernel)⟩
def lw_privs_4 : List (MethodName × Nat) := [(⟨"ExamBoardModel", "sits", "(III)I"⟩, 27), (⟨"ExamBoardModel", "removes", "(II)I"⟩, 27), (⟨"ExamBoardModel", "hasRule", "(II)Z"⟩, 27), (⟨"ExamBoardModel", "belongs", "(III)Z"⟩, 27), (⟨"ExamBoardModel", "ranks", "()V"⟩, 27), (⟨"ExamBoardModel", "isAhead", "(II)Z"⟩, 27), (⟨"ExamBoardModel", "passedCredits", "()I"⟩, 27), (⟨"ExamBoardModel", "entry", "(Z)I"⟩, 27), (⟨"ExamBoardModel", "here", "()I"⟩, 27), (⟨"ExamBoardModel", "number", "()I"⟩, 27), (⟨"ExamBoardModel", "takes", "(I)Z"⟩, 27), (⟨"ExamBoardModel", "comesBack", "()V"⟩, 27), (⟨"ExamBoardModel", "writes", "(I)V"⟩, 27)]
theorem lw_r4 : ∀ q ∈ lw_privs_4, lw_okq q := List.forall_mem_cons.mpr ⟨lw_p48, List.forall_mem_cons.mpr ⟨lw_p49, List.forall_mem_cons.mpr ⟨lw_p50, List.forall_mem_cons.mpr ⟨lw_p51, List.forall_mem_cons.mpr ⟨lw_p52, List.forall_mem_cons.mpr ⟨lw_p53, List.forall_mem_cons.mpr ⟨lw_p54, List.forall_mem_cons.mpr ⟨lw_p55, List.forall_mem_cons.mpr ⟨lw_p56, List.forall_mem_cons.mpr ⟨lw_p57, List.forall_mem_cons.mpr ⟨lw_p58, List.forall_mem_cons.mpr ⟨lw_p59, List.forall_mem_cons.mpr ⟨lw_p60, fun _ h => absurd h List.not_mem_nil⟩⟩⟩⟩⟩⟩⟩⟩⟩⟩⟩⟩⟩
def lw_privs : List (MethodName × Nat) := lw_privs_1 ++ (lw_privs_2 ++ (lw_privs_3 ++ (lw_privs_4)))
def lw_tbl : List Cond := k2_sels lw_privs ++ tables_1
theorem lw_privs_ok : ∀ q ∈ lw_privs, lw_okq q := by
  show ∀ q ∈ lw_privs_1 ++ (lw_privs_2 ++ (lw_privs_3 ++ (lw_privs_4))), lw_okq q
  exact List.forall_mem_append.mpr ⟨lw_r1, List.forall_mem_append.mpr ⟨lw_r2, List.forall_mem_append.mpr ⟨lw_r3, lw_r4⟩⟩⟩
end
section
def RX0 : String := "ExamBoard$Board"
def TX0 : u_T := fun k => match k with
  | 0 => ("ExamBoard$Board", "modules", "I", false)
  | 1 => ("ExamBoard$Board", "papers", "I", false)
  | 2 => ("ExamBoard$Board", "students", "I", false)
  | 3 => ("ExamBoard$Board", "pairs", "I", false)
  | 4 => ("ExamBoard$Board", "settings", "[I", true)
  | 5 => ("ExamBoard$Board", "credits", "[I", true)
  | 6 => ("ExamBoard$Board", "moduleOf", "[I", true)
  | 7 => ("ExamBoard$Board", "weights", "[I", true)
  | 8 => ("ExamBoard$Board", "fulls", "[I", true)
  | 9 => ("ExamBoard$Board", "cohorts", "[I", true)
  | 10 => ("ExamBoard$Board", "firsts", "[I", true)
  | 11 => ("ExamBoard$Board", "raws", "[I", true)
  | 12 => ("ExamBoard$Board", "resits", "[I", true)
  | 13 => ("ExamBoard$Board", "order", "[I", true)
  | 14 => ("ExamBoard$Board", "rules", "[I", true)
  | 15 => ("ExamBoard$Board", "ruleValues", "[I", true)
  | 16 => ("ExamBoard$Board", "percentSums", "[I", true)
  | _ => ("ExamBoard$Board", "rawCounts", "[I", true)
def tyX0 : Nat → FieldType := fun k => match k with
  | 0 => .int
  | 1 => .int
  | 2 => .int
  | 3 => .int
  | 4 => .array .int
  | 5 => .array .int
  | 6 => .array .int
  | 7 => .array .int
  | 8 => .array .int
  | 9 => .array .int
  | 10 => .array .int
  | 11 => .array .int
  | 12 => .array .int
  | 13 => .array .int
  | 14 => .array .int
  | 15 => .array .int
  | 16 => .array .int
  | _ => .array .int
abbrev wsX00 : List Cond := u_ws RX0 TX0 18
theorem nmX0 : ∀ a, a < 18 → ∀ b, b < 18 → a ≠ b → (TX0 a).2.1 ≠ (TX0 b).2.1 := by decide +kernel
theorem tyX0_ok : ∀ k, k < 18 → parseFieldDescriptor (TX0 k).2.2.1 = some (tyX0 k) := by decide +kernel
abbrev cX0_init : ByteArray := prog_2_method_1_code
def yX0_init : MethodName := ⟨RX0, "<init>", "()V"⟩
abbrev cX0_copyFrom : ByteArray := prog_2_method_2_code
def yX0_copyFrom : MethodName := ⟨RX0, "copyFrom", "(LExamBoard$Board;)V"⟩
abbrev cX0_copyRow : ByteArray := prog_2_method_3_code
def yX0_copyRow : MethodName := ⟨RX0, "copyRow", "([I[I)V"⟩
abbrev cX0_hasModule : ByteArray := prog_2_method_4_code
def yX0_hasModule : MethodName := ⟨RX0, "hasModule", "(I)Z"⟩
abbrev cX0_hasPaper : ByteArray := prog_2_method_5_code
def yX0_hasPaper : MethodName := ⟨RX0, "hasPaper", "(I)Z"⟩
abbrev cX0_hasStudent : ByteArray := prog_2_method_6_code
def yX0_hasStudent : MethodName := ⟨RX0, "hasStudent", "(I)Z"⟩
abbrev cX0_hasFirst : ByteArray := prog_2_method_7_code
def yX0_hasFirst : MethodName := ⟨RX0, "hasFirst", "(II)Z"⟩
abbrev cX0_hasResit : ByteArray := prog_2_method_8_code
def yX0_hasResit : MethodName := ⟨RX0, "hasResit", "(II)Z"⟩
abbrev cX0_percent : ByteArray := prog_2_method_9_code
def yX0_percent : MethodName := ⟨RX0, "percent", "(II)I"⟩
abbrev cX0_rescaled : ByteArray := prog_2_method_10_code
def yX0_rescaled : MethodName := ⟨RX0, "rescaled", "(II)I"⟩
abbrev cX0_firstScaled : ByteArray := prog_2_method_11_code
def yX0_firstScaled : MethodName := ⟨RX0, "firstScaled", "(II)I"⟩
abbrev cX0_resitWorth : ByteArray := prog_2_method_12_code
def yX0_resitWorth : MethodName := ⟨RX0, "resitWorth", "(II)I"⟩
abbrev cX0_finalMark : ByteArray := prog_2_method_13_code
def yX0_finalMark : MethodName := ⟨RX0, "finalMark", "(II)I"⟩
abbrev cX0_reasonAgainst : ByteArray := prog_2_method_14_code
def yX0_reasonAgainst : MethodName := ⟨RX0, "reasonAgainst", "(CIII)I"⟩
abbrev cX0_aboutReason : ByteArray := prog_2_method_15_code
def yX0_aboutReason : MethodName := ⟨RX0, "aboutReason", "(III)I"⟩
abbrev cX0_enter : ByteArray := prog_2_method_16_code
def yX0_enter : MethodName := ⟨RX0, "enter", "(CIII)V"⟩
abbrev cX0_putFirst : ByteArray := prog_2_method_17_code
def yX0_putFirst : MethodName := ⟨RX0, "putFirst", "(IIII)V"⟩
abbrev cX0_takeAttempts : ByteArray := prog_2_method_18_code
def yX0_takeAttempts : MethodName := ⟨RX0, "takeAttempts", "(II)V"⟩
abbrev cX0_countRaw : ByteArray := prog_2_method_19_code
def yX0_countRaw : MethodName := ⟨RX0, "countRaw", "(III)V"⟩
abbrev cX0_hasRaw : ByteArray := prog_2_method_20_code
def yX0_hasRaw : MethodName := ⟨RX0, "hasRaw", "(III)Z"⟩
abbrev cX0_scaledSum : ByteArray := prog_2_method_21_code
def yX0_scaledSum : MethodName := ⟨RX0, "scaledSum", "(II)I"⟩
abbrev cX0_turnedPairs : ByteArray := prog_2_method_22_code
def yX0_turnedPairs : MethodName := ⟨RX0, "turnedPairs", "(II)I"⟩
abbrev cX0_isTurned : ByteArray := prog_2_method_23_code
def yX0_isTurned : MethodName := ⟨RX0, "isTurned", "(III)Z"⟩
abbrev cX0_differentScaled : ByteArray := prog_2_method_24_code
def yX0_differentScaled : MethodName := ⟨RX0, "differentScaled", "(II)I"⟩
abbrev cX0_isFirstOfItsScaled : ByteArray := prog_2_method_25_code
def yX0_isFirstOfItsScaled : MethodName := ⟨RX0, "isFirstOfItsScaled", "(III)Z"⟩
abbrev cX0_firstsIn : ByteArray := prog_2_method_26_code
def yX0_firstsIn : MethodName := ⟨RX0, "firstsIn", "(I)I"⟩
abbrev cX0_resitsIn : ByteArray := prog_2_method_27_code
def yX0_resitsIn : MethodName := ⟨RX0, "resitsIn", "(I)I"⟩
abbrev cX0_firstsOf : ByteArray := prog_2_method_28_code
def yX0_firstsOf : MethodName := ⟨RX0, "firstsOf", "(I)I"⟩
abbrev cX0_resitsOf : ByteArray := prog_2_method_29_code
def yX0_resitsOf : MethodName := ⟨RX0, "resitsOf", "(I)I"⟩
abbrev cX0_papersOf : ByteArray := prog_2_method_30_code
def yX0_papersOf : MethodName := ⟨RX0, "papersOf", "(I)I"⟩
abbrev cX0_resitCount : ByteArray := prog_2_method_31_code
def yX0_resitCount : MethodName := ⟨RX0, "resitCount", "()I"⟩
abbrev cX0_absenceCount : ByteArray := prog_2_method_32_code
def yX0_absenceCount : MethodName := ⟨RX0, "absenceCount", "()I"⟩
abbrev cX0_markSum : ByteArray := prog_2_method_33_code
def yX0_markSum : MethodName := ⟨RX0, "markSum", "()I"⟩
abbrev cX0_countingCredits : ByteArray := prog_2_method_34_code
def yX0_countingCredits : MethodName := ⟨RX0, "countingCredits", "()I"⟩
def RX1 : String := "ExamBoard$EntryText"
def TX1 : u_T := fun k => match k with
  | 0 => ("ExamBoard$EntryText", "signs", "Ljava/lang/StringBuilder;", true)
  | 1 => ("ExamBoard$EntryText", "kinds", "[C", true)
  | 2 => ("ExamBoard$EntryText", "students", "[I", true)
  | 3 => ("ExamBoard$EntryText", "papers", "[I", true)
  | 4 => ("ExamBoard$EntryText", "marks", "[I", true)
  | 5 => ("ExamBoard$EntryText", "count", "I", false)
  | _ => ("ExamBoard$EntryText", "position", "I", false)
def tyX1 : Nat → FieldType := fun k => match k with
  | 0 => .object "java/lang/StringBuilder"
  | 1 => .array .char
  | 2 => .array .int
  | 3 => .array .int
  | 4 => .array .int
  | 5 => .int
  | _ => .int
abbrev wsX10 : List Cond := u_ws RX1 TX1 7
theorem nmX1 : ∀ a, a < 7 → ∀ b, b < 7 → a ≠ b → (TX1 a).2.1 ≠ (TX1 b).2.1 := by decide +kernel
theorem tyX1_ok : ∀ k, k < 7 → parseFieldDescriptor (TX1 k).2.2.1 = some (tyX1 k) := by decide +kernel
abbrev cX1_init : ByteArray := prog_3_method_1_code
def yX1_init : MethodName := ⟨RX1, "<init>", "()V"⟩
abbrev cX1_parse : ByteArray := prog_3_method_2_code
def yX1_parse : MethodName := ⟨RX1, "parse", "()I"⟩
abbrev cX1_takesEntry : ByteArray := prog_3_method_3_code
def yX1_takesEntry : MethodName := ⟨RX1, "takesEntry", "()Z"⟩
abbrev cX1_takesMark : ByteArray := prog_3_method_4_code
def yX1_takesMark : MethodName := ⟨RX1, "takesMark", "(Z)Z"⟩
abbrev cX1_takes : ByteArray := prog_3_method_5_code
def yX1_takes : MethodName := ⟨RX1, "takes", "(C)Z"⟩
abbrev cX1_takeNumber : ByteArray := prog_3_method_6_code
def yX1_takeNumber : MethodName := ⟨RX1, "takeNumber", "()I"⟩
abbrev cX1_isDigit : ByteArray := prog_3_method_7_code
def yX1_isDigit : MethodName := ⟨RX1, "isDigit", "(C)Z"⟩
def RX2 : String := "ExamBoard$History"
def TX2 : u_T := fun k => match k with
  | 0 => ("ExamBoard$History", "slots", "[LExamBoard$Board;", true)
  | 1 => ("ExamBoard$History", "next", "I", false)
  | _ => ("ExamBoard$History", "count", "I", false)
def tyX2 : Nat → FieldType := fun k => match k with
  | 0 => .array (.object "ExamBoard$Board")
  | 1 => .int
  | _ => .int
abbrev wsX20 : List Cond := u_ws RX2 TX2 3
theorem nmX2 : ∀ a, a < 3 → ∀ b, b < 3 → a ≠ b → (TX2 a).2.1 ≠ (TX2 b).2.1 := by decide +kernel
theorem tyX2_ok : ∀ k, k < 3 → parseFieldDescriptor (TX2 k).2.2.1 = some (tyX2 k) := by decide +kernel
abbrev cX2_init : ByteArray := prog_4_method_1_code
def yX2_init : MethodName := ⟨RX2, "<init>", "()V"⟩
abbrev cX2_keep : ByteArray := prog_4_method_2_code
def yX2_keep : MethodName := ⟨RX2, "keep", "(LExamBoard$Board;)V"⟩
abbrev cX2_prepare : ByteArray := prog_4_method_3_code
def yX2_prepare : MethodName := ⟨RX2, "prepare", "(LExamBoard$Board;)V"⟩
abbrev cX2_confirm : ByteArray := prog_4_method_4_code
def yX2_confirm : MethodName := ⟨RX2, "confirm", "()V"⟩
abbrev cX2_takeBack : ByteArray := prog_4_method_5_code
def yX2_takeBack : MethodName := ⟨RX2, "takeBack", "(LExamBoard$Board;)V"⟩
abbrev cX2_stepBack : ByteArray := prog_4_method_6_code
def yX2_stepBack : MethodName := ⟨RX2, "stepBack", "(LExamBoard$Board;)V"⟩
def RX3 : String := "ExamBoard$Ranks"
def TX3 : u_T := fun k => match k with
  | 0 => ("ExamBoard$Ranks", "grades", "[I", true)
  | 1 => ("ExamBoard$Ranks", "averages", "[I", true)
  | 2 => ("ExamBoard$Ranks", "lifted", "[Z", true)
  | _ => ("ExamBoard$Ranks", "count", "I", false)
def tyX3 : Nat → FieldType := fun k => match k with
  | 0 => .array .int
  | 1 => .array .int
  | 2 => .array .boolean
  | _ => .int
abbrev wsX30 : List Cond := u_ws RX3 TX3 4
theorem nmX3 : ∀ a, a < 4 → ∀ b, b < 4 → a ≠ b → (TX3 a).2.1 ≠ (TX3 b).2.1 := by decide +kernel
theorem tyX3_ok : ∀ k, k < 4 → parseFieldDescriptor (TX3 k).2.2.1 = some (tyX3 k) := by decide +kernel
abbrev cX3_init : ByteArray := prog_5_method_1_code
def yX3_init : MethodName := ⟨RX3, "<init>", "()V"⟩
abbrev cX3_assess : ByteArray := prog_5_method_2_code
def yX3_assess : MethodName := ⟨RX3, "assess", "(LExamBoard$Board;LExamBoard$Standing;)V"⟩
abbrev cX3_placeOf : ByteArray := prog_5_method_3_code
def yX3_placeOf : MethodName := ⟨RX3, "placeOf", "(I)I"⟩
abbrev cX3_studentAt : ByteArray := prog_5_method_4_code
def yX3_studentAt : MethodName := ⟨RX3, "studentAt", "(I)I"⟩
abbrev cX3_standsBefore : ByteArray := prog_5_method_5_code
def yX3_standsBefore : MethodName := ⟨RX3, "standsBefore", "(II)Z"⟩
abbrev cX3_countOf : ByteArray := prog_5_method_6_code
def yX3_countOf : MethodName := ⟨RX3, "countOf", "(I)I"⟩
abbrev cX3_liftedTo : ByteArray := prog_5_method_7_code
def yX3_liftedTo : MethodName := ⟨RX3, "liftedTo", "(I)I"⟩
abbrev cX3_meanAverage : ByteArray := prog_5_method_8_code
def yX3_meanAverage : MethodName := ⟨RX3, "meanAverage", "(I)I"⟩
def RX4 : String := "ExamBoard$Standing"
def TX4 : u_T := fun k => match k with
  | 0 => ("ExamBoard$Standing", "marks", "[I", true)
  | 1 => ("ExamBoard$Standing", "verdicts", "[I", true)
  | 2 => ("ExamBoard$Standing", "moduleMarks", "[I", true)
  | 3 => ("ExamBoard$Standing", "counting", "[Z", true)
  | 4 => ("ExamBoard$Standing", "credits", "I", false)
  | 5 => ("ExamBoard$Standing", "points", "I", false)
  | 6 => ("ExamBoard$Standing", "passedCredits", "I", false)
  | 7 => ("ExamBoard$Standing", "complete", "Z", false)
  | 8 => ("ExamBoard$Standing", "allPassed", "Z", false)
  | 9 => ("ExamBoard$Standing", "average", "I", false)
  | 10 => ("ExamBoard$Standing", "grade", "I", false)
  | _ => ("ExamBoard$Standing", "lifted", "Z", false)
def tyX4 : Nat → FieldType := fun k => match k with
  | 0 => .array .int
  | 1 => .array .int
  | 2 => .array .int
  | 3 => .array .boolean
  | 4 => .int
  | 5 => .int
  | 6 => .int
  | 7 => .boolean
  | 8 => .boolean
  | 9 => .int
  | 10 => .int
  | _ => .boolean
abbrev wsX40 : List Cond := u_ws RX4 TX4 12
theorem nmX4 : ∀ a, a < 12 → ∀ b, b < 12 → a ≠ b → (TX4 a).2.1 ≠ (TX4 b).2.1 := by decide +kernel
theorem tyX4_ok : ∀ k, k < 12 → parseFieldDescriptor (TX4 k).2.2.1 = some (tyX4 k) := by decide +kernel
abbrev cX4_init : ByteArray := prog_6_method_1_code
def yX4_init : MethodName := ⟨RX4, "<init>", "()V"⟩
abbrev cX4_assess : ByteArray := prog_6_method_2_code
def yX4_assess : MethodName := ⟨RX4, "assess", "(LExamBoard$Board;I)V"⟩
abbrev cX4_assume : ByteArray := prog_6_method_3_code
def yX4_assume : MethodName := ⟨RX4, "assume", "(LExamBoard$Board;II)V"⟩
abbrev cX4_judge : ByteArray := prog_6_method_4_code
def yX4_judge : MethodName := ⟨RX4, "judge", "(LExamBoard$Board;)V"⟩
abbrev cX4_weigh : ByteArray := prog_6_method_5_code
def yX4_weigh : MethodName := ⟨RX4, "weigh", "(LExamBoard$Board;I)V"⟩
abbrev cX4_decidePapers : ByteArray := prog_6_method_6_code
def yX4_decidePapers : MethodName := ⟨RX4, "decidePapers", "(LExamBoard$Board;)V"⟩
abbrev cX4_isCompensable : ByteArray := prog_6_method_7_code
def yX4_isCompensable : MethodName := ⟨RX4, "isCompensable", "(LExamBoard$Board;I)Z"⟩
abbrev cX4_sumUp : ByteArray := prog_6_method_8_code
def yX4_sumUp : MethodName := ⟨RX4, "sumUp", "(LExamBoard$Board;)V"⟩
abbrev cX4_classify : ByteArray := prog_6_method_9_code
def yX4_classify : MethodName := ⟨RX4, "classify", "(LExamBoard$Board;)V"⟩
abbrev cX4_gradeOfAverage : ByteArray := prog_6_method_10_code
def yX4_gradeOfAverage : MethodName := ⟨RX4, "gradeOfAverage", "()I"⟩
abbrev cX4_isAtBorder : ByteArray := prog_6_method_11_code
def yX4_isAtBorder : MethodName := ⟨RX4, "isAtBorder", "(LExamBoard$Board;I)Z"⟩
abbrev cX4_hasHalfFrom : ByteArray := prog_6_method_12_code
def yX4_hasHalfFrom : MethodName := ⟨RX4, "hasHalfFrom", "(LExamBoard$Board;I)Z"⟩
abbrev cX4_gradeBySums : ByteArray := prog_6_method_13_code
def yX4_gradeBySums : MethodName := ⟨RX4, "gradeBySums", "(LExamBoard$Board;)I"⟩
abbrev cX4_isWhole : ByteArray := prog_6_method_14_code
def yX4_isWhole : MethodName := ⟨RX4, "isWhole", "(I)Z"⟩
abbrev cX4_passes : ByteArray := prog_6_method_15_code
def yX4_passes : MethodName := ⟨RX4, "passes", "(LExamBoard$Board;I)Z"⟩
abbrev cX4_papersWith : ByteArray := prog_6_method_16_code
def yX4_papersWith : MethodName := ⟨RX4, "papersWith", "(LExamBoard$Board;II)I"⟩
abbrev cX4_papersMarked : ByteArray := prog_6_method_17_code
def yX4_papersMarked : MethodName := ⟨RX4, "papersMarked", "(LExamBoard$Board;I)I"⟩
abbrev cX4_verdictCount : ByteArray := prog_6_method_18_code
def yX4_verdictCount : MethodName := ⟨RX4, "verdictCount", "(LExamBoard$Board;I)I"⟩
abbrev cX4_reason : ByteArray := prog_6_method_19_code
def yX4_reason : MethodName := ⟨RX4, "reason", "()I"⟩
abbrev cX4_firstIncomplete : ByteArray := prog_6_method_20_code
def yX4_firstIncomplete : MethodName := ⟨RX4, "firstIncomplete", "(LExamBoard$Board;)I"⟩
abbrev cX4_firstFailed : ByteArray := prog_6_method_21_code
def yX4_firstFailed : MethodName := ⟨RX4, "firstFailed", "(LExamBoard$Board;)I"⟩
def RX5 : String := "ExamBoard"
def TX5 : u_T := fun k => match k with
  | 0 => ("ExamBoard", "board", "LExamBoard$Board;", true)
  | 1 => ("ExamBoard", "snapshot", "LExamBoard$Board;", true)
  | 2 => ("ExamBoard", "saved", "Z", false)
  | 3 => ("ExamBoard", "history", "LExamBoard$History;", true)
  | 4 => ("ExamBoard", "standing", "LExamBoard$Standing;", true)
  | 5 => ("ExamBoard", "ranks", "LExamBoard$Ranks;", true)
  | 6 => ("ExamBoard", "text", "LExamBoard$EntryText;", true)
  | 7 => ("ExamBoard", "recordText", "Ljava/lang/StringBuilder;", true)
  | 8 => ("ExamBoard", "refusalReason", "I", false)
  | 9 => ("ExamBoard", "refusalEntry", "I", false)
  | _ => ("ExamBoard", "refusalAbout", "I", false)
def tyX5 : Nat → FieldType := fun k => match k with
  | 0 => .object "ExamBoard$Board"
  | 1 => .object "ExamBoard$Board"
  | 2 => .boolean
  | 3 => .object "ExamBoard$History"
  | 4 => .object "ExamBoard$Standing"
  | 5 => .object "ExamBoard$Ranks"
  | 6 => .object "ExamBoard$EntryText"
  | 7 => .object "java/lang/StringBuilder"
  | 8 => .int
  | 9 => .int
  | _ => .int
abbrev wsX50 : List Cond := u_ws RX5 TX5 11
theorem nmX5 : ∀ a, a < 11 → ∀ b, b < 11 → a ≠ b → (TX5 a).2.1 ≠ (TX5 b).2.1 := by decide +kernel
theorem tyX5_ok : ∀ k, k < 11 → parseFieldDescriptor (TX5 k).2.2.1 = some (tyX5 k) := by decide +kernel
abbrev cX5_init : ByteArray := prog_1_method_1_code
def yX5_init : MethodName := ⟨RX5, "<init>", "()V"⟩
abbrev cX5_set : ByteArray := prog_1_method_2_code
def yX5_set : MethodName := ⟨RX5, "set", "(II)I"⟩
abbrev cX5_addModule : ByteArray := prog_1_method_3_code
def yX5_addModule : MethodName := ⟨RX5, "addModule", "(I)I"⟩
abbrev cX5_addPaper : ByteArray := prog_1_method_4_code
def yX5_addPaper : MethodName := ⟨RX5, "addPaper", "(III)I"⟩
abbrev cX5_addStudent : ByteArray := prog_1_method_5_code
def yX5_addStudent : MethodName := ⟨RX5, "addStudent", "(I)I"⟩
abbrev cX5_paper : ByteArray := prog_1_method_6_code
def yX5_paper : MethodName := ⟨RX5, "paper", "(II)I"⟩
abbrev cX5_studentsWith : ByteArray := prog_1_method_7_code
def yX5_studentsWith : MethodName := ⟨RX5, "studentsWith", "(II)I"⟩
abbrev cX5_mark : ByteArray := prog_1_method_8_code
def yX5_mark : MethodName := ⟨RX5, "mark", "(III)I"⟩
abbrev cX5_absent : ByteArray := prog_1_method_9_code
def yX5_absent : MethodName := ⟨RX5, "absent", "(III)I"⟩
abbrev cX5_resit : ByteArray := prog_1_method_10_code
def yX5_resit : MethodName := ⟨RX5, "resit", "(III)I"⟩
abbrev cX5_remove : ByteArray := prog_1_method_11_code
def yX5_remove : MethodName := ⟨RX5, "remove", "(II)I"⟩
abbrev cX5_isRefused : ByteArray := prog_1_method_12_code
def yX5_isRefused : MethodName := ⟨RX5, "isRefused", "(CIIII)Z"⟩
abbrev cX5_attempt : ByteArray := prog_1_method_13_code
def yX5_attempt : MethodName := ⟨RX5, "attempt", "(III)I"⟩
abbrev cX5_firstNumber : ByteArray := prog_1_method_14_code
def yX5_firstNumber : MethodName := ⟨RX5, "firstNumber", "(III)I"⟩
abbrev cX5_resitNumber : ByteArray := prog_1_method_15_code
def yX5_resitNumber : MethodName := ⟨RX5, "resitNumber", "(III)I"⟩
abbrev cX5_entered : ByteArray := prog_1_method_16_code
def yX5_entered : MethodName := ⟨RX5, "entered", "(II)I"⟩
abbrev cX5_scale : ByteArray := prog_1_method_17_code
def yX5_scale : MethodName := ⟨RX5, "scale", "(IIII)I"⟩
abbrev cX5_scaling : ByteArray := prog_1_method_18_code
def yX5_scaling : MethodName := ⟨RX5, "scaling", "(III)I"⟩
abbrev cX5_scaled : ByteArray := prog_1_method_19_code
def yX5_scaled : MethodName := ⟨RX5, "scaled", "(III)I"⟩
abbrev cX5_module : ByteArray := prog_1_method_20_code
def yX5_module : MethodName := ⟨RX5, "module", "(III)I"⟩
abbrev cX5_student : ByteArray := prog_1_method_21_code
def yX5_student : MethodName := ⟨RX5, "student", "(II)I"⟩
abbrev cX5_again : ByteArray := prog_1_method_22_code
def yX5_again : MethodName := ⟨RX5, "again", "(I)I"⟩
abbrev cX5_why : ByteArray := prog_1_method_23_code
def yX5_why : MethodName := ⟨RX5, "why", "(II)I"⟩
abbrev cX5_ranked : ByteArray := prog_1_method_24_code
def yX5_ranked : MethodName := ⟨RX5, "ranked", "(I)I"⟩
abbrev cX5_ofClass : ByteArray := prog_1_method_25_code
def yX5_ofClass : MethodName := ⟨RX5, "ofClass", "(II)I"⟩
abbrev cX5_classIf : ByteArray := prog_1_method_26_code
def yX5_classIf : MethodName := ⟨RX5, "classIf", "(III)I"⟩
abbrev cX5_needed : ByteArray := prog_1_method_27_code
def yX5_needed : MethodName := ⟨RX5, "needed", "(II)I"⟩
abbrev cX5_changedIf : ByteArray := prog_1_method_28_code
def yX5_changedIf : MethodName := ⟨RX5, "changedIf", "(II)I"⟩
abbrev cX5_append : ByteArray := prog_1_method_29_code
def yX5_append : MethodName := ⟨RX5, "append", "(I)I"⟩
abbrev cX5_read : ByteArray := prog_1_method_30_code
def yX5_read : MethodName := ⟨RX5, "read", "()I"⟩
abbrev cX5_refusal : ByteArray := prog_1_method_31_code
def yX5_refusal : MethodName := ⟨RX5, "refusal", "(I)I"⟩
abbrev cX5_write : ByteArray := prog_1_method_32_code
def yX5_write : MethodName := ⟨RX5, "write", "(I)I"⟩
abbrev cX5_writePaper : ByteArray := prog_1_method_33_code
def yX5_writePaper : MethodName := ⟨RX5, "writePaper", "(II)V"⟩
abbrev cX5_written : ByteArray := prog_1_method_34_code
def yX5_written : MethodName := ⟨RX5, "written", "(I)I"⟩
abbrev cX5_account : ByteArray := prog_1_method_35_code
def yX5_account : MethodName := ⟨RX5, "account", "(I)I"⟩
abbrev cX5_allPassedCredits : ByteArray := prog_1_method_36_code
def yX5_allPassedCredits : MethodName := ⟨RX5, "allPassedCredits", "()I"⟩
abbrev cX5_undo : ByteArray := prog_1_method_37_code
def yX5_undo : MethodName := ⟨RX5, "undo", "()I"⟩
abbrev cX5_save : ByteArray := prog_1_method_38_code
def yX5_save : MethodName := ⟨RX5, "save", "()I"⟩
abbrev cX5_restore : ByteArray := prog_1_method_39_code
def yX5_restore : MethodName := ⟨RX5, "restore", "()I"⟩
abbrev cX5_isWithin : ByteArray := prog_1_method_40_code
def yX5_isWithin : MethodName := ⟨RX5, "isWithin", "(III)Z"⟩
abbrev cX5_isCohort : ByteArray := prog_1_method_41_code
def yX5_isCohort : MethodName := ⟨RX5, "isCohort", "(I)Z"⟩
abbrev cX5_isSetting : ByteArray := prog_1_method_42_code
def yX5_isSetting : MethodName := ⟨RX5, "isSetting", "(II)Z"⟩
abbrev cX5_nearest : ByteArray := prog_1_method_43_code
def yX5_nearest : MethodName := ⟨RX5, "nearest", "(III)I"⟩
abbrev cX5_rankOfClass : ByteArray := prog_1_method_44_code
def yX5_rankOfClass : MethodName := ⟨RX5, "rankOfClass", "(I)I"⟩
def RX6 : String := "ExamBoardModel"
def TX6 : u_T := fun k => match k with
  | 0 => ("ExamBoardModel", "now", "[I", true)
  | 1 => ("ExamBoardModel", "kept", "[I", true)
  | 2 => ("ExamBoardModel", "undos", "I", false)
  | 3 => ("ExamBoardModel", "saved", "[I", true)
  | 4 => ("ExamBoardModel", "isSaved", "Z", false)
  | 5 => ("ExamBoardModel", "tried", "[I", true)
  | 6 => ("ExamBoardModel", "text", "[I", true)
  | 7 => ("ExamBoardModel", "length", "I", false)
  | 8 => ("ExamBoardModel", "at", "I", false)
  | 9 => ("ExamBoardModel", "written", "[I", true)
  | 10 => ("ExamBoardModel", "writtenLength", "I", false)
  | 11 => ("ExamBoardModel", "reason", "I", false)
  | 12 => ("ExamBoardModel", "entry", "I", false)
  | 13 => ("ExamBoardModel", "about", "I", false)
  | 14 => ("ExamBoardModel", "mark", "[I", true)
  | 15 => ("ExamBoardModel", "state", "[I", true)
  | 16 => ("ExamBoardModel", "inModule", "[I", true)
  | 17 => ("ExamBoardModel", "isPassed", "[Z", true)
  | 18 => ("ExamBoardModel", "compensated", "I", false)
  | 19 => ("ExamBoardModel", "failed", "I", false)
  | 20 => ("ExamBoardModel", "average", "I", false)
  | 21 => ("ExamBoardModel", "grade", "I", false)
  | 22 => ("ExamBoardModel", "why", "I", false)
  | 23 => ("ExamBoardModel", "whyNumber", "I", false)
  | 24 => ("ExamBoardModel", "rank", "[I", true)
  | 25 => ("ExamBoardModel", "grades", "[I", true)
  | _ => ("ExamBoardModel", "averages", "[I", true)
def tyX6 : Nat → FieldType := fun k => match k with
  | 0 => .array .int
  | 1 => .array .int
  | 2 => .int
  | 3 => .array .int
  | 4 => .boolean
  | 5 => .array .int
  | 6 => .array .int
  | 7 => .int
  | 8 => .int
  | 9 => .array .int
  | 10 => .int
  | 11 => .int
  | 12 => .int
  | 13 => .int
  | 14 => .array .int
  | 15 => .array .int
  | 16 => .array .int
  | 17 => .array .boolean
  | 18 => .int
  | 19 => .int
  | 20 => .int
  | 21 => .int
  | 22 => .int
  | 23 => .int
  | 24 => .array .int
  | 25 => .array .int
  | _ => .array .int
abbrev wsX60 : List Cond := u_ws RX6 TX6 27
theorem nmX6 : ∀ a, a < 27 → ∀ b, b < 27 → a ≠ b → (TX6 a).2.1 ≠ (TX6 b).2.1 := by decide +kernel
theorem tyX6_ok : ∀ k, k < 27 → parseFieldDescriptor (TX6 k).2.2.1 = some (tyX6 k) := by decide +kernel
abbrev cX6_init : ByteArray := prog_8_method_1_code
def yX6_init : MethodName := ⟨RX6, "<init>", "()V"⟩
abbrev cX6_in : ByteArray := prog_8_method_2_code
def yX6_in : MethodName := ⟨RX6, "in", "(III)Z"⟩
abbrev cX6_tries : ByteArray := prog_8_method_3_code
def yX6_tries : MethodName := ⟨RX6, "tries", "()V"⟩
abbrev cX6_keeps : ByteArray := prog_8_method_4_code
def yX6_keeps : MethodName := ⟨RX6, "keeps", "()V"⟩
abbrev cX6_changes : ByteArray := prog_8_method_5_code
def yX6_changes : MethodName := ⟨RX6, "changes", "()V"⟩
abbrev cX6_nearest : ByteArray := prog_8_method_6_code
def yX6_nearest : MethodName := ⟨RX6, "nearest", "(II)I"⟩
abbrev cX6_isModule : ByteArray := prog_8_method_7_code
def yX6_isModule : MethodName := ⟨RX6, "isModule", "(I)Z"⟩
abbrev cX6_isPaper : ByteArray := prog_8_method_8_code
def yX6_isPaper : MethodName := ⟨RX6, "isPaper", "(I)Z"⟩
abbrev cX6_isStudent : ByteArray := prog_8_method_9_code
def yX6_isStudent : MethodName := ⟨RX6, "isStudent", "(I)Z"⟩
abbrev cX6_of : ByteArray := prog_8_method_10_code
def yX6_of : MethodName := ⟨RX6, "of", "(II)I"⟩
abbrev cX6_attemptAt : ByteArray := prog_8_method_11_code
def yX6_attemptAt : MethodName := ⟨RX6, "attemptAt", "(II)I"⟩
abbrev cX6_isSetting : ByteArray := prog_8_method_12_code
def yX6_isSetting : MethodName := ⟨RX6, "isSetting", "(II)Z"⟩
abbrev cX6_set : ByteArray := prog_8_method_13_code
def yX6_set : MethodName := ⟨RX6, "set", "(II)I"⟩
abbrev cX6_addModule : ByteArray := prog_8_method_14_code
def yX6_addModule : MethodName := ⟨RX6, "addModule", "(I)I"⟩
abbrev cX6_addPaper : ByteArray := prog_8_method_15_code
def yX6_addPaper : MethodName := ⟨RX6, "addPaper", "(III)I"⟩
abbrev cX6_addStudent : ByteArray := prog_8_method_16_code
def yX6_addStudent : MethodName := ⟨RX6, "addStudent", "(I)I"⟩
abbrev cX6_paper : ByteArray := prog_8_method_17_code
def yX6_paper : MethodName := ⟨RX6, "paper", "(II)I"⟩
abbrev cX6_percent : ByteArray := prog_8_method_18_code
def yX6_percent : MethodName := ⟨RX6, "percent", "(II)I"⟩
abbrev cX6_first : ByteArray := prog_8_method_19_code
def yX6_first : MethodName := ⟨RX6, "first", "(II)I"⟩
abbrev cX6_percents : ByteArray := prog_8_method_20_code
def yX6_percents : MethodName := ⟨RX6, "percents", "(IIZ)I"⟩
abbrev cX6_by : ByteArray := prog_8_method_21_code
def yX6_by : MethodName := ⟨RX6, "by", "(III)I"⟩
abbrev cX6_scaledOf : ByteArray := prog_8_method_22_code
def yX6_scaledOf : MethodName := ⟨RX6, "scaledOf", "(II)I"⟩
abbrev cX6_again : ByteArray := prog_8_method_23_code
def yX6_again : MethodName := ⟨RX6, "again", "(II)I"⟩
abbrev cX6_markOf : ByteArray := prog_8_method_24_code
def yX6_markOf : MethodName := ⟨RX6, "markOf", "(II)I"⟩
abbrev cX6_counts : ByteArray := prog_8_method_25_code
def yX6_counts : MethodName := ⟨RX6, "counts", "(I)Z"⟩
abbrev cX6_looks : ByteArray := prog_8_method_26_code
def yX6_looks : MethodName := ⟨RX6, "looks", "(III)V"⟩
abbrev cX6_credits : ByteArray := prog_8_method_27_code
def yX6_credits : MethodName := ⟨RX6, "credits", "(I)I"⟩
abbrev cX6_graded : ByteArray := prog_8_method_28_code
def yX6_graded : MethodName := ⟨RX6, "graded", "(III)V"⟩
abbrev cX6_limit : ByteArray := prog_8_method_29_code
def yX6_limit : MethodName := ⟨RX6, "limit", "(I)I"⟩
abbrev cX6_grades : ByteArray := prog_8_method_30_code
def yX6_grades : MethodName := ⟨RX6, "grades", "()V"⟩
abbrev cX6_ranks : ByteArray := prog_8_method_31_code
def yX6_ranks : MethodName := ⟨RX6, "ranks", "()V"⟩
abbrev cX6_isAhead : ByteArray := prog_8_method_32_code
def yX6_isAhead : MethodName := ⟨RX6, "isAhead", "(II)Z"⟩
abbrev cX6_refuses : ByteArray := prog_8_method_33_code
def yX6_refuses : MethodName := ⟨RX6, "refuses", "(II)I"⟩
abbrev cX6_enters : ByteArray := prog_8_method_34_code
def yX6_enters : MethodName := ⟨RX6, "enters", "(IIII)I"⟩
abbrev cX6_sits : ByteArray := prog_8_method_35_code
def yX6_sits : MethodName := ⟨RX6, "sits", "(III)I"⟩
abbrev cX6_removes : ByteArray := prog_8_method_36_code
def yX6_removes : MethodName := ⟨RX6, "removes", "(II)I"⟩
abbrev cX6_isDone : ByteArray := prog_8_method_37_code
def yX6_isDone : MethodName := ⟨RX6, "isDone", "(I)Z"⟩
abbrev cX6_mark : ByteArray := prog_8_method_38_code
def yX6_mark : MethodName := ⟨RX6, "mark", "(III)I"⟩
abbrev cX6_absent : ByteArray := prog_8_method_39_code
def yX6_absent : MethodName := ⟨RX6, "absent", "(III)I"⟩
abbrev cX6_resit : ByteArray := prog_8_method_40_code
def yX6_resit : MethodName := ⟨RX6, "resit", "(III)I"⟩
abbrev cX6_remove : ByteArray := prog_8_method_41_code
def yX6_remove : MethodName := ⟨RX6, "remove", "(II)I"⟩
abbrev cX6_attempt : ByteArray := prog_8_method_42_code
def yX6_attempt : MethodName := ⟨RX6, "attempt", "(III)I"⟩
abbrev cX6_entered : ByteArray := prog_8_method_43_code
def yX6_entered : MethodName := ⟨RX6, "entered", "(II)I"⟩
abbrev cX6_hasRule : ByteArray := prog_8_method_44_code
def yX6_hasRule : MethodName := ⟨RX6, "hasRule", "(II)Z"⟩
abbrev cX6_isRule : ByteArray := prog_8_method_45_code
def yX6_isRule : MethodName := ⟨RX6, "isRule", "(II)Z"⟩
abbrev cX6_scale : ByteArray := prog_8_method_46_code
def yX6_scale : MethodName := ⟨RX6, "scale", "(IIII)I"⟩
abbrev cX6_belongs : ByteArray := prog_8_method_47_code
def yX6_belongs : MethodName := ⟨RX6, "belongs", "(III)Z"⟩
abbrev cX6_scaling : ByteArray := prog_8_method_48_code
def yX6_scaling : MethodName := ⟨RX6, "scaling", "(III)I"⟩
abbrev cX6_scaled : ByteArray := prog_8_method_49_code
def yX6_scaled : MethodName := ⟨RX6, "scaled", "(III)I"⟩
abbrev cX6_module : ByteArray := prog_8_method_50_code
def yX6_module : MethodName := ⟨RX6, "module", "(III)I"⟩
abbrev cX6_student : ByteArray := prog_8_method_51_code
def yX6_student : MethodName := ⟨RX6, "student", "(II)I"⟩
abbrev cX6_passedCredits : ByteArray := prog_8_method_52_code
def yX6_passedCredits : MethodName := ⟨RX6, "passedCredits", "()I"⟩
abbrev cX6_again_ : ByteArray := prog_8_method_53_code
def yX6_again_ : MethodName := ⟨RX6, "again", "(I)I"⟩
abbrev cX6_why : ByteArray := prog_8_method_54_code
def yX6_why : MethodName := ⟨RX6, "why", "(II)I"⟩
abbrev cX6_ranked : ByteArray := prog_8_method_55_code
def yX6_ranked : MethodName := ⟨RX6, "ranked", "(I)I"⟩
abbrev cX6_ofClass : ByteArray := prog_8_method_56_code
def yX6_ofClass : MethodName := ⟨RX6, "ofClass", "(II)I"⟩
abbrev cX6_classIf : ByteArray := prog_8_method_57_code
def yX6_classIf : MethodName := ⟨RX6, "classIf", "(III)I"⟩
abbrev cX6_needed : ByteArray := prog_8_method_58_code
def yX6_needed : MethodName := ⟨RX6, "needed", "(II)I"⟩
abbrev cX6_changedIf : ByteArray := prog_8_method_59_code
def yX6_changedIf : MethodName := ⟨RX6, "changedIf", "(II)I"⟩
abbrev cX6_append : ByteArray := prog_8_method_60_code
def yX6_append : MethodName := ⟨RX6, "append", "(I)I"⟩
abbrev cX6_here : ByteArray := prog_8_method_61_code
def yX6_here : MethodName := ⟨RX6, "here", "()I"⟩
abbrev cX6_takes : ByteArray := prog_8_method_62_code
def yX6_takes : MethodName := ⟨RX6, "takes", "(I)Z"⟩
abbrev cX6_number : ByteArray := prog_8_method_63_code
def yX6_number : MethodName := ⟨RX6, "number", "()I"⟩
abbrev cX6_entry : ByteArray := prog_8_method_64_code
def yX6_entry : MethodName := ⟨RX6, "entry", "(Z)I"⟩
abbrev cX6_comesBack : ByteArray := prog_8_method_65_code
def yX6_comesBack : MethodName := ⟨RX6, "comesBack", "()V"⟩
abbrev cX6_read : ByteArray := prog_8_method_66_code
def yX6_read : MethodName := ⟨RX6, "read", "()I"⟩
abbrev cX6_refusal : ByteArray := prog_8_method_67_code
def yX6_refusal : MethodName := ⟨RX6, "refusal", "(I)I"⟩
abbrev cX6_writes : ByteArray := prog_8_method_68_code
def yX6_writes : MethodName := ⟨RX6, "writes", "(I)V"⟩
abbrev cX6_write : ByteArray := prog_8_method_69_code
def yX6_write : MethodName := ⟨RX6, "write", "(I)I"⟩
abbrev cX6_written : ByteArray := prog_8_method_70_code
def yX6_written : MethodName := ⟨RX6, "written", "(I)I"⟩
abbrev cX6_account : ByteArray := prog_8_method_71_code
def yX6_account : MethodName := ⟨RX6, "account", "(I)I"⟩
abbrev cX6_undo : ByteArray := prog_8_method_72_code
def yX6_undo : MethodName := ⟨RX6, "undo", "()I"⟩
abbrev cX6_save : ByteArray := prog_8_method_73_code
def yX6_save : MethodName := ⟨RX6, "save", "()I"⟩
abbrev cX6_restore : ByteArray := prog_8_method_74_code
def yX6_restore : MethodName := ⟨RX6, "restore", "()I"⟩
def RJ5 : String := "java/lang/AbstractStringBuilder"
def TJ5 : u_T := fun k => match k with
  | _ => ("", "", "", false)
def tyJ5 : Nat → FieldType := fun k => match k with
  | _ => .int
abbrev wsJ50 : List Cond := u_ws RJ5 TJ5 0
theorem nmJ5 : ∀ a, a < 0 → ∀ b, b < 0 → a ≠ b → (TJ5 a).2.1 ≠ (TJ5 b).2.1 := by decide +kernel
theorem tyJ5_ok : ∀ k, k < 0 → parseFieldDescriptor (TJ5 k).2.2.1 = some (tyJ5 k) := by decide +kernel
abbrev cJ5_init_d00df : ByteArray := prog_9_method_2_code
def yJ5_init_d00df : MethodName := ⟨RJ5, "<init>", "(I)V"⟩
abbrev cJ5_length_8abf5 : ByteArray := prog_9_method_6_code
def yJ5_length_8abf5 : MethodName := ⟨RJ5, "length", "()I"⟩
abbrev cJ5_ensureCapacityInternal_d00df : ByteArray := prog_9_method_9_code
def yJ5_ensureCapacityInternal_d00df : MethodName := ⟨RJ5, "ensureCapacityInternal", "(I)V"⟩
abbrev cJ5_newCapacity_0f7a4 : ByteArray := prog_9_method_10_code
def yJ5_newCapacity_0f7a4 : MethodName := ⟨RJ5, "newCapacity", "(I)I"⟩
abbrev cJ5_inflate_da8c8 : ByteArray := prog_9_method_11_code
def yJ5_inflate_da8c8 : MethodName := ⟨RJ5, "inflate", "()V"⟩
abbrev cJ5_setLength_d00df : ByteArray := prog_9_method_13_code
def yJ5_setLength_d00df : MethodName := ⟨RJ5, "setLength", "(I)V"⟩
abbrev cJ5_charAt_5068e : ByteArray := prog_9_method_14_code
def yJ5_charAt_5068e : MethodName := ⟨RJ5, "charAt", "(I)C"⟩
abbrev cJ5_append_3fe6f : ByteArray := prog_9_method_31_code
def yJ5_append_3fe6f : MethodName := ⟨RJ5, "append", "(C)Ljava/lang/AbstractStringBuilder;"⟩
abbrev cJ5_append_c97b9 : ByteArray := prog_9_method_32_code
def yJ5_append_c97b9 : MethodName := ⟨RJ5, "append", "(I)Ljava/lang/AbstractStringBuilder;"⟩
abbrev cJ5_isLatin1_aae02 : ByteArray := prog_9_method_68_code
def yJ5_isLatin1_aae02 : MethodName := ⟨RJ5, "isLatin1", "()Z"⟩
def RJ11 : String := "java/lang/Character"
def TJ11 : u_T := fun k => match k with
  | _ => ("", "", "", false)
def tyJ11 : Nat → FieldType := fun k => match k with
  | _ => .int
abbrev wsJ110 : List Cond := u_ws RJ11 TJ11 0
theorem nmJ11 : ∀ a, a < 0 → ∀ b, b < 0 → a ≠ b → (TJ11 a).2.1 ≠ (TJ11 b).2.1 := by decide +kernel
theorem tyJ11_ok : ∀ k, k < 0 → parseFieldDescriptor (TJ11 k).2.2.1 = some (tyJ11 k) := by decide +kernel
abbrev cJ11_isValidCodePoint_9a6ad : ByteArray := prog_10_method_11_code
def yJ11_isValidCodePoint_9a6ad : MethodName := ⟨RJ11, "isValidCodePoint", "(I)Z"⟩
abbrev cJ11_highSurrogate_5068e : ByteArray := prog_10_method_28_code
def yJ11_highSurrogate_5068e : MethodName := ⟨RJ11, "highSurrogate", "(I)C"⟩
abbrev cJ11_lowSurrogate_5068e : ByteArray := prog_10_method_29_code
def yJ11_lowSurrogate_5068e : MethodName := ⟨RJ11, "lowSurrogate", "(I)C"⟩
def RJx8e188 : String := "java/lang/Cloneable"
def TJx8e188 : u_T := fun k => match k with
  | _ => ("", "", "", false)
def tyJx8e188 : Nat → FieldType := fun k => match k with
  | _ => .int
abbrev wsJx8e1880 : List Cond := u_ws RJx8e188 TJx8e188 0
theorem nmJx8e188 : ∀ a, a < 0 → ∀ b, b < 0 → a ≠ b → (TJx8e188 a).2.1 ≠ (TJx8e188 b).2.1 := by decide +kernel
theorem tyJx8e188_ok : ∀ k, k < 0 → parseFieldDescriptor (TJx8e188 k).2.2.1 = some (tyJx8e188 k) := by decide +kernel
def RJ6 : String := "java/lang/Integer"
def TJ6 : u_T := fun k => match k with
  | _ => ("", "", "", false)
def tyJ6 : Nat → FieldType := fun k => match k with
  | _ => .int
abbrev wsJ60 : List Cond := u_ws RJ6 TJ6 0
theorem nmJ6 : ∀ a, a < 0 → ∀ b, b < 0 → a ≠ b → (TJ6 a).2.1 ≠ (TJ6 b).2.1 := by decide +kernel
theorem tyJ6_ok : ∀ k, k < 0 → parseFieldDescriptor (TJ6 k).2.2.1 = some (tyJ6 k) := by decide +kernel
abbrev cJ6_getChars_ba4f3 : ByteArray := prog_12_method_12_code
def yJ6_getChars_ba4f3 : MethodName := ⟨RJ6, "getChars", "(II[B)I"⟩
abbrev cJ6_stringSize_0f7a4 : ByteArray := prog_12_method_13_code
def yJ6_stringSize_0f7a4 : MethodName := ⟨RJ6, "stringSize", "(I)I"⟩
def RJ9 : String := "java/lang/Math"
def TJ9 : u_T := fun k => match k with
  | _ => ("", "", "", false)
def tyJ9 : Nat → FieldType := fun k => match k with
  | _ => .int
abbrev wsJ90 : List Cond := u_ws RJ9 TJ9 0
theorem nmJ9 : ∀ a, a < 0 → ∀ b, b < 0 → a ≠ b → (TJ9 a).2.1 ≠ (TJ9 b).2.1 := by decide +kernel
theorem tyJ9_ok : ∀ k, k < 0 → parseFieldDescriptor (TJ9 k).2.2.1 = some (tyJ9 k) := by decide +kernel
abbrev cJ9_floorDiv_7cf53 : ByteArray := prog_13_method_47_code
def yJ9_floorDiv_7cf53 : MethodName := ⟨RJ9, "floorDiv", "(II)I"⟩
abbrev cJ9_max_7cf53 : ByteArray := prog_13_method_65_code
def yJ9_max_7cf53 : MethodName := ⟨RJ9, "max", "(II)I"⟩
abbrev cJ9_min_7cf53 : ByteArray := prog_13_method_69_code
def yJ9_min_7cf53 : MethodName := ⟨RJ9, "min", "(II)I"⟩
def RJ0 : String := "java/lang/String"
def TJ0 : u_T := fun k => match k with
  | _ => ("", "", "", false)
def tyJ0 : Nat → FieldType := fun k => match k with
  | _ => .int
abbrev wsJ00 : List Cond := u_ws RJ0 TJ0 0
theorem nmJ0 : ∀ a, a < 0 → ∀ b, b < 0 → a ≠ b → (TJ0 a).2.1 ≠ (TJ0 b).2.1 := by decide +kernel
theorem tyJ0_ok : ∀ k, k < 0 → parseFieldDescriptor (TJ0 k).2.2.1 = some (tyJ0 k) := by decide +kernel
abbrev cJ0_length_8abf5 : ByteArray := prog_14_method_54_code
def yJ0_length_8abf5 : MethodName := ⟨RJ0, "length", "()I"⟩
abbrev cJ0_indexOf_0f7a4 : ByteArray := prog_14_method_79_code
def yJ0_indexOf_0f7a4 : MethodName := ⟨RJ0, "indexOf", "(I)I"⟩
abbrev cJ0_indexOf_7cf53 : ByteArray := prog_14_method_80_code
def yJ0_indexOf_7cf53 : MethodName := ⟨RJ0, "indexOf", "(II)I"⟩
abbrev cJ0_coder_7d493 : ByteArray := prog_14_method_152_code
def yJ0_coder_7d493 : MethodName := ⟨RJ0, "coder", "()B"⟩
abbrev cJ0_isLatin1_aae02 : ByteArray := prog_14_method_154_code
def yJ0_isLatin1_aae02 : MethodName := ⟨RJ0, "isLatin1", "()Z"⟩
abbrev cJ0_checkIndex_df160 : ByteArray := prog_14_method_155_code
def yJ0_checkIndex_df160 : MethodName := ⟨RJ0, "checkIndex", "(II)V"⟩
abbrev cJ0_checkBoundsOffCount_cabcc : ByteArray := prog_14_method_157_code
def yJ0_checkBoundsOffCount_cabcc : MethodName := ⟨RJ0, "checkBoundsOffCount", "(III)I"⟩
abbrev cJ0_checkBoundsBeginEnd_23922 : ByteArray := prog_14_method_158_code
def yJ0_checkBoundsBeginEnd_23922 : MethodName := ⟨RJ0, "checkBoundsBeginEnd", "(III)V"⟩
def RJ4 : String := "java/lang/StringBuilder"
def TJ4 : u_T := fun k => match k with
  | 0 => ("java/lang/AbstractStringBuilder", "value", "[B", false)
  | 1 => ("java/lang/AbstractStringBuilder", "coder", "B", false)
  | 2 => ("java/lang/AbstractStringBuilder", "maybeLatin1", "Z", false)
  | _ => ("java/lang/AbstractStringBuilder", "count", "I", false)
def tyJ4 : Nat → FieldType := fun k => match k with
  | 0 => .array .byte
  | 1 => .byte
  | 2 => .boolean
  | _ => .int
abbrev wsJ40 : List Cond := u_ws RJ4 TJ4 4
theorem nmJ4 : ∀ a, a < 4 → ∀ b, b < 4 → a ≠ b → (TJ4 a).2.1 ≠ (TJ4 b).2.1 := by decide +kernel
theorem tyJ4_ok : ∀ k, k < 4 → parseFieldDescriptor (TJ4 k).2.2.1 = some (tyJ4 k) := by decide +kernel
abbrev cJ4_init_da8c8 : ByteArray := prog_15_method_1_code
def yJ4_init_da8c8 : MethodName := ⟨RJ4, "<init>", "()V"⟩
abbrev cJ4_append_cf468 : ByteArray := prog_15_method_14_code
def yJ4_append_cf468 : MethodName := ⟨RJ4, "append", "(C)Ljava/lang/StringBuilder;"⟩
abbrev cJ4_append_bf812 : ByteArray := prog_15_method_15_code
def yJ4_append_bf812 : MethodName := ⟨RJ4, "append", "(I)Ljava/lang/StringBuilder;"⟩
abbrev cJ4_charAt_5068e : ByteArray := prog_15_method_88_code
def yJ4_charAt_5068e : MethodName := ⟨RJ4, "charAt", "(I)C"⟩
abbrev cJ4_setLength_d00df : ByteArray := prog_15_method_89_code
def yJ4_setLength_d00df : MethodName := ⟨RJ4, "setLength", "(I)V"⟩
abbrev cJ4_length_8abf5 : ByteArray := prog_15_method_93_code
def yJ4_length_8abf5 : MethodName := ⟨RJ4, "length", "()I"⟩
def RJ1 : String := "java/lang/StringLatin1"
def TJ1 : u_T := fun k => match k with
  | _ => ("", "", "", false)
def tyJ1 : Nat → FieldType := fun k => match k with
  | _ => .int
abbrev wsJ10 : List Cond := u_ws RJ1 TJ1 0
theorem nmJ1 : ∀ a, a < 0 → ∀ b, b < 0 → a ≠ b → (TJ1 a).2.1 ≠ (TJ1 b).2.1 := by decide +kernel
theorem tyJ1_ok : ∀ k, k < 0 → parseFieldDescriptor (TJ1 k).2.2.1 = some (tyJ1 k) := by decide +kernel
abbrev cJ1_canEncode_fc78d : ByteArray := prog_16_method_3_code
def yJ1_canEncode_fc78d : MethodName := ⟨RJ1, "canEncode", "(C)Z"⟩
abbrev cJ1_canEncode_9a6ad : ByteArray := prog_16_method_4_code
def yJ1_canEncode_9a6ad : MethodName := ⟨RJ1, "canEncode", "(I)Z"⟩
abbrev cJ1_indexOf_4cfef : ByteArray := prog_16_method_22_code
def yJ1_indexOf_4cfef : MethodName := ⟨RJ1, "indexOf", "([BIII)I"⟩
abbrev cJ1_indexOfChar_4cfef : ByteArray := prog_16_method_23_code
def yJ1_indexOfChar_4cfef : MethodName := ⟨RJ1, "indexOfChar", "([BIII)I"⟩
abbrev cJ1_fillNull_b72d1 : ByteArray := prog_16_method_48_code
def yJ1_fillNull_b72d1 : MethodName := ⟨RJ1, "fillNull", "([BII)V"⟩
abbrev cJ1_inflate_0e8fd : ByteArray := prog_16_method_50_code
def yJ1_inflate_0e8fd : MethodName := ⟨RJ1, "inflate", "([BI[BII)V"⟩
def RJ2 : String := "java/lang/StringUTF16"
def TJ2 : u_T := fun k => match k with
  | _ => ("", "", "", false)
def tyJ2 : Nat → FieldType := fun k => match k with
  | _ => .int
abbrev wsJ20 : List Cond := u_ws RJ2 TJ2 0
theorem nmJ2 : ∀ a, a < 0 → ∀ b, b < 0 → a ≠ b → (TJ2 a).2.1 ≠ (TJ2 b).2.1 := by decide +kernel
theorem tyJ2_ok : ∀ k, k < 0 → parseFieldDescriptor (TJ2 k).2.2.1 = some (tyJ2 k) := by decide +kernel
abbrev cJ2_newBytesFor_77867 : ByteArray := prog_17_method_2_code
def yJ2_newBytesFor_77867 : MethodName := ⟨RJ2, "newBytesFor", "(I)[B"⟩
abbrev cJ2_newBytesLength_0f7a4 : ByteArray := prog_17_method_3_code
def yJ2_newBytesLength_0f7a4 : MethodName := ⟨RJ2, "newBytesLength", "(I)I"⟩
abbrev cJ2_putChar_b72d1 : ByteArray := prog_17_method_4_code
def yJ2_putChar_b72d1 : MethodName := ⟨RJ2, "putChar", "([BII)V"⟩
abbrev cJ2_getChar_3b067 : ByteArray := prog_17_method_5_code
def yJ2_getChar_3b067 : MethodName := ⟨RJ2, "getChar", "([BI)C"⟩
abbrev cJ2_length_9d52b : ByteArray := prog_17_method_6_code
def yJ2_length_9d52b : MethodName := ⟨RJ2, "length", "([B)I"⟩
abbrev cJ2_indexOf_4cfef : ByteArray := prog_17_method_40_code
def yJ2_indexOf_4cfef : MethodName := ⟨RJ2, "indexOf", "([BIII)I"⟩
abbrev cJ2_indexOfChar_4cfef : ByteArray := prog_17_method_47_code
def yJ2_indexOfChar_4cfef : MethodName := ⟨RJ2, "indexOfChar", "([BIII)I"⟩
abbrev cJ2_indexOfCharUnsafe_4cfef : ByteArray := prog_17_method_48_code
def yJ2_indexOfCharUnsafe_4cfef : MethodName := ⟨RJ2, "indexOfCharUnsafe", "([BIII)I"⟩
abbrev cJ2_indexOfSupplementary_4cfef : ByteArray := prog_17_method_49_code
def yJ2_indexOfSupplementary_4cfef : MethodName := ⟨RJ2, "indexOfSupplementary", "([BIII)I"⟩
abbrev cJ2_fillNull_b72d1 : ByteArray := prog_17_method_70_code
def yJ2_fillNull_b72d1 : MethodName := ⟨RJ2, "fillNull", "([BII)V"⟩
abbrev cJ2_putCharSB_b72d1 : ByteArray := prog_17_method_71_code
def yJ2_putCharSB_b72d1 : MethodName := ⟨RJ2, "putCharSB", "([BII)V"⟩
abbrev cJ2_getChars_46870 : ByteArray := prog_17_method_77_code
def yJ2_getChars_46870 : MethodName := ⟨RJ2, "getChars", "(III[B)I"⟩
abbrev cJ2_inflate_0e8fd : ByteArray := prog_17_method_86_code
def yJ2_inflate_0e8fd : MethodName := ⟨RJ2, "inflate", "([BI[BII)V"⟩
abbrev cJ2_getChars_ba4f3 : ByteArray := prog_17_method_89_code
def yJ2_getChars_ba4f3 : MethodName := ⟨RJ2, "getChars", "(II[B)I"⟩
abbrev cJ2_checkIndex_2214a : ByteArray := prog_17_method_91_code
def yJ2_checkIndex_2214a : MethodName := ⟨RJ2, "checkIndex", "(I[B)V"⟩
abbrev cJ2_checkBoundsBeginEnd_d044e : ByteArray := prog_17_method_93_code
def yJ2_checkBoundsBeginEnd_d044e : MethodName := ⟨RJ2, "checkBoundsBeginEnd", "(II[B)V"⟩
abbrev cJ2_checkBoundsOffCount_d044e : ByteArray := prog_17_method_94_code
def yJ2_checkBoundsOffCount_d044e : MethodName := ⟨RJ2, "checkBoundsOffCount", "(II[B)V"⟩
def RJ10 : String := "java/lang/System"
def TJ10 : u_T := fun k => match k with
  | _ => ("", "", "", false)
def tyJ10 : Nat → FieldType := fun k => match k with
  | _ => .int
abbrev wsJ100 : List Cond := u_ws RJ10 TJ10 0
theorem nmJ10 : ∀ a, a < 0 → ∀ b, b < 0 → a ≠ b → (TJ10 a).2.1 ≠ (TJ10 b).2.1 := by decide +kernel
theorem tyJ10_ok : ∀ k, k < 0 → parseFieldDescriptor (TJ10 k).2.2.1 = some (tyJ10 k) := by decide +kernel
def RJ7 : String := "java/util/Arrays"
def TJ7 : u_T := fun k => match k with
  | _ => ("", "", "", false)
def tyJ7 : Nat → FieldType := fun k => match k with
  | _ => .int
abbrev wsJ70 : List Cond := u_ws RJ7 TJ7 0
theorem nmJ7 : ∀ a, a < 0 → ∀ b, b < 0 → a ≠ b → (TJ7 a).2.1 ≠ (TJ7 b).2.1 := by decide +kernel
theorem tyJ7_ok : ∀ k, k < 0 → parseFieldDescriptor (TJ7 k).2.2.1 = some (tyJ7 k) := by decide +kernel
abbrev cJ7_rangeCheck_23922 : ByteArray := prog_19_method_30_code
def yJ7_rangeCheck_23922 : MethodName := ⟨RJ7, "rangeCheck", "(III)V"⟩
abbrev cJ7_fill_eb02e : ByteArray := prog_19_method_110_code
def yJ7_fill_eb02e : MethodName := ⟨RJ7, "fill", "([BIIB)V"⟩
abbrev cJ7_copyOf_9075b : ByteArray := prog_19_method_121_code
def yJ7_copyOf_9075b : MethodName := ⟨RJ7, "copyOf", "([BI)[B"⟩
def RJ8 : String := "jdk/internal/util/ArraysSupport"
def TJ8 : u_T := fun k => match k with
  | _ => ("", "", "", false)
def tyJ8 : Nat → FieldType := fun k => match k with
  | _ => .int
abbrev wsJ80 : List Cond := u_ws RJ8 TJ8 0
theorem nmJ8 : ∀ a, a < 0 → ∀ b, b < 0 → a ≠ b → (TJ8 a).2.1 ≠ (TJ8 b).2.1 := by decide +kernel
theorem tyJ8_ok : ∀ k, k < 0 → parseFieldDescriptor (TJ8 k).2.2.1 = some (tyJ8 k) := by decide +kernel
abbrev cJ8_newLength_cabcc : ByteArray := prog_20_method_27_code
def yJ8_newLength_cabcc : MethodName := ⟨RJ8, "newLength", "(III)I"⟩
abbrev cJ8_hugeLength_7cf53 : ByteArray := prog_20_method_28_code
def yJ8_hugeLength_7cf53 : MethodName := ⟨RJ8, "hugeLength", "(II)I"⟩
def RJ3 : String := "jdk/internal/util/Preconditions"
def TJ3 : u_T := fun k => match k with
  | _ => ("", "", "", false)
def tyJ3 : Nat → FieldType := fun k => match k with
  | _ => .int
abbrev wsJ30 : List Cond := u_ws RJ3 TJ3 0
theorem nmJ3 : ∀ a, a < 0 → ∀ b, b < 0 → a ≠ b → (TJ3 a).2.1 ≠ (TJ3 b).2.1 := by decide +kernel
theorem tyJ3_ok : ∀ k, k < 0 → parseFieldDescriptor (TJ3 k).2.2.1 = some (tyJ3 k) := by decide +kernel
abbrev cJ3_checkIndex_8e157 : ByteArray := prog_21_method_11_code
def yJ3_checkIndex_8e157 : MethodName := ⟨RJ3, "checkIndex", "(IILjava/util/function/BiFunction;)I"⟩
abbrev cJ3_checkFromToIndex_8c36e : ByteArray := prog_21_method_12_code
def yJ3_checkFromToIndex_8c36e : MethodName := ⟨RJ3, "checkFromToIndex", "(IIILjava/util/function/BiFunction;)I"⟩
abbrev cJ3_checkFromIndexSize_8c36e : ByteArray := prog_21_method_13_code
def yJ3_checkFromIndexSize_8c36e : MethodName := ⟨RJ3, "checkFromIndexSize", "(IIILjava/util/function/BiFunction;)I"⟩
def RL : String := "ExamBoardLaw"
abbrev cL_law : ByteArray := code
def yL_law : MethodName := ⟨RL, "law", "([I)Z"⟩
abbrev vwCl : List vw_C := [(RJ4, TJ4, 4), (RX0, TX0, 18), (RX1, TX1, 7), (RX2, TX2, 3), (RX3, TX3, 4), (RX4, TX4, 12), (RX5, TX5, 11), (RX6, TX6, 27)]
end
section
/-! whole numbers and the machine's ints -/
/-- in the range of an int -/
def inR (x : Int) : Prop := -2147483648 ≤ x ∧ x ≤ 2147483647
abbrev oi (x : Int) : Int32 := Int32.ofInt x
theorem oi_toInt {x : Int} (h : inR x) : (oi x).toInt = x := Int32.toInt_ofInt_of_le (by have := h.1; omega) (by have := h.2; omega)
theorem oi_self (x : Int32) : oi x.toInt = x := Int32.ofInt_toInt x
theorem inR_toInt (x : Int32) : inR x.toInt := ⟨by have := Int32.le_toInt x; omega, by have := Int32.toInt_lt x; omega⟩
theorem oi_lt {a b : Int} (ha : inR a) (hb : inR b) : oi a < oi b ↔ a < b := by
  rw [Int32.lt_iff_toInt_lt, oi_toInt ha, oi_toInt hb]
theorem oi_le {a b : Int} (ha : inR a) (hb : inR b) : oi a ≤ oi b ↔ a ≤ b := by
  rw [Int32.le_iff_toInt_le, oi_toInt ha, oi_toInt hb]
theorem oi_eq {a b : Int} (ha : inR a) (hb : inR b) : oi a = oi b ↔ a = b := by
  rw [← Int32.toInt_inj, oi_toInt ha, oi_toInt hb]
theorem oi_add (a b : Int) : oi a + oi b = oi (a + b) := (Int32.ofInt_add a b).symm
theorem oi_sub (a b : Int) : oi a - oi b = oi (a - b) := (Int32.ofInt_sub a b).symm
theorem oi_mul (a b : Int) : oi a * oi b = oi (a * b) := (Int32.ofInt_mul a b).symm
theorem oi_neg (a : Int) : - oi a = oi (-a) := (Int32.ofInt_neg a).symm
theorem oi_nat (n : Nat) : oi (n : Int) = nI n := Int32.ofInt_eq_ofNat
theorem oi_0 : (0 : Int32) = oi 0 := rfl
theorem inR_of {x : Int} (h1 : -2147483648 ≤ x) (h2 : x ≤ 2147483647) : inR x := ⟨h1, h2⟩
theorem oi_natOf {x : Int} (h : 0 ≤ x) : oi x = nI x.toNat := by
  rw [← oi_nat, Int.toNat_of_nonneg h]
theorem oi_clamp {x : Int} (h : 0 ≤ x) (h2 : inR x) : (oi x).toNatClampNeg = x.toNat := by
  rw [oi_natOf h]
  exact nI_clamp (by have := h2.2; omega)
theorem oi_in {x : Int} {n : Nat} (h : 0 ≤ x) (h2 : x < n) (h3 : n < 2 ^ 31) : vp_in (oi x) n := by
  rw [oi_natOf h]
  exact vp_in_nI (by omega) h3
theorem oi_div {a b : Int} (ha : inR a) (hb : inR b) (h0 : 0 ≤ a) (h1 : 0 < b) : oi a / oi b = oi (a / b) := by
  rw [oi_natOf h0, oi_natOf (Int.le_of_lt h1)]
  rw [pk_div (by have := ha.2; omega) (by omega) (by have := hb.2; omega)]
  rw [← oi_nat]
  congr 1
  rw [Int.natCast_ediv, Int.toNat_of_nonneg h0, Int.toNat_of_nonneg (Int.le_of_lt h1)]
theorem oi_rem {a b : Int} (ha : inR a) (hb : inR b) (h0 : 0 ≤ a) (h1 : 0 < b) : oi a - oi a / oi b * oi b = oi (a % b) := by
  rw [oi_div ha hb h0 h1, oi_mul, oi_sub]
  congr 1
  have := Int.mul_ediv_add_emod a b
  have e : a / b * b = b * (a / b) := Int.mul_comm _ _
  omega
theorem oi_char {n : Nat} (h : n < 65536) : ((nI n).toUInt32 % 65536).toInt32 = nI n := by
  have e : (nI n).toUInt32 = UInt32.ofNat n := rfl
  rw [e]
  have e2 : UInt32.ofNat n % 65536 = UInt32.ofNat n := by
    apply UInt32.toNat_inj.mp
    rw [UInt32.toNat_mod, UInt32.toNat_ofNat_of_lt' (by show n < 4294967296; omega)]
    show n % 65536 = n
    omega
  rw [e2]
  rfl
end
section
/-! the world of the run: 198 cells that stand from the start on, by their numbers
board k (0: the board, 1: the snapshot, 2..10: the slots): object 15 k, its arrays behind it; 165 History, 166 its slots; 167 Standing, 168 marks, 169 verdicts, 170 moduleMarks, 171 counting; 172 Ranks, 173 grades, 174 averages, 175 lifted; 176 EntryText, 177 signs, 178 kinds, 179 students, 180 papers, 181 marks; 182 recordText; 183 ExamBoard; 184 ExamBoardModel, 185 now, 186 kept, 187 saved, 188 tried, 189 text, 190 written, 191 mark, 192 state, 193 inModule, 194 isPassed, 195 rank, 196 grades, 197 averages -/
abbrev Mem : Type := Nat → Int → Int
def st (M : Mem) (i : Nat) (x v : Int) : Mem := fun a => if a = i then (fun y => if y = x then v else M i y) else M a
theorem st_ne {M : Mem} {i a : Nat} {x v : Int} (h : a ≠ i) : st M i x v a = M a := if_neg h
theorem st_row (M : Mem) (i : Nat) (x v : Int) : st M i x v i = fun y => if y = x then v else M i y := if_pos rfl
theorem st_self (M : Mem) (i : Nat) (x v : Int) : st M i x v i x = v := by rw [st_row]; exact if_pos rfl
theorem st_off {M : Mem} {i : Nat} {x v y : Int} (h : y ≠ x) : st M i x v i y = M i y := by rw [st_row]; exact if_neg h
def bln (k : Nat) : Nat := match k with
  | 1 => 5 | 2 => 4 | 3 => 8 | 4 => 8 | 5 => 8 | 6 => 20 | 7 => 160 | 8 => 160 | 9 => 160 | 10 => 160 | _ => 24
/-- kinds: 0 int array, 1 boolean array, 2 char array, 4 array of boards, 10 StringBuilder, 11.. the classes of vwCl; and how many places -/
def kk (i : Nat) : Nat × Nat := if i < 165 then (if i % 15 = 0 then (11, 18) else (0, bln (i % 15))) else if 198 ≤ i then (99, 0) else match i with
  | 165 => (13, 3) | 166 => (4, 9)
  | 167 => (15, 12) | 168 => (0, 8) | 169 => (0, 8) | 170 => (0, 4) | 171 => (1, 4)
  | 172 => (14, 4) | 173 => (0, 20) | 174 => (0, 20) | 175 => (1, 20)
  | 176 => (12, 7) | 177 => (10, 4) | 178 => (2, 20) | 179 => (0, 20) | 180 => (0, 20) | 181 => (0, 20)
  | 182 => (10, 4) | 183 => (16, 11) | 184 => (17, 27)
  | 185 => (0, 745) | 186 => (0, 5960) | 187 => (0, 745) | 188 => (0, 745) | 189 => (0, 80) | 190 => (0, 80)
  | 191 => (0, 8) | 192 => (0, 8) | 193 => (0, 4) | 194 => (1, 4) | 195 => (0, 20) | 196 => (0, 20) | 197 => (0, 20)
  | _ => (99, 0)
/-- the cell that a reference field (or a place of the slots) holds -/
def rr (i k : Nat) : Nat := if i < 165 then i + (k - 3) else match i, k with
  | 165, _ => 166 | 166, k => 15 * (k + 2) | 167, k => 168 + k | 172, k => 173 + k | 176, k => 177 + k
  | 183, 0 => 0 | 183, 1 => 15 | 183, 3 => 165 | 183, 4 => 167 | 183, 5 => 172 | 183, 6 => 176 | 183, _ => 182
  | 184, 0 => 185 | 184, 1 => 186 | 184, 3 => 187 | 184, 5 => 188 | 184, 6 => 189 | 184, 9 => 190 | 184, 14 => 191 | 184, 15 => 192 | 184, 16 => 193 | 184, 17 => 194 | 184, 24 => 195 | 184, 25 => 196 | 184, _ => 197
  | _, _ => 0
/-- whether field k of an object of kind t is a number -/
def isI (t k : Nat) : Bool := match t with
  | 11 => k < 4 | 12 => 5 ≤ k | 13 => 1 ≤ k | 14 => k == 3 | 15 => 4 ≤ k | 16 => k == 2 || 8 ≤ k
  | 17 => k == 2 || k == 4 || k == 7 || k == 8 || (10 ≤ k && k < 14) || (18 ≤ k && k < 24)
  | _ => true
/-- the tables' numbers of the classes and their slots; the array classes; the cells' addresses; the heap's size at the start -/
abbrev Cx : Type := va_G × (Nat → ClassId) × (Nat → Nat) × Nat
abbrev cad (cx : Cx) : Nat → Nat := cx.2.2.1
abbrev cA (cx : Cx) : Nat → ClassId := cx.2.1
abbrev cA0 (cx : Cx) : Nat → Prop := fun q => cx.2.2.2 ≤ q
abbrev rf (cx : Cx) (i : Nat) : Value := .ref (cx.2.2.1 i)
/-- the texts' hidden arrays: address, length, bytes; and a flag -/
abbrev Hid : Type := (Nat → Nat) × (Nat → Nat) × (Nat → Nat → Int32) × (Nat → Int32)
def fld (cx : Cx) (i t : Nat) (r : Int → Int) (k : Nat) : Value := if isI t k then .int (oi (r k)) else rf cx (rr i k)
def entR (cx : Cx) (hid : Hid) (i : Nat) (r : Int → Int) : va_E := match (kk i).1 with
  | 0 => .inl (cA cx 0, (kk i).2, .inl (fun j => oi (r j)))
  | 1 => .inl (cA cx 1, (kk i).2, .inl (fun j => oi (r j)))
  | 2 => .inl (cA cx 2, (kk i).2, .inl (fun j => oi (r j)))
  | 4 => .inl (cA cx 4, (kk i).2, .inr (.inr (.inr (.inr (fun j => some (cad cx (rr i j)))))))
  | 10 => .inr (0, [.ref (hid.1 i), .int 0, .int (hid.2.2.2 i), .int (oi (r 0))])
  | t => .inr (t - 10, (List.range (kk i).2).map (fld cx i t r))
abbrev hrow (cx : Cx) (hid : Hid) (i : Nat) : Nat × va_E := (hid.1 i, .inl (cA cx 3, hid.2.1 i, .inl (hid.2.2.1 i)))
def wl (cx : Cx) (M : Mem) (hid : Hid) : va_W := (List.range 198).map (fun i => (cad cx i, entR cx hid i (M i))) ++ [hrow cx hid 177, hrow cx hid 182]
theorem wl_get {cx : Cx} {M : Mem} {hid : Hid} {i : Nat} (h : i < 198) : (wl cx M hid)[i]? = some (cad cx i, entR cx hid i (M i)) := by
  unfold wl
  rw [List.getElem?_append_left (by simp; omega), List.getElem?_map, List.getElem?_range h]
  rfl
theorem wl_set {cx : Cx} {M M' : Mem} {hid : Hid} {i : Nat} {e : va_E} (h : i < 198) (ho : ∀ j, j ≠ i → M' j = M j) (he : e = entR cx hid i (M' i)) : (wl cx M hid).set i (cad cx i, e) = wl cx M' hid := by
  subst he
  apply List.ext_getElem?
  intro j
  by_cases hj : j = i
  · subst hj
    rw [List.getElem?_set_self (by simp [wl]; omega), wl_get h]
  · rw [List.getElem?_set_ne (Ne.symm hj)]
    by_cases h2 : j < 198
    · rw [wl_get h2, wl_get h2, ho j hj]
    · unfold wl
      rw [List.getElem?_append_right (by simp; omega), List.getElem?_append_right (by simp; omega)]
      simp
theorem ent_i {cx : Cx} {hid : Hid} {i n : Nat} {r : Int → Int} (h : kk i = (0, n)) : entR cx hid i r = .inl (cA cx 0, n, .inl (fun j => oi (r j))) := by
  unfold entR; rw [h]; rfl
theorem ent_z {cx : Cx} {hid : Hid} {i n : Nat} {r : Int → Int} (h : kk i = (1, n)) : entR cx hid i r = .inl (cA cx 1, n, .inl (fun j => oi (r j))) := by
  unfold entR; rw [h]; rfl
theorem ent_c {cx : Cx} {hid : Hid} {i n : Nat} {r : Int → Int} (h : kk i = (2, n)) : entR cx hid i r = .inl (cA cx 2, n, .inl (fun j => oi (r j))) := by
  unfold entR; rw [h]; rfl
theorem ent_q {cx : Cx} {hid : Hid} {i n : Nat} {r : Int → Int} (h : kk i = (4, n)) : entR cx hid i r = .inl (cA cx 4, n, .inr (.inr (.inr (.inr (fun j => some (cad cx (rr i j))))))) := by
  unfold entR; rw [h]; rfl
theorem ent_o {cx : Cx} {hid : Hid} {i t n : Nat} {r : Int → Int} (h : kk i = (t + 11, n)) : entR cx hid i r = .inr (t + 1, (List.range n).map (fld cx i (t + 11) r)) := by
  unfold entR; rw [h]; first | rfl | simp
/-- a text's cell and its hidden array -/
def SBok (M : Mem) (hid : Hid) (i : Nat) : Prop := 0 ≤ M i 0 ∧ M i 0 ≤ hid.2.1 i ∧ hid.2.1 i ≤ 400 ∧ sb_Fit (hid.2.2.1 i) ∧ ∀ j : Nat, (j : Int) < M i 0 → 0 ≤ M i (j + 1) ∧ M i (j + 1) < 128 ∧ hid.2.2.1 i j = oi (M i (j + 1))
def MemOK (M : Mem) (hid : Hid) : Prop := (∀ i j, inR (M i j)) ∧ SBok M hid 177 ∧ SBok M hid 182
theorem SBok.congr {M M' : Mem} {hid : Hid} {i : Nat} (h : SBok M hid i) (e : M' i = M i) : SBok M' hid i := by
  unfold SBok
  rw [e]
  exact h
theorem MemOK.st {M : Mem} {hid : Hid} {i : Nat} {x v : Int} (h : MemOK M hid) (h1 : i ≠ 177) (h2 : i ≠ 182) (hv : inR v) : MemOK (st M i x v) hid := by
  refine ⟨fun a j => ?_, h.2.1.congr (st_ne (Ne.symm h1)), h.2.2.congr (st_ne (Ne.symm h2))⟩
  by_cases ha : a = i
  · subst ha
    rw [st_row]
    by_cases hj : j = x
    · simp only [hj, if_true]; exact hv
    · simp only [hj, if_false]; exact h.1 a j
  · rw [st_ne ha]; exact h.1 a j
end
section
/-! what stands outside the run's own cells, and the state of a run -/
def BIG : List Cond := lw_tbl.filter goodWord
theorem big_ok : ∀ w ∈ BIG, w ∈ lw_tbl ∧ goodWord w = true := fun w h => List.mem_filter.mp h
theorem big_good : ∀ ws : List Cond, (∀ w ∈ ws, w ∈ BIG) → GoodIn BIG ws := fun ws h w hw => ⟨h w hw, good_of_word (big_ok w (h w hw)).2⟩
def sNm (i : Nat) : String := match i with | 198 => "LEAST_SETTING" | 199 => "GREATEST_SETTING" | 200 => "LEAST_V" | 201 => "GREATEST_V" | _ => "LIMITS"
def sLn (i : Nat) : Nat := match i with | 200 => 4 | 201 => 4 | _ => 5
def sVl (i : Nat) (j : Int) : Int := match i with
  | 198 => if j = 0 then 30 else 0
  | 199 => if j = 0 then 60 else if j = 1 then 60 else if j = 2 then 8 else if j = 3 then 5 else 100
  | 200 => if j = 0 then 0 else if j = 1 then -30 else if j = 2 then 50 else 0
  | 201 => if j = 0 then 0 else if j = 1 then 30 else if j = 2 then 150 else 100
  | _ => if j = 0 then 0 else if j = 1 then 70 else if j = 2 then 60 else if j = 3 then 50 else 0
def JStat (cx : Cx) (U : State) : Prop :=
  va_Z "java/lang/String" "COMPACT_STRINGS" "Z" (.int 1) (cA0 cx) U U.heap ∧
  (∃ t : Nat, va_Z "java/lang/Integer" "DigitOnes" "[B" (.ref t) (cA0 cx) U U.heap ∧ va_T .byte t 100 (fun j => .int (nI (48 + j % 10))) (cA0 cx) U U.heap) ∧
  (∃ t : Nat, va_Z "java/lang/Integer" "DigitTens" "[B" (.ref t) (cA0 cx) U U.heap ∧ va_T .byte t 100 (fun j => .int (nI (48 + j / 10))) (cA0 cx) U U.heap) ∧
  va_Zq "jdk/internal/util/Preconditions" "SIOOBE_FORMATTER" "Ljava/util/function/BiFunction;" (cA0 cx) U U.heap ∧
  ∃ adK adV : Nat → Nat, vk_R "ExamBoard$EntryText" 55 "mreax" (adK 0) U ∧ vk_S 1 [5] [[109, 114, 101, 97, 120]] adK adV (cA0 cx) U U.heap
def Stat (cx : Cx) (U : State) : Prop :=
  (∀ i, 198 ≤ i → i < 203 → va_Z "ExamBoard" (sNm i) "[I" (rf cx i) (cA0 cx) U U.heap ∧ va_T .int (cad cx i) (sLn i) (fun j => .int (oi (sVl i j))) (cA0 cx) U U.heap) ∧
  (va_Nw (.methodLinkNest RX5 32 yX4_init "ExamBoard") U ∧ va_Nw (.methodLinkNest RX5 39 yX3_init "ExamBoard") U ∧ va_Nw (.methodLinkNest RX5 46 yX1_init "ExamBoard") U ∧ va_Nw (.methodLinkNest RX0 83 yX5_nearest "ExamBoard") U ∧ va_Nw (.methodLinkNest RX4 86 yX5_nearest "ExamBoard") U ∧ va_Nw (.methodLinkNest RX3 60 yX5_rankOfClass "ExamBoard") U ∧ va_Nw (.fieldLinkNest RX4 110 "ExamBoard" "LIMITS" "[I" "ExamBoard") U) ∧
  JStat cx U
theorem JStat.moved {cx : Cx} {s U : State} (h : JStat cx s) (hW : s.WarmedH U.vm) (hq : ∀ a : Nat, a < s.heap.size → ¬ cA0 cx a → U.heap[a]? = s.heap[a]?) : JStat cx U := by
  obtain ⟨h1, ⟨t1, h2, h3⟩, ⟨t2, h4, h5⟩, h6, adK, adV, h7, h8⟩ := h
  have hv := hW.alike
  exact ⟨(h1.moved hv).kept hq, ⟨t1, (h2.moved hv).kept hq, (h3.moved hv).kept hq⟩, ⟨t2, (h4.moved hv).kept hq, (h5.moved hv).kept hq⟩, (h6.moved hv).kept hq, adK, adV, h7.warm hW, (h8.moved hv).kept hq⟩
theorem Stat.moved {cx : Cx} {s U : State} (h : Stat cx s) (hW : s.WarmedH U.vm) (hq : ∀ a : Nat, a < s.heap.size → ¬ cA0 cx a → U.heap[a]? = s.heap[a]?) : Stat cx U := by
  obtain ⟨h1, ⟨n1, n2, n3, n4, n5, n6, n7⟩, h3⟩ := h
  have hv := hW.alike
  exact ⟨fun i a b => ⟨((h1 i a b).1.moved hv).kept hq, ((h1 i a b).2.moved hv).kept hq⟩, ⟨n1.warmM hW, n2.warmM hW, n3.warmM hW, n4.warmM hW, n5.warmM hW, n6.warmM hW, n7.warmF hW⟩, h3.moved hW hq⟩
theorem Stat.calling {cx : Cx} {U : State} (h : Stat cx U) (g : JFrame) (mk : MethodId) (a : Array Value) : Stat cx (U.calling g mk a) := by
  obtain ⟨h1, ⟨n1, n2, n3, n4, n5, n6, n7⟩, ⟨j1, ⟨t1, j2, j3⟩, ⟨t2, j4, j5⟩, j6, adK, adV, j7, j8⟩⟩ := h
  have hv : U.vm.Alike (U.calling g mk a).vm := Vm.Alike.refl U.vm
  exact ⟨fun i a b => ⟨(h1 i a b).1.moved hv, (h1 i a b).2.moved hv⟩, ⟨n1.same rfl rfl, n2.same rfl rfl, n3.same rfl rfl, n4.same rfl rfl, n5.same rfl rfl, n6.same rfl rfl, n7.same rfl rfl⟩, ⟨j1.moved hv, ⟨t1, j2.moved hv, j3.moved hv⟩, ⟨t2, j4.moved hv, j5.moved hv⟩, j6.moved hv, adK, adV, j7.same rfl, j8.moved hv⟩⟩
/-- the tables' array classes -/
abbrev tysC (cx : Cx) : List (ClassId × FieldType) := [(cA cx 0, .int), (cA cx 1, .boolean), (cA cx 2, .char), (cA cx 3, .byte), (cA cx 4, .object "ExamBoard$Board")]
/-- the world in a heap -/
def InH (cx : Cx) (M : Mem) (H : Heap) : Prop := ∃ hid : Hid, va_P cx.1 vwCl (wl cx M hid) H ∧ va_D (cA0 cx) (wl cx M hid) ∧ MemOK M hid
def Rep (cx : Cx) (M : Mem) (U : State) : Prop := InH cx M U.heap ∧ va_K cx.1 vwCl (tysC cx) U ∧ Stat cx U ∧ cx.2.2.2 ≤ U.heap.size
theorem Rep.blind {cx : Cx} {M : Mem} {U : State} (h : Rep cx M U) (g : JFrame) (mk : MethodId) (a : Array Value) : Rep cx M (U.calling g mk a) :=
  ⟨h.1, va_K.moved (u := U) (U := U.calling g mk a) (Vm.Alike.refl U.vm) h.2.1, h.2.2.1.calling g mk a, h.2.2.2⟩
def rmD (d uc us : Nat) : Room := { frames := d, cells := uc, slots := us, locals := 64 * d }
def lvOK (lsA : Array Slot) (ls : List (Option Value)) : Prop := lsA.size = ls.length ∧ lv_wf lsA ∧ ∀ (i : Nat) (v : Value), ls[i]? = some (some v) → lsA[i]? = some (.val v) ∧ v.category = 1
/-- a contract: from every state that holds the memory M, the method returns a number x and leaves a memory M' with Post -/
def Ct (cx : Cx) (y : MethodName) (cc : ByteArray) (nL : Nat) (rt : Option FieldType) (d uc us : Nat) (av : List Value) (M : Mem) (Post : Int → Mem → Prop) : Prop :=
  .code y cc nL rt ∈ BIG ∧ ∀ l : Launch, Met l y (.code y cc nL rt :: BIG) (rmD d uc us) (va_Pc av (Rep cx M)) (va_Qi (fun (r : Int32) (u : Int × Mem) => r = oi u.1 ∧ Post u.1 u.2) (fun u t => Rep cx u.2 t) (cA0 cx)) uc us (cA0 cx)
/-- the same for a method without an answer -/
def Cv (cx : Cx) (y : MethodName) (cc : ByteArray) (nL : Nat) (d uc us : Nat) (av : List Value) (M : Mem) (Post : Mem → Prop) : Prop :=
  .code y cc nL none ∈ BIG ∧ ∀ l : Launch, Met l y (.code y cc nL none :: BIG) (rmD d uc us) (va_Pc av (Rep cx M)) (va_Qv (fun (u : Mem) => Post u) (fun u t => Rep cx u t) (cA0 cx)) uc us (cA0 cx)
end
section
/-! a walk's judgement over the numbered world, and its rows -/
section GD
variable (cx : Cx) (y : MethodName) (cc : ByteArray) (nL d uc us : Nat) (p : Program) (l : Launch) (e : Env) (R : Room) (s : State) (m : MethodId) (args : Array Value) (below : List Frame) (meth : Method) (c : Code) (Q : State → Prop)
def En : Prop := p.tables.exec = Jvm.exec ∧ c.code = cc ∧ c.maxLocals = nL ∧ s.vm.findClass y.cls = some m.cls ∧ (∀ w ∈ BIG, w.before args s = true) ∧ va_K cx.1 vwCl (tysC cx) s ∧ Stat cx s ∧ cx.2.2.2 ≤ s.heap.size ∧ meth.locks = false ∧ d ≤ R.frames ∧ 64 * d ≤ R.locals ∧ uc ≤ R.cells ∧ us ≤ R.slots
def G (pc : Nat) (ls : List (Option Value)) (sk : List Value) (M : Mem) (k n : Nat) : Prop :=
  ∀ (H : Heap) (lsA : Array Slot) (locs : List Loc), InH cx M H → va_S (cA0 cx) s.heap H locs → lvOK lsA ls → W p l e R s m args below meth c H locs k n Q (F0 m pc lsA sk)
end GD
abbrev QI (cx : Cx) (Post : Int → Mem → Prop) : Array Value → State → Outcome → State → Prop := va_Qi (fun (r : Int32) (u : Int × Mem) => r = oi u.1 ∧ Post u.1 u.2) (fun u t => Rep cx u.2 t) (cA0 cx)
abbrev QV (cx : Cx) (Post : Mem → Prop) : Array Value → State → Outcome → State → Prop := va_Qv (fun (u : Mem) => Post u) (fun u t => Rep cx u t) (cA0 cx)
theorem lv_entry_ok (vs : List Value) {n : Nat} (h : vs.length ≤ n) (hc : ∀ v ∈ vs, v.category = 1) : lvOK ((vs.map Slot.val ++ List.replicate (n - vs.length) Slot.unset).toArray) (vs.map some ++ List.replicate (n - vs.length) none) := by
  refine ⟨by simp, ⟨fun i v hi hv => ?_, fun i hi => ?_⟩, fun i v hi => ?_⟩
  · exfalso
    rw [List.getElem?_toArray] at hi
    by_cases hl : i < vs.length
    · rw [List.getElem?_append_left (by simpa using hl), List.getElem?_map] at hi
      cases hg : vs[i]? with
      | none => rw [hg] at hi; cases hi
      | some w =>
        rw [hg] at hi
        cases hi
        have := hc v (List.mem_of_getElem? hg)
        omega
    · rw [List.getElem?_append_right (by simpa using hl), List.getElem?_replicate] at hi
      split at hi <;> cases hi
  · exfalso
    rw [List.getElem?_toArray] at hi
    by_cases hl : i < vs.length
    · rw [List.getElem?_append_left (by simpa using hl), List.getElem?_map] at hi
      cases hg : vs[i]? with
      | none => rw [hg] at hi; cases hi
      | some w => rw [hg] at hi; cases hi
    · rw [List.getElem?_append_right (by simpa using hl), List.getElem?_replicate] at hi
      split at hi <;> cases hi
  · by_cases hl : i < vs.length
    · rw [List.getElem?_append_left (by simpa using hl), List.getElem?_map] at hi
      cases hg : vs[i]? with
      | none => rw [hg] at hi; cases hi
      | some w =>
        rw [hg] at hi
        cases hi
        refine ⟨?_, hc v (List.mem_of_getElem? hg)⟩
        rw [List.getElem?_toArray, List.getElem?_append_left (by simpa using hl), List.getElem?_map, hg]
        rfl
    · rw [List.getElem?_append_right (by simpa using hl), List.getElem?_replicate] at hi
      split at hi <;> cases hi
section GI
variable {cx : Cx} {y : MethodName} {cc : ByteArray} {nL d uc us : Nat}
theorem ct_intro {rt : Option FieldType} {av : List Value} {M : Mem} {Post : Int → Mem → Prop} (hcode : .code y cc nL rt ∈ BIG) (hy : plainName y.cls = true) (hav : av.length ≤ nL) (hac : av.all (fun v => v.category == 1) = true)
    (body : ∀ (p : Program) (l : Launch) (e : Env) (s : State) (m : MethodId) (args : Array Value) (below : List Frame) (meth : Method) (c : Code), En cx y cc nL d uc us p (rmD d uc us) s m args meth c → meth.sig.returnType = rt →
      G cx p l e (rmD d uc us) s m args below meth c (MQ below (QI cx Post) args s uc us (cA0 cx)) 0 (av.map some ++ List.replicate (nL - av.length) none) [] M 0 0) : Ct cx y cc nL rt d uc us av M Post := by
  refine ⟨hcode, fun l => ?_⟩
  refine Met.ofW (cc := cc) (maxL := nL) (ret := rt) hy rfl ?_
  intro p e s m args below meth c s₁ B hml hv
  obtain ⟨rfl, hI, hK, hS, hN⟩ := hv
  have hts := atoms_spec (ws := .code y cc nL rt :: BIG) B.pre
  have hc1 : ∀ v ∈ av, v.category = 1 := fun v hv => by simpa using List.all_eq_true.mp hac v hv
  rw [entry_eq m av hc1 nL]
  exact body p l e s m av.toArray below meth c ⟨B.exec, B.bytes, hml, findClass_of_methodNamed B.named, fun w hw => hts w (List.mem_cons_of_mem _ hw), hK, hS, hN, B.notSynchronized, Nat.le_refl _, Nat.le_refl _, Nat.le_refl _, Nat.le_refl _⟩ B.returns s.heap _ [] hI va_S.rf (lv_entry_ok av hav hc1)
theorem cv_intro {av : List Value} {M : Mem} {Post : Mem → Prop} (hcode : .code y cc nL none ∈ BIG) (hy : plainName y.cls = true) (hav : av.length ≤ nL) (hac : av.all (fun v => v.category == 1) = true)
    (body : ∀ (p : Program) (l : Launch) (e : Env) (s : State) (m : MethodId) (args : Array Value) (below : List Frame) (meth : Method) (c : Code), En cx y cc nL d uc us p (rmD d uc us) s m args meth c → meth.sig.returnType = none →
      G cx p l e (rmD d uc us) s m args below meth c (MQ below (QV cx Post) args s uc us (cA0 cx)) 0 (av.map some ++ List.replicate (nL - av.length) none) [] M 0 0) : Cv cx y cc nL d uc us av M Post := by
  refine ⟨hcode, fun l => ?_⟩
  refine Met.ofW (cc := cc) (maxL := nL) (ret := none) hy rfl ?_
  intro p e s m args below meth c s₁ B hml hv
  obtain ⟨rfl, hI, hK, hS, hN⟩ := hv
  have hts := atoms_spec (ws := .code y cc nL none :: BIG) B.pre
  have hc1 : ∀ v ∈ av, v.category = 1 := fun v hv => by simpa using List.all_eq_true.mp hac v hv
  rw [entry_eq m av hc1 nL]
  exact body p l e s m av.toArray below meth c ⟨B.exec, B.bytes, hml, findClass_of_methodNamed B.named, fun w hw => hts w (List.mem_cons_of_mem _ hw), hK, hS, hN, B.notSynchronized, Nat.le_refl _, Nat.le_refl _, Nat.le_refl _, Nat.le_refl _⟩ B.returns s.heap _ [] hI va_S.rf (lv_entry_ok av hav hc1)
variable {p : Program} {l : Launch} {e : Env} {R : Room} {s : State} {m : MethodId} {args : Array Value} {below : List Frame} {meth : Method} {c : Code} {Q : State → Prop}
variable {pc : Nat} {ls : List (Option Value)} {sk : List Value} {M : Mem} {k n : Nat}
theorem rep_end (E : En cx y cc nL d uc us p R s m args meth c) {H : Heap} {locs : List Loc} (hI : InH cx M H) (hS : va_S (cA0 cx) s.heap H locs) {t : State} (ht : t.heap = H) (hW : s.WarmedH t.vm) : Rep cx M t := by
  subst ht
  obtain ⟨hx, hb, hml, hown, hts, hK, hSt, hN, hlk, -⟩ := E
  exact ⟨hI, va_K.moved hW.alike hK, hSt.moved hW (fun a h1 h2 => hS.2.1 a h1 h2), Nat.le_trans hN hS.1⟩
theorem g_iret {Post : Int → Mem → Prop} {x : Int} (E : En cx y cc nL d uc us p R s m args meth c) (hr : meth.sig.returnType = some .int) (hd : decode cc pc = .ok (.ireturn, 1)) (hP : Post x M) : G cx p l e R s m args below meth c (MQ below (QI cx Post) args s k n (cA0 cx)) pc ls [.int (oi x)] M k n := by
  intro H lsA locs hI hS hL
  exact W.iret E.1 E.2.1 hr (fun t ht hW => ⟨⟨oi x, (x, M), rfl, ⟨rfl, hP⟩, rep_end E hI hS ht hW⟩, hS.F ht⟩) hS.2.2 hd E.2.2.2.2.2.2.2.2.1
theorem g_zret {Post : Int → Mem → Prop} {x : Int} (E : En cx y cc nL d uc us p R s m args meth c) (hr : meth.sig.returnType = some .boolean) (hd : decode cc pc = .ok (.ireturn, 1)) (hx : x = 0 ∨ x = 1) (hP : Post x M) : G cx p l e R s m args below meth c (MQ below (QI cx Post) args s k n (cA0 cx)) pc ls [.int (oi x)] M k n := by
  intro H lsA locs hI hS hL
  exact W.zret E.1 E.2.1 hr (by rcases hx with rfl | rfl <;> rfl) (fun t ht hW => ⟨⟨oi x, (x, M), rfl, ⟨rfl, hP⟩, rep_end E hI hS ht hW⟩, hS.F ht⟩) hS.2.2 hd E.2.2.2.2.2.2.2.2.1
theorem g_vret {Post : Mem → Prop} (E : En cx y cc nL d uc us p R s m args meth c) (hr : meth.sig.returnType = none) (hd : decode cc pc = .ok (.return_, 1)) (hP : Post M) : G cx p l e R s m args below meth c (MQ below (QV cx Post) args s k n (cA0 cx)) pc ls [] M k n := by
  intro H lsA locs hI hS hL
  exact W.vret E.1 E.2.1 hr (fun t ht hW => ⟨⟨M, rfl, hP, rep_end E hI hS ht hW⟩, hS.F ht⟩) hS.2.2 hd E.2.2.2.2.2.2.2.2.1
theorem g_widen {k' n' : Nat} (h1 : k ≤ k') (h2 : n ≤ n') (kk : G cx p l e R s m args below meth c Q pc ls sk M k' n') : G cx p l e R s m args below meth c Q pc ls sk M k n :=
  fun H lsA locs hI hS hL => W.widen h1 h2 (kk H lsA locs hI hS hL)
/-- fewer locals -/
theorem g_weak {ls' : List (Option Value)} (hl : ls.length = ls'.length) (h : ∀ (i : Nat) (v : Value), ls'[i]? = some (some v) → ls[i]? = some (some v)) (kk : G cx p l e R s m args below meth c Q pc ls' sk M k n) : G cx p l e R s m args below meth c Q pc ls sk M k n :=
  fun H lsA locs hI hS hL => kk H lsA locs hI hS ⟨hL.1.trans hl, hL.2.1, fun i v hi => hL.2.2 i v (h i v hi)⟩
end GI
end
section
/-! the rows: an instruction, a row -/
section GR
variable {cx : Cx} {y : MethodName} {cc : ByteArray} {nL d uc us : Nat} {p : Program} {l : Launch} {e : Env} {R : Room} {s : State} {m : MethodId} {args : Array Value} {below : List Frame} {meth : Method} {c : Code} {Q : State → Prop}
variable {pc : Nat} {ls : List (Option Value)} {sk : List Value} {M : Mem} {k n : Nat}
theorem g_iconst (E : En cx y cc nL d uc us p R s m args meth c) {z : Int} (hd : decode cc pc = .ok (.iconst z, 1)) (hv : Int32.ofInt z = oi z) (kk : G cx p l e R s m args below meth c Q (pc + 1) ls (.int (oi z) :: sk) M k n) : G cx p l e R s m args below meth c Q (pc) ls (sk) M k n := by
  intro H lsA locs hI hS hL
  exact lv_iconst E.1 E.2.1 hd hv (kk H lsA locs hI hS hL)
theorem g_bipush (E : En cx y cc nL d uc us p R s m args meth c) {z : Int} (hd : decode cc pc = .ok (.bipush z, 2)) (hv : (Int8.ofInt z).toInt32 = oi z) (kk : G cx p l e R s m args below meth c Q (pc + 2) ls (.int (oi z) :: sk) M k n) : G cx p l e R s m args below meth c Q (pc) ls (sk) M k n := by
  intro H lsA locs hI hS hL
  exact lv_bipush E.1 E.2.1 hd hv (kk H lsA locs hI hS hL)
theorem g_sipush (E : En cx y cc nL d uc us p R s m args meth c) {z : Int} (hd : decode cc pc = .ok (.sipush z, 3)) (hv : (Int16.ofInt z).toInt32 = oi z) (kk : G cx p l e R s m args below meth c Q (pc + 3) ls (.int (oi z) :: sk) M k n) : G cx p l e R s m args below meth c Q (pc) ls (sk) M k n := by
  intro H lsA locs hI hS hL
  exact lv_sipush E.1 E.2.1 hd hv (kk H lsA locs hI hS hL)
theorem g_iload_n (E : En cx y cc nL d uc us p R s m args meth c) {j : Fin 4} {i : Nat} {x : Int} (hd : decode cc pc = .ok (.iload_n j, 1)) (hi : (j : Nat) = i) (hl : ls[i]? = some (some (.int (oi x)))) (kk : G cx p l e R s m args below meth c Q (pc + 1) ls (.int (oi x) :: sk) M k n) : G cx p l e R s m args below meth c Q (pc) ls (sk) M k n := by
  intro H lsA locs hI hS hL
  exact lv_iload_n E.1 E.2.1 hd hi (hL.2.2 _ _ hl).1 (kk H lsA locs hI hS hL)
theorem g_iload (E : En cx y cc nL d uc us p R s m args meth c) {i : Nat} {x : Int} (hd : decode cc pc = .ok (.iload i, 2)) (hl : ls[i]? = some (some (.int (oi x)))) (kk : G cx p l e R s m args below meth c Q (pc + 2) ls (.int (oi x) :: sk) M k n) : G cx p l e R s m args below meth c Q (pc) ls (sk) M k n := by
  intro H lsA locs hI hS hL
  exact lv_iload E.1 E.2.1 hd (hL.2.2 _ _ hl).1 (kk H lsA locs hI hS hL)
theorem g_aload_n (E : En cx y cc nL d uc us p R s m args meth c) {j : Fin 4} {i : Nat} {x : Nat} (hd : decode cc pc = .ok (.aload_n j, 1)) (hi : (j : Nat) = i) (hl : ls[i]? = some (some (.ref x))) (kk : G cx p l e R s m args below meth c Q (pc + 1) ls (.ref x :: sk) M k n) : G cx p l e R s m args below meth c Q (pc) ls (sk) M k n := by
  intro H lsA locs hI hS hL
  exact lv_aload_n E.1 E.2.1 hd hi (hL.2.2 _ _ hl).1 (kk H lsA locs hI hS hL)
theorem g_aload (E : En cx y cc nL d uc us p R s m args meth c) {i : Nat} {x : Nat} (hd : decode cc pc = .ok (.aload i, 2)) (hl : ls[i]? = some (some (.ref x))) (kk : G cx p l e R s m args below meth c Q (pc + 2) ls (.ref x :: sk) M k n) : G cx p l e R s m args below meth c Q (pc) ls (sk) M k n := by
  intro H lsA locs hI hS hL
  exact lv_aload E.1 E.2.1 hd (hL.2.2 _ _ hl).1 (kk H lsA locs hI hS hL)
/-- the listed locals -/
def lvL (ls : List (Option Value)) : List (Nat × Value) := (List.range ls.length).filterMap (fun i => (ls[i]?.join).map (fun v => (i, v)))
theorem lvL_mem {ls : List (Option Value)} {i : Nat} {v : Value} : (i, v) ∈ lvL ls ↔ ls[i]? = some (some v) := by
  unfold lvL
  rw [List.mem_filterMap]
  constructor
  · rintro ⟨j, -, hj⟩
    cases h : ls[j]? with
    | none => rw [h] at hj; cases hj
    | some o =>
      rw [h] at hj
      cases o with
      | none => cases hj
      | some w => cases hj; exact h
  · intro h
    refine ⟨i, List.mem_range.mpr (List.getElem?_eq_some_iff.mp h).1, ?_⟩
    rw [h]
    rfl
theorem lvL_has {lsA : Array Slot} {ls : List (Option Value)} (h : lvOK lsA ls) : lv_has lsA ls.length (lvL ls) := ⟨h.1, h.2.1, fun q hq => (h.2.2 q.1 q.2 (lvL_mem.mp hq)).1⟩
theorem lvL_set {lsA lsB : Array Slot} {ls : List (Option Value)} {i : Nat} {v : Value} (hL : lvOK lsA ls) (hi : i < ls.length) (hv : v.category = 1) (h : lv_has lsB ls.length ((i, v) :: (lvL ls).filter (fun q => !(q.1 == i) && !(q.1 + 1 == i && q.2.category == 2)))) : lvOK lsB (ls.set i (some v)) := by
  refine ⟨by rw [List.length_set]; exact h.1, h.2.1, fun j w hj => ?_⟩
  by_cases e : j = i
  · subst e
    rw [List.getElem?_set_self hi] at hj
    have e2 : v = w := Option.some.inj (Option.some.inj hj)
    subst e2
    exact ⟨h.2.2 (j, v) List.mem_cons_self, hv⟩
  · rw [List.getElem?_set_ne (Ne.symm e)] at hj
    have hw := (hL.2.2 j w hj).2
    refine ⟨h.2.2 (j, w) (List.mem_cons_of_mem _ (List.mem_filter.mpr ⟨lvL_mem.mpr hj, ?_⟩)), hw⟩
    simp [e, hw]
theorem g_istore_n (E : En cx y cc nL d uc us p R s m args meth c) {j : Fin 4} {i : Nat} {x : Int} {ls' : List (Option Value)} (hd : decode cc pc = .ok (.istore_n j, 1)) (hi : (j : Nat) = i) (hn : i < ls.length) (hl : ls.set i (some (.int (oi x))) = ls') (kk : G cx p l e R s m args below meth c Q (pc + 1) ls' (sk) M k n) : G cx p l e R s m args below meth c Q (pc) ls (.int (oi x) :: sk) M k n := by
  subst hl
  intro H lsA locs hI hS hL
  exact lv_istore_n E.1 E.2.1 hd hi (lvL_has hL) hn rfl (fun lsB hB => kk H lsB locs hI hS (lvL_set hL hn rfl hB))
theorem g_istore (E : En cx y cc nL d uc us p R s m args meth c) {i : Nat} {x : Int} {ls' : List (Option Value)} (hd : decode cc pc = .ok (.istore i, 2)) (hn : i < ls.length) (hl : ls.set i (some (.int (oi x))) = ls') (kk : G cx p l e R s m args below meth c Q (pc + 2) ls' (sk) M k n) : G cx p l e R s m args below meth c Q (pc) ls (.int (oi x) :: sk) M k n := by
  subst hl
  intro H lsA locs hI hS hL
  exact lv_istore E.1 E.2.1 hd (lvL_has hL) hn rfl (fun lsB hB => kk H lsB locs hI hS (lvL_set hL hn rfl hB))
theorem g_astore_n (E : En cx y cc nL d uc us p R s m args meth c) {j : Fin 4} {i : Nat} {x : Nat} {ls' : List (Option Value)} (hd : decode cc pc = .ok (.astore_n j, 1)) (hi : (j : Nat) = i) (hn : i < ls.length) (hl : ls.set i (some (.ref x)) = ls') (kk : G cx p l e R s m args below meth c Q (pc + 1) ls' (sk) M k n) : G cx p l e R s m args below meth c Q (pc) ls (.ref x :: sk) M k n := by
  subst hl
  intro H lsA locs hI hS hL
  exact lv_astore_n E.1 E.2.1 hd hi (lvL_has hL) hn rfl (fun lsB hB => kk H lsB locs hI hS (lvL_set hL hn rfl hB))
theorem g_astore (E : En cx y cc nL d uc us p R s m args meth c) {i : Nat} {x : Nat} {ls' : List (Option Value)} (hd : decode cc pc = .ok (.astore i, 2)) (hn : i < ls.length) (hl : ls.set i (some (.ref x)) = ls') (kk : G cx p l e R s m args below meth c Q (pc + 2) ls' (sk) M k n) : G cx p l e R s m args below meth c Q (pc) ls (.ref x :: sk) M k n := by
  subst hl
  intro H lsA locs hI hS hL
  exact lv_astore E.1 E.2.1 hd (lvL_has hL) hn rfl (fun lsB hB => kk H lsB locs hI hS (lvL_set hL hn rfl hB))
theorem g_iinc (E : En cx y cc nL d uc us p R s m args meth c) {i : Nat} {x z v : Int} {ls' : List (Option Value)} (hd : decode cc pc = .ok (.iinc i z, 3)) (hx : ls[i]? = some (some (.int (oi x)))) (hv : x + z = v) (hl : ls.set i (some (.int (oi v))) = ls') (kk : G cx p l e R s m args below meth c Q (pc + 3) ls' (sk) M k n) : G cx p l e R s m args below meth c Q (pc) ls (sk) M k n := by
  subst hl
  have hn := (List.getElem?_eq_some_iff.mp hx).1
  intro H lsA locs hI hS hL
  obtain ⟨j, hj⟩ := List.getElem?_of_mem (lvL_mem.mpr hx)
  exact lv_iinc E.1 E.2.1 hd (lvL_has hL) hj (by rw [← hv]; exact oi_add x z) hn rfl (fun lsB hB => kk H lsB locs hI hS (lvL_set hL hn rfl hB))
theorem g_iadd (E : En cx y cc nL d uc us p R s m args meth c) {a b : Int} (hd : decode cc pc = .ok (.iadd, 1)) (kk : G cx p l e R s m args below meth c Q (pc + 1) ls (.int (oi (a + b)) :: sk) M k n) : G cx p l e R s m args below meth c Q (pc) ls (.int (oi b) :: .int (oi a) :: sk) M k n := by
  intro H lsA locs hI hS hL
  exact lv_iadd E.1 E.2.1 hd (by rw [oi_add]; exact kk H lsA locs hI hS hL)
theorem g_isub (E : En cx y cc nL d uc us p R s m args meth c) {a b : Int} (hd : decode cc pc = .ok (.isub, 1)) (kk : G cx p l e R s m args below meth c Q (pc + 1) ls (.int (oi (a - b)) :: sk) M k n) : G cx p l e R s m args below meth c Q (pc) ls (.int (oi b) :: .int (oi a) :: sk) M k n := by
  intro H lsA locs hI hS hL
  exact lv_isub E.1 E.2.1 hd (by rw [oi_sub]; exact kk H lsA locs hI hS hL)
theorem g_imul (E : En cx y cc nL d uc us p R s m args meth c) {a b : Int} (hd : decode cc pc = .ok (.imul, 1)) (kk : G cx p l e R s m args below meth c Q (pc + 1) ls (.int (oi (a * b)) :: sk) M k n) : G cx p l e R s m args below meth c Q (pc) ls (.int (oi b) :: .int (oi a) :: sk) M k n := by
  intro H lsA locs hI hS hL
  exact lv_imul E.1 E.2.1 hd (by rw [oi_mul]; exact kk H lsA locs hI hS hL)
theorem g_ineg (E : En cx y cc nL d uc us p R s m args meth c) {a : Int} (hd : decode cc pc = .ok (.ineg, 1)) (kk : G cx p l e R s m args below meth c Q (pc + 1) ls (.int (oi (-a)) :: sk) M k n) : G cx p l e R s m args below meth c Q (pc) ls (.int (oi a) :: sk) M k n := by
  intro H lsA locs hI hS hL
  exact lv_ineg E.1 E.2.1 hd (by rw [oi_neg]; exact kk H lsA locs hI hS hL)
theorem g_idiv (E : En cx y cc nL d uc us p R s m args meth c) {a b : Int} (hd : decode cc pc = .ok (.idiv, 1)) (h0 : 0 ≤ a) (h1 : a ≤ 2147483647) (h2 : 0 < b) (h3 : b ≤ 2147483647) (kk : G cx p l e R s m args below meth c Q (pc + 1) ls (.int (oi (a / b)) :: sk) M k n) : G cx p l e R s m args below meth c Q (pc) ls (.int (oi b) :: .int (oi a) :: sk) M k n := by
  have ha : inR a := ⟨by omega, h1⟩
  have hb : inR b := ⟨by omega, h3⟩
  intro H lsA locs hI hS hL
  exact lv_idiv E.1 E.2.1 hd (fun z => by have := (oi_eq hb (inR_of (by decide) (by decide))).mp (z.trans oi_0); omega) (by rw [oi_div ha hb h0 h2]; exact kk H lsA locs hI hS hL)
theorem g_irem (E : En cx y cc nL d uc us p R s m args meth c) {a b : Int} (hd : decode cc pc = .ok (.irem, 1)) (h0 : 0 ≤ a) (h1 : a ≤ 2147483647) (h2 : 0 < b) (h3 : b ≤ 2147483647) (kk : G cx p l e R s m args below meth c Q (pc + 1) ls (.int (oi (a % b)) :: sk) M k n) : G cx p l e R s m args below meth c Q (pc) ls (.int (oi b) :: .int (oi a) :: sk) M k n := by
  have ha : inR a := ⟨by omega, h1⟩
  have hb : inR b := ⟨by omega, h3⟩
  intro H lsA locs hI hS hL
  exact lv_irem E.1 E.2.1 hd (fun z => by have := (oi_eq hb (inR_of (by decide) (by decide))).mp (z.trans oi_0); omega) (by rw [oi_rem ha hb h0 h2]; exact kk H lsA locs hI hS hL)
theorem g_i2c (E : En cx y cc nL d uc us p R s m args meth c) {a : Int} (hd : decode cc pc = .ok (.i2c, 1)) (h0 : 0 ≤ a) (h1 : a < 65536) (kk : G cx p l e R s m args below meth c Q (pc + 1) ls (.int (oi a) :: sk) M k n) : G cx p l e R s m args below meth c Q (pc) ls (.int (oi a) :: sk) M k n := by
  intro H lsA locs hI hS hL
  refine lv_i2c E.1 E.2.1 hd ?_ (kk H lsA locs hI hS hL)
  rw [oi_natOf h0]
  exact oi_char (by omega)
theorem g_dup (E : En cx y cc nL d uc us p R s m args meth c) {v : Value} (hd : decode cc pc = .ok (.dup, 1)) (hv : v.category = 1) (kk : G cx p l e R s m args below meth c Q (pc + 1) ls (v :: v :: sk) M k n) : G cx p l e R s m args below meth c Q (pc) ls (v :: sk) M k n := by
  intro H lsA locs hI hS hL
  exact lv_dup E.1 E.2.1 hd hv (kk H lsA locs hI hS hL)
theorem g_pop (E : En cx y cc nL d uc us p R s m args meth c) {v : Value} (hd : decode cc pc = .ok (.pop, 1)) (hv : v.category = 1) (kk : G cx p l e R s m args below meth c Q (pc + 1) ls (sk) M k n) : G cx p l e R s m args below meth c Q (pc) ls (v :: sk) M k n := by
  intro H lsA locs hI hS hL
  exact lv_pop E.1 E.2.1 hd hv (kk H lsA locs hI hS hL)
theorem g_dup_x1 (E : En cx y cc nL d uc us p R s m args meth c) {v w : Value} (hd : decode cc pc = .ok (.dup_x1, 1)) (hv : v.category = 1) (hw : w.category = 1) (kk : G cx p l e R s m args below meth c Q (pc + 1) ls (v :: w :: v :: sk) M k n) : G cx p l e R s m args below meth c Q (pc) ls (v :: w :: sk) M k n := by
  intro H lsA locs hI hS hL
  exact lv_dup_x1 E.1 E.2.1 hd hv hw (kk H lsA locs hI hS hL)
theorem g_dup_x2 (E : En cx y cc nL d uc us p R s m args meth c) {v w x : Value} (hd : decode cc pc = .ok (.dup_x2, 1)) (hv : v.category = 1) (hw : w.category = 1) (hx : x.category = 1) (kk : G cx p l e R s m args below meth c Q (pc + 1) ls (v :: w :: x :: v :: sk) M k n) : G cx p l e R s m args below meth c Q (pc) ls (v :: w :: x :: sk) M k n := by
  intro H lsA locs hI hS hL
  exact lv_dup_x2 E.1 E.2.1 hd hv hw hx (kk H lsA locs hI hS hL)
theorem g_dup2 (E : En cx y cc nL d uc us p R s m args meth c) {v w : Value} (hd : decode cc pc = .ok (.dup2, 1)) (hv : v.category = 1) (hw : w.category = 1) (kk : G cx p l e R s m args below meth c Q (pc + 1) ls (v :: w :: v :: w :: sk) M k n) : G cx p l e R s m args below meth c Q (pc) ls (v :: w :: sk) M k n := by
  intro H lsA locs hI hS hL
  exact lv_dup2_11 E.1 E.2.1 hd hv hw (kk H lsA locs hI hS hL)
theorem g_goto (E : En cx y cc nL d uc us p R s m args meth c) {off : Int} {tgt : Nat} (hd : decode cc pc = .ok (.goto off, 3)) (ht : (pc : Int) + off = (tgt : Int)) (kk : G cx p l e R s m args below meth c Q (tgt) ls (sk) M k n) : G cx p l e R s m args below meth c Q (pc) ls (sk) M k n := by
  intro H lsA locs hI hS hL
  exact lv_goto E.1 E.2.1 hd ht (kk H lsA locs hI hS hL)
theorem g_if_eq (E : En cx y cc nL d uc us p R s m args meth c) {a : Int} {off : Int} {tgt : Nat} (hd : decode cc pc = .ok (.ifCond .eq off, 3)) (ht : (pc : Int) + off = (tgt : Int)) (kt : a = 0 → G cx p l e R s m args below meth c Q (tgt) ls (sk) M k n) (kf : ¬ a = 0 → G cx p l e R s m args below meth c Q (pc + 3) ls (sk) M k n) (ha : -2147483648 ≤ a := by omega) (ha2 : a ≤ 2147483647 := by omega) : G cx p l e R s m args below meth c Q (pc) ls (.int (oi a) :: sk) M k n := by
  have qa : inR a := ⟨ha, ha2⟩
  have qb : inR 0 := inR_of (by decide) (by decide)
  intro H lsA locs hI hS hL
  exact lv_if_eq E.1 E.2.1 hd ht (fun h => kt ((oi_eq qa qb).mp h) H lsA locs hI hS hL) (fun h => kf (fun z => h ((oi_eq qa qb).mpr z)) H lsA locs hI hS hL)
theorem g_if_ne (E : En cx y cc nL d uc us p R s m args meth c) {a : Int} {off : Int} {tgt : Nat} (hd : decode cc pc = .ok (.ifCond .ne off, 3)) (ht : (pc : Int) + off = (tgt : Int)) (kt : ¬ a = 0 → G cx p l e R s m args below meth c Q (tgt) ls (sk) M k n) (kf : a = 0 → G cx p l e R s m args below meth c Q (pc + 3) ls (sk) M k n) (ha : -2147483648 ≤ a := by omega) (ha2 : a ≤ 2147483647 := by omega) : G cx p l e R s m args below meth c Q (pc) ls (.int (oi a) :: sk) M k n := by
  have qa : inR a := ⟨ha, ha2⟩
  have qb : inR 0 := inR_of (by decide) (by decide)
  intro H lsA locs hI hS hL
  exact lv_if_ne E.1 E.2.1 hd ht (fun h => kt (fun z => h ((oi_eq qa qb).mpr z)) H lsA locs hI hS hL) (fun h => kf ((oi_eq qa qb).mp h) H lsA locs hI hS hL)
theorem g_if_lt (E : En cx y cc nL d uc us p R s m args meth c) {a : Int} {off : Int} {tgt : Nat} (hd : decode cc pc = .ok (.ifCond .lt off, 3)) (ht : (pc : Int) + off = (tgt : Int)) (kt : a < 0 → G cx p l e R s m args below meth c Q (tgt) ls (sk) M k n) (kf : ¬ a < 0 → G cx p l e R s m args below meth c Q (pc + 3) ls (sk) M k n) (ha : -2147483648 ≤ a := by omega) (ha2 : a ≤ 2147483647 := by omega) : G cx p l e R s m args below meth c Q (pc) ls (.int (oi a) :: sk) M k n := by
  have qa : inR a := ⟨ha, ha2⟩
  have qb : inR 0 := inR_of (by decide) (by decide)
  intro H lsA locs hI hS hL
  exact lv_if_lt E.1 E.2.1 hd ht (fun h => kt ((oi_lt qa qb).mp h) H lsA locs hI hS hL) (fun h => kf (fun z => h ((oi_lt qa qb).mpr z)) H lsA locs hI hS hL)
theorem g_if_ge (E : En cx y cc nL d uc us p R s m args meth c) {a : Int} {off : Int} {tgt : Nat} (hd : decode cc pc = .ok (.ifCond .ge off, 3)) (ht : (pc : Int) + off = (tgt : Int)) (kt : 0 ≤ a → G cx p l e R s m args below meth c Q (tgt) ls (sk) M k n) (kf : ¬ 0 ≤ a → G cx p l e R s m args below meth c Q (pc + 3) ls (sk) M k n) (ha : -2147483648 ≤ a := by omega) (ha2 : a ≤ 2147483647 := by omega) : G cx p l e R s m args below meth c Q (pc) ls (.int (oi a) :: sk) M k n := by
  have qa : inR a := ⟨ha, ha2⟩
  have qb : inR 0 := inR_of (by decide) (by decide)
  intro H lsA locs hI hS hL
  exact lv_if_ge E.1 E.2.1 hd ht (fun h => kt ((oi_le qb qa).mp h) H lsA locs hI hS hL) (fun h => kf (fun z => h ((oi_le qb qa).mpr z)) H lsA locs hI hS hL)
theorem g_if_gt (E : En cx y cc nL d uc us p R s m args meth c) {a : Int} {off : Int} {tgt : Nat} (hd : decode cc pc = .ok (.ifCond .gt off, 3)) (ht : (pc : Int) + off = (tgt : Int)) (kt : 0 < a → G cx p l e R s m args below meth c Q (tgt) ls (sk) M k n) (kf : ¬ 0 < a → G cx p l e R s m args below meth c Q (pc + 3) ls (sk) M k n) (ha : -2147483648 ≤ a := by omega) (ha2 : a ≤ 2147483647 := by omega) : G cx p l e R s m args below meth c Q (pc) ls (.int (oi a) :: sk) M k n := by
  have qa : inR a := ⟨ha, ha2⟩
  have qb : inR 0 := inR_of (by decide) (by decide)
  intro H lsA locs hI hS hL
  exact lv_if_gt E.1 E.2.1 hd ht (fun h => kt ((oi_lt qb qa).mp h) H lsA locs hI hS hL) (fun h => kf (fun z => h ((oi_lt qb qa).mpr z)) H lsA locs hI hS hL)
theorem g_if_le (E : En cx y cc nL d uc us p R s m args meth c) {a : Int} {off : Int} {tgt : Nat} (hd : decode cc pc = .ok (.ifCond .le off, 3)) (ht : (pc : Int) + off = (tgt : Int)) (kt : a ≤ 0 → G cx p l e R s m args below meth c Q (tgt) ls (sk) M k n) (kf : ¬ a ≤ 0 → G cx p l e R s m args below meth c Q (pc + 3) ls (sk) M k n) (ha : -2147483648 ≤ a := by omega) (ha2 : a ≤ 2147483647 := by omega) : G cx p l e R s m args below meth c Q (pc) ls (.int (oi a) :: sk) M k n := by
  have qa : inR a := ⟨ha, ha2⟩
  have qb : inR 0 := inR_of (by decide) (by decide)
  intro H lsA locs hI hS hL
  exact lv_if_le E.1 E.2.1 hd ht (fun h => kt ((oi_le qa qb).mp h) H lsA locs hI hS hL) (fun h => kf (fun z => h ((oi_le qa qb).mpr z)) H lsA locs hI hS hL)
theorem g_icmp_eq (E : En cx y cc nL d uc us p R s m args meth c) {a b : Int} {off : Int} {tgt : Nat} (hd : decode cc pc = .ok (.if_icmp .eq off, 3)) (ht : (pc : Int) + off = (tgt : Int)) (kt : a = b → G cx p l e R s m args below meth c Q (tgt) ls (sk) M k n) (kf : ¬ a = b → G cx p l e R s m args below meth c Q (pc + 3) ls (sk) M k n) (ha : -2147483648 ≤ a := by omega) (ha2 : a ≤ 2147483647 := by omega) (hb : -2147483648 ≤ b := by omega) (hb2 : b ≤ 2147483647 := by omega) : G cx p l e R s m args below meth c Q (pc) ls (.int (oi b) :: .int (oi a) :: sk) M k n := by
  have qa : inR a := ⟨ha, ha2⟩
  have qb : inR b := ⟨hb, hb2⟩
  intro H lsA locs hI hS hL
  exact lv_icmp_eq E.1 E.2.1 hd ht (fun h => kt ((oi_eq qa qb).mp h) H lsA locs hI hS hL) (fun h => kf (fun z => h ((oi_eq qa qb).mpr z)) H lsA locs hI hS hL)
theorem g_icmp_ne (E : En cx y cc nL d uc us p R s m args meth c) {a b : Int} {off : Int} {tgt : Nat} (hd : decode cc pc = .ok (.if_icmp .ne off, 3)) (ht : (pc : Int) + off = (tgt : Int)) (kt : ¬ a = b → G cx p l e R s m args below meth c Q (tgt) ls (sk) M k n) (kf : a = b → G cx p l e R s m args below meth c Q (pc + 3) ls (sk) M k n) (ha : -2147483648 ≤ a := by omega) (ha2 : a ≤ 2147483647 := by omega) (hb : -2147483648 ≤ b := by omega) (hb2 : b ≤ 2147483647 := by omega) : G cx p l e R s m args below meth c Q (pc) ls (.int (oi b) :: .int (oi a) :: sk) M k n := by
  have qa : inR a := ⟨ha, ha2⟩
  have qb : inR b := ⟨hb, hb2⟩
  intro H lsA locs hI hS hL
  exact lv_icmp_ne E.1 E.2.1 hd ht (fun h => kt (fun z => h ((oi_eq qa qb).mpr z)) H lsA locs hI hS hL) (fun h => kf ((oi_eq qa qb).mp h) H lsA locs hI hS hL)
theorem g_icmp_lt (E : En cx y cc nL d uc us p R s m args meth c) {a b : Int} {off : Int} {tgt : Nat} (hd : decode cc pc = .ok (.if_icmp .lt off, 3)) (ht : (pc : Int) + off = (tgt : Int)) (kt : a < b → G cx p l e R s m args below meth c Q (tgt) ls (sk) M k n) (kf : ¬ a < b → G cx p l e R s m args below meth c Q (pc + 3) ls (sk) M k n) (ha : -2147483648 ≤ a := by omega) (ha2 : a ≤ 2147483647 := by omega) (hb : -2147483648 ≤ b := by omega) (hb2 : b ≤ 2147483647 := by omega) : G cx p l e R s m args below meth c Q (pc) ls (.int (oi b) :: .int (oi a) :: sk) M k n := by
  have qa : inR a := ⟨ha, ha2⟩
  have qb : inR b := ⟨hb, hb2⟩
  intro H lsA locs hI hS hL
  exact lv_icmp_lt E.1 E.2.1 hd ht (fun h => kt ((oi_lt qa qb).mp h) H lsA locs hI hS hL) (fun h => kf (fun z => h ((oi_lt qa qb).mpr z)) H lsA locs hI hS hL)
theorem g_icmp_ge (E : En cx y cc nL d uc us p R s m args meth c) {a b : Int} {off : Int} {tgt : Nat} (hd : decode cc pc = .ok (.if_icmp .ge off, 3)) (ht : (pc : Int) + off = (tgt : Int)) (kt : b ≤ a → G cx p l e R s m args below meth c Q (tgt) ls (sk) M k n) (kf : ¬ b ≤ a → G cx p l e R s m args below meth c Q (pc + 3) ls (sk) M k n) (ha : -2147483648 ≤ a := by omega) (ha2 : a ≤ 2147483647 := by omega) (hb : -2147483648 ≤ b := by omega) (hb2 : b ≤ 2147483647 := by omega) : G cx p l e R s m args below meth c Q (pc) ls (.int (oi b) :: .int (oi a) :: sk) M k n := by
  have qa : inR a := ⟨ha, ha2⟩
  have qb : inR b := ⟨hb, hb2⟩
  intro H lsA locs hI hS hL
  exact lv_icmp_ge E.1 E.2.1 hd ht (fun h => kt ((oi_le qb qa).mp h) H lsA locs hI hS hL) (fun h => kf (fun z => h ((oi_le qb qa).mpr z)) H lsA locs hI hS hL)
theorem g_icmp_gt (E : En cx y cc nL d uc us p R s m args meth c) {a b : Int} {off : Int} {tgt : Nat} (hd : decode cc pc = .ok (.if_icmp .gt off, 3)) (ht : (pc : Int) + off = (tgt : Int)) (kt : b < a → G cx p l e R s m args below meth c Q (tgt) ls (sk) M k n) (kf : ¬ b < a → G cx p l e R s m args below meth c Q (pc + 3) ls (sk) M k n) (ha : -2147483648 ≤ a := by omega) (ha2 : a ≤ 2147483647 := by omega) (hb : -2147483648 ≤ b := by omega) (hb2 : b ≤ 2147483647 := by omega) : G cx p l e R s m args below meth c Q (pc) ls (.int (oi b) :: .int (oi a) :: sk) M k n := by
  have qa : inR a := ⟨ha, ha2⟩
  have qb : inR b := ⟨hb, hb2⟩
  intro H lsA locs hI hS hL
  exact lv_icmp_gt E.1 E.2.1 hd ht (fun h => kt ((oi_lt qb qa).mp h) H lsA locs hI hS hL) (fun h => kf (fun z => h ((oi_lt qb qa).mpr z)) H lsA locs hI hS hL)
theorem g_icmp_le (E : En cx y cc nL d uc us p R s m args meth c) {a b : Int} {off : Int} {tgt : Nat} (hd : decode cc pc = .ok (.if_icmp .le off, 3)) (ht : (pc : Int) + off = (tgt : Int)) (kt : a ≤ b → G cx p l e R s m args below meth c Q (tgt) ls (sk) M k n) (kf : ¬ a ≤ b → G cx p l e R s m args below meth c Q (pc + 3) ls (sk) M k n) (ha : -2147483648 ≤ a := by omega) (ha2 : a ≤ 2147483647 := by omega) (hb : -2147483648 ≤ b := by omega) (hb2 : b ≤ 2147483647 := by omega) : G cx p l e R s m args below meth c Q (pc) ls (.int (oi b) :: .int (oi a) :: sk) M k n := by
  have qa : inR a := ⟨ha, ha2⟩
  have qb : inR b := ⟨hb, hb2⟩
  intro H lsA locs hI hS hL
  exact lv_icmp_le E.1 E.2.1 hd ht (fun h => kt ((oi_le qa qb).mp h) H lsA locs hI hS hL) (fun h => kf (fun z => h ((oi_le qa qb).mpr z)) H lsA locs hI hS hL)
end GR
end
section
/-! the rows of fields, arrays, statics and switches -/
def ClF (ci : Nat) (C : String) (T : u_T) (N : Nat) (ty : Nat → FieldType) : Prop := vwCl[ci]? = some (C, T, N) ∧ (∀ w ∈ u_ws C T N, w ∈ BIG) ∧ (∀ k, k < N → parseFieldDescriptor (T k).2.2.1 = some (ty k)) ∧ ∀ a, a < N → ∀ b, b < N → a ≠ b → (T a).2.1 ≠ (T b).2.1
/-- class own's pool entry idx is field k of class ci of the worlds *-/
def FLk (own : String) (idx ci k : Nat) (ds : String) (fin : Bool) : Prop := ∃ (C : String) (T : u_T) (N : Nat) (ty : Nat → FieldType), ClF ci C T N ty ∧ k < N ∧ (T k).2.2.1 = ds ∧ (T k).2.2.2 = fin ∧ Cond.fieldLink own idx (T k).1 (T k).2.1 (T k).2.2.1 ∈ BIG
theorem kk_ne {i t q : Nat} (h : kk i = (t + 11, q)) : i ≠ 177 ∧ i ≠ 182 := by
  constructor
  · rintro rfl
    have e : kk 177 = (10, 4) := rfl
    rw [e] at h
    have := congrArg Prod.fst h
    simp only at this
    omega
  · rintro rfl
    have e : kk 182 = (10, 4) := rfl
    rw [e] at h
    have := congrArg Prod.fst h
    simp only at this
    omega
theorem kk_ne2 {i t q : Nat} (h : kk i = (t, q)) (ht : t < 10) : i ≠ 177 ∧ i ≠ 182 := by
  constructor
  · rintro rfl
    have e : kk 177 = (10, 4) := rfl
    rw [e] at h
    have := congrArg Prod.fst h
    simp only at this
    omega
  · rintro rfl
    have e : kk 182 = (10, 4) := rfl
    rw [e] at h
    have := congrArg Prod.fst h
    simp only at this
    omega
theorem flds_set {cx : Cx} {i t n k : Nat} {r : Int → Int} {v : Int} (hk : k < n) (hI : isI t k = true) : ((List.range n).map (fld cx i t r)).set k (.int (oi v)) = (List.range n).map (fld cx i t (fun y => if y = (k : Int) then v else r y)) := by
  apply List.ext_getElem?
  intro j
  by_cases hj : j = k
  · subst hj
    rw [List.getElem?_set_self (by simpa using hk), List.getElem?_map, List.getElem?_range hk]
    simp [fld, hI]
  · rw [List.getElem?_set_ne (Ne.symm hj), List.getElem?_map, List.getElem?_map]
    by_cases h2 : j < n
    · rw [List.getElem?_range h2]
      have : ¬ (j : Int) = (k : Int) := by omega
      simp [fld, this]
    · rw [List.getElem?_eq_none (by simpa using h2)]
      rfl
theorem flds_get {cx : Cx} {i t n k : Nat} {r : Int → Int} (hk : k < n) : ((List.range n).map (fld cx i t r))[k]? = some (fld cx i t r k) := by
  rw [List.getElem?_map, List.getElem?_range hk]
  rfl
theorem row_upd {r : Int → Int} {x v : Int} (h : 0 ≤ x) : upd (fun j : Nat => oi (r j)) x.toNat (oi v) = fun j : Nat => oi (if (j : Int) = x then v else r j) := by
  funext j
  unfold upd
  by_cases hj : j = x.toNat
  · rw [if_pos hj, if_pos (by omega)]
  · rw [if_neg hj, if_neg (by omega)]
theorem nar_z {v : Int} (h : v = 0 ∨ v = 1) : vp_nar .boolean (oi v) = oi v := by
  rcases h with rfl | rfl <;> rfl
theorem nar_c {v : Int} (h0 : 0 ≤ v) (h1 : v < 65536) : vp_nar .char (oi v) = oi v := by
  rw [vp_nar_char, oi_natOf h0]
  have e : (nI v.toNat).toUInt32 = UInt32.ofNat v.toNat := rfl
  rw [e]
  have e2 : (UInt32.ofNat v.toNat).toUInt16.toUInt32 = UInt32.ofNat v.toNat := by
    apply UInt32.toNat_inj.mp
    rw [UInt16.toNat_toUInt32, UInt32.toNat_toUInt16, UInt32.toNat_ofNat_of_lt' (by show v.toNat < 4294967296; omega)]
    show v.toNat % 65536 = v.toNat
    omega
  rw [e2]
  rfl
section GM
variable {cx : Cx} {y : MethodName} {cc : ByteArray} {nL d uc us : Nat} {p : Program} {l : Launch} {e : Env} {R : Room} {s : State} {m : MethodId} {args : Array Value} {below : List Frame} {meth : Method} {c : Code} {Q : State → Prop}
variable {pc : Nat} {ls : List (Option Value)} {sk : List Value} {M : Mem} {k n : Nat}
theorem g_geti {i t q f idx : Nat} {fz v : Int} {ds : String} {fn : Bool} (E : En cx y cc nL d uc us p R s m args meth c) (hd : decode cc pc = .ok (.getfield idx, 3)) (hf : FLk y.cls idx (t + 1) f ds fn) (hk : kk i = (t + 11, q)) (hi : i < 198) (hq : f < q) (hI : isI (t + 11) f = true) (hz : ((f : Nat) : Int) = fz) (hv : M i fz = v)
    (kk' : -2147483648 ≤ v → v ≤ 2147483647 → G cx p l e R s m args below meth c Q (pc + 3) ls (.int (oi v) :: sk) M k n) : G cx p l e R s m args below meth c Q pc ls (rf cx i :: sk) M k n := by
  subst hz; subst hv
  intro H lsA locs hIn hS hL
  have hIn0 := hIn
  obtain ⟨hid, hP, hD, hM⟩ := hIn
  obtain ⟨C, T, N, ty, ⟨hc, hw, hty, hnm⟩, hfN, hds, hfn, hlk⟩ := hf
  have he := wl_get (cx := cx) (M := M) (hid := hid) hi
  rw [ent_o hk] at he
  refine va_get E.1 E.2.1 E.2.2.2.2.1 hw E.2.2.2.1 E.2.2.2.2.2.1 hP i he hc f hfN (E.2.2.2.2.1 _ hlk) (fun _ h => h) (v := .int (oi (M i f))) ?_ hd (kk' (hM.1 i f).1 (hM.1 i f).2 H lsA locs hIn0 hS hL)
  rw [flds_get hq]
  simp [fld, hI]
theorem g_getr {i t q f idx j : Nat} {ds : String} {fn : Bool} (E : En cx y cc nL d uc us p R s m args meth c) (hd : decode cc pc = .ok (.getfield idx, 3)) (hf : FLk y.cls idx (t + 1) f ds fn) (hk : kk i = (t + 11, q)) (hi : i < 198) (hq : f < q) (hI : isI (t + 11) f = false) (hr : rr i f = j)
    (kk' : G cx p l e R s m args below meth c Q (pc + 3) ls (rf cx j :: sk) M k n) : G cx p l e R s m args below meth c Q pc ls (rf cx i :: sk) M k n := by
  subst hr
  intro H lsA locs hIn hS hL
  have hIn0 := hIn
  obtain ⟨hid, hP, hD, hM⟩ := hIn
  obtain ⟨C, T, N, ty, ⟨hc, hw, hty, hnm⟩, hfN, hds, hfn, hlk⟩ := hf
  have he := wl_get (cx := cx) (M := M) (hid := hid) hi
  rw [ent_o hk] at he
  refine va_get E.1 E.2.1 E.2.2.2.2.1 hw E.2.2.2.1 E.2.2.2.2.2.1 hP i he hc f hfN (E.2.2.2.2.1 _ hlk) (fun _ h => h) (v := rf cx (rr i f)) ?_ hd (kk' H lsA locs hIn0 hS hL)
  rw [flds_get hq]
  simp [fld, hI]
theorem g_putx {i t q f idx : Nat} {v : Int} {ds : String} {tt : FieldType} (E : En cx y cc nL d uc us p R s m args meth c) (hd : decode cc pc = .ok (.putfield idx, 3)) (hf : FLk y.cls idx (t + 1) f ds false) (hk : kk i = (t + 11, q)) (hi : i < 198) (hq : f < q) (hI : isI (t + 11) f = true) (hpd : parseFieldDescriptor ds = some tt) (hn : narrow tt (.int (oi v)) = .int (oi v)) (hfit : fits tt (.int (oi v)) = true) (hv : inR v)
    (kk' : G cx p l e R s m args below meth c Q (pc + 3) ls sk (st M i f v) k n) : G cx p l e R s m args below meth c Q pc ls (.int (oi v) :: rf cx i :: sk) M k n := by
  intro H lsA locs hIn hS hL
  obtain ⟨hid, hP, hD, hM⟩ := hIn
  obtain ⟨C, T, N, ty, ⟨hc, hw, hty, hnm⟩, hfN, hds, hfn, hlk⟩ := hf
  have he := wl_get (cx := cx) (M := M) (hid := hid) hi
  rw [ent_o hk] at he
  refine va_put (ty := tt) E.1 E.2.1 E.2.2.2.2.1 hw ty hty hnm E.2.2.2.1 E.2.2.2.2.2.1 hP hD hS i he hc f hfN (E.2.2.2.2.1 _ hlk) (fun _ h => h) hfn (by rw [hds]; exact hpd) hn hfit (by simpa using hq) hd (fun H1 locs1 hP1 hD1 hS1 => ?_)
  have hw2 := wl_set (cx := cx) (M := M) (M' := st M i f v) (hid := hid) hi (fun j hj => st_ne hj) (e := .inr (t + 1, ((List.range q).map (fld cx i (t + 11) (M i))).set f (.int (oi v)))) (by rw [ent_o hk, st_row, flds_set hq hI])
  rw [hw2] at hP1 hD1
  exact kk' H1 lsA locs1 ⟨hid, hP1, hD1, hM.st (kk_ne hk).1 (kk_ne hk).2 hv⟩ hS1 hL
theorem g_puti {i t q f idx : Nat} {v fz : Int} (E : En cx y cc nL d uc us p R s m args meth c) (hd : decode cc pc = .ok (.putfield idx, 3)) (hf : FLk y.cls idx (t + 1) f "I" false) (hk : kk i = (t + 11, q)) (hi : i < 198) (hq : f < q) (hI : isI (t + 11) f = true) (hz : ((f : Nat) : Int) = fz)
    (kk' : G cx p l e R s m args below meth c Q (pc + 3) ls sk (st M i fz v) k n) (hv1 : -2147483648 ≤ v := by omega) (hv2 : v ≤ 2147483647 := by omega) : G cx p l e R s m args below meth c Q pc ls (.int (oi v) :: rf cx i :: sk) M k n := by
  subst hz
  exact g_putx E hd hf hk hi hq hI (tt := .int) (by decide +kernel) rfl rfl ⟨hv1, hv2⟩ kk'
theorem g_putz {i t q f idx : Nat} {v fz : Int} (E : En cx y cc nL d uc us p R s m args meth c) (hd : decode cc pc = .ok (.putfield idx, 3)) (hf : FLk y.cls idx (t + 1) f "Z" false) (hk : kk i = (t + 11, q)) (hi : i < 198) (hq : f < q) (hI : isI (t + 11) f = true) (hz : ((f : Nat) : Int) = fz) (hv : v = 0 ∨ v = 1)
    (kk' : G cx p l e R s m args below meth c Q (pc + 3) ls sk (st M i fz v) k n) : G cx p l e R s m args below meth c Q pc ls (.int (oi v) :: rf cx i :: sk) M k n := by
  subst hz
  exact g_putx E hd hf hk hi hq hI (tt := .boolean) (by decide +kernel) (by rcases hv with rfl | rfl <;> rfl) (by rcases hv with rfl | rfl <;> rfl) (inR_of (by omega) (by omega)) kk'
theorem kk_lt {i t q : Nat} (h : kk i = (t, q)) (ht : t ≠ 99) : i < 198 := by
  rcases Nat.lt_or_ge i 198 with h1 | h1
  · exact h1
  · exfalso
    unfold kk at h
    rw [if_neg (by omega), if_pos h1] at h
    exact ht (congrArg Prod.fst h).symm
theorem kk_all : ∀ i, i < 198 → (kk i).2 < 65536 := by decide +kernel
theorem kk_small {i t q : Nat} (h : kk i = (t, q)) (ht : t < 10) : q < 65536 := by
  have := kk_all i (kk_lt h (by omega))
  rw [h] at this
  exact this
theorem g_iald {i q : Nat} {x v : Int} (E : En cx y cc nL d uc us p R s m args meth c) (hd : decode cc pc = .ok (.iaload, 1)) (hk : kk i = (0, q)) (h0 : 0 ≤ x) (h1 : x < q) (hv : M i x = v)
    (kk' : -2147483648 ≤ v → v ≤ 2147483647 → G cx p l e R s m args below meth c Q (pc + 1) ls (.int (oi v) :: sk) M k n) : G cx p l e R s m args below meth c Q pc ls (.int (oi x) :: rf cx i :: sk) M k n := by
  subst hv
  have hq := kk_small hk (by decide)
  intro H lsA locs hIn hS hL
  have hIn0 := hIn
  obtain ⟨hid, hP, hD, hM⟩ := hIn
  have he := wl_get (cx := cx) (M := M) (hid := hid) (kk_lt hk (by decide))
  rw [ent_i hk] at he
  refine va_iald E.1 E.2.1 E.2.2.2.2.2.1 hP i 0 he rfl (oi_in h0 h1 (by omega)) hd ?_
  have e1 : (oi x).toNatClampNeg = x.toNat := oi_clamp h0 (inR_of (by omega) (by omega))
  have e2 : ((x.toNat : Nat) : Int) = x := Int.toNat_of_nonneg h0
  rw [e1, e2]
  exact kk' (hM.1 i x).1 (hM.1 i x).2 H lsA locs hIn0 hS hL
theorem g_zald {i q : Nat} {x v : Int} (E : En cx y cc nL d uc us p R s m args meth c) (hd : decode cc pc = .ok (.baload, 1)) (hk : kk i = (1, q)) (h0 : 0 ≤ x) (h1 : x < q) (hv : M i x = v)
    (kk' : -2147483648 ≤ v → v ≤ 2147483647 → G cx p l e R s m args below meth c Q (pc + 1) ls (.int (oi v) :: sk) M k n) : G cx p l e R s m args below meth c Q pc ls (.int (oi x) :: rf cx i :: sk) M k n := by
  subst hv
  have hq := kk_small hk (by decide)
  intro H lsA locs hIn hS hL
  have hIn0 := hIn
  obtain ⟨hid, hP, hD, hM⟩ := hIn
  have he := wl_get (cx := cx) (M := M) (hid := hid) (kk_lt hk (by decide))
  rw [ent_z hk] at he
  refine va_zald E.1 E.2.1 E.2.2.2.2.2.1 hP i 1 he rfl (oi_in h0 h1 (by omega)) hd ?_
  have e1 : (oi x).toNatClampNeg = x.toNat := oi_clamp h0 (inR_of (by omega) (by omega))
  have e2 : ((x.toNat : Nat) : Int) = x := Int.toNat_of_nonneg h0
  rw [e1, e2]
  exact kk' (hM.1 i x).1 (hM.1 i x).2 H lsA locs hIn0 hS hL
theorem g_cald {i q : Nat} {x v : Int} (E : En cx y cc nL d uc us p R s m args meth c) (hd : decode cc pc = .ok (.caload, 1)) (hk : kk i = (2, q)) (h0 : 0 ≤ x) (h1 : x < q) (hv : M i x = v)
    (kk' : -2147483648 ≤ v → v ≤ 2147483647 → G cx p l e R s m args below meth c Q (pc + 1) ls (.int (oi v) :: sk) M k n) : G cx p l e R s m args below meth c Q pc ls (.int (oi x) :: rf cx i :: sk) M k n := by
  subst hv
  have hq := kk_small hk (by decide)
  intro H lsA locs hIn hS hL
  have hIn0 := hIn
  obtain ⟨hid, hP, hD, hM⟩ := hIn
  have he := wl_get (cx := cx) (M := M) (hid := hid) (kk_lt hk (by decide))
  rw [ent_c hk] at he
  refine va_cald E.1 E.2.1 E.2.2.2.2.2.1 hP i 2 he rfl (oi_in h0 h1 (by omega)) hd ?_
  have e1 : (oi x).toNatClampNeg = x.toNat := oi_clamp h0 (inR_of (by omega) (by omega))
  have e2 : ((x.toNat : Nat) : Int) = x := Int.toNat_of_nonneg h0
  rw [e1, e2]
  exact kk' (hM.1 i x).1 (hM.1 i x).2 H lsA locs hIn0 hS hL
theorem g_aald {i q j : Nat} {x : Int} (E : En cx y cc nL d uc us p R s m args meth c) (hd : decode cc pc = .ok (.aaload, 1)) (hk : kk i = (4, q)) (h0 : 0 ≤ x) (h1 : x < q) (hr : rr i x.toNat = j)
    (kk' : G cx p l e R s m args below meth c Q (pc + 1) ls (rf cx j :: sk) M k n) : G cx p l e R s m args below meth c Q pc ls (.int (oi x) :: rf cx i :: sk) M k n := by
  subst hr
  have hq := kk_small hk (by decide)
  intro H lsA locs hIn hS hL
  have hIn0 := hIn
  obtain ⟨hid, hP, hD, hM⟩ := hIn
  have he := wl_get (cx := cx) (M := M) (hid := hid) (kk_lt hk (by decide))
  rw [ent_q hk] at he
  refine va_aldq (C := "ExamBoard$Board") E.1 E.2.1 E.2.2.2.2.2.1 hP i 4 he rfl (oi_in h0 h1 (by omega)) hd ?_
  have e1 : (oi x).toNatClampNeg = x.toNat := oi_clamp h0 (inR_of (by omega) (by omega))
  rw [e1]
  exact kk' H lsA locs hIn0 hS hL
theorem g_iast {i q : Nat} {x v : Int} (E : En cx y cc nL d uc us p R s m args meth c) (hd : decode cc pc = .ok (.iastore, 1)) (hk : kk i = (0, q)) (h0 : 0 ≤ x) (h1 : x < q)
    (kk' : G cx p l e R s m args below meth c Q (pc + 1) ls sk (st M i x v) k n) (hv1 : -2147483648 ≤ v := by omega) (hv2 : v ≤ 2147483647 := by omega) : G cx p l e R s m args below meth c Q pc ls (.int (oi v) :: .int (oi x) :: rf cx i :: sk) M k n := by
  have hq := kk_small hk (by decide)
  intro H lsA locs hIn hS hL
  obtain ⟨hid, hP, hD, hM⟩ := hIn
  have hi := kk_lt hk (by decide)
  have he := wl_get (cx := cx) (M := M) (hid := hid) hi
  rw [ent_i hk] at he
  refine va_iast E.1 E.2.1 E.2.2.2.2.2.1 hP hD hS i 0 he rfl (oi_in h0 h1 (by omega)) hd (fun H1 locs1 hP1 hD1 hS1 => ?_)
  have e1 : (oi x).toNatClampNeg = x.toNat := oi_clamp h0 (inR_of (by omega) (by omega))
  rw [e1, row_upd h0] at hP1 hD1
  have hw2 := wl_set (cx := cx) (M := M) (M' := st M i x v) (hid := hid) hi (fun j hj => st_ne hj) (e := .inl (cA cx 0, q, .inl (fun j : Nat => oi (if (j : Int) = x then v else M i j)))) (by rw [ent_i hk, st_row])
  rw [hw2] at hP1 hD1
  exact kk' H1 lsA locs1 ⟨hid, hP1, hD1, hM.st (kk_ne2 hk (by decide)).1 (kk_ne2 hk (by decide)).2 ⟨hv1, hv2⟩⟩ hS1 hL
theorem g_zast {i q : Nat} {x v : Int} (E : En cx y cc nL d uc us p R s m args meth c) (hd : decode cc pc = .ok (.bastore, 1)) (hk : kk i = (1, q)) (h0 : 0 ≤ x) (h1 : x < q) (hv : v = 0 ∨ v = 1)
    (kk' : G cx p l e R s m args below meth c Q (pc + 1) ls sk (st M i x v) k n) : G cx p l e R s m args below meth c Q pc ls (.int (oi v) :: .int (oi x) :: rf cx i :: sk) M k n := by
  have hq := kk_small hk (by decide)
  intro H lsA locs hIn hS hL
  obtain ⟨hid, hP, hD, hM⟩ := hIn
  have hi := kk_lt hk (by decide)
  have he := wl_get (cx := cx) (M := M) (hid := hid) hi
  rw [ent_z hk] at he
  refine va_zast E.1 E.2.1 E.2.2.2.2.2.1 hP hD hS i 1 he rfl (oi_in h0 h1 (by omega)) hd (fun H1 locs1 hP1 hD1 hS1 => ?_)
  have e1 : (oi x).toNatClampNeg = x.toNat := oi_clamp h0 (inR_of (by omega) (by omega))
  rw [e1, nar_z hv, row_upd h0] at hP1 hD1
  have hw2 := wl_set (cx := cx) (M := M) (M' := st M i x v) (hid := hid) hi (fun j hj => st_ne hj) (e := .inl (cA cx 1, q, .inl (fun j : Nat => oi (if (j : Int) = x then v else M i j)))) (by rw [ent_z hk, st_row])
  rw [hw2] at hP1 hD1
  exact kk' H1 lsA locs1 ⟨hid, hP1, hD1, hM.st (kk_ne2 hk (by decide)).1 (kk_ne2 hk (by decide)).2 (inR_of (by omega) (by omega))⟩ hS1 hL
theorem g_cast {i q : Nat} {x v : Int} (E : En cx y cc nL d uc us p R s m args meth c) (hd : decode cc pc = .ok (.castore, 1)) (hk : kk i = (2, q)) (h0 : 0 ≤ x) (h1 : x < q) (hv0 : 0 ≤ v) (hv1 : v < 65536)
    (kk' : G cx p l e R s m args below meth c Q (pc + 1) ls sk (st M i x v) k n) : G cx p l e R s m args below meth c Q pc ls (.int (oi v) :: .int (oi x) :: rf cx i :: sk) M k n := by
  have hq := kk_small hk (by decide)
  intro H lsA locs hIn hS hL
  obtain ⟨hid, hP, hD, hM⟩ := hIn
  have hi := kk_lt hk (by decide)
  have he := wl_get (cx := cx) (M := M) (hid := hid) hi
  rw [ent_c hk] at he
  refine va_cast E.1 E.2.1 E.2.2.2.2.2.1 hP hD hS i 2 he rfl (oi_in h0 h1 (by omega)) hd (fun H1 locs1 hP1 hD1 hS1 => ?_)
  have e1 : (oi x).toNatClampNeg = x.toNat := oi_clamp h0 (inR_of (by omega) (by omega))
  rw [e1, nar_c hv0 hv1, row_upd h0] at hP1 hD1
  have hw2 := wl_set (cx := cx) (M := M) (M' := st M i x v) (hid := hid) hi (fun j hj => st_ne hj) (e := .inl (cA cx 2, q, .inl (fun j : Nat => oi (if (j : Int) = x then v else M i j)))) (by rw [ent_c hk, st_row])
  rw [hw2] at hP1 hD1
  exact kk' H1 lsA locs1 ⟨hid, hP1, hD1, hM.st (kk_ne2 hk (by decide)).1 (kk_ne2 hk (by decide)).2 (inR_of (by omega) (by omega))⟩ hS1 hL
theorem g_alen {i q : Nat} {z : Int} (E : En cx y cc nL d uc us p R s m args meth c) (hd : decode cc pc = .ok (.arraylength, 1)) (hk : kk i = (0, q)) (hz : (q : Int) = z)
    (kk' : G cx p l e R s m args below meth c Q (pc + 1) ls (.int (oi z) :: sk) M k n) : G cx p l e R s m args below meth c Q pc ls (rf cx i :: sk) M k n := by
  subst hz
  intro H lsA locs hIn hS hL
  have hIn0 := hIn
  obtain ⟨hid, hP, hD, hM⟩ := hIn
  have he := wl_get (cx := cx) (M := M) (hid := hid) (kk_lt hk (by decide))
  rw [ent_i hk] at he
  exact va_alen (x := (q, .inl _)) (ty := .int) E.1 E.2.1 E.2.2.2.2.2.1 hP i 0 he rfl (v := oi q) (oi_nat q).symm hd (kk' H lsA locs hIn0 hS hL)
theorem g_alenq {i q : Nat} {z : Int} (E : En cx y cc nL d uc us p R s m args meth c) (hd : decode cc pc = .ok (.arraylength, 1)) (hk : kk i = (4, q)) (hz : (q : Int) = z)
    (kk' : G cx p l e R s m args below meth c Q (pc + 1) ls (.int (oi z) :: sk) M k n) : G cx p l e R s m args below meth c Q pc ls (rf cx i :: sk) M k n := by
  subst hz
  intro H lsA locs hIn hS hL
  have hIn0 := hIn
  obtain ⟨hid, hP, hD, hM⟩ := hIn
  have he := wl_get (cx := cx) (M := M) (hid := hid) (kk_lt hk (by decide))
  rw [ent_q hk] at he
  exact va_alen (x := (q, _)) (ty := .object "ExamBoard$Board") E.1 E.2.1 E.2.2.2.2.2.1 hP i 4 he rfl (v := oi q) (oi_nat q).symm hd (kk' H lsA locs hIn0 hS hL)
/-- a static array of the class -/
theorem g_gets {i idx : Nat} (E : En cx y cc nL d uc us p R s m args meth c) (hd : decode cc pc = .ok (.getstatic idx, 3)) (h0 : 198 ≤ i) (h1 : i < 203) (hlk : Cond.fieldLink y.cls idx "ExamBoard" (sNm i) "[I" ∈ BIG)
    (kk' : G cx p l e R s m args below meth c Q (pc + 3) ls (rf cx i :: sk) M k n) : G cx p l e R s m args below meth c Q pc ls sk M k n := by
  intro H lsA locs hIn hS hL
  exact va_gets E.1 E.2.1 (E.2.2.2.2.2.2.1.1 i h0 h1).1 hS E.2.2.2.1 (E.2.2.2.2.1 _ hlk) (fun _ h => h) hd (kk' H lsA locs hIn hS hL)
theorem g_getsN (E : En cx y cc nL d uc us p R s m args meth c) (hy : y.cls = RX4) (hd : decode cc pc = .ok (.getstatic 110, 3))
    (kk' : G cx p l e R s m args below meth c Q (pc + 3) ls (rf cx 202 :: sk) M k n) : G cx p l e R s m args below meth c Q pc ls sk M k n := by
  intro H lsA locs hIn hS hL
  exact va_getsN E.1 E.2.1 (E.2.2.2.2.2.2.1.1 202 (by decide) (by decide)).1 hS (own := RX4) (by rw [← hy]; exact E.2.2.2.1) (E.2.2.2.2.2.2.1.2.1.2.2.2.2.2.2.use rfl) (fun _ h => h) hd (kk' H lsA locs hIn hS hL)
theorem sLn_small (i : Nat) : sLn i < 6 := by unfold sLn; split <;> decide
theorem sVl_R (i : Nat) (j : Int) : -100 ≤ sVl i j ∧ sVl i j ≤ 150 := by
  unfold sVl
  split <;> (repeat' split) <;> exact ⟨by decide, by decide⟩
theorem g_sald {i : Nat} {x v : Int} (E : En cx y cc nL d uc us p R s m args meth c) (hd : decode cc pc = .ok (.iaload, 1)) (h0 : 198 ≤ i) (h1 : i < 203) (hx : 0 ≤ x) (hx1 : x < sLn i) (hv : sVl i x = v)
    (kk' : G cx p l e R s m args below meth c Q (pc + 1) ls (.int (oi v) :: sk) M k n) : G cx p l e R s m args below meth c Q pc ls (.int (oi x) :: rf cx i :: sk) M k n := by
  subst hv
  have := sLn_small i
  intro H lsA locs hIn hS hL
  have e1 : (oi x).toNatClampNeg = x.toNat := oi_clamp hx (inR_of (by omega) (by omega))
  have e2 : ((x.toNat : Nat) : Int) = x := Int.toNat_of_nonneg hx
  refine va_ti E.1 E.2.1 (E.2.2.2.2.2.2.1.1 i h0 h1).2 hS (oi_in hx hx1 (by omega)) (v := .int (oi (sVl i x))) (by rw [e1]; simp only [e2]) hd (kk' H lsA locs hIn hS hL)
theorem g_lookup {a dflt off : Int} {ps : Array (Int × Int)} {len tgt : Nat} (E : En cx y cc nL d uc us p R s m args meth c) (hd : decode cc pc = .ok (.lookupswitch dflt ps, len)) (hp : (ps.toList.zip (ps.toList.drop 1)).all (fun (a, next) => a.1 < next.1) = true) (ho : Op.lookupswitch.offset ps.toList dflt a = off) (ht : (pc : Int) + off = (tgt : Int))
    (kk' : G cx p l e R s m args below meth c Q tgt ls sk M k n) (ha : -2147483648 ≤ a := by omega) (ha2 : a ≤ 2147483647 := by omega) : G cx p l e R s m args below meth c Q pc ls (.int (oi a) :: sk) M k n := by
  intro H lsA locs hIn hS hL
  exact lv_lookup E.1 E.2.1 hd hp (by rw [oi_toInt ⟨ha, ha2⟩]; exact ho) ht (kk' H lsA locs hIn hS hL)
theorem g_tableOut {a dflt lo hi : Int} {offs : Array Int} {len tgt : Nat} (E : En cx y cc nL d uc us p R s m args meth c) (hd : decode cc pc = .ok (.tableswitch dflt lo hi offs, len)) (h : a < lo ∨ hi < a) (ht : (pc : Int) + dflt = (tgt : Int))
    (kk' : G cx p l e R s m args below meth c Q tgt ls sk M k n) (ha : -2147483648 ≤ a := by omega) (ha2 : a ≤ 2147483647 := by omega) : G cx p l e R s m args below meth c Q pc ls (.int (oi a) :: sk) M k n := by
  intro H lsA locs hIn hS hL
  exact lv_tableOut E.1 E.2.1 hd (by rw [oi_toInt ⟨ha, ha2⟩]; exact h) ht (kk' H lsA locs hIn hS hL)
theorem g_tableIn {a dflt lo hi off : Int} {offs : Array Int} {len tgt : Nat} (E : En cx y cc nL d uc us p R s m args meth c) (hd : decode cc pc = .ok (.tableswitch dflt lo hi offs, len)) (h1 : lo ≤ a) (h2 : a ≤ hi) (ho : offs[(a - lo).toNat]? = some off) (ht : (pc : Int) + off = (tgt : Int))
    (kk' : G cx p l e R s m args below meth c Q tgt ls sk M k n) (ha : -2147483648 ≤ a := by omega) (ha2 : a ≤ 2147483647 := by omega) : G cx p l e R s m args below meth c Q pc ls (.int (oi a) :: sk) M k n := by
  intro H lsA locs hIn hS hL
  exact lv_tableIn E.1 E.2.1 hd (by rw [oi_toInt ⟨ha, ha2⟩]; omega) (by rw [oi_toInt ⟨ha, ha2⟩]; omega) (by rw [oi_toInt ⟨ha, ha2⟩]; exact ho) ht (kk' H lsA locs hIn hS hL)
end GM
end
