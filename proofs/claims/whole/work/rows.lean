section
-- ===== PART A: goes FIRST, ahead of the names: the tables' words, and 'selects' of the private methods out of them =====
/-- a private method of a class that the tables say can be made, by its rows of tables_1 -/
def lw_okq (q : MethodName × Nat) : Prop := (q.1.cls ≠ "java/lang/invoke/MethodHandle" ∧ q.1.cls ≠ "java/lang/invoke/VarHandle") ∧ Cond.instantiable q.1.cls q.2 ∈ tables_1 ∧ Cond.privateMethod q.1 ∈ tables_1 ∧ Cond.instanceMethod q.1 ∈ tables_1
theorem lw_p0 : lw_okq (⟨"BelievedWords", "found", "(I)I"⟩, 9) := ⟨⟨by decide +kernel, by decide +kernel⟩, List.mem_of_getElem? (i := 19) (by decide +kernel), List.mem_of_getElem? (i := 385) (by decide +kernel), List.mem_of_getElem? (i := 386) (by decide +kernel)⟩
theorem lw_p1 : lw_okq (⟨"BelievedWords", "fine", "(I)I"⟩, 9) := ⟨⟨by decide +kernel, by decide +kernel⟩, List.mem_of_getElem? (i := 19) (by decide +kernel), List.mem_of_getElem? (i := 394) (by decide +kernel), List.mem_of_getElem? (i := 395) (by decide +kernel)⟩
theorem lw_p2 : lw_okq (⟨"BelievedWords$Tape", "readLaw", "()Z"⟩, 9) := ⟨⟨by decide +kernel, by decide +kernel⟩, List.mem_of_getElem? (i := 49) (by decide +kernel), List.mem_of_getElem? (i := 459) (by decide +kernel), List.mem_of_getElem? (i := 460) (by decide +kernel)⟩
theorem lw_p3 : lw_okq (⟨"BelievedWords$Tape", "takes", "(I)Z"⟩, 9) := ⟨⟨by decide +kernel, by decide +kernel⟩, List.mem_of_getElem? (i := 49) (by decide +kernel), List.mem_of_getElem? (i := 463) (by decide +kernel), List.mem_of_getElem? (i := 464) (by decide +kernel)⟩
theorem lw_p4 : lw_okq (⟨"BelievedWords$Tape", "step", "()V"⟩, 9) := ⟨⟨by decide +kernel, by decide +kernel⟩, List.mem_of_getElem? (i := 49) (by decide +kernel), List.mem_of_getElem? (i := 467) (by decide +kernel), List.mem_of_getElem? (i := 468) (by decide +kernel)⟩
theorem lw_p5 : lw_okq (⟨"BelievedWords$Tape", "stepOverFigures", "()V"⟩, 9) := ⟨⟨by decide +kernel, by decide +kernel⟩, List.mem_of_getElem? (i := 49) (by decide +kernel), List.mem_of_getElem? (i := 471) (by decide +kernel), List.mem_of_getElem? (i := 472) (by decide +kernel)⟩
theorem lw_p6 : lw_okq (⟨"BelievedWords$Tape", "fails", "(I)Z"⟩, 9) := ⟨⟨by decide +kernel, by decide +kernel⟩, List.mem_of_getElem? (i := 49) (by decide +kernel), List.mem_of_getElem? (i := 475) (by decide +kernel), List.mem_of_getElem? (i := 476) (by decide +kernel)⟩
theorem lw_p7 : lw_okq (⟨"BelievedWords$Tape", "takesNumber", "(II)Z"⟩, 9) := ⟨⟨by decide +kernel, by decide +kernel⟩, List.mem_of_getElem? (i := 49) (by decide +kernel), List.mem_of_getElem? (i := 479) (by decide +kernel), List.mem_of_getElem? (i := 480) (by decide +kernel)⟩
theorem lw_p8 : lw_okq (⟨"BelievedWords$Tape", "readRules", "()Z"⟩, 9) := ⟨⟨by decide +kernel, by decide +kernel⟩, List.mem_of_getElem? (i := 49) (by decide +kernel), List.mem_of_getElem? (i := 483) (by decide +kernel), List.mem_of_getElem? (i := 484) (by decide +kernel)⟩
theorem lw_p9 : lw_okq (⟨"BelievedWords$Tape", "readRule", "(I)Z"⟩, 9) := ⟨⟨by decide +kernel, by decide +kernel⟩, List.mem_of_getElem? (i := 49) (by decide +kernel), List.mem_of_getElem? (i := 487) (by decide +kernel), List.mem_of_getElem? (i := 488) (by decide +kernel)⟩
theorem lw_p10 : lw_okq (⟨"BelievedWords$Tape", "readPeople", "()Z"⟩, 9) := ⟨⟨by decide +kernel, by decide +kernel⟩, List.mem_of_getElem? (i := 49) (by decide +kernel), List.mem_of_getElem? (i := 499) (by decide +kernel), List.mem_of_getElem? (i := 500) (by decide +kernel)⟩
theorem lw_p11 : lw_okq (⟨"BelievedWords$Court", "gatherRules", "()V"⟩, 5) := ⟨⟨by decide +kernel, by decide +kernel⟩, List.mem_of_getElem? (i := 147) (by decide +kernel), List.mem_of_getElem? (i := 533) (by decide +kernel), List.mem_of_getElem? (i := 534) (by decide +kernel)⟩
theorem lw_p12 : lw_okq (⟨"BelievedWords$Court", "believed", "(IIII)I"⟩, 5) := ⟨⟨by decide +kernel, by decide +kernel⟩, List.mem_of_getElem? (i := 147) (by decide +kernel), List.mem_of_getElem? (i := 601) (by decide +kernel), List.mem_of_getElem? (i := 602) (by decide +kernel)⟩
theorem lw_p13 : lw_okq (⟨"BelievedWords$Court", "grow", "(I)I"⟩, 5) := ⟨⟨by decide +kernel, by decide +kernel⟩, List.mem_of_getElem? (i := 147) (by decide +kernel), List.mem_of_getElem? (i := 613) (by decide +kernel), List.mem_of_getElem? (i := 614) (by decide +kernel)⟩
theorem lw_p14 : lw_okq (⟨"BelievedWords$Court", "isBarred", "(I)Z"⟩, 5) := ⟨⟨by decide +kernel, by decide +kernel⟩, List.mem_of_getElem? (i := 147) (by decide +kernel), List.mem_of_getElem? (i := 617) (by decide +kernel), List.mem_of_getElem? (i := 618) (by decide +kernel)⟩
theorem lw_p15 : lw_okq (⟨"BelievedWords", "refusalOfGoal", "(III)I"⟩, 9) := ⟨⟨by decide +kernel, by decide +kernel⟩, List.mem_of_getElem? (i := 19) (by decide +kernel), List.mem_of_getElem? (i := 675) (by decide +kernel), List.mem_of_getElem? (i := 676) (by decide +kernel)⟩
def lw_privs_1 : List (MethodName × Nat) := [(⟨"BelievedWords", "found", "(I)I"⟩, 9), (⟨"BelievedWords", "fine", "(I)I"⟩, 9), (⟨"BelievedWords$Tape", "readLaw", "()Z"⟩, 9), (⟨"BelievedWords$Tape", "takes", "(I)Z"⟩, 9), (⟨"BelievedWords$Tape", "step", "()V"⟩, 9), (⟨"BelievedWords$Tape", "stepOverFigures", "()V"⟩, 9), (⟨"BelievedWords$Tape", "fails", "(I)Z"⟩, 9), (⟨"BelievedWords$Tape", "takesNumber", "(II)Z"⟩, 9), (⟨"BelievedWords$Tape", "readRules", "()Z"⟩, 9), (⟨"BelievedWords$Tape", "readRule", "(I)Z"⟩, 9), (⟨"BelievedWords$Tape", "readPeople", "()Z"⟩, 9), (⟨"BelievedWords$Court", "gatherRules", "()V"⟩, 5), (⟨"BelievedWords$Court", "believed", "(IIII)I"⟩, 5), (⟨"BelievedWords$Court", "grow", "(I)I"⟩, 5), (⟨"BelievedWords$Court", "isBarred", "(I)Z"⟩, 5), (⟨"BelievedWords", "refusalOfGoal", "(III)I"⟩, 9)]
theorem lw_r1 : ∀ q ∈ lw_privs_1, lw_okq q := List.forall_mem_cons.mpr ⟨lw_p0, List.forall_mem_cons.mpr ⟨lw_p1, List.forall_mem_cons.mpr ⟨lw_p2, List.forall_mem_cons.mpr ⟨lw_p3, List.forall_mem_cons.mpr ⟨lw_p4, List.forall_mem_cons.mpr ⟨lw_p5, List.forall_mem_cons.mpr ⟨lw_p6, List.forall_mem_cons.mpr ⟨lw_p7, List.forall_mem_cons.mpr ⟨lw_p8, List.forall_mem_cons.mpr ⟨lw_p9, List.forall_mem_cons.mpr ⟨lw_p10, List.forall_mem_cons.mpr ⟨lw_p11, List.forall_mem_cons.mpr ⟨lw_p12, List.forall_mem_cons.mpr ⟨lw_p13, List.forall_mem_cons.mpr ⟨lw_p14, List.forall_mem_cons.mpr ⟨lw_p15, fun _ h => absurd h List.not_mem_nil⟩⟩⟩⟩⟩⟩⟩⟩⟩⟩⟩⟩⟩⟩⟩⟩
theorem lw_p16 : lw_okq (⟨"BelievedWords$Search", "begin", "(LBelievedWords$Law;IIZ)V"⟩, 14) := ⟨⟨by decide +kernel, by decide +kernel⟩, List.mem_of_getElem? (i := 246) (by decide +kernel), List.mem_of_getElem? (i := 687) (by decide +kernel), List.mem_of_getElem? (i := 688) (by decide +kernel)⟩
theorem lw_p17 : lw_okq (⟨"BelievedWords$Search", "gatherMovers", "(LBelievedWords$Law;)V"⟩, 14) := ⟨⟨by decide +kernel, by decide +kernel⟩, List.mem_of_getElem? (i := 246) (by decide +kernel), List.mem_of_getElem? (i := 691) (by decide +kernel), List.mem_of_getElem? (i := 692) (by decide +kernel)⟩
theorem lw_p18 : lw_okq (⟨"BelievedWords$Search", "isMet", "(I)Z"⟩, 14) := ⟨⟨by decide +kernel, by decide +kernel⟩, List.mem_of_getElem? (i := 246) (by decide +kernel), List.mem_of_getElem? (i := 700) (by decide +kernel), List.mem_of_getElem? (i := 701) (by decide +kernel)⟩
theorem lw_p19 : lw_okq (⟨"BelievedWords$Search", "explore", "(LBelievedWords$Court;)I"⟩, 14) := ⟨⟨by decide +kernel, by decide +kernel⟩, List.mem_of_getElem? (i := 246) (by decide +kernel), List.mem_of_getElem? (i := 704) (by decide +kernel), List.mem_of_getElem? (i := 705) (by decide +kernel)⟩
theorem lw_p20 : lw_okq (⟨"BelievedWords$Search", "sayFirst", "(LBelievedWords$Court;)V"⟩, 14) := ⟨⟨by decide +kernel, by decide +kernel⟩, List.mem_of_getElem? (i := 246) (by decide +kernel), List.mem_of_getElem? (i := 708) (by decide +kernel), List.mem_of_getElem? (i := 709) (by decide +kernel)⟩
theorem lw_p21 : lw_okq (⟨"BelievedWords$Search", "stepOf", "(II)I"⟩, 14) := ⟨⟨by decide +kernel, by decide +kernel⟩, List.mem_of_getElem? (i := 246) (by decide +kernel), List.mem_of_getElem? (i := 714) (by decide +kernel), List.mem_of_getElem? (i := 715) (by decide +kernel)⟩
theorem lw_p22 : lw_okq (⟨"BelievedWords$Search", "enter", "(IIII)V"⟩, 14) := ⟨⟨by decide +kernel, by decide +kernel⟩, List.mem_of_getElem? (i := 246) (by decide +kernel), List.mem_of_getElem? (i := 719) (by decide +kernel), List.mem_of_getElem? (i := 720) (by decide +kernel)⟩
theorem lw_p23 : lw_okq (⟨"BelievedWords$Search", "soOf", "(I)I"⟩, 14) := ⟨⟨by decide +kernel, by decide +kernel⟩, List.mem_of_getElem? (i := 246) (by decide +kernel), List.mem_of_getElem? (i := 726) (by decide +kernel), List.mem_of_getElem? (i := 727) (by decide +kernel)⟩
theorem lw_p24 : lw_okq (⟨"BelievedWords$Search", "lead", "(LBelievedWords$Court;I)V"⟩, 14) := ⟨⟨by decide +kernel, by decide +kernel⟩, List.mem_of_getElem? (i := 246) (by decide +kernel), List.mem_of_getElem? (i := 730) (by decide +kernel), List.mem_of_getElem? (i := 731) (by decide +kernel)⟩
theorem lw_p25 : lw_okq (⟨"BelievedWords$Foresight", "tellSaying", "(LBelievedWords$Court;IIIIZ)V"⟩, 4) := ⟨⟨by decide +kernel, by decide +kernel⟩, List.mem_of_getElem? (i := 295) (by decide +kernel), List.mem_of_getElem? (i := 823) (by decide +kernel), List.mem_of_getElem? (i := 824) (by decide +kernel)⟩
theorem lw_p26 : lw_okq (⟨"BelievedWords$Foresight", "turnOver", "()V"⟩, 4) := ⟨⟨by decide +kernel, by decide +kernel⟩, List.mem_of_getElem? (i := 295) (by decide +kernel), List.mem_of_getElem? (i := 828) (by decide +kernel), List.mem_of_getElem? (i := 829) (by decide +kernel)⟩
theorem lw_p27 : lw_okq (⟨"BelievedWords$Asks", "askedOf", "(LBelievedWords$Court;III)I"⟩, 2) := ⟨⟨by decide +kernel, by decide +kernel⟩, List.mem_of_getElem? (i := 314) (by decide +kernel), List.mem_of_getElem? (i := 933) (by decide +kernel), List.mem_of_getElem? (i := 934) (by decide +kernel)⟩
theorem lw_p28 : lw_okq (⟨"BelievedWords$Asks", "body", "(LBelievedWords$Court;III)I"⟩, 2) := ⟨⟨by decide +kernel, by decide +kernel⟩, List.mem_of_getElem? (i := 314) (by decide +kernel), List.mem_of_getElem? (i := 941) (by decide +kernel), List.mem_of_getElem? (i := 942) (by decide +kernel)⟩
theorem lw_p29 : lw_okq (⟨"BelievedWords$Asks", "leave", "(I)V"⟩, 2) := ⟨⟨by decide +kernel, by decide +kernel⟩, List.mem_of_getElem? (i := 314) (by decide +kernel), List.mem_of_getElem? (i := 945) (by decide +kernel), List.mem_of_getElem? (i := 946) (by decide +kernel)⟩
theorem lw_p30 : lw_okq (⟨"BelievedWordsModel", "finding", "(I)I"⟩, 28) := ⟨⟨by decide +kernel, by decide +kernel⟩, List.mem_of_getElem? (i := 970) (by decide +kernel), List.mem_of_getElem? (i := 1075) (by decide +kernel), List.mem_of_getElem? (i := 1076) (by decide +kernel)⟩
theorem lw_p31 : lw_okq (⟨"BelievedWordsModel", "begin", "()V"⟩, 28) := ⟨⟨by decide +kernel, by decide +kernel⟩, List.mem_of_getElem? (i := 970) (by decide +kernel), List.mem_of_getElem? (i := 1106) (by decide +kernel), List.mem_of_getElem? (i := 1107) (by decide +kernel)⟩
def lw_privs_2 : List (MethodName × Nat) := [(⟨"BelievedWords$Search", "begin", "(LBelievedWords$Law;IIZ)V"⟩, 14), (⟨"BelievedWords$Search", "gatherMovers", "(LBelievedWords$Law;)V"⟩, 14), (⟨"BelievedWords$Search", "isMet", "(I)Z"⟩, 14), (⟨"BelievedWords$Search", "explore", "(LBelievedWords$Court;)I"⟩, 14), (⟨"BelievedWords$Search", "sayFirst", "(LBelievedWords$Court;)V"⟩, 14), (⟨"BelievedWords$Search", "stepOf", "(II)I"⟩, 14), (⟨"BelievedWords$Search", "enter", "(IIII)V"⟩, 14), (⟨"BelievedWords$Search", "soOf", "(I)I"⟩, 14), (⟨"BelievedWords$Search", "lead", "(LBelievedWords$Court;I)V"⟩, 14), (⟨"BelievedWords$Foresight", "tellSaying", "(LBelievedWords$Court;IIIIZ)V"⟩, 4), (⟨"BelievedWords$Foresight", "turnOver", "()V"⟩, 4), (⟨"BelievedWords$Asks", "askedOf", "(LBelievedWords$Court;III)I"⟩, 2), (⟨"BelievedWords$Asks", "body", "(LBelievedWords$Court;III)I"⟩, 2), (⟨"BelievedWords$Asks", "leave", "(I)V"⟩, 2), (⟨"BelievedWordsModel", "finding", "(I)I"⟩, 28), (⟨"BelievedWordsModel", "begin", "()V"⟩, 28)]
theorem lw_r2 : ∀ q ∈ lw_privs_2, lw_okq q := List.forall_mem_cons.mpr ⟨lw_p16, List.forall_mem_cons.mpr ⟨lw_p17, List.forall_mem_cons.mpr ⟨lw_p18, List.forall_mem_cons.mpr ⟨lw_p19, List.forall_mem_cons.mpr ⟨lw_p20, List.forall_mem_cons.mpr ⟨lw_p21, List.forall_mem_cons.mpr ⟨lw_p22, List.forall_mem_cons.mpr ⟨lw_p23, List.forall_mem_cons.mpr ⟨lw_p24, List.forall_mem_cons.mpr ⟨lw_p25, List.forall_mem_cons.mpr ⟨lw_p26, List.forall_mem_cons.mpr ⟨lw_p27, List.forall_mem_cons.mpr ⟨lw_p28, List.forall_mem_cons.mpr ⟨lw_p29, List.forall_mem_cons.mpr ⟨lw_p30, List.forall_mem_cons.mpr ⟨lw_p31, fun _ h => absurd h List.not_mem_nil⟩⟩⟩⟩⟩⟩⟩⟩⟩⟩⟩⟩⟩⟩⟩⟩
theorem lw_p32 : lw_okq (⟨"BelievedWordsModel", "nextToken", "()V"⟩, 28) := ⟨⟨by decide +kernel, by decide +kernel⟩, List.mem_of_getElem? (i := 970) (by decide +kernel), List.mem_of_getElem? (i := 1110) (by decide +kernel), List.mem_of_getElem? (i := 1111) (by decide +kernel)⟩
theorem lw_p33 : lw_okq (⟨"BelievedWordsModel", "isLetter", "(I)Z"⟩, 28) := ⟨⟨by decide +kernel, by decide +kernel⟩, List.mem_of_getElem? (i := 970) (by decide +kernel), List.mem_of_getElem? (i := 1119) (by decide +kernel), List.mem_of_getElem? (i := 1120) (by decide +kernel)⟩
theorem lw_p34 : lw_okq (⟨"BelievedWordsModel", "must", "(Z)V"⟩, 28) := ⟨⟨by decide +kernel, by decide +kernel⟩, List.mem_of_getElem? (i := 970) (by decide +kernel), List.mem_of_getElem? (i := 1123) (by decide +kernel), List.mem_of_getElem? (i := 1124) (by decide +kernel)⟩
theorem lw_p35 : lw_okq (⟨"BelievedWordsModel", "bad", "(I)V"⟩, 28) := ⟨⟨by decide +kernel, by decide +kernel⟩, List.mem_of_getElem? (i := 970) (by decide +kernel), List.mem_of_getElem? (i := 1127) (by decide +kernel), List.mem_of_getElem? (i := 1128) (by decide +kernel)⟩
theorem lw_p36 : lw_okq (⟨"BelievedWordsModel", "number", "(II)I"⟩, 28) := ⟨⟨by decide +kernel, by decide +kernel⟩, List.mem_of_getElem? (i := 970) (by decide +kernel), List.mem_of_getElem? (i := 1131) (by decide +kernel), List.mem_of_getElem? (i := 1132) (by decide +kernel)⟩
theorem lw_p37 : lw_okq (⟨"BelievedWordsModel", "mustSign", "(I)V"⟩, 28) := ⟨⟨by decide +kernel, by decide +kernel⟩, List.mem_of_getElem? (i := 970) (by decide +kernel), List.mem_of_getElem? (i := 1135) (by decide +kernel), List.mem_of_getElem? (i := 1136) (by decide +kernel)⟩
theorem lw_p38 : lw_okq (⟨"BelievedWordsModel", "readRule", "()V"⟩, 28) := ⟨⟨by decide +kernel, by decide +kernel⟩, List.mem_of_getElem? (i := 970) (by decide +kernel), List.mem_of_getElem? (i := 1139) (by decide +kernel), List.mem_of_getElem? (i := 1140) (by decide +kernel)⟩
theorem lw_p39 : lw_okq (⟨"BelievedWordsModel", "isTold", "(IIJ)Z"⟩, 28) := ⟨⟨by decide +kernel, by decide +kernel⟩, List.mem_of_getElem? (i := 970) (by decide +kernel), List.mem_of_getElem? (i := 1143) (by decide +kernel), List.mem_of_getElem? (i := 1144) (by decide +kernel)⟩
theorem lw_p40 : lw_okq (⟨"BelievedWordsModel", "isSort", "()Z"⟩, 28) := ⟨⟨by decide +kernel, by decide +kernel⟩, List.mem_of_getElem? (i := 970) (by decide +kernel), List.mem_of_getElem? (i := 1147) (by decide +kernel), List.mem_of_getElem? (i := 1148) (by decide +kernel)⟩
theorem lw_p41 : lw_okq (⟨"BelievedWordsModel", "failed", "()Z"⟩, 28) := ⟨⟨by decide +kernel, by decide +kernel⟩, List.mem_of_getElem? (i := 970) (by decide +kernel), List.mem_of_getElem? (i := 1154) (by decide +kernel), List.mem_of_getElem? (i := 1155) (by decide +kernel)⟩
theorem lw_p42 : lw_okq (⟨"BelievedWordsModel", "isPerson", "(I)Z"⟩, 28) := ⟨⟨by decide +kernel, by decide +kernel⟩, List.mem_of_getElem? (i := 970) (by decide +kernel), List.mem_of_getElem? (i := 1163) (by decide +kernel), List.mem_of_getElem? (i := 1164) (by decide +kernel)⟩
theorem lw_p43 : lw_okq (⟨"BelievedWordsModel", "isSaying", "(J)Z"⟩, 28) := ⟨⟨by decide +kernel, by decide +kernel⟩, List.mem_of_getElem? (i := 970) (by decide +kernel), List.mem_of_getElem? (i := 1167) (by decide +kernel), List.mem_of_getElem? (i := 1168) (by decide +kernel)⟩
theorem lw_p44 : lw_okq (⟨"BelievedWordsModel", "keep", "()V"⟩, 28) := ⟨⟨by decide +kernel, by decide +kernel⟩, List.mem_of_getElem? (i := 970) (by decide +kernel), List.mem_of_getElem? (i := 1171) (by decide +kernel), List.mem_of_getElem? (i := 1172) (by decide +kernel)⟩
theorem lw_p45 : lw_okq (⟨"BelievedWordsModel", "after", "(IIII)I"⟩, 28) := ⟨⟨by decide +kernel, by decide +kernel⟩, List.mem_of_getElem? (i := 970) (by decide +kernel), List.mem_of_getElem? (i := 1175) (by decide +kernel), List.mem_of_getElem? (i := 1176) (by decide +kernel)⟩
theorem lw_p46 : lw_okq (⟨"BelievedWordsModel", "kindOf", "(I)I"⟩, 28) := ⟨⟨by decide +kernel, by decide +kernel⟩, List.mem_of_getElem? (i := 970) (by decide +kernel), List.mem_of_getElem? (i := 1179) (by decide +kernel), List.mem_of_getElem? (i := 1180) (by decide +kernel)⟩
theorem lw_p47 : lw_okq (⟨"BelievedWordsModel", "afterBy", "(IIII)I"⟩, 28) := ⟨⟨by decide +kernel, by decide +kernel⟩, List.mem_of_getElem? (i := 970) (by decide +kernel), List.mem_of_getElem? (i := 1183) (by decide +kernel), List.mem_of_getElem? (i := 1184) (by decide +kernel)⟩
def lw_privs_3 : List (MethodName × Nat) := [(⟨"BelievedWordsModel", "nextToken", "()V"⟩, 28), (⟨"BelievedWordsModel", "isLetter", "(I)Z"⟩, 28), (⟨"BelievedWordsModel", "must", "(Z)V"⟩, 28), (⟨"BelievedWordsModel", "bad", "(I)V"⟩, 28), (⟨"BelievedWordsModel", "number", "(II)I"⟩, 28), (⟨"BelievedWordsModel", "mustSign", "(I)V"⟩, 28), (⟨"BelievedWordsModel", "readRule", "()V"⟩, 28), (⟨"BelievedWordsModel", "isTold", "(IIJ)Z"⟩, 28), (⟨"BelievedWordsModel", "isSort", "()Z"⟩, 28), (⟨"BelievedWordsModel", "failed", "()Z"⟩, 28), (⟨"BelievedWordsModel", "isPerson", "(I)Z"⟩, 28), (⟨"BelievedWordsModel", "isSaying", "(J)Z"⟩, 28), (⟨"BelievedWordsModel", "keep", "()V"⟩, 28), (⟨"BelievedWordsModel", "after", "(IIII)I"⟩, 28), (⟨"BelievedWordsModel", "kindOf", "(I)I"⟩, 28), (⟨"BelievedWordsModel", "afterBy", "(IIII)I"⟩, 28)]
theorem lw_r3 : ∀ q ∈ lw_privs_3, lw_okq q := List.forall_mem_cons.mpr ⟨lw_p32, List.forall_mem_cons.mpr ⟨lw_p33, List.forall_mem_cons.mpr ⟨lw_p34, List.forall_mem_cons.mpr ⟨lw_p35, List.forall_mem_cons.mpr ⟨lw_p36, List.forall_mem_cons.mpr ⟨lw_p37, List.forall_mem_cons.mpr ⟨lw_p38, List.forall_mem_cons.mpr ⟨lw_p39, List.forall_mem_cons.mpr ⟨lw_p40, List.forall_mem_cons.mpr ⟨lw_p41, List.forall_mem_cons.mpr ⟨lw_p42, List.forall_mem_cons.mpr ⟨lw_p43, List.forall_mem_cons.mpr ⟨lw_p44, List.forall_mem_cons.mpr ⟨lw_p45, List.forall_mem_cons.mpr ⟨lw_p46, List.forall_mem_cons.mpr ⟨lw_p47, fun _ h => absurd h List.not_mem_nil⟩⟩⟩⟩⟩⟩⟩⟩⟩⟩⟩⟩⟩⟩⟩⟩
theorem lw_p48 : lw_okq (⟨"BelievedWordsModel", "closed", "(I)I"⟩, 28) := ⟨⟨by decide +kernel, by decide +kernel⟩, List.mem_of_getElem? (i := 970) (by decide +kernel), List.mem_of_getElem? (i := 1190) (by decide +kernel), List.mem_of_getElem? (i := 1191) (by decide +kernel)⟩
theorem lw_p49 : lw_okq (⟨"BelievedWordsModel", "canBe", "(I)Z"⟩, 28) := ⟨⟨by decide +kernel, by decide +kernel⟩, List.mem_of_getElem? (i := 970) (by decide +kernel), List.mem_of_getElem? (i := 1194) (by decide +kernel), List.mem_of_getElem? (i := 1195) (by decide +kernel)⟩
theorem lw_p50 : lw_okq (⟨"BelievedWordsModel", "isFact", "(I)Z"⟩, 28) := ⟨⟨by decide +kernel, by decide +kernel⟩, List.mem_of_getElem? (i := 970) (by decide +kernel), List.mem_of_getElem? (i := 1205) (by decide +kernel), List.mem_of_getElem? (i := 1206) (by decide +kernel)⟩
theorem lw_p51 : lw_okq (⟨"BelievedWordsModel", "isRule", "(I)Z"⟩, 28) := ⟨⟨by decide +kernel, by decide +kernel⟩, List.mem_of_getElem? (i := 970) (by decide +kernel), List.mem_of_getElem? (i := 1214) (by decide +kernel), List.mem_of_getElem? (i := 1215) (by decide +kernel)⟩
theorem lw_p52 : lw_okq (⟨"BelievedWordsModel", "isThere", "()Z"⟩, 28) := ⟨⟨by decide +kernel, by decide +kernel⟩, List.mem_of_getElem? (i := 970) (by decide +kernel), List.mem_of_getElem? (i := 1226) (by decide +kernel), List.mem_of_getElem? (i := 1227) (by decide +kernel)⟩
theorem lw_p53 : lw_okq (⟨"BelievedWordsModel", "areTold", "(II)Z"⟩, 28) := ⟨⟨by decide +kernel, by decide +kernel⟩, List.mem_of_getElem? (i := 970) (by decide +kernel), List.mem_of_getElem? (i := 1247) (by decide +kernel), List.mem_of_getElem? (i := 1248) (by decide +kernel)⟩
theorem lw_p54 : lw_okq (⟨"BelievedWordsModel", "areFacts", "(I)Z"⟩, 28) := ⟨⟨by decide +kernel, by decide +kernel⟩, List.mem_of_getElem? (i := 970) (by decide +kernel), List.mem_of_getElem? (i := 1251) (by decide +kernel), List.mem_of_getElem? (i := 1252) (by decide +kernel)⟩
theorem lw_p55 : lw_okq (⟨"BelievedWordsModel", "isSoNow", "(II)Z"⟩, 28) := ⟨⟨by decide +kernel, by decide +kernel⟩, List.mem_of_getElem? (i := 970) (by decide +kernel), List.mem_of_getElem? (i := 1255) (by decide +kernel), List.mem_of_getElem? (i := 1256) (by decide +kernel)⟩
theorem lw_p56 : lw_okq (⟨"BelievedWordsModel", "spread", "(Z)V"⟩, 28) := ⟨⟨by decide +kernel, by decide +kernel⟩, List.mem_of_getElem? (i := 970) (by decide +kernel), List.mem_of_getElem? (i := 1259) (by decide +kernel), List.mem_of_getElem? (i := 1260) (by decide +kernel)⟩
theorem lw_p57 : lw_okq (⟨"BelievedWordsModel", "clearStates", "()V"⟩, 28) := ⟨⟨by decide +kernel, by decide +kernel⟩, List.mem_of_getElem? (i := 970) (by decide +kernel), List.mem_of_getElem? (i := 1263) (by decide +kernel), List.mem_of_getElem? (i := 1264) (by decide +kernel)⟩
theorem lw_p58 : lw_okq (⟨"BelievedWordsModel", "goOn", "(IIIZ)V"⟩, 28) := ⟨⟨by decide +kernel, by decide +kernel⟩, List.mem_of_getElem? (i := 970) (by decide +kernel), List.mem_of_getElem? (i := 1267) (by decide +kernel), List.mem_of_getElem? (i := 1268) (by decide +kernel)⟩
theorem lw_p59 : lw_okq (⟨"BelievedWordsModel", "bestOf", "(III)I"⟩, 28) := ⟨⟨by decide +kernel, by decide +kernel⟩, List.mem_of_getElem? (i := 970) (by decide +kernel), List.mem_of_getElem? (i := 1271) (by decide +kernel), List.mem_of_getElem? (i := 1272) (by decide +kernel)⟩
theorem lw_p60 : lw_okq (⟨"BelievedWordsModel", "madeBy", "(I)I"⟩, 28) := ⟨⟨by decide +kernel, by decide +kernel⟩, List.mem_of_getElem? (i := 970) (by decide +kernel), List.mem_of_getElem? (i := 1291) (by decide +kernel), List.mem_of_getElem? (i := 1292) (by decide +kernel)⟩
theorem lw_p61 : lw_okq (⟨"BelievedWordsModel", "afterAll", "(III)I"⟩, 28) := ⟨⟨by decide +kernel, by decide +kernel⟩, List.mem_of_getElem? (i := 970) (by decide +kernel), List.mem_of_getElem? (i := 1317) (by decide +kernel), List.mem_of_getElem? (i := 1318) (by decide +kernel)⟩
theorem lw_p62 : lw_okq (⟨"BelievedWordsModel", "sizeOf", "(I)I"⟩, 28) := ⟨⟨by decide +kernel, by decide +kernel⟩, List.mem_of_getElem? (i := 970) (by decide +kernel), List.mem_of_getElem? (i := 1353) (by decide +kernel), List.mem_of_getElem? (i := 1354) (by decide +kernel)⟩
theorem lw_p63 : lw_okq (⟨"BelievedWordsModel", "quietSize", "(I)I"⟩, 28) := ⟨⟨by decide +kernel, by decide +kernel⟩, List.mem_of_getElem? (i := 970) (by decide +kernel), List.mem_of_getElem? (i := 1357) (by decide +kernel), List.mem_of_getElem? (i := 1358) (by decide +kernel)⟩
def lw_privs_4 : List (MethodName × Nat) := [(⟨"BelievedWordsModel", "closed", "(I)I"⟩, 28), (⟨"BelievedWordsModel", "canBe", "(I)Z"⟩, 28), (⟨"BelievedWordsModel", "isFact", "(I)Z"⟩, 28), (⟨"BelievedWordsModel", "isRule", "(I)Z"⟩, 28), (⟨"BelievedWordsModel", "isThere", "()Z"⟩, 28), (⟨"BelievedWordsModel", "areTold", "(II)Z"⟩, 28), (⟨"BelievedWordsModel", "areFacts", "(I)Z"⟩, 28), (⟨"BelievedWordsModel", "isSoNow", "(II)Z"⟩, 28), (⟨"BelievedWordsModel", "spread", "(Z)V"⟩, 28), (⟨"BelievedWordsModel", "clearStates", "()V"⟩, 28), (⟨"BelievedWordsModel", "goOn", "(IIIZ)V"⟩, 28), (⟨"BelievedWordsModel", "bestOf", "(III)I"⟩, 28), (⟨"BelievedWordsModel", "madeBy", "(I)I"⟩, 28), (⟨"BelievedWordsModel", "afterAll", "(III)I"⟩, 28), (⟨"BelievedWordsModel", "sizeOf", "(I)I"⟩, 28), (⟨"BelievedWordsModel", "quietSize", "(I)I"⟩, 28)]
theorem lw_r4 : ∀ q ∈ lw_privs_4, lw_okq q := List.forall_mem_cons.mpr ⟨lw_p48, List.forall_mem_cons.mpr ⟨lw_p49, List.forall_mem_cons.mpr ⟨lw_p50, List.forall_mem_cons.mpr ⟨lw_p51, List.forall_mem_cons.mpr ⟨lw_p52, List.forall_mem_cons.mpr ⟨lw_p53, List.forall_mem_cons.mpr ⟨lw_p54, List.forall_mem_cons.mpr ⟨lw_p55, List.forall_mem_cons.mpr ⟨lw_p56, List.forall_mem_cons.mpr ⟨lw_p57, List.forall_mem_cons.mpr ⟨lw_p58, List.forall_mem_cons.mpr ⟨lw_p59, List.forall_mem_cons.mpr ⟨lw_p60, List.forall_mem_cons.mpr ⟨lw_p61, List.forall_mem_cons.mpr ⟨lw_p62, List.forall_mem_cons.mpr ⟨lw_p63, fun _ h => absurd h List.not_mem_nil⟩⟩⟩⟩⟩⟩⟩⟩⟩⟩⟩⟩⟩⟩⟩⟩
theorem lw_p64 : lw_okq (⟨"BelievedWordsModel", "began", "(I)V"⟩, 28) := ⟨⟨by decide +kernel, by decide +kernel⟩, List.mem_of_getElem? (i := 970) (by decide +kernel), List.mem_of_getElem? (i := 1361) (by decide +kernel), List.mem_of_getElem? (i := 1362) (by decide +kernel)⟩
theorem lw_p65 : lw_okq (⟨"BelievedWordsModel", "plainSize", "(I)I"⟩, 28) := ⟨⟨by decide +kernel, by decide +kernel⟩, List.mem_of_getElem? (i := 970) (by decide +kernel), List.mem_of_getElem? (i := 1365) (by decide +kernel), List.mem_of_getElem? (i := 1366) (by decide +kernel)⟩
theorem lw_p66 : lw_okq (⟨"BelievedWordsModel", "markOf", "(I)I"⟩, 28) := ⟨⟨by decide +kernel, by decide +kernel⟩, List.mem_of_getElem? (i := 970) (by decide +kernel), List.mem_of_getElem? (i := 1369) (by decide +kernel), List.mem_of_getElem? (i := 1370) (by decide +kernel)⟩
def lw_privs_5 : List (MethodName × Nat) := [(⟨"BelievedWordsModel", "began", "(I)V"⟩, 28), (⟨"BelievedWordsModel", "plainSize", "(I)I"⟩, 28), (⟨"BelievedWordsModel", "markOf", "(I)I"⟩, 28)]
theorem lw_r5 : ∀ q ∈ lw_privs_5, lw_okq q := List.forall_mem_cons.mpr ⟨lw_p64, List.forall_mem_cons.mpr ⟨lw_p65, List.forall_mem_cons.mpr ⟨lw_p66, fun _ h => absurd h List.not_mem_nil⟩⟩⟩
def lw_privs : List (MethodName × Nat) := lw_privs_1 ++ (lw_privs_2 ++ (lw_privs_3 ++ (lw_privs_4 ++ (lw_privs_5))))
def lw_tbl : List Cond := k2_sels lw_privs ++ tables_1
theorem lw_privs_ok : ∀ q ∈ lw_privs, lw_okq q := by
  show ∀ q ∈ lw_privs_1 ++ (lw_privs_2 ++ (lw_privs_3 ++ (lw_privs_4 ++ (lw_privs_5)))), lw_okq q
  exact List.forall_mem_append.mpr ⟨lw_r1, List.forall_mem_append.mpr ⟨lw_r2, List.forall_mem_append.mpr ⟨lw_r3, List.forall_mem_append.mpr ⟨lw_r4, lw_r5⟩⟩⟩⟩
end
section
def RX0 : String := "BelievedWords$Acts"
def TX0 : u_T := fun k => match k with
  | 0 => ("BelievedWords$Acts", "before", "[LBelievedWords$Standing;", true)
  | 1 => ("BelievedWords$Acts", "next", "I", false)
  | _ => ("BelievedWords$Acts", "kept", "I", false)
def tyX0 : Nat → FieldType := fun k => match k with
  | 0 => .array (.object "BelievedWords$Standing")
  | 1 => .int
  | _ => .int
theorem nmX0 : ∀ a, a < 3 → ∀ b, b < 3 → a ≠ b → (TX0 a).2.1 ≠ (TX0 b).2.1 := by decide +kernel
theorem tyX0_ok : ∀ k, k < 3 → parseFieldDescriptor (TX0 k).2.2.1 = some (tyX0 k) := by decide +kernel
abbrev cX0_init : ByteArray := prog_2_method_1_code
def yX0_init : MethodName := ⟨RX0, "<init>", "()V"⟩
abbrev cX0_isEmpty : ByteArray := prog_2_method_2_code
def yX0_isEmpty : MethodName := ⟨RX0, "isEmpty", "()Z"⟩
abbrev cX0_forget : ByteArray := prog_2_method_3_code
def yX0_forget : MethodName := ⟨RX0, "forget", "()V"⟩
abbrev cX0_keep : ByteArray := prog_2_method_4_code
def yX0_keep : MethodName := ⟨RX0, "keep", "(LBelievedWords$Standing;)V"⟩
abbrev cX0_takeBack : ByteArray := prog_2_method_5_code
def yX0_takeBack : MethodName := ⟨RX0, "takeBack", "(LBelievedWords$Court;)I"⟩
def RX1 : String := "BelievedWords$Asks"
def TX1 : u_T := fun k => match k with
  | 0 => ("BelievedWords$Asks", "trace", "[I", true)
  | _ => ("BelievedWords$Asks", "left", "I", false)
def tyX1 : Nat → FieldType := fun k => match k with
  | 0 => .array .int
  | _ => .int
theorem nmX1 : ∀ a, a < 2 → ∀ b, b < 2 → a ≠ b → (TX1 a).2.1 ≠ (TX1 b).2.1 := by decide +kernel
theorem tyX1_ok : ∀ k, k < 2 → parseFieldDescriptor (TX1 k).2.2.1 = some (tyX1 k) := by decide +kernel
abbrev cX1_init : ByteArray := prog_3_method_1_code
def yX1_init : MethodName := ⟨RX1, "<init>", "()V"⟩
abbrev cX1_isOfKind : ByteArray := prog_3_method_2_code
def yX1_isOfKind : MethodName := ⟨RX1, "isOfKind", "(II)Z"⟩
abbrev cX1_traced : ByteArray := prog_3_method_3_code
def yX1_traced : MethodName := ⟨RX1, "traced", "(I)I"⟩
abbrev cX1_answer : ByteArray := prog_3_method_4_code
def yX1_answer : MethodName := ⟨RX1, "answer", "(LBelievedWords$Court;II)I"⟩
abbrev cX1_askedOf : ByteArray := prog_3_method_5_code
def yX1_askedOf : MethodName := ⟨RX1, "askedOf", "(LBelievedWords$Court;III)I"⟩
abbrev cX1_body : ByteArray := prog_3_method_6_code
def yX1_body : MethodName := ⟨RX1, "body", "(LBelievedWords$Court;III)I"⟩
abbrev cX1_leave : ByteArray := prog_3_method_7_code
def yX1_leave : MethodName := ⟨RX1, "leave", "(I)V"⟩
def RX2 : String := "BelievedWords$Court"
def TX2 : u_T := fun k => match k with
  | 0 => ("BelievedWords$Court", "law", "LBelievedWords$Law;", true)
  | 1 => ("BelievedWords$Court", "now", "LBelievedWords$Standing;", true)
  | 2 => ("BelievedWords$Court", "made", "[I", true)
  | 3 => ("BelievedWords$Court", "barred", "[I", true)
  | _ => ("BelievedWords$Court", "settled", "[I", true)
def tyX2 : Nat → FieldType := fun k => match k with
  | 0 => .object "BelievedWords$Law"
  | 1 => .object "BelievedWords$Standing"
  | 2 => .array .int
  | 3 => .array .int
  | _ => .array .int
theorem nmX2 : ∀ a, a < 5 → ∀ b, b < 5 → a ≠ b → (TX2 a).2.1 ≠ (TX2 b).2.1 := by decide +kernel
theorem tyX2_ok : ∀ k, k < 5 → parseFieldDescriptor (TX2 k).2.2.1 = some (tyX2 k) := by decide +kernel
abbrev cX2_init : ByteArray := prog_4_method_1_code
def yX2_init : MethodName := ⟨RX2, "<init>", "()V"⟩
abbrev cX2_isOpen : ByteArray := prog_4_method_2_code
def yX2_isOpen : MethodName := ⟨RX2, "isOpen", "()Z"⟩
abbrev cX2_open : ByteArray := prog_4_method_3_code
def yX2_open : MethodName := ⟨RX2, "open", "(LBelievedWords$Law;)V"⟩
abbrev cX2_resume : ByteArray := prog_4_method_4_code
def yX2_resume : MethodName := ⟨RX2, "resume", "(LBelievedWords$Law;LBelievedWords$Standing;)V"⟩
abbrev cX2_goBack : ByteArray := prog_4_method_5_code
def yX2_goBack : MethodName := ⟨RX2, "goBack", "(LBelievedWords$Standing;)V"⟩
abbrev cX2_gatherRules : ByteArray := prog_4_method_6_code
def yX2_gatherRules : MethodName := ⟨RX2, "gatherRules", "()V"⟩
abbrev cX2_turnRule : ByteArray := prog_4_method_7_code
def yX2_turnRule : MethodName := ⟨RX2, "turnRule", "(I)I"⟩
abbrev cX2_utter : ByteArray := prog_4_method_8_code
def yX2_utter : MethodName := ⟨RX2, "utter", "(II)I"⟩
abbrev cX2_price : ByteArray := prog_4_method_9_code
def yX2_price : MethodName := ⟨RX2, "price", "(II)I"⟩
abbrev cX2_outcome : ByteArray := prog_4_method_10_code
def yX2_outcome : MethodName := ⟨RX2, "outcome", "(IIII)I"⟩
abbrev cX2_soBehind : ByteArray := prog_4_method_11_code
def yX2_soBehind : MethodName := ⟨RX2, "soBehind", "(IIII)I"⟩
abbrev cX2_believed : ByteArray := prog_4_method_12_code
def yX2_believed : MethodName := ⟨RX2, "believed", "(IIII)I"⟩
abbrev cX2_settle : ByteArray := prog_4_method_13_code
def yX2_settle : MethodName := ⟨RX2, "settle", "(I)I"⟩
abbrev cX2_grow : ByteArray := prog_4_method_14_code
def yX2_grow : MethodName := ⟨RX2, "grow", "(I)I"⟩
abbrev cX2_isBarred : ByteArray := prog_4_method_15_code
def yX2_isBarred : MethodName := ⟨RX2, "isBarred", "(I)Z"⟩
abbrev cX2_makesAny : ByteArray := prog_4_method_16_code
def yX2_makesAny : MethodName := ⟨RX2, "makesAny", "(II)Z"⟩
abbrev cX2_factOf : ByteArray := prog_4_method_17_code
def yX2_factOf : MethodName := ⟨RX2, "factOf", "(I)I"⟩
def RX3 : String := "BelievedWords$Foresight"
def TX3 : u_T := fun k => match k with
  | 0 => ("BelievedWords$Foresight", "ways", "[I", false)
  | 1 => ("BelievedWords$Foresight", "firsts", "[I", false)
  | 2 => ("BelievedWords$Foresight", "nextWays", "[I", false)
  | _ => ("BelievedWords$Foresight", "nextFirsts", "[I", false)
def tyX3 : Nat → FieldType := fun k => match k with
  | 0 => .array .int
  | 1 => .array .int
  | 2 => .array .int
  | _ => .array .int
theorem nmX3 : ∀ a, a < 4 → ∀ b, b < 4 → a ≠ b → (TX3 a).2.1 ≠ (TX3 b).2.1 := by decide +kernel
theorem tyX3_ok : ∀ k, k < 4 → parseFieldDescriptor (TX3 k).2.2.1 = some (tyX3 k) := by decide +kernel
abbrev cX3_init : ByteArray := prog_5_method_1_code
def yX3_init : MethodName := ⟨RX3, "<init>", "()V"⟩
abbrev cX3_idleSayings : ByteArray := prog_5_method_2_code
def yX3_idleSayings : MethodName := ⟨RX3, "idleSayings", "(LBelievedWords$Court;I)I"⟩
abbrev cX3_leftOut : ByteArray := prog_5_method_3_code
def yX3_leftOut : MethodName := ⟨RX3, "leftOut", "(LBelievedWords$Court;I)I"⟩
abbrev cX3_inOrder : ByteArray := prog_5_method_4_code
def yX3_inOrder : MethodName := ⟨RX3, "inOrder", "(LBelievedWords$Court;II)I"⟩
abbrev cX3_firstFree : ByteArray := prog_5_method_5_code
def yX3_firstFree : MethodName := ⟨RX3, "firstFree", "(LBelievedWords$Court;I)I"⟩
abbrev cX3_tellRows : ByteArray := prog_5_method_6_code
def yX3_tellRows : MethodName := ⟨RX3, "tellRows", "(LBelievedWords$Court;I[I)V"⟩
abbrev cX3_tellSaying : ByteArray := prog_5_method_7_code
def yX3_tellSaying : MethodName := ⟨RX3, "tellSaying", "(LBelievedWords$Court;IIIIZ)V"⟩
abbrev cX3_turnOver : ByteArray := prog_5_method_8_code
def yX3_turnOver : MethodName := ⟨RX3, "turnOver", "()V"⟩
abbrev cX3_waysInAll : ByteArray := prog_5_method_9_code
def yX3_waysInAll : MethodName := ⟨RX3, "waysInAll", "()I"⟩
abbrev cX3_firstOfAll : ByteArray := prog_5_method_10_code
def yX3_firstOfAll : MethodName := ⟨RX3, "firstOfAll", "()I"⟩
abbrev cX3_fittingKinds : ByteArray := prog_5_method_11_code
def yX3_fittingKinds : MethodName := ⟨RX3, "fittingKinds", "(LBelievedWords$Court;[I)I"⟩
abbrev cX3_fits : ByteArray := prog_5_method_12_code
def yX3_fits : MethodName := ⟨RX3, "fits", "(LBelievedWords$Court;I[I)Z"⟩
abbrev cX3_likelihood : ByteArray := prog_5_method_13_code
def yX3_likelihood : MethodName := ⟨RX3, "likelihood", "(LBelievedWords$Court;II[II)J"⟩
abbrev cX3_cases : ByteArray := prog_5_method_14_code
def yX3_cases : MethodName := ⟨RX3, "cases", "(III)J"⟩
abbrev cX3_soByPlan : ByteArray := prog_5_method_15_code
def yX3_soByPlan : MethodName := ⟨RX3, "soByPlan", "(LBelievedWords$Court;[II)I"⟩
abbrev cX3_commonDivisor : ByteArray := prog_5_method_16_code
def yX3_commonDivisor : MethodName := ⟨RX3, "commonDivisor", "(JJ)J"⟩
abbrev cX3_talk : ByteArray := prog_5_method_17_code
def yX3_talk : MethodName := ⟨RX3, "talk", "(LBelievedWords$Court;III)I"⟩
def RX4 : String := "BelievedWords$Image"
def TX4 : u_T := fun k => match k with
  | 0 => ("BelievedWords$Image", "law", "LBelievedWords$Law;", true)
  | 1 => ("BelievedWords$Image", "standing", "LBelievedWords$Standing;", true)
  | _ => ("BelievedWords$Image", "kept", "Z", false)
def tyX4 : Nat → FieldType := fun k => match k with
  | 0 => .object "BelievedWords$Law"
  | 1 => .object "BelievedWords$Standing"
  | _ => .boolean
theorem nmX4 : ∀ a, a < 3 → ∀ b, b < 3 → a ≠ b → (TX4 a).2.1 ≠ (TX4 b).2.1 := by decide +kernel
theorem tyX4_ok : ∀ k, k < 3 → parseFieldDescriptor (TX4 k).2.2.1 = some (tyX4 k) := by decide +kernel
abbrev cX4_init : ByteArray := prog_6_method_1_code
def yX4_init : MethodName := ⟨RX4, "<init>", "()V"⟩
abbrev cX4_take : ByteArray := prog_6_method_2_code
def yX4_take : MethodName := ⟨RX4, "take", "(LBelievedWords$Court;)V"⟩
def RX5 : String := "BelievedWords$Law"
def TX5 : u_T := fun k => match k with
  | 0 => ("BelievedWords$Law", "sorts", "[I", true)
  | 1 => ("BelievedWords$Law", "ones", "[I", true)
  | 2 => ("BelievedWords$Law", "others", "[I", true)
  | 3 => ("BelievedWords$Law", "kinds", "[I", true)
  | 4 => ("BelievedWords$Law", "facts", "I", false)
  | 5 => ("BelievedWords$Law", "atFirst", "I", false)
  | 6 => ("BelievedWords$Law", "price", "I", false)
  | 7 => ("BelievedWords$Law", "rules", "I", false)
  | _ => ("BelievedWords$Law", "people", "I", false)
def tyX5 : Nat → FieldType := fun k => match k with
  | 0 => .array .int
  | 1 => .array .int
  | 2 => .array .int
  | 3 => .array .int
  | 4 => .int
  | 5 => .int
  | 6 => .int
  | 7 => .int
  | _ => .int
theorem nmX5 : ∀ a, a < 9 → ∀ b, b < 9 → a ≠ b → (TX5 a).2.1 ≠ (TX5 b).2.1 := by decide +kernel
theorem tyX5_ok : ∀ k, k < 9 → parseFieldDescriptor (TX5 k).2.2.1 = some (tyX5 k) := by decide +kernel
abbrev cX5_init : ByteArray := prog_7_method_1_code
def yX5_init : MethodName := ⟨RX5, "<init>", "()V"⟩
abbrev cX5_clear : ByteArray := prog_7_method_2_code
def yX5_clear : MethodName := ⟨RX5, "clear", "()V"⟩
abbrev cX5_become : ByteArray := prog_7_method_3_code
def yX5_become : MethodName := ⟨RX5, "become", "(LBelievedWords$Law;)V"⟩
abbrev cX5_hasRule : ByteArray := prog_7_method_4_code
def yX5_hasRule : MethodName := ⟨RX5, "hasRule", "(III)Z"⟩
abbrev cX5_addRule : ByteArray := prog_7_method_5_code
def yX5_addRule : MethodName := ⟨RX5, "addRule", "(III)V"⟩
abbrev cX5_addPerson : ByteArray := prog_7_method_6_code
def yX5_addPerson : MethodName := ⟨RX5, "addPerson", "(I)V"⟩
abbrev cX5_hasKind : ByteArray := prog_7_method_7_code
def yX5_hasKind : MethodName := ⟨RX5, "hasKind", "(I)Z"⟩
abbrev cX5_isRule : ByteArray := prog_7_method_8_code
def yX5_isRule : MethodName := ⟨RX5, "isRule", "(I)Z"⟩
abbrev cX5_isPerson : ByteArray := prog_7_method_9_code
def yX5_isPerson : MethodName := ⟨RX5, "isPerson", "(I)Z"⟩
abbrev cX5_isSaying : ByteArray := prog_7_method_10_code
def yX5_isSaying : MethodName := ⟨RX5, "isSaying", "(I)Z"⟩
abbrev cX5_areFacts : ByteArray := prog_7_method_11_code
def yX5_areFacts : MethodName := ⟨RX5, "areFacts", "(I)Z"⟩
def RX6 : String := "BelievedWords$Rows"
def TX6 : u_T := fun k => match k with
  | 0 => ("BelievedWords$Rows", "items", "[[I", true)
  | 1 => ("BelievedWords$Rows", "lanes", "[I", true)
  | _ => ("BelievedWords$Rows", "lengths", "[I", true)
def tyX6 : Nat → FieldType := fun k => match k with
  | 0 => .array (.array .int)
  | 1 => .array .int
  | _ => .array .int
theorem nmX6 : ∀ a, a < 3 → ∀ b, b < 3 → a ≠ b → (TX6 a).2.1 ≠ (TX6 b).2.1 := by decide +kernel
theorem tyX6_ok : ∀ k, k < 3 → parseFieldDescriptor (TX6 k).2.2.1 = some (tyX6 k) := by decide +kernel
abbrev cX6_init : ByteArray := prog_8_method_1_code
def yX6_init : MethodName := ⟨RX6, "<init>", "()V"⟩
abbrev cX6_isMissing : ByteArray := prog_8_method_2_code
def yX6_isMissing : MethodName := ⟨RX6, "isMissing", "(I)Z"⟩
abbrev cX6_laneOf : ByteArray := prog_8_method_3_code
def yX6_laneOf : MethodName := ⟨RX6, "laneOf", "(I)I"⟩
abbrev cX6_lack : ByteArray := prog_8_method_4_code
def yX6_lack : MethodName := ⟨RX6, "lack", "(III)I"⟩
abbrev cX6_lay : ByteArray := prog_8_method_5_code
def yX6_lay : MethodName := ⟨RX6, "lay", "(III)V"⟩
abbrev cX6_put : ByteArray := prog_8_method_6_code
def yX6_put : MethodName := ⟨RX6, "put", "(III)I"⟩
abbrev cX6_carry : ByteArray := prog_8_method_7_code
def yX6_carry : MethodName := ⟨RX6, "carry", "(IIIII)V"⟩
abbrev cX6_remove : ByteArray := prog_8_method_8_code
def yX6_remove : MethodName := ⟨RX6, "remove", "(I)I"⟩
abbrev cX6_itemsFrom : ByteArray := prog_8_method_9_code
def yX6_itemsFrom : MethodName := ⟨RX6, "itemsFrom", "(III)[I"⟩
abbrev cX6_present : ByteArray := prog_8_method_10_code
def yX6_present : MethodName := ⟨RX6, "present", "()I"⟩
def RX7 : String := "BelievedWords$Search"
def TX7 : u_T := fun k => match k with
  | 0 => ("BelievedWords$Search", "movers", "[I", true)
  | 1 => ("BelievedWords$Search", "walks", "[I", false)
  | 2 => ("BelievedWords$Search", "costs", "[I", false)
  | 3 => ("BelievedWords$Search", "firsts", "[I", false)
  | 4 => ("BelievedWords$Search", "moving", "I", false)
  | 5 => ("BelievedWords$Search", "facts", "I", false)
  | 6 => ("BelievedWords$Search", "nodes", "I", false)
  | 7 => ("BelievedWords$Search", "minding", "Z", false)
  | 8 => ("BelievedWords$Search", "byCost", "Z", false)
  | 9 => ("BelievedWords$Search", "walk", "I", false)
  | 10 => ("BelievedWords$Search", "farthest", "I", false)
  | 11 => ("BelievedWords$Search", "wantedSo", "I", false)
  | 12 => ("BelievedWords$Search", "wantedNot", "I", false)
  | _ => ("BelievedWords$Search", "first", "I", false)
def tyX7 : Nat → FieldType := fun k => match k with
  | 0 => .array .int
  | 1 => .array .int
  | 2 => .array .int
  | 3 => .array .int
  | 4 => .int
  | 5 => .int
  | 6 => .int
  | 7 => .boolean
  | 8 => .boolean
  | 9 => .int
  | 10 => .int
  | 11 => .int
  | 12 => .int
  | _ => .int
theorem nmX7 : ∀ a, a < 14 → ∀ b, b < 14 → a ≠ b → (TX7 a).2.1 ≠ (TX7 b).2.1 := by decide +kernel
theorem tyX7_ok : ∀ k, k < 14 → parseFieldDescriptor (TX7 k).2.2.1 = some (tyX7 k) := by decide +kernel
abbrev cX7_init : ByteArray := prog_9_method_1_code
def yX7_init : MethodName := ⟨RX7, "<init>", "()V"⟩
abbrev cX7_fewest : ByteArray := prog_9_method_2_code
def yX7_fewest : MethodName := ⟨RX7, "fewest", "(LBelievedWords$Court;III)I"⟩
abbrev cX7_leastCost : ByteArray := prog_9_method_3_code
def yX7_leastCost : MethodName := ⟨RX7, "leastCost", "(LBelievedWords$Court;III)I"⟩
abbrev cX7_reachable : ByteArray := prog_9_method_4_code
def yX7_reachable : MethodName := ⟨RX7, "reachable", "(LBelievedWords$Court;I)I"⟩
abbrev cX7_begin : ByteArray := prog_9_method_5_code
def yX7_begin : MethodName := ⟨RX7, "begin", "(LBelievedWords$Law;IIZ)V"⟩
abbrev cX7_gatherMovers : ByteArray := prog_9_method_6_code
def yX7_gatherMovers : MethodName := ⟨RX7, "gatherMovers", "(LBelievedWords$Law;)V"⟩
abbrev cX7_explore : ByteArray := prog_9_method_7_code
def yX7_explore : MethodName := ⟨RX7, "explore", "(LBelievedWords$Court;)I"⟩
abbrev cX7_isMet : ByteArray := prog_9_method_8_code
def yX7_isMet : MethodName := ⟨RX7, "isMet", "(I)Z"⟩
abbrev cX7_soOf : ByteArray := prog_9_method_9_code
def yX7_soOf : MethodName := ⟨RX7, "soOf", "(I)I"⟩
abbrev cX7_sayFirst : ByteArray := prog_9_method_10_code
def yX7_sayFirst : MethodName := ⟨RX7, "sayFirst", "(LBelievedWords$Court;)V"⟩
abbrev cX7_lead : ByteArray := prog_9_method_11_code
def yX7_lead : MethodName := ⟨RX7, "lead", "(LBelievedWords$Court;I)V"⟩
abbrev cX7_stepOf : ByteArray := prog_9_method_12_code
def yX7_stepOf : MethodName := ⟨RX7, "stepOf", "(II)I"⟩
abbrev cX7_enter : ByteArray := prog_9_method_13_code
def yX7_enter : MethodName := ⟨RX7, "enter", "(IIII)V"⟩
def RX8 : String := "BelievedWords$Standing"
def TX8 : u_T := fun k => match k with
  | 0 => ("BelievedWords$Standing", "cells", "[I", true)
  | 1 => ("BelievedWords$Standing", "so", "I", false)
  | 2 => ("BelievedWords$Standing", "saidOf", "I", false)
  | 3 => ("BelievedWords$Standing", "sayings", "I", false)
  | 4 => ("BelievedWords$Standing", "cost", "I", false)
  | _ => ("BelievedWords$Standing", "struck", "I", false)
def tyX8 : Nat → FieldType := fun k => match k with
  | 0 => .array .int
  | 1 => .int
  | 2 => .int
  | 3 => .int
  | 4 => .int
  | _ => .int
theorem nmX8 : ∀ a, a < 6 → ∀ b, b < 6 → a ≠ b → (TX8 a).2.1 ≠ (TX8 b).2.1 := by decide +kernel
theorem tyX8_ok : ∀ k, k < 6 → parseFieldDescriptor (TX8 k).2.2.1 = some (tyX8 k) := by decide +kernel
abbrev cX8_init : ByteArray := prog_10_method_1_code
def yX8_init : MethodName := ⟨RX8, "<init>", "()V"⟩
abbrev cX8_begin : ByteArray := prog_10_method_2_code
def yX8_begin : MethodName := ⟨RX8, "begin", "(I)V"⟩
abbrev cX8_become : ByteArray := prog_10_method_3_code
def yX8_become : MethodName := ⟨RX8, "become", "(LBelievedWords$Standing;)V"⟩
def RX9 : String := "BelievedWords$Tape"
def TX9 : u_T := fun k => match k with
  | 0 => ("BelievedWords$Tape", "told", "LBelievedWords$Law;", true)
  | 1 => ("BelievedWords$Tape", "bytes", "[I", true)
  | 2 => ("BelievedWords$Tape", "length", "I", false)
  | 3 => ("BelievedWords$Tape", "at", "I", false)
  | 4 => ("BelievedWords$Tape", "behind", "I", false)
  | 5 => ("BelievedWords$Tape", "letter", "I", false)
  | 6 => ("BelievedWords$Tape", "number", "I", false)
  | 7 => ("BelievedWords$Tape", "fault", "I", false)
  | _ => ("BelievedWords$Tape", "place", "I", false)
def tyX9 : Nat → FieldType := fun k => match k with
  | 0 => .object "BelievedWords$Law"
  | 1 => .array .int
  | 2 => .int
  | 3 => .int
  | 4 => .int
  | 5 => .int
  | 6 => .int
  | 7 => .int
  | _ => .int
theorem nmX9 : ∀ a, a < 9 → ∀ b, b < 9 → a ≠ b → (TX9 a).2.1 ≠ (TX9 b).2.1 := by decide +kernel
theorem tyX9_ok : ∀ k, k < 9 → parseFieldDescriptor (TX9 k).2.2.1 = some (tyX9 k) := by decide +kernel
abbrev cX9_init : ByteArray := prog_11_method_1_code
def yX9_init : MethodName := ⟨RX9, "<init>", "()V"⟩
abbrev cX9_add : ByteArray := prog_11_method_2_code
def yX9_add : MethodName := ⟨RX9, "add", "(I)I"⟩
abbrev cX9_wipe : ByteArray := prog_11_method_3_code
def yX9_wipe : MethodName := ⟨RX9, "wipe", "()V"⟩
abbrev cX9_faultNumber : ByteArray := prog_11_method_4_code
def yX9_faultNumber : MethodName := ⟨RX9, "faultNumber", "()I"⟩
abbrev cX9_faultPlace : ByteArray := prog_11_method_5_code
def yX9_faultPlace : MethodName := ⟨RX9, "faultPlace", "()I"⟩
abbrev cX9_read : ByteArray := prog_11_method_6_code
def yX9_read : MethodName := ⟨RX9, "read", "()Z"⟩
abbrev cX9_readLaw : ByteArray := prog_11_method_7_code
def yX9_readLaw : MethodName := ⟨RX9, "readLaw", "()Z"⟩
abbrev cX9_readRules : ByteArray := prog_11_method_8_code
def yX9_readRules : MethodName := ⟨RX9, "readRules", "()Z"⟩
abbrev cX9_readRule : ByteArray := prog_11_method_9_code
def yX9_readRule : MethodName := ⟨RX9, "readRule", "(I)Z"⟩
abbrev cX9_readPeople : ByteArray := prog_11_method_10_code
def yX9_readPeople : MethodName := ⟨RX9, "readPeople", "()Z"⟩
abbrev cX9_kindBy : ByteArray := prog_11_method_11_code
def yX9_kindBy : MethodName := ⟨RX9, "kindBy", "(I)I"⟩
abbrev cX9_takes : ByteArray := prog_11_method_12_code
def yX9_takes : MethodName := ⟨RX9, "takes", "(I)Z"⟩
abbrev cX9_takesNumber : ByteArray := prog_11_method_13_code
def yX9_takesNumber : MethodName := ⟨RX9, "takesNumber", "(II)Z"⟩
abbrev cX9_fails : ByteArray := prog_11_method_14_code
def yX9_fails : MethodName := ⟨RX9, "fails", "(I)Z"⟩
abbrev cX9_step : ByteArray := prog_11_method_15_code
def yX9_step : MethodName := ⟨RX9, "step", "()V"⟩
abbrev cX9_stepOverFigures : ByteArray := prog_11_method_16_code
def yX9_stepOverFigures : MethodName := ⟨RX9, "stepOverFigures", "()V"⟩
def RX10 : String := "BelievedWords"
def TX10 : u_T := fun k => match k with
  | 0 => ("BelievedWords", "rows", "LBelievedWords$Rows;", true)
  | 1 => ("BelievedWords", "tape", "LBelievedWords$Tape;", true)
  | 2 => ("BelievedWords", "bench", "LBelievedWords$Court;", true)
  | 3 => ("BelievedWords", "acts", "LBelievedWords$Acts;", true)
  | 4 => ("BelievedWords", "images", "[LBelievedWords$Image;", true)
  | 5 => ("BelievedWords", "search", "LBelievedWords$Search;", true)
  | 6 => ("BelievedWords", "foresight", "LBelievedWords$Foresight;", true)
  | 7 => ("BelievedWords", "asks", "LBelievedWords$Asks;", true)
  | _ => ("BelievedWords", "finding", "I", false)
def tyX10 : Nat → FieldType := fun k => match k with
  | 0 => .object "BelievedWords$Rows"
  | 1 => .object "BelievedWords$Tape"
  | 2 => .object "BelievedWords$Court"
  | 3 => .object "BelievedWords$Acts"
  | 4 => .array (.object "BelievedWords$Image")
  | 5 => .object "BelievedWords$Search"
  | 6 => .object "BelievedWords$Foresight"
  | 7 => .object "BelievedWords$Asks"
  | _ => .int
theorem nmX10 : ∀ a, a < 9 → ∀ b, b < 9 → a ≠ b → (TX10 a).2.1 ≠ (TX10 b).2.1 := by decide +kernel
theorem tyX10_ok : ∀ k, k < 9 → parseFieldDescriptor (TX10 k).2.2.1 = some (tyX10 k) := by decide +kernel
abbrev cX10_init : ByteArray := prog_1_method_1_code
def yX10_init : MethodName := ⟨RX10, "<init>", "()V"⟩
abbrev cX10_row : ByteArray := prog_1_method_2_code
def yX10_row : MethodName := ⟨RX10, "row", "(III)I"⟩
abbrev cX10_set : ByteArray := prog_1_method_3_code
def yX10_set : MethodName := ⟨RX10, "set", "(III)I"⟩
abbrev cX10_copy : ByteArray := prog_1_method_4_code
def yX10_copy : MethodName := ⟨RX10, "copy", "(IIIII)I"⟩
abbrev cX10_drop : ByteArray := prog_1_method_5_code
def yX10_drop : MethodName := ⟨RX10, "drop", "(I)I"⟩
abbrev cX10_feed : ByteArray := prog_1_method_6_code
def yX10_feed : MethodName := ⟨RX10, "feed", "(I)I"⟩
abbrev cX10_court : ByteArray := prog_1_method_7_code
def yX10_court : MethodName := ⟨RX10, "court", "()I"⟩
abbrev cX10_fault : ByteArray := prog_1_method_8_code
def yX10_fault : MethodName := ⟨RX10, "fault", "()I"⟩
abbrev cX10_undo : ByteArray := prog_1_method_9_code
def yX10_undo : MethodName := ⟨RX10, "undo", "()I"⟩
abbrev cX10_say : ByteArray := prog_1_method_10_code
def yX10_say : MethodName := ⟨RX10, "say", "(II)I"⟩
abbrev cX10_pardon : ByteArray := prog_1_method_11_code
def yX10_pardon : MethodName := ⟨RX10, "pardon", "(I)I"⟩
abbrev cX10_strike : ByteArray := prog_1_method_12_code
def yX10_strike : MethodName := ⟨RX10, "strike", "(II)I"⟩
abbrev cX10_stand : ByteArray := prog_1_method_13_code
def yX10_stand : MethodName := ⟨RX10, "stand", "(I)I"⟩
abbrev cX10_rule : ByteArray := prog_1_method_14_code
def yX10_rule : MethodName := ⟨RX10, "rule", "(II)I"⟩
abbrev cX10_cell : ByteArray := prog_1_method_15_code
def yX10_cell : MethodName := ⟨RX10, "cell", "(I)I"⟩
abbrev cX10_makes : ByteArray := prog_1_method_16_code
def yX10_makes : MethodName := ⟨RX10, "makes", "(II)I"⟩
abbrev cX10_shortest : ByteArray := prog_1_method_17_code
def yX10_shortest : MethodName := ⟨RX10, "shortest", "(III)I"⟩
abbrev cX10_cheapest : ByteArray := prog_1_method_18_code
def yX10_cheapest : MethodName := ⟨RX10, "cheapest", "(III)I"⟩
abbrev cX10_idle : ByteArray := prog_1_method_19_code
def yX10_idle : MethodName := ⟨RX10, "idle", "(I)I"⟩
abbrev cX10_giveUp : ByteArray := prog_1_method_20_code
def yX10_giveUp : MethodName := ⟨RX10, "giveUp", "(II)I"⟩
abbrev cX10_order : ByteArray := prog_1_method_21_code
def yX10_order : MethodName := ⟨RX10, "order", "(II)I"⟩
abbrev cX10_ever : ByteArray := prog_1_method_22_code
def yX10_ever : MethodName := ⟨RX10, "ever", "(I)I"⟩
abbrev cX10_said : ByteArray := prog_1_method_23_code
def yX10_said : MethodName := ⟨RX10, "said", "(IIIII)I"⟩
abbrev cX10_who : ByteArray := prog_1_method_24_code
def yX10_who : MethodName := ⟨RX10, "who", "(IIII)I"⟩
abbrev cX10_temper : ByteArray := prog_1_method_25_code
def yX10_temper : MethodName := ⟨RX10, "temper", "(IIIIII)J"⟩
abbrev cX10_drawn : ByteArray := prog_1_method_26_code
def yX10_drawn : MethodName := ⟨RX10, "drawn", "(III)I"⟩
abbrev cX10_image : ByteArray := prog_1_method_27_code
def yX10_image : MethodName := ⟨RX10, "image", "(I)I"⟩
abbrev cX10_restore : ByteArray := prog_1_method_28_code
def yX10_restore : MethodName := ⟨RX10, "restore", "(I)I"⟩
abbrev cX10_kind : ByteArray := prog_1_method_29_code
def yX10_kind : MethodName := ⟨RX10, "kind", "(I)I"⟩
abbrev cX10_as : ByteArray := prog_1_method_30_code
def yX10_as : MethodName := ⟨RX10, "as", "(II)I"⟩
abbrev cX10_ask : ByteArray := prog_1_method_31_code
def yX10_ask : MethodName := ⟨RX10, "ask", "(II)I"⟩
abbrev cX10_trace : ByteArray := prog_1_method_32_code
def yX10_trace : MethodName := ⟨RX10, "trace", "(I)I"⟩
abbrev cX10_count : ByteArray := prog_1_method_33_code
def yX10_count : MethodName := ⟨RX10, "count", "(I)I"⟩
abbrev cX10_status : ByteArray := prog_1_method_34_code
def yX10_status : MethodName := ⟨RX10, "status", "()I"⟩
abbrev cX10_found : ByteArray := prog_1_method_35_code
def yX10_found : MethodName := ⟨RX10, "found", "(I)I"⟩
abbrev cX10_fine : ByteArray := prog_1_method_36_code
def yX10_fine : MethodName := ⟨RX10, "fine", "(I)I"⟩
abbrev cX10_refusalOfGoal : ByteArray := prog_1_method_37_code
def yX10_refusalOfGoal : MethodName := ⟨RX10, "refusalOfGoal", "(III)I"⟩
abbrev cX10_isRow : ByteArray := prog_1_method_38_code
def yX10_isRow : MethodName := ⟨RX10, "isRow", "(I)Z"⟩
abbrev cX10_isImage : ByteArray := prog_1_method_39_code
def yX10_isImage : MethodName := ⟨RX10, "isImage", "(I)Z"⟩
abbrev cX10_isNoBit : ByteArray := prog_1_method_40_code
def yX10_isNoBit : MethodName := ⟨RX10, "isNoBit", "(I)Z"⟩
def RX11 : String := "BelievedWordsModel"
def TX11 : u_T := fun k => match k with
  | 0 => ("BelievedWordsModel", "thrown", "I", false)
  | 1 => ("BelievedWordsModel", "status", "I", false)
  | 2 => ("BelievedWordsModel", "lane", "[I", true)
  | 3 => ("BelievedWordsModel", "many", "[I", true)
  | 4 => ("BelievedWordsModel", "item", "[I", true)
  | 5 => ("BelievedWordsModel", "court", "[I", true)
  | 6 => ("BelievedWordsModel", "fresh", "[I", true)
  | 7 => ("BelievedWordsModel", "was", "[I", true)
  | 8 => ("BelievedWordsModel", "acts", "I", false)
  | 9 => ("BelievedWordsModel", "tape", "[I", true)
  | 10 => ("BelievedWordsModel", "taped", "I", false)
  | 11 => ("BelievedWordsModel", "cursor", "I", false)
  | 12 => ("BelievedWordsModel", "start", "I", false)
  | 13 => ("BelievedWordsModel", "token", "I", false)
  | 14 => ("BelievedWordsModel", "value", "I", false)
  | 15 => ("BelievedWordsModel", "fault", "I", false)
  | 16 => ("BelievedWordsModel", "faultAt", "I", false)
  | 17 => ("BelievedWordsModel", "latest", "I", false)
  | 18 => ("BelievedWordsModel", "far", "[I", true)
  | 19 => ("BelievedWordsModel", "first", "[I", true)
  | 20 => ("BelievedWordsModel", "waits", "[Z", true)
  | 21 => ("BelievedWordsModel", "line", "[I", true)
  | 22 => ("BelievedWordsModel", "lineFrom", "I", false)
  | 23 => ("BelievedWordsModel", "lineTo", "I", false)
  | 24 => ("BelievedWordsModel", "isKept", "[Z", true)
  | 25 => ("BelievedWordsModel", "kept", "[I", true)
  | 26 => ("BelievedWordsModel", "trace", "[I", true)
  | _ => ("BelievedWordsModel", "traced", "I", false)
def tyX11 : Nat → FieldType := fun k => match k with
  | 0 => .int
  | 1 => .int
  | 2 => .array .int
  | 3 => .array .int
  | 4 => .array .int
  | 5 => .array .int
  | 6 => .array .int
  | 7 => .array .int
  | 8 => .int
  | 9 => .array .int
  | 10 => .int
  | 11 => .int
  | 12 => .int
  | 13 => .int
  | 14 => .int
  | 15 => .int
  | 16 => .int
  | 17 => .int
  | 18 => .array .int
  | 19 => .array .int
  | 20 => .array .boolean
  | 21 => .array .int
  | 22 => .int
  | 23 => .int
  | 24 => .array .boolean
  | 25 => .array .int
  | 26 => .array .int
  | _ => .int
theorem nmX11 : ∀ a, a < 28 → ∀ b, b < 28 → a ≠ b → (TX11 a).2.1 ≠ (TX11 b).2.1 := by decide +kernel
theorem tyX11_ok : ∀ k, k < 28 → parseFieldDescriptor (TX11 k).2.2.1 = some (tyX11 k) := by decide +kernel
abbrev cX11_init : ByteArray := prog_13_method_1_code
def yX11_init : MethodName := ⟨RX11, "<init>", "()V"⟩
abbrev cX11_in : ByteArray := prog_13_method_3_code
def yX11_in : MethodName := ⟨RX11, "in", "(JJJ)Z"⟩
abbrev cX11_finding : ByteArray := prog_13_method_4_code
def yX11_finding : MethodName := ⟨RX11, "finding", "(I)I"⟩
abbrev cX11_isRow : ByteArray := prog_13_method_5_code
def yX11_isRow : MethodName := ⟨RX11, "isRow", "(I)Z"⟩
abbrev cX11_row : ByteArray := prog_13_method_6_code
def yX11_row : MethodName := ⟨RX11, "row", "(III)I"⟩
abbrev cX11_set : ByteArray := prog_13_method_7_code
def yX11_set : MethodName := ⟨RX11, "set", "(III)I"⟩
abbrev cX11_copy : ByteArray := prog_13_method_8_code
def yX11_copy : MethodName := ⟨RX11, "copy", "(IIIII)I"⟩
abbrev cX11_drop : ByteArray := prog_13_method_9_code
def yX11_drop : MethodName := ⟨RX11, "drop", "(I)I"⟩
abbrev cX11_feed : ByteArray := prog_13_method_10_code
def yX11_feed : MethodName := ⟨RX11, "feed", "(I)I"⟩
abbrev cX11_bad : ByteArray := prog_13_method_11_code
def yX11_bad : MethodName := ⟨RX11, "bad", "(I)V"⟩
abbrev cX11_nextToken : ByteArray := prog_13_method_12_code
def yX11_nextToken : MethodName := ⟨RX11, "nextToken", "()V"⟩
abbrev cX11_must : ByteArray := prog_13_method_13_code
def yX11_must : MethodName := ⟨RX11, "must", "(Z)V"⟩
abbrev cX11_isLetter : ByteArray := prog_13_method_14_code
def yX11_isLetter : MethodName := ⟨RX11, "isLetter", "(I)Z"⟩
abbrev cX11_number : ByteArray := prog_13_method_15_code
def yX11_number : MethodName := ⟨RX11, "number", "(II)I"⟩
abbrev cX11_mustSign : ByteArray := prog_13_method_16_code
def yX11_mustSign : MethodName := ⟨RX11, "mustSign", "(I)V"⟩
abbrev cX11_begin : ByteArray := prog_13_method_17_code
def yX11_begin : MethodName := ⟨RX11, "begin", "()V"⟩
abbrev cX11_failed : ByteArray := prog_13_method_18_code
def yX11_failed : MethodName := ⟨RX11, "failed", "()Z"⟩
abbrev cX11_fault : ByteArray := prog_13_method_19_code
def yX11_fault : MethodName := ⟨RX11, "fault", "()I"⟩
abbrev cX11_kindBy : ByteArray := prog_13_method_20_code
def yX11_kindBy : MethodName := ⟨RX11, "kindBy", "(I)I"⟩
abbrev cX11_isSort : ByteArray := prog_13_method_21_code
def yX11_isSort : MethodName := ⟨RX11, "isSort", "()Z"⟩
abbrev cX11_isTold : ByteArray := prog_13_method_22_code
def yX11_isTold : MethodName := ⟨RX11, "isTold", "(IIJ)Z"⟩
abbrev cX11_readRule : ByteArray := prog_13_method_23_code
def yX11_readRule : MethodName := ⟨RX11, "readRule", "()V"⟩
abbrev cX11_court : ByteArray := prog_13_method_24_code
def yX11_court : MethodName := ⟨RX11, "court", "()I"⟩
abbrev cX11_isThere : ByteArray := prog_13_method_25_code
def yX11_isThere : MethodName := ⟨RX11, "isThere", "()Z"⟩
abbrev cX11_isFact : ByteArray := prog_13_method_26_code
def yX11_isFact : MethodName := ⟨RX11, "isFact", "(I)Z"⟩
abbrev cX11_isPerson : ByteArray := prog_13_method_27_code
def yX11_isPerson : MethodName := ⟨RX11, "isPerson", "(I)Z"⟩
abbrev cX11_isRule : ByteArray := prog_13_method_28_code
def yX11_isRule : MethodName := ⟨RX11, "isRule", "(I)Z"⟩
abbrev cX11_isSaying : ByteArray := prog_13_method_29_code
def yX11_isSaying : MethodName := ⟨RX11, "isSaying", "(J)Z"⟩
abbrev cX11_areFacts : ByteArray := prog_13_method_30_code
def yX11_areFacts : MethodName := ⟨RX11, "areFacts", "(I)Z"⟩
abbrev cX11_kindOf : ByteArray := prog_13_method_31_code
def yX11_kindOf : MethodName := ⟨RX11, "kindOf", "(I)I"⟩
abbrev cX11_bits : ByteArray := prog_13_method_32_code
def yX11_bits : MethodName := ⟨RX11, "bits", "(I)I"⟩
abbrev cX11_closed : ByteArray := prog_13_method_33_code
def yX11_closed : MethodName := ⟨RX11, "closed", "(I)I"⟩
abbrev cX11_canBe : ByteArray := prog_13_method_34_code
def yX11_canBe : MethodName := ⟨RX11, "canBe", "(I)Z"⟩
abbrev cX11_with : ByteArray := prog_13_method_35_code
def yX11_with : MethodName := ⟨RX11, "with", "(III)I"⟩
abbrev cX11_afterBy : ByteArray := prog_13_method_36_code
def yX11_afterBy : MethodName := ⟨RX11, "afterBy", "(IIII)I"⟩
abbrev cX11_after : ByteArray := prog_13_method_37_code
def yX11_after : MethodName := ⟨RX11, "after", "(IIII)I"⟩
abbrev cX11_keep : ByteArray := prog_13_method_38_code
def yX11_keep : MethodName := ⟨RX11, "keep", "()V"⟩
abbrev cX11_say : ByteArray := prog_13_method_39_code
def yX11_say : MethodName := ⟨RX11, "say", "(II)I"⟩
abbrev cX11_pardon : ByteArray := prog_13_method_40_code
def yX11_pardon : MethodName := ⟨RX11, "pardon", "(I)I"⟩
abbrev cX11_strike : ByteArray := prog_13_method_41_code
def yX11_strike : MethodName := ⟨RX11, "strike", "(II)I"⟩
abbrev cX11_undo : ByteArray := prog_13_method_42_code
def yX11_undo : MethodName := ⟨RX11, "undo", "()I"⟩
abbrev cX11_stand : ByteArray := prog_13_method_43_code
def yX11_stand : MethodName := ⟨RX11, "stand", "(I)I"⟩
abbrev cX11_rule : ByteArray := prog_13_method_44_code
def yX11_rule : MethodName := ⟨RX11, "rule", "(II)I"⟩
abbrev cX11_cell : ByteArray := prog_13_method_45_code
def yX11_cell : MethodName := ⟨RX11, "cell", "(I)I"⟩
abbrev cX11_makes : ByteArray := prog_13_method_46_code
def yX11_makes : MethodName := ⟨RX11, "makes", "(II)I"⟩
abbrev cX11_clearStates : ByteArray := prog_13_method_47_code
def yX11_clearStates : MethodName := ⟨RX11, "clearStates", "()V"⟩
abbrev cX11_goOn : ByteArray := prog_13_method_48_code
def yX11_goOn : MethodName := ⟨RX11, "goOn", "(IIIZ)V"⟩
abbrev cX11_spread : ByteArray := prog_13_method_49_code
def yX11_spread : MethodName := ⟨RX11, "spread", "(Z)V"⟩
abbrev cX11_isSoNow : ByteArray := prog_13_method_50_code
def yX11_isSoNow : MethodName := ⟨RX11, "isSoNow", "(II)Z"⟩
abbrev cX11_areTold : ByteArray := prog_13_method_51_code
def yX11_areTold : MethodName := ⟨RX11, "areTold", "(II)Z"⟩
abbrev cX11_bestOf : ByteArray := prog_13_method_52_code
def yX11_bestOf : MethodName := ⟨RX11, "bestOf", "(III)I"⟩
abbrev cX11_shortest : ByteArray := prog_13_method_53_code
def yX11_shortest : MethodName := ⟨RX11, "shortest", "(III)I"⟩
abbrev cX11_cheapest : ByteArray := prog_13_method_54_code
def yX11_cheapest : MethodName := ⟨RX11, "cheapest", "(III)I"⟩
abbrev cX11_idle : ByteArray := prog_13_method_55_code
def yX11_idle : MethodName := ⟨RX11, "idle", "(I)I"⟩
abbrev cX11_giveUp : ByteArray := prog_13_method_56_code
def yX11_giveUp : MethodName := ⟨RX11, "giveUp", "(II)I"⟩
abbrev cX11_madeBy : ByteArray := prog_13_method_57_code
def yX11_madeBy : MethodName := ⟨RX11, "madeBy", "(I)I"⟩
abbrev cX11_order : ByteArray := prog_13_method_58_code
def yX11_order : MethodName := ⟨RX11, "order", "(II)I"⟩
abbrev cX11_ever : ByteArray := prog_13_method_59_code
def yX11_ever : MethodName := ⟨RX11, "ever", "(I)I"⟩
abbrev cX11_said : ByteArray := prog_13_method_60_code
def yX11_said : MethodName := ⟨RX11, "said", "(IIIII)I"⟩
abbrev cX11_who : ByteArray := prog_13_method_61_code
def yX11_who : MethodName := ⟨RX11, "who", "(IIII)I"⟩
abbrev cX11_afterAll : ByteArray := prog_13_method_62_code
def yX11_afterAll : MethodName := ⟨RX11, "afterAll", "(III)I"⟩
abbrev cX11_temper : ByteArray := prog_13_method_63_code
def yX11_temper : MethodName := ⟨RX11, "temper", "(IIIIII)J"⟩
abbrev cX11_drawn : ByteArray := prog_13_method_64_code
def yX11_drawn : MethodName := ⟨RX11, "drawn", "(III)I"⟩
abbrev cX11_image : ByteArray := prog_13_method_65_code
def yX11_image : MethodName := ⟨RX11, "image", "(I)I"⟩
abbrev cX11_restore : ByteArray := prog_13_method_66_code
def yX11_restore : MethodName := ⟨RX11, "restore", "(I)I"⟩
abbrev cX11_isOf : ByteArray := prog_13_method_67_code
def yX11_isOf : MethodName := ⟨RX11, "isOf", "(II)Z"⟩
abbrev cX11_kind : ByteArray := prog_13_method_68_code
def yX11_kind : MethodName := ⟨RX11, "kind", "(I)I"⟩
abbrev cX11_as : ByteArray := prog_13_method_69_code
def yX11_as : MethodName := ⟨RX11, "as", "(II)I"⟩
abbrev cX11_began : ByteArray := prog_13_method_70_code
def yX11_began : MethodName := ⟨RX11, "began", "(I)V"⟩
abbrev cX11_plainSize : ByteArray := prog_13_method_71_code
def yX11_plainSize : MethodName := ⟨RX11, "plainSize", "(I)I"⟩
abbrev cX11_quietSize : ByteArray := prog_13_method_72_code
def yX11_quietSize : MethodName := ⟨RX11, "quietSize", "(I)I"⟩
abbrev cX11_markOf : ByteArray := prog_13_method_73_code
def yX11_markOf : MethodName := ⟨RX11, "markOf", "(I)I"⟩
abbrev cX11_sizeOf : ByteArray := prog_13_method_74_code
def yX11_sizeOf : MethodName := ⟨RX11, "sizeOf", "(I)I"⟩
abbrev cX11_ask : ByteArray := prog_13_method_75_code
def yX11_ask : MethodName := ⟨RX11, "ask", "(II)I"⟩
abbrev cX11_trace : ByteArray := prog_13_method_76_code
def yX11_trace : MethodName := ⟨RX11, "trace", "(I)I"⟩
abbrev cX11_count : ByteArray := prog_13_method_77_code
def yX11_count : MethodName := ⟨RX11, "count", "(I)I"⟩
abbrev cX11_status : ByteArray := prog_13_method_78_code
def yX11_status : MethodName := ⟨RX11, "status", "()I"⟩
def RJx8e188 : String := "java/lang/Cloneable"
def TJx8e188 : u_T := fun k => match k with
  | _ => ("", "", "", false)
def tyJx8e188 : Nat → FieldType := fun k => match k with
  | _ => .int
theorem nmJx8e188 : ∀ a, a < 0 → ∀ b, b < 0 → a ≠ b → (TJx8e188 a).2.1 ≠ (TJx8e188 b).2.1 := by decide +kernel
theorem tyJx8e188_ok : ∀ k, k < 0 → parseFieldDescriptor (TJx8e188 k).2.2.1 = some (tyJx8e188 k) := by decide +kernel
def RJ6 : String := "java/lang/Integer"
def TJ6 : u_T := fun k => match k with
  | _ => ("", "", "", false)
def tyJ6 : Nat → FieldType := fun k => match k with
  | _ => .int
theorem nmJ6 : ∀ a, a < 0 → ∀ b, b < 0 → a ≠ b → (TJ6 a).2.1 ≠ (TJ6 b).2.1 := by decide +kernel
theorem tyJ6_ok : ∀ k, k < 0 → parseFieldDescriptor (TJ6 k).2.2.1 = some (tyJ6 k) := by decide +kernel
abbrev cJ6_bitCount_0f7a4 : ByteArray := prog_15_method_49_code
def yJ6_bitCount_0f7a4 : MethodName := ⟨RJ6, "bitCount", "(I)I"⟩
def RJ13 : String := "java/lang/Long"
def TJ13 : u_T := fun k => match k with
  | _ => ("", "", "", false)
def tyJ13 : Nat → FieldType := fun k => match k with
  | _ => .int
theorem nmJ13 : ∀ a, a < 0 → ∀ b, b < 0 → a ≠ b → (TJ13 a).2.1 ≠ (TJ13 b).2.1 := by decide +kernel
theorem tyJ13_ok : ∀ k, k < 0 → parseFieldDescriptor (TJ13 k).2.2.1 = some (tyJ13 k) := by decide +kernel
abbrev cJ13_bitCount_95d88 : ByteArray := prog_16_method_50_code
def yJ13_bitCount_95d88 : MethodName := ⟨RJ13, "bitCount", "(J)I"⟩
def RJ9 : String := "java/lang/Math"
def TJ9 : u_T := fun k => match k with
  | _ => ("", "", "", false)
def tyJ9 : Nat → FieldType := fun k => match k with
  | _ => .int
theorem nmJ9 : ∀ a, a < 0 → ∀ b, b < 0 → a ≠ b → (TJ9 a).2.1 ≠ (TJ9 b).2.1 := by decide +kernel
theorem tyJ9_ok : ∀ k, k < 0 → parseFieldDescriptor (TJ9 k).2.2.1 = some (tyJ9 k) := by decide +kernel
abbrev cJ9_max_7cf53 : ByteArray := prog_17_method_65_code
def yJ9_max_7cf53 : MethodName := ⟨RJ9, "max", "(II)I"⟩
abbrev cJ9_min_7cf53 : ByteArray := prog_17_method_69_code
def yJ9_min_7cf53 : MethodName := ⟨RJ9, "min", "(II)I"⟩
def RJ10 : String := "java/lang/System"
def TJ10 : u_T := fun k => match k with
  | _ => ("", "", "", false)
def tyJ10 : Nat → FieldType := fun k => match k with
  | _ => .int
theorem nmJ10 : ∀ a, a < 0 → ∀ b, b < 0 → a ≠ b → (TJ10 a).2.1 ≠ (TJ10 b).2.1 := by decide +kernel
theorem tyJ10_ok : ∀ k, k < 0 → parseFieldDescriptor (TJ10 k).2.2.1 = some (tyJ10 k) := by decide +kernel
def RJ7 : String := "java/util/Arrays"
def TJ7 : u_T := fun k => match k with
  | _ => ("", "", "", false)
def tyJ7 : Nat → FieldType := fun k => match k with
  | _ => .int
theorem nmJ7 : ∀ a, a < 0 → ∀ b, b < 0 → a ≠ b → (TJ7 a).2.1 ≠ (TJ7 b).2.1 := by decide +kernel
theorem tyJ7_ok : ∀ k, k < 0 → parseFieldDescriptor (TJ7 k).2.2.1 = some (tyJ7 k) := by decide +kernel
abbrev cJ7_fill_53178 : ByteArray := prog_19_method_103_code
def yJ7_fill_53178 : MethodName := ⟨RJ7, "fill", "([II)V"⟩
abbrev cJ7_checkLength_df160 : ByteArray := prog_19_method_131_code
def yJ7_checkLength_df160 : MethodName := ⟨RJ7, "checkLength", "(II)V"⟩
abbrev cJ7_copyOfRange_feecc : ByteArray := prog_19_method_136_code
def yJ7_copyOfRange_feecc : MethodName := ⟨RJ7, "copyOfRange", "([III)[I"⟩
abbrev cJ7_copyOfRangeInt_feecc : ByteArray := prog_19_method_137_code
def yJ7_copyOfRangeInt_feecc : MethodName := ⟨RJ7, "copyOfRangeInt", "([III)[I"⟩
def RL : String := "BelievedWordsLaw"
abbrev cL_law : ByteArray := code
def yL_law : MethodName := ⟨RL, "law", "([I)Z"⟩
abbrev vwCl : List vw_C := [(RX0, TX0, 3), (RX1, TX1, 2), (RX2, TX2, 5), (RX3, TX3, 4), (RX4, TX4, 3), (RX5, TX5, 9), (RX6, TX6, 3), (RX7, TX7, 14), (RX8, TX8, 6), (RX9, TX9, 9), (RX10, TX10, 9), (RX11, TX11, 28)]
end
section
/-! FLAT MEMORY. The objects of the class and of the reference, once made, lie at fixed numbers (indices); ints live in one table
    (index, place); the few references that change in a second one; lengths of the arrays that are made later in a third. -/
abbrev AV : Type := Int32 ⊕ (Int64 ⊕ (Nat × Nat))
abbrev vi (x : Int32) : AV := .inl x
abbrev vl (x : Int64) : AV := .inr (.inl x)
/-- a reference: the tag (what kind of thing), the index -/
abbrev vr (t i : Nat) : AV := .inr (.inr (t, i))
abbrev AM : Type := (Nat → Nat → Int32) × ((Nat → Nat → Nat) × ((Nat → Nat) × Nat))
def cvA (ad : Nat → Nat) (v : AV) : Value := match v with
  | .inl x => .int x
  | .inr (.inl x) => .long x
  | .inr (.inr q) => .ref (ad q.2)
/-- the tags of the fixed indices. 0..11 the classes of vwCl; 12 an int[] of its own length; 13 Standing[24]; 14 Image[2]; 15 int[8][]; 100 + n an int[n]; 20000 + n a boolean[n] -/
def KDl : List Nat := [10, 6, 15, 140, 140, 140, 140, 140, 140, 140, 140, 108, 108, 9, 5, 108, 108, 108, 105, 220, 2, 5, 108, 108, 108, 105, 8, 105, 106, 106, 164, 0, 13] ++ (List.range 24).flatMap (fun _ => [8, 105]) ++ [14, 4, 5, 108, 108, 108, 105, 8, 105, 4, 5, 108, 108, 108, 105, 8, 105, 7, 105, 12, 12, 12, 3, 12, 12, 12, 12, 1, 116, 11, 108, 108, 420, 150, 150, 1300, 220, 4196, 4196, 24096, 4197, 20002, 200, 116]
def KD (i : Nat) : Nat := KDl.getD i 12
def nS : Nat := 125
/-- the fields of an object: f its ints, g its changing references, i its index -/
def flds (ad : Nat → Nat) (f : Nat → Int32) (g : Nat → Nat) (t i : Nat) : List Value := match t with
  | 0 => [.ref (ad (i + 1)), .int (f 1), .int (f 2)]
  | 1 => [.ref (ad (i + 1)), .int (f 1)]
  | 2 => [.ref (ad (i + 1)), .ref (ad (i + 6)), .ref (ad (i + 8)), .ref (ad (i + 9)), .ref (ad (i + 10))]
  | 3 => [.ref (ad (g 0)), .ref (ad (g 1)), .ref (ad (g 2)), .ref (ad (g 3))]
  | 4 => [.ref (ad (i + 1)), .ref (ad (i + 6)), .int (f 2)]
  | 5 => [.ref (ad (i + 1)), .ref (ad (i + 2)), .ref (ad (i + 3)), .ref (ad (i + 4)), .int (f 4), .int (f 5), .int (f 6), .int (f 7), .int (f 8)]
  | 6 => [.ref (ad (i + 1)), .ref (ad (i + 10)), .ref (ad (i + 11))]
  | 7 => [.ref (ad (i + 1)), .ref (ad (g 1)), .ref (ad (g 2)), .ref (ad (g 3)), .int (f 4), .int (f 5), .int (f 6), .int (f 7), .int (f 8), .int (f 9), .int (f 10), .int (f 11), .int (f 12), .int (f 13)]
  | 8 => [.ref (ad (i + 1)), .int (f 1), .int (f 2), .int (f 3), .int (f 4), .int (f 5)]
  | 9 => [.ref (ad (i + 1)), .ref (ad (i + 6)), .int (f 2), .int (f 3), .int (f 4), .int (f 5), .int (f 6), .int (f 7), .int (f 8)]
  | 10 => [.ref (ad (i + 1)), .ref (ad (i + 13)), .ref (ad (i + 20)), .ref (ad (i + 31)), .ref (ad (i + 81)), .ref (ad (i + 98)), .ref (ad (i + 103)), .ref (ad (i + 108)), .int (f 8)]
  | _ => [.int (f 0), .int (f 1), .ref (ad (i + 1)), .ref (ad (i + 2)), .ref (ad (i + 3)), .ref (ad (i + 4)), .ref (ad (i + 5)), .ref (ad (i + 6)), .int (f 8), .ref (ad (i + 7)), .int (f 10), .int (f 11), .int (f 12), .int (f 13), .int (f 14), .int (f 15), .int (f 16), .int (f 17), .ref (ad (i + 8)), .ref (ad (i + 9)), .ref (ad (i + 10)), .ref (ad (i + 11)), .int (f 22), .int (f 23), .ref (ad (i + 12)), .ref (ad (i + 13)), .ref (ad (i + 14)), .int (f 27)]
/-- what the cell of index i holds -/
def celT (Y : Nat → ClassId) (ad : Nat → Nat) (f : Nat → Int32) (g : Nat → Nat) (n t i : Nat) : va_E :=
  if t < 12 then .inr (t, flds ad f g t i)
  else if t = 12 then .inl (Y 0, n, .inl f)
  else if t = 13 then .inl (Y 3, 24, .inr (.inr (.inr (.inr (fun j => if j < 24 then some (ad (i + 1 + 2 * j)) else none)))))
  else if t = 14 then .inl (Y 2, 2, .inr (.inr (.inr (.inr (fun j => if j < 2 then some (ad (i + 1 + 8 * j)) else none)))))
  else if t = 15 then .inl (Y 4, 8, .inr (.inr (.inr (.inr (fun j => if j < 8 then some (ad (i + 1 + j)) else none)))))
  else if t < 20000 then .inl (Y 0, t - 100, .inl f)
  else .inl (Y 1, t - 20000, .inl f)
def cel (Y : Nat → ClassId) (ad : Nat → Nat) (m : AM) (i : Nat) : va_E := celT Y ad (m.1 i) (m.2.1 i) (m.2.2.1 i) (KD i) i
def wsO (Y : Nat → ClassId) (ad : Nat → Nat) (m : AM) : va_W := (List.range m.2.2.2).map (fun i => (ad i, cel Y ad m i))
def tysO (Y : Nat → ClassId) : List (ClassId × FieldType) := [(Y 0, .int), (Y 1, .boolean), (Y 2, .object "BelievedWords$Image"), (Y 3, .object "BelievedWords$Standing"), (Y 4, .array .int)]
theorem wsO_get {Y : Nat → ClassId} {ad : Nat → Nat} {m : AM} {i : Nat} (h : i < m.2.2.2) : (wsO Y ad m)[i]? = some (ad i, cel Y ad m i) := by
  simp [wsO, h]
theorem wsO_len {Y : Nat → ClassId} {ad : Nat → Nat} {m : AM} : (wsO Y ad m).length = m.2.2.2 := by simp [wsO]
def mset (m : AM) (i j : Nat) (x : Int32) : AM := (fun a b => if a = i then (if b = j then x else m.1 a b) else m.1 a b, m.2)
def rset (m : AM) (i j : Nat) (x : Nat) : AM := (m.1, (fun a b => if a = i then (if b = j then x else m.2.1 a b) else m.2.1 a b, m.2.2))
theorem mset_2 (m : AM) (i j : Nat) (x : Int32) : (mset m i j x).2 = m.2 := rfl
theorem mset_at (m : AM) (i j : Nat) (x : Int32) (b : Nat) : (mset m i j x).1 i b = if b = j then x else m.1 i b := by simp [mset]
theorem mset_ne (m : AM) {i a : Nat} (j : Nat) (x : Int32) (h : a ≠ i) : (mset m i j x).1 a = m.1 a := by funext b; simp [mset, h]
theorem mset_upd (m : AM) (i j : Nat) (x : Int32) : (mset m i j x).1 i = upd (m.1 i) j x := by funext b; simp [mset, upd]
theorem wsO_set {Y : Nat → ClassId} {ad : Nat → Nat} {m m' : AM} {i : Nat} {e : va_E} (hn : m'.2.2.2 = m.2.2.2) (he : cel Y ad m' i = e) (ho : ∀ a, a ≠ i → cel Y ad m' a = cel Y ad m a) : (wsO Y ad m).set i (ad i, e) = wsO Y ad m' := by
  apply List.ext_getElem?
  intro k
  by_cases hk : k < m.2.2.2
  · rw [wsO_get (by rw [hn]; exact hk)]
    by_cases h : k = i
    · subst h
      rw [List.getElem?_set_self (by rw [wsO_len]; exact hk), he]
    · rw [List.getElem?_set_ne (Ne.symm h), wsO_get hk, ho k h]
  · rw [List.getElem?_eq_none (by rw [List.length_set, wsO_len]; omega), List.getElem?_eq_none (by rw [wsO_len, hn]; omega)]
theorem cel_mset_ne {Y : Nat → ClassId} {ad : Nat → Nat} {m : AM} {i a : Nat} (j : Nat) (x : Int32) (h : a ≠ i) : cel Y ad (mset m i j x) a = cel Y ad m a := by
  unfold cel
  rw [mset_ne m j x h]
  rfl
theorem cel_rset_ne {Y : Nat → ClassId} {ad : Nat → Nat} {m : AM} {i a : Nat} (j x : Nat) (h : a ≠ i) : cel Y ad (rset m i j x) a = cel Y ad m a := by
  unfold cel
  have e : (rset m i j x).2.1 a = m.2.1 a := by funext b; simp [rset, h]
  rw [e]
  rfl
/-- a value is of its tag -/
def wt (m : AM) (v : AV) : Prop := match v with
  | .inr (.inr q) => KD q.2 = q.1 ∧ q.2 < m.2.2.2
  | _ => True
def TY (m : AM) : Prop := nS ≤ m.2.2.2 ∧ ∀ i k, KD (m.2.1 i k) = 12 ∧ m.2.1 i k < m.2.2.2
theorem wt_i (m : AM) (x : Int32) : wt m (vi x) := trivial
theorem wt_l (m : AM) (x : Int64) : wt m (vl x) := trivial
theorem TY.mset {m : AM} {i j : Nat} {x : Int32} (h : TY m) : TY (mset m i j x) := h
theorem wt.mset {m : AM} {i j : Nat} {x : Int32} {v : AV} (h : wt m v) : wt (mset m i j x) v := h
/-- the tables' words that outlive a call -/
def TB : List Cond := lw_tbl.filter goodWord
theorem tb_of {w : Cond} (i : Nat) (h : lw_tbl[i]? = some w) (g : goodWord w = true) : w ∈ TB := List.mem_filter.mpr ⟨List.mem_of_getElem? h, g⟩
theorem tb_good : GoodIn TB TB := fun w h => ⟨h, good_of_word (List.mem_filter.mp h).2⟩
/-- a method: its code, its class, its locals, what it gives, how many cells and slots it may make, how deep it calls -/
abbrev ME : Type := ByteArray × (String × (Nat × (Option FieldType × (Nat × (Nat × Nat)))))
def rmD (d mc ms : Nat) : Room := { frames := d, cells := mc, slots := ms, locals := 64 * d }
/-- the world of a state -/
def Wd (G : va_G × (Nat → ClassId)) (ad : Nat → Nat) (m : AM) (U : State) : Prop := va_P G.1 vwCl (wsO G.2 ad m) U.heap ∧ va_K G.1 vwCl (tysO G.2) U
/-- what a method's end says -/
def Qg (G : va_G × (Nat → ClassId)) (ad0 : Nat → Nat) (nx0 : Nat) (A : Nat → Prop) (Φ : Option AV → AM → Prop) : Array Value → State → Outcome → State → Prop := fun _ st oc t =>
  (∃ (r : Option AV) (m : AM) (ad : Nat → Nat), oc = .returned (r.map (cvA ad)) ∧ Φ r m ∧ (∀ v, r = some v → wt m v) ∧ TY m ∧ Wd G ad m t ∧ va_D A (wsO G.2 ad m) ∧ nx0 ≤ m.2.2.2 ∧ ∀ i, i < nx0 → ad i = ad0 i) ∧ va_F A st t
/-- the machine stands in the method -/
def OkM (E : ME) (p : Program) (R : Room) (s : State) (mi : MethodId) (args : Array Value) (meth : Method) (c : Code) : Prop :=
  p.tables.exec = Jvm.exec ∧ c.code = E.1 ∧ c.maxLocals = E.2.2.1 ∧ meth.sig.returnType = E.2.2.2.1 ∧ s.vm.findClass E.2.1 = some mi.cls ∧ (∀ w ∈ TB, w.before args s = true) ∧ meth.locks = false ∧ R = rmD E.2.2.2.2.2.2 E.2.2.2.2.1 E.2.2.2.2.2.1
/-- the world is as the flat memory says -/
def InM (G : va_G × (Nat → ClassId)) (ad0 : Nat → Nat) (nx0 : Nat) (A : Nat → Prop) (ad : Nat → Nat) (m : AM) (s : State) (H : Heap) (locs : List Loc) : Prop :=
  va_K G.1 vwCl (tysO G.2) s ∧ va_P G.1 vwCl (wsO G.2 ad m) H ∧ va_D A (wsO G.2 ad m) ∧ va_S A s.heap H locs ∧ (∀ q, s.heap.size ≤ q → A q) ∧ (∀ i, i < nx0 → ad i = ad0 i) ∧ nx0 ≤ m.2.2.2 ∧ TY m
/-- the locals: none where nothing is known -/
def LHm (ad : Nat → Nat) (m : AM) (ls : Array Slot) (nL : Nat) (L : List (Option AV)) : Prop := ls.size = nL ∧ lv_wf ls ∧ ∀ (k : Nat) (v : AV), L[k]? = some (some v) → ls[k]? = some (.val (cvA ad v)) ∧ wt m v
/-- from pc on, with locals L, stack st, memory m, room a used, the method ends with Φ -/
def B (E : ME) (Φ : Option AV → AM → Prop) (pc : Nat) (L : List (Option AV)) (st : List AV) (m : AM) (a : Nat × Nat) : Prop :=
  ∀ (p : Program) (l : Launch) (e : Env) (R : Room) (s : State) (mi : MethodId) (args : Array Value) (below : List Frame) (meth : Method) (c : Code) (G : va_G × (Nat → ClassId)) (ad0 : Nat → Nat) (nx0 : Nat) (A : Nat → Prop) (ad : Nat → Nat) (H : Heap) (locs : List Loc) (ls : Array Slot),
    OkM E p R s mi args meth c → InM G ad0 nx0 A ad m s H locs → LHm ad m ls E.2.2.1 L → (∀ v, v ∈ st → wt m v) →
      W p l e R s mi args below meth c H locs a.1 a.2 (MQ below (Qg G ad0 nx0 A Φ) args s E.2.2.2.2.1 E.2.2.2.2.2.1 A) (F0 mi pc ls (st.map (cvA ad)))
/-- a method keeps its word: from every world and every args of which Sp says Φ -/
def Snd (y : MethodName) (E : ME) (Sp : List AV → AM → (Option AV → AM → Prop) → Prop) : Prop :=
  ∀ (l : Launch) (G : va_G × (Nat → ClassId)) (ad : Nat → Nat) (m : AM) (av : List AV) (Φ : Option AV → AM → Prop) (sz : Nat), Sp av m Φ → (∀ v, v ∈ av → wt m v) → TY m →
    Met l y (Cond.code y E.1 E.2.2.1 E.2.2.2.1 :: TB) (rmD E.2.2.2.2.2.2 E.2.2.2.2.1 E.2.2.2.2.2.1) (va_Pc (av.map (cvA ad)) (fun U => U.heap.size = sz ∧ Wd G ad m U ∧ va_D (fun _ => True) (wsO G.2 ad m))) (Qg G ad m.2.2.2 (va_A (wsO G.2 ad m) sz) Φ) E.2.2.2.2.1 E.2.2.2.2.2.1 (va_A (wsO G.2 ad m) sz)
/-- the locals at the start -/
def L0 : List AV → List (Option AV)
  | [] => []
  | v :: vs => match v with
    | .inr (.inl _) => some v :: none :: L0 vs
    | _ => some v :: L0 vs
theorem cvA_cat (ad : Nat → Nat) (v : AV) : (cvA ad v).category = (match v with | .inr (.inl _) => 2 | _ => 1) := by
  rcases v with x | x | q <;> rfl
theorem L0_args (ad : Nat → Nat) : ∀ (av : List AV) (i k : Nat) (v : AV), (L0 av)[k]? = some (some v) → (i + k, cvA ad v) ∈ lv_args i (av.map (cvA ad)) ∧ v ∈ av
  | [], i, k, v, h => by simp [L0] at h
  | w :: ws, i, k, v, h => by
    rcases w with x | x | q
    · simp only [L0] at h
      cases k with
      | zero => simp at h; subst h; exact ⟨by simp [lv_args], by simp⟩
      | succ k =>
        have h2 := L0_args ad ws (i + 1) k v (by simpa using h)
        refine ⟨?_, List.mem_cons_of_mem _ h2.2⟩
        simp only [List.map_cons, lv_args]
        rw [if_neg (by rw [cvA_cat]; simp)]
        exact List.mem_cons_of_mem _ (by rw [show i + (k + 1) = i + 1 + k by omega]; exact h2.1)
    · simp only [L0] at h
      cases k with
      | zero => simp at h; subst h; exact ⟨by simp [lv_args], by simp⟩
      | succ k =>
        cases k with
        | zero => simp at h
        | succ k =>
          have h2 := L0_args ad ws (i + 2) k v (by simpa using h)
          refine ⟨?_, List.mem_cons_of_mem _ h2.2⟩
          simp only [List.map_cons, lv_args]
          rw [if_pos (by rw [cvA_cat])]
          exact List.mem_cons_of_mem _ (by rw [show i + (k + 1 + 1) = i + 2 + k by omega]; exact h2.1)
    · simp only [L0] at h
      cases k with
      | zero => simp at h; subst h; exact ⟨by simp [lv_args], by simp⟩
      | succ k =>
        have h2 := L0_args ad ws (i + 1) k v (by simpa using h)
        refine ⟨?_, List.mem_cons_of_mem _ h2.2⟩
        simp only [List.map_cons, lv_args]
        rw [if_neg (by rw [cvA_cat]; simp)]
        exact List.mem_cons_of_mem _ (by rw [show i + (k + 1) = i + 1 + k by omega]; exact h2.1)
def argW (av : List AV) : Nat := (L0 av).length
theorem argW_eq (ad : Nat → Nat) : ∀ av : List AV, (lg_sl (av.map (cvA ad))).length = argW av
  | [] => rfl
  | v :: vs => by
    have h := argW_eq ad vs
    unfold argW at h ⊢
    unfold lg_sl at h ⊢
    rcases v with x | x | q
    · simp only [List.map_cons, List.flatMap_cons, List.length_append, L0, List.length_cons, h]
      rw [if_neg (by rw [cvA_cat]; simp)]
      simp; omega
    · simp only [List.map_cons, List.flatMap_cons, List.length_append, L0, List.length_cons, h]
      rw [if_pos (by rw [cvA_cat])]
      simp; omega
    · simp only [List.map_cons, List.flatMap_cons, List.length_append, L0, List.length_cons, h]
      rw [if_neg (by rw [cvA_cat]; simp)]
      simp; omega
/-- a method's word, from its walk -/
theorem Snd.of {y : MethodName} {E : ME} {Sp : List AV → AM → (Option AV → AM → Prop) → Prop} (hy : plainName y.cls = true) (how : y.cls = E.2.1) (hl : ∀ av m Φ, Sp av m Φ → argW av ≤ E.2.2.1)
    (h : ∀ av m Φ, Sp av m Φ → (∀ v, v ∈ av → wt m v) → TY m → B E Φ 0 (L0 av) [] m (0, 0)) : Snd y E Sp := by
  intro l G ad m av Φ sz hsp hav hty
  refine Met.ofW (cc := E.1) (maxL := E.2.2.1) (ret := E.2.2.2.1) hy rfl ?_
  intro p e s mi args below meth c s₁ Bd hml hv
  obtain ⟨rfl, hsz, ⟨hP, hK⟩, hD0⟩ := hv
  have hts := atoms_spec (ws := (Cond.code y E.1 E.2.2.1 E.2.2.2.1 :: TB)) Bd.pre
  have hown : s.vm.findClass y.cls = some mi.cls := findClass_of_methodNamed Bd.named
  subst hsz
  have hD := hD0.self (sz := s.heap.size)
  have hA : ∀ q : Nat, s.heap.size ≤ q → va_A (wsO G.2 ad m) s.heap.size q := fun q h => Or.inr h
  have hle : (lg_sl (av.map (cvA ad))).length ≤ E.2.2.1 := by rw [argW_eq]; exact hl av m Φ hsp
  have hl0 := lv_entry (av.map (cvA ad)) (n := E.2.2.1) hle
  rw [lg_entry_eq]
  generalize (lg_sl (av.map (cvA ad)) ++ List.replicate (E.2.2.1 - (lg_sl (av.map (cvA ad))).length) Slot.unset).toArray = ls at hl0 ⊢
  refine h av m Φ hsp hav hty p l e _ s mi _ below meth c G ad m.2.2.2 (va_A (wsO G.2 ad m) s.heap.size) ad s.heap [] ls ⟨Bd.exec, Bd.bytes, hml, Bd.returns, by rw [← how]; exact hown, fun w hw => hts w (List.mem_cons_of_mem _ hw), Bd.notSynchronized, rfl⟩ ⟨hK, hP, hD, va_S.rf, hA, fun _ _ => rfl, Nat.le_refl _, hty⟩ ⟨hl0.1, hl0.2.1, fun k v hk => ?_⟩ (by simp)
  have h3 := L0_args ad av 0 k v hk
  rw [Nat.zero_add] at h3
  exact ⟨hl0.2.2 _ h3.1, hav v h3.2⟩
end
section
/-! ROWS over the flat memory, an instruction each: what is left to show behind it. -/
theorem sw_tl {m : AM} {v : AV} {st : List AV} (h : ∀ w, w ∈ v :: st → wt m w) : ∀ w, w ∈ st → wt m w := fun w hw => h w (List.mem_cons_of_mem _ hw)
theorem sw_i {m : AM} {st : List AV} {x : Int32} (h : ∀ w, w ∈ st → wt m w) : ∀ w, w ∈ vi x :: st → wt m w := fun w hw => by
  rcases List.mem_cons.mp hw with e | e
  · subst e; trivial
  · exact h w e
theorem sw_l {m : AM} {st : List AV} {x : Int64} (h : ∀ w, w ∈ st → wt m w) : ∀ w, w ∈ vl x :: st → wt m w := fun w hw => by
  rcases List.mem_cons.mp hw with e | e
  · subst e; trivial
  · exact h w e
theorem sw_c {m : AM} {st : List AV} {v : AV} (hv : wt m v) (h : ∀ w, w ∈ st → wt m w) : ∀ w, w ∈ v :: st → wt m w := fun w hw => by
  rcases List.mem_cons.mp hw with e | e
  · subst e; exact hv
  · exact h w e
theorem LHm.lv {ad : Nat → Nat} {m : AM} {ls : Array Slot} {nL : Nat} {L : List (Option AV)} (h : LHm ad m ls nL L) : lv_has ls nL ((List.range L.length).filterMap (fun k => (L[k]?.join).map (fun v => (k, cvA ad v)))) := by
  refine ⟨h.1, h.2.1, fun q hq => ?_⟩
  obtain ⟨k, hk, e⟩ := List.mem_filterMap.mp hq
  cases hL : L[k]? with
  | none => rw [hL] at e; simp at e
  | some o =>
    cases o with
    | none => rw [hL] at e; simp at e
    | some v =>
      rw [hL] at e
      simp at e
      subst e
      exact (h.2.2 k v hL).1
theorem lv_mem {ad : Nat → Nat} {L : List (Option AV)} {k : Nat} {v : AV} (h : L[k]? = some (some v)) : (k, cvA ad v) ∈ (List.range L.length).filterMap (fun k => (L[k]?.join).map (fun v => (k, cvA ad v))) :=
  List.mem_filterMap.mpr ⟨k, List.mem_range.mpr (List.getElem?_eq_some_iff.mp h).1, by rw [h]; rfl⟩
/-- no long stands just ahead of place i -/
def noL (L : List (Option AV)) (i : Nat) : Prop := ∀ k x, k + 1 = i → L[k]? ≠ some (some (vl x))
theorem LHm.put {ad : Nat → Nat} {m : AM} {ls ls' : Array Slot} {nL i : Nat} {L : List (Option AV)} {v : AV} (h : LHm ad m ls nL L) (hn : noL L i) (hv : wt m v)
    (h' : lv_has ls' nL ((i, cvA ad v) :: ((List.range L.length).filterMap (fun k => (L[k]?.join).map (fun v => (k, cvA ad v)))).filter (fun q => !(q.1 == i) && !(q.1 + 1 == i && q.2.category == 2)))) : LHm ad m ls' nL (L.set i (some v)) := by
  refine ⟨h'.1, h'.2.1, fun k w hk => ?_⟩
  by_cases e : k = i
  · subst e
    have : k < L.length := by
      have := (List.getElem?_eq_some_iff.mp hk).1
      simpa using this
    rw [List.getElem?_set_self this] at hk
    cases hk
    exact ⟨h'.2.2 _ List.mem_cons_self, hv⟩
  · rw [List.getElem?_set_ne (Ne.symm e)] at hk
    refine ⟨h'.2.2 (k, cvA ad w) (List.mem_cons_of_mem _ (List.mem_filter.mpr ⟨lv_mem hk, ?_⟩)), (h.2.2 k w hk).2⟩
    simp only [Bool.and_eq_true, Bool.not_eq_true', beq_eq_false_iff_ne, ne_eq]
    refine ⟨e, ?_⟩
    rcases w with x | x | q
    · simp [cvA_cat]
    · have : k + 1 ≠ i := fun e2 => hn k x e2 hk
      simp [this]
    · simp [cvA_cat]
theorem LHm.putL {ad : Nat → Nat} {m : AM} {ls ls' : Array Slot} {nL i : Nat} {L : List (Option AV)} {x : Int64} (h : LHm ad m ls nL L) (hn : noL L i)
    (h' : lv_has ls' nL ((i, cvA ad (vl x)) :: ((List.range L.length).filterMap (fun k => (L[k]?.join).map (fun v => (k, cvA ad v)))).filter (fun q => !(q.1 == i) && (!(q.1 == i + 1) && !(q.1 + 1 == i && q.2.category == 2))))) : LHm ad m ls' nL ((L.set i (some (vl x))).set (i + 1) none) := by
  refine ⟨h'.1, h'.2.1, fun k w hk => ?_⟩
  by_cases e1 : k = i + 1
  · subst e1
    by_cases hlt : i + 1 < L.length
    · rw [List.getElem?_set_self (by simpa using hlt)] at hk
      cases hk
    · rw [List.getElem?_eq_none (by simp; omega)] at hk
      cases hk
  · rw [List.getElem?_set_ne (Ne.symm e1)] at hk
    by_cases e : k = i
    · subst e
      have : k < L.length := by
        have := (List.getElem?_eq_some_iff.mp hk).1
        simpa using this
      rw [List.getElem?_set_self this] at hk
      cases hk
      exact ⟨h'.2.2 _ List.mem_cons_self, trivial⟩
    · rw [List.getElem?_set_ne (Ne.symm e)] at hk
      refine ⟨h'.2.2 (k, cvA ad w) (List.mem_cons_of_mem _ (List.mem_filter.mpr ⟨lv_mem hk, ?_⟩)), (h.2.2 k w hk).2⟩
      simp only [Bool.and_eq_true, Bool.not_eq_true', beq_eq_false_iff_ne, ne_eq]
      refine ⟨e, e1, ?_⟩
      rcases w with y | y | q
      · simp [cvA_cat]
      · have : k + 1 ≠ i := fun e2 => hn k y e2 hk
        simp [this]
      · simp [cvA_cat]
theorem TY.nx {m : AM} (h : TY m) : 125 ≤ m.2.2.2 := h.1
/-- the flat world read, object or array -/
theorem InM.cell {G : va_G × (Nat → ClassId)} {ad0 : Nat → Nat} {nx0 : Nat} {A : Nat → Prop} {ad : Nat → Nat} {m : AM} {s : State} {H : Heap} {locs : List Loc} (_h : InM G ad0 nx0 A ad m s H locs) {t i : Nat} (hw : wt m (vr t i)) :
    (wsO G.2 ad m)[i]? = some (ad i, celT G.2 ad (m.1 i) (m.2.1 i) (m.2.2.1 i) t i) := by
  rw [wsO_get hw.2]
  unfold cel
  rw [hw.1]
theorem InM.setw {G : va_G × (Nat → ClassId)} {ad0 : Nat → Nat} {nx0 : Nat} {A : Nat → Prop} {ad : Nat → Nat} {m m' : AM} {s : State} {H H1 : Heap} {locs locs1 : List Loc} (h : InM G ad0 nx0 A ad m s H locs) {i : Nat} {e : va_E} (hn : m'.2.2.2 = m.2.2.2) (he : cel G.2 ad m' i = e) (ho : ∀ a, a ≠ i → cel G.2 ad m' a = cel G.2 ad m a) (hty : TY m')
    (hP : va_P G.1 vwCl ((wsO G.2 ad m).set i (ad i, e)) H1) (hD : va_D A ((wsO G.2 ad m).set i (ad i, e))) (hS : va_S A s.heap H1 locs1) : InM G ad0 nx0 A ad m' s H1 locs1 := by
  rw [wsO_set hn he ho] at hP hD
  exact ⟨h.1, hP, hD, hS, h.2.2.2.2.1, h.2.2.2.2.2.1, by rw [hn]; exact h.2.2.2.2.2.2.1, hty⟩
theorem b_iconst {E : ME} {Φ : Option AV → AM → Prop} {pc : Nat} {L : List (Option AV)} {st : List AV} {m : AM} {a : Nat × Nat} {n : Int} (v : Int32) (hd : decode E.1 pc = .ok (.iconst n, 1)) (hv : Int32.ofInt n = v) (k : B E Φ (pc + 1) L (vi v :: st) m a) : B E Φ pc L (st) m a := by
  intro p l e R s mi args below meth c G ad0 nx0 A ad H locs ls hOk hIn hL hst
  exact lv_iconst hOk.1 hOk.2.1 hd hv (k p l e R s mi args below meth c G ad0 nx0 A ad H locs ls hOk hIn hL (sw_i hst))
theorem b_bipush {E : ME} {Φ : Option AV → AM → Prop} {pc : Nat} {L : List (Option AV)} {st : List AV} {m : AM} {a : Nat × Nat} {n : Int} (v : Int32) (hd : decode E.1 pc = .ok (.bipush n, 2)) (hv : (Int8.ofInt n).toInt32 = v) (k : B E Φ (pc + 2) L (vi v :: st) m a) : B E Φ pc L (st) m a := by
  intro p l e R s mi args below meth c G ad0 nx0 A ad H locs ls hOk hIn hL hst
  exact lv_bipush hOk.1 hOk.2.1 hd hv (k p l e R s mi args below meth c G ad0 nx0 A ad H locs ls hOk hIn hL (sw_i hst))
theorem b_sipush {E : ME} {Φ : Option AV → AM → Prop} {pc : Nat} {L : List (Option AV)} {st : List AV} {m : AM} {a : Nat × Nat} {n : Int} (v : Int32) (hd : decode E.1 pc = .ok (.sipush n, 3)) (hv : (Int16.ofInt n).toInt32 = v) (k : B E Φ (pc + 3) L (vi v :: st) m a) : B E Φ pc L (st) m a := by
  intro p l e R s mi args below meth c G ad0 nx0 A ad H locs ls hOk hIn hL hst
  exact lv_sipush hOk.1 hOk.2.1 hd hv (k p l e R s mi args below meth c G ad0 nx0 A ad H locs ls hOk hIn hL (sw_i hst))
theorem b_lconst {E : ME} {Φ : Option AV → AM → Prop} {pc : Nat} {L : List (Option AV)} {st : List AV} {m : AM} {a : Nat × Nat} {n : Fin 2} (v : Int64) (hd : decode E.1 pc = .ok (.lconst n, 1)) (hv : Int64.ofNat (n : Nat) = v) (k : B E Φ (pc + 1) L (vl v :: st) m a) : B E Φ pc L (st) m a := by
  intro p l e R s mi args below meth c G ad0 nx0 A ad H locs ls hOk hIn hL hst
  exact lv_lconst hOk.1 hOk.2.1 hd hv (k p l e R s mi args below meth c G ad0 nx0 A ad H locs ls hOk hIn hL (sw_l hst))
theorem b_ldc {E : ME} {Φ : Option AV → AM → Prop} {pc : Nat} {L : List (Option AV)} {st : List AV} {m : AM} {a : Nat × Nat} {index : Nat} {v : Int32} (hc : Jvm.Cond.constant E.2.1 index v ∈ TB) (hd : decode E.1 pc = .ok (.ldc index, 2)) (k : B E Φ (pc + 2) L (vi v :: st) m a) : B E Φ pc L (st) m a := by
  intro p l e R s mi args below meth c G ad0 nx0 A ad H locs ls hOk hIn hL hst
  exact lv_ldc hOk.1 hOk.2.1 hOk.2.2.2.2.1 (hOk.2.2.2.2.2.1 _ hc) hd (k p l e R s mi args below meth c G ad0 nx0 A ad H locs ls hOk hIn hL (sw_i hst))
theorem b_ldcw {E : ME} {Φ : Option AV → AM → Prop} {pc : Nat} {L : List (Option AV)} {st : List AV} {m : AM} {a : Nat × Nat} {index : Nat} {v : Int32} (hc : Jvm.Cond.constant E.2.1 index v ∈ TB) (hd : decode E.1 pc = .ok (.ldc_w index, 3)) (k : B E Φ (pc + 3) L (vi v :: st) m a) : B E Φ pc L (st) m a := by
  intro p l e R s mi args below meth c G ad0 nx0 A ad H locs ls hOk hIn hL hst
  exact lv_ldcw hOk.1 hOk.2.1 hOk.2.2.2.2.1 (hOk.2.2.2.2.2.1 _ hc) hd (k p l e R s mi args below meth c G ad0 nx0 A ad H locs ls hOk hIn hL (sw_i hst))
theorem b_ldc2 {E : ME} {Φ : Option AV → AM → Prop} {pc : Nat} {L : List (Option AV)} {st : List AV} {m : AM} {a : Nat × Nat} {index : Nat} {v : Int64} (hc : Jvm.Cond.constantLong E.2.1 index v ∈ TB) (hd : decode E.1 pc = .ok (.ldc2_w index, 3)) (k : B E Φ (pc + 3) L (vl v :: st) m a) : B E Φ pc L (st) m a := by
  intro p l e R s mi args below meth c G ad0 nx0 A ad H locs ls hOk hIn hL hst
  exact lv_ldc2 hOk.1 hOk.2.1 hOk.2.2.2.2.1 (hOk.2.2.2.2.2.1 _ hc) hd (k p l e R s mi args below meth c G ad0 nx0 A ad H locs ls hOk hIn hL (sw_l hst))
theorem b_iadd {E : ME} {Φ : Option AV → AM → Prop} {pc : Nat} {L : List (Option AV)} {st : List AV} {m : AM} {a : Nat × Nat} {x y : Int32} (hd : decode E.1 pc = .ok (.iadd, 1)) (k : B E Φ (pc + 1) L (vi (x + y) :: st) m a) : B E Φ pc L (vi y :: vi x :: st) m a := by
  intro p l e R s mi args below meth c G ad0 nx0 A ad H locs ls hOk hIn hL hst
  exact lv_iadd hOk.1 hOk.2.1 hd (k p l e R s mi args below meth c G ad0 nx0 A ad H locs ls hOk hIn hL (sw_i (sw_tl (sw_tl hst))))
theorem b_isub {E : ME} {Φ : Option AV → AM → Prop} {pc : Nat} {L : List (Option AV)} {st : List AV} {m : AM} {a : Nat × Nat} {x y : Int32} (hd : decode E.1 pc = .ok (.isub, 1)) (k : B E Φ (pc + 1) L (vi (x - y) :: st) m a) : B E Φ pc L (vi y :: vi x :: st) m a := by
  intro p l e R s mi args below meth c G ad0 nx0 A ad H locs ls hOk hIn hL hst
  exact lv_isub hOk.1 hOk.2.1 hd (k p l e R s mi args below meth c G ad0 nx0 A ad H locs ls hOk hIn hL (sw_i (sw_tl (sw_tl hst))))
theorem b_imul {E : ME} {Φ : Option AV → AM → Prop} {pc : Nat} {L : List (Option AV)} {st : List AV} {m : AM} {a : Nat × Nat} {x y : Int32} (hd : decode E.1 pc = .ok (.imul, 1)) (k : B E Φ (pc + 1) L (vi (x * y) :: st) m a) : B E Φ pc L (vi y :: vi x :: st) m a := by
  intro p l e R s mi args below meth c G ad0 nx0 A ad H locs ls hOk hIn hL hst
  exact lv_imul hOk.1 hOk.2.1 hd (k p l e R s mi args below meth c G ad0 nx0 A ad H locs ls hOk hIn hL (sw_i (sw_tl (sw_tl hst))))
theorem b_iand {E : ME} {Φ : Option AV → AM → Prop} {pc : Nat} {L : List (Option AV)} {st : List AV} {m : AM} {a : Nat × Nat} {x y : Int32} (hd : decode E.1 pc = .ok (.iand, 1)) (k : B E Φ (pc + 1) L (vi (x &&& y) :: st) m a) : B E Φ pc L (vi y :: vi x :: st) m a := by
  intro p l e R s mi args below meth c G ad0 nx0 A ad H locs ls hOk hIn hL hst
  exact lv_iand hOk.1 hOk.2.1 hd (k p l e R s mi args below meth c G ad0 nx0 A ad H locs ls hOk hIn hL (sw_i (sw_tl (sw_tl hst))))
theorem b_ior {E : ME} {Φ : Option AV → AM → Prop} {pc : Nat} {L : List (Option AV)} {st : List AV} {m : AM} {a : Nat × Nat} {x y : Int32} (hd : decode E.1 pc = .ok (.ior, 1)) (k : B E Φ (pc + 1) L (vi (x ||| y) :: st) m a) : B E Φ pc L (vi y :: vi x :: st) m a := by
  intro p l e R s mi args below meth c G ad0 nx0 A ad H locs ls hOk hIn hL hst
  exact lv_ior hOk.1 hOk.2.1 hd (k p l e R s mi args below meth c G ad0 nx0 A ad H locs ls hOk hIn hL (sw_i (sw_tl (sw_tl hst))))
theorem b_ixor {E : ME} {Φ : Option AV → AM → Prop} {pc : Nat} {L : List (Option AV)} {st : List AV} {m : AM} {a : Nat × Nat} {x y : Int32} (hd : decode E.1 pc = .ok (.ixor, 1)) (k : B E Φ (pc + 1) L (vi (x ^^^ y) :: st) m a) : B E Φ pc L (vi y :: vi x :: st) m a := by
  intro p l e R s mi args below meth c G ad0 nx0 A ad H locs ls hOk hIn hL hst
  exact lv_ixor hOk.1 hOk.2.1 hd (k p l e R s mi args below meth c G ad0 nx0 A ad H locs ls hOk hIn hL (sw_i (sw_tl (sw_tl hst))))
theorem b_ishl {E : ME} {Φ : Option AV → AM → Prop} {pc : Nat} {L : List (Option AV)} {st : List AV} {m : AM} {a : Nat × Nat} {x y : Int32} (hd : decode E.1 pc = .ok (.ishl, 1)) (k : B E Φ (pc + 1) L (vi (x <<< (y &&& 31)) :: st) m a) : B E Φ pc L (vi y :: vi x :: st) m a := by
  intro p l e R s mi args below meth c G ad0 nx0 A ad H locs ls hOk hIn hL hst
  exact lv_ishl hOk.1 hOk.2.1 hd (k p l e R s mi args below meth c G ad0 nx0 A ad H locs ls hOk hIn hL (sw_i (sw_tl (sw_tl hst))))
theorem b_ishr {E : ME} {Φ : Option AV → AM → Prop} {pc : Nat} {L : List (Option AV)} {st : List AV} {m : AM} {a : Nat × Nat} {x y : Int32} (hd : decode E.1 pc = .ok (.ishr, 1)) (k : B E Φ (pc + 1) L (vi (x >>> (y &&& 31)) :: st) m a) : B E Φ pc L (vi y :: vi x :: st) m a := by
  intro p l e R s mi args below meth c G ad0 nx0 A ad H locs ls hOk hIn hL hst
  exact lv_ishr hOk.1 hOk.2.1 hd (k p l e R s mi args below meth c G ad0 nx0 A ad H locs ls hOk hIn hL (sw_i (sw_tl (sw_tl hst))))
theorem b_idiv {E : ME} {Φ : Option AV → AM → Prop} {pc : Nat} {L : List (Option AV)} {st : List AV} {m : AM} {a : Nat × Nat} {x y : Int32} (hd : decode E.1 pc = .ok (.idiv, 1)) (hy : ¬ y = 0) (k : B E Φ (pc + 1) L (vi (x / y) :: st) m a) : B E Φ pc L (vi y :: vi x :: st) m a := by
  intro p l e R s mi args below meth c G ad0 nx0 A ad H locs ls hOk hIn hL hst
  exact lv_idiv hOk.1 hOk.2.1 hd hy (k p l e R s mi args below meth c G ad0 nx0 A ad H locs ls hOk hIn hL (sw_i (sw_tl (sw_tl hst))))
theorem b_irem {E : ME} {Φ : Option AV → AM → Prop} {pc : Nat} {L : List (Option AV)} {st : List AV} {m : AM} {a : Nat × Nat} {x y : Int32} (hd : decode E.1 pc = .ok (.irem, 1)) (hy : ¬ y = 0) (k : B E Φ (pc + 1) L (vi (x - x / y * y) :: st) m a) : B E Φ pc L (vi y :: vi x :: st) m a := by
  intro p l e R s mi args below meth c G ad0 nx0 A ad H locs ls hOk hIn hL hst
  exact lv_irem hOk.1 hOk.2.1 hd hy (k p l e R s mi args below meth c G ad0 nx0 A ad H locs ls hOk hIn hL (sw_i (sw_tl (sw_tl hst))))
theorem b_ladd {E : ME} {Φ : Option AV → AM → Prop} {pc : Nat} {L : List (Option AV)} {st : List AV} {m : AM} {a : Nat × Nat} {x y : Int64} (hd : decode E.1 pc = .ok (.ladd, 1)) (k : B E Φ (pc + 1) L (vl (x + y) :: st) m a) : B E Φ pc L (vl y :: vl x :: st) m a := by
  intro p l e R s mi args below meth c G ad0 nx0 A ad H locs ls hOk hIn hL hst
  exact lv_ladd hOk.1 hOk.2.1 hd (k p l e R s mi args below meth c G ad0 nx0 A ad H locs ls hOk hIn hL (sw_l (sw_tl (sw_tl hst))))
theorem b_lsub {E : ME} {Φ : Option AV → AM → Prop} {pc : Nat} {L : List (Option AV)} {st : List AV} {m : AM} {a : Nat × Nat} {x y : Int64} (hd : decode E.1 pc = .ok (.lsub, 1)) (k : B E Φ (pc + 1) L (vl (x - y) :: st) m a) : B E Φ pc L (vl y :: vl x :: st) m a := by
  intro p l e R s mi args below meth c G ad0 nx0 A ad H locs ls hOk hIn hL hst
  exact lv_lsub hOk.1 hOk.2.1 hd (k p l e R s mi args below meth c G ad0 nx0 A ad H locs ls hOk hIn hL (sw_l (sw_tl (sw_tl hst))))
theorem b_lmul {E : ME} {Φ : Option AV → AM → Prop} {pc : Nat} {L : List (Option AV)} {st : List AV} {m : AM} {a : Nat × Nat} {x y : Int64} (hd : decode E.1 pc = .ok (.lmul, 1)) (k : B E Φ (pc + 1) L (vl (x * y) :: st) m a) : B E Φ pc L (vl y :: vl x :: st) m a := by
  intro p l e R s mi args below meth c G ad0 nx0 A ad H locs ls hOk hIn hL hst
  exact lv_lmul hOk.1 hOk.2.1 hd (k p l e R s mi args below meth c G ad0 nx0 A ad H locs ls hOk hIn hL (sw_l (sw_tl (sw_tl hst))))
theorem b_lor {E : ME} {Φ : Option AV → AM → Prop} {pc : Nat} {L : List (Option AV)} {st : List AV} {m : AM} {a : Nat × Nat} {x y : Int64} (hd : decode E.1 pc = .ok (.lor, 1)) (k : B E Φ (pc + 1) L (vl (x ||| y) :: st) m a) : B E Φ pc L (vl y :: vl x :: st) m a := by
  intro p l e R s mi args below meth c G ad0 nx0 A ad H locs ls hOk hIn hL hst
  exact lv_lor hOk.1 hOk.2.1 hd (k p l e R s mi args below meth c G ad0 nx0 A ad H locs ls hOk hIn hL (sw_l (sw_tl (sw_tl hst))))
theorem b_land {E : ME} {Φ : Option AV → AM → Prop} {pc : Nat} {L : List (Option AV)} {st : List AV} {m : AM} {a : Nat × Nat} {x y : Int64} (hd : decode E.1 pc = .ok (.land, 1)) (k : B E Φ (pc + 1) L (vl (x &&& y) :: st) m a) : B E Φ pc L (vl y :: vl x :: st) m a := by
  intro p l e R s mi args below meth c G ad0 nx0 A ad H locs ls hOk hIn hL hst
  exact lv_land hOk.1 hOk.2.1 hd (k p l e R s mi args below meth c G ad0 nx0 A ad H locs ls hOk hIn hL (sw_l (sw_tl (sw_tl hst))))
theorem b_ldiv {E : ME} {Φ : Option AV → AM → Prop} {pc : Nat} {L : List (Option AV)} {st : List AV} {m : AM} {a : Nat × Nat} {x y : Int64} (hd : decode E.1 pc = .ok (.ldiv, 1)) (hy : ¬ y = 0) (k : B E Φ (pc + 1) L (vl (x / y) :: st) m a) : B E Φ pc L (vl y :: vl x :: st) m a := by
  intro p l e R s mi args below meth c G ad0 nx0 A ad H locs ls hOk hIn hL hst
  exact lv_ldiv hOk.1 hOk.2.1 hd hy (k p l e R s mi args below meth c G ad0 nx0 A ad H locs ls hOk hIn hL (sw_l (sw_tl (sw_tl hst))))
theorem b_lrem {E : ME} {Φ : Option AV → AM → Prop} {pc : Nat} {L : List (Option AV)} {st : List AV} {m : AM} {a : Nat × Nat} {x y : Int64} (hd : decode E.1 pc = .ok (.lrem, 1)) (hy : ¬ y = 0) (k : B E Φ (pc + 1) L (vl (x - x / y * y) :: st) m a) : B E Φ pc L (vl y :: vl x :: st) m a := by
  intro p l e R s mi args below meth c G ad0 nx0 A ad H locs ls hOk hIn hL hst
  exact lv_lrem hOk.1 hOk.2.1 hd hy (k p l e R s mi args below meth c G ad0 nx0 A ad H locs ls hOk hIn hL (sw_l (sw_tl (sw_tl hst))))
theorem b_ineg {E : ME} {Φ : Option AV → AM → Prop} {pc : Nat} {L : List (Option AV)} {st : List AV} {m : AM} {a : Nat × Nat} {x : Int32} (hd : decode E.1 pc = .ok (.ineg, 1)) (k : B E Φ (pc + 1) L (vi (-x) :: st) m a) : B E Φ pc L (vi x :: st) m a := by
  intro p l e R s mi args below meth c G ad0 nx0 A ad H locs ls hOk hIn hL hst
  exact lv_ineg hOk.1 hOk.2.1 hd (k p l e R s mi args below meth c G ad0 nx0 A ad H locs ls hOk hIn hL (sw_i (sw_tl hst)))
theorem b_iushr {E : ME} {Φ : Option AV → AM → Prop} {pc : Nat} {L : List (Option AV)} {st : List AV} {m : AM} {a : Nat × Nat} {x y : Int32} (hd : decode E.1 pc = .ok (.iushr, 1)) (k : B E Φ (pc + 1) L (vi ((x.toUInt32 >>> (y.toUInt32 &&& Int32.toUInt32 31)).toInt32) :: st) m a) : B E Φ pc L (vi y :: vi x :: st) m a := by
  intro p l e R s mi args below meth c G ad0 nx0 A ad H locs ls hOk hIn hL hst
  exact lv_iushr hOk.1 hOk.2.1 hd rfl (k p l e R s mi args below meth c G ad0 nx0 A ad H locs ls hOk hIn hL (sw_i (sw_tl (sw_tl hst))))
theorem b_lushr {E : ME} {Φ : Option AV → AM → Prop} {pc : Nat} {L : List (Option AV)} {st : List AV} {m : AM} {a : Nat × Nat} {x : Int64} {y : Int32} (hd : decode E.1 pc = .ok (.lushr, 1)) (k : B E Φ (pc + 1) L (vl ((x.toUInt64 >>> (y.toInt64.toUInt64 &&& Int64.toUInt64 63)).toInt64) :: st) m a) : B E Φ pc L (vi y :: vl x :: st) m a := by
  intro p l e R s mi args below meth c G ad0 nx0 A ad H locs ls hOk hIn hL hst
  exact lv_lushr hOk.1 hOk.2.1 hd rfl (k p l e R s mi args below meth c G ad0 nx0 A ad H locs ls hOk hIn hL (sw_l (sw_tl (sw_tl hst))))
theorem b_lshl {E : ME} {Φ : Option AV → AM → Prop} {pc : Nat} {L : List (Option AV)} {st : List AV} {m : AM} {a : Nat × Nat} {x : Int64} {y : Int32} (hd : decode E.1 pc = .ok (.lshl, 1)) (k : B E Φ (pc + 1) L (vl (x <<< (y.toInt64 &&& 63)) :: st) m a) : B E Φ pc L (vi y :: vl x :: st) m a := by
  intro p l e R s mi args below meth c G ad0 nx0 A ad H locs ls hOk hIn hL hst
  exact lv_lshl hOk.1 hOk.2.1 hd rfl (k p l e R s mi args below meth c G ad0 nx0 A ad H locs ls hOk hIn hL (sw_l (sw_tl (sw_tl hst))))
theorem b_i2l {E : ME} {Φ : Option AV → AM → Prop} {pc : Nat} {L : List (Option AV)} {st : List AV} {m : AM} {a : Nat × Nat} {x : Int32} (hd : decode E.1 pc = .ok (.i2l, 1)) (k : B E Φ (pc + 1) L (vl (x.toInt64) :: st) m a) : B E Φ pc L (vi x :: st) m a := by
  intro p l e R s mi args below meth c G ad0 nx0 A ad H locs ls hOk hIn hL hst
  exact lv_i2l hOk.1 hOk.2.1 hd rfl (k p l e R s mi args below meth c G ad0 nx0 A ad H locs ls hOk hIn hL (sw_l (sw_tl hst)))
theorem b_l2i {E : ME} {Φ : Option AV → AM → Prop} {pc : Nat} {L : List (Option AV)} {st : List AV} {m : AM} {a : Nat × Nat} {x : Int64} (hd : decode E.1 pc = .ok (.l2i, 1)) (k : B E Φ (pc + 1) L (vi (x.toInt32) :: st) m a) : B E Φ pc L (vl x :: st) m a := by
  intro p l e R s mi args below meth c G ad0 nx0 A ad H locs ls hOk hIn hL hst
  exact lv_l2i hOk.1 hOk.2.1 hd rfl (k p l e R s mi args below meth c G ad0 nx0 A ad H locs ls hOk hIn hL (sw_i (sw_tl hst)))
theorem b_i2b {E : ME} {Φ : Option AV → AM → Prop} {pc : Nat} {L : List (Option AV)} {st : List AV} {m : AM} {a : Nat × Nat} {x : Int32} (hd : decode E.1 pc = .ok (.i2b, 1)) (k : B E Φ (pc + 1) L (vi (x.toInt8.toInt32) :: st) m a) : B E Φ pc L (vi x :: st) m a := by
  intro p l e R s mi args below meth c G ad0 nx0 A ad H locs ls hOk hIn hL hst
  exact lv_i2b hOk.1 hOk.2.1 hd rfl (k p l e R s mi args below meth c G ad0 nx0 A ad H locs ls hOk hIn hL (sw_i (sw_tl hst)))
theorem b_i2s {E : ME} {Φ : Option AV → AM → Prop} {pc : Nat} {L : List (Option AV)} {st : List AV} {m : AM} {a : Nat × Nat} {x : Int32} (hd : decode E.1 pc = .ok (.i2s, 1)) (k : B E Φ (pc + 1) L (vi (x.toInt16.toInt32) :: st) m a) : B E Φ pc L (vi x :: st) m a := by
  intro p l e R s mi args below meth c G ad0 nx0 A ad H locs ls hOk hIn hL hst
  exact lv_i2s hOk.1 hOk.2.1 hd rfl (k p l e R s mi args below meth c G ad0 nx0 A ad H locs ls hOk hIn hL (sw_i (sw_tl hst)))
theorem b_lcmp {E : ME} {Φ : Option AV → AM → Prop} {pc : Nat} {L : List (Option AV)} {st : List AV} {m : AM} {a : Nat × Nat} {x y : Int64} (hd : decode E.1 pc = .ok (.lcmp, 1)) (k : B E Φ (pc + 1) L (vi (lg_cmp x y) :: st) m a) : B E Φ pc L (vl y :: vl x :: st) m a := by
  intro p l e R s mi args below meth c G ad0 nx0 A ad H locs ls hOk hIn hL hst
  exact W.lcmp hOk.1 hOk.2.1 hd (k p l e R s mi args below meth c G ad0 nx0 A ad H locs ls hOk hIn hL (sw_i (sw_tl (sw_tl hst))))
end
section
/-! ROWS, second part: branches, locals, returns, arrays. -/
theorem KDl_len : KDl.length = 125 := by decide +kernel
theorem KD_ge {i : Nat} (h : 125 ≤ i) : KD i = 12 := by
  unfold KD
  rw [List.getD_eq_getElem?_getD, List.getElem?_eq_none (by rw [KDl_len]; exact h)]
  rfl
theorem b_if_eq {E : ME} {Φ : Option AV → AM → Prop} {pc : Nat} {L : List (Option AV)} {st : List AV} {m : AM} {a : Nat × Nat} {x : Int32} {off : Int} (tgt : Nat) (hd : decode E.1 pc = .ok (.ifCond .eq off, 3)) (ht : (pc : Int) + off = (tgt : Int)) (kt : x = 0 → B E Φ tgt L st m a) (kf : ¬ x = 0 → B E Φ (pc + 3) L st m a) : B E Φ pc (L) (vi x :: st) m a := by
  intro p l e R s mi args below meth c G ad0 nx0 A ad H locs ls hOk hIn hL hst
  exact lv_if_eq hOk.1 hOk.2.1 hd ht (fun h => kt h p l e R s mi args below meth c G ad0 nx0 A ad H locs ls hOk hIn hL (sw_tl hst)) (fun h => kf h p l e R s mi args below meth c G ad0 nx0 A ad H locs ls hOk hIn hL (sw_tl hst))
theorem b_if_ne {E : ME} {Φ : Option AV → AM → Prop} {pc : Nat} {L : List (Option AV)} {st : List AV} {m : AM} {a : Nat × Nat} {x : Int32} {off : Int} (tgt : Nat) (hd : decode E.1 pc = .ok (.ifCond .ne off, 3)) (ht : (pc : Int) + off = (tgt : Int)) (kt : ¬ x = 0 → B E Φ tgt L st m a) (kf : x = 0 → B E Φ (pc + 3) L st m a) : B E Φ pc (L) (vi x :: st) m a := by
  intro p l e R s mi args below meth c G ad0 nx0 A ad H locs ls hOk hIn hL hst
  exact lv_if_ne hOk.1 hOk.2.1 hd ht (fun h => kt h p l e R s mi args below meth c G ad0 nx0 A ad H locs ls hOk hIn hL (sw_tl hst)) (fun h => kf h p l e R s mi args below meth c G ad0 nx0 A ad H locs ls hOk hIn hL (sw_tl hst))
theorem b_if_lt {E : ME} {Φ : Option AV → AM → Prop} {pc : Nat} {L : List (Option AV)} {st : List AV} {m : AM} {a : Nat × Nat} {x : Int32} {off : Int} (tgt : Nat) (hd : decode E.1 pc = .ok (.ifCond .lt off, 3)) (ht : (pc : Int) + off = (tgt : Int)) (kt : x < 0 → B E Φ tgt L st m a) (kf : ¬ x < 0 → B E Φ (pc + 3) L st m a) : B E Φ pc (L) (vi x :: st) m a := by
  intro p l e R s mi args below meth c G ad0 nx0 A ad H locs ls hOk hIn hL hst
  exact lv_if_lt hOk.1 hOk.2.1 hd ht (fun h => kt h p l e R s mi args below meth c G ad0 nx0 A ad H locs ls hOk hIn hL (sw_tl hst)) (fun h => kf h p l e R s mi args below meth c G ad0 nx0 A ad H locs ls hOk hIn hL (sw_tl hst))
theorem b_if_ge {E : ME} {Φ : Option AV → AM → Prop} {pc : Nat} {L : List (Option AV)} {st : List AV} {m : AM} {a : Nat × Nat} {x : Int32} {off : Int} (tgt : Nat) (hd : decode E.1 pc = .ok (.ifCond .ge off, 3)) (ht : (pc : Int) + off = (tgt : Int)) (kt : 0 ≤ x → B E Φ tgt L st m a) (kf : ¬ 0 ≤ x → B E Φ (pc + 3) L st m a) : B E Φ pc (L) (vi x :: st) m a := by
  intro p l e R s mi args below meth c G ad0 nx0 A ad H locs ls hOk hIn hL hst
  exact lv_if_ge hOk.1 hOk.2.1 hd ht (fun h => kt h p l e R s mi args below meth c G ad0 nx0 A ad H locs ls hOk hIn hL (sw_tl hst)) (fun h => kf h p l e R s mi args below meth c G ad0 nx0 A ad H locs ls hOk hIn hL (sw_tl hst))
theorem b_if_gt {E : ME} {Φ : Option AV → AM → Prop} {pc : Nat} {L : List (Option AV)} {st : List AV} {m : AM} {a : Nat × Nat} {x : Int32} {off : Int} (tgt : Nat) (hd : decode E.1 pc = .ok (.ifCond .gt off, 3)) (ht : (pc : Int) + off = (tgt : Int)) (kt : 0 < x → B E Φ tgt L st m a) (kf : ¬ 0 < x → B E Φ (pc + 3) L st m a) : B E Φ pc (L) (vi x :: st) m a := by
  intro p l e R s mi args below meth c G ad0 nx0 A ad H locs ls hOk hIn hL hst
  exact lv_if_gt hOk.1 hOk.2.1 hd ht (fun h => kt h p l e R s mi args below meth c G ad0 nx0 A ad H locs ls hOk hIn hL (sw_tl hst)) (fun h => kf h p l e R s mi args below meth c G ad0 nx0 A ad H locs ls hOk hIn hL (sw_tl hst))
theorem b_if_le {E : ME} {Φ : Option AV → AM → Prop} {pc : Nat} {L : List (Option AV)} {st : List AV} {m : AM} {a : Nat × Nat} {x : Int32} {off : Int} (tgt : Nat) (hd : decode E.1 pc = .ok (.ifCond .le off, 3)) (ht : (pc : Int) + off = (tgt : Int)) (kt : x ≤ 0 → B E Φ tgt L st m a) (kf : ¬ x ≤ 0 → B E Φ (pc + 3) L st m a) : B E Φ pc (L) (vi x :: st) m a := by
  intro p l e R s mi args below meth c G ad0 nx0 A ad H locs ls hOk hIn hL hst
  exact lv_if_le hOk.1 hOk.2.1 hd ht (fun h => kt h p l e R s mi args below meth c G ad0 nx0 A ad H locs ls hOk hIn hL (sw_tl hst)) (fun h => kf h p l e R s mi args below meth c G ad0 nx0 A ad H locs ls hOk hIn hL (sw_tl hst))
theorem b_icmp_eq {E : ME} {Φ : Option AV → AM → Prop} {pc : Nat} {L : List (Option AV)} {st : List AV} {m : AM} {a : Nat × Nat} {x y : Int32} {off : Int} (tgt : Nat) (hd : decode E.1 pc = .ok (.if_icmp .eq off, 3)) (ht : (pc : Int) + off = (tgt : Int)) (kt : x = y → B E Φ tgt L st m a) (kf : ¬ x = y → B E Φ (pc + 3) L st m a) : B E Φ pc (L) (vi y :: vi x :: st) m a := by
  intro p l e R s mi args below meth c G ad0 nx0 A ad H locs ls hOk hIn hL hst
  exact lv_icmp_eq hOk.1 hOk.2.1 hd ht (fun h => kt h p l e R s mi args below meth c G ad0 nx0 A ad H locs ls hOk hIn hL (sw_tl (sw_tl hst))) (fun h => kf h p l e R s mi args below meth c G ad0 nx0 A ad H locs ls hOk hIn hL (sw_tl (sw_tl hst)))
theorem b_icmp_ne {E : ME} {Φ : Option AV → AM → Prop} {pc : Nat} {L : List (Option AV)} {st : List AV} {m : AM} {a : Nat × Nat} {x y : Int32} {off : Int} (tgt : Nat) (hd : decode E.1 pc = .ok (.if_icmp .ne off, 3)) (ht : (pc : Int) + off = (tgt : Int)) (kt : ¬ x = y → B E Φ tgt L st m a) (kf : x = y → B E Φ (pc + 3) L st m a) : B E Φ pc (L) (vi y :: vi x :: st) m a := by
  intro p l e R s mi args below meth c G ad0 nx0 A ad H locs ls hOk hIn hL hst
  exact lv_icmp_ne hOk.1 hOk.2.1 hd ht (fun h => kt h p l e R s mi args below meth c G ad0 nx0 A ad H locs ls hOk hIn hL (sw_tl (sw_tl hst))) (fun h => kf h p l e R s mi args below meth c G ad0 nx0 A ad H locs ls hOk hIn hL (sw_tl (sw_tl hst)))
theorem b_icmp_lt {E : ME} {Φ : Option AV → AM → Prop} {pc : Nat} {L : List (Option AV)} {st : List AV} {m : AM} {a : Nat × Nat} {x y : Int32} {off : Int} (tgt : Nat) (hd : decode E.1 pc = .ok (.if_icmp .lt off, 3)) (ht : (pc : Int) + off = (tgt : Int)) (kt : x < y → B E Φ tgt L st m a) (kf : ¬ x < y → B E Φ (pc + 3) L st m a) : B E Φ pc (L) (vi y :: vi x :: st) m a := by
  intro p l e R s mi args below meth c G ad0 nx0 A ad H locs ls hOk hIn hL hst
  exact lv_icmp_lt hOk.1 hOk.2.1 hd ht (fun h => kt h p l e R s mi args below meth c G ad0 nx0 A ad H locs ls hOk hIn hL (sw_tl (sw_tl hst))) (fun h => kf h p l e R s mi args below meth c G ad0 nx0 A ad H locs ls hOk hIn hL (sw_tl (sw_tl hst)))
theorem b_icmp_ge {E : ME} {Φ : Option AV → AM → Prop} {pc : Nat} {L : List (Option AV)} {st : List AV} {m : AM} {a : Nat × Nat} {x y : Int32} {off : Int} (tgt : Nat) (hd : decode E.1 pc = .ok (.if_icmp .ge off, 3)) (ht : (pc : Int) + off = (tgt : Int)) (kt : y ≤ x → B E Φ tgt L st m a) (kf : ¬ y ≤ x → B E Φ (pc + 3) L st m a) : B E Φ pc (L) (vi y :: vi x :: st) m a := by
  intro p l e R s mi args below meth c G ad0 nx0 A ad H locs ls hOk hIn hL hst
  exact lv_icmp_ge hOk.1 hOk.2.1 hd ht (fun h => kt h p l e R s mi args below meth c G ad0 nx0 A ad H locs ls hOk hIn hL (sw_tl (sw_tl hst))) (fun h => kf h p l e R s mi args below meth c G ad0 nx0 A ad H locs ls hOk hIn hL (sw_tl (sw_tl hst)))
theorem b_icmp_gt {E : ME} {Φ : Option AV → AM → Prop} {pc : Nat} {L : List (Option AV)} {st : List AV} {m : AM} {a : Nat × Nat} {x y : Int32} {off : Int} (tgt : Nat) (hd : decode E.1 pc = .ok (.if_icmp .gt off, 3)) (ht : (pc : Int) + off = (tgt : Int)) (kt : y < x → B E Φ tgt L st m a) (kf : ¬ y < x → B E Φ (pc + 3) L st m a) : B E Φ pc (L) (vi y :: vi x :: st) m a := by
  intro p l e R s mi args below meth c G ad0 nx0 A ad H locs ls hOk hIn hL hst
  exact lv_icmp_gt hOk.1 hOk.2.1 hd ht (fun h => kt h p l e R s mi args below meth c G ad0 nx0 A ad H locs ls hOk hIn hL (sw_tl (sw_tl hst))) (fun h => kf h p l e R s mi args below meth c G ad0 nx0 A ad H locs ls hOk hIn hL (sw_tl (sw_tl hst)))
theorem b_icmp_le {E : ME} {Φ : Option AV → AM → Prop} {pc : Nat} {L : List (Option AV)} {st : List AV} {m : AM} {a : Nat × Nat} {x y : Int32} {off : Int} (tgt : Nat) (hd : decode E.1 pc = .ok (.if_icmp .le off, 3)) (ht : (pc : Int) + off = (tgt : Int)) (kt : x ≤ y → B E Φ tgt L st m a) (kf : ¬ x ≤ y → B E Φ (pc + 3) L st m a) : B E Φ pc (L) (vi y :: vi x :: st) m a := by
  intro p l e R s mi args below meth c G ad0 nx0 A ad H locs ls hOk hIn hL hst
  exact lv_icmp_le hOk.1 hOk.2.1 hd ht (fun h => kt h p l e R s mi args below meth c G ad0 nx0 A ad H locs ls hOk hIn hL (sw_tl (sw_tl hst))) (fun h => kf h p l e R s mi args below meth c G ad0 nx0 A ad H locs ls hOk hIn hL (sw_tl (sw_tl hst)))
theorem b_goto {E : ME} {Φ : Option AV → AM → Prop} {pc : Nat} {L : List (Option AV)} {st : List AV} {m : AM} {a : Nat × Nat} {off : Int} (tgt : Nat) (hd : decode E.1 pc = .ok (.goto off, 3)) (ht : (pc : Int) + off = (tgt : Int)) (k : B E Φ tgt L st m a) : B E Φ pc (L) (st) m a := by
  intro p l e R s mi args below meth c G ad0 nx0 A ad H locs ls hOk hIn hL hst
  exact lv_goto hOk.1 hOk.2.1 hd ht (k p l e R s mi args below meth c G ad0 nx0 A ad H locs ls hOk hIn hL hst)
theorem b_tableIn {E : ME} {Φ : Option AV → AM → Prop} {pc : Nat} {L : List (Option AV)} {st : List AV} {m : AM} {a : Nat × Nat} {dflt lo hi : Int} {offs : Array Int} {len : Nat} {x : Int32} {off : Int} (tgt : Nat) (hd : decode E.1 pc = .ok (.tableswitch dflt lo hi offs, len)) (h1 : ¬ x.toInt < lo) (h2 : ¬ hi < x.toInt) (ho : offs[(x.toInt - lo).toNat]? = some off) (ht : (pc : Int) + off = (tgt : Int)) (k : B E Φ tgt L st m a) : B E Φ pc (L) (vi x :: st) m a := by
  intro p l e R s mi args below meth c G ad0 nx0 A ad H locs ls hOk hIn hL hst
  exact lv_tableIn hOk.1 hOk.2.1 hd h1 h2 ho ht (k p l e R s mi args below meth c G ad0 nx0 A ad H locs ls hOk hIn hL (sw_tl hst))
theorem b_tableOut {E : ME} {Φ : Option AV → AM → Prop} {pc : Nat} {L : List (Option AV)} {st : List AV} {m : AM} {a : Nat × Nat} {dflt lo hi : Int} {offs : Array Int} {len : Nat} {x : Int32} (tgt : Nat) (hd : decode E.1 pc = .ok (.tableswitch dflt lo hi offs, len)) (h : x.toInt < lo ∨ hi < x.toInt) (ht : (pc : Int) + dflt = (tgt : Int)) (k : B E Φ tgt L st m a) : B E Φ pc (L) (vi x :: st) m a := by
  intro p l e R s mi args below meth c G ad0 nx0 A ad H locs ls hOk hIn hL hst
  exact lv_tableOut hOk.1 hOk.2.1 hd h ht (k p l e R s mi args below meth c G ad0 nx0 A ad H locs ls hOk hIn hL (sw_tl hst))
theorem b_lookup {E : ME} {Φ : Option AV → AM → Prop} {pc : Nat} {L : List (Option AV)} {st : List AV} {m : AM} {a : Nat × Nat} {dflt : Int} {ps : Array (Int × Int)} {len : Nat} {x : Int32} {off : Int} (tgt : Nat) (hd : decode E.1 pc = .ok (.lookupswitch dflt ps, len)) (hp : (ps.toList.zip (ps.toList.drop 1)).all (fun (a, next) => a.1 < next.1) = true) (ho : Op.lookupswitch.offset ps.toList dflt x.toInt = off) (ht : (pc : Int) + off = (tgt : Int)) (k : B E Φ tgt L st m a) : B E Φ pc (L) (vi x :: st) m a := by
  intro p l e R s mi args below meth c G ad0 nx0 A ad H locs ls hOk hIn hL hst
  exact lv_lookup hOk.1 hOk.2.1 hd hp ho ht (k p l e R s mi args below meth c G ad0 nx0 A ad H locs ls hOk hIn hL (sw_tl hst))
theorem b_dup_i {E : ME} {Φ : Option AV → AM → Prop} {pc : Nat} {L : List (Option AV)} {st : List AV} {m : AM} {a : Nat × Nat} {x : Int32} (hd : decode E.1 pc = .ok (.dup, 1)) (k : B E Φ (pc + 1) L (vi x :: vi x :: st) m a) : B E Φ pc (L) (vi x :: st) m a := by
  intro p l e R s mi args below meth c G ad0 nx0 A ad H locs ls hOk hIn hL hst
  exact lv_dup hOk.1 hOk.2.1 hd rfl (k p l e R s mi args below meth c G ad0 nx0 A ad H locs ls hOk hIn hL (sw_i hst))
theorem b_dup_r {E : ME} {Φ : Option AV → AM → Prop} {pc : Nat} {L : List (Option AV)} {st : List AV} {m : AM} {a : Nat × Nat} {t i : Nat} (hd : decode E.1 pc = .ok (.dup, 1)) (k : B E Φ (pc + 1) L (vr t i :: vr t i :: st) m a) : B E Φ pc (L) (vr t i :: st) m a := by
  intro p l e R s mi args below meth c G ad0 nx0 A ad H locs ls hOk hIn hL hst
  exact lv_dup hOk.1 hOk.2.1 hd rfl (k p l e R s mi args below meth c G ad0 nx0 A ad H locs ls hOk hIn hL (sw_c (hst _ List.mem_cons_self) hst))
theorem b_dup2 {E : ME} {Φ : Option AV → AM → Prop} {pc : Nat} {L : List (Option AV)} {st : List AV} {m : AM} {a : Nat × Nat} {t i : Nat} {x : Int32} (hd : decode E.1 pc = .ok (.dup2, 1)) (k : B E Φ (pc + 1) L (vi x :: vr t i :: vi x :: vr t i :: st) m a) : B E Φ pc (L) (vi x :: vr t i :: st) m a := by
  intro p l e R s mi args below meth c G ad0 nx0 A ad H locs ls hOk hIn hL hst
  exact lv_dup2_11 hOk.1 hOk.2.1 hd rfl rfl (k p l e R s mi args below meth c G ad0 nx0 A ad H locs ls hOk hIn hL (sw_i (sw_c (hst _ (List.mem_cons_of_mem _ List.mem_cons_self)) hst)))
theorem b_pop_i {E : ME} {Φ : Option AV → AM → Prop} {pc : Nat} {L : List (Option AV)} {st : List AV} {m : AM} {a : Nat × Nat} {x : Int32} (hd : decode E.1 pc = .ok (.pop, 1)) (k : B E Φ (pc + 1) L st m a) : B E Φ pc (L) (vi x :: st) m a := by
  intro p l e R s mi args below meth c G ad0 nx0 A ad H locs ls hOk hIn hL hst
  exact lv_pop hOk.1 hOk.2.1 hd rfl (k p l e R s mi args below meth c G ad0 nx0 A ad H locs ls hOk hIn hL (sw_tl hst))
theorem b_dup_x1 {E : ME} {Φ : Option AV → AM → Prop} {pc : Nat} {L : List (Option AV)} {st : List AV} {m : AM} {a : Nat × Nat} {t i : Nat} {x : Int32} (hd : decode E.1 pc = .ok (.dup_x1, 1)) (k : B E Φ (pc + 1) L (vi x :: vr t i :: vi x :: st) m a) : B E Φ pc (L) (vi x :: vr t i :: st) m a := by
  intro p l e R s mi args below meth c G ad0 nx0 A ad H locs ls hOk hIn hL hst
  exact lv_dup_x1 hOk.1 hOk.2.1 hd rfl rfl (k p l e R s mi args below meth c G ad0 nx0 A ad H locs ls hOk hIn hL (sw_i (sw_c (hst _ (List.mem_cons_of_mem _ List.mem_cons_self)) (sw_i (sw_tl (sw_tl hst))))))
theorem b_iloadN {E : ME} {Φ : Option AV → AM → Prop} {pc : Nat} {L : List (Option AV)} {st : List AV} {m : AM} {a : Nat × Nat} {k4 : Fin 4} {x : Int32} (j : Nat) (hd : decode E.1 pc = .ok (.iload_n k4, 1)) (hj : (k4 : Nat) = j) (hl : L[j]? = some (some (vi x))) (k : B E Φ (pc + 1) L (vi x :: st) m a) : B E Φ pc (L) (st) m a := by
  intro p l e R s mi args below meth c G ad0 nx0 A ad H locs ls hOk hIn hL hst
  exact lv_iload_n hOk.1 hOk.2.1 hd hj (hL.2.2 _ _ hl).1 (k p l e R s mi args below meth c G ad0 nx0 A ad H locs ls hOk hIn hL (sw_i hst))
theorem b_iloadG {E : ME} {Φ : Option AV → AM → Prop} {pc : Nat} {L : List (Option AV)} {st : List AV} {m : AM} {a : Nat × Nat} {x : Int32} (j : Nat) (hd : decode E.1 pc = .ok (.iload j, 2)) (hl : L[j]? = some (some (vi x))) (k : B E Φ (pc + 2) L (vi x :: st) m a) : B E Φ pc (L) (st) m a := by
  intro p l e R s mi args below meth c G ad0 nx0 A ad H locs ls hOk hIn hL hst
  exact lv_iload hOk.1 hOk.2.1 hd (hL.2.2 _ _ hl).1 (k p l e R s mi args below meth c G ad0 nx0 A ad H locs ls hOk hIn hL (sw_i hst))
theorem b_lloadN {E : ME} {Φ : Option AV → AM → Prop} {pc : Nat} {L : List (Option AV)} {st : List AV} {m : AM} {a : Nat × Nat} {k4 : Fin 4} {x : Int64} (j : Nat) (hd : decode E.1 pc = .ok (.lload_n k4, 1)) (hj : (k4 : Nat) = j) (hl : L[j]? = some (some (vl x))) (k : B E Φ (pc + 1) L (vl x :: st) m a) : B E Φ pc (L) (st) m a := by
  intro p l e R s mi args below meth c G ad0 nx0 A ad H locs ls hOk hIn hL hst
  exact lv_lload_n hOk.1 hOk.2.1 hd hj (hL.2.2 _ _ hl).1 (k p l e R s mi args below meth c G ad0 nx0 A ad H locs ls hOk hIn hL (sw_l hst))
theorem b_lloadG {E : ME} {Φ : Option AV → AM → Prop} {pc : Nat} {L : List (Option AV)} {st : List AV} {m : AM} {a : Nat × Nat} {x : Int64} (j : Nat) (hd : decode E.1 pc = .ok (.lload j, 2)) (hl : L[j]? = some (some (vl x))) (k : B E Φ (pc + 2) L (vl x :: st) m a) : B E Φ pc (L) (st) m a := by
  intro p l e R s mi args below meth c G ad0 nx0 A ad H locs ls hOk hIn hL hst
  exact lv_lload hOk.1 hOk.2.1 hd (hL.2.2 _ _ hl).1 (k p l e R s mi args below meth c G ad0 nx0 A ad H locs ls hOk hIn hL (sw_l hst))
theorem b_aloadN {E : ME} {Φ : Option AV → AM → Prop} {pc : Nat} {L : List (Option AV)} {st : List AV} {m : AM} {a : Nat × Nat} {k4 : Fin 4} {t i : Nat} (j : Nat) (hd : decode E.1 pc = .ok (.aload_n k4, 1)) (hj : (k4 : Nat) = j) (hl : L[j]? = some (some (vr t i))) (k : B E Φ (pc + 1) L (vr t i :: st) m a) : B E Φ pc (L) (st) m a := by
  intro p l e R s mi args below meth c G ad0 nx0 A ad H locs ls hOk hIn hL hst
  exact lv_aload_n hOk.1 hOk.2.1 hd hj (hL.2.2 _ _ hl).1 (k p l e R s mi args below meth c G ad0 nx0 A ad H locs ls hOk hIn hL (sw_c (hL.2.2 _ _ hl).2 hst))
theorem b_aloadG {E : ME} {Φ : Option AV → AM → Prop} {pc : Nat} {L : List (Option AV)} {st : List AV} {m : AM} {a : Nat × Nat} {t i : Nat} (j : Nat) (hd : decode E.1 pc = .ok (.aload j, 2)) (hl : L[j]? = some (some (vr t i))) (k : B E Φ (pc + 2) L (vr t i :: st) m a) : B E Φ pc (L) (st) m a := by
  intro p l e R s mi args below meth c G ad0 nx0 A ad H locs ls hOk hIn hL hst
  exact lv_aload hOk.1 hOk.2.1 hd (hL.2.2 _ _ hl).1 (k p l e R s mi args below meth c G ad0 nx0 A ad H locs ls hOk hIn hL (sw_c (hL.2.2 _ _ hl).2 hst))
theorem b_istoreN {E : ME} {Φ : Option AV → AM → Prop} {pc : Nat} {L : List (Option AV)} {st : List AV} {m : AM} {a : Nat × Nat} {k4 : Fin 4} {x : Int32} (j : Nat) (hd : decode E.1 pc = .ok (.istore_n k4, 1)) (hj : (k4 : Nat) = j) (hn : noL L j) (hj2 : j < E.2.2.1) (k : B E Φ (pc + 1) (L.set j (some (vi x))) st m a) : B E Φ pc (L) (vi x :: st) m a := by
  intro p l e R s mi args below meth c G ad0 nx0 A ad H locs ls hOk hIn hL hst
  exact lv_istore_n hOk.1 hOk.2.1 hd hj hL.lv hj2 rfl (fun ls' h' => k p l e R s mi args below meth c G ad0 nx0 A ad H locs ls' hOk hIn (hL.put hn trivial h') (sw_tl hst))
theorem b_istoreG {E : ME} {Φ : Option AV → AM → Prop} {pc : Nat} {L : List (Option AV)} {st : List AV} {m : AM} {a : Nat × Nat} {x : Int32} (j : Nat) (hd : decode E.1 pc = .ok (.istore j, 2)) (hn : noL L j) (hj2 : j < E.2.2.1) (k : B E Φ (pc + 2) (L.set j (some (vi x))) st m a) : B E Φ pc (L) (vi x :: st) m a := by
  intro p l e R s mi args below meth c G ad0 nx0 A ad H locs ls hOk hIn hL hst
  exact lv_istore hOk.1 hOk.2.1 hd hL.lv hj2 rfl (fun ls' h' => k p l e R s mi args below meth c G ad0 nx0 A ad H locs ls' hOk hIn (hL.put hn trivial h') (sw_tl hst))
theorem b_astoreN {E : ME} {Φ : Option AV → AM → Prop} {pc : Nat} {L : List (Option AV)} {st : List AV} {m : AM} {a : Nat × Nat} {k4 : Fin 4} {t i : Nat} (j : Nat) (hd : decode E.1 pc = .ok (.astore_n k4, 1)) (hj : (k4 : Nat) = j) (hn : noL L j) (hj2 : j < E.2.2.1) (k : B E Φ (pc + 1) (L.set j (some (vr t i))) st m a) : B E Φ pc (L) (vr t i :: st) m a := by
  intro p l e R s mi args below meth c G ad0 nx0 A ad H locs ls hOk hIn hL hst
  exact lv_astore_n hOk.1 hOk.2.1 hd hj hL.lv hj2 rfl (fun ls' h' => k p l e R s mi args below meth c G ad0 nx0 A ad H locs ls' hOk hIn (hL.put hn (hst _ List.mem_cons_self) h') (sw_tl hst))
theorem b_astoreG {E : ME} {Φ : Option AV → AM → Prop} {pc : Nat} {L : List (Option AV)} {st : List AV} {m : AM} {a : Nat × Nat} {t i : Nat} (j : Nat) (hd : decode E.1 pc = .ok (.astore j, 2)) (hn : noL L j) (hj2 : j < E.2.2.1) (k : B E Φ (pc + 2) (L.set j (some (vr t i))) st m a) : B E Φ pc (L) (vr t i :: st) m a := by
  intro p l e R s mi args below meth c G ad0 nx0 A ad H locs ls hOk hIn hL hst
  exact lv_astore hOk.1 hOk.2.1 hd hL.lv hj2 rfl (fun ls' h' => k p l e R s mi args below meth c G ad0 nx0 A ad H locs ls' hOk hIn (hL.put hn (hst _ List.mem_cons_self) h') (sw_tl hst))
theorem b_lstoreN {E : ME} {Φ : Option AV → AM → Prop} {pc : Nat} {L : List (Option AV)} {st : List AV} {m : AM} {a : Nat × Nat} {k4 : Fin 4} {x : Int64} (j : Nat) (hd : decode E.1 pc = .ok (.lstore_n k4, 1)) (hj : (k4 : Nat) = j) (hn : noL L j) (hj2 : j + 1 < E.2.2.1) (k : B E Φ (pc + 1) ((L.set j (some (vl x))).set (j + 1) none) st m a) : B E Φ pc (L) (vl x :: st) m a := by
  intro p l e R s mi args below meth c G ad0 nx0 A ad H locs ls hOk hIn hL hst
  exact lv_lstore_n hOk.1 hOk.2.1 hd hj hL.lv hj2 rfl (fun ls' h' => k p l e R s mi args below meth c G ad0 nx0 A ad H locs ls' hOk hIn (hL.putL hn h') (sw_tl hst))
theorem b_lstoreG {E : ME} {Φ : Option AV → AM → Prop} {pc : Nat} {L : List (Option AV)} {st : List AV} {m : AM} {a : Nat × Nat} {x : Int64} (j : Nat) (hd : decode E.1 pc = .ok (.lstore j, 2)) (hn : noL L j) (hj2 : j + 1 < E.2.2.1) (k : B E Φ (pc + 2) ((L.set j (some (vl x))).set (j + 1) none) st m a) : B E Φ pc (L) (vl x :: st) m a := by
  intro p l e R s mi args below meth c G ad0 nx0 A ad H locs ls hOk hIn hL hst
  exact lv_lstore hOk.1 hOk.2.1 hd hL.lv hj2 rfl (fun ls' h' => k p l e R s mi args below meth c G ad0 nx0 A ad H locs ls' hOk hIn (hL.putL hn h') (sw_tl hst))
theorem b_iincG {E : ME} {Φ : Option AV → AM → Prop} {pc : Nat} {L : List (Option AV)} {st : List AV} {m : AM} {a : Nat × Nat} {x : Int32} {n : Int} (j : Nat) (hd : decode E.1 pc = .ok (.iinc j n, 3)) (hl : L[j]? = some (some (vi x))) (hn : noL L j) (hj2 : j < E.2.2.1) (k : B E Φ (pc + 3) (L.set j (some (vi (x + Int32.ofInt n)))) st m a) : B E Φ pc (L) (st) m a := by
  intro p l e R s mi args below meth c G ad0 nx0 A ad H locs ls hOk hIn hL hst
  obtain ⟨q, hq⟩ := List.getElem?_of_mem (lv_mem (ad := ad) hl)
  exact lv_iinc (v := x + Int32.ofInt n) hOk.1 hOk.2.1 hd hL.lv (k := q) hq rfl hj2 rfl (fun ls' h' => k p l e R s mi args below meth c G ad0 nx0 A ad H locs ls' hOk hIn (hL.put hn trivial h') hst)
theorem b_iret {E : ME} {Φ : Option AV → AM → Prop} {pc : Nat} {L : List (Option AV)} {m : AM} {a : Nat × Nat} {x : Int32} (hr : E.2.2.2.1 = some .int) (hd : decode E.1 pc = .ok (.ireturn, 1)) (ha : a.1 ≤ E.2.2.2.2.1 ∧ a.2 ≤ E.2.2.2.2.2.1) (h : Φ (some (vi x)) m) : B E Φ pc (L) ([vi x]) m a := by
  intro p l e R s mi args below meth c G ad0 nx0 A ad H locs ls hOk hIn hL hst
  refine W.widen ha.1 ha.2 ?_
  exact W.iret (v := x) hOk.1 hOk.2.1 (by rw [hOk.2.2.2.1, hr]) (fun t ht hW => ⟨⟨some (vi x), m, ad, rfl, h, fun v hv => by cases hv; trivial, hIn.2.2.2.2.2.2.2, ⟨by rw [ht]; exact hIn.2.1, va_K.moved hW.alike hIn.1⟩, hIn.2.2.1, hIn.2.2.2.2.2.2.1, hIn.2.2.2.2.2.1⟩, hIn.2.2.2.1.F ht⟩) hIn.2.2.2.1.2.2 hd hOk.2.2.2.2.2.2.1
theorem b_zret {E : ME} {Φ : Option AV → AM → Prop} {pc : Nat} {L : List (Option AV)} {m : AM} {a : Nat × Nat} {x : Int32} (hr : E.2.2.2.1 = some .boolean) (hx : x = 0 ∨ x = 1) (hd : decode E.1 pc = .ok (.ireturn, 1)) (ha : a.1 ≤ E.2.2.2.2.1 ∧ a.2 ≤ E.2.2.2.2.2.1) (h : Φ (some (vi x)) m) : B E Φ pc (L) ([vi x]) m a := by
  intro p l e R s mi args below meth c G ad0 nx0 A ad H locs ls hOk hIn hL hst
  refine W.widen ha.1 ha.2 ?_
  exact W.zret (v := x) (ty := .boolean) hOk.1 hOk.2.1 (by rw [hOk.2.2.2.1, hr]) (by rcases hx with rfl | rfl <;> rfl) (fun t ht hW => ⟨⟨some (vi x), m, ad, rfl, h, fun v hv => by cases hv; trivial, hIn.2.2.2.2.2.2.2, ⟨by rw [ht]; exact hIn.2.1, va_K.moved hW.alike hIn.1⟩, hIn.2.2.1, hIn.2.2.2.2.2.2.1, hIn.2.2.2.2.2.1⟩, hIn.2.2.2.1.F ht⟩) hIn.2.2.2.1.2.2 hd hOk.2.2.2.2.2.2.1
theorem b_lret {E : ME} {Φ : Option AV → AM → Prop} {pc : Nat} {L : List (Option AV)} {m : AM} {a : Nat × Nat} {x : Int64} (hr : E.2.2.2.1 = some .long) (hd : decode E.1 pc = .ok (.lreturn, 1)) (ha : a.1 ≤ E.2.2.2.2.1 ∧ a.2 ≤ E.2.2.2.2.2.1) (h : Φ (some (vl x)) m) : B E Φ pc (L) ([vl x]) m a := by
  intro p l e R s mi args below meth c G ad0 nx0 A ad H locs ls hOk hIn hL hst
  refine W.widen ha.1 ha.2 ?_
  exact W.lret (v := x) hOk.1 hOk.2.1 (by rw [hOk.2.2.2.1, hr]) (fun t ht hW => ⟨⟨some (vl x), m, ad, rfl, h, fun v hv => by cases hv; trivial, hIn.2.2.2.2.2.2.2, ⟨by rw [ht]; exact hIn.2.1, va_K.moved hW.alike hIn.1⟩, hIn.2.2.1, hIn.2.2.2.2.2.2.1, hIn.2.2.2.2.2.1⟩, hIn.2.2.2.1.F ht⟩) hIn.2.2.2.1.2.2 hd hOk.2.2.2.2.2.2.1
theorem b_vret {E : ME} {Φ : Option AV → AM → Prop} {pc : Nat} {L : List (Option AV)} {m : AM} {a : Nat × Nat}  (hr : E.2.2.2.1 = none) (hd : decode E.1 pc = .ok (.return_, 1)) (ha : a.1 ≤ E.2.2.2.2.1 ∧ a.2 ≤ E.2.2.2.2.2.1) (h : Φ none m) : B E Φ pc (L) ([]) m a := by
  intro p l e R s mi args below meth c G ad0 nx0 A ad H locs ls hOk hIn hL hst
  refine W.widen ha.1 ha.2 ?_
  exact W.vret hOk.1 hOk.2.1 (by rw [hOk.2.2.2.1, hr]) (fun t ht hW => ⟨⟨none, m, ad, rfl, h, (fun v hv => by cases hv), hIn.2.2.2.2.2.2.2, ⟨by rw [ht]; exact hIn.2.1, va_K.moved hW.alike hIn.1⟩, hIn.2.2.1, hIn.2.2.2.2.2.2.1, hIn.2.2.2.2.2.1⟩, hIn.2.2.2.1.F ht⟩) hIn.2.2.2.1.2.2 hd hOk.2.2.2.2.2.2.1
theorem b_aret {E : ME} {Φ : Option AV → AM → Prop} {pc : Nat} {L : List (Option AV)} {m : AM} {a : Nat × Nat} {t i : Nat} {ty : FieldType} (hr : E.2.2.2.1 = some (.array ty)) (hd : decode E.1 pc = .ok (.areturn, 1)) (ha : a.1 ≤ E.2.2.2.2.1 ∧ a.2 ≤ E.2.2.2.2.2.1) (h : Φ (some (vr t i)) m) : B E Φ pc (L) ([vr t i]) m a := by
  intro p l e R s mi args below meth c G ad0 nx0 A ad H locs ls hOk hIn hL hst
  refine W.widen ha.1 ha.2 ?_
  exact W.aret (v := .ref (ad i)) hOk.1 hOk.2.1 (by rw [hOk.2.2.2.1, hr]) (Or.inr ⟨_, rfl⟩) (Or.inr ⟨_, rfl⟩) (fun t' ht hW => ⟨⟨some (vr t i), m, ad, rfl, h, fun v hv => by cases hv; exact hst _ List.mem_cons_self, hIn.2.2.2.2.2.2.2, ⟨by rw [ht]; exact hIn.2.1, va_K.moved hW.alike hIn.1⟩, hIn.2.2.1, hIn.2.2.2.2.2.2.1, hIn.2.2.2.2.2.1⟩, hIn.2.2.2.1.F ht⟩) hIn.2.2.2.1.2.2 hd hOk.2.2.2.2.2.2.1
theorem b_iald {E : ME} {Φ : Option AV → AM → Prop} {pc : Nat} {L : List (Option AV)} {st : List AV} {m : AM} {a : Nat × Nat} {t i : Nat} {x : Int32} (ht : 100 ≤ t ∧ t < 20000) (hin : vp_in x (t - 100)) (hd : decode E.1 pc = .ok (.iaload, 1)) (k : B E Φ (pc + 1) L (vi (m.1 i x.toNatClampNeg) :: st) m a) : B E Φ pc (L) (vi x :: vr t i :: st) m a := by
  intro p l e R s mi args below meth c G ad0 nx0 A ad H locs ls hOk hIn hL hst
  have hw := hst _ (List.mem_cons_of_mem _ List.mem_cons_self)
  have hc := hIn.cell hw
  unfold celT at hc
  rw [if_neg (by omega), if_neg (by omega), if_neg (by omega), if_neg (by omega), if_neg (by omega), if_pos ht.2] at hc
  exact va_iald hOk.1 hOk.2.1 hIn.1 hIn.2.1 i 0 hc rfl hin hd (k p l e R s mi args below meth c G ad0 nx0 A ad H locs ls hOk hIn hL (sw_i (sw_tl (sw_tl hst))))
theorem b_ialdD {E : ME} {Φ : Option AV → AM → Prop} {pc : Nat} {L : List (Option AV)} {st : List AV} {m : AM} {a : Nat × Nat} {i : Nat} {x : Int32} (hin : vp_in x (m.2.2.1 i)) (hd : decode E.1 pc = .ok (.iaload, 1)) (k : B E Φ (pc + 1) L (vi (m.1 i x.toNatClampNeg) :: st) m a) : B E Φ pc (L) (vi x :: vr 12 i :: st) m a := by
  intro p l e R s mi args below meth c G ad0 nx0 A ad H locs ls hOk hIn hL hst
  have hw := hst _ (List.mem_cons_of_mem _ List.mem_cons_self)
  have hc := hIn.cell hw
  unfold celT at hc
  rw [if_neg (by omega), if_pos rfl] at hc
  exact va_iald hOk.1 hOk.2.1 hIn.1 hIn.2.1 i 0 hc rfl hin hd (k p l e R s mi args below meth c G ad0 nx0 A ad H locs ls hOk hIn hL (sw_i (sw_tl (sw_tl hst))))
theorem b_zald {E : ME} {Φ : Option AV → AM → Prop} {pc : Nat} {L : List (Option AV)} {st : List AV} {m : AM} {a : Nat × Nat} {t i : Nat} {x : Int32} (ht : 20000 ≤ t) (hin : vp_in x (t - 20000)) (hd : decode E.1 pc = .ok (.baload, 1)) (k : B E Φ (pc + 1) L (vi (m.1 i x.toNatClampNeg) :: st) m a) : B E Φ pc (L) (vi x :: vr t i :: st) m a := by
  intro p l e R s mi args below meth c G ad0 nx0 A ad H locs ls hOk hIn hL hst
  have hw := hst _ (List.mem_cons_of_mem _ List.mem_cons_self)
  have hc := hIn.cell hw
  unfold celT at hc
  rw [if_neg (by omega), if_neg (by omega), if_neg (by omega), if_neg (by omega), if_neg (by omega), if_neg (by omega)] at hc
  exact va_zald hOk.1 hOk.2.1 hIn.1 hIn.2.1 i 1 hc rfl hin hd (k p l e R s mi args below meth c G ad0 nx0 A ad H locs ls hOk hIn hL (sw_i (sw_tl (sw_tl hst))))
theorem b_iast {E : ME} {Φ : Option AV → AM → Prop} {pc : Nat} {L : List (Option AV)} {st : List AV} {m : AM} {a : Nat × Nat} {t i : Nat} {x y : Int32} (ht : 100 ≤ t ∧ t < 20000) (hin : vp_in x (t - 100)) (hd : decode E.1 pc = .ok (.iastore, 1)) (k : B E Φ (pc + 1) L st (mset m i x.toNatClampNeg y) a) : B E Φ pc (L) (vi y :: vi x :: vr t i :: st) m a := by
  intro p l e R s mi args below meth c G ad0 nx0 A ad H locs ls hOk hIn hL hst
  have hw := hst _ (List.mem_cons_of_mem _ (List.mem_cons_of_mem _ List.mem_cons_self))
  have hc := hIn.cell hw
  have he : cel G.2 ad (mset m i x.toNatClampNeg y) i = .inl (G.2 0, t - 100, .inl (upd (m.1 i) x.toNatClampNeg y)) := by
    unfold cel celT
    rw [hw.1, if_neg (by omega), if_neg (by omega), if_neg (by omega), if_neg (by omega), if_neg (by omega), if_pos ht.2, mset_upd]
    try rfl
  unfold celT at hc
  rw [if_neg (by omega), if_neg (by omega), if_neg (by omega), if_neg (by omega), if_neg (by omega), if_pos ht.2] at hc
  exact va_iast hOk.1 hOk.2.1 hIn.1 hIn.2.1 hIn.2.2.1 hIn.2.2.2.1 i 0 hc rfl hin hd (fun H1 locs1 hP hD hS => k p l e R s mi args below meth c G ad0 nx0 A ad H1 locs1 ls hOk (hIn.setw rfl he (fun a h => cel_mset_ne _ _ h) hIn.2.2.2.2.2.2.2 hP hD hS) hL (sw_tl (sw_tl (sw_tl hst))))
theorem b_iastD {E : ME} {Φ : Option AV → AM → Prop} {pc : Nat} {L : List (Option AV)} {st : List AV} {m : AM} {a : Nat × Nat} {i : Nat} {x y : Int32} (hin : vp_in x (m.2.2.1 i)) (hd : decode E.1 pc = .ok (.iastore, 1)) (k : B E Φ (pc + 1) L st (mset m i x.toNatClampNeg y) a) : B E Φ pc (L) (vi y :: vi x :: vr 12 i :: st) m a := by
  intro p l e R s mi args below meth c G ad0 nx0 A ad H locs ls hOk hIn hL hst
  have hw := hst _ (List.mem_cons_of_mem _ (List.mem_cons_of_mem _ List.mem_cons_self))
  have hc := hIn.cell hw
  have he : cel G.2 ad (mset m i x.toNatClampNeg y) i = .inl (G.2 0, m.2.2.1 i, .inl (upd (m.1 i) x.toNatClampNeg y)) := by
    unfold cel celT
    rw [hw.1, if_neg (by omega), if_pos rfl, mset_upd]
    try rfl
  unfold celT at hc
  rw [if_neg (by omega), if_pos rfl] at hc
  exact va_iast hOk.1 hOk.2.1 hIn.1 hIn.2.1 hIn.2.2.1 hIn.2.2.2.1 i 0 hc rfl hin hd (fun H1 locs1 hP hD hS => k p l e R s mi args below meth c G ad0 nx0 A ad H1 locs1 ls hOk (hIn.setw rfl he (fun a h => cel_mset_ne _ _ h) hIn.2.2.2.2.2.2.2 hP hD hS) hL (sw_tl (sw_tl (sw_tl hst))))
theorem b_aldR {E : ME} {Φ : Option AV → AM → Prop} {pc : Nat} {L : List (Option AV)} {st : List AV} {m : AM} {a : Nat × Nat} {t n w t' i : Nat} {x : Int32} (ht : t = 13 ∧ n = 24 ∧ w = 2 ∧ t' = 8 ∨ t = 14 ∧ n = 2 ∧ w = 8 ∧ t' = 4) (hin : vp_in x n) (hd : decode E.1 pc = .ok (.aaload, 1)) (k : B E Φ (pc + 1) L (vr t' (i + 1 + w * x.toNatClampNeg) :: st) m a) : B E Φ pc (L) (vi x :: vr t i :: st) m a := by
  intro p l e R s mi args below meth c G ad0 nx0 A ad H locs ls hOk hIn hL hst
  have hw := hst _ (List.mem_cons_of_mem _ List.mem_cons_self)
  have hc := hIn.cell hw
  unfold celT at hc
  have hlt : x.toNatClampNeg < n := Nat.not_le.mp fun q => hin (Or.inr q)
  have hi : i < 125 := by
    rcases Nat.lt_or_ge i 125 with h | h
    · exact h
    · have h9 : KD i = t := hw.1
      rw [KD_ge h] at h9
      omega
  have h5 := TY.nx hIn.2.2.2.2.2.2.2
  rcases ht with ⟨rfl, rfl, rfl, rfl⟩ | ⟨rfl, rfl, rfl, rfl⟩
  · rw [if_neg (by omega), if_neg (by omega), if_pos rfl] at hc
    have hq : ∀ i, i < 125 → KD i = 13 → ∀ j, j < 24 → KD (i + 1 + 2 * j) = 8 ∧ i + 1 + 2 * j < 125 := by decide +kernel
    have h6 := hq i hi hw.1 _ hlt
    exact va_aldq hOk.1 hOk.2.1 hIn.1 hIn.2.1 i 3 hc rfl hin hd (by simp only [if_pos hlt]; exact k p l e R s mi args below meth c G ad0 nx0 A ad H locs ls hOk hIn hL (sw_c ⟨h6.1, Nat.lt_of_lt_of_le h6.2 h5⟩ (sw_tl (sw_tl hst))))
  · rw [if_neg (by omega), if_neg (by omega), if_neg (by omega), if_pos rfl] at hc
    have hq : ∀ i, i < 125 → KD i = 14 → ∀ j, j < 2 → KD (i + 1 + 8 * j) = 4 ∧ i + 1 + 8 * j < 125 := by decide +kernel
    have h6 := hq i hi hw.1 _ hlt
    exact va_aldq hOk.1 hOk.2.1 hIn.1 hIn.2.1 i 2 hc rfl hin hd (by simp only [if_pos hlt]; exact k p l e R s mi args below meth c G ad0 nx0 A ad H locs ls hOk hIn hL (sw_c ⟨h6.1, Nat.lt_of_lt_of_le h6.2 h5⟩ (sw_tl (sw_tl hst))))
end
section
/-! ROWS, third part: fields, further arrays, calls. -/
theorem b_get {E : ME} {Φ : Option AV → AM → Prop} {pc : Nat} {L : List (Option AV)} {st : List AV} {m : AM} {a : Nat × Nat} {t i idx : Nat} {N : Nat} {C : String} {T : u_T} (k : Nat) (v : AV) (hc : vwCl[t]? = some (C, T, N)) (ht : t < 12) (hk : k < N) (hin : ∀ w ∈ u_ws C T N, w ∈ TB) (hlink : Cond.fieldLink E.2.1 idx (T k).1 (T k).2.1 (T k).2.2.1 ∈ TB ∨ ∃ host, Cond.fieldLinkNest E.2.1 idx (T k).1 (T k).2.1 (T k).2.2.1 host ∈ TB) (hv : ∀ ad, (flds ad (m.1 i) (m.2.1 i) t i)[k]? = some (cvA ad v)) (hwt : wt m (vr t i) → TY m → wt m v) (hd : decode E.1 pc = .ok (.getfield idx, 3)) (kk : B E Φ (pc + 3) L (v :: st) m a) : B E Φ pc (L) (vr t i :: st) m a := by
  intro p l e R s mi args below meth c G ad0 nx0 A ad H locs ls hOk hIn hL hst
  have hw := hst _ List.mem_cons_self
  have hce := hIn.cell hw
  unfold celT at hce
  rw [if_pos ht] at hce
  have hts := hOk.2.2.2.2.2.1
  have kq := kk p l e R s mi args below meth c G ad0 nx0 A ad H locs ls hOk hIn hL (sw_c (hwt hw hIn.2.2.2.2.2.2.2) (sw_tl hst))
  rcases hlink with hlink | ⟨host, hlink⟩
  · exact va_get hOk.1 hOk.2.1 hts hin hOk.2.2.2.2.1 hIn.1 hIn.2.1 i hce hc k hk (hts _ hlink) (fun _ h => h) (hv ad) hd kq
  · exact va_getN hOk.1 hOk.2.1 hts hin hOk.2.2.2.2.1 hIn.1 hIn.2.1 i hce hc k hk (hts _ hlink) (fun _ h => h) (hv ad) hd kq
theorem wt_cg {m m' : AM} (hn : m'.2.2.2 = m.2.2.2) {v : AV} (h : wt m v) : wt m' v := by
  rcases v with x | x | q
  · trivial
  · trivial
  · exact ⟨h.1, by rw [hn]; exact h.2⟩
theorem LHm.cg {ad : Nat → Nat} {m m' : AM} {ls : Array Slot} {nL : Nat} {L : List (Option AV)} (hn : m'.2.2.2 = m.2.2.2) (h : LHm ad m ls nL L) : LHm ad m' ls nL L := ⟨h.1, h.2.1, fun k v hk => ⟨(h.2.2 k v hk).1, wt_cg hn (h.2.2 k v hk).2⟩⟩
theorem b_put {E : ME} {Φ : Option AV → AM → Prop} {pc : Nat} {L : List (Option AV)} {st : List AV} {m : AM} {a : Nat × Nat} {t i idx : Nat} {N : Nat} {C : String} {T : u_T} (k : Nat) (v : AV) (m' : AM) (ty0 : Nat → FieldType) (ty : FieldType) (hc : vwCl[t]? = some (C, T, N)) (ht : t < 12) (hk : k < N) (hin : ∀ w ∈ u_ws C T N, w ∈ TB) (hty : ∀ k, k < N → parseFieldDescriptor (T k).2.2.1 = some (ty0 k)) (hnm : ∀ a, a < N → ∀ b, b < N → a ≠ b → (T a).2.1 ≠ (T b).2.1) (hlink : Cond.fieldLink E.2.1 idx (T k).1 (T k).2.1 (T k).2.2.1 ∈ TB ∨ ∃ host, Cond.fieldLinkNest E.2.1 idx (T k).1 (T k).2.1 (T k).2.2.1 host ∈ TB) (hfin : (T k).2.2.2 = false) (hd2 : parseFieldDescriptor (T k).2.2.1 = some ty) (hnr : ∀ ad, narrow ty (cvA ad v) = cvA ad v) (hfit : ∀ ad, fits ty (cvA ad v) = true) (hlen : ∀ ad, k < (flds ad (m.1 i) (m.2.1 i) t i).length) (hset : ∀ ad, (flds ad (m.1 i) (m.2.1 i) t i).set k (cvA ad v) = flds ad (m'.1 i) (m'.2.1 i) t i) (hn : m'.2.2.2 = m.2.2.2) (ho : ∀ (Y : Nat → ClassId) (ad : Nat → Nat) (a : Nat), a ≠ i → cel Y ad m' a = cel Y ad m a) (hTY : wt m v → TY m → TY m') (hd : decode E.1 pc = .ok (.putfield idx, 3)) (kk : B E Φ (pc + 3) L st m' a) : B E Φ pc (L) (v :: vr t i :: st) m a := by
  intro p l e R s mi args below meth c G ad0 nx0 A ad H locs ls hOk hIn hL hst
  have hw := hst _ (List.mem_cons_of_mem _ List.mem_cons_self)
  have hce := hIn.cell hw
  unfold celT at hce
  rw [if_pos ht] at hce
  have hts := hOk.2.2.2.2.2.1
  have he : cel G.2 ad m' i = .inr (t, (flds ad (m.1 i) (m.2.1 i) t i).set k (cvA ad v)) := by
    unfold cel celT
    rw [hw.1, if_pos ht, hset ad]
  have kq : ∀ (H1 : Heap) (locs1 : List Loc), va_P G.1 vwCl ((wsO G.2 ad m).set i (ad i, .inr (t, (flds ad (m.1 i) (m.2.1 i) t i).set k (cvA ad v)))) H1 → va_D A ((wsO G.2 ad m).set i (ad i, .inr (t, (flds ad (m.1 i) (m.2.1 i) t i).set k (cvA ad v)))) → va_S A s.heap H1 locs1 → _ :=
    fun H1 locs1 hP hD hS => kk p l e R s mi args below meth c G ad0 nx0 A ad H1 locs1 ls hOk (hIn.setw hn he (fun a h => ho _ _ a h) (hTY (hst _ List.mem_cons_self) hIn.2.2.2.2.2.2.2) hP hD hS) (hL.cg hn) (fun w hw => wt_cg hn (hst w (List.mem_cons_of_mem _ (List.mem_cons_of_mem _ hw))))
  rcases hlink with hlink | ⟨host, hlink⟩
  · exact va_put hOk.1 hOk.2.1 hts hin ty0 hty hnm hOk.2.2.2.2.1 hIn.1 hIn.2.1 hIn.2.2.1 hIn.2.2.2.1 i hce hc k hk (hts _ hlink) (fun _ h => h) hfin hd2 (hnr ad) (hfit ad) (hlen ad) hd kq
  · exact va_putN hOk.1 hOk.2.1 hts hin ty0 hty hnm hOk.2.2.2.2.1 hIn.1 hIn.2.1 hIn.2.2.1 hIn.2.2.2.1 i hce hc k hk (hts _ hlink) (fun _ h => h) hfin hd2 (hnr ad) (hfit ad) (hlen ad) hd kq
theorem b_aldI {E : ME} {Φ : Option AV → AM → Prop} {pc : Nat} {L : List (Option AV)} {st : List AV} {m : AM} {a : Nat × Nat} {i : Nat} {x : Int32} (hin : vp_in x 8) (hd : decode E.1 pc = .ok (.aaload, 1)) (k : B E Φ (pc + 1) L (vr 140 (i + 1 + x.toNatClampNeg) :: st) m a) : B E Φ pc (L) (vi x :: vr 15 i :: st) m a := by
  intro p l e R s mi args below meth c G ad0 nx0 A ad H locs ls hOk hIn hL hst
  have hw := hst _ (List.mem_cons_of_mem _ List.mem_cons_self)
  have hc := hIn.cell hw
  unfold celT at hc
  have hlt : x.toNatClampNeg < 8 := Nat.not_le.mp fun q => hin (Or.inr q)
  have hi : i < 125 := by
    rcases Nat.lt_or_ge i 125 with h | h
    · exact h
    · have h9 : KD i = 15 := hw.1
      rw [KD_ge h] at h9
      omega
  have h5 := TY.nx hIn.2.2.2.2.2.2.2
  rw [if_neg (by omega), if_neg (by omega), if_neg (by omega), if_neg (by omega), if_pos rfl] at hc
  have hq : ∀ i, i < 125 → KD i = 15 → ∀ j, j < 8 → KD (i + 1 + j) = 140 ∧ i + 1 + j < 125 := by decide +kernel
  have h6 := hq i hi hw.1 _ hlt
  have kq := k p l e R s mi args below meth c G ad0 nx0 A ad H locs ls hOk hIn hL (sw_c (v := vr 140 (i + 1 + x.toNatClampNeg)) ⟨h6.1, Nat.lt_of_lt_of_le h6.2 h5⟩ (sw_tl (sw_tl hst)))
  exact W.aald (v := .ref (ad (i + 1 + x.toNatClampNeg))) (ty := .array .int) hOk.1 hOk.2.1 (hIn.2.1 i _ hc) ((hIn.1.2 4 (G.2 4, .array .int) rfl).1 8 (fun j => va_rf (if j < 8 then some (ad (i + 1 + j)) else none))) rfl (fun q => by cases q) (by show ¬ (x < 0 ∨ (arrV _ _ _).slots.size ≤ _); rw [arrV_size]; exact hin) (by show (arrV _ _ _).slots[_]? = _; rw [arrV_read _ _ hlt]; simp only [if_pos hlt]; rfl) rfl rfl hd kq
theorem b_zast {E : ME} {Φ : Option AV → AM → Prop} {pc : Nat} {L : List (Option AV)} {st : List AV} {m : AM} {a : Nat × Nat} {t i : Nat} {x y : Int32} (ht : 20000 ≤ t) (hin : vp_in x (t - 20000)) (hy : y = 0 ∨ y = 1) (hd : decode E.1 pc = .ok (.bastore, 1)) (k : B E Φ (pc + 1) L st (mset m i x.toNatClampNeg y) a) : B E Φ pc (L) (vi y :: vi x :: vr t i :: st) m a := by
  intro p l e R s mi args below meth c G ad0 nx0 A ad H locs ls hOk hIn hL hst
  have hw := hst _ (List.mem_cons_of_mem _ (List.mem_cons_of_mem _ List.mem_cons_self))
  have hc := hIn.cell hw
  have hz : vp_nar .boolean y = y := by rcases hy with rfl | rfl <;> rfl
  have he : cel G.2 ad (mset m i x.toNatClampNeg y) i = .inl (G.2 1, t - 20000, .inl (upd (m.1 i) x.toNatClampNeg (vp_nar .boolean y))) := by
    unfold cel celT
    rw [hw.1, if_neg (by omega), if_neg (by omega), if_neg (by omega), if_neg (by omega), if_neg (by omega), if_neg (by omega), mset_upd, hz]
  unfold celT at hc
  rw [if_neg (by omega), if_neg (by omega), if_neg (by omega), if_neg (by omega), if_neg (by omega), if_neg (by omega)] at hc
  exact va_zast hOk.1 hOk.2.1 hIn.1 hIn.2.1 hIn.2.2.1 hIn.2.2.2.1 i 1 hc rfl hin hd (fun H1 locs1 hP hD hS => k p l e R s mi args below meth c G ad0 nx0 A ad H1 locs1 ls hOk (hIn.setw rfl he (fun a h => cel_mset_ne _ _ h) hIn.2.2.2.2.2.2.2 hP hD hS) hL (sw_tl (sw_tl (sw_tl hst))))
theorem b_alen {E : ME} {Φ : Option AV → AM → Prop} {pc : Nat} {L : List (Option AV)} {st : List AV} {m : AM} {a : Nat × Nat} {t i : Nat} (v : Int32) (ht : 100 ≤ t ∧ t < 20000) (hv : Int32.ofNat (t - 100) = v) (hd : decode E.1 pc = .ok (.arraylength, 1)) (k : B E Φ (pc + 1) L (vi v :: st) m a) : B E Φ pc (L) (vr t i :: st) m a := by
  intro p l e R s mi args below meth c G ad0 nx0 A ad H locs ls hOk hIn hL hst
  have hw := hst _ List.mem_cons_self
  have hc := hIn.cell hw
  unfold celT at hc
  rw [if_neg (by omega), if_neg (by omega), if_neg (by omega), if_neg (by omega), if_neg (by omega), if_pos ht.2] at hc
  exact va_alen hOk.1 hOk.2.1 hIn.1 hIn.2.1 i 0 hc rfl hv hd (k p l e R s mi args below meth c G ad0 nx0 A ad H locs ls hOk hIn hL (sw_i (sw_tl hst)))
theorem b_alenD {E : ME} {Φ : Option AV → AM → Prop} {pc : Nat} {L : List (Option AV)} {st : List AV} {m : AM} {a : Nat × Nat} {i : Nat} (hd : decode E.1 pc = .ok (.arraylength, 1)) (k : B E Φ (pc + 1) L (vi (Int32.ofNat (m.2.2.1 i)) :: st) m a) : B E Φ pc (L) (vr 12 i :: st) m a := by
  intro p l e R s mi args below meth c G ad0 nx0 A ad H locs ls hOk hIn hL hst
  have hw := hst _ List.mem_cons_self
  have hc := hIn.cell hw
  unfold celT at hc
  rw [if_neg (by omega), if_pos rfl] at hc
  exact va_alen hOk.1 hOk.2.1 hIn.1 hIn.2.1 i 0 hc rfl rfl hd (k p l e R s mi args below meth c G ad0 nx0 A ad H locs ls hOk hIn hL (sw_i (sw_tl hst)))
theorem cat_le (ad : Nat → Nat) : ∀ st : List AV, ((st.map (cvA ad)).map fun v => v.category).sum ≤ 2 * st.length
  | [] => by simp
  | v :: st => by
    have h := cat_le ad st
    simp only [List.map_cons, List.sum_cons, List.length_cons]
    have h2 : (cvA ad v).category ≤ 2 := by rw [cvA_cat]; rcases v with x | x | q <;> simp
    omega
theorem b_mmax {E : ME} {Φ : Option AV → AM → Prop} {pc : Nat} {L : List (Option AV)} {st : List AV} {m : AM} {a : Nat × Nat} {idx : Nat} {x y : Int32} (hlink : Cond.methodLink E.2.1 idx Lib.Math.max.name ∈ TB) (hst' : Cond.static Lib.Math.max.name ∈ TB) (hini : Cond.initialized "java/lang/Math" ∈ TB) (hco : Cond.code Lib.Math.max.name Lib.Math.max.code 2 (some .int) ∈ TB) (hR : 1 ≤ E.2.2.2.2.2.2) (hsr : st.length ≤ 8) (ha : a.1 ≤ E.2.2.2.2.1 ∧ a.2 ≤ E.2.2.2.2.2.1) (hd : decode E.1 pc = .ok (.invokestatic idx, 3)) (k : B E Φ (pc + 3) L (vi (if x < y then y else x) :: st) m a) : B E Φ pc (L) (vi y :: vi x :: st) m a := by
  intro p l e R s mi args below meth c G ad0 nx0 A ad H locs ls hOk hIn hL hst
  have hts := hOk.2.2.2.2.2.1
  have hcat := cat_le ad st
  refine va_mmax hOk.1 hOk.2.1 (by rw [hOk.2.2.1]; exact hL.1.symm) hOk.2.2.2.2.1 (hts _ hlink) (hts _ hst') (hts _ hini) (hts _ hco) (by rw [hOk.2.2.2.2.2.2.2]; exact hR) (by rw [hOk.2.2.2.2.2.2.2]; show _ ≤ 64 * _; omega) (by rw [hOk.2.2.2.2.2.2.2]; exact ha.1) (by rw [hOk.2.2.2.2.2.2.2]; exact ha.2) hd ?_
  exact k p l e R s mi args below meth c G ad0 nx0 A ad H locs ls hOk hIn hL (sw_i (sw_tl (sw_tl hst)))
theorem b_mmin {E : ME} {Φ : Option AV → AM → Prop} {pc : Nat} {L : List (Option AV)} {st : List AV} {m : AM} {a : Nat × Nat} {idx : Nat} {x y : Int32} (hlink : Cond.methodLink E.2.1 idx Lib.Math.min.name ∈ TB) (hst' : Cond.static Lib.Math.min.name ∈ TB) (hini : Cond.initialized "java/lang/Math" ∈ TB) (hco : Cond.code Lib.Math.min.name Lib.Math.min.code 2 (some .int) ∈ TB) (hR : 1 ≤ E.2.2.2.2.2.2) (hsr : st.length ≤ 8) (ha : a.1 ≤ E.2.2.2.2.1 ∧ a.2 ≤ E.2.2.2.2.2.1) (hd : decode E.1 pc = .ok (.invokestatic idx, 3)) (k : B E Φ (pc + 3) L (vi (if y < x then y else x) :: st) m a) : B E Φ pc (L) (vi y :: vi x :: st) m a := by
  intro p l e R s mi args below meth c G ad0 nx0 A ad H locs ls hOk hIn hL hst
  have hts := hOk.2.2.2.2.2.1
  have hcat := cat_le ad st
  refine va_mmin hOk.1 hOk.2.1 (by rw [hOk.2.2.1]; exact hL.1.symm) hOk.2.2.2.2.1 (hts _ hlink) (hts _ hst') (hts _ hini) (hts _ hco) (by rw [hOk.2.2.2.2.2.2.2]; exact hR) (by rw [hOk.2.2.2.2.2.2.2]; show _ ≤ 64 * _; omega) (by rw [hOk.2.2.2.2.2.2.2]; exact ha.1) (by rw [hOk.2.2.2.2.2.2.2]; exact ha.2) hd ?_
  exact k p l e R s mi args below meth c G ad0 nx0 A ad H locs ls hOk hIn hL (sw_i (sw_tl (sw_tl hst)))
/-- the length of an int array by its tag -/
def alT (m : AM) (t i : Nat) : Nat := if t = 12 then m.2.2.1 i else t - 100
theorem InM.arr {G : va_G × (Nat → ClassId)} {ad0 : Nat → Nat} {nx0 : Nat} {A : Nat → Prop} {ad : Nat → Nat} {m : AM} {s : State} {H : Heap} {locs : List Loc} (h : InM G ad0 nx0 A ad m s H locs) {t i : Nat} (ht : t = 12 ∨ 100 ≤ t ∧ t < 20000) (hw : wt m (vr t i)) :
    (wsO G.2 ad m)[i]? = some (ad i, .inl (G.2 0, alT m t i, .inl (m.1 i))) := by
  have hc := h.cell hw
  unfold celT at hc
  unfold alT
  rcases ht with rfl | ht
  · rw [if_neg (by omega), if_pos rfl] at hc
    rw [if_pos rfl]
    exact hc
  · rw [if_neg (by omega), if_neg (by omega), if_neg (by omega), if_neg (by omega), if_neg (by omega), if_pos ht.2] at hc
    rw [if_neg (by omega)]
    exact hc
def aset (m : AM) (i : Nat) (f : Nat → Int32) : AM := (fun a => if a = i then f else m.1 a, m.2)
theorem aset_at (m : AM) (i : Nat) (f : Nat → Int32) : (aset m i f).1 i = f := by simp [aset]
theorem aset_ne (m : AM) {i a : Nat} (f : Nat → Int32) (h : a ≠ i) : (aset m i f).1 a = m.1 a := by simp [aset, h]
theorem cel_aset_ne {Y : Nat → ClassId} {ad : Nat → Nat} {m : AM} {i a : Nat} (f : Nat → Int32) (h : a ≠ i) : cel Y ad (aset m i f) a = cel Y ad m a := by
  unfold cel
  rw [aset_ne m f h]
  rfl
theorem b_acopy {E : ME} {Φ : Option AV → AM → Prop} {pc : Nat} {L : List (Option AV)} {st : List AV} {m : AM} {a : Nat × Nat} {t0 i0 t1 i1 idx : Nat} {sp dp n : Int32} (ht0 : t0 = 12 ∨ 100 ≤ t0 ∧ t0 < 20000) (ht1 : t1 = 12 ∨ 100 ≤ t1 ∧ t1 < 20000) (hlink : Cond.methodLink E.2.1 idx arraycopyName ∈ TB) (hnat : Cond.native arraycopyName ∈ TB) (hstat : Cond.static arraycopyName ∈ TB) (hini : Cond.initialized "java/lang/System" ∈ TB) (h1 : ¬ sp < 0) (h2 : ¬ dp < 0) (h3 : ¬ n < 0) (h4 : sp.toNatClampNeg + n.toNatClampNeg ≤ alT m t0 i0) (h5 : dp.toNatClampNeg + n.toNatClampNeg ≤ alT m t1 i1) (hR : 1 ≤ E.2.2.2.2.2.2) (hsr : st.length ≤ 8) (hd : decode E.1 pc = .ok (.invokestatic idx, 3)) (k : B E Φ (pc + 3) L st (aset m i1 (va_cpy (m.1 i0) (m.1 i1) sp.toNatClampNeg dp.toNatClampNeg n.toNatClampNeg)) a) : B E Φ pc (L) (vi n :: vi dp :: vr t1 i1 :: vi sp :: vr t0 i0 :: st) m a := by
  intro p l e R s mi args below meth c G ad0 nx0 A ad H locs ls hOk hIn hL hst
  have hts := hOk.2.2.2.2.2.1
  have hcat := cat_le ad st
  have hw1 : wt m (vr t1 i1) := hst _ (by simp)
  have hw0 : wt m (vr t0 i0) := hst _ (by simp)
  have hc0 := hIn.arr ht0 hw0
  have hc1 := hIn.arr ht1 hw1
  have he : cel G.2 ad (aset m i1 (va_cpy (m.1 i0) (m.1 i1) sp.toNatClampNeg dp.toNatClampNeg n.toNatClampNeg)) i1 = .inl (G.2 0, alT m t1 i1, .inl (va_cpy (m.1 i0) (m.1 i1) sp.toNatClampNeg dp.toNatClampNeg n.toNatClampNeg)) := by
    unfold cel celT alT
    rw [hw1.1, aset_at]
    rcases ht1 with rfl | ht1
    · rw [if_neg (by omega), if_pos rfl, if_pos rfl]
      rfl
    · rw [if_neg (by omega), if_neg (by omega), if_neg (by omega), if_neg (by omega), if_neg (by omega), if_pos ht1.2, if_neg (by omega)]
  have hF : 1 ≤ R.frames := by rw [hOk.2.2.2.2.2.2.2]; exact hR
  have h9 : nativeFrameWords "java/lang/System" "arraycopy" 5 ≤ 24 := by decide +kernel
  have hLo : ((st.map (cvA ad)).map fun v => v.category).sum + (nativeFrameWords "java/lang/System" "arraycopy" 5 + 11) ≤ R.locals := by
    rw [hOk.2.2.2.2.2.2.2]
    show _ ≤ 64 * _
    omega
  refine va_copyi hOk.1 hOk.2.1 (by rw [hOk.2.2.1]; exact hL.1.symm) hOk.2.2.2.2.1 (hts _ hlink) (hts _ hnat) (hts _ hstat) (hts _ hini) hIn.1 hIn.2.1 hIn.2.2.1 hIn.2.2.2.1 i0 i1 0 0 hc0 hc1 rfl rfl rfl h1 h2 h3 h4 h5 (fun _ _ => rfl) hF hLo hd ?_
  intro H1 locs1 hP hD hS
  exact k p l e R s mi args below meth c G ad0 nx0 A ad H1 locs1 ls hOk (hIn.setw rfl he (fun a h => cel_aset_ne _ h) hIn.2.2.2.2.2.2.2 hP hD hS) hL (fun w hw => hst w (by simp [hw]))
end
section
/-! CALLS, new arrays. -/
theorem cvA_ag {ad ad' : Nat → Nat} {m : AM} (hag : ∀ i, i < m.2.2.2 → ad' i = ad i) {v : AV} (h : wt m v) : cvA ad' v = cvA ad v := by
  rcases v with x | x | q
  · rfl
  · rfl
  · show Value.ref _ = Value.ref _
    rw [hag _ h.2]
theorem wt_up {m m' : AM} (hn : m.2.2.2 ≤ m'.2.2.2) {v : AV} (h : wt m v) : wt m' v := by
  rcases v with x | x | q
  · trivial
  · trivial
  · exact ⟨h.1, Nat.lt_of_lt_of_le h.2 hn⟩
theorem LHm.up {ad ad' : Nat → Nat} {m m' : AM} {ls : Array Slot} {nL : Nat} {L : List (Option AV)} (hag : ∀ i, i < m.2.2.2 → ad' i = ad i) (hn : m.2.2.2 ≤ m'.2.2.2) (h : LHm ad m ls nL L) : LHm ad' m' ls nL L :=
  ⟨h.1, h.2.1, fun k v hk => ⟨by rw [cvA_ag hag (h.2.2 k v hk).2]; exact (h.2.2 k v hk).1, wt_up hn (h.2.2 k v hk).2⟩⟩
theorem map_ag {ad ad' : Nat → Nat} {m : AM} (hag : ∀ i, i < m.2.2.2 → ad' i = ad i) {st : List AV} (h : ∀ v, v ∈ st → wt m v) : st.map (cvA ad') = st.map (cvA ad) :=
  List.map_congr_left (fun v hv => cvA_ag hag (h v hv))
theorem b_back {E : ME} {Φ Φ' : Option AV → AM → Prop} {pc : Nat} {L : List (Option AV)} {st : List AV} {m : AM} {a : Nat × Nat} {mc ms : Nat} (hk : ∀ r m', Φ' r m' → B E Φ (pc + 3) L (r.toList ++ st) m' (a.1 + mc, a.2 + ms))
    {p : Program} {l : Launch} {e : Env} {R : Room} {s : State} {mi : MethodId} {args : Array Value} {below : List Frame} {meth : Method} {c : Code} {G : va_G × (Nat → ClassId)} {ad0 : Nat → Nat} {nx0 : Nat} {A : Nat → Prop} {ad : Nat → Nat} {H : Heap} {locs : List Loc} {ls : Array Slot} {st0 : List Value} {as : Array Value}
    (hOk : OkM E p R s mi args meth c) (hIn : InM G ad0 nx0 A ad m s H locs) (hL : LHm ad m ls E.2.2.1 L) (hst : ∀ v, v ∈ st → wt m v)
    (hr : va_Run p l e R s mi args below meth c H locs a.1 a.2 mc ms (F0 mi pc ls st0) (st.map (cvA ad)) (Qg G ad m.2.2.2 (va_A (wsO G.2 ad m) H.size) Φ' as) (va_A (wsO G.2 ad m) H.size)) :
    W p l e R s mi args below meth c H locs a.1 a.2 (MQ below (Qg G ad0 nx0 A Φ) args s E.2.2.2.2.1 E.2.2.2.2.2.1 A) (F0 mi pc ls st0) := by
  intro T hT X
  obtain ⟨v, st₀, t, T', Lq, h0, X', hLq, e1, e2, ⟨⟨r, m', ad', hv, hΦ, hwr, hty, ⟨hP', hK'⟩, hD', hnx, hag⟩, hz, hkk⟩, stp⟩ := hr T hT X
  have hv2 : v = r.map (cvA ad') := by injection hv
  subst hv2
  rw [h0] at hz hkk
  have hS := hIn.2.2.2.1
  have hAA : ∀ q, va_A (wsO G.2 ad m) H.size q → A q := by
    rintro q (⟨k, en, hke⟩ | hq)
    · exact hIn.2.2.1.2 k _ hke
    · exact hIn.2.2.2.2.1 q (Nat.le_trans hS.1 hq)
  have kq := hk r m' hΦ p l e R s mi args below meth c G ad0 nx0 A ad' T'.heap (locs ++ Lq) ls hOk ⟨hIn.1, by rw [e1]; exact hP', hD'.weaken (fun k q hk hq => hAA _ hq), ⟨Nat.le_trans hS.1 (by rw [e1]; exact hz), fun q h1 h2 => by rw [e1, hkk q (Nat.lt_of_lt_of_le h1 hS.1) (fun z => h2 (hAA q z))]; exact hS.2.1 q h1 h2, fun q hq => by
      rcases List.mem_append.mp hq with h | h
      · exact hS.2.2 q h
      · exact hAA _ (hLq q h)⟩, hIn.2.2.2.2.1, fun i hi => (hag i (Nat.lt_of_lt_of_le hi hIn.2.2.2.2.2.2.1)).trans (hIn.2.2.2.2.2.1 i hi), Nat.le_trans hIn.2.2.2.2.2.2.1 hnx, hty⟩ (hL.up hag hnx) (fun w hw => by
      rcases List.mem_append.mp hw with h | h
      · exact hwr w (by cases r with | none => simp at h | some z => simp at h; rw [h])
      · exact wt_up hnx (hst w h))
  obtain ⟨t2, a1, b1⟩ := kq T' rfl X'
  refine ⟨t2, stp t2 ?_, b1⟩
  have e9 : (r.toList ++ st).map (cvA ad') = (r.map (cvA ad')).toList ++ st.map (cvA ad) := by
    rw [List.map_append, map_ag hag hst]
    cases r <;> rfl
  rw [e9] at a1
  exact a1
theorem tb_in {ws : List Cond} (h : ∀ w ∈ ws, w ∈ TB) : GoodIn TB ws := fun w hw => ⟨h w hw, (tb_good w (h w hw)).2⟩
theorem b_callV {y : MethodName} {E' : ME} {Sp : List AV → AM → (Option AV → AM → Prop) → Prop} (hS : Snd y E' Sp) {E : ME} {Φ : Option AV → AM → Prop} {pc : Nat} {L : List (Option AV)} {st : List AV} {m : AM} {a : Nat × Nat} {t i idx : Nat} (av : List AV) (q : vw_C)
    (hc : vwCl[t]? = some q) (hq : q.1 = y.cls) (ht : t < 12) (hl : Cond.methodLink E.2.1 idx y ∈ TB ∨ ∃ host, Cond.methodLinkNest E.2.1 idx y host ∈ TB) (hi : Cond.instanceMethod y ∈ TB) (hse : Cond.selects y.cls y y ∈ TB) (hini : Cond.initialized y.cls ∈ TB) (hco : Cond.code y E'.1 E'.2.2.1 E'.2.2.2.1 ∈ TB)
    (hds : y.cls ≠ "java/lang/invoke/MethodHandle" ∧ y.cls ≠ "java/lang/invoke/VarHandle" ∧ (parseMethodDescriptor y.desc).map (fun d => d.parameters.length) = some av.length) (hdep : E'.2.2.2.2.2.2 + 1 ≤ E.2.2.2.2.2.2 ∧ E'.2.2.1 ≤ 45) (hroom : a.1 + E'.2.2.2.2.1 ≤ E.2.2.2.2.1 ∧ a.2 + E'.2.2.2.2.2.1 ≤ E.2.2.2.2.2.1) (hsr : st.length ≤ 4)
    (hd : decode E.1 pc = .ok (.invokevirtual idx, 3)) (hsp : Sp (vr t i :: av) m (fun r m' => B E Φ (pc + 3) L (r.toList ++ st) m' (a.1 + E'.2.2.2.2.1, a.2 + E'.2.2.2.2.2.1))) : B E Φ pc L (av.reverse ++ vr t i :: st) m a := by
  intro p l e R s mi args below meth c G ad0 nx0 A ad H locs ls hOk hIn hL hst
  have hts := hOk.2.2.2.2.2.1
  have hty := hIn.2.2.2.2.2.2.2
  have hst2 : ∀ v, v ∈ st → wt m v := fun v hv => hst v (by simp [hv])
  have hb0 : wt m (vr t i) := hst _ (by simp)
  have hav : ∀ v, v ∈ vr t i :: av → wt m v := fun v hv => hst v (by
    rcases List.mem_cons.mp hv with h | h
    · simp [h]
    · simp [h])
  have hM := hS l G ad m (vr t i :: av) _ H.size hsp hav hty
  have hce := hIn.cell hb0
  unfold celT at hce
  rw [if_pos ht] at hce
  have hmem : ∀ w ∈ Cond.code y E'.1 E'.2.2.1 E'.2.2.2.1 :: TB, w ∈ TB := fun w hw => by
    rcases List.mem_cons.mp hw with h | h
    · rw [h]; exact hco
    · exact h
  have hR : (rmD E'.2.2.2.2.2.2 E'.2.2.2.2.1 E'.2.2.2.2.2.1).frames + 1 ≤ R.frames ∧ 8 + (E'.2.2.1 + 11) + (rmD E'.2.2.2.2.2.2 E'.2.2.2.2.1 E'.2.2.2.2.2.1).locals ≤ R.locals := by
    rw [hOk.2.2.2.2.2.2.2]
    refine ⟨hdep.1, ?_⟩
    show 8 + (E'.2.2.1 + 11) + 64 * E'.2.2.2.2.2.2 ≤ 64 * E.2.2.2.2.2.2
    have := hdep.1
    have := hdep.2
    omega
  have hpre : PreV s H y.cls (ad i) (va_Pc ((vr t i :: av).map (cvA ad)) (fun U => U.heap.size = H.size ∧ Wd G ad m U ∧ va_D (fun _ => True) (wsO G.2 ad m))) (av.map (cvA ad)) :=
    ⟨fun a U g mk q => by obtain ⟨q0, q1, ⟨qP, qK⟩, qD⟩ := q; exact ⟨q0, q1, ⟨qP, va_K.moved (u := U) (U := U.calling g mk a) (Vm.Alike.refl U.vm) qK⟩, qD⟩, hq ▸ va_recv hIn.1 hIn.2.1 hc hce, fun U hU hW => ⟨rfl, by rw [hU], ⟨by rw [hU]; exact hIn.2.1, va_K.moved hW.alike hIn.1⟩, hIn.2.2.1.weaken (fun _ _ _ _ => trivial)⟩⟩
  have hcat := cat_le ad st
  have hW8 : ((st.map (cvA ad)).map fun v => v.category).sum ≤ 8 := by omega
  have hf : a.1 + E'.2.2.2.2.1 ≤ R.cells ∧ a.2 + E'.2.2.2.2.2.1 ≤ R.slots := by rw [hOk.2.2.2.2.2.2.2]; exact hroom
  have hstk : ((av.reverse ++ vr t i :: st).map (cvA ad)) = (av.map (cvA ad)).reverse ++ .ref (ad i) :: st.map (cvA ad) := by rw [List.map_append, List.map_reverse]; rfl
  rw [hstk]
  refine b_back (mc := E'.2.2.2.2.1) (ms := E'.2.2.2.2.2.1) (Φ' := fun r m' => B E Φ (pc + 3) L (r.toList ++ st) m' (a.1 + E'.2.2.2.2.1, a.2 + E'.2.2.2.2.2.1)) (fun r m' h => h) hOk hIn hL hst2 (as := (Value.ref (ad i) :: av.map (cvA ad)).toArray) ?_
  rcases hl with hl | ⟨host, hl⟩
  · exact va_runV (n := (av.map (cvA ad)).length) ⟨hOk.1, hOk.2.1, hOk.2.2.1, hOk.2.2.2.2.1, hts⟩ hM ⟨callB_of _ hts (tb_in hmem) rfl rfl rfl (hts _ hini) (hts _ hl) ⟨hds.1, hds.2.1, by rw [List.length_map]; exact hds.2.2⟩ hR, hts _ hi, hts _ hse⟩ hpre rfl rfl hL.1 rfl (lv_room hW8) hd hf
  · exact va_runVN (n := (av.map (cvA ad)).length) ⟨hOk.1, hOk.2.1, hOk.2.2.1, hOk.2.2.2.2.1, hts⟩ hM ⟨va_cnB _ hts (tb_in hmem) rfl rfl rfl (va_Nw.of rfl (hts _ hl)) (hts _ hini) ⟨hds.1, hds.2.1, by rw [List.length_map]; exact hds.2.2⟩ hR, hts _ hi, hts _ hse⟩ hpre rfl rfl hL.1 rfl (lv_room hW8) hd hf
theorem b_callS {y : MethodName} {E' : ME} {Sp : List AV → AM → (Option AV → AM → Prop) → Prop} (hS : Snd y E' Sp) {E : ME} {Φ : Option AV → AM → Prop} {pc : Nat} {L : List (Option AV)} {st : List AV} {m : AM} {a : Nat × Nat} {idx : Nat} (av : List AV)
    (hl : Cond.methodLink E.2.1 idx y ∈ TB ∨ ∃ host, Cond.methodLinkNest E.2.1 idx y host ∈ TB) (hi : Cond.static y ∈ TB) (hini : Cond.initialized y.cls ∈ TB) (hco : Cond.code y E'.1 E'.2.2.1 E'.2.2.2.1 ∈ TB)
    (hds : y.cls ≠ "java/lang/invoke/MethodHandle" ∧ y.cls ≠ "java/lang/invoke/VarHandle" ∧ (parseMethodDescriptor y.desc).map (fun d => d.parameters.length) = some av.length) (hdep : E'.2.2.2.2.2.2 + 1 ≤ E.2.2.2.2.2.2 ∧ E'.2.2.1 ≤ 45) (hroom : a.1 + E'.2.2.2.2.1 ≤ E.2.2.2.2.1 ∧ a.2 + E'.2.2.2.2.2.1 ≤ E.2.2.2.2.2.1) (hsr : st.length ≤ 4)
    (hd : decode E.1 pc = .ok (.invokestatic idx, 3)) (hsp : Sp av m (fun r m' => B E Φ (pc + 3) L (r.toList ++ st) m' (a.1 + E'.2.2.2.2.1, a.2 + E'.2.2.2.2.2.1))) : B E Φ pc L (av.reverse ++ st) m a := by
  intro p l e R s mi args below meth c G ad0 nx0 A ad H locs ls hOk hIn hL hst
  have hts := hOk.2.2.2.2.2.1
  have hty := hIn.2.2.2.2.2.2.2
  have hst2 : ∀ v, v ∈ st → wt m v := fun v hv => hst v (by simp [hv])
  have hav : ∀ v, v ∈ av → wt m v := fun v hv => hst v (by simp [hv])
  have hM := hS l G ad m av _ H.size hsp hav hty
  have hmem : ∀ w ∈ Cond.code y E'.1 E'.2.2.1 E'.2.2.2.1 :: TB, w ∈ TB := fun w hw => by
    rcases List.mem_cons.mp hw with h | h
    · rw [h]; exact hco
    · exact h
  have hR : (rmD E'.2.2.2.2.2.2 E'.2.2.2.2.1 E'.2.2.2.2.2.1).frames + 1 ≤ R.frames ∧ 8 + (E'.2.2.1 + 11) + (rmD E'.2.2.2.2.2.2 E'.2.2.2.2.1 E'.2.2.2.2.2.1).locals ≤ R.locals := by
    rw [hOk.2.2.2.2.2.2.2]
    refine ⟨hdep.1, ?_⟩
    show 8 + (E'.2.2.1 + 11) + 64 * E'.2.2.2.2.2.2 ≤ 64 * E.2.2.2.2.2.2
    have := hdep.1
    have := hdep.2
    omega
  have hpre : PreS s H (va_Pc (av.map (cvA ad)) (fun U => U.heap.size = H.size ∧ Wd G ad m U ∧ va_D (fun _ => True) (wsO G.2 ad m))) (av.map (cvA ad)) :=
    ⟨fun a U g mk q => by obtain ⟨q0, q1, ⟨qP, qK⟩, qD⟩ := q; exact ⟨q0, q1, ⟨qP, va_K.moved (u := U) (U := U.calling g mk a) (Vm.Alike.refl U.vm) qK⟩, qD⟩, fun U hU hW => ⟨rfl, by rw [hU], ⟨by rw [hU]; exact hIn.2.1, va_K.moved hW.alike hIn.1⟩, hIn.2.2.1.weaken (fun _ _ _ _ => trivial)⟩⟩
  have hcat := cat_le ad st
  have hW8 : ((st.map (cvA ad)).map fun v => v.category).sum ≤ 8 := by omega
  have hf : a.1 + E'.2.2.2.2.1 ≤ R.cells ∧ a.2 + E'.2.2.2.2.2.1 ≤ R.slots := by rw [hOk.2.2.2.2.2.2.2]; exact hroom
  have hstk : ((av.reverse ++ st).map (cvA ad)) = (av.map (cvA ad)).reverse ++ st.map (cvA ad) := by rw [List.map_append, List.map_reverse]
  rw [hstk]
  refine b_back (mc := E'.2.2.2.2.1) (ms := E'.2.2.2.2.2.1) (Φ' := fun r m' => B E Φ (pc + 3) L (r.toList ++ st) m' (a.1 + E'.2.2.2.2.1, a.2 + E'.2.2.2.2.2.1)) (fun r m' h => h) hOk hIn hL hst2 (as := (av.map (cvA ad)).toArray) ?_
  rcases hl with hl | ⟨host, hl⟩
  · exact va_runS (n := (av.map (cvA ad)).length) ⟨hOk.1, hOk.2.1, hOk.2.2.1, hOk.2.2.2.2.1, hts⟩ hM ⟨callB_of _ hts (tb_in hmem) rfl rfl rfl (hts _ hini) (hts _ hl) ⟨hds.1, hds.2.1, by rw [List.length_map]; exact hds.2.2⟩ hR, hts _ hi⟩ hpre rfl rfl hL.1 rfl (lv_room hW8) hd hf
  · exact va_runSN (n := (av.map (cvA ad)).length) ⟨hOk.1, hOk.2.1, hOk.2.2.1, hOk.2.2.2.2.1, hts⟩ hM ⟨va_cnB _ hts (tb_in hmem) rfl rfl rfl (va_Nw.of rfl (hts _ hl)) (hts _ hini) ⟨hds.1, hds.2.1, by rw [List.length_map]; exact hds.2.2⟩ hR, hts _ hi, trivial⟩ hpre rfl rfl hL.1 rfl (lv_room hW8) hd hf
theorem kd_off (t t' o : Nat) (h : ∀ j, j < 125 → KD j = t → KD (j + o) = t' ∧ j + o < 125) {m : AM} {i : Nat} (ht : t ≠ 12) (hw : wt m (vr t i)) (hm : TY m) : wt m (vr t' (i + o)) := by
  have hi : i < 125 := by
    rcases Nat.lt_or_ge i 125 with h1 | h1
    · exact h1
    · have h9 : KD i = t := hw.1
      rw [KD_ge h1] at h9
      exact absurd h9.symm ht
  have h2 := h i hi hw.1
  exact ⟨h2.1, Nat.lt_of_lt_of_le h2.2 hm.1⟩
end
