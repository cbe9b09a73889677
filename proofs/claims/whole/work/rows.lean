section
-- ===== PART A: goes FIRST, ahead of the names: the tables' words, and 'selects' of the private methods out of them =====
/-- a private method of a class that the tables say can be made, by its rows of tables_1 -/
def lw_okq (q : MethodName × Nat) : Prop := (q.1.cls ≠ "java/lang/invoke/MethodHandle" ∧ q.1.cls ≠ "java/lang/invoke/VarHandle") ∧ Cond.instantiable q.1.cls q.2 ∈ tables_1 ∧ Cond.privateMethod q.1 ∈ tables_1 ∧ Cond.instanceMethod q.1 ∈ tables_1
theorem lw_p0 : lw_okq (⟨"BelievedWords", "found", "(I)I"⟩, 9) := ⟨⟨by decide +kernel, by decide +kernel⟩, List.mem_of_getElem? (i := 19) (by decide +kernel), List.mem_of_getElem? (i := 385) (by decide +kernel), List.mem_of_getElem? (i := 386) (by decide +kernel)⟩
theorem lw_p1 : lw_okq (⟨"BelievedWords", "fine", "(I)I"⟩, 9) := ⟨⟨by decide +kernel, by decide +kernel⟩, List.mem_of_getElem? (i := 19) (by decide +kernel), List.mem_of_getElem? (i := 394) (by decide +kernel), List.mem_of_getElem? (i := 395) (by decide +kernel)⟩
theorem lw_p2 : lw_okq (⟨"BelievedWords$Tape", "readLaw", "()Z"⟩, 9) := ⟨⟨by decide +kernel, by decide +kernel⟩, List.mem_of_getElem? (i := 49) (by decide +kernel), List.mem_of_getElem? (i := 459) (by decide +kernel), List.mem_of_getElem? (i := 460) (by decide +kernel)⟩
theorem lw_p3 : lw_okq (⟨"BelievedWords$Tape", "takes", "(I)Z"⟩, 9) := ⟨⟨by decide +kernel, by decide +kernel⟩, List.mem_of_getElem? (i := 49) (by decide +kernel), List.mem_of_getElem? (i := 463) (by decide +kernel), List.mem_of_getElem? (i := 464) (by decide +kernel)⟩
theorem lw_p4 : lw_okq (⟨"BelievedWords$Tape", "step", "()V"⟩, 9) := ⟨⟨by decide +kernel, by decide +kernel⟩, List.mem_of_getElem? (i := 49) (by decide +kernel), List.mem_of_getElem? (i := 467) (by decide +kernel), List.mem_of_getElem? (i := 468) (by decide +kernel)⟩
theorem lw_p5 : lw_okq (⟨"BelievedWords$Tape", "stepOverFigures", "()V"⟩, 9) := ⟨⟨by decide +kernel, by decide +kernel⟩, List.mem_of_getElem? (i := 49) (by decide +kernel), List.mem_of_getElem? (i := 471) (by decide +kernel), List.mem_of_getElem? (i := 472) (by decide +kernel)⟩
theorem lw_p6 : lw_okq (⟨"BelievedWords$Tape", "fails", "(I)Z"⟩, 9) := ⟨⟨by decide +kernel, by decide +kernel⟩, List.mem_of_getElem? (i := 49) (by decide +kernel), List.mem_of_getElem? (i := 475) (by decide +kernel), List.mem_of_getElem? (i := 476) (by decide +kernel)⟩
theorem lw_p7 : lw_okq (⟨"BelievedWords$Tape", "takesNumber", "(II)Z"⟩, 9) := ⟨⟨by decide +kernel, by decide +kernel⟩, List.mem_of_getElem? (i := 49) (by decide +kernel), List.mem_of_getElem? (i := 479) (by decide +kernel), List.mem_of_getElem? (i := 480) (by decide +kernel)⟩
theorem lw_p8 : lw_okq (⟨"BelievedWords$Tape", "readRules", "()Z"⟩, 9) := ⟨⟨by decide +kernel, by decide +kernel⟩, List.mem_of_getElem? (i := 49) (by decide +kernel), List.mem_of_getElem? (i := 483) (by decide +kernel), List.mem_of_getElem? (i := 484) (by decide +kernel)⟩
theorem lw_p9 : lw_okq (⟨"BelievedWords$Tape", "readRule", "(I)Z"⟩, 9) := ⟨⟨by decide +kernel, by decide +kernel⟩, List.mem_of_getElem? (i := 49) (by decide +kernel), List.mem_of_getElem? (i := 487) (by decide +kernel), List.mem_of_getElem? (i := 488) (by decide +kernel)⟩
theorem lw_p10 : lw_okq (⟨"BelievedWords$Tape", "readPeople", "()Z"⟩, 9) := ⟨⟨by decide +kernel, by decide +kernel⟩, List.mem_of_getElem? (i := 49) (by decide +kernel), List.mem_of_getElem? (i := 499) (by decide +kernel), List.mem_of_getElem? (i := 500) (by decide +kernel)⟩
theorem lw_p11 : lw_okq (⟨"BelievedWords$Court", "gatherRules", "()V"⟩, 5) := ⟨⟨by decide +kernel, by decide +kernel⟩, List.mem_of_getElem? (i := 147) (by decide +kernel), List.mem_of_getElem? (i := 533) (by decide +kernel), List.mem_of_getElem? (i := 534) (by decide +kernel)⟩
theorem lw_p12 : lw_okq (⟨"BelievedWords$Court", "believed", "(IIII)I"⟩, 5) := ⟨⟨by decide +kernel, by decide +kernel⟩, List.mem_of_getElem? (i := 147) (by decide +kernel), List.mem_of_getElem? (i := 601) (by decide +kernel), List.mem_of_getElem? (i := 602) (by decide +kernel)⟩
theorem lw_p13 : lw_okq (⟨"BelievedWords$Court", "grow", "(I)I"⟩, 5) := ⟨⟨by decide +kernel, by decide +kernel⟩, List.mem_of_getElem? (i := 147) (by decide +kernel), List.mem_of_getElem? (i := 613) (by decide +kernel), List.mem_of_getElem? (i := 614) (by decide +kernel)⟩
theorem lw_p14 : lw_okq (⟨"BelievedWords$Court", "isBarred", "(I)Z"⟩, 5) := ⟨⟨by decide +kernel, by decide +kernel⟩, List.mem_of_getElem? (i := 147) (by decide +kernel), List.mem_of_getElem? (i := 617) (by decide +kernel), List.mem_of_getElem? (i := 618) (by decide +kernel)⟩
theorem lw_p15 : lw_okq (⟨"BelievedWords", "refusalOfGoal", "(III)I"⟩, 9) := ⟨⟨by decide +kernel, by decide +kernel⟩, List.mem_of_getElem? (i := 19) (by decide +kernel), List.mem_of_getElem? (i := 675) (by decide +kernel), List.mem_of_getElem? (i := 676) (by decide +kernel)⟩
def lw_privs_1 : List (MethodName × Nat) := [(⟨"BelievedWords", "found", "(I)I"⟩, 9), (⟨"BelievedWords", "fine", "(I)I"⟩, 9), (⟨"BelievedWords$Tape", "readLaw", "()Z"⟩, 9), (⟨"BelievedWords$Tape", "takes", "(I)Z"⟩, 9), (⟨"BelievedWords$Tape", "step", "()V"⟩, 9), (⟨"BelievedWords$Tape", "stepOverFigures", "()V"⟩, 9), (⟨"BelievedWords$Tape", "fails", "(I)Z"⟩, 9), (⟨"BelievedWords$Tape", "takesNumber", "(II)Z"⟩, 9), (⟨"BelievedWords$Tape", "readRules", "()Z"⟩, 9), (⟨"BelievedWords$Tape", "readRule", "(I)Z"⟩, 9), (⟨"BelievedWords$Tape", "readPeople", "()Z"⟩, 9), (⟨"BelievedWords$Court", "gatherRules", "()V"⟩, 5), (⟨"BelievedWords$Court", "believed", "(IIII)I"⟩, 5), (⟨"BelievedWords$Court", "grow", "(I)I"⟩, 5), (⟨"BelievedWords$Court", "isBarred", "(I)Z"⟩, 5), (⟨"BelievedWords", "refusalOfGoal", "(III)I"⟩, 9)]
theorem lw_r1 : ∀ q ∈ lw_privs_1, lw_okq q := List.forall_mem_cons.mpr ⟨lw_p0, List.forall_mem_cons.mpr ⟨lw_p1, List.forall_mem_cons.mpr ⟨lw_p2, List.forall_mem_cons.mpr ⟨lw_p3, List.forall_mem_cons.mpr ⟨lw_p4, List.forall_mem_cons.mpr ⟨lw_p5, List.forall_mem_cons.mpr ⟨lw_p6, List.forall_mem_cons.mpr ⟨lw_p7, List.forall_mem_cons.mpr ⟨lw_p8, List.forall_mem_cons.mpr ⟨lw_p9, List.forall_mem_cons.mpr ⟨lw_p10, List.forall_mem_cons.mpr ⟨lw_p11, List.forall_mem_cons.mpr ⟨lw_p12, List.forall_mem_cons.mpr ⟨lw_p13, List.forall_mem_cons.mpr ⟨lw_p14, List.forall_mem_cons.mpr ⟨lw_p15, fun _ h => absurd h List.not_mem_nil⟩⟩⟩⟩⟩⟩⟩⟩⟩⟩⟩⟩⟩⟩⟩⟩
theorem lw_p16 : lw_okq (⟨"BelievedWords$Search", "begin", "(LBelievedWords$Law;IIZ)V"⟩, 14) := ⟨⟨by decide +kernel, by decide +kernel⟩, List.mem_of_getElem? (i := 246) (by decide +kernel), List.mem_of_getElem? (i := 687) (by decide +kernel), List.mem_of_getElem? (i := 688) (by decide +kernel)⟩
theorem lw_p17 : lw_okq (⟨"BelievedWords$Search", "gatherMovers", "(LBelievedWords$Law;)V"⟩, 14) := ⟨⟨by decide +kernel, by decide +kernel⟩, List.mem_of_getElem? (i := 246) (by decide +kernel), List.mem_of_getElem? (i := 691) (by decide +kernel), List.mem_of_getElem? (i := 692) (by decide +kernel)⟩
theorem lw_p18 : lw_okq (⟨"BelievedWords$Search", "isMet", "(I)Z"⟩, 14) := ⟨⟨by decide +kernel, by decide +kernel⟩, List.mem_of_getElem? (i := 246) (by decide +kernel), List.mem_of_getElem? (i := 700) (by decide +kernel), List.mem_of_getElem? (i := 701) (by decide +kernel)⟩
theorem lw_p19 : lw_okq (⟨"BelievedWords$Search", "explore", "(LBelievedWords$Court;)I"⟩, 14) := ⟨⟨by decide +kernel, by decide +kernel⟩, List.mem_of_getElem? (i := 246) (by decide +kernel), List.mem_of_getElem? (i := 704) (by decide +kernel), List.mem_of_getElem? (i := 705) (by decide +kernel)⟩
theorem lw_p20 : lw_okq (⟨"BelievedWords$Search", "sayFirst", "(LBelievedWords$Court;)V"⟩, 14) := ⟨⟨by decide +kernel, by decide +kernel⟩, List.mem_of_getElem? (i := 246) (by decide +kernel), List.mem_of_getElem? (i := 708) (by decide +kernel), List.mem_of_getElem? (i := 709) (by decide +kernel)⟩
theorem lw_p21 : lw_okq (⟨"BelievedWords$Search", "stepOf", "(II)I"⟩, 14) := ⟨⟨by decide +kernel, by decide +kernel⟩, List.mem_of_getElem? (i := 246) (by decide +kernel), List.mem_of_getElem? (i := 714) (by decide +kernel), List.mem_of_getElem? (i := 715) (by decide +kernel)⟩
theorem lw_p22 : lw_okq (⟨"BelievedWords$Search", "enter", "(IIII)V"⟩, 14) := ⟨⟨by decide +kernel, by decide +kernel⟩, List.mem_of_getElem? (i := 246) (by decide +kernel), List.mem_of_getElem? (i := 719) (by decide +kernel), List.mem_of_getElem? (i := 720) (by decide +kernel)⟩
theorem lw_p23 : lw_okq (⟨"BelievedWords$Search", "soOf", "(I)I"⟩, 14) := ⟨⟨by decide +kernel, by decide +kernel⟩, List.mem_of_getElem? (i := 246) (by decide +kernel), List.mem_of_getElem? (i := 726) (by decide +kernel), List.mem_of_getElem? (i := 727) (by decide +kernel)⟩
theorem lw_p24 : lw_okq (⟨"BelievedWords$Search", "lead", "(LBelievedWords$Court;I)V"⟩, 14) := ⟨⟨by decide +kernel, by decide +kernel⟩, List.mem_of_getElem? (i := 246) (by decide +kernel), List.mem_of_getElem? (i := 730) (by decide +kernel), List.mem_of_getElem? (i := 731) (by decide +kernel)⟩
theorem lw_p25 : lw_okq (⟨"BelievedWords$Foresight", "tellSaying", "(LBelievedWords$Court;IIIIZ)V"⟩, 4) := ⟨⟨by decide +kernel, by decide +kernel⟩, List.mem_of_getElem? (i := 295) (by decide +kernel), List.mem_of_getElem? (i := 823) (by decide +kernel), List.mem_of_getElem? (i := 824) (by decide +kernel)⟩
theorem lw_p26 : lw_okq (⟨"BelievedWords$Foresight", "turnOver", "()V"⟩, 4) := ⟨⟨by decide +kernel, by decide +kernel⟩, List.mem_of_getElem? (i := 295) (by decide +kernel), List.mem_of_getElem? (i := 828) (by decide +kernel), List.mem_of_getElem? (i := 829) (by decide +kernel)⟩
theorem lw_p27 : lw_okq (⟨"BelievedWords$Asks", "askedOf", "(LBelievedWords$Court;III)I"⟩, 2) := ⟨⟨by decide +kernel, by decide +kernel⟩, List.mem_of_getElem? (i := 314) (by decide +kernel), List.mem_of_getElem? (i := 933) (by decide +kernel), List.mem_of_getElem? (i := 934) (by decide +kernel)⟩
theorem lw_p28 : lw_okq (⟨"BelievedWords$Asks", "body", "(LBelievedWords$Court;III)I"⟩, 2) := ⟨⟨by decide +kernel, by decide +kernel⟩, List.mem_of_getElem? (i := 314) (by decide +kernel), List.mem_of_getElem? (i := 941) (by decide +kernel), List.mem_of_getElem? (i := 942) (by decide +kernel)⟩
theorem lw_p29 : lw_okq (⟨"BelievedWords$Asks", "leave", "(I)V"⟩, 2) := ⟨⟨by decide +kernel, by decide +kernel⟩, List.mem_of_getElem? (i := 314) (by decide +kernel), List.mem_of_getElem? (i := 945) (by decide +kernel), List.mem_of_getElem? (i := 946) (by decide +kernel)⟩
theorem lw_p30 : lw_okq (⟨"BelievedWordsModel", "finding", "(I)I"⟩, 28) := ⟨⟨by decide +kernel, by decide +kernel⟩, List.mem_of_getElem? (i := 970) (by decide +kernel), List.mem_of_getElem? (i := 1075) (by decide +kernel), List.mem_of_getElem? (i := 1076) (by decide +kernel)⟩
theorem lw_p31 : lw_okq (⟨"BelievedWordsModel", "begin", "()V"⟩, 28) := ⟨⟨by decide +kernel, by decide +kernel⟩, List.mem_of_getElem? (i := 970) (by decide +kernel), List.mem_of_getElem? (i := 1106) (by decide +kernel), List.mem_of_getElem? (i := 1107) (by decide +kernel)⟩
def lw_privs_2 : List (MethodName × Nat) := [(⟨"BelievedWords$Search", "begin", "(LBelievedWords$Law;IIZ)V"⟩, 14), (⟨"BelievedWords$Search", "gatherMovers", "(LBelievedWords$Law;)V"⟩, 14), (⟨"BelievedWords$Search", "isMet", "(I)Z"⟩, 14), (⟨"BelievedWords$Search", "explore", "(LBelievedWords$Court;)I"⟩, 14), (⟨"BelievedWords$Search", "sayFirst", "(LBelievedWords$Court;)V"⟩, 14), (⟨"BelievedWords$Search", "stepOf", "(II)I"⟩, 14), (⟨"BelievedWords$Search", "enter", "(IIII)V"⟩, 14), (⟨"BelievedWords$Search", "soOf", "(I)I"⟩, 14), (⟨"BelievedWords$Search", "lead", "(LBelievedWords$Court;I)V"⟩, 14), (⟨"BelievedWords$Foresight", "tellSaying", "(LBelievedWords$Court;IIIIZ)V"⟩, 4), (⟨"BelievedWords$Foresight", "turnOver", "()V"⟩, 4), (⟨"BelievedWords$Asks", "askedOf", "(LBelievedWords$Court;III)I"⟩, 2), (⟨"BelievedWords$Asks", "body", "(LBelievedWords$Court;III)I"⟩, 2), (⟨"BelievedWords$Asks", "leave", "(I)V"⟩, 2), (⟨"BelievedWordsModel", "finding", "(I)I"⟩, 28), (⟨"BelievedWordsModel", "begin", "()V"⟩, 28)]
theorem lw_r2 : ∀ q ∈ lw_privs_2, lw_okq q := List.forall_mem_cons.mpr ⟨lw_p16, List.forall_mem_cons.mpr ⟨lw_p17, List.forall_mem_cons.mpr ⟨lw_p18, List.forall_mem_cons.mpr ⟨lw_p19, List.forall_mem_cons.mpr ⟨lw_p20, List.forall_mem_cons.mpr ⟨lw_p21, List.forall_mem_cons.mpr ⟨lw_p22, List.forall_mem_cons.mpr ⟨lw_p23, List.forall_mem_cons.mpr ⟨lw_p24, List.forall_mem_cons.mpr ⟨lw_p25, List.forall_mem_cons.mpr ⟨lw_p26, List.forall_mem_cons.mpr ⟨lw_p27, List.forall_mem_cons.mpr ⟨lw_p28, List.forall_mem_cons.mpr ⟨lw_p29, List.forall_mem_cons.mpr ⟨lw_p30, List.forall_mem_cons.mpr ⟨lw_p31, fun _ h => absurd h List.not_mem_nil⟩⟩⟩⟩⟩⟩⟩⟩⟩⟩⟩⟩⟩⟩⟩⟩
theorem lw_p32 : lw_okq (⟨"BelievedWordsModel", "nextToken", "()V"⟩, 28) := ⟨⟨by decide +kernel, by decide +kernel⟩, List.mem_of_getElem? (i := 970) (by decide +kernel), List.mem_of_getElem? (i := 1110) (by decide +kernel), List.mem_of_getElem? (i := 1111) (by decide +kernel)⟩
theorem lw_p33 : lw_okq (⟨"BelievedWordsModel", "isLetter", "(I)Z"⟩, 28) := ⟨⟨by decide +kernel, by decide +kernel⟩, List.mem_of_getElem? (i := 970) (by decide +kernel), List.mem_of_getElem? (i := 1119) (by decide +kernel), List.mem_of_getElem? (i := 1120) (by decide +kernel)⟩
theorem lw_p34 : lw_okq (⟨"BelievedWordsModel", "must", "(Z)V"⟩, 28) := ⟨⟨by decide +kernel, by decide +kernel⟩, List.mem_of_getElem? (i := 970) (by decide +kernel), List.mem_of_getElem? (i := 1123) (by decide +kernel), List.mem_of_getElem? (i := 1124) (by decide +kernel)⟩
theorem lw_p35 : lw_okq (⟨"BelievedWordsModel", "bad", "(I)V"⟩, 28) := ⟨⟨by decide +kernel, by decide +kernel⟩, List.mem_of_getElem? (i := 970) (by decide +kernel), List.mem_of_getElem? (i := 1127) (by decide +kernel), List.mem_of_getElem? (i := 1128) (by decide +kernel)⟩
theorem lw_p36 : lw_okq (⟨"BelievedWordsModel", "number", "(II)I"⟩, 28) := ⟨⟨by decide +kernel, by decide +kernel⟩, List.mem_of_getElem? (i := 970) (by decide +kernel), List.mem_of_getElem? (i := 1131) (by decide +kernel), List.mem_of_getElem? (i := 1132) (by decide +kernel)⟩
theorem lw_p37 : lw_okq (⟨"BelievedWordsModel", "mustSign", "(I)V"⟩, 28) := ⟨⟨by decide +kernel, by decide +kernel⟩, List.mem_of_getElem? (i := 970) (by decide +kernel), List.mem_of_getElem? (i := 1135) (by decide +kernel), List.mem_of_getElem? (i := 1136) (by decide +kernel)⟩
theorem lw_p38 : lw_okq (⟨"BelievedWordsModel", "readRule", "()V"⟩, 28) := ⟨⟨by decide +kernel, by decide +kernel⟩, List.mem_of_getElem? (i := 970) (by decide +kernel), List.mem_of_getElem? (i := 1139) (by decide +kernel), List.mem_of_getElem? (i := 1140) (by decide +kernel)⟩
theorem lw_p39 : lw_okq (⟨"BelievedWordsModel", "isTold", "(IIJ)Z"⟩, 28) := ⟨⟨by decide +kernel, by decide +kernel⟩, List.mem_of_getElem? (i := 970) (by decide +kernel), List.mem_of_getElem? (i := 1143) (by decide +kernel), List.mem_of_getElem? (i := 1144) (by decide +kernel)⟩
theorem lw_p40 : lw_okq (⟨"BelievedWordsModel", "isSort", "()Z"⟩, 28) := ⟨⟨by decide +kernel, by decide +kernel⟩, List.mem_of_getElem? (i := 970) (by decide +kernel), List.mem_of_getElem? (i := 1147) (by decide +kernel), List.mem_of_getElem? (i := 1148) (by decide +kernel)⟩
theorem lw_p41 : lw_okq (⟨"BelievedWordsModel", "failed", "()Z"⟩, 28) := ⟨⟨by decide +kernel, by decide +kernel⟩, List.mem_of_getElem? (i := 970) (by decide +kernel), List.mem_of_getElem? (i := 1154) (by decide +kernel), List.mem_of_getElem? (i := 1155) (by decide +kernel)⟩
theorem lw_p42 : lw_okq (⟨"BelievedWordsModel", "isPerson", "(I)Z"⟩, 28) := ⟨⟨by decide +kernel, by decide +kernel⟩, List.mem_of_getElem? (i := 970) (by decide +kernel), List.mem_of_getElem? (i := 1163) (by decide +kernel), List.mem_of_getElem? (i := 1164) (by decide +kernel)⟩
theorem lw_p43 : lw_okq (⟨"BelievedWordsModel", "isSaying", "(J)Z"⟩, 28) := ⟨⟨by decide +kernel, by decide +kernel⟩, List.mem_of_getElem? (i := 970) (by decide +kernel), List.mem_of_getElem? (i := 1167) (by decide +kernel), List.mem_of_getElem? (i := 1168) (by decide +kernel)⟩
theorem lw_p44 : lw_okq (⟨"BelievedWordsModel", "keep", "()V"⟩, 28) := ⟨⟨by decide +kernel, by decide +kernel⟩, List.mem_of_getElem? (i := 970) (by decide +kernel), List.mem_of_getElem? (i := 1171) (by decide +kernel), List.mem_of_getElem? (i := 1172) (by decide +kernel)⟩
theorem lw_p45 : lw_okq (⟨"BelievedWordsModel", "after", "(IIII)I"⟩, 28) := ⟨⟨by decide +kernel, by decide +kernel⟩, List.mem_of_getElem? (i := 970) (by decide +kernel), List.mem_of_getElem? (i := 1175) (by decide +kernel), List.mem_of_getElem? (i := 1176) (by decide +kernel)⟩
theorem lw_p46 : lw_okq (⟨"BelievedWordsModel", "kindOf", "(I)I"⟩, 28) := ⟨⟨by decide +kernel, by decide +kernel⟩, List.mem_of_getElem? (i := 970) (by decide +kernel), List.mem_of_getElem? (i := 1179) (by decide +kernel), List.mem_of_getElem? (i := 1180) (by decide +kernel)⟩
theorem lw_p47 : lw_okq (⟨"BelievedWordsModel", "afterBy", "(IIII)I"⟩, 28) := ⟨⟨by decide +kernel, by decide +kernel⟩, List.mem_of_getElem? (i := 970) (by decide +kernel), List.mem_of_getElem? (i := 1183) (by decide +kernel), List.mem_of_getElem? (i := 1184) (by decide +kernel)⟩
def lw_privs_3 : List (MethodName × Nat) := [(⟨"BelievedWordsModel", "nextToken", "()V"⟩, 28), (⟨"BelievedWordsModel", "isLetter", "(I)Z"⟩, 28), (⟨"BelievedWordsModel", "must", "(Z)V"⟩, 28), (⟨"BelievedWordsModel", "bad", "(I)V"⟩, 28), (⟨"BelievedWordsModel", "number", "(II)I"⟩, 28), (⟨"BelievedWordsModel", "mustSign", "(I)V"⟩, 28), (⟨"BelievedWordsModel", "readRule", "()V"⟩, 28), (⟨"BelievedWordsModel", "isTold", "(IIJ)Z"⟩, 28), (⟨"BelievedWordsModel", "isSort", "()Z"⟩, 28), (⟨"BelievedWordsModel", "failed", "()Z"⟩, 28), (⟨"BelievedWordsModel", "isPerson", "(I)Z"⟩, 28), (⟨"BelievedWordsModel", "isSaying", "(J)Z"⟩, 28), (⟨"BelievedWordsModel", "keep", "()V"⟩, 28), (⟨"BelievedWordsModel", "after", "(IIII)I"⟩, 28), (⟨"BelievedWordsModel", "kindOf", "(I)I"⟩, 28), (⟨"BelievedWordsModel", "afterBy", "(IIII)I"⟩, 28)]
theorem lw_r3 : ∀ q ∈ lw_privs_3, lw_okq q := List.forall_mem_cons.mpr ⟨lw_p32, List.forall_mem_cons.mpr ⟨lw_p33, List.forall_mem_cons.mpr ⟨lw_p34, List.forall_mem_cons.mpr ⟨lw_p35, List.forall_mem_cons.mpr ⟨lw_p36, List.forall_mem_cons.mpr ⟨lw_p37, List.forall_mem_cons.mpr ⟨lw_p38, List.forall_mem_cons.mpr ⟨lw_p39, List.forall_mem_cons.mpr ⟨lw_p40, List.forall_mem_cons.mpr ⟨lw_p41, List.forall_mem_cons.mpr ⟨lw_p42, List.forall_mem_cons.mpr ⟨lw_p43, List.forall_mem_cons.mpr ⟨lw_p44, List.forall_mem_cons.mpr ⟨lw_p45, List.forall_mem_cons.mpr ⟨lw_p46, List.forall_mem_cons.mpr ⟨lw_p47, fun _ h => absurd h List.not_mem_nil⟩⟩⟩⟩⟩⟩⟩⟩⟩⟩⟩⟩⟩⟩⟩⟩
theorem lw_p48 : lw_okq (⟨"BelievedWordsModel", "closed", "(I)I"⟩, 28) := ⟨⟨by decide +kernel, by decide +kernel⟩, List.mem_of_getElem? (i := 970) (by decide +kernel), List.mem_of_getElem? (i := 1190) (by decide +kernel), List.mem_of_getElem? (i := 1191) (by decide +kernel)⟩
theorem lw_p49 : lw_okq (⟨"BelievedWordsModel", "canBe", "(I)Z"⟩, 28) := ⟨⟨by decide +kernel, by decide +kernel⟩, List.mem_of_getElem? (i := 970) (by decide +kernel), List.mem_of_getElem? (i := 1194) (by decide +kernel), List.mem_of_getElem? (i := 1195) (by decide +kernel)⟩
theorem lw_p50 : lw_okq (⟨"BelievedWordsModel", "isFact", "(I)Z"⟩, 28) := ⟨⟨by decide +kernel, by decide +kernel⟩, List.mem_of_getElem? (i := 970) (by decide +kernel), List.mem_of_getElem? (i := 1205) (by decide +kernel), List.mem_of_getElem? (i := 1206) (by decide +kernel)⟩
theorem lw_p51 : lw_okq (⟨"BelievedWordsModel", "isRule", "(I)Z"⟩, 28) := ⟨⟨by decide +kernel, by decide +kernel⟩, List.mem_of_getElem? (i := 970) (by decide +kernel), List.mem_of_getElem? (i := 1214) (by decide +kernel), List.mem_of_getElem? (i := 1215) (by decide +kernel)⟩
theorem lw_p52 : lw_okq (⟨"BelievedWordsModel", "isThere", "()Z"⟩, 28) := ⟨⟨by decide +kernel, by decide +kernel⟩, List.mem_of_getElem? (i := 970) (by decide +kernel), List.mem_of_getElem? (i := 1226) (by decide +kernel), List.mem_of_getElem? (i := 1227) (by decide +kernel)⟩
theorem lw_p53 : lw_okq (⟨"BelievedWordsModel", "areTold", "(II)Z"⟩, 28) := ⟨⟨by decide +kernel, by decide +kernel⟩, List.mem_of_getElem? (i := 970) (by decide +kernel), List.mem_of_getElem? (i := 1247) (by decide +kernel), List.mem_of_getElem? (i := 1248) (by decide +kernel)⟩
theorem lw_p54 : lw_okq (⟨"BelievedWordsModel", "areFacts", "(I)Z"⟩, 28) := ⟨⟨by decide +kernel, by decide +kernel⟩, List.mem_of_getElem? (i := 970) (by decide +kernel), List.mem_of_getElem? (i := 1251) (by decide +kernel), List.mem_of_getElem? (i := 1252) (by decide +kernel)⟩
theorem lw_p55 : lw_okq (⟨"BelievedWordsModel", "isSoNow", "(II)Z"⟩, 28) := ⟨⟨by decide +kernel, by decide +kernel⟩, List.mem_of_getElem? (i := 970) (by decide +kernel), List.mem_of_getElem? (i := 1255) (by decide +kernel), List.mem_of_getElem? (i := 1256) (by decide +kernel)⟩
theorem lw_p56 : lw_okq (⟨"BelievedWordsModel", "spread", "(Z)V"⟩, 28) := ⟨⟨by decide +kernel, by decide +kernel⟩, List.mem_of_getElem? (i := 970) (by decide +kernel), List.mem_of_getElem? (i := 1259) (by decide +kernel), List.mem_of_getElem? (i := 1260) (by decide +kernel)⟩
theorem lw_p57 : lw_okq (⟨"BelievedWordsModel", "clearStates", "()V"⟩, 28) := ⟨⟨by decide +kernel, by decide +kernel⟩, List.mem_of_getElem? (i := 970) (by decide +kernel), List.mem_of_getElem? (i := 1263) (by decide +kernel), List.mem_of_getElem? (i := 1264) (by decide +kernel)⟩
theorem lw_p58 : lw_okq (⟨"BelievedWordsModel", "goOn", "(IIIZ)V"⟩, 28) := ⟨⟨by decide +kernel, by decide +kernel⟩, List.mem_of_getElem? (i := 970) (by decide +kernel), List.mem_of_getElem? (i := 1267) (by decide +kernel), List.mem_of_getElem? (i := 1268) (by decide +kernel)⟩
theorem lw_p59 : lw_okq (⟨"BelievedWordsModel", "bestOf", "(III)I"⟩, 28) := ⟨⟨by decide +kernel, by decide +kernel⟩, List.mem_of_getElem? (i := 970) (by decide +kernel), List.mem_of_getElem? (i := 1271) (by decide +kernel), List.mem_of_getElem? (i := 1272) (by decide +kernel)⟩
theorem lw_p60 : lw_okq (⟨"BelievedWordsModel", "madeBy", "(I)I"⟩, 28) := ⟨⟨by decide +kernel, by decide +kernel⟩, List.mem_of_getElem? (i := 970) (by decide +kernel), List.mem_of_getElem? (i := 1291) (by decide +kernel), List.mem_of_getElem? (i := 1292) (by decide +kernel)⟩
theorem lw_p61 : lw_okq (⟨"BelievedWordsModel", "afterAll", "(III)I"⟩, 28) := ⟨⟨by decide +kernel, by decide +kernel⟩, List.mem_of_getElem? (i := 970) (by decide +kernel), List.mem_of_getElem? (i := 1317) (by decide +kernel), List.mem_of_getElem? (i := 1318) (by decide +kernel)⟩
theorem lw_p62 : lw_okq (⟨"BelievedWordsModel", "sizeOf", "(I)I"⟩, 28) := ⟨⟨by decide +kernel, by decide +kernel⟩, List.mem_of_getElem? (i := 970) (by decide +kernel), List.mem_of_getElem? (i := 1353) (by decide +kernel), List.mem_of_getElem? (i := 1354) (by decide +kernel)⟩
theorem lw_p63 : lw_okq (⟨"BelievedWordsModel", "quietSize", "(I)I"⟩, 28) := ⟨⟨by decide +kernel, by decide +kernel⟩, List.mem_of_getElem? (i := 970) (by decide +kernel), List.mem_of_getElem? (i := 1357) (by decide +kernel), List.mem_of_getElem? (i := 1358) (by decide +kernel)⟩
def lw_privs_4 : List (MethodName × Nat) := [(⟨"BelievedWordsModel", "closed", "(I)I"⟩, 28), (⟨"BelievedWordsModel", "canBe", "(I)Z"⟩, 28), (⟨"BelievedWordsModel", "isFact", "(I)Z"⟩, 28), (⟨"BelievedWordsModel", "isRule", "(I)Z"⟩, 28), (⟨"BelievedWordsModel", "isThere", "()Z"⟩, 28), (⟨"BelievedWordsModel", "areTold", "(II)Z"⟩, 28), (⟨"BelievedWordsModel", "areFacts", "(I)Z"⟩, 28), (⟨"BelievedWordsModel", "isSoNow", "(II)Z"⟩, 28), (⟨"BelievedWordsModel", "spread", "(Z)V"⟩, 28), (⟨"BelievedWordsModel", "clearStates", "()V"⟩, 28), (⟨"BelievedWordsModel", "goOn", "(IIIZ)V"⟩, 28), (⟨"BelievedWordsModel", "bestOf", "(III)I"⟩, 28), (⟨"BelievedWordsModel", "madeBy", "(I)I"⟩, 28), (⟨"BelievedWordsModel", "afterAll", "(III)I"⟩, 28), (⟨"BelievedWordsModel", "sizeOf", "(I)I"⟩, 28), (⟨"BelievedWordsModel", "quietSize", "(I)I"⟩, 28)]
theorem lw_r4 : ∀ q ∈ lw_privs_4, lw_okq q := List.forall_mem_cons.mpr ⟨lw_p48, List.forall_mem_cons.mpr ⟨lw_p49, List.forall_mem_cons.mpr ⟨lw_p50, List.forall_mem_cons.mpr ⟨lw_p51, List.forall_mem_cons.mpr ⟨lw_p52, List.forall_mem_cons.mpr ⟨lw_p53, List.forall_mem_cons.mpr ⟨lw_p54, List.forall_mem_cons.mpr ⟨lw_p55, List.forall_mem_cons.mpr ⟨lw_p56, List.forall_mem_cons.mpr ⟨lw_p57, List.forall_mem_cons.mpr ⟨lw_p58, List.forall_mem_cons.mpr ⟨lw_p59, List.forall_mem_cons.mpr ⟨lw_p60, List.forall_mem_cons.mpr ⟨lw_p61, List.forall_mem_cons.mpr ⟨lw_p62, List.forall_mem_cons.mpr ⟨lw_p63, fun _ h => absurd h List.not_mem_nil⟩⟩⟩⟩⟩⟩⟩⟩⟩⟩⟩⟩⟩⟩⟩⟩
theorem lw_p64 : lw_okq (⟨"BelievedWordsModel", "began", "(I)V"⟩, 28) := ⟨⟨by decide +kernel, by decide +kernel⟩, List.mem_of_getElem? (i := 970) (by decide +kernel), List.mem_of_getElem? (i := 1361) (by decide +kernel), List.mem_of_getElem? (i := 1362) (by decide +kernel)⟩
theorem lw_p65 : lw_okq (⟨"BelievedWordsModel", "plainSize", "(I)I"⟩, 28) := ⟨⟨by decide +kernel, by decide +kernel⟩, List.mem_of_getElem? (i := 970) (by decide +kernel), List.mem_of_getElem? (i := 1365) (by decide +kernel), List.mem_of_getElem? (i := 1366) (by decide +kernel)⟩
theorem lw_p66 : lw_okq (⟨"BelievedWordsModel", "markOf", "(I)I"⟩, 28) := ⟨⟨by decide +kernel, by decide +kernel⟩, List.mem_of_getElem? (i := 970) (by decide +kernel), List.mem_of_getElem? (i := 1369) (by decide +kernel), List.mem_of_getElem? (i := 1370) (by decide +kernel)⟩
def lw_privs_5 : List (MethodName × Nat) := [(⟨"BelievedWordsModel", "began", "(I)V"⟩, 28), (⟨"BelievedWordsModel", "plainSize", "(I)I"⟩, 28), (⟨"BelievedWordsModel", "markOf", "(I)I"⟩, 28)]
theorem lw_r5 : ∀ q ∈ lw_privs_5, lw_okq q := List.forall_mem_cons.mpr ⟨lw_p64, List.forall_mem_cons.mpr ⟨lw_p65, List.forall_mem_cons.mpr ⟨lw_p66, fun _ h => absurd h List.not_mem_nil⟩⟩⟩
def lw_privs : List (MethodName × Nat) := lw_privs_1 ++ (lw_privs_2 ++ (lw_privs_3 ++ (lw_privs_4 ++ (lw_privs_5))))
def lw_tbl : List Cond := k2_sels lw_privs ++ tables_1
theorem lw_privs_ok : ∀ q ∈ lw_privs, lw_okq q := by
  show ∀ q ∈ lw_privs_1 ++ (lw_privs_2 ++ (lw_privs_3 ++ (lw_privs_4 ++ (lw_privs_5)))), lw_okq q
  exact List.forall_mem_append.mpr ⟨lw_r1, List.forall_mem_append.mpr ⟨lw_r2, List.forall_mem_append.mpr ⟨lw_r3, List.forall_mem_append.mpr ⟨lw_r4, lw_r5⟩⟩⟩⟩
end
section
def RX0 : String := "BelievedWords$Acts"
def TX0 : u_T := fun k => match k with
  | 0 => ("BelievedWords$Acts", "before", "[LBelievedWords$Standing;", true)
  | 1 => ("BelievedWords$Acts", "next", "I", false)
  | _ => ("BelievedWords$Acts", "kept", "I", false)
def tyX0 : Nat → FieldType := fun k => match k with
  | 0 => .array (.object "BelievedWords$Standing")
  | 1 => .int
  | _ => .int
theorem nmX0 : ∀ a, a < 3 → ∀ b, b < 3 → a ≠ b → (TX0 a).2.1 ≠ (TX0 b).2.1 := by decide +kernel
theorem tyX0_ok : ∀ k, k < 3 → parseFieldDescriptor (TX0 k).2.2.1 = some (tyX0 k) := by decide +kernel
abbrev cX0_init : ByteArray := prog_2_method_1_code
def yX0_init : MethodName := ⟨RX0, "<init>", "()V"⟩
abbrev cX0_isEmpty : ByteArray := prog_2_method_2_code
def yX0_isEmpty : MethodName := ⟨RX0, "isEmpty", "()Z"⟩
abbrev cX0_forget : ByteArray := prog_2_method_3_code
def yX0_forget : MethodName := ⟨RX0, "forget", "()V"⟩
abbrev cX0_keep : ByteArray := prog_2_method_4_code
def yX0_keep : MethodName := ⟨RX0, "keep", "(LBelievedWords$Standing;)V"⟩
abbrev cX0_takeBack : ByteArray := prog_2_method_5_code
def yX0_takeBack : MethodName := ⟨RX0, "takeBack", "(LBelievedWords$Court;)I"⟩
def RX1 : String := "BelievedWords$Asks"
def TX1 : u_T := fun k => match k with
  | 0 => ("BelievedWords$Asks", "trace", "[I", true)
  | _ => ("BelievedWords$Asks", "left", "I", false)
def tyX1 : Nat → FieldType := fun k => match k with
  | 0 => .array .int
  | _ => .int
theorem nmX1 : ∀ a, a < 2 → ∀ b, b < 2 → a ≠ b → (TX1 a).2.1 ≠ (TX1 b).2.1 := by decide +kernel
theorem tyX1_ok : ∀ k, k < 2 → parseFieldDescriptor (TX1 k).2.2.1 = some (tyX1 k) := by decide +kernel
abbrev cX1_init : ByteArray := prog_3_method_1_code
def yX1_init : MethodName := ⟨RX1, "<init>", "()V"⟩
abbrev cX1_isOfKind : ByteArray := prog_3_method_2_code
def yX1_isOfKind : MethodName := ⟨RX1, "isOfKind", "(II)Z"⟩
abbrev cX1_traced : ByteArray := prog_3_method_3_code
def yX1_traced : MethodName := ⟨RX1, "traced", "(I)I"⟩
abbrev cX1_answer : ByteArray := prog_3_method_4_code
def yX1_answer : MethodName := ⟨RX1, "answer", "(LBelievedWords$Court;II)I"⟩
abbrev cX1_askedOf : ByteArray := prog_3_method_5_code
def yX1_askedOf : MethodName := ⟨RX1, "askedOf", "(LBelievedWords$Court;III)I"⟩
abbrev cX1_body : ByteArray := prog_3_method_6_code
def yX1_body : MethodName := ⟨RX1, "body", "(LBelievedWords$Court;III)I"⟩
abbrev cX1_leave : ByteArray := prog_3_method_7_code
def yX1_leave : MethodName := ⟨RX1, "leave", "(I)V"⟩
def RX2 : String := "BelievedWords$Court"
def TX2 : u_T := fun k => match k with
  | 0 => ("BelievedWords$Court", "law", "LBelievedWords$Law;", true)
  | 1 => ("BelievedWords$Court", "now", "LBelievedWords$Standing;", true)
  | 2 => ("BelievedWords$Court", "made", "[I", true)
  | 3 => ("BelievedWords$Court", "barred", "[I", true)
  | _ => ("BelievedWords$Court", "settled", "[I", true)
def tyX2 : Nat → FieldType := fun k => match k with
  | 0 => .object "BelievedWords$Law"
  | 1 => .object "BelievedWords$Standing"
  | 2 => .array .int
  | 3 => .array .int
  | _ => .array .int
theorem nmX2 : ∀ a, a < 5 → ∀ b, b < 5 → a ≠ b → (TX2 a).2.1 ≠ (TX2 b).2.1 := by decide +kernel
theorem tyX2_ok : ∀ k, k < 5 → parseFieldDescriptor (TX2 k).2.2.1 = some (tyX2 k) := by decide +kernel
abbrev cX2_init : ByteArray := prog_4_method_1_code
def yX2_init : MethodName := ⟨RX2, "<init>", "()V"⟩
abbrev cX2_isOpen : ByteArray := prog_4_method_2_code
def yX2_isOpen : MethodName := ⟨RX2, "isOpen", "()Z"⟩
abbrev cX2_open : ByteArray := prog_4_method_3_code
def yX2_open : MethodName := ⟨RX2, "open", "(LBelievedWords$Law;)V"⟩
abbrev cX2_resume : ByteArray := prog_4_method_4_code
def yX2_resume : MethodName := ⟨RX2, "resume", "(LBelievedWords$Law;LBelievedWords$Standing;)V"⟩
abbrev cX2_goBack : ByteArray := prog_4_method_5_code
def yX2_goBack : MethodName := ⟨RX2, "goBack", "(LBelievedWords$Standing;)V"⟩
abbrev cX2_gatherRules : ByteArray := prog_4_method_6_code
def yX2_gatherRules : MethodName := ⟨RX2, "gatherRules", "()V"⟩
abbrev cX2_turnRule : ByteArray := prog_4_method_7_code
def yX2_turnRule : MethodName := ⟨RX2, "turnRule", "(I)I"⟩
abbrev cX2_utter : ByteArray := prog_4_method_8_code
def yX2_utter : MethodName := ⟨RX2, "utter", "(II)I"⟩
abbrev cX2_price : ByteArray := prog_4_method_9_code
def yX2_price : MethodName := ⟨RX2, "price", "(II)I"⟩
abbrev cX2_outcome : ByteArray := prog_4_method_10_code
def yX2_outcome : MethodName := ⟨RX2, "outcome", "(IIII)I"⟩
abbrev cX2_soBehind : ByteArray := prog_4_method_11_code
def yX2_soBehind : MethodName := ⟨RX2, "soBehind", "(IIII)I"⟩
abbrev cX2_believed : ByteArray := prog_4_method_12_code
def yX2_believed : MethodName := ⟨RX2, "believed", "(IIII)I"⟩
abbrev cX2_settle : ByteArray := prog_4_method_13_code
def yX2_settle : MethodName := ⟨RX2, "settle", "(I)I"⟩
abbrev cX2_grow : ByteArray := prog_4_method_14_code
def yX2_grow : MethodName := ⟨RX2, "grow", "(I)I"⟩
abbrev cX2_isBarred : ByteArray := prog_4_method_15_code
def yX2_isBarred : MethodName := ⟨RX2, "isBarred", "(I)Z"⟩
abbrev cX2_makesAny : ByteArray := prog_4_method_16_code
def yX2_makesAny : MethodName := ⟨RX2, "makesAny", "(II)Z"⟩
abbrev cX2_factOf : ByteArray := prog_4_method_17_code
def yX2_factOf : MethodName := ⟨RX2, "factOf", "(I)I"⟩
def RX3 : String := "BelievedWords$Foresight"
def TX3 : u_T := fun k => match k with
  | 0 => ("BelievedWords$Foresight", "ways", "[I", false)
  | 1 => ("BelievedWords$Foresight", "firsts", "[I", false)
  | 2 => ("BelievedWords$Foresight", "nextWays", "[I", false)
  | _ => ("BelievedWords$Foresight", "nextFirsts", "[I", false)
def tyX3 : Nat → FieldType := fun k => match k with
  | 0 => .array .int
  | 1 => .array .int
  | 2 => .array .int
  | _ => .array .int
theorem nmX3 : ∀ a, a < 4 → ∀ b, b < 4 → a ≠ b → (TX3 a).2.1 ≠ (TX3 b).2.1 := by decide +kernel
theorem tyX3_ok : ∀ k, k < 4 → parseFieldDescriptor (TX3 k).2.2.1 = some (tyX3 k) := by decide +kernel
abbrev cX3_init : ByteArray := prog_5_method_1_code
def yX3_init : MethodName := ⟨RX3, "<init>", "()V"⟩
abbrev cX3_idleSayings : ByteArray := prog_5_method_2_code
def yX3_idleSayings : MethodName := ⟨RX3, "idleSayings", "(LBelievedWords$Court;I)I"⟩
abbrev cX3_leftOut : ByteArray := prog_5_method_3_code
def yX3_leftOut : MethodName := ⟨RX3, "leftOut", "(LBelievedWords$Court;I)I"⟩
abbrev cX3_inOrder : ByteArray := prog_5_method_4_code
def yX3_inOrder : MethodName := ⟨RX3, "inOrder", "(LBelievedWords$Court;II)I"⟩
abbrev cX3_firstFree : ByteArray := prog_5_method_5_code
def yX3_firstFree : MethodName := ⟨RX3, "firstFree", "(LBelievedWords$Court;I)I"⟩
abbrev cX3_tellRows : ByteArray := prog_5_method_6_code
def yX3_tellRows : MethodName := ⟨RX3, "tellRows", "(LBelievedWords$Court;I[I)V"⟩
abbrev cX3_tellSaying : ByteArray := prog_5_method_7_code
def yX3_tellSaying : MethodName := ⟨RX3, "tellSaying", "(LBelievedWords$Court;IIIIZ)V"⟩
abbrev cX3_turnOver : ByteArray := prog_5_method_8_code
def yX3_turnOver : MethodName := ⟨RX3, "turnOver", "()V"⟩
abbrev cX3_waysInAll : ByteArray := prog_5_method_9_code
def yX3_waysInAll : MethodName := ⟨RX3, "waysInAll", "()I"⟩
abbrev cX3_firstOfAll : ByteArray := prog_5_method_10_code
def yX3_firstOfAll : MethodName := ⟨RX3, "firstOfAll", "()I"⟩
abbrev cX3_fittingKinds : ByteArray := prog_5_method_11_code
def yX3_fittingKinds : MethodName := ⟨RX3, "fittingKinds", "(LBelievedWords$Court;[I)I"⟩
abbrev cX3_fits : ByteArray := prog_5_method_12_code
def yX3_fits : MethodName := ⟨RX3, "fits", "(LBelievedWords$Court;I[I)Z"⟩
abbrev cX3_likelihood : ByteArray := prog_5_method_13_code
def yX3_likelihood : MethodName := ⟨RX3, "likelihood", "(LBelievedWords$Court;II[II)J"⟩
abbrev cX3_cases : ByteArray := prog_5_method_14_code
def yX3_cases : MethodName := ⟨RX3, "cases", "(III)J"⟩
abbrev cX3_soByPlan : ByteArray := prog_5_method_15_code
def yX3_soByPlan : MethodName := ⟨RX3, "soByPlan", "(LBelievedWords$Court;[II)I"⟩
abbrev cX3_commonDivisor : ByteArray := prog_5_method_16_code
def yX3_commonDivisor : MethodName := ⟨RX3, "commonDivisor", "(JJ)J"⟩
abbrev cX3_talk : ByteArray := prog_5_method_17_code
def yX3_talk : MethodName := ⟨RX3, "talk", "(LBelievedWords$Court;III)I"⟩
def RX4 : String := "BelievedWords$Image"
def TX4 : u_T := fun k => match k with
  | 0 => ("BelievedWords$Image", "law", "LBelievedWords$Law;", true)
  | 1 => ("BelievedWords$Image", "standing", "LBelievedWords$Standing;", true)
  | _ => ("BelievedWords$Image", "kept", "Z", false)
def tyX4 : Nat → FieldType := fun k => match k with
  | 0 => .object "BelievedWords$Law"
  | 1 => .object "BelievedWords$Standing"
  | _ => .boolean
theorem nmX4 : ∀ a, a < 3 → ∀ b, b < 3 → a ≠ b → (TX4 a).2.1 ≠ (TX4 b).2.1 := by decide +kernel
theorem tyX4_ok : ∀ k, k < 3 → parseFieldDescriptor (TX4 k).2.2.1 = some (tyX4 k) := by decide +kernel
abbrev cX4_init : ByteArray := prog_6_method_1_code
def yX4_init : MethodName := ⟨RX4, "<init>", "()V"⟩
abbrev cX4_take : ByteArray := prog_6_method_2_code
def yX4_take : MethodName := ⟨RX4, "take", "(LBelievedWords$Court;)V"⟩
def RX5 : String := "BelievedWords$Law"
def TX5 : u_T := fun k => match k with
  | 0 => ("BelievedWords$Law", "sorts", "[I", true)
  | 1 => ("BelievedWords$Law", "ones", "[I", true)
  | 2 => ("BelievedWords$Law", "others", "[I", true)
  | 3 => ("BelievedWords$Law", "kinds", "[I", true)
  | 4 => ("BelievedWords$Law", "facts", "I", false)
  | 5 => ("BelievedWords$Law", "atFirst", "I", false)
  | 6 => ("BelievedWords$Law", "price", "I", false)
  | 7 => ("BelievedWords$Law", "rules", "I", false)
  | _ => ("BelievedWords$Law", "people", "I", false)
def tyX5 : Nat → FieldType := fun k => match k with
  | 0 => .array .int
  | 1 => .array .int
  | 2 => .array .int
  | 3 => .array .int
  | 4 => .int
  | 5 => .int
  | 6 => .int
  | 7 => .int
  | _ => .int
theorem nmX5 : ∀ a, a < 9 → ∀ b, b < 9 → a ≠ b → (TX5 a).2.1 ≠ (TX5 b).2.1 := by decide +kernel
theorem tyX5_ok : ∀ k, k < 9 → parseFieldDescriptor (TX5 k).2.2.1 = some (tyX5 k) := by decide +kernel
abbrev cX5_init : ByteArray := prog_7_method_1_code
def yX5_init : MethodName := ⟨RX5, "<init>", "()V"⟩
abbrev cX5_clear : ByteArray := prog_7_method_2_code
def yX5_clear : MethodName := ⟨RX5, "clear", "()V"⟩
abbrev cX5_become : ByteArray := prog_7_method_3_code
def yX5_become : MethodName := ⟨RX5, "become", "(LBelievedWords$Law;)V"⟩
abbrev cX5_hasRule : ByteArray := prog_7_method_4_code
def yX5_hasRule : MethodName := ⟨RX5, "hasRule", "(III)Z"⟩
abbrev cX5_addRule : ByteArray := prog_7_method_5_code
def yX5_addRule : MethodName := ⟨RX5, "addRule", "(III)V"⟩
abbrev cX5_addPerson : ByteArray := prog_7_method_6_code
def yX5_addPerson : MethodName := ⟨RX5, "addPerson", "(I)V"⟩
abbrev cX5_hasKind : ByteArray := prog_7_method_7_code
def yX5_hasKind : MethodName := ⟨RX5, "hasKind", "(I)Z"⟩
abbrev cX5_isRule : ByteArray := prog_7_method_8_code
def yX5_isRule : MethodName := ⟨RX5, "isRule", "(I)Z"⟩
abbrev cX5_isPerson : ByteArray := prog_7_method_9_code
def yX5_isPerson : MethodName := ⟨RX5, "isPerson", "(I)Z"⟩
abbrev cX5_isSaying : ByteArray := prog_7_method_10_code
def yX5_isSaying : MethodName := ⟨RX5, "isSaying", "(I)Z"⟩
abbrev cX5_areFacts : ByteArray := prog_7_method_11_code
def yX5_areFacts : MethodName := ⟨RX5, "areFacts", "(I)Z"⟩
def RX6 : String := "BelievedWords$Rows"
def TX6 : u_T := fun k => match k with
  | 0 => ("BelievedWords$Rows", "items", "[[I", true)
  | 1 => ("BelievedWords$Rows", "lanes", "[I", true)
  | _ => ("BelievedWords$Rows", "lengths", "[I", true)
def tyX6 : Nat → FieldType := fun k => match k with
  | 0 => .array (.array .int)
  | 1 => .array .int
  | _ => .array .int
theorem nmX6 : ∀ a, a < 3 → ∀ b, b < 3 → a ≠ b → (TX6 a).2.1 ≠ (TX6 b).2.1 := by decide +kernel
theorem tyX6_ok : ∀ k, k < 3 → parseFieldDescriptor (TX6 k).2.2.1 = some (tyX6 k) := by decide +kernel
abbrev cX6_init : ByteArray := prog_8_method_1_code
def yX6_init : MethodName := ⟨RX6, "<init>", "()V"⟩
abbrev cX6_isMissing : ByteArray := prog_8_method_2_code
def yX6_isMissing : MethodName := ⟨RX6, "isMissing", "(I)Z"⟩
abbrev cX6_laneOf : ByteArray := prog_8_method_3_code
def yX6_laneOf : MethodName := ⟨RX6, "laneOf", "(I)I"⟩
abbrev cX6_lack : ByteArray := prog_8_method_4_code
def yX6_lack : MethodName := ⟨RX6, "lack", "(III)I"⟩
abbrev cX6_lay : ByteArray := prog_8_method_5_code
def yX6_lay : MethodName := ⟨RX6, "lay", "(III)V"⟩
abbrev cX6_put : ByteArray := prog_8_method_6_code
def yX6_put : MethodName := ⟨RX6, "put", "(III)I"⟩
abbrev cX6_carry : ByteArray := prog_8_method_7_code
def yX6_carry : MethodName := ⟨RX6, "carry", "(IIIII)V"⟩
abbrev cX6_remove : ByteArray := prog_8_method_8_code
def yX6_remove : MethodName := ⟨RX6, "remove", "(I)I"⟩
abbrev cX6_itemsFrom : ByteArray := prog_8_method_9_code
def yX6_itemsFrom : MethodName := ⟨RX6, "itemsFrom", "(III)[I"⟩
abbrev cX6_present : ByteArray := prog_8_method_10_code
def yX6_present : MethodName := ⟨RX6, "present", "()I"⟩
def RX7 : String := "BelievedWords$Search"
def TX7 : u_T := fun k => match k with
  | 0 => ("BelievedWords$Search", "movers", "[I", true)
  | 1 => ("BelievedWords$Search", "walks", "[I", false)
  | 2 => ("BelievedWords$Search", "costs", "[I", false)
  | 3 => ("BelievedWords$Search", "firsts", "[I", false)
  | 4 => ("BelievedWords$Search", "moving", "I", false)
  | 5 => ("BelievedWords$Search", "facts", "I", false)
  | 6 => ("BelievedWords$Search", "nodes", "I", false)
  | 7 => ("BelievedWords$Search", "minding", "Z", false)
  | 8 => ("BelievedWords$Search", "byCost", "Z", false)
  | 9 => ("BelievedWords$Search", "walk", "I", false)
  | 10 => ("BelievedWords$Search", "farthest", "I", false)
  | 11 => ("BelievedWords$Search", "wantedSo", "I", false)
  | 12 => ("BelievedWords$Search", "wantedNot", "I", false)
  | _ => ("BelievedWords$Search", "first", "I", false)
def tyX7 : Nat → FieldType := fun k => match k with
  | 0 => .array .int
  | 1 => .array .int
  | 2 => .array .int
  | 3 => .array .int
  | 4 => .int
  | 5 => .int
  | 6 => .int
  | 7 => .boolean
  | 8 => .boolean
  | 9 => .int
  | 10 => .int
  | 11 => .int
  | 12 => .int
  | _ => .int
theorem nmX7 : ∀ a, a < 14 → ∀ b, b < 14 → a ≠ b → (TX7 a).2.1 ≠ (TX7 b).2.1 := by decide +kernel
theorem tyX7_ok : ∀ k, k < 14 → parseFieldDescriptor (TX7 k).2.2.1 = some (tyX7 k) := by decide +kernel
abbrev cX7_init : ByteArray := prog_9_method_1_code
def yX7_init : MethodName := ⟨RX7, "<init>", "()V"⟩
abbrev cX7_fewest : ByteArray := prog_9_method_2_code
def yX7_fewest : MethodName := ⟨RX7, "fewest", "(LBelievedWords$Court;III)I"⟩
abbrev cX7_leastCost : ByteArray := prog_9_method_3_code
def yX7_leastCost : MethodName := ⟨RX7, "leastCost", "(LBelievedWords$Court;III)I"⟩
abbrev cX7_reachable : ByteArray := prog_9_method_4_code
def yX7_reachable : MethodName := ⟨RX7, "reachable", "(LBelievedWords$Court;I)I"⟩
abbrev cX7_begin : ByteArray := prog_9_method_5_code
def yX7_begin : MethodName := ⟨RX7, "begin", "(LBelievedWords$Law;IIZ)V"⟩
abbrev cX7_gatherMovers : ByteArray := prog_9_method_6_code
def yX7_gatherMovers : MethodName := ⟨RX7, "gatherMovers", "(LBelievedWords$Law;)V"⟩
abbrev cX7_explore : ByteArray := prog_9_method_7_code
def yX7_explore : MethodName := ⟨RX7, "explore", "(LBelievedWords$Court;)I"⟩
abbrev cX7_isMet : ByteArray := prog_9_method_8_code
def yX7_isMet : MethodName := ⟨RX7, "isMet", "(I)Z"⟩
abbrev cX7_soOf : ByteArray := prog_9_method_9_code
def yX7_soOf : MethodName := ⟨RX7, "soOf", "(I)I"⟩
abbrev cX7_sayFirst : ByteArray := prog_9_method_10_code
def yX7_sayFirst : MethodName := ⟨RX7, "sayFirst", "(LBelievedWords$Court;)V"⟩
abbrev cX7_lead : ByteArray := prog_9_method_11_code
def yX7_lead : MethodName := ⟨RX7, "lead", "(LBelievedWords$Court;I)V"⟩
abbrev cX7_stepOf : ByteArray := prog_9_method_12_code
def yX7_stepOf : MethodName := ⟨RX7, "stepOf", "(II)I"⟩
abbrev cX7_enter : ByteArray := prog_9_method_13_code
def yX7_enter : MethodName := ⟨RX7, "enter", "(IIII)V"⟩
def RX8 : String := "BelievedWords$Standing"
def TX8 : u_T := fun k => match k with
  | 0 => ("BelievedWords$Standing", "cells", "[I", true)
  | 1 => ("BelievedWords$Standing", "so", "I", false)
  | 2 => ("BelievedWords$Standing", "saidOf", "I", false)
  | 3 => ("BelievedWords$Standing", "sayings", "I", false)
  | 4 => ("BelievedWords$Standing", "cost", "I", false)
  | _ => ("BelievedWords$Standing", "struck", "I", false)
def tyX8 : Nat → FieldType := fun k => match k with
  | 0 => .array .int
  | 1 => .int
  | 2 => .int
  | 3 => .int
  | 4 => .int
  | _ => .int
theorem nmX8 : ∀ a, a < 6 → ∀ b, b < 6 → a ≠ b → (TX8 a).2.1 ≠ (TX8 b).2.1 := by decide +kernel
theorem tyX8_ok : ∀ k, k < 6 → parseFieldDescriptor (TX8 k).2.2.1 = some (tyX8 k) := by decide +kernel
abbrev cX8_init : ByteArray := prog_10_method_1_code
def yX8_init : MethodName := ⟨RX8, "<init>", "()V"⟩
abbrev cX8_begin : ByteArray := prog_10_method_2_code
def yX8_begin : MethodName := ⟨RX8, "begin", "(I)V"⟩
abbrev cX8_become : ByteArray := prog_10_method_3_code
def yX8_become : MethodName := ⟨RX8, "become", "(LBelievedWords$Standing;)V"⟩
def RX9 : String := "BelievedWords$Tape"
def TX9 : u_T := fun k => match k with
  | 0 => ("BelievedWords$Tape", "told", "LBelievedWords$Law;", true)
  | 1 => ("BelievedWords$Tape", "bytes", "[I", true)
  | 2 => ("BelievedWords$Tape", "length", "I", false)
  | 3 => ("BelievedWords$Tape", "at", "I", false)
  | 4 => ("BelievedWords$Tape", "behind", "I", false)
  | 5 => ("BelievedWords$Tape", "letter", "I", false)
  | 6 => ("BelievedWords$Tape", "number", "I", false)
  | 7 => ("BelievedWords$Tape", "fault", "I", false)
  | _ => ("BelievedWords$Tape", "place", "I", false)
def tyX9 : Nat → FieldType := fun k => match k with
  | 0 => .object "BelievedWords$Law"
  | 1 => .array .int
  | 2 => .int
  | 3 => .int
  | 4 => .int
  | 5 => .int
  | 6 => .int
  | 7 => .int
  | _ => .int
theorem nmX9 : ∀ a, a < 9 → ∀ b, b < 9 → a ≠ b → (TX9 a).2.1 ≠ (TX9 b).2.1 := by decide +kernel
theorem tyX9_ok : ∀ k, k < 9 → parseFieldDescriptor (TX9 k).2.2.1 = some (tyX9 k) := by decide +kernel
abbrev cX9_init : ByteArray := prog_11_method_1_code
def yX9_init : MethodName := ⟨RX9, "<init>", "()V"⟩
abbrev cX9_add : ByteArray := prog_11_method_2_code
def yX9_add : MethodName := ⟨RX9, "add", "(I)I"⟩
abbrev cX9_wipe : ByteArray := prog_11_method_3_code
def yX9_wipe : MethodName := ⟨RX9, "wipe", "()V"⟩
abbrev cX9_faultNumber : ByteArray := prog_11_method_4_code
def yX9_faultNumber : MethodName := ⟨RX9, "faultNumber", "()I"⟩
abbrev cX9_faultPlace : ByteArray := prog_11_method_5_code
def yX9_faultPlace : MethodName := ⟨RX9, "faultPlace", "()I"⟩
abbrev cX9_read : ByteArray := prog_11_method_6_code
def yX9_read : MethodName := ⟨RX9, "read", "()Z"⟩
abbrev cX9_readLaw : ByteArray := prog_11_method_7_code
def yX9_readLaw : MethodName := ⟨RX9, "readLaw", "()Z"⟩
abbrev cX9_readRules : ByteArray := prog_11_method_8_code
def yX9_readRules : MethodName := ⟨RX9, "readRules", "()Z"⟩
abbrev cX9_readRule : ByteArray := prog_11_method_9_code
def yX9_readRule : MethodName := ⟨RX9, "readRule", "(I)Z"⟩
abbrev cX9_readPeople : ByteArray := prog_11_method_10_code
def yX9_readPeople : MethodName := ⟨RX9, "readPeople", "()Z"⟩
abbrev cX9_kindBy : ByteArray := prog_11_method_11_code
def yX9_kindBy : MethodName := ⟨RX9, "kindBy", "(I)I"⟩
abbrev cX9_takes : ByteArray := prog_11_method_12_code
def yX9_takes : MethodName := ⟨RX9, "takes", "(I)Z"⟩
abbrev cX9_takesNumber : ByteArray := prog_11_method_13_code
def yX9_takesNumber : MethodName := ⟨RX9, "takesNumber", "(II)Z"⟩
abbrev cX9_fails : ByteArray := prog_11_method_14_code
def yX9_fails : MethodName := ⟨RX9, "fails", "(I)Z"⟩
abbrev cX9_step : ByteArray := prog_11_method_15_code
def yX9_step : MethodName := ⟨RX9, "step", "()V"⟩
abbrev cX9_stepOverFigures : ByteArray := prog_11_method_16_code
def yX9_stepOverFigures : MethodName := ⟨RX9, "stepOverFigures", "()V"⟩
def RX10 : String := "BelievedWords"
def TX10 : u_T := fun k => match k with
  | 0 => ("BelievedWords", "rows", "LBelievedWords$Rows;", true)
  | 1 => ("BelievedWords", "tape", "LBelievedWords$Tape;", true)
  | 2 => ("BelievedWords", "bench", "LBelievedWords$Court;", true)
  | 3 => ("BelievedWords", "acts", "LBelievedWords$Acts;", true)
  | 4 => ("BelievedWords", "images", "[LBelievedWords$Image;", true)
  | 5 => ("BelievedWords", "search", "LBelievedWords$Search;", true)
  | 6 => ("BelievedWords", "foresight", "LBelievedWords$Foresight;", true)
  | 7 => ("BelievedWords", "asks", "LBelievedWords$Asks;", true)
  | _ => ("BelievedWords", "finding", "I", false)
def tyX10 : Nat → FieldType := fun k => match k with
  | 0 => .object "BelievedWords$Rows"
  | 1 => .object "BelievedWords$Tape"
  | 2 => .object "BelievedWords$Court"
  | 3 => .object "BelievedWords$Acts"
  | 4 => .array (.object "BelievedWords$Image")
  | 5 => .object "BelievedWords$Search"
  | 6 => .object "BelievedWords$Foresight"
  | 7 => .object "BelievedWords$Asks"
  | _ => .int
theorem nmX10 : ∀ a, a < 9 → ∀ b, b < 9 → a ≠ b → (TX10 a).2.1 ≠ (TX10 b).2.1 := by decide +kernel
theorem tyX10_ok : ∀ k, k < 9 → parseFieldDescriptor (TX10 k).2.2.1 = some (tyX10 k) := by decide +kernel
abbrev cX10_init : ByteArray := prog_1_method_1_code
def yX10_init : MethodName := ⟨RX10, "<init>", "()V"⟩
abbrev cX10_row : ByteArray := prog_1_method_2_code
def yX10_row : MethodName := ⟨RX10, "row", "(III)I"⟩
abbrev cX10_set : ByteArray := prog_1_method_3_code
def yX10_set : MethodName := ⟨RX10, "set", "(III)I"⟩
abbrev cX10_copy : ByteArray := prog_1_method_4_code
def yX10_copy : MethodName := ⟨RX10, "copy", "(IIIII)I"⟩
abbrev cX10_drop : ByteArray := prog_1_method_5_code
def yX10_drop : MethodName := ⟨RX10, "drop", "(I)I"⟩
abbrev cX10_feed : ByteArray := prog_1_method_6_code
def yX10_feed : MethodName := ⟨RX10, "feed", "(I)I"⟩
abbrev cX10_court : ByteArray := prog_1_method_7_code
def yX10_court : MethodName := ⟨RX10, "court", "()I"⟩
abbrev cX10_fault : ByteArray := prog_1_method_8_code
def yX10_fault : MethodName := ⟨RX10, "fault", "()I"⟩
abbrev cX10_undo : ByteArray := prog_1_method_9_code
def yX10_undo : MethodName := ⟨RX10, "undo", "()I"⟩
abbrev cX10_say : ByteArray := prog_1_method_10_code
def yX10_say : MethodName := ⟨RX10, "say", "(II)I"⟩
abbrev cX10_pardon : ByteArray := prog_1_method_11_code
def yX10_pardon : MethodName := ⟨RX10, "pardon", "(I)I"⟩
abbrev cX10_strike : ByteArray := prog_1_method_12_code
def yX10_strike : MethodName := ⟨RX10, "strike", "(II)I"⟩
abbrev cX10_stand : ByteArray := prog_1_method_13_code
def yX10_stand : MethodName := ⟨RX10, "stand", "(I)I"⟩
abbrev cX10_rule : ByteArray := prog_1_method_14_code
def yX10_rule : MethodName := ⟨RX10, "rule", "(II)I"⟩
abbrev cX10_cell : ByteArray := prog_1_method_15_code
def yX10_cell : MethodName := ⟨RX10, "cell", "(I)I"⟩
abbrev cX10_makes : ByteArray := prog_1_method_16_code
def yX10_makes : MethodName := ⟨RX10, "makes", "(II)I"⟩
abbrev cX10_shortest : ByteArray := prog_1_method_17_code
def yX10_shortest : MethodName := ⟨RX10, "shortest", "(III)I"⟩
abbrev cX10_cheapest : ByteArray := prog_1_method_18_code
def yX10_cheapest : MethodName := ⟨RX10, "cheapest", "(III)I"⟩
abbrev cX10_idle : ByteArray := prog_1_method_19_code
def yX10_idle : MethodName := ⟨RX10, "idle", "(I)I"⟩
abbrev cX10_giveUp : ByteArray := prog_1_method_20_code
def yX10_giveUp : MethodName := ⟨RX10, "giveUp", "(II)I"⟩
abbrev cX10_order : ByteArray := prog_1_method_21_code
def yX10_order : MethodName := ⟨RX10, "order", "(II)I"⟩
abbrev cX10_ever : ByteArray := prog_1_method_22_code
def yX10_ever : MethodName := ⟨RX10, "ever", "(I)I"⟩
abbrev cX10_said : ByteArray := prog_1_method_23_code
def yX10_said : MethodName := ⟨RX10, "said", "(IIIII)I"⟩
abbrev cX10_who : ByteArray := prog_1_method_24_code
def yX10_who : MethodName := ⟨RX10, "who", "(IIII)I"⟩
abbrev cX10_temper : ByteArray := prog_1_method_25_code
def yX10_temper : MethodName := ⟨RX10, "temper", "(IIIIII)J"⟩
abbrev cX10_drawn : ByteArray := prog_1_method_26_code
def yX10_drawn : MethodName := ⟨RX10, "drawn", "(III)I"⟩
abbrev cX10_image : ByteArray := prog_1_method_27_code
def yX10_image : MethodName := ⟨RX10, "image", "(I)I"⟩
abbrev cX10_restore : ByteArray := prog_1_method_28_code
def yX10_restore : MethodName := ⟨RX10, "restore", "(I)I"⟩
abbrev cX10_kind : ByteArray := prog_1_method_29_code
def yX10_kind : MethodName := ⟨RX10, "kind", "(I)I"⟩
abbrev cX10_as : ByteArray := prog_1_method_30_code
def yX10_as : MethodName := ⟨RX10, "as", "(II)I"⟩
abbrev cX10_ask : ByteArray := prog_1_method_31_code
def yX10_ask : MethodName := ⟨RX10, "ask", "(II)I"⟩
abbrev cX10_trace : ByteArray := prog_1_method_32_code
def yX10_trace : MethodName := ⟨RX10, "trace", "(I)I"⟩
abbrev cX10_count : ByteArray := prog_1_method_33_code
def yX10_count : MethodName := ⟨RX10, "count", "(I)I"⟩
abbrev cX10_status : ByteArray := prog_1_method_34_code
def yX10_status : MethodName := ⟨RX10, "status", "()I"⟩
abbrev cX10_found : ByteArray := prog_1_method_35_code
def yX10_found : MethodName := ⟨RX10, "found", "(I)I"⟩
abbrev cX10_fine : ByteArray := prog_1_method_36_code
def yX10_fine : MethodName := ⟨RX10, "fine", "(I)I"⟩
abbrev cX10_refusalOfGoal : ByteArray := prog_1_method_37_code
def yX10_refusalOfGoal : MethodName := ⟨RX10, "refusalOfGoal", "(III)I"⟩
abbrev cX10_isRow : ByteArray := prog_1_method_38_code
def yX10_isRow : MethodName := ⟨RX10, "isRow", "(I)Z"⟩
abbrev cX10_isImage : ByteArray := prog_1_method_39_code
def yX10_isImage : MethodName := ⟨RX10, "isImage", "(I)Z"⟩
abbrev cX10_isNoBit : ByteArray := prog_1_method_40_code
def yX10_isNoBit : MethodName := ⟨RX10, "isNoBit", "(I)Z"⟩
def RX11 : String := "BelievedWordsModel"
def TX11 : u_T := fun k => match k with
  | 0 => ("BelievedWordsModel", "thrown", "I", false)
  | 1 => ("BelievedWordsModel", "status", "I", false)
  | 2 => ("BelievedWordsModel", "lane", "[I", true)
  | 3 => ("BelievedWordsModel", "many", "[I", true)
  | 4 => ("BelievedWordsModel", "item", "[I", true)
  | 5 => ("BelievedWordsModel", "court", "[I", true)
  | 6 => ("BelievedWordsModel", "fresh", "[I", true)
  | 7 => ("BelievedWordsModel", "was", "[I", true)
  | 8 => ("BelievedWordsModel", "acts", "I", false)
  | 9 => ("BelievedWordsModel", "tape", "[I", true)
  | 10 => ("BelievedWordsModel", "taped", "I", false)
  | 11 => ("BelievedWordsModel", "cursor", "I", false)
  | 12 => ("BelievedWordsModel", "start", "I", false)
  | 13 => ("BelievedWordsModel", "token", "I", false)
  | 14 => ("BelievedWordsModel", "value", "I", false)
  | 15 => ("BelievedWordsModel", "fault", "I", false)
  | 16 => ("BelievedWordsModel", "faultAt", "I", false)
  | 17 => ("BelievedWordsModel", "latest", "I", false)
  | 18 => ("BelievedWordsModel", "far", "[I", true)
  | 19 => ("BelievedWordsModel", "first", "[I", true)
  | 20 => ("BelievedWordsModel", "waits", "[Z", true)
  | 21 => ("BelievedWordsModel", "line", "[I", true)
  | 22 => ("BelievedWordsModel", "lineFrom", "I", false)
  | 23 => ("BelievedWordsModel", "lineTo", "I", false)
  | 24 => ("BelievedWordsModel", "isKept", "[Z", true)
  | 25 => ("BelievedWordsModel", "kept", "[I", true)
  | 26 => ("BelievedWordsModel", "trace", "[I", true)
  | _ => ("BelievedWordsModel", "traced", "I", false)
def tyX11 : Nat → FieldType := fun k => match k with
  | 0 => .int
  | 1 => .int
  | 2 => .array .int
  | 3 => .array .int
  | 4 => .array .int
  | 5 => .array .int
  | 6 => .array .int
  | 7 => .array .int
  | 8 => .int
  | 9 => .array .int
  | 10 => .int
  | 11 => .int
  | 12 => .int
  | 13 => .int
  | 14 => .int
  | 15 => .int
  | 16 => .int
  | 17 => .int
  | 18 => .array .int
  | 19 => .array .int
  | 20 => .array .boolean
  | 21 => .array .int
  | 22 => .int
  | 23 => .int
  | 24 => .array .boolean
  | 25 => .array .int
  | 26 => .array .int
  | _ => .int
theorem nmX11 : ∀ a, a < 28 → ∀ b, b < 28 → a ≠ b → (TX11 a).2.1 ≠ (TX11 b).2.1 := by decide +kernel
theorem tyX11_ok : ∀ k, k < 28 → parseFieldDescriptor (TX11 k).2.2.1 = some (tyX11 k) := by decide +kernel
abbrev cX11_init : ByteArray := prog_13_method_1_code
def yX11_init : MethodName := ⟨RX11, "<init>", "()V"⟩
abbrev cX11_in : ByteArray := prog_13_method_3_code
def yX11_in : MethodName := ⟨RX11, "in", "(JJJ)Z"⟩
abbrev cX11_finding : ByteArray := prog_13_method_4_code
def yX11_finding : MethodName := ⟨RX11, "finding", "(I)I"⟩
abbrev cX11_isRow : ByteArray := prog_13_method_5_code
def yX11_isRow : MethodName := ⟨RX11, "isRow", "(I)Z"⟩
abbrev cX11_row : ByteArray := prog_13_method_6_code
def yX11_row : MethodName := ⟨RX11, "row", "(III)I"⟩
abbrev cX11_set : ByteArray := prog_13_method_7_code
def yX11_set : MethodName := ⟨RX11, "set", "(III)I"⟩
abbrev cX11_copy : ByteArray := prog_13_method_8_code
def yX11_copy : MethodName := ⟨RX11, "copy", "(IIIII)I"⟩
abbrev cX11_drop : ByteArray := prog_13_method_9_code
def yX11_drop : MethodName := ⟨RX11, "drop", "(I)I"⟩
abbrev cX11_feed : ByteArray := prog_13_method_10_code
def yX11_feed : MethodName := ⟨RX11, "feed", "(I)I"⟩
abbrev cX11_bad : ByteArray := prog_13_method_11_code
def yX11_bad : MethodName := ⟨RX11, "bad", "(I)V"⟩
abbrev cX11_nextToken : ByteArray := prog_13_method_12_code
def yX11_nextToken : MethodName := ⟨RX11, "nextToken", "()V"⟩
abbrev cX11_must : ByteArray := prog_13_method_13_code
def yX11_must : MethodName := ⟨RX11, "must", "(Z)V"⟩
abbrev cX11_isLetter : ByteArray := prog_13_method_14_code
def yX11_isLetter : MethodName := ⟨RX11, "isLetter", "(I)Z"⟩
abbrev cX11_number : ByteArray := prog_13_method_15_code
def yX11_number : MethodName := ⟨RX11, "number", "(II)I"⟩
abbrev cX11_mustSign : ByteArray := prog_13_method_16_code
def yX11_mustSign : MethodName := ⟨RX11, "mustSign", "(I)V"⟩
abbrev cX11_begin : ByteArray := prog_13_method_17_code
def yX11_begin : MethodName := ⟨RX11, "begin", "()V"⟩
abbrev cX11_failed : ByteArray := prog_13_method_18_code
def yX11_failed : MethodName := ⟨RX11, "failed", "()Z"⟩
abbrev cX11_fault : ByteArray := prog_13_method_19_code
def yX11_fault : MethodName := ⟨RX11, "fault", "()I"⟩
abbrev cX11_kindBy : ByteArray := prog_13_method_20_code
def yX11_kindBy : MethodName := ⟨RX11, "kindBy", "(I)I"⟩
abbrev cX11_isSort : ByteArray := prog_13_method_21_code
def yX11_isSort : MethodName := ⟨RX11, "isSort", "()Z"⟩
abbrev cX11_isTold : ByteArray := prog_13_method_22_code
def yX11_isTold : MethodName := ⟨RX11, "isTold", "(IIJ)Z"⟩
abbrev cX11_readRule : ByteArray := prog_13_method_23_code
def yX11_readRule : MethodName := ⟨RX11, "readRule", "()V"⟩
abbrev cX11_court : ByteArray := prog_13_method_24_code
def yX11_court : MethodName := ⟨RX11, "court", "()I"⟩
abbrev cX11_isThere : ByteArray := prog_13_method_25_code
def yX11_isThere : MethodName := ⟨RX11, "isThere", "()Z"⟩
abbrev cX11_isFact : ByteArray := prog_13_method_26_code
def yX11_isFact : MethodName := ⟨RX11, "isFact", "(I)Z"⟩
abbrev cX11_isPerson : ByteArray := prog_13_method_27_code
def yX11_isPerson : MethodName := ⟨RX11, "isPerson", "(I)Z"⟩
abbrev cX11_isRule : ByteArray := prog_13_method_28_code
def yX11_isRule : MethodName := ⟨RX11, "isRule", "(I)Z"⟩
abbrev cX11_isSaying : ByteArray := prog_13_method_29_code
def yX11_isSaying : MethodName := ⟨RX11, "isSaying", "(J)Z"⟩
abbrev cX11_areFacts : ByteArray := prog_13_method_30_code
def yX11_areFacts : MethodName := ⟨RX11, "areFacts", "(I)Z"⟩
abbrev cX11_kindOf : ByteArray := prog_13_method_31_code
def yX11_kindOf : MethodName := ⟨RX11, "kindOf", "(I)I"⟩
abbrev cX11_bits : ByteArray := prog_13_method_32_code
def yX11_bits : MethodName := ⟨RX11, "bits", "(I)I"⟩
abbrev cX11_closed : ByteArray := prog_13_method_33_code
def yX11_closed : MethodName := ⟨RX11, "closed", "(I)I"⟩
abbrev cX11_canBe : ByteArray := prog_13_method_34_code
def yX11_canBe : MethodName := ⟨RX11, "canBe", "(I)Z"⟩
abbrev cX11_with : ByteArray := prog_13_method_35_code
def yX11_with : MethodName := ⟨RX11, "with", "(III)I"⟩
abbrev cX11_afterBy : ByteArray := prog_13_method_36_code
def yX11_afterBy : MethodName := ⟨RX11, "afterBy", "(IIII)I"⟩
abbrev cX11_after : ByteArray := prog_13_method_37_code
def yX11_after : MethodName := ⟨RX11, "after", "(IIII)I"⟩
abbrev cX11_keep : ByteArray := prog_13_method_38_code
def yX11_keep : MethodName := ⟨RX11, "keep", "()V"⟩
abbrev cX11_say : ByteArray := prog_13_method_39_code
def yX11_say : MethodName := ⟨RX11, "say", "(II)I"⟩
abbrev cX11_pardon : ByteArray := prog_13_method_40_code
def yX11_pardon : MethodName := ⟨RX11, "pardon", "(I)I"⟩
abbrev cX11_strike : ByteArray := prog_13_method_41_code
def yX11_strike : MethodName := ⟨RX11, "strike", "(II)I"⟩
abbrev cX11_undo : ByteArray := prog_13_method_42_code
def yX11_undo : MethodName := ⟨RX11, "undo", "()I"⟩
abbrev cX11_stand : ByteArray := prog_13_method_43_code
def yX11_stand : MethodName := ⟨RX11, "stand", "(I)I"⟩
abbrev cX11_rule : ByteArray := prog_13_method_44_code
def yX11_rule : MethodName := ⟨RX11, "rule", "(II)I"⟩
abbrev cX11_cell : ByteArray := prog_13_method_45_code
def yX11_cell : MethodName := ⟨RX11, "cell", "(I)I"⟩
abbrev cX11_makes : ByteArray := prog_13_method_46_code
def yX11_makes : MethodName := ⟨RX11, "makes", "(II)I"⟩
abbrev cX11_clearStates : ByteArray := prog_13_method_47_code
def yX11_clearStates : MethodName := ⟨RX11, "clearStates", "()V"⟩
abbrev cX11_goOn : ByteArray := prog_13_method_48_code
def yX11_goOn : MethodName := ⟨RX11, "goOn", "(IIIZ)V"⟩
abbrev cX11_spread : ByteArray := prog_13_method_49_code
def yX11_spread : MethodName := ⟨RX11, "spread", "(Z)V"⟩
abbrev cX11_isSoNow : ByteArray := prog_13_method_50_code
def yX11_isSoNow : MethodName := ⟨RX11, "isSoNow", "(II)Z"⟩
abbrev cX11_areTold : ByteArray := prog_13_method_51_code
def yX11_areTold : MethodName := ⟨RX11, "areTold", "(II)Z"⟩
abbrev cX11_bestOf : ByteArray := prog_13_method_52_code
def yX11_bestOf : MethodName := ⟨RX11, "bestOf", "(III)I"⟩
abbrev cX11_shortest : ByteArray := prog_13_method_53_code
def yX11_shortest : MethodName := ⟨RX11, "shortest", "(III)I"⟩
abbrev cX11_cheapest : ByteArray := prog_13_method_54_code
def yX11_cheapest : MethodName := ⟨RX11, "cheapest", "(III)I"⟩
abbrev cX11_idle : ByteArray := prog_13_method_55_code
def yX11_idle : MethodName := ⟨RX11, "idle", "(I)I"⟩
abbrev cX11_giveUp : ByteArray := prog_13_method_56_code
def yX11_giveUp : MethodName := ⟨RX11, "giveUp", "(II)I"⟩
abbrev cX11_madeBy : ByteArray := prog_13_method_57_code
def yX11_madeBy : MethodName := ⟨RX11, "madeBy", "(I)I"⟩
abbrev cX11_order : ByteArray := prog_13_method_58_code
def yX11_order : MethodName := ⟨RX11, "order", "(II)I"⟩
abbrev cX11_ever : ByteArray := prog_13_method_59_code
def yX11_ever : MethodName := ⟨RX11, "ever", "(I)I"⟩
abbrev cX11_said : ByteArray := prog_13_method_60_code
def yX11_said : MethodName := ⟨RX11, "said", "(IIIII)I"⟩
abbrev cX11_who : ByteArray := prog_13_method_61_code
def yX11_who : MethodName := ⟨RX11, "who", "(IIII)I"⟩
abbrev cX11_afterAll : ByteArray := prog_13_method_62_code
def yX11_afterAll : MethodName := ⟨RX11, "afterAll", "(III)I"⟩
abbrev cX11_temper : ByteArray := prog_13_method_63_code
def yX11_temper : MethodName := ⟨RX11, "temper", "(IIIIII)J"⟩
abbrev cX11_drawn : ByteArray := prog_13_method_64_code
def yX11_drawn : MethodName := ⟨RX11, "drawn", "(III)I"⟩
abbrev cX11_image : ByteArray := prog_13_method_65_code
def yX11_image : MethodName := ⟨RX11, "image", "(I)I"⟩
abbrev cX11_restore : ByteArray := prog_13_method_66_code
def yX11_restore : MethodName := ⟨RX11, "restore", "(I)I"⟩
abbrev cX11_isOf : ByteArray := prog_13_method_67_code
def yX11_isOf : MethodName := ⟨RX11, "isOf", "(II)Z"⟩
abbrev cX11_kind : ByteArray := prog_13_method_68_code
def yX11_kind : MethodName := ⟨RX11, "kind", "(I)I"⟩
abbrev cX11_as : ByteArray := prog_13_method_69_code
def yX11_as : MethodName := ⟨RX11, "as", "(II)I"⟩
abbrev cX11_began : ByteArray := prog_13_method_70_code
def yX11_began : MethodName := ⟨RX11, "began", "(I)V"⟩
abbrev cX11_plainSize : ByteArray := prog_13_method_71_code
def yX11_plainSize : MethodName := ⟨RX11, "plainSize", "(I)I"⟩
abbrev cX11_quietSize : ByteArray := prog_13_method_72_code
def yX11_quietSize : MethodName := ⟨RX11, "quietSize", "(I)I"⟩
abbrev cX11_markOf : ByteArray := prog_13_method_73_code
def yX11_markOf : MethodName := ⟨RX11, "markOf", "(I)I"⟩
abbrev cX11_sizeOf : ByteArray := prog_13_method_74_code
def yX11_sizeOf : MethodName := ⟨RX11, "sizeOf", "(I)I"⟩
abbrev cX11_ask : ByteArray := prog_13_method_75_code
def yX11_ask : MethodName := ⟨RX11, "ask", "(II)I"⟩
abbrev cX11_trace : ByteArray := prog_13_method_76_code
def yX11_trace : MethodName := ⟨RX11, "trace", "(I)I"⟩
abbrev cX11_count : ByteArray := prog_13_method_77_code
def yX11_count : MethodName := ⟨RX11, "count", "(I)I"⟩
abbrev cX11_status : ByteArray := prog_13_method_78_code
def yX11_status : MethodName := ⟨RX11, "status", "()I"⟩
def RJx8e188 : String := "java/lang/Cloneable"
def TJx8e188 : u_T := fun k => match k with
  | _ => ("", "", "", false)
def tyJx8e188 : Nat → FieldType := fun k => match k with
  | _ => .int
theorem nmJx8e188 : ∀ a, a < 0 → ∀ b, b < 0 → a ≠ b → (TJx8e188 a).2.1 ≠ (TJx8e188 b).2.1 := by decide +kernel
theorem tyJx8e188_ok : ∀ k, k < 0 → parseFieldDescriptor (TJx8e188 k).2.2.1 = some (tyJx8e188 k) := by decide +kernel
def RJ6 : String := "java/lang/Integer"
def TJ6 : u_T := fun k => match k with
  | _ => ("", "", "", false)
def tyJ6 : Nat → FieldType := fun k => match k with
  | _ => .int
theorem nmJ6 : ∀ a, a < 0 → ∀ b, b < 0 → a ≠ b → (TJ6 a).2.1 ≠ (TJ6 b).2.1 := by decide +kernel
theorem tyJ6_ok : ∀ k, k < 0 → parseFieldDescriptor (TJ6 k).2.2.1 = some (tyJ6 k) := by decide +kernel
abbrev cJ6_bitCount_0f7a4 : ByteArray := prog_15_method_49_code
def yJ6_bitCount_0f7a4 : MethodName := ⟨RJ6, "bitCount", "(I)I"⟩
def RJ13 : String := "java/lang/Long"
def TJ13 : u_T := fun k => match k with
  | _ => ("", "", "", false)
def tyJ13 : Nat → FieldType := fun k => match k with
  | _ => .int
theorem nmJ13 : ∀ a, a < 0 → ∀ b, b < 0 → a ≠ b → (TJ13 a).2.1 ≠ (TJ13 b).2.1 := by decide +kernel
theorem tyJ13_ok : ∀ k, k < 0 → parseFieldDescriptor (TJ13 k).2.2.1 = some (tyJ13 k) := by decide +kernel
abbrev cJ13_bitCount_95d88 : ByteArray := prog_16_method_50_code
def yJ13_bitCount_95d88 : MethodName := ⟨RJ13, "bitCount", "(J)I"⟩
def RJ9 : String := "java/lang/Math"
def TJ9 : u_T := fun k => match k with
  | _ => ("", "", "", false)
def tyJ9 : Nat → FieldType := fun k => match k with
  | _ => .int
theorem nmJ9 : ∀ a, a < 0 → ∀ b, b < 0 → a ≠ b → (TJ9 a).2.1 ≠ (TJ9 b).2.1 := by decide +kernel
theorem tyJ9_ok : ∀ k, k < 0 → parseFieldDescriptor (TJ9 k).2.2.1 = some (tyJ9 k) := by decide +kernel
abbrev cJ9_max_7cf53 : ByteArray := prog_17_method_65_code
def yJ9_max_7cf53 : MethodName := ⟨RJ9, "max", "(II)I"⟩
abbrev cJ9_min_7cf53 : ByteArray := prog_17_method_69_code
def yJ9_min_7cf53 : MethodName := ⟨RJ9, "min", "(II)I"⟩
def RJ10 : String := "java/lang/System"
def TJ10 : u_T := fun k => match k with
  | _ => ("", "", "", false)
def tyJ10 : Nat → FieldType := fun k => match k with
  | _ => .int
theorem nmJ10 : ∀ a, a < 0 → ∀ b, b < 0 → a ≠ b → (TJ10 a).2.1 ≠ (TJ10 b).2.1 := by decide +kernel
theorem tyJ10_ok : ∀ k, k < 0 → parseFieldDescriptor (TJ10 k).2.2.1 = some (tyJ10 k) := by decide +kernel
def RJ7 : String := "java/util/Arrays"
def TJ7 : u_T := fun k => match k with
  | _ => ("", "", "", false)
def tyJ7 : Nat → FieldType := fun k => match k with
  | _ => .int
theorem nmJ7 : ∀ a, a < 0 → ∀ b, b < 0 → a ≠ b → (TJ7 a).2.1 ≠ (TJ7 b).2.1 := by decide +kernel
theorem tyJ7_ok : ∀ k, k < 0 → parseFieldDescriptor (TJ7 k).2.2.1 = some (tyJ7 k) := by decide +kernel
abbrev cJ7_fill_53178 : ByteArray := prog_19_method_103_code
def yJ7_fill_53178 : MethodName := ⟨RJ7, "fill", "([II)V"⟩
abbrev cJ7_checkLength_df160 : ByteArray := prog_19_method_131_code
def yJ7_checkLength_df160 : MethodName := ⟨RJ7, "checkLength", "(II)V"⟩
abbrev cJ7_copyOfRange_feecc : ByteArray := prog_19_method_136_code
def yJ7_copyOfRange_feecc : MethodName := ⟨RJ7, "copyOfRange", "([III)[I"⟩
abbrev cJ7_copyOfRangeInt_feecc : ByteArray := prog_19_method_137_code
def yJ7_copyOfRangeInt_feecc : MethodName := ⟨RJ7, "copyOfRangeInt", "([III)[I"⟩
def RL : String := "BelievedWordsLaw"
abbrev cL_law : ByteArray := code
def yL_law : MethodName := ⟨RL, "law", "([I)Z"⟩
abbrev vwCl : List vw_C := [(RX0, TX0, 3), (RX1, TX1, 2), (RX2, TX2, 5), (RX3, TX3, 4), (RX4, TX4, 3), (RX5, TX5, 9), (RX6, TX6, 3), (RX7, TX7, 14), (RX8, TX8, 6), (RX9, TX9, 9), (RX10, TX10, 9), (RX11, TX11, 28)]
end
section
/-! FLAT MEMORY. The objects of the class and of the reference, once made, lie at fixed numbers (indices); ints live in one table
    (index, place); the few references that change in a second one; lengths of the arrays that are made later in a third. -/
abbrev AV : Type := Int32 ⊕ (Int64 ⊕ (Nat × Nat))
abbrev vi (x : Int32) : AV := .inl x
abbrev vl (x : Int64) : AV := .inr (.inl x)
/-- a reference: the tag (what kind of thing), the index -/
abbrev vr (t i : Nat) : AV := .inr (.inr (t, i))
abbrev AM : Type := (Nat → Nat → Int32) × ((Nat → Nat → Nat) × ((Nat → Nat) × Nat))
def cvA (ad : Nat → Nat) (v : AV) : Value := match v with
  | .inl x => .int x
  | .inr (.inl x) => .long x
  | .inr (.inr q) => .ref (ad q.2)
/-- the tags of the fixed indices. 0..11 the classes of vwCl; 12 an int[] of its own length; 13 Standing[24]; 14 Image[2]; 15 int[8][]; 100 + n an int[n]; 20000 + n a boolean[n] -/
def KDl : List Nat := [10, 6, 15, 140, 140, 140, 140, 140, 140, 140, 140, 108, 108, 9, 5, 108, 108, 108, 105, 220, 2, 5, 108, 108, 108, 105, 8, 105, 106, 106, 164, 0, 13] ++ (List.range 24).flatMap (fun _ => [8, 105]) ++ [14, 4, 5, 108, 108, 108, 105, 8, 105, 4, 5, 108, 108, 108, 105, 8, 105, 7, 105, 12, 12, 12, 3, 12, 12, 12, 12, 1, 116, 11, 108, 108, 420, 150, 150, 1300, 220, 4196, 4196, 24096, 4197, 20002, 200, 116]
def KD (i : Nat) : Nat := KDl.getD i 12
def nS : Nat := 125
/-- the fields of an object: f its ints, g its changing references, i its index -/
def flds (ad : Nat → Nat) (f : Nat → Int32) (g : Nat → Nat) (t i : Nat) : List Value := match t with
  | 0 => [.ref (ad (i + 1)), .int (f 1), .int (f 2)]
  | 1 => [.ref (ad (i + 1)), .int (f 1)]
  | 2 => [.ref (ad (i + 1)), .ref (ad (i + 6)), .ref (ad (i + 8)), .ref (ad (i + 9)), .ref (ad (i + 10))]
  | 3 => [.ref (ad (g 0)), .ref (ad (g 1)), .ref (ad (g 2)), .ref (ad (g 3))]
  | 4 => [.ref (ad (i + 1)), .ref (ad (i + 6)), .int (f 2)]
  | 5 => [.ref (ad (i + 1)), .ref (ad (i + 2)), .ref (ad (i + 3)), .ref (ad (i + 4)), .int (f 4), .int (f 5), .int (f 6), .int (f 7), .int (f 8)]
  | 6 => [.ref (ad (i + 1)), .ref (ad (i + 10)), .ref (ad (i + 11))]
  | 7 => [.ref (ad (i + 1)), .ref (ad (g 1)), .ref (ad (g 2)), .ref (ad (g 3)), .int (f 4), .int (f 5), .int (f 6), .int (f 7), .int (f 8), .int (f 9), .int (f 10), .int (f 11), .int (f 12), .int (f 13)]
  | 8 => [.ref (ad (i + 1)), .int (f 1), .int (f 2), .int (f 3), .int (f 4), .int (f 5)]
  | 9 => [.ref (ad (i + 1)), .ref (ad (i + 6)), .int (f 2), .int (f 3), .int (f 4), .int (f 5), .int (f 6), .int (f 7), .int (f 8)]
  | 10 => [.ref (ad (i + 1)), .ref (ad (i + 13)), .ref (ad (i + 20)), .ref (ad (i + 31)), .ref (ad (i + 81)), .ref (ad (i + 98)), .ref (ad (i + 103)), .ref (ad (i + 108)), .int (f 8)]
  | _ => [.int (f 0), .int (f 1), .ref (ad (i + 1)), .ref (ad (i + 2)), .ref (ad (i + 3)), .ref (ad (i + 4)), .ref (ad (i + 5)), .ref (ad (i + 6)), .int (f 8), .ref (ad (i + 7)), .int (f 10), .int (f 11), .int (f 12), .int (f 13), .int (f 14), .int (f 15), .int (f 16), .int (f 17), .ref (ad (i + 8)), .ref (ad (i + 9)), .ref (ad (i + 10)), .ref (ad (i + 11)), .int (f 22), .int (f 23), .ref (ad (i + 12)), .ref (ad (i + 13)), .ref (ad (i + 14)), .int (f 27)]
/-- what the cell of index i holds -/
def celT (Y : Nat → ClassId) (ad : Nat → Nat) (f : Nat → Int32) (g : Nat → Nat) (n t i : Nat) : va_E :=
  if t < 12 then .inr (t, flds ad f g t i)
  else if t = 12 then .inl (Y 0, n, .inl f)
  else if t = 13 then .inl (Y 3, 24, .inr (.inr (.inr (.inr (fun j => if j < 24 then some (ad (i + 1 + 2 * j)) else none)))))
  else if t = 14 then .inl (Y 2, 2, .inr (.inr (.inr (.inr (fun j => if j < 2 then some (ad (i + 1 + 8 * j)) else none)))))
  else if t = 15 then .inl (Y 4, 8, .inr (.inr (.inr (.inr (fun j => if j < 8 then some (ad (i + 1 + j)) else none)))))
  else if t < 20000 then .inl (Y 0, t - 100, .inl f)
  else .inl (Y 1, t - 20000, .inl f)
def cel (Y : Nat → ClassId) (ad : Nat → Nat) (m : AM) (i : Nat) : va_E := celT Y ad (m.1 i) (m.2.1 i) (m.2.2.1 i) (KD i) i
def wsO (Y : Nat → ClassId) (ad : Nat → Nat) (m : AM) : va_W := (List.range m.2.2.2).map (fun i => (ad i, cel Y ad m i))
def tysO (Y : Nat → ClassId) : List (ClassId × FieldType) := [(Y 0, .int), (Y 1, .boolean), (Y 2, .object "BelievedWords$Image"), (Y 3, .object "BelievedWords$Standing"), (Y 4, .array .int)]
theorem wsO_get {Y : Nat → ClassId} {ad : Nat → Nat} {m : AM} {i : Nat} (h : i < m.2.2.2) : (wsO Y ad m)[i]? = some (ad i, cel Y ad m i) := by
  simp [wsO, h]
theorem wsO_len {Y : Nat → ClassId} {ad : Nat → Nat} {m : AM} : (wsO Y ad m).length = m.2.2.2 := by simp [wsO]
def mset (m : AM) (i j : Nat) (x : Int32) : AM := (fun a b => if a = i then (if b = j then x else m.1 a b) else m.1 a b, m.2)
def rset (m : AM) (i j : Nat) (x : Nat) : AM := (m.1, (fun a b => if a = i then (if b = j then x else m.2.1 a b) else m.2.1 a b, m.2.2))
theorem mset_2 (m : AM) (i j : Nat) (x : Int32) : (mset m i j x).2 = m.2 := rfl
theorem mset_at (m : AM) (i j : Nat) (x : Int32) (b : Nat) : (mset m i j x).1 i b = if b = j then x else m.1 i b := by simp [mset]
theorem mset_ne (m : AM) {i a : Nat} (j : Nat) (x : Int32) (h : a ≠ i) : (mset m i j x).1 a = m.1 a := by funext b; simp [mset, h]
theorem mset_upd (m : AM) (i j : Nat) (x : Int32) : (mset m i j x).1 i = upd (m.1 i) j x := by funext b; simp [mset, upd]
theorem wsO_set {Y : Nat → ClassId} {ad : Nat → Nat} {m m' : AM} {i : Nat} {e : va_E} (hn : m'.2.2.2 = m.2.2.2) (he : cel Y ad m' i = e) (ho : ∀ a, a ≠ i → cel Y ad m' a = cel Y ad m a) : (wsO Y ad m).set i (ad i, e) = wsO Y ad m' := by
  apply List.ext_getElem?
  intro k
  by_cases hk : k < m.2.2.2
  · rw [wsO_get (by rw [hn]; exact hk)]
    by_cases h : k = i
    · subst h
      rw [List.getElem?_set_self (by rw [wsO_len]; exact hk), he]
    · rw [List.getElem?_set_ne (Ne.symm h), wsO_get hk, ho k h]
  · rw [List.getElem?_eq_none (by rw [List.length_set, wsO_len]; omega), List.getElem?_eq_none (by rw [wsO_len, hn]; omega)]
theorem cel_mset_ne {Y : Nat → ClassId} {ad : Nat → Nat} {m : AM} {i a : Nat} (j : Nat) (x : Int32) (h : a ≠ i) : cel Y ad (mset m i j x) a = cel Y ad m a := by
  unfold cel
  rw [mset_ne m j x h]
  rfl
theorem cel_rset_ne {Y : Nat → ClassId} {ad : Nat → Nat} {m : AM} {i a : Nat} (j x : Nat) (h : a ≠ i) : cel Y ad (rset m i j x) a = cel Y ad m a := by
  unfold cel
  have e : (rset m i j x).2.1 a = m.2.1 a := by funext b; simp [rset, h]
  rw [e]
  rfl
/-- a value is of its tag -/
def wt (m : AM) (v : AV) : Prop := match v with
  | .inr (.inr q) => KD q.2 = q.1 ∧ q.2 < m.2.2.2
  | _ => True
def TY (m : AM) : Prop := nS ≤ m.2.2.2 ∧ ∀ i k, KD (m.2.1 i k) = 12 ∧ m.2.1 i k < m.2.2.2
theorem wt_i (m : AM) (x : Int32) : wt m (vi x) := trivial
theorem wt_l (m : AM) (x : Int64) : wt m (vl x) := trivial
theorem TY.mset {m : AM} {i j : Nat} {x : Int32} (h : TY m) : TY (mset m i j x) := h
theorem wt.mset {m : AM} {i j : Nat} {x : Int32} {v : AV} (h : wt m v) : wt (mset m i j x) v := h
/-- the tables' words that outlive a call -/
def TB : List Cond := lw_tbl.filter goodWord
theorem tb_of {w : Cond} (i : Nat) (h : lw_tbl[i]? = some w) (g : goodWord w = true) : w ∈ TB := List.mem_filter.mpr ⟨List.mem_of_getElem? h, g⟩
theorem tb_good : GoodIn TB TB := fun w h => ⟨h, good_of_word (List.mem_filter.mp h).2⟩
/-- a method: its code, its class, its locals, what it gives, how many cells and slots it may make, how deep it calls -/
abbrev ME : Type := ByteArray × (String × (Nat × (Option FieldType × (Nat × (Nat × Nat)))))
def rmD (d mc ms : Nat) : Room := { frames := d, cells := mc, slots := ms, locals := 64 * d }
/-- the one word on a nest mate's private field (Tape.length, read by count) -/
def NWw : Cond := Cond.fieldLinkNest "BelievedWords" 323 "BelievedWords$Tape" "length" "I" "BelievedWords"
theorem nw_up {s U : State} (hW : s.WarmedH U.vm) (h : va_Nw NWw s) : va_Nw NWw U := va_Nw.warmF hW h
/-- the world of a state -/
def Wd (G : va_G × (Nat → ClassId)) (ad : Nat → Nat) (m : AM) (U : State) : Prop := va_P G.1 vwCl (wsO G.2 ad m) U.heap ∧ va_K G.1 vwCl (tysO G.2) U ∧ va_Nw NWw U
/-- what a method's end says -/
def Qg (G : va_G × (Nat → ClassId)) (ad0 : Nat → Nat) (nx0 : Nat) (A : Nat → Prop) (Φ : Option AV → AM → Prop) : Array Value → State → Outcome → State → Prop := fun _ st oc t =>
  (∃ (r : Option AV) (m : AM) (ad : Nat → Nat), oc = .returned (r.map (cvA ad)) ∧ Φ r m ∧ (∀ v, r = some v → wt m v) ∧ TY m ∧ Wd G ad m t ∧ va_D A (wsO G.2 ad m) ∧ nx0 ≤ m.2.2.2 ∧ ∀ i, i < nx0 → ad i = ad0 i) ∧ va_F A st t
/-- the machine stands in the method -/
def OkM (E : ME) (p : Program) (R : Room) (s : State) (mi : MethodId) (args : Array Value) (meth : Method) (c : Code) : Prop :=
  p.tables.exec = Jvm.exec ∧ c.code = E.1 ∧ c.maxLocals = E.2.2.1 ∧ meth.sig.returnType = E.2.2.2.1 ∧ s.vm.findClass E.2.1 = some mi.cls ∧ (∀ w ∈ TB, w.before args s = true) ∧ meth.locks = false ∧ R = rmD E.2.2.2.2.2.2 E.2.2.2.2.1 E.2.2.2.2.2.1 ∧ va_Nw NWw s
/-- the world is as the flat memory says -/
def InM (G : va_G × (Nat → ClassId)) (ad0 : Nat → Nat) (nx0 : Nat) (A : Nat → Prop) (ad : Nat → Nat) (m : AM) (s : State) (H : Heap) (locs : List Loc) : Prop :=
  va_K G.1 vwCl (tysO G.2) s ∧ va_P G.1 vwCl (wsO G.2 ad m) H ∧ va_D A (wsO G.2 ad m) ∧ va_S A s.heap H locs ∧ (∀ q, s.heap.size ≤ q → A q) ∧ (∀ i, i < nx0 → ad i = ad0 i) ∧ nx0 ≤ m.2.2.2 ∧ TY m
/-- the locals: none where nothing is known -/
def LHm (ad : Nat → Nat) (m : AM) (ls : Array Slot) (nL : Nat) (L : List (Option AV)) : Prop := ls.size = nL ∧ lv_wf ls ∧ ∀ (k : Nat) (v : AV), L[k]? = some (some v) → ls[k]? = some (.val (cvA ad v)) ∧ wt m v
/-- from pc on, with locals L, stack st, memory m, room a used, the method ends with Φ -/
def B (E : ME) (Φ : Option AV → AM → Prop) (pc : Nat) (L : List (Option AV)) (st : List AV) (m : AM) (a : Nat × Nat) : Prop :=
  ∀ (p : Program) (l : Launch) (e : Env) (R : Room) (s : State) (mi : MethodId) (args : Array Value) (below : List Frame) (meth : Method) (c : Code) (G : va_G × (Nat → ClassId)) (ad0 : Nat → Nat) (nx0 : Nat) (A : Nat → Prop) (ad : Nat → Nat) (H : Heap) (locs : List Loc) (ls : Array Slot),
    OkM E p R s mi args meth c → InM G ad0 nx0 A ad m s H locs → LHm ad m ls E.2.2.1 L → (∀ v, v ∈ st → wt m v) →
      W p l e R s mi args below meth c H locs a.1 a.2 (MQ below (Qg G ad0 nx0 A Φ) args s E.2.2.2.2.1 E.2.2.2.2.2.1 A) (F0 mi pc ls (st.map (cvA ad)))
/-- a method keeps its word: from every world and every args of which Sp says Φ -/
def Snd (y : MethodName) (E : ME) (Sp : List AV → AM → (Option AV → AM → Prop) → Prop) : Prop :=
  ∀ (l : Launch) (G : va_G × (Nat → ClassId)) (ad : Nat → Nat) (m : AM) (av : List AV) (Φ : Option AV → AM → Prop) (sz : Nat), Sp av m Φ → (∀ v, v ∈ av → wt m v) → TY m →
    Met l y (Cond.code y E.1 E.2.2.1 E.2.2.2.1 :: TB) (rmD E.2.2.2.2.2.2 E.2.2.2.2.1 E.2.2.2.2.2.1) (va_Pc (av.map (cvA ad)) (fun U => U.heap.size = sz ∧ Wd G ad m U ∧ va_D (fun _ => True) (wsO G.2 ad m))) (Qg G ad m.2.2.2 (va_A (wsO G.2 ad m) sz) Φ) E.2.2.2.2.1 E.2.2.2.2.2.1 (va_A (wsO G.2 ad m) sz)
/-- the locals at the start -/
def L0 : List AV → List (Option AV)
  | [] => []
  | v :: vs => match v with
    | .inr (.inl _) => some v :: none :: L0 vs
    | _ => some v :: L0 vs
theorem cvA_cat (ad : Nat → Nat) (v : AV) : (cvA ad v).category = (match v with | .inr (.inl _) => 2 | _ => 1) := by
  rcases v with x | x | q <;> rfl
theorem L0_args (ad : Nat → Nat) : ∀ (av : List AV) (i k : Nat) (v : AV), (L0 av)[k]? = some (some v) → (i + k, cvA ad v) ∈ lv_args i (av.map (cvA ad)) ∧ v ∈ av
  | [], i, k, v, h => by simp [L0] at h
  | w :: ws, i, k, v, h => by
    rcases w with x | x | q
    · simp only [L0] at h
      cases k with
      | zero => simp at h; subst h; exact ⟨by simp [lv_args], by simp⟩
      | succ k =>
        have h2 := L0_args ad ws (i + 1) k v (by simpa using h)
        refine ⟨?_, List.mem_cons_of_mem _ h2.2⟩
        simp only [List.map_cons, lv_args]
        rw [if_neg (by rw [cvA_cat]; simp)]
        exact List.mem_cons_of_mem _ (by rw [show i + (k + 1) = i + 1 + k by omega]; exact h2.1)
    · simp only [L0] at h
      cases k with
      | zero => simp at h; subst h; exact ⟨by simp [lv_args], by simp⟩
      | succ k =>
        cases k with
        | zero => simp at h
        | succ k =>
          have h2 := L0_args ad ws (i + 2) k v (by simpa using h)
          refine ⟨?_, List.mem_cons_of_mem _ h2.2⟩
          simp only [List.map_cons, lv_args]
          rw [if_pos (by rw [cvA_cat])]
          exact List.mem_cons_of_mem _ (by rw [show i + (k + 1 + 1) = i + 2 + k by omega]; exact h2.1)
    · simp only [L0] at h
      cases k with
      | zero => simp at h; subst h; exact ⟨by simp [lv_args], by simp⟩
      | succ k =>
        have h2 := L0_args ad ws (i + 1) k v (by simpa using h)
        refine ⟨?_, List.mem_cons_of_mem _ h2.2⟩
        simp only [List.map_cons, lv_args]
        rw [if_neg (by rw [cvA_cat]; simp)]
        exact List.mem_cons_of_mem _ (by rw [show i + (k + 1) = i + 1 + k by omega]; exact h2.1)
def argW (av : List AV) : Nat := (L0 av).length
theorem argW_eq (ad : Nat → Nat) : ∀ av : List AV, (lg_sl (av.map (cvA ad))).length = argW av
  | [] => rfl
  | v :: vs => by
    have h := argW_eq ad vs
    unfold argW at h ⊢
    unfold lg_sl at h ⊢
    rcases v with x | x | q
    · simp only [List.map_cons, List.flatMap_cons, List.length_append, L0, List.length_cons, h]
      rw [if_neg (by rw [cvA_cat]; simp)]
      simp; omega
    · simp only [List.map_cons, List.flatMap_cons, List.length_append, L0, List.length_cons, h]
      rw [if_pos (by rw [cvA_cat])]
      simp; omega
    · simp only [List.map_cons, List.flatMap_cons, List.length_append, L0, List.length_cons, h]
      rw [if_neg (by rw [cvA_cat]; simp)]
      simp; omega
/-- the locals at the start, filled up with none -/
def L0p (n : Nat) (av : List AV) : List (Option AV) := L0 av ++ List.replicate (n - (L0 av).length) none
theorem L0p_at {n : Nat} {av : List AV} {k : Nat} {v : AV} (h : (L0p n av)[k]? = some (some v)) : (L0 av)[k]? = some (some v) := by
  unfold L0p at h
  by_cases hk : k < (L0 av).length
  · rw [List.getElem?_append_left hk] at h
    exact h
  · rw [List.getElem?_append_right (by omega)] at h
    have := List.eq_of_mem_replicate (List.mem_of_getElem? h)
    cases this
/-- a method's word, from its walk -/
theorem Snd.of {y : MethodName} {E : ME} {Sp : List AV → AM → (Option AV → AM → Prop) → Prop} (hy : plainName y.cls = true) (how : y.cls = E.2.1) (hl : ∀ av m Φ, Sp av m Φ → argW av ≤ E.2.2.1)
    (h : ∀ av m Φ, Sp av m Φ → (∀ v, v ∈ av → wt m v) → TY m → B E Φ 0 (L0p E.2.2.1 av) [] m (0, 0)) : Snd y E Sp := by
  intro l G ad m av Φ sz hsp hav hty
  refine Met.ofW (cc := E.1) (maxL := E.2.2.1) (ret := E.2.2.2.1) hy rfl ?_
  intro p e s mi args below meth c s₁ Bd hml hv
  obtain ⟨rfl, hsz, ⟨hP, hK, hNw⟩, hD0⟩ := hv
  have hts := atoms_spec (ws := (Cond.code y E.1 E.2.2.1 E.2.2.2.1 :: TB)) Bd.pre
  have hown : s.vm.findClass y.cls = some mi.cls := findClass_of_methodNamed Bd.named
  subst hsz
  have hD := hD0.self (sz := s.heap.size)
  have hA : ∀ q : Nat, s.heap.size ≤ q → va_A (wsO G.2 ad m) s.heap.size q := fun q h => Or.inr h
  have hle : (lg_sl (av.map (cvA ad))).length ≤ E.2.2.1 := by rw [argW_eq]; exact hl av m Φ hsp
  have hl0 := lv_entry (av.map (cvA ad)) (n := E.2.2.1) hle
  rw [lg_entry_eq]
  generalize (lg_sl (av.map (cvA ad)) ++ List.replicate (E.2.2.1 - (lg_sl (av.map (cvA ad))).length) Slot.unset).toArray = ls at hl0 ⊢
  refine h av m Φ hsp hav hty p l e _ s mi _ below meth c G ad m.2.2.2 (va_A (wsO G.2 ad m) s.heap.size) ad s.heap [] ls ⟨Bd.exec, Bd.bytes, hml, Bd.returns, by rw [← how]; exact hown, fun w hw => hts w (List.mem_cons_of_mem _ hw), Bd.notSynchronized, rfl, hNw⟩ ⟨hK, hP, hD, va_S.rf, hA, fun _ _ => rfl, Nat.le_refl _, hty⟩ ⟨hl0.1, hl0.2.1, fun k v hk => ?_⟩ (by simp)
  have h3 := L0_args ad av 0 k v (L0p_at hk)
  rw [Nat.zero_add] at h3
  exact ⟨hl0.2.2 _ h3.1, hav v h3.2⟩
end
section
/-! ROWS over the flat memory, an instruction each: what is left to show behind it. -/
theorem sw_tl {m : AM} {v : AV} {st : List AV} (h : ∀ w, w ∈ v :: st → wt m w) : ∀ w, w ∈ st → wt m w := fun w hw => h w (List.mem_cons_of_mem _ hw)
theorem sw_i {m : AM} {st : List AV} {x : Int32} (h : ∀ w, w ∈ st → wt m w) : ∀ w, w ∈ vi x :: st → wt m w := fun w hw => by
  rcases List.mem_cons.mp hw with e | e
  · subst e; trivial
  · exact h w e
theorem sw_l {m : AM} {st : List AV} {x : Int64} (h : ∀ w, w ∈ st → wt m w) : ∀ w, w ∈ vl x :: st → wt m w := fun w hw => by
  rcases List.mem_cons.mp hw with e | e
  · subst e; trivial
  · exact h w e
theorem sw_c {m : AM} {st : List AV} {v : AV} (hv : wt m v) (h : ∀ w, w ∈ st → wt m w) : ∀ w, w ∈ v :: st → wt m w := fun w hw => by
  rcases List.mem_cons.mp hw with e | e
  · subst e; exact hv
  · exact h w e
theorem LHm.lv {ad : Nat → Nat} {m : AM} {ls : Array Slot} {nL : Nat} {L : List (Option AV)} (h : LHm ad m ls nL L) : lv_has ls nL ((List.range L.length).filterMap (fun k => (L[k]?.join).map (fun v => (k, cvA ad v)))) := by
  refine ⟨h.1, h.2.1, fun q hq => ?_⟩
  obtain ⟨k, hk, e⟩ := List.mem_filterMap.mp hq
  cases hL : L[k]? with
  | none => rw [hL] at e; simp at e
  | some o =>
    cases o with
    | none => rw [hL] at e; simp at e
    | some v =>
      rw [hL] at e
      simp at e
      subst e
      exact (h.2.2 k v hL).1
theorem lv_mem {ad : Nat → Nat} {L : List (Option AV)} {k : Nat} {v : AV} (h : L[k]? = some (some v)) : (k, cvA ad v) ∈ (List.range L.length).filterMap (fun k => (L[k]?.join).map (fun v => (k, cvA ad v))) :=
  List.mem_filterMap.mpr ⟨k, List.mem_range.mpr (List.getElem?_eq_some_iff.mp h).1, by rw [h]; rfl⟩
/-- no long stands just ahead of place i -/
def noL (L : List (Option AV)) (i : Nat) : Prop := ∀ k x, k + 1 = i → L[k]? ≠ some (some (vl x))
theorem LHm.put {ad : Nat → Nat} {m : AM} {ls ls' : Array Slot} {nL i : Nat} {L : List (Option AV)} {v : AV} (h : LHm ad m ls nL L) (hn : noL L i) (hv : wt m v)
    (h' : lv_has ls' nL ((i, cvA ad v) :: ((List.range L.length).filterMap (fun k => (L[k]?.join).map (fun v => (k, cvA ad v)))).filter (fun q => !(q.1 == i) && !(q.1 + 1 == i && q.2.category == 2)))) : LHm ad m ls' nL (L.set i (some v)) := by
  refine ⟨h'.1, h'.2.1, fun k w hk => ?_⟩
  by_cases e : k = i
  · subst e
    have : k < L.length := by
      have := (List.getElem?_eq_some_iff.mp hk).1
      simpa using this
    rw [List.getElem?_set_self this] at hk
    cases hk
    exact ⟨h'.2.2 _ List.mem_cons_self, hv⟩
  · rw [List.getElem?_set_ne (Ne.symm e)] at hk
    refine ⟨h'.2.2 (k, cvA ad w) (List.mem_cons_of_mem _ (List.mem_filter.mpr ⟨lv_mem hk, ?_⟩)), (h.2.2 k w hk).2⟩
    simp only [Bool.and_eq_true, Bool.not_eq_true', beq_eq_false_iff_ne, ne_eq]
    refine ⟨e, ?_⟩
    rcases w with x | x | q
    · simp [cvA_cat]
    · have : k + 1 ≠ i := fun e2 => hn k x e2 hk
      simp [this]
    · simp [cvA_cat]
theorem LHm.putL {ad : Nat → Nat} {m : AM} {ls ls' : Array Slot} {nL i : Nat} {L : List (Option AV)} {x : Int64} (h : LHm ad m ls nL L) (hn : noL L i)
    (h' : lv_has ls' nL ((i, cvA ad (vl x)) :: ((List.range L.length).filterMap (fun k => (L[k]?.join).map (fun v => (k, cvA ad v)))).filter (fun q => !(q.1 == i) && (!(q.1 == i + 1) && !(q.1 + 1 == i && q.2.category == 2))))) : LHm ad m ls' nL ((L.set i (some (vl x))).set (i + 1) none) := by
  refine ⟨h'.1, h'.2.1, fun k w hk => ?_⟩
  by_cases e1 : k = i + 1
  · subst e1
    by_cases hlt : i + 1 < L.length
    · rw [List.getElem?_set_self (by simpa using hlt)] at hk
      cases hk
    · rw [List.getElem?_eq_none (by simp; omega)] at hk
      cases hk
  · rw [List.getElem?_set_ne (Ne.symm e1)] at hk
    by_cases e : k = i
    · subst e
      have : k < L.length := by
        have := (List.getElem?_eq_some_iff.mp hk).1
        simpa using this
      rw [List.getElem?_set_self this] at hk
      cases hk
      exact ⟨h'.2.2 _ List.mem_cons_self, trivial⟩
    · rw [List.getElem?_set_ne (Ne.symm e)] at hk
      refine ⟨h'.2.2 (k, cvA ad w) (List.mem_cons_of_mem _ (List.mem_filter.mpr ⟨lv_mem hk, ?_⟩)), (h.2.2 k w hk).2⟩
      simp only [Bool.and_eq_true, Bool.not_eq_true', beq_eq_false_iff_ne, ne_eq]
      refine ⟨e, e1, ?_⟩
      rcases w with y | y | q
      · simp [cvA_cat]
      · have : k + 1 ≠ i := fun e2 => hn k y e2 hk
        simp [this]
      · simp [cvA_cat]
theorem TY.nx {m : AM} (h : TY m) : 125 ≤ m.2.2.2 := h.1
/-- the flat world read, object or array -/
theorem InM.cell {G : va_G × (Nat → ClassId)} {ad0 : Nat → Nat} {nx0 : Nat} {A : Nat → Prop} {ad : Nat → Nat} {m : AM} {s : State} {H : Heap} {locs : List Loc} (_h : InM G ad0 nx0 A ad m s H locs) {t i : Nat} (hw : wt m (vr t i)) :
    (wsO G.2 ad m)[i]? = some (ad i, celT G.2 ad (m.1 i) (m.2.1 i) (m.2.2.1 i) t i) := by
  rw [wsO_get hw.2]
  unfold cel
  rw [hw.1]
theorem InM.setw {G : va_G × (Nat → ClassId)} {ad0 : Nat → Nat} {nx0 : Nat} {A : Nat → Prop} {ad : Nat → Nat} {m m' : AM} {s : State} {H H1 : Heap} {locs locs1 : List Loc} (h : InM G ad0 nx0 A ad m s H locs) {i : Nat} {e : va_E} (hn : m'.2.2.2 = m.2.2.2) (he : cel G.2 ad m' i = e) (ho : ∀ a, a ≠ i → cel G.2 ad m' a = cel G.2 ad m a) (hty : TY m')
    (hP : va_P G.1 vwCl ((wsO G.2 ad m).set i (ad i, e)) H1) (hD : va_D A ((wsO G.2 ad m).set i (ad i, e))) (hS : va_S A s.heap H1 locs1) : InM G ad0 nx0 A ad m' s H1 locs1 := by
  rw [wsO_set hn he ho] at hP hD
  exact ⟨h.1, hP, hD, hS, h.2.2.2.2.1, h.2.2.2.2.2.1, by rw [hn]; exact h.2.2.2.2.2.2.1, hty⟩
theorem b_iconst {E : ME} {Φ : Option AV → AM → Prop} {pc : Nat} {L : List (Option AV)} {st : List AV} {m : AM} {a : Nat × Nat} {n : Int} (v : Int32) (hd : decode E.1 pc = .ok (.iconst n, 1)) (hv : Int32.ofInt n = v) (k : B E Φ (pc + 1) L (vi v :: st) m a) : B E Φ pc L (st) m a := by
  intro p l e R s mi args below meth c G ad0 nx0 A ad H locs ls hOk hIn hL hst
  exact lv_iconst hOk.1 hOk.2.1 hd hv (k p l e R s mi args below meth c G ad0 nx0 A ad H locs ls hOk hIn hL (sw_i hst))
theorem b_bipush {E : ME} {Φ : Option AV → AM → Prop} {pc : Nat} {L : List (Option AV)} {st : List AV} {m : AM} {a : Nat × Nat} {n : Int} (v : Int32) (hd : decode E.1 pc = .ok (.bipush n, 2)) (hv : (Int8.ofInt n).toInt32 = v) (k : B E Φ (pc + 2) L (vi v :: st) m a) : B E Φ pc L (st) m a := by
  intro p l e R s mi args below meth c G ad0 nx0 A ad H locs ls hOk hIn hL hst
  exact lv_bipush hOk.1 hOk.2.1 hd hv (k p l e R s mi args below meth c G ad0 nx0 A ad H locs ls hOk hIn hL (sw_i hst))
theorem b_sipush {E : ME} {Φ : Option AV → AM → Prop} {pc : Nat} {L : List (Option AV)} {st : List AV} {m : AM} {a : Nat × Nat} {n : Int} (v : Int32) (hd : decode E.1 pc = .ok (.sipush n, 3)) (hv : (Int16.ofInt n).toInt32 = v) (k : B E Φ (pc + 3) L (vi v :: st) m a) : B E Φ pc L (st) m a := by
  intro p l e R s mi args below meth c G ad0 nx0 A ad H locs ls hOk hIn hL hst
  exact lv_sipush hOk.1 hOk.2.1 hd hv (k p l e R s mi args below meth c G ad0 nx0 A ad H locs ls hOk hIn hL (sw_i hst))
theorem b_lconst {E : ME} {Φ : Option AV → AM → Prop} {pc : Nat} {L : List (Option AV)} {st : List AV} {m : AM} {a : Nat × Nat} {n : Fin 2} (v : Int64) (hd : decode E.1 pc = .ok (.lconst n, 1)) (hv : Int64.ofNat (n : Nat) = v) (k : B E Φ (pc + 1) L (vl v :: st) m a) : B E Φ pc L (st) m a := by
  intro p l e R s mi args below meth c G ad0 nx0 A ad H locs ls hOk hIn hL hst
  exact lv_lconst hOk.1 hOk.2.1 hd hv (k p l e R s mi args below meth c G ad0 nx0 A ad H locs ls hOk hIn hL (sw_l hst))
theorem b_ldc {E : ME} {Φ : Option AV → AM → Prop} {pc : Nat} {L : List (Option AV)} {st : List AV} {m : AM} {a : Nat × Nat} {index : Nat} {v : Int32} (hc : Jvm.Cond.constant E.2.1 index v ∈ TB) (hd : decode E.1 pc = .ok (.ldc index, 2)) (k : B E Φ (pc + 2) L (vi v :: st) m a) : B E Φ pc L (st) m a := by
  intro p l e R s mi args below meth c G ad0 nx0 A ad H locs ls hOk hIn hL hst
  exact lv_ldc hOk.1 hOk.2.1 hOk.2.2.2.2.1 (hOk.2.2.2.2.2.1 _ hc) hd (k p l e R s mi args below meth c G ad0 nx0 A ad H locs ls hOk hIn hL (sw_i hst))
theorem b_ldcw {E : ME} {Φ : Option AV → AM → Prop} {pc : Nat} {L : List (Option AV)} {st : List AV} {m : AM} {a : Nat × Nat} {index : Nat} {v : Int32} (hc : Jvm.Cond.constant E.2.1 index v ∈ TB) (hd : decode E.1 pc = .ok (.ldc_w index, 3)) (k : B E Φ (pc + 3) L (vi v :: st) m a) : B E Φ pc L (st) m a := by
  intro p l e R s mi args below meth c G ad0 nx0 A ad H locs ls hOk hIn hL hst
  exact lv_ldcw hOk.1 hOk.2.1 hOk.2.2.2.2.1 (hOk.2.2.2.2.2.1 _ hc) hd (k p l e R s mi args below meth c G ad0 nx0 A ad H locs ls hOk hIn hL (sw_i hst))
theorem b_ldc2 {E : ME} {Φ : Option AV → AM → Prop} {pc : Nat} {L : List (Option AV)} {st : List AV} {m : AM} {a : Nat × Nat} {index : Nat} {v : Int64} (hc : Jvm.Cond.constantLong E.2.1 index v ∈ TB) (hd : decode E.1 pc = .ok (.ldc2_w index, 3)) (k : B E Φ (pc + 3) L (vl v :: st) m a) : B E Φ pc L (st) m a := by
  intro p l e R s mi args below meth c G ad0 nx0 A ad H locs ls hOk hIn hL hst
  exact lv_ldc2 hOk.1 hOk.2.1 hOk.2.2.2.2.1 (hOk.2.2.2.2.2.1 _ hc) hd (k p l e R s mi args below meth c G ad0 nx0 A ad H locs ls hOk hIn hL (sw_l hst))
theorem b_iadd {E : ME} {Φ : Option AV → AM → Prop} {pc : Nat} {L : List (Option AV)} {st : List AV} {m : AM} {a : Nat × Nat} {x y : Int32} (hd : decode E.1 pc = .ok (.iadd, 1)) (k : B E Φ (pc + 1) L (vi (x + y) :: st) m a) : B E Φ pc L (vi y :: vi x :: st) m a := by
  intro p l e R s mi args below meth c G ad0 nx0 A ad H locs ls hOk hIn hL hst
  exact lv_iadd hOk.1 hOk.2.1 hd (k p l e R s mi args below meth c G ad0 nx0 A ad H locs ls hOk hIn hL (sw_i (sw_tl (sw_tl hst))))
theorem b_isub {E : ME} {Φ : Option AV → AM → Prop} {pc : Nat} {L : List (Option AV)} {st : List AV} {m : AM} {a : Nat × Nat} {x y : Int32} (hd : decode E.1 pc = .ok (.isub, 1)) (k : B E Φ (pc + 1) L (vi (x - y) :: st) m a) : B E Φ pc L (vi y :: vi x :: st) m a := by
  intro p l e R s mi args below meth c G ad0 nx0 A ad H locs ls hOk hIn hL hst
  exact lv_isub hOk.1 hOk.2.1 hd (k p l e R s mi args below meth c G ad0 nx0 A ad H locs ls hOk hIn hL (sw_i (sw_tl (sw_tl hst))))
theorem b_imul {E : ME} {Φ : Option AV → AM → Prop} {pc : Nat} {L : List (Option AV)} {st : List AV} {m : AM} {a : Nat × Nat} {x y : Int32} (hd : decode E.1 pc = .ok (.imul, 1)) (k : B E Φ (pc + 1) L (vi (x * y) :: st) m a) : B E Φ pc L (vi y :: vi x :: st) m a := by
  intro p l e R s mi args below meth c G ad0 nx0 A ad H locs ls hOk hIn hL hst
  exact lv_imul hOk.1 hOk.2.1 hd (k p l e R s mi args below meth c G ad0 nx0 A ad H locs ls hOk hIn hL (sw_i (sw_tl (sw_tl hst))))
theorem b_iand {E : ME} {Φ : Option AV → AM → Prop} {pc : Nat} {L : List (Option AV)} {st : List AV} {m : AM} {a : Nat × Nat} {x y : Int32} (hd : decode E.1 pc = .ok (.iand, 1)) (k : B E Φ (pc + 1) L (vi (x &&& y) :: st) m a) : B E Φ pc L (vi y :: vi x :: st) m a := by
  intro p l e R s mi args below meth c G ad0 nx0 A ad H locs ls hOk hIn hL hst
  exact lv_iand hOk.1 hOk.2.1 hd (k p l e R s mi args below meth c G ad0 nx0 A ad H locs ls hOk hIn hL (sw_i (sw_tl (sw_tl hst))))
theorem b_ior {E : ME} {Φ : Option AV → AM → Prop} {pc : Nat} {L : List (Option AV)} {st : List AV} {m : AM} {a : Nat × Nat} {x y : Int32} (hd : decode E.1 pc = .ok (.ior, 1)) (k : B E Φ (pc + 1) L (vi (x ||| y) :: st) m a) : B E Φ pc L (vi y :: vi x :: st) m a := by
  intro p l e R s mi args below meth c G ad0 nx0 A ad H locs ls hOk hIn hL hst
  exact lv_ior hOk.1 hOk.2.1 hd (k p l e R s mi args below meth c G ad0 nx0 A ad H locs ls hOk hIn hL (sw_i (sw_tl (sw_tl hst))))
theorem b_ixor {E : ME} {Φ : Option AV → AM → Prop} {pc : Nat} {L : List (Option AV)} {st : List AV} {m : AM} {a : Nat × Nat} {x y : Int32} (hd : decode E.1 pc = .ok (.ixor, 1)) (k : B E Φ (pc + 1) L (vi (x ^^^ y) :: st) m a) : B E Φ pc L (vi y :: vi x :: st) m a := by
  intro p l e R s mi args below meth c G ad0 nx0 A ad H locs ls hOk hIn hL hst
  exact lv_ixor hOk.1 hOk.2.1 hd (k p l e R s mi args below meth c G ad0 nx0 A ad H locs ls hOk hIn hL (sw_i (sw_tl (sw_tl hst))))
theorem b_ishl {E : ME} {Φ : Option AV → AM → Prop} {pc : Nat} {L : List (Option AV)} {st : List AV} {m : AM} {a : Nat × Nat} {x y : Int32} (hd : decode E.1 pc = .ok (.ishl, 1)) (k : B E Φ (pc + 1) L (vi (x <<< (y &&& 31)) :: st) m a) : B E Φ pc L (vi y :: vi x :: st) m a := by
  intro p l e R s mi args below meth c G ad0 nx0 A ad H locs ls hOk hIn hL hst
  exact lv_ishl hOk.1 hOk.2.1 hd (k p l e R s mi args below meth c G ad0 nx0 A ad H locs ls hOk hIn hL (sw_i (sw_tl (sw_tl hst))))
theorem b_ishr {E : ME} {Φ : Option AV → AM → Prop} {pc : Nat} {L : List (Option AV)} {st : List AV} {m : AM} {a : Nat × Nat} {x y : Int32} (hd : decode E.1 pc = .ok (.ishr, 1)) (k : B E Φ (pc + 1) L (vi (x >>> (y &&& 31)) :: st) m a) : B E Φ pc L (vi y :: vi x :: st) m a := by
  intro p l e R s mi args below meth c G ad0 nx0 A ad H locs ls hOk hIn hL hst
  exact lv_ishr hOk.1 hOk.2.1 hd (k p l e R s mi args below meth c G ad0 nx0 A ad H locs ls hOk hIn hL (sw_i (sw_tl (sw_tl hst))))
theorem b_idiv {E : ME} {Φ : Option AV → AM → Prop} {pc : Nat} {L : List (Option AV)} {st : List AV} {m : AM} {a : Nat × Nat} {x y : Int32} (hd : decode E.1 pc = .ok (.idiv, 1)) (hy : ¬ y = 0) (k : B E Φ (pc + 1) L (vi (x / y) :: st) m a) : B E Φ pc L (vi y :: vi x :: st) m a := by
  intro p l e R s mi args below meth c G ad0 nx0 A ad H locs ls hOk hIn hL hst
  exact lv_idiv hOk.1 hOk.2.1 hd hy (k p l e R s mi args below meth c G ad0 nx0 A ad H locs ls hOk hIn hL (sw_i (sw_tl (sw_tl hst))))
theorem b_irem {E : ME} {Φ : Option AV → AM → Prop} {pc : Nat} {L : List (Option AV)} {st : List AV} {m : AM} {a : Nat × Nat} {x y : Int32} (hd : decode E.1 pc = .ok (.irem, 1)) (hy : ¬ y = 0) (k : B E Φ (pc + 1) L (vi (x - x / y * y) :: st) m a) : B E Φ pc L (vi y :: vi x :: st) m a := by
  intro p l e R s mi args below meth c G ad0 nx0 A ad H locs ls hOk hIn hL hst
  exact lv_irem hOk.1 hOk.2.1 hd hy (k p l e R s mi args below meth c G ad0 nx0 A ad H locs ls hOk hIn hL (sw_i (sw_tl (sw_tl hst))))
theorem b_ladd {E : ME} {Φ : Option AV → AM → Prop} {pc : Nat} {L : List (Option AV)} {st : List AV} {m : AM} {a : Nat × Nat} {x y : Int64} (hd : decode E.1 pc = .ok (.ladd, 1)) (k : B E Φ (pc + 1) L (vl (x + y) :: st) m a) : B E Φ pc L (vl y :: vl x :: st) m a := by
  intro p l e R s mi args below meth c G ad0 nx0 A ad H locs ls hOk hIn hL hst
  exact lv_ladd hOk.1 hOk.2.1 hd (k p l e R s mi args below meth c G ad0 nx0 A ad H locs ls hOk hIn hL (sw_l (sw_tl (sw_tl hst))))
theorem b_lsub {E : ME} {Φ : Option AV → AM → Prop} {pc : Nat} {L : List (Option AV)} {st : List AV} {m : AM} {a : Nat × Nat} {x y : Int64} (hd : decode E.1 pc = .ok (.lsub, 1)) (k : B E Φ (pc + 1) L (vl (x - y) :: st) m a) : B E Φ pc L (vl y :: vl x :: st) m a := by
  intro p l e R s mi args below meth c G ad0 nx0 A ad H locs ls hOk hIn hL hst
  exact lv_lsub hOk.1 hOk.2.1 hd (k p l e R s mi args below meth c G ad0 nx0 A ad H locs ls hOk hIn hL (sw_l (sw_tl (sw_tl hst))))
theorem b_lmul {E : ME} {Φ : Option AV → AM → Prop} {pc : Nat} {L : List (Option AV)} {st : List AV} {m : AM} {a : Nat × Nat} {x y : Int64} (hd : decode E.1 pc = .ok (.lmul, 1)) (k : B E Φ (pc + 1) L (vl (x * y) :: st) m a) : B E Φ pc L (vl y :: vl x :: st) m a := by
  intro p l e R s mi args below meth c G ad0 nx0 A ad H locs ls hOk hIn hL hst
  exact lv_lmul hOk.1 hOk.2.1 hd (k p l e R s mi args below meth c G ad0 nx0 A ad H locs ls hOk hIn hL (sw_l (sw_tl (sw_tl hst))))
theorem b_lor {E : ME} {Φ : Option AV → AM → Prop} {pc : Nat} {L : List (Option AV)} {st : List AV} {m : AM} {a : Nat × Nat} {x y : Int64} (hd : decode E.1 pc = .ok (.lor, 1)) (k : B E Φ (pc + 1) L (vl (x ||| y) :: st) m a) : B E Φ pc L (vl y :: vl x :: st) m a := by
  intro p l e R s mi args below meth c G ad0 nx0 A ad H locs ls hOk hIn hL hst
  exact lv_lor hOk.1 hOk.2.1 hd (k p l e R s mi args below meth c G ad0 nx0 A ad H locs ls hOk hIn hL (sw_l (sw_tl (sw_tl hst))))
theorem b_land {E : ME} {Φ : Option AV → AM → Prop} {pc : Nat} {L : List (Option AV)} {st : List AV} {m : AM} {a : Nat × Nat} {x y : Int64} (hd : decode E.1 pc = .ok (.land, 1)) (k : B E Φ (pc + 1) L (vl (x &&& y) :: st) m a) : B E Φ pc L (vl y :: vl x :: st) m a := by
  intro p l e R s mi args below meth c G ad0 nx0 A ad H locs ls hOk hIn hL hst
  exact lv_land hOk.1 hOk.2.1 hd (k p l e R s mi args below meth c G ad0 nx0 A ad H locs ls hOk hIn hL (sw_l (sw_tl (sw_tl hst))))
theorem b_ldiv {E : ME} {Φ : Option AV → AM → Prop} {pc : Nat} {L : List (Option AV)} {st : List AV} {m : AM} {a : Nat × Nat} {x y : Int64} (hd : decode E.1 pc = .ok (.ldiv, 1)) (hy : ¬ y = 0) (k : B E Φ (pc + 1) L (vl (x / y) :: st) m a) : B E Φ pc L (vl y :: vl x :: st) m a := by
  intro p l e R s mi args below meth c G ad0 nx0 A ad H locs ls hOk hIn hL hst
  exact lv_ldiv hOk.1 hOk.2.1 hd hy (k p l e R s mi args below meth c G ad0 nx0 A ad H locs ls hOk hIn hL (sw_l (sw_tl (sw_tl hst))))
theorem b_lrem {E : ME} {Φ : Option AV → AM → Prop} {pc : Nat} {L : List (Option AV)} {st : List AV} {m : AM} {a : Nat × Nat} {x y : Int64} (hd : decode E.1 pc = .ok (.lrem, 1)) (hy : ¬ y = 0) (k : B E Φ (pc + 1) L (vl (x - x / y * y) :: st) m a) : B E Φ pc L (vl y :: vl x :: st) m a := by
  intro p l e R s mi args below meth c G ad0 nx0 A ad H locs ls hOk hIn hL hst
  exact lv_lrem hOk.1 hOk.2.1 hd hy (k p l e R s mi args below meth c G ad0 nx0 A ad H locs ls hOk hIn hL (sw_l (sw_tl (sw_tl hst))))
theorem b_ineg {E : ME} {Φ : Option AV → AM → Prop} {pc : Nat} {L : List (Option AV)} {st : List AV} {m : AM} {a : Nat × Nat} {x : Int32} (hd : decode E.1 pc = .ok (.ineg, 1)) (k : B E Φ (pc + 1) L (vi (-x) :: st) m a) : B E Φ pc L (vi x :: st) m a := by
  intro p l e R s mi args below meth c G ad0 nx0 A ad H locs ls hOk hIn hL hst
  exact lv_ineg hOk.1 hOk.2.1 hd (k p l e R s mi args below meth c G ad0 nx0 A ad H locs ls hOk hIn hL (sw_i (sw_tl hst)))
theorem b_iushr {E : ME} {Φ : Option AV → AM → Prop} {pc : Nat} {L : List (Option AV)} {st : List AV} {m : AM} {a : Nat × Nat} {x y : Int32} (hd : decode E.1 pc = .ok (.iushr, 1)) (k : B E Φ (pc + 1) L (vi ((x.toUInt32 >>> (y.toUInt32 &&& Int32.toUInt32 31)).toInt32) :: st) m a) : B E Φ pc L (vi y :: vi x :: st) m a := by
  intro p l e R s mi args below meth c G ad0 nx0 A ad H locs ls hOk hIn hL hst
  exact lv_iushr hOk.1 hOk.2.1 hd rfl (k p l e R s mi args below meth c G ad0 nx0 A ad H locs ls hOk hIn hL (sw_i (sw_tl (sw_tl hst))))
theorem b_lushr {E : ME} {Φ : Option AV → AM → Prop} {pc : Nat} {L : List (Option AV)} {st : List AV} {m : AM} {a : Nat × Nat} {x : Int64} {y : Int32} (hd : decode E.1 pc = .ok (.lushr, 1)) (k : B E Φ (pc + 1) L (vl ((x.toUInt64 >>> (y.toInt64.toUInt64 &&& Int64.toUInt64 63)).toInt64) :: st) m a) : B E Φ pc L (vi y :: vl x :: st) m a := by
  intro p l e R s mi args below meth c G ad0 nx0 A ad H locs ls hOk hIn hL hst
  exact lv_lushr hOk.1 hOk.2.1 hd rfl (k p l e R s mi args below meth c G ad0 nx0 A ad H locs ls hOk hIn hL (sw_l (sw_tl (sw_tl hst))))
theorem b_lshl {E : ME} {Φ : Option AV → AM → Prop} {pc : Nat} {L : List (Option AV)} {st : List AV} {m : AM} {a : Nat × Nat} {x : Int64} {y : Int32} (hd : decode E.1 pc = .ok (.lshl, 1)) (k : B E Φ (pc + 1) L (vl (x <<< (y.toInt64 &&& 63)) :: st) m a) : B E Φ pc L (vi y :: vl x :: st) m a := by
  intro p l e R s mi args below meth c G ad0 nx0 A ad H locs ls hOk hIn hL hst
  exact lv_lshl hOk.1 hOk.2.1 hd rfl (k p l e R s mi args below meth c G ad0 nx0 A ad H locs ls hOk hIn hL (sw_l (sw_tl (sw_tl hst))))
theorem b_i2l {E : ME} {Φ : Option AV → AM → Prop} {pc : Nat} {L : List (Option AV)} {st : List AV} {m : AM} {a : Nat × Nat} {x : Int32} (hd : decode E.1 pc = .ok (.i2l, 1)) (k : B E Φ (pc + 1) L (vl (x.toInt64) :: st) m a) : B E Φ pc L (vi x :: st) m a := by
  intro p l e R s mi args below meth c G ad0 nx0 A ad H locs ls hOk hIn hL hst
  exact lv_i2l hOk.1 hOk.2.1 hd rfl (k p l e R s mi args below meth c G ad0 nx0 A ad H locs ls hOk hIn hL (sw_l (sw_tl hst)))
theorem b_l2i {E : ME} {Φ : Option AV → AM → Prop} {pc : Nat} {L : List (Option AV)} {st : List AV} {m : AM} {a : Nat × Nat} {x : Int64} (hd : decode E.1 pc = .ok (.l2i, 1)) (k : B E Φ (pc + 1) L (vi (x.toInt32) :: st) m a) : B E Φ pc L (vl x :: st) m a := by
  intro p l e R s mi args below meth c G ad0 nx0 A ad H locs ls hOk hIn hL hst
  exact lv_l2i hOk.1 hOk.2.1 hd rfl (k p l e R s mi args below meth c G ad0 nx0 A ad H locs ls hOk hIn hL (sw_i (sw_tl hst)))
theorem b_i2b {E : ME} {Φ : Option AV → AM → Prop} {pc : Nat} {L : List (Option AV)} {st : List AV} {m : AM} {a : Nat × Nat} {x : Int32} (hd : decode E.1 pc = .ok (.i2b, 1)) (k : B E Φ (pc + 1) L (vi (x.toInt8.toInt32) :: st) m a) : B E Φ pc L (vi x :: st) m a := by
  intro p l e R s mi args below meth c G ad0 nx0 A ad H locs ls hOk hIn hL hst
  exact lv_i2b hOk.1 hOk.2.1 hd rfl (k p l e R s mi args below meth c G ad0 nx0 A ad H locs ls hOk hIn hL (sw_i (sw_tl hst)))
theorem b_i2s {E : ME} {Φ : Option AV → AM → Prop} {pc : Nat} {L : List (Option AV)} {st : List AV} {m : AM} {a : Nat × Nat} {x : Int32} (hd : decode E.1 pc = .ok (.i2s, 1)) (k : B E Φ (pc + 1) L (vi (x.toInt16.toInt32) :: st) m a) : B E Φ pc L (vi x :: st) m a := by
  intro p l e R s mi args below meth c G ad0 nx0 A ad H locs ls hOk hIn hL hst
  exact lv_i2s hOk.1 hOk.2.1 hd rfl (k p l e R s mi args below meth c G ad0 nx0 A ad H locs ls hOk hIn hL (sw_i (sw_tl hst)))
theorem b_lcmp {E : ME} {Φ : Option AV → AM → Prop} {pc : Nat} {L : List (Option AV)} {st : List AV} {m : AM} {a : Nat × Nat} {x y : Int64} (hd : decode E.1 pc = .ok (.lcmp, 1)) (k : B E Φ (pc + 1) L (vi (lg_cmp x y) :: st) m a) : B E Φ pc L (vl y :: vl x :: st) m a := by
  intro p l e R s mi args below meth c G ad0 nx0 A ad H locs ls hOk hIn hL hst
  exact W.lcmp hOk.1 hOk.2.1 hd (k p l e R s mi args below meth c G ad0 nx0 A ad H locs ls hOk hIn hL (sw_i (sw_tl (sw_tl hst))))
end
section
/-! ROWS, second part: branches, locals, returns, arrays. -/
theorem KDl_len : KDl.length = 125 := by decide +kernel
theorem KD_ge {i : Nat} (h : 125 ≤ i) : KD i = 12 := by
  unfold KD
  rw [List.getD_eq_getElem?_getD, List.getElem?_eq_none (by rw [KDl_len]; exact h)]
  rfl
theorem b_if_eq {E : ME} {Φ : Option AV → AM → Prop} {pc : Nat} {L : List (Option AV)} {st : List AV} {m : AM} {a : Nat × Nat} {x : Int32} {off : Int} (tgt : Nat) (hd : decode E.1 pc = .ok (.ifCond .eq off, 3)) (ht : (pc : Int) + off = (tgt : Int)) (kt : x = 0 → B E Φ tgt L st m a) (kf : ¬ x = 0 → B E Φ (pc + 3) L st m a) : B E Φ pc (L) (vi x :: st) m a := by
  intro p l e R s mi args below meth c G ad0 nx0 A ad H locs ls hOk hIn hL hst
  exact lv_if_eq hOk.1 hOk.2.1 hd ht (fun h => kt h p l e R s mi args below meth c G ad0 nx0 A ad H locs ls hOk hIn hL (sw_tl hst)) (fun h => kf h p l e R s mi args below meth c G ad0 nx0 A ad H locs ls hOk hIn hL (sw_tl hst))
theorem b_if_ne {E : ME} {Φ : Option AV → AM → Prop} {pc : Nat} {L : List (Option AV)} {st : List AV} {m : AM} {a : Nat × Nat} {x : Int32} {off : Int} (tgt : Nat) (hd : decode E.1 pc = .ok (.ifCond .ne off, 3)) (ht : (pc : Int) + off = (tgt : Int)) (kt : ¬ x = 0 → B E Φ tgt L st m a) (kf : x = 0 → B E Φ (pc + 3) L st m a) : B E Φ pc (L) (vi x :: st) m a := by
  intro p l e R s mi args below meth c G ad0 nx0 A ad H locs ls hOk hIn hL hst
  exact lv_if_ne hOk.1 hOk.2.1 hd ht (fun h => kt h p l e R s mi args below meth c G ad0 nx0 A ad H locs ls hOk hIn hL (sw_tl hst)) (fun h => kf h p l e R s mi args below meth c G ad0 nx0 A ad H locs ls hOk hIn hL (sw_tl hst))
theorem b_if_lt {E : ME} {Φ : Option AV → AM → Prop} {pc : Nat} {L : List (Option AV)} {st : List AV} {m : AM} {a : Nat × Nat} {x : Int32} {off : Int} (tgt : Nat) (hd : decode E.1 pc = .ok (.ifCond .lt off, 3)) (ht : (pc : Int) + off = (tgt : Int)) (kt : x < 0 → B E Φ tgt L st m a) (kf : ¬ x < 0 → B E Φ (pc + 3) L st m a) : B E Φ pc (L) (vi x :: st) m a := by
  intro p l e R s mi args below meth c G ad0 nx0 A ad H locs ls hOk hIn hL hst
  exact lv_if_lt hOk.1 hOk.2.1 hd ht (fun h => kt h p l e R s mi args below meth c G ad0 nx0 A ad H locs ls hOk hIn hL (sw_tl hst)) (fun h => kf h p l e R s mi args below meth c G ad0 nx0 A ad H locs ls hOk hIn hL (sw_tl hst))
theorem b_if_ge {E : ME} {Φ : Option AV → AM → Prop} {pc : Nat} {L : List (Option AV)} {st : List AV} {m : AM} {a : Nat × Nat} {x : Int32} {off : Int} (tgt : Nat) (hd : decode E.1 pc = .ok (.ifCond .ge off, 3)) (ht : (pc : Int) + off = (tgt : Int)) (kt : 0 ≤ x → B E Φ tgt L st m a) (kf : ¬ 0 ≤ x → B E Φ (pc + 3) L st m a) : B E Φ pc (L) (vi x :: st) m a := by
  intro p l e R s mi args below meth c G ad0 nx0 A ad H locs ls hOk hIn hL hst
  exact lv_if_ge hOk.1 hOk.2.1 hd ht (fun h => kt h p l e R s mi args below meth c G ad0 nx0 A ad H locs ls hOk hIn hL (sw_tl hst)) (fun h => kf h p l e R s mi args below meth c G ad0 nx0 A ad H locs ls hOk hIn hL (sw_tl hst))
theorem b_if_gt {E : ME} {Φ : Option AV → AM → Prop} {pc : Nat} {L : List (Option AV)} {st : List AV} {m : AM} {a : Nat × Nat} {x : Int32} {off : Int} (tgt : Nat) (hd : decode E.1 pc = .ok (.ifCond .gt off, 3)) (ht : (pc : Int) + off = (tgt : Int)) (kt : 0 < x → B E Φ tgt L st m a) (kf : ¬ 0 < x → B E Φ (pc + 3) L st m a) : B E Φ pc (L) (vi x :: st) m a := by
  intro p l e R s mi args below meth c G ad0 nx0 A ad H locs ls hOk hIn hL hst
  exact lv_if_gt hOk.1 hOk.2.1 hd ht (fun h => kt h p l e R s mi args below meth c G ad0 nx0 A ad H locs ls hOk hIn hL (sw_tl hst)) (fun h => kf h p l e R s mi args below meth c G ad0 nx0 A ad H locs ls hOk hIn hL (sw_tl hst))
theorem b_if_le {E : ME} {Φ : Option AV → AM → Prop} {pc : Nat} {L : List (Option AV)} {st : List AV} {m : AM} {a : Nat × Nat} {x : Int32} {off : Int} (tgt : Nat) (hd : decode E.1 pc = .ok (.ifCond .le off, 3)) (ht : (pc : Int) + off = (tgt : Int)) (kt : x ≤ 0 → B E Φ tgt L st m a) (kf : ¬ x ≤ 0 → B E Φ (pc + 3) L st m a) : B E Φ pc (L) (vi x :: st) m a := by
  intro p l e R s mi args below meth c G ad0 nx0 A ad H locs ls hOk hIn hL hst
  exact lv_if_le hOk.1 hOk.2.1 hd ht (fun h => kt h p l e R s mi args below meth c G ad0 nx0 A ad H locs ls hOk hIn hL (sw_tl hst)) (fun h => kf h p l e R s mi args below meth c G ad0 nx0 A ad H locs ls hOk hIn hL (sw_tl hst))
theorem b_icmp_eq {E : ME} {Φ : Option AV → AM → Prop} {pc : Nat} {L : List (Option AV)} {st : List AV} {m : AM} {a : Nat × Nat} {x y : Int32} {off : Int} (tgt : Nat) (hd : decode E.1 pc = .ok (.if_icmp .eq off, 3)) (ht : (pc : Int) + off = (tgt : Int)) (kt : x = y → B E Φ tgt L st m a) (kf : ¬ x = y → B E Φ (pc + 3) L st m a) : B E Φ pc (L) (vi y :: vi x :: st) m a := by
  intro p l e R s mi args below meth c G ad0 nx0 A ad H locs ls hOk hIn hL hst
  exact lv_icmp_eq hOk.1 hOk.2.1 hd ht (fun h => kt h p l e R s mi args below meth c G ad0 nx0 A ad H locs ls hOk hIn hL (sw_tl (sw_tl hst))) (fun h => kf h p l e R s mi args below meth c G ad0 nx0 A ad H locs ls hOk hIn hL (sw_tl (sw_tl hst)))
theorem b_icmp_ne {E : ME} {Φ : Option AV → AM → Prop} {pc : Nat} {L : List (Option AV)} {st : List AV} {m : AM} {a : Nat × Nat} {x y : Int32} {off : Int} (tgt : Nat) (hd : decode E.1 pc = .ok (.if_icmp .ne off, 3)) (ht : (pc : Int) + off = (tgt : Int)) (kt : ¬ x = y → B E Φ tgt L st m a) (kf : x = y → B E Φ (pc + 3) L st m a) : B E Φ pc (L) (vi y :: vi x :: st) m a := by
  intro p l e R s mi args below meth c G ad0 nx0 A ad H locs ls hOk hIn hL hst
  exact lv_icmp_ne hOk.1 hOk.2.1 hd ht (fun h => kt h p l e R s mi args below meth c G ad0 nx0 A ad H locs ls hOk hIn hL (sw_tl (sw_tl hst))) (fun h => kf h p l e R s mi args below meth c G ad0 nx0 A ad H locs ls hOk hIn hL (sw_tl (sw_tl hst)))
theorem b_icmp_lt {E : ME} {Φ : Option AV → AM → Prop} {pc : Nat} {L : List (Option AV)} {st : List AV} {m : AM} {a : Nat × Nat} {x y : Int32} {off : Int} (tgt : Nat) (hd : decode E.1 pc = .ok (.if_icmp .lt off, 3)) (ht : (pc : Int) + off = (tgt : Int)) (kt : x < y → B E Φ tgt L st m a) (kf : ¬ x < y → B E Φ (pc + 3) L st m a) : B E Φ pc (L) (vi y :: vi x :: st) m a := by
  intro p l e R s mi args below meth c G ad0 nx0 A ad H locs ls hOk hIn hL hst
  exact lv_icmp_lt hOk.1 hOk.2.1 hd ht (fun h => kt h p l e R s mi args below meth c G ad0 nx0 A ad H locs ls hOk hIn hL (sw_tl (sw_tl hst))) (fun h => kf h p l e R s mi args below meth c G ad0 nx0 A ad H locs ls hOk hIn hL (sw_tl (sw_tl hst)))
theorem b_icmp_ge {E : ME} {Φ : Option AV → AM → Prop} {pc : Nat} {L : List (Option AV)} {st : List AV} {m : AM} {a : Nat × Nat} {x y : Int32} {off : Int} (tgt : Nat) (hd : decode E.1 pc = .ok (.if_icmp .ge off, 3)) (ht : (pc : Int) + off = (tgt : Int)) (kt : y ≤ x → B E Φ tgt L st m a) (kf : ¬ y ≤ x → B E Φ (pc + 3) L st m a) : B E Φ pc (L) (vi y :: vi x :: st) m a := by
  intro p l e R s mi args below meth c G ad0 nx0 A ad H locs ls hOk hIn hL hst
  exact lv_icmp_ge hOk.1 hOk.2.1 hd ht (fun h => kt h p l e R s mi args below meth c G ad0 nx0 A ad H locs ls hOk hIn hL (sw_tl (sw_tl hst))) (fun h => kf h p l e R s mi args below meth c G ad0 nx0 A ad H locs ls hOk hIn hL (sw_tl (sw_tl hst)))
theorem b_icmp_gt {E : ME} {Φ : Option AV → AM → Prop} {pc : Nat} {L : List (Option AV)} {st : List AV} {m : AM} {a : Nat × Nat} {x y : Int32} {off : Int} (tgt : Nat) (hd : decode E.1 pc = .ok (.if_icmp .gt off, 3)) (ht : (pc : Int) + off = (tgt : Int)) (kt : y < x → B E Φ tgt L st m a) (kf : ¬ y < x → B E Φ (pc + 3) L st m a) : B E Φ pc (L) (vi y :: vi x :: st) m a := by
  intro p l e R s mi args below meth c G ad0 nx0 A ad H locs ls hOk hIn hL hst
  exact lv_icmp_gt hOk.1 hOk.2.1 hd ht (fun h => kt h p l e R s mi args below meth c G ad0 nx0 A ad H locs ls hOk hIn hL (sw_tl (sw_tl hst))) (fun h => kf h p l e R s mi args below meth c G ad0 nx0 A ad H locs ls hOk hIn hL (sw_tl (sw_tl hst)))
theorem b_icmp_le {E : ME} {Φ : Option AV → AM → Prop} {pc : Nat} {L : List (Option AV)} {st : List AV} {m : AM} {a : Nat × Nat} {x y : Int32} {off : Int} (tgt : Nat) (hd : decode E.1 pc = .ok (.if_icmp .le off, 3)) (ht : (pc : Int) + off = (tgt : Int)) (kt : x ≤ y → B E Φ tgt L st m a) (kf : ¬ x ≤ y → B E Φ (pc + 3) L st m a) : B E Φ pc (L) (vi y :: vi x :: st) m a := by
  intro p l e R s mi args below meth c G ad0 nx0 A ad H locs ls hOk hIn hL hst
  exact lv_icmp_le hOk.1 hOk.2.1 hd ht (fun h => kt h p l e R s mi args below meth c G ad0 nx0 A ad H locs ls hOk hIn hL (sw_tl (sw_tl hst))) (fun h => kf h p l e R s mi args below meth c G ad0 nx0 A ad H locs ls hOk hIn hL (sw_tl (sw_tl hst)))
theorem b_goto {E : ME} {Φ : Option AV → AM → Prop} {pc : Nat} {L : List (Option AV)} {st : List AV} {m : AM} {a : Nat × Nat} {off : Int} (tgt : Nat) (hd : decode E.1 pc = .ok (.goto off, 3)) (ht : (pc : Int) + off = (tgt : Int)) (k : B E Φ tgt L st m a) : B E Φ pc (L) (st) m a := by
  intro p l e R s mi args below meth c G ad0 nx0 A ad H locs ls hOk hIn hL hst
  exact lv_goto hOk.1 hOk.2.1 hd ht (k p l e R s mi args below meth c G ad0 nx0 A ad H locs ls hOk hIn hL hst)
theorem b_tableIn {E : ME} {Φ : Option AV → AM → Prop} {pc : Nat} {L : List (Option AV)} {st : List AV} {m : AM} {a : Nat × Nat} {dflt lo hi : Int} {offs : Array Int} {len : Nat} {x : Int32} {off : Int} (tgt : Nat) (hd : decode E.1 pc = .ok (.tableswitch dflt lo hi offs, len)) (h1 : ¬ x.toInt < lo) (h2 : ¬ hi < x.toInt) (ho : offs[(x.toInt - lo).toNat]? = some off) (ht : (pc : Int) + off = (tgt : Int)) (k : B E Φ tgt L st m a) : B E Φ pc (L) (vi x :: st) m a := by
  intro p l e R s mi args below meth c G ad0 nx0 A ad H locs ls hOk hIn hL hst
  exact lv_tableIn hOk.1 hOk.2.1 hd h1 h2 ho ht (k p l e R s mi args below meth c G ad0 nx0 A ad H locs ls hOk hIn hL (sw_tl hst))
theorem b_tableOut {E : ME} {Φ : Option AV → AM → Prop} {pc : Nat} {L : List (Option AV)} {st : List AV} {m : AM} {a : Nat × Nat} {dflt lo hi : Int} {offs : Array Int} {len : Nat} {x : Int32} (tgt : Nat) (hd : decode E.1 pc = .ok (.tableswitch dflt lo hi offs, len)) (h : x.toInt < lo ∨ hi < x.toInt) (ht : (pc : Int) + dflt = (tgt : Int)) (k : B E Φ tgt L st m a) : B E Φ pc (L) (vi x :: st) m a := by
  intro p l e R s mi args below meth c G ad0 nx0 A ad H locs ls hOk hIn hL hst
  exact lv_tableOut hOk.1 hOk.2.1 hd h ht (k p l e R s mi args below meth c G ad0 nx0 A ad H locs ls hOk hIn hL (sw_tl hst))
theorem b_lookup {E : ME} {Φ : Option AV → AM → Prop} {pc : Nat} {L : List (Option AV)} {st : List AV} {m : AM} {a : Nat × Nat} {dflt : Int} {ps : Array (Int × Int)} {len : Nat} {x : Int32} {off : Int} (tgt : Nat) (hd : decode E.1 pc = .ok (.lookupswitch dflt ps, len)) (hp : (ps.toList.zip (ps.toList.drop 1)).all (fun (a, next) => a.1 < next.1) = true) (ho : Op.lookupswitch.offset ps.toList dflt x.toInt = off) (ht : (pc : Int) + off = (tgt : Int)) (k : B E Φ tgt L st m a) : B E Φ pc (L) (vi x :: st) m a := by
  intro p l e R s mi args below meth c G ad0 nx0 A ad H locs ls hOk hIn hL hst
  exact lv_lookup hOk.1 hOk.2.1 hd hp ho ht (k p l e R s mi args below meth c G ad0 nx0 A ad H locs ls hOk hIn hL (sw_tl hst))
theorem b_dup_i {E : ME} {Φ : Option AV → AM → Prop} {pc : Nat} {L : List (Option AV)} {st : List AV} {m : AM} {a : Nat × Nat} {x : Int32} (hd : decode E.1 pc = .ok (.dup, 1)) (k : B E Φ (pc + 1) L (vi x :: vi x :: st) m a) : B E Φ pc (L) (vi x :: st) m a := by
  intro p l e R s mi args below meth c G ad0 nx0 A ad H locs ls hOk hIn hL hst
  exact lv_dup hOk.1 hOk.2.1 hd rfl (k p l e R s mi args below meth c G ad0 nx0 A ad H locs ls hOk hIn hL (sw_i hst))
theorem b_dup_r {E : ME} {Φ : Option AV → AM → Prop} {pc : Nat} {L : List (Option AV)} {st : List AV} {m : AM} {a : Nat × Nat} {t i : Nat} (hd : decode E.1 pc = .ok (.dup, 1)) (k : B E Φ (pc + 1) L (vr t i :: vr t i :: st) m a) : B E Φ pc (L) (vr t i :: st) m a := by
  intro p l e R s mi args below meth c G ad0 nx0 A ad H locs ls hOk hIn hL hst
  exact lv_dup hOk.1 hOk.2.1 hd rfl (k p l e R s mi args below meth c G ad0 nx0 A ad H locs ls hOk hIn hL (sw_c (hst _ List.mem_cons_self) hst))
theorem b_dup2 {E : ME} {Φ : Option AV → AM → Prop} {pc : Nat} {L : List (Option AV)} {st : List AV} {m : AM} {a : Nat × Nat} {t i : Nat} {x : Int32} (hd : decode E.1 pc = .ok (.dup2, 1)) (k : B E Φ (pc + 1) L (vi x :: vr t i :: vi x :: vr t i :: st) m a) : B E Φ pc (L) (vi x :: vr t i :: st) m a := by
  intro p l e R s mi args below meth c G ad0 nx0 A ad H locs ls hOk hIn hL hst
  exact lv_dup2_11 hOk.1 hOk.2.1 hd rfl rfl (k p l e R s mi args below meth c G ad0 nx0 A ad H locs ls hOk hIn hL (sw_i (sw_c (hst _ (List.mem_cons_of_mem _ List.mem_cons_self)) hst)))
theorem b_pop_i {E : ME} {Φ : Option AV → AM → Prop} {pc : Nat} {L : List (Option AV)} {st : List AV} {m : AM} {a : Nat × Nat} {x : Int32} (hd : decode E.1 pc = .ok (.pop, 1)) (k : B E Φ (pc + 1) L st m a) : B E Φ pc (L) (vi x :: st) m a := by
  intro p l e R s mi args below meth c G ad0 nx0 A ad H locs ls hOk hIn hL hst
  exact lv_pop hOk.1 hOk.2.1 hd rfl (k p l e R s mi args below meth c G ad0 nx0 A ad H locs ls hOk hIn hL (sw_tl hst))
theorem b_dup_x1 {E : ME} {Φ : Option AV → AM → Prop} {pc : Nat} {L : List (Option AV)} {st : List AV} {m : AM} {a : Nat × Nat} {t i : Nat} {x : Int32} (hd : decode E.1 pc = .ok (.dup_x1, 1)) (k : B E Φ (pc + 1) L (vi x :: vr t i :: vi x :: st) m a) : B E Φ pc (L) (vi x :: vr t i :: st) m a := by
  intro p l e R s mi args below meth c G ad0 nx0 A ad H locs ls hOk hIn hL hst
  exact lv_dup_x1 hOk.1 hOk.2.1 hd rfl rfl (k p l e R s mi args below meth c G ad0 nx0 A ad H locs ls hOk hIn hL (sw_i (sw_c (hst _ (List.mem_cons_of_mem _ List.mem_cons_self)) (sw_i (sw_tl (sw_tl hst))))))
theorem b_iloadN {E : ME} {Φ : Option AV → AM → Prop} {pc : Nat} {L : List (Option AV)} {st : List AV} {m : AM} {a : Nat × Nat} {k4 : Fin 4} {x : Int32} (j : Nat) (hd : decode E.1 pc = .ok (.iload_n k4, 1)) (hj : (k4 : Nat) = j) (hl : L[j]? = some (some (vi x))) (k : B E Φ (pc + 1) L (vi x :: st) m a) : B E Φ pc (L) (st) m a := by
  intro p l e R s mi args below meth c G ad0 nx0 A ad H locs ls hOk hIn hL hst
  exact lv_iload_n hOk.1 hOk.2.1 hd hj (hL.2.2 _ _ hl).1 (k p l e R s mi args below meth c G ad0 nx0 A ad H locs ls hOk hIn hL (sw_i hst))
theorem b_iloadG {E : ME} {Φ : Option AV → AM → Prop} {pc : Nat} {L : List (Option AV)} {st : List AV} {m : AM} {a : Nat × Nat} {x : Int32} (j : Nat) (hd : decode E.1 pc = .ok (.iload j, 2)) (hl : L[j]? = some (some (vi x))) (k : B E Φ (pc + 2) L (vi x :: st) m a) : B E Φ pc (L) (st) m a := by
  intro p l e R s mi args below meth c G ad0 nx0 A ad H locs ls hOk hIn hL hst
  exact lv_iload hOk.1 hOk.2.1 hd (hL.2.2 _ _ hl).1 (k p l e R s mi args below meth c G ad0 nx0 A ad H locs ls hOk hIn hL (sw_i hst))
theorem b_lloadN {E : ME} {Φ : Option AV → AM → Prop} {pc : Nat} {L : List (Option AV)} {st : List AV} {m : AM} {a : Nat × Nat} {k4 : Fin 4} {x : Int64} (j : Nat) (hd : decode E.1 pc = .ok (.lload_n k4, 1)) (hj : (k4 : Nat) = j) (hl : L[j]? = some (some (vl x))) (k : B E Φ (pc + 1) L (vl x :: st) m a) : B E Φ pc (L) (st) m a := by
  intro p l e R s mi args below meth c G ad0 nx0 A ad H locs ls hOk hIn hL hst
  exact lv_lload_n hOk.1 hOk.2.1 hd hj (hL.2.2 _ _ hl).1 (k p l e R s mi args below meth c G ad0 nx0 A ad H locs ls hOk hIn hL (sw_l hst))
theorem b_lloadG {E : ME} {Φ : Option AV → AM → Prop} {pc : Nat} {L : List (Option AV)} {st : List AV} {m : AM} {a : Nat × Nat} {x : Int64} (j : Nat) (hd : decode E.1 pc = .ok (.lload j, 2)) (hl : L[j]? = some (some (vl x))) (k : B E Φ (pc + 2) L (vl x :: st) m a) : B E Φ pc (L) (st) m a := by
  intro p l e R s mi args below meth c G ad0 nx0 A ad H locs ls hOk hIn hL hst
  exact lv_lload hOk.1 hOk.2.1 hd (hL.2.2 _ _ hl).1 (k p l e R s mi args below meth c G ad0 nx0 A ad H locs ls hOk hIn hL (sw_l hst))
theorem b_aloadN {E : ME} {Φ : Option AV → AM → Prop} {pc : Nat} {L : List (Option AV)} {st : List AV} {m : AM} {a : Nat × Nat} {k4 : Fin 4} {t i : Nat} (j : Nat) (hd : decode E.1 pc = .ok (.aload_n k4, 1)) (hj : (k4 : Nat) = j) (hl : L[j]? = some (some (vr t i))) (k : B E Φ (pc + 1) L (vr t i :: st) m a) : B E Φ pc (L) (st) m a := by
  intro p l e R s mi args below meth c G ad0 nx0 A ad H locs ls hOk hIn hL hst
  exact lv_aload_n hOk.1 hOk.2.1 hd hj (hL.2.2 _ _ hl).1 (k p l e R s mi args below meth c G ad0 nx0 A ad H locs ls hOk hIn hL (sw_c (hL.2.2 _ _ hl).2 hst))
theorem b_aloadG {E : ME} {Φ : Option AV → AM → Prop} {pc : Nat} {L : List (Option AV)} {st : List AV} {m : AM} {a : Nat × Nat} {t i : Nat} (j : Nat) (hd : decode E.1 pc = .ok (.aload j, 2)) (hl : L[j]? = some (some (vr t i))) (k : B E Φ (pc + 2) L (vr t i :: st) m a) : B E Φ pc (L) (st) m a := by
  intro p l e R s mi args below meth c G ad0 nx0 A ad H locs ls hOk hIn hL hst
  exact lv_aload hOk.1 hOk.2.1 hd (hL.2.2 _ _ hl).1 (k p l e R s mi args below meth c G ad0 nx0 A ad H locs ls hOk hIn hL (sw_c (hL.2.2 _ _ hl).2 hst))
theorem b_istoreN {E : ME} {Φ : Option AV → AM → Prop} {pc : Nat} {L : List (Option AV)} {st : List AV} {m : AM} {a : Nat × Nat} {k4 : Fin 4} {x : Int32} (j : Nat) (hd : decode E.1 pc = .ok (.istore_n k4, 1)) (hj : (k4 : Nat) = j) (hn : noL L j) (hj2 : j < E.2.2.1) (k : B E Φ (pc + 1) (L.set j (some (vi x))) st m a) : B E Φ pc (L) (vi x :: st) m a := by
  intro p l e R s mi args below meth c G ad0 nx0 A ad H locs ls hOk hIn hL hst
  exact lv_istore_n hOk.1 hOk.2.1 hd hj hL.lv hj2 rfl (fun ls' h' => k p l e R s mi args below meth c G ad0 nx0 A ad H locs ls' hOk hIn (hL.put hn trivial h') (sw_tl hst))
theorem b_istoreG {E : ME} {Φ : Option AV → AM → Prop} {pc : Nat} {L : List (Option AV)} {st : List AV} {m : AM} {a : Nat × Nat} {x : Int32} (j : Nat) (hd : decode E.1 pc = .ok (.istore j, 2)) (hn : noL L j) (hj2 : j < E.2.2.1) (k : B E Φ (pc + 2) (L.set j (some (vi x))) st m a) : B E Φ pc (L) (vi x :: st) m a := by
  intro p l e R s mi args below meth c G ad0 nx0 A ad H locs ls hOk hIn hL hst
  exact lv_istore hOk.1 hOk.2.1 hd hL.lv hj2 rfl (fun ls' h' => k p l e R s mi args below meth c G ad0 nx0 A ad H locs ls' hOk hIn (hL.put hn trivial h') (sw_tl hst))
theorem b_astoreN {E : ME} {Φ : Option AV → AM → Prop} {pc : Nat} {L : List (Option AV)} {st : List AV} {m : AM} {a : Nat × Nat} {k4 : Fin 4} {t i : Nat} (j : Nat) (hd : decode E.1 pc = .ok (.astore_n k4, 1)) (hj : (k4 : Nat) = j) (hn : noL L j) (hj2 : j < E.2.2.1) (k : B E Φ (pc + 1) (L.set j (some (vr t i))) st m a) : B E Φ pc (L) (vr t i :: st) m a := by
  intro p l e R s mi args below meth c G ad0 nx0 A ad H locs ls hOk hIn hL hst
  exact lv_astore_n hOk.1 hOk.2.1 hd hj hL.lv hj2 rfl (fun ls' h' => k p l e R s mi args below meth c G ad0 nx0 A ad H locs ls' hOk hIn (hL.put hn (hst _ List.mem_cons_self) h') (sw_tl hst))
theorem b_astoreG {E : ME} {Φ : Option AV → AM → Prop} {pc : Nat} {L : List (Option AV)} {st : List AV} {m : AM} {a : Nat × Nat} {t i : Nat} (j : Nat) (hd : decode E.1 pc = .ok (.astore j, 2)) (hn : noL L j) (hj2 : j < E.2.2.1) (k : B E Φ (pc + 2) (L.set j (some (vr t i))) st m a) : B E Φ pc (L) (vr t i :: st) m a := by
  intro p l e R s mi args below meth c G ad0 nx0 A ad H locs ls hOk hIn hL hst
  exact lv_astore hOk.1 hOk.2.1 hd hL.lv hj2 rfl (fun ls' h' => k p l e R s mi args below meth c G ad0 nx0 A ad H locs ls' hOk hIn (hL.put hn (hst _ List.mem_cons_self) h') (sw_tl hst))
theorem b_lstoreN {E : ME} {Φ : Option AV → AM → Prop} {pc : Nat} {L : List (Option AV)} {st : List AV} {m : AM} {a : Nat × Nat} {k4 : Fin 4} {x : Int64} (j : Nat) (hd : decode E.1 pc = .ok (.lstore_n k4, 1)) (hj : (k4 : Nat) = j) (hn : noL L j) (hj2 : j + 1 < E.2.2.1) (k : B E Φ (pc + 1) ((L.set j (some (vl x))).set (j + 1) none) st m a) : B E Φ pc (L) (vl x :: st) m a := by
  intro p l e R s mi args below meth c G ad0 nx0 A ad H locs ls hOk hIn hL hst
  exact lv_lstore_n hOk.1 hOk.2.1 hd hj hL.lv hj2 rfl (fun ls' h' => k p l e R s mi args below meth c G ad0 nx0 A ad H locs ls' hOk hIn (hL.putL hn h') (sw_tl hst))
theorem b_lstoreG {E : ME} {Φ : Option AV → AM → Prop} {pc : Nat} {L : List (Option AV)} {st : List AV} {m : AM} {a : Nat × Nat} {x : Int64} (j : Nat) (hd : decode E.1 pc = .ok (.lstore j, 2)) (hn : noL L j) (hj2 : j + 1 < E.2.2.1) (k : B E Φ (pc + 2) ((L.set j (some (vl x))).set (j + 1) none) st m a) : B E Φ pc (L) (vl x :: st) m a := by
  intro p l e R s mi args below meth c G ad0 nx0 A ad H locs ls hOk hIn hL hst
  exact lv_lstore hOk.1 hOk.2.1 hd hL.lv hj2 rfl (fun ls' h' => k p l e R s mi args below meth c G ad0 nx0 A ad H locs ls' hOk hIn (hL.putL hn h') (sw_tl hst))
theorem b_iincG {E : ME} {Φ : Option AV → AM → Prop} {pc : Nat} {L : List (Option AV)} {st : List AV} {m : AM} {a : Nat × Nat} {x : Int32} {n : Int} (j : Nat) (hd : decode E.1 pc = .ok (.iinc j n, 3)) (hl : L[j]? = some (some (vi x))) (hn : noL L j) (hj2 : j < E.2.2.1) (k : B E Φ (pc + 3) (L.set j (some (vi (x + Int32.ofInt n)))) st m a) : B E Φ pc (L) (st) m a := by
  intro p l e R s mi args below meth c G ad0 nx0 A ad H locs ls hOk hIn hL hst
  obtain ⟨q, hq⟩ := List.getElem?_of_mem (lv_mem (ad := ad) hl)
  exact lv_iinc (v := x + Int32.ofInt n) hOk.1 hOk.2.1 hd hL.lv (k := q) hq rfl hj2 rfl (fun ls' h' => k p l e R s mi args below meth c G ad0 nx0 A ad H locs ls' hOk hIn (hL.put hn trivial h') hst)
theorem b_iret {E : ME} {Φ : Option AV → AM → Prop} {pc : Nat} {L : List (Option AV)} {m : AM} {a : Nat × Nat} {x : Int32} (hr : E.2.2.2.1 = some .int) (hd : decode E.1 pc = .ok (.ireturn, 1)) (ha : a.1 ≤ E.2.2.2.2.1 ∧ a.2 ≤ E.2.2.2.2.2.1) (h : Φ (some (vi x)) m) : B E Φ pc (L) ([vi x]) m a := by
  intro p l e R s mi args below meth c G ad0 nx0 A ad H locs ls hOk hIn hL hst
  refine W.widen ha.1 ha.2 ?_
  exact W.iret (v := x) hOk.1 hOk.2.1 (by rw [hOk.2.2.2.1, hr]) (fun t ht hW => ⟨⟨some (vi x), m, ad, rfl, h, fun v hv => by cases hv; trivial, hIn.2.2.2.2.2.2.2, ⟨by rw [ht]; exact hIn.2.1, va_K.moved hW.alike hIn.1, nw_up hW hOk.2.2.2.2.2.2.2.2⟩, hIn.2.2.1, hIn.2.2.2.2.2.2.1, hIn.2.2.2.2.2.1⟩, hIn.2.2.2.1.F ht⟩) hIn.2.2.2.1.2.2 hd hOk.2.2.2.2.2.2.1
theorem b_zret {E : ME} {Φ : Option AV → AM → Prop} {pc : Nat} {L : List (Option AV)} {m : AM} {a : Nat × Nat} {x : Int32} (hr : E.2.2.2.1 = some .boolean) (hx : x = 0 ∨ x = 1) (hd : decode E.1 pc = .ok (.ireturn, 1)) (ha : a.1 ≤ E.2.2.2.2.1 ∧ a.2 ≤ E.2.2.2.2.2.1) (h : Φ (some (vi x)) m) : B E Φ pc (L) ([vi x]) m a := by
  intro p l e R s mi args below meth c G ad0 nx0 A ad H locs ls hOk hIn hL hst
  refine W.widen ha.1 ha.2 ?_
  exact W.zret (v := x) (ty := .boolean) hOk.1 hOk.2.1 (by rw [hOk.2.2.2.1, hr]) (by rcases hx with rfl | rfl <;> rfl) (fun t ht hW => ⟨⟨some (vi x), m, ad, rfl, h, fun v hv => by cases hv; trivial, hIn.2.2.2.2.2.2.2, ⟨by rw [ht]; exact hIn.2.1, va_K.moved hW.alike hIn.1, nw_up hW hOk.2.2.2.2.2.2.2.2⟩, hIn.2.2.1, hIn.2.2.2.2.2.2.1, hIn.2.2.2.2.2.1⟩, hIn.2.2.2.1.F ht⟩) hIn.2.2.2.1.2.2 hd hOk.2.2.2.2.2.2.1
theorem b_lret {E : ME} {Φ : Option AV → AM → Prop} {pc : Nat} {L : List (Option AV)} {m : AM} {a : Nat × Nat} {x : Int64} (hr : E.2.2.2.1 = some .long) (hd : decode E.1 pc = .ok (.lreturn, 1)) (ha : a.1 ≤ E.2.2.2.2.1 ∧ a.2 ≤ E.2.2.2.2.2.1) (h : Φ (some (vl x)) m) : B E Φ pc (L) ([vl x]) m a := by
  intro p l e R s mi args below meth c G ad0 nx0 A ad H locs ls hOk hIn hL hst
  refine W.widen ha.1 ha.2 ?_
  exact W.lret (v := x) hOk.1 hOk.2.1 (by rw [hOk.2.2.2.1, hr]) (fun t ht hW => ⟨⟨some (vl x), m, ad, rfl, h, fun v hv => by cases hv; trivial, hIn.2.2.2.2.2.2.2, ⟨by rw [ht]; exact hIn.2.1, va_K.moved hW.alike hIn.1, nw_up hW hOk.2.2.2.2.2.2.2.2⟩, hIn.2.2.1, hIn.2.2.2.2.2.2.1, hIn.2.2.2.2.2.1⟩, hIn.2.2.2.1.F ht⟩) hIn.2.2.2.1.2.2 hd hOk.2.2.2.2.2.2.1
theorem b_vret {E : ME} {Φ : Option AV → AM → Prop} {pc : Nat} {L : List (Option AV)} {m : AM} {a : Nat × Nat}  (hr : E.2.2.2.1 = none) (hd : decode E.1 pc = .ok (.return_, 1)) (ha : a.1 ≤ E.2.2.2.2.1 ∧ a.2 ≤ E.2.2.2.2.2.1) (h : Φ none m) : B E Φ pc (L) ([]) m a := by
  intro p l e R s mi args below meth c G ad0 nx0 A ad H locs ls hOk hIn hL hst
  refine W.widen ha.1 ha.2 ?_
  exact W.vret hOk.1 hOk.2.1 (by rw [hOk.2.2.2.1, hr]) (fun t ht hW => ⟨⟨none, m, ad, rfl, h, (fun v hv => by cases hv), hIn.2.2.2.2.2.2.2, ⟨by rw [ht]; exact hIn.2.1, va_K.moved hW.alike hIn.1, nw_up hW hOk.2.2.2.2.2.2.2.2⟩, hIn.2.2.1, hIn.2.2.2.2.2.2.1, hIn.2.2.2.2.2.1⟩, hIn.2.2.2.1.F ht⟩) hIn.2.2.2.1.2.2 hd hOk.2.2.2.2.2.2.1
theorem b_aret {E : ME} {Φ : Option AV → AM → Prop} {pc : Nat} {L : List (Option AV)} {m : AM} {a : Nat × Nat} {t i : Nat} {ty : FieldType} (hr : E.2.2.2.1 = some (.array ty)) (hd : decode E.1 pc = .ok (.areturn, 1)) (ha : a.1 ≤ E.2.2.2.2.1 ∧ a.2 ≤ E.2.2.2.2.2.1) (h : Φ (some (vr t i)) m) : B E Φ pc (L) ([vr t i]) m a := by
  intro p l e R s mi args below meth c G ad0 nx0 A ad H locs ls hOk hIn hL hst
  refine W.widen ha.1 ha.2 ?_
  exact W.aret (v := .ref (ad i)) hOk.1 hOk.2.1 (by rw [hOk.2.2.2.1, hr]) (Or.inr ⟨_, rfl⟩) (Or.inr ⟨_, rfl⟩) (fun t' ht hW => ⟨⟨some (vr t i), m, ad, rfl, h, fun v hv => by cases hv; exact hst _ List.mem_cons_self, hIn.2.2.2.2.2.2.2, ⟨by rw [ht]; exact hIn.2.1, va_K.moved hW.alike hIn.1, nw_up hW hOk.2.2.2.2.2.2.2.2⟩, hIn.2.2.1, hIn.2.2.2.2.2.2.1, hIn.2.2.2.2.2.1⟩, hIn.2.2.2.1.F ht⟩) hIn.2.2.2.1.2.2 hd hOk.2.2.2.2.2.2.1
theorem b_iald {E : ME} {Φ : Option AV → AM → Prop} {pc : Nat} {L : List (Option AV)} {st : List AV} {m : AM} {a : Nat × Nat} {t i : Nat} {x : Int32} (ht : 100 ≤ t ∧ t < 20000) (hin : vp_in x (t - 100)) (hd : decode E.1 pc = .ok (.iaload, 1)) (k : B E Φ (pc + 1) L (vi (m.1 i x.toNatClampNeg) :: st) m a) : B E Φ pc (L) (vi x :: vr t i :: st) m a := by
  intro p l e R s mi args below meth c G ad0 nx0 A ad H locs ls hOk hIn hL hst
  have hw := hst _ (List.mem_cons_of_mem _ List.mem_cons_self)
  have hc := hIn.cell hw
  unfold celT at hc
  rw [if_neg (by omega), if_neg (by omega), if_neg (by omega), if_neg (by omega), if_neg (by omega), if_pos ht.2] at hc
  exact va_iald hOk.1 hOk.2.1 hIn.1 hIn.2.1 i 0 hc rfl hin hd (k p l e R s mi args below meth c G ad0 nx0 A ad H locs ls hOk hIn hL (sw_i (sw_tl (sw_tl hst))))
theorem b_ialdD {E : ME} {Φ : Option AV → AM → Prop} {pc : Nat} {L : List (Option AV)} {st : List AV} {m : AM} {a : Nat × Nat} {i : Nat} {x : Int32} (hin : vp_in x (m.2.2.1 i)) (hd : decode E.1 pc = .ok (.iaload, 1)) (k : B E Φ (pc + 1) L (vi (m.1 i x.toNatClampNeg) :: st) m a) : B E Φ pc (L) (vi x :: vr 12 i :: st) m a := by
  intro p l e R s mi args below meth c G ad0 nx0 A ad H locs ls hOk hIn hL hst
  have hw := hst _ (List.mem_cons_of_mem _ List.mem_cons_self)
  have hc := hIn.cell hw
  unfold celT at hc
  rw [if_neg (by omega), if_pos rfl] at hc
  exact va_iald hOk.1 hOk.2.1 hIn.1 hIn.2.1 i 0 hc rfl hin hd (k p l e R s mi args below meth c G ad0 nx0 A ad H locs ls hOk hIn hL (sw_i (sw_tl (sw_tl hst))))
theorem b_zald {E : ME} {Φ : Option AV → AM → Prop} {pc : Nat} {L : List (Option AV)} {st : List AV} {m : AM} {a : Nat × Nat} {t i : Nat} {x : Int32} (ht : 20000 ≤ t) (hin : vp_in x (t - 20000)) (hd : decode E.1 pc = .ok (.baload, 1)) (k : B E Φ (pc + 1) L (vi (m.1 i x.toNatClampNeg) :: st) m a) : B E Φ pc (L) (vi x :: vr t i :: st) m a := by
  intro p l e R s mi args below meth c G ad0 nx0 A ad H locs ls hOk hIn hL hst
  have hw := hst _ (List.mem_cons_of_mem _ List.mem_cons_self)
  have hc := hIn.cell hw
  unfold celT at hc
  rw [if_neg (by omega), if_neg (by omega), if_neg (by omega), if_neg (by omega), if_neg (by omega), if_neg (by omega)] at hc
  exact va_zald hOk.1 hOk.2.1 hIn.1 hIn.2.1 i 1 hc rfl hin hd (k p l e R s mi args below meth c G ad0 nx0 A ad H locs ls hOk hIn hL (sw_i (sw_tl (sw_tl hst))))
theorem b_iast {E : ME} {Φ : Option AV → AM → Prop} {pc : Nat} {L : List (Option AV)} {st : List AV} {m : AM} {a : Nat × Nat} {t i : Nat} {x y : Int32} (ht : 100 ≤ t ∧ t < 20000) (hin : vp_in x (t - 100)) (hd : decode E.1 pc = .ok (.iastore, 1)) (k : B E Φ (pc + 1) L st (mset m i x.toNatClampNeg y) a) : B E Φ pc (L) (vi y :: vi x :: vr t i :: st) m a := by
  intro p l e R s mi args below meth c G ad0 nx0 A ad H locs ls hOk hIn hL hst
  have hw := hst _ (List.mem_cons_of_mem _ (List.mem_cons_of_mem _ List.mem_cons_self))
  have hc := hIn.cell hw
  have he : cel G.2 ad (mset m i x.toNatClampNeg y) i = .inl (G.2 0, t - 100, .inl (upd (m.1 i) x.toNatClampNeg y)) := by
    unfold cel celT
    rw [hw.1, if_neg (by omega), if_neg (by omega), if_neg (by omega), if_neg (by omega), if_neg (by omega), if_pos ht.2, mset_upd]
    try rfl
  unfold celT at hc
  rw [if_neg (by omega), if_neg (by omega), if_neg (by omega), if_neg (by omega), if_neg (by omega), if_pos ht.2] at hc
  exact va_iast hOk.1 hOk.2.1 hIn.1 hIn.2.1 hIn.2.2.1 hIn.2.2.2.1 i 0 hc rfl hin hd (fun H1 locs1 hP hD hS => k p l e R s mi args below meth c G ad0 nx0 A ad H1 locs1 ls hOk (hIn.setw rfl he (fun a h => cel_mset_ne _ _ h) hIn.2.2.2.2.2.2.2 hP hD hS) hL (sw_tl (sw_tl (sw_tl hst))))
theorem b_iastD {E : ME} {Φ : Option AV → AM → Prop} {pc : Nat} {L : List (Option AV)} {st : List AV} {m : AM} {a : Nat × Nat} {i : Nat} {x y : Int32} (hin : vp_in x (m.2.2.1 i)) (hd : decode E.1 pc = .ok (.iastore, 1)) (k : B E Φ (pc + 1) L st (mset m i x.toNatClampNeg y) a) : B E Φ pc (L) (vi y :: vi x :: vr 12 i :: st) m a := by
  intro p l e R s mi args below meth c G ad0 nx0 A ad H locs ls hOk hIn hL hst
  have hw := hst _ (List.mem_cons_of_mem _ (List.mem_cons_of_mem _ List.mem_cons_self))
  have hc := hIn.cell hw
  have he : cel G.2 ad (mset m i x.toNatClampNeg y) i = .inl (G.2 0, m.2.2.1 i, .inl (upd (m.1 i) x.toNatClampNeg y)) := by
    unfold cel celT
    rw [hw.1, if_neg (by omega), if_pos rfl, mset_upd]
    try rfl
  unfold celT at hc
  rw [if_neg (by omega), if_pos rfl] at hc
  exact va_iast hOk.1 hOk.2.1 hIn.1 hIn.2.1 hIn.2.2.1 hIn.2.2.2.1 i 0 hc rfl hin hd (fun H1 locs1 hP hD hS => k p l e R s mi args below meth c G ad0 nx0 A ad H1 locs1 ls hOk (hIn.setw rfl he (fun a h => cel_mset_ne _ _ h) hIn.2.2.2.2.2.2.2 hP hD hS) hL (sw_tl (sw_tl (sw_tl hst))))
theorem b_aldR {E : ME} {Φ : Option AV → AM → Prop} {pc : Nat} {L : List (Option AV)} {st : List AV} {m : AM} {a : Nat × Nat} {t n w t' i : Nat} {x : Int32} (ht : t = 13 ∧ n = 24 ∧ w = 2 ∧ t' = 8 ∨ t = 14 ∧ n = 2 ∧ w = 8 ∧ t' = 4) (hin : vp_in x n) (hd : decode E.1 pc = .ok (.aaload, 1)) (k : B E Φ (pc + 1) L (vr t' (i + 1 + w * x.toNatClampNeg) :: st) m a) : B E Φ pc (L) (vi x :: vr t i :: st) m a := by
  intro p l e R s mi args below meth c G ad0 nx0 A ad H locs ls hOk hIn hL hst
  have hw := hst _ (List.mem_cons_of_mem _ List.mem_cons_self)
  have hc := hIn.cell hw
  unfold celT at hc
  have hlt : x.toNatClampNeg < n := Nat.not_le.mp fun q => hin (Or.inr q)
  have hi : i < 125 := by
    rcases Nat.lt_or_ge i 125 with h | h
    · exact h
    · have h9 : KD i = t := hw.1
      rw [KD_ge h] at h9
      omega
  have h5 := TY.nx hIn.2.2.2.2.2.2.2
  rcases ht with ⟨rfl, rfl, rfl, rfl⟩ | ⟨rfl, rfl, rfl, rfl⟩
  · rw [if_neg (by omega), if_neg (by omega), if_pos rfl] at hc
    have hq : ∀ i, i < 125 → KD i = 13 → ∀ j, j < 24 → KD (i + 1 + 2 * j) = 8 ∧ i + 1 + 2 * j < 125 := by decide +kernel
    have h6 := hq i hi hw.1 _ hlt
    exact va_aldq hOk.1 hOk.2.1 hIn.1 hIn.2.1 i 3 hc rfl hin hd (by simp only [if_pos hlt]; exact k p l e R s mi args below meth c G ad0 nx0 A ad H locs ls hOk hIn hL (sw_c ⟨h6.1, Nat.lt_of_lt_of_le h6.2 h5⟩ (sw_tl (sw_tl hst))))
  · rw [if_neg (by omega), if_neg (by omega), if_neg (by omega), if_pos rfl] at hc
    have hq : ∀ i, i < 125 → KD i = 14 → ∀ j, j < 2 → KD (i + 1 + 8 * j) = 4 ∧ i + 1 + 8 * j < 125 := by decide +kernel
    have h6 := hq i hi hw.1 _ hlt
    exact va_aldq hOk.1 hOk.2.1 hIn.1 hIn.2.1 i 2 hc rfl hin hd (by simp only [if_pos hlt]; exact k p l e R s mi args below meth c G ad0 nx0 A ad H locs ls hOk hIn hL (sw_c ⟨h6.1, Nat.lt_of_lt_of_le h6.2 h5⟩ (sw_tl (sw_tl hst))))
end
section
/-! ROWS, third part: fields, further arrays, calls. -/
theorem b_get {E : ME} {Φ : Option AV → AM → Prop} {pc : Nat} {L : List (Option AV)} {st : List AV} {m : AM} {a : Nat × Nat} {t i idx : Nat} {N : Nat} {C : String} {T : u_T} (k : Nat) (v : AV) (hc : vwCl[t]? = some (C, T, N)) (ht : t < 12) (hk : k < N) (hin : ∀ w ∈ u_ws C T N, w ∈ TB) (hlink : Cond.fieldLink E.2.1 idx (T k).1 (T k).2.1 (T k).2.2.1 ∈ TB ∨ ∃ host, Cond.fieldLinkNest E.2.1 idx (T k).1 (T k).2.1 (T k).2.2.1 host ∈ TB) (hv : ∀ ad, (flds ad (m.1 i) (m.2.1 i) t i)[k]? = some (cvA ad v)) (hwt : wt m (vr t i) → TY m → wt m v) (hd : decode E.1 pc = .ok (.getfield idx, 3)) (kk : B E Φ (pc + 3) L (v :: st) m a) : B E Φ pc (L) (vr t i :: st) m a := by
  intro p l e R s mi args below meth c G ad0 nx0 A ad H locs ls hOk hIn hL hst
  have hw := hst _ List.mem_cons_self
  have hce := hIn.cell hw
  unfold celT at hce
  rw [if_pos ht] at hce
  have hts := hOk.2.2.2.2.2.1
  have kq := kk p l e R s mi args below meth c G ad0 nx0 A ad H locs ls hOk hIn hL (sw_c (hwt hw hIn.2.2.2.2.2.2.2) (sw_tl hst))
  rcases hlink with hlink | ⟨host, hlink⟩
  · exact va_get hOk.1 hOk.2.1 hts hin hOk.2.2.2.2.1 hIn.1 hIn.2.1 i hce hc k hk (hts _ hlink) (fun _ h => h) (hv ad) hd kq
  · exact va_getN hOk.1 hOk.2.1 hts hin hOk.2.2.2.2.1 hIn.1 hIn.2.1 i hce hc k hk (hts _ hlink) (fun _ h => h) (hv ad) hd kq
theorem b_getN {E : ME} {Φ : Option AV → AM → Prop} {pc : Nat} {L : List (Option AV)} {st : List AV} {m : AM} {a : Nat × Nat} {t i idx : Nat} {N : Nat} {C : String} {T : u_T} (k : Nat) (v : AV) {host : String} (hc : vwCl[t]? = some (C, T, N)) (ht : t < 12) (hk : k < N) (hin : ∀ w ∈ u_ws C T N, w ∈ TB) (hlink : Cond.fieldLinkNest E.2.1 idx (T k).1 (T k).2.1 (T k).2.2.1 host = NWw) (hv : ∀ ad, (flds ad (m.1 i) (m.2.1 i) t i)[k]? = some (cvA ad v)) (hwt : wt m (vr t i) → TY m → wt m v) (hd : decode E.1 pc = .ok (.getfield idx, 3)) (kk : B E Φ (pc + 3) L (v :: st) m a) : B E Φ pc (L) (vr t i :: st) m a := by
  intro p l e R s mi args below meth c G ad0 nx0 A ad H locs ls hOk hIn hL hst
  have hw := hst _ List.mem_cons_self
  have hce := hIn.cell hw
  unfold celT at hce
  rw [if_pos ht] at hce
  have hts := hOk.2.2.2.2.2.1
  have kq := kk p l e R s mi args below meth c G ad0 nx0 A ad H locs ls hOk hIn hL (sw_c (hwt hw hIn.2.2.2.2.2.2.2) (sw_tl hst))
  exact va_getN hOk.1 hOk.2.1 hts hin hOk.2.2.2.2.1 hIn.1 hIn.2.1 i hce hc k hk (by rw [hlink]; exact va_Nw.use rfl hOk.2.2.2.2.2.2.2.2) (fun _ h => h) (hv ad) hd kq
theorem wt_cg {m m' : AM} (hn : m'.2.2.2 = m.2.2.2) {v : AV} (h : wt m v) : wt m' v := by
  rcases v with x | x | q
  · trivial
  · trivial
  · exact ⟨h.1, by rw [hn]; exact h.2⟩
theorem LHm.cg {ad : Nat → Nat} {m m' : AM} {ls : Array Slot} {nL : Nat} {L : List (Option AV)} (hn : m'.2.2.2 = m.2.2.2) (h : LHm ad m ls nL L) : LHm ad m' ls nL L := ⟨h.1, h.2.1, fun k v hk => ⟨(h.2.2 k v hk).1, wt_cg hn (h.2.2 k v hk).2⟩⟩
theorem b_put {E : ME} {Φ : Option AV → AM → Prop} {pc : Nat} {L : List (Option AV)} {st : List AV} {m : AM} {a : Nat × Nat} {t i idx : Nat} {N : Nat} {C : String} {T : u_T} (k : Nat) (v : AV) (m' : AM) (ty0 : Nat → FieldType) (ty : FieldType) (hc : vwCl[t]? = some (C, T, N)) (ht : t < 12) (hk : k < N) (hin : ∀ w ∈ u_ws C T N, w ∈ TB) (hty : ∀ k, k < N → parseFieldDescriptor (T k).2.2.1 = some (ty0 k)) (hnm : ∀ a, a < N → ∀ b, b < N → a ≠ b → (T a).2.1 ≠ (T b).2.1) (hlink : Cond.fieldLink E.2.1 idx (T k).1 (T k).2.1 (T k).2.2.1 ∈ TB ∨ ∃ host, Cond.fieldLinkNest E.2.1 idx (T k).1 (T k).2.1 (T k).2.2.1 host ∈ TB) (hfin : (T k).2.2.2 = false) (hd2 : parseFieldDescriptor (T k).2.2.1 = some ty) (hnr : ∀ ad, narrow ty (cvA ad v) = cvA ad v) (hfit : ∀ ad, fits ty (cvA ad v) = true) (hlen : ∀ ad, k < (flds ad (m.1 i) (m.2.1 i) t i).length) (hset : ∀ ad, (flds ad (m.1 i) (m.2.1 i) t i).set k (cvA ad v) = flds ad (m'.1 i) (m'.2.1 i) t i) (hn : m'.2.2.2 = m.2.2.2) (ho : ∀ (Y : Nat → ClassId) (ad : Nat → Nat) (a : Nat), a ≠ i → cel Y ad m' a = cel Y ad m a) (hTY : wt m v → TY m → TY m') (hd : decode E.1 pc = .ok (.putfield idx, 3)) (kk : B E Φ (pc + 3) L st m' a) : B E Φ pc (L) (v :: vr t i :: st) m a := by
  intro p l e R s mi args below meth c G ad0 nx0 A ad H locs ls hOk hIn hL hst
  have hw := hst _ (List.mem_cons_of_mem _ List.mem_cons_self)
  have hce := hIn.cell hw
  unfold celT at hce
  rw [if_pos ht] at hce
  have hts := hOk.2.2.2.2.2.1
  have he : cel G.2 ad m' i = .inr (t, (flds ad (m.1 i) (m.2.1 i) t i).set k (cvA ad v)) := by
    unfold cel celT
    rw [hw.1, if_pos ht, hset ad]
  have kq : ∀ (H1 : Heap) (locs1 : List Loc), va_P G.1 vwCl ((wsO G.2 ad m).set i (ad i, .inr (t, (flds ad (m.1 i) (m.2.1 i) t i).set k (cvA ad v)))) H1 → va_D A ((wsO G.2 ad m).set i (ad i, .inr (t, (flds ad (m.1 i) (m.2.1 i) t i).set k (cvA ad v)))) → va_S A s.heap H1 locs1 → _ :=
    fun H1 locs1 hP hD hS => kk p l e R s mi args below meth c G ad0 nx0 A ad H1 locs1 ls hOk (hIn.setw hn he (fun a h => ho _ _ a h) (hTY (hst _ List.mem_cons_self) hIn.2.2.2.2.2.2.2) hP hD hS) (hL.cg hn) (fun w hw => wt_cg hn (hst w (List.mem_cons_of_mem _ (List.mem_cons_of_mem _ hw))))
  rcases hlink with hlink | ⟨host, hlink⟩
  · exact va_put hOk.1 hOk.2.1 hts hin ty0 hty hnm hOk.2.2.2.2.1 hIn.1 hIn.2.1 hIn.2.2.1 hIn.2.2.2.1 i hce hc k hk (hts _ hlink) (fun _ h => h) hfin hd2 (hnr ad) (hfit ad) (hlen ad) hd kq
  · exact va_putN hOk.1 hOk.2.1 hts hin ty0 hty hnm hOk.2.2.2.2.1 hIn.1 hIn.2.1 hIn.2.2.1 hIn.2.2.2.1 i hce hc k hk (hts _ hlink) (fun _ h => h) hfin hd2 (hnr ad) (hfit ad) (hlen ad) hd kq
theorem b_aldI {E : ME} {Φ : Option AV → AM → Prop} {pc : Nat} {L : List (Option AV)} {st : List AV} {m : AM} {a : Nat × Nat} {i : Nat} {x : Int32} (hin : vp_in x 8) (hd : decode E.1 pc = .ok (.aaload, 1)) (k : B E Φ (pc + 1) L (vr 140 (i + 1 + x.toNatClampNeg) :: st) m a) : B E Φ pc (L) (vi x :: vr 15 i :: st) m a := by
  intro p l e R s mi args below meth c G ad0 nx0 A ad H locs ls hOk hIn hL hst
  have hw := hst _ (List.mem_cons_of_mem _ List.mem_cons_self)
  have hc := hIn.cell hw
  unfold celT at hc
  have hlt : x.toNatClampNeg < 8 := Nat.not_le.mp fun q => hin (Or.inr q)
  have hi : i < 125 := by
    rcases Nat.lt_or_ge i 125 with h | h
    · exact h
    · have h9 : KD i = 15 := hw.1
      rw [KD_ge h] at h9
      omega
  have h5 := TY.nx hIn.2.2.2.2.2.2.2
  rw [if_neg (by omega), if_neg (by omega), if_neg (by omega), if_neg (by omega), if_pos rfl] at hc
  have hq : ∀ i, i < 125 → KD i = 15 → ∀ j, j < 8 → KD (i + 1 + j) = 140 ∧ i + 1 + j < 125 := by decide +kernel
  have h6 := hq i hi hw.1 _ hlt
  have kq := k p l e R s mi args below meth c G ad0 nx0 A ad H locs ls hOk hIn hL (sw_c (v := vr 140 (i + 1 + x.toNatClampNeg)) ⟨h6.1, Nat.lt_of_lt_of_le h6.2 h5⟩ (sw_tl (sw_tl hst)))
  exact W.aald (v := .ref (ad (i + 1 + x.toNatClampNeg))) (ty := .array .int) hOk.1 hOk.2.1 (hIn.2.1 i _ hc) ((hIn.1.2 4 (G.2 4, .array .int) rfl).1 8 (fun j => va_rf (if j < 8 then some (ad (i + 1 + j)) else none))) rfl (fun q => by cases q) (by show ¬ (x < 0 ∨ (arrV _ _ _).slots.size ≤ _); rw [arrV_size]; exact hin) (by show (arrV _ _ _).slots[_]? = _; rw [arrV_read _ _ hlt]; simp only [if_pos hlt]; rfl) rfl rfl hd kq
theorem b_zast {E : ME} {Φ : Option AV → AM → Prop} {pc : Nat} {L : List (Option AV)} {st : List AV} {m : AM} {a : Nat × Nat} {t i : Nat} {x y : Int32} (ht : 20000 ≤ t) (hin : vp_in x (t - 20000)) (hy : y = 0 ∨ y = 1) (hd : decode E.1 pc = .ok (.bastore, 1)) (k : B E Φ (pc + 1) L st (mset m i x.toNatClampNeg y) a) : B E Φ pc (L) (vi y :: vi x :: vr t i :: st) m a := by
  intro p l e R s mi args below meth c G ad0 nx0 A ad H locs ls hOk hIn hL hst
  have hw := hst _ (List.mem_cons_of_mem _ (List.mem_cons_of_mem _ List.mem_cons_self))
  have hc := hIn.cell hw
  have hz : vp_nar .boolean y = y := by rcases hy with rfl | rfl <;> rfl
  have he : cel G.2 ad (mset m i x.toNatClampNeg y) i = .inl (G.2 1, t - 20000, .inl (upd (m.1 i) x.toNatClampNeg (vp_nar .boolean y))) := by
    unfold cel celT
    rw [hw.1, if_neg (by omega), if_neg (by omega), if_neg (by omega), if_neg (by omega), if_neg (by omega), if_neg (by omega), mset_upd, hz]
  unfold celT at hc
  rw [if_neg (by omega), if_neg (by omega), if_neg (by omega), if_neg (by omega), if_neg (by omega), if_neg (by omega)] at hc
  exact va_zast hOk.1 hOk.2.1 hIn.1 hIn.2.1 hIn.2.2.1 hIn.2.2.2.1 i 1 hc rfl hin hd (fun H1 locs1 hP hD hS => k p l e R s mi args below meth c G ad0 nx0 A ad H1 locs1 ls hOk (hIn.setw rfl he (fun a h => cel_mset_ne _ _ h) hIn.2.2.2.2.2.2.2 hP hD hS) hL (sw_tl (sw_tl (sw_tl hst))))
theorem b_alen {E : ME} {Φ : Option AV → AM → Prop} {pc : Nat} {L : List (Option AV)} {st : List AV} {m : AM} {a : Nat × Nat} {t i : Nat} (v : Int32) (ht : 100 ≤ t ∧ t < 20000) (hv : Int32.ofNat (t - 100) = v) (hd : decode E.1 pc = .ok (.arraylength, 1)) (k : B E Φ (pc + 1) L (vi v :: st) m a) : B E Φ pc (L) (vr t i :: st) m a := by
  intro p l e R s mi args below meth c G ad0 nx0 A ad H locs ls hOk hIn hL hst
  have hw := hst _ List.mem_cons_self
  have hc := hIn.cell hw
  unfold celT at hc
  rw [if_neg (by omega), if_neg (by omega), if_neg (by omega), if_neg (by omega), if_neg (by omega), if_pos ht.2] at hc
  exact va_alen hOk.1 hOk.2.1 hIn.1 hIn.2.1 i 0 hc rfl hv hd (k p l e R s mi args below meth c G ad0 nx0 A ad H locs ls hOk hIn hL (sw_i (sw_tl hst)))
theorem b_alenD {E : ME} {Φ : Option AV → AM → Prop} {pc : Nat} {L : List (Option AV)} {st : List AV} {m : AM} {a : Nat × Nat} {i : Nat} (hd : decode E.1 pc = .ok (.arraylength, 1)) (k : B E Φ (pc + 1) L (vi (Int32.ofNat (m.2.2.1 i)) :: st) m a) : B E Φ pc (L) (vr 12 i :: st) m a := by
  intro p l e R s mi args below meth c G ad0 nx0 A ad H locs ls hOk hIn hL hst
  have hw := hst _ List.mem_cons_self
  have hc := hIn.cell hw
  unfold celT at hc
  rw [if_neg (by omega), if_pos rfl] at hc
  exact va_alen hOk.1 hOk.2.1 hIn.1 hIn.2.1 i 0 hc rfl rfl hd (k p l e R s mi args below meth c G ad0 nx0 A ad H locs ls hOk hIn hL (sw_i (sw_tl hst)))
theorem cat_le (ad : Nat → Nat) : ∀ st : List AV, ((st.map (cvA ad)).map fun v => v.category).sum ≤ 2 * st.length
  | [] => by simp
  | v :: st => by
    have h := cat_le ad st
    simp only [List.map_cons, List.sum_cons, List.length_cons]
    have h2 : (cvA ad v).category ≤ 2 := by rw [cvA_cat]; rcases v with x | x | q <;> simp
    omega
theorem b_mmax {E : ME} {Φ : Option AV → AM → Prop} {pc : Nat} {L : List (Option AV)} {st : List AV} {m : AM} {a : Nat × Nat} {idx : Nat} {x y : Int32} (hlink : Cond.methodLink E.2.1 idx Lib.Math.max.name ∈ TB) (hst' : Cond.static Lib.Math.max.name ∈ TB) (hini : Cond.initialized "java/lang/Math" ∈ TB) (hco : Cond.code Lib.Math.max.name Lib.Math.max.code 2 (some .int) ∈ TB) (hR : 1 ≤ E.2.2.2.2.2.2) (hsr : st.length ≤ 8) (ha : a.1 ≤ E.2.2.2.2.1 ∧ a.2 ≤ E.2.2.2.2.2.1) (hd : decode E.1 pc = .ok (.invokestatic idx, 3)) (k : B E Φ (pc + 3) L (vi (if x < y then y else x) :: st) m a) : B E Φ pc (L) (vi y :: vi x :: st) m a := by
  intro p l e R s mi args below meth c G ad0 nx0 A ad H locs ls hOk hIn hL hst
  have hts := hOk.2.2.2.2.2.1
  have hcat := cat_le ad st
  refine va_mmax hOk.1 hOk.2.1 (by rw [hOk.2.2.1]; exact hL.1.symm) hOk.2.2.2.2.1 (hts _ hlink) (hts _ hst') (hts _ hini) (hts _ hco) (by rw [hOk.2.2.2.2.2.2.2.1]; exact hR) (by rw [hOk.2.2.2.2.2.2.2.1]; show _ ≤ 64 * _; omega) (by rw [hOk.2.2.2.2.2.2.2.1]; exact ha.1) (by rw [hOk.2.2.2.2.2.2.2.1]; exact ha.2) hd ?_
  exact k p l e R s mi args below meth c G ad0 nx0 A ad H locs ls hOk hIn hL (sw_i (sw_tl (sw_tl hst)))
theorem b_mmin {E : ME} {Φ : Option AV → AM → Prop} {pc : Nat} {L : List (Option AV)} {st : List AV} {m : AM} {a : Nat × Nat} {idx : Nat} {x y : Int32} (hlink : Cond.methodLink E.2.1 idx Lib.Math.min.name ∈ TB) (hst' : Cond.static Lib.Math.min.name ∈ TB) (hini : Cond.initialized "java/lang/Math" ∈ TB) (hco : Cond.code Lib.Math.min.name Lib.Math.min.code 2 (some .int) ∈ TB) (hR : 1 ≤ E.2.2.2.2.2.2) (hsr : st.length ≤ 8) (ha : a.1 ≤ E.2.2.2.2.1 ∧ a.2 ≤ E.2.2.2.2.2.1) (hd : decode E.1 pc = .ok (.invokestatic idx, 3)) (k : B E Φ (pc + 3) L (vi (if y < x then y else x) :: st) m a) : B E Φ pc (L) (vi y :: vi x :: st) m a := by
  intro p l e R s mi args below meth c G ad0 nx0 A ad H locs ls hOk hIn hL hst
  have hts := hOk.2.2.2.2.2.1
  have hcat := cat_le ad st
  refine va_mmin hOk.1 hOk.2.1 (by rw [hOk.2.2.1]; exact hL.1.symm) hOk.2.2.2.2.1 (hts _ hlink) (hts _ hst') (hts _ hini) (hts _ hco) (by rw [hOk.2.2.2.2.2.2.2.1]; exact hR) (by rw [hOk.2.2.2.2.2.2.2.1]; show _ ≤ 64 * _; omega) (by rw [hOk.2.2.2.2.2.2.2.1]; exact ha.1) (by rw [hOk.2.2.2.2.2.2.2.1]; exact ha.2) hd ?_
  exact k p l e R s mi args below meth c G ad0 nx0 A ad H locs ls hOk hIn hL (sw_i (sw_tl (sw_tl hst)))
/-- the length of an int array by its tag -/
def alT (m : AM) (t i : Nat) : Nat := if t = 12 then m.2.2.1 i else t - 100
theorem InM.arr {G : va_G × (Nat → ClassId)} {ad0 : Nat → Nat} {nx0 : Nat} {A : Nat → Prop} {ad : Nat → Nat} {m : AM} {s : State} {H : Heap} {locs : List Loc} (h : InM G ad0 nx0 A ad m s H locs) {t i : Nat} (ht : t = 12 ∨ 100 ≤ t ∧ t < 20000) (hw : wt m (vr t i)) :
    (wsO G.2 ad m)[i]? = some (ad i, .inl (G.2 0, alT m t i, .inl (m.1 i))) := by
  have hc := h.cell hw
  unfold celT at hc
  unfold alT
  rcases ht with rfl | ht
  · rw [if_neg (by omega), if_pos rfl] at hc
    rw [if_pos rfl]
    exact hc
  · rw [if_neg (by omega), if_neg (by omega), if_neg (by omega), if_neg (by omega), if_neg (by omega), if_pos ht.2] at hc
    rw [if_neg (by omega)]
    exact hc
def aset (m : AM) (i : Nat) (f : Nat → Int32) : AM := (fun a => if a = i then f else m.1 a, m.2)
theorem aset_at (m : AM) (i : Nat) (f : Nat → Int32) : (aset m i f).1 i = f := by simp [aset]
theorem aset_ne (m : AM) {i a : Nat} (f : Nat → Int32) (h : a ≠ i) : (aset m i f).1 a = m.1 a := by simp [aset, h]
theorem cel_aset_ne {Y : Nat → ClassId} {ad : Nat → Nat} {m : AM} {i a : Nat} (f : Nat → Int32) (h : a ≠ i) : cel Y ad (aset m i f) a = cel Y ad m a := by
  unfold cel
  rw [aset_ne m f h]
  rfl
theorem b_acopy {E : ME} {Φ : Option AV → AM → Prop} {pc : Nat} {L : List (Option AV)} {st : List AV} {m : AM} {a : Nat × Nat} {t0 i0 t1 i1 idx : Nat} {sp dp n : Int32} (ht0 : t0 = 12 ∨ 100 ≤ t0 ∧ t0 < 20000) (ht1 : t1 = 12 ∨ 100 ≤ t1 ∧ t1 < 20000) (hlink : Cond.methodLink E.2.1 idx arraycopyName ∈ TB) (hnat : Cond.native arraycopyName ∈ TB) (hstat : Cond.static arraycopyName ∈ TB) (hini : Cond.initialized "java/lang/System" ∈ TB) (h1 : ¬ sp < 0) (h2 : ¬ dp < 0) (h3 : ¬ n < 0) (h4 : sp.toNatClampNeg + n.toNatClampNeg ≤ alT m t0 i0) (h5 : dp.toNatClampNeg + n.toNatClampNeg ≤ alT m t1 i1) (hR : 1 ≤ E.2.2.2.2.2.2) (hsr : st.length ≤ 8) (hd : decode E.1 pc = .ok (.invokestatic idx, 3)) (k : B E Φ (pc + 3) L st (aset m i1 (va_cpy (m.1 i0) (m.1 i1) sp.toNatClampNeg dp.toNatClampNeg n.toNatClampNeg)) a) : B E Φ pc (L) (vi n :: vi dp :: vr t1 i1 :: vi sp :: vr t0 i0 :: st) m a := by
  intro p l e R s mi args below meth c G ad0 nx0 A ad H locs ls hOk hIn hL hst
  have hts := hOk.2.2.2.2.2.1
  have hcat := cat_le ad st
  have hw1 : wt m (vr t1 i1) := hst _ (by simp)
  have hw0 : wt m (vr t0 i0) := hst _ (by simp)
  have hc0 := hIn.arr ht0 hw0
  have hc1 := hIn.arr ht1 hw1
  have he : cel G.2 ad (aset m i1 (va_cpy (m.1 i0) (m.1 i1) sp.toNatClampNeg dp.toNatClampNeg n.toNatClampNeg)) i1 = .inl (G.2 0, alT m t1 i1, .inl (va_cpy (m.1 i0) (m.1 i1) sp.toNatClampNeg dp.toNatClampNeg n.toNatClampNeg)) := by
    unfold cel celT alT
    rw [hw1.1, aset_at]
    rcases ht1 with rfl | ht1
    · rw [if_neg (by omega), if_pos rfl, if_pos rfl]
      rfl
    · rw [if_neg (by omega), if_neg (by omega), if_neg (by omega), if_neg (by omega), if_neg (by omega), if_pos ht1.2, if_neg (by omega)]
  have hF : 1 ≤ R.frames := by rw [hOk.2.2.2.2.2.2.2.1]; exact hR
  have h9 : nativeFrameWords "java/lang/System" "arraycopy" 5 ≤ 24 := by decide +kernel
  have hLo : ((st.map (cvA ad)).map fun v => v.category).sum + (nativeFrameWords "java/lang/System" "arraycopy" 5 + 11) ≤ R.locals := by
    rw [hOk.2.2.2.2.2.2.2.1]
    show _ ≤ 64 * _
    omega
  refine va_copyi hOk.1 hOk.2.1 (by rw [hOk.2.2.1]; exact hL.1.symm) hOk.2.2.2.2.1 (hts _ hlink) (hts _ hnat) (hts _ hstat) (hts _ hini) hIn.1 hIn.2.1 hIn.2.2.1 hIn.2.2.2.1 i0 i1 0 0 hc0 hc1 rfl rfl rfl h1 h2 h3 h4 h5 (fun _ _ => rfl) hF hLo hd ?_
  intro H1 locs1 hP hD hS
  exact k p l e R s mi args below meth c G ad0 nx0 A ad H1 locs1 ls hOk (hIn.setw rfl he (fun a h => cel_aset_ne _ h) hIn.2.2.2.2.2.2.2 hP hD hS) hL (fun w hw => hst w (by simp [hw]))
end
section
/-! CALLS, new arrays. -/
theorem cvA_ag {ad ad' : Nat → Nat} {m : AM} (hag : ∀ i, i < m.2.2.2 → ad' i = ad i) {v : AV} (h : wt m v) : cvA ad' v = cvA ad v := by
  rcases v with x | x | q
  · rfl
  · rfl
  · show Value.ref _ = Value.ref _
    rw [hag _ h.2]
theorem wt_up {m m' : AM} (hn : m.2.2.2 ≤ m'.2.2.2) {v : AV} (h : wt m v) : wt m' v := by
  rcases v with x | x | q
  · trivial
  · trivial
  · exact ⟨h.1, Nat.lt_of_lt_of_le h.2 hn⟩
theorem LHm.up {ad ad' : Nat → Nat} {m m' : AM} {ls : Array Slot} {nL : Nat} {L : List (Option AV)} (hag : ∀ i, i < m.2.2.2 → ad' i = ad i) (hn : m.2.2.2 ≤ m'.2.2.2) (h : LHm ad m ls nL L) : LHm ad' m' ls nL L :=
  ⟨h.1, h.2.1, fun k v hk => ⟨by rw [cvA_ag hag (h.2.2 k v hk).2]; exact (h.2.2 k v hk).1, wt_up hn (h.2.2 k v hk).2⟩⟩
theorem map_ag {ad ad' : Nat → Nat} {m : AM} (hag : ∀ i, i < m.2.2.2 → ad' i = ad i) {st : List AV} (h : ∀ v, v ∈ st → wt m v) : st.map (cvA ad') = st.map (cvA ad) :=
  List.map_congr_left (fun v hv => cvA_ag hag (h v hv))
theorem b_back {E : ME} {Φ Φ' : Option AV → AM → Prop} {pc : Nat} {L : List (Option AV)} {st : List AV} {m : AM} {a : Nat × Nat} {mc ms : Nat} (hk : ∀ r m', Φ' r m' → B E Φ (pc + 3) L (r.toList ++ st) m' (a.1 + mc, a.2 + ms))
    {p : Program} {l : Launch} {e : Env} {R : Room} {s : State} {mi : MethodId} {args : Array Value} {below : List Frame} {meth : Method} {c : Code} {G : va_G × (Nat → ClassId)} {ad0 : Nat → Nat} {nx0 : Nat} {A : Nat → Prop} {ad : Nat → Nat} {H : Heap} {locs : List Loc} {ls : Array Slot} {st0 : List Value} {as : Array Value}
    (hOk : OkM E p R s mi args meth c) (hIn : InM G ad0 nx0 A ad m s H locs) (hL : LHm ad m ls E.2.2.1 L) (hst : ∀ v, v ∈ st → wt m v)
    (hr : va_Run p l e R s mi args below meth c H locs a.1 a.2 mc ms (F0 mi pc ls st0) (st.map (cvA ad)) (Qg G ad m.2.2.2 (va_A (wsO G.2 ad m) H.size) Φ' as) (va_A (wsO G.2 ad m) H.size)) :
    W p l e R s mi args below meth c H locs a.1 a.2 (MQ below (Qg G ad0 nx0 A Φ) args s E.2.2.2.2.1 E.2.2.2.2.2.1 A) (F0 mi pc ls st0) := by
  intro T hT X
  obtain ⟨v, st₀, t, T', Lq, h0, X', hLq, e1, e2, ⟨⟨r, m', ad', hv, hΦ, hwr, hty, ⟨hP', hK'⟩, hD', hnx, hag⟩, hz, hkk⟩, stp⟩ := hr T hT X
  have hv2 : v = r.map (cvA ad') := by injection hv
  subst hv2
  rw [h0] at hz hkk
  have hS := hIn.2.2.2.1
  have hAA : ∀ q, va_A (wsO G.2 ad m) H.size q → A q := by
    rintro q (⟨k, en, hke⟩ | hq)
    · exact hIn.2.2.1.2 k _ hke
    · exact hIn.2.2.2.2.1 q (Nat.le_trans hS.1 hq)
  have kq := hk r m' hΦ p l e R s mi args below meth c G ad0 nx0 A ad' T'.heap (locs ++ Lq) ls hOk ⟨hIn.1, by rw [e1]; exact hP', hD'.weaken (fun k q hk hq => hAA _ hq), ⟨Nat.le_trans hS.1 (by rw [e1]; exact hz), fun q h1 h2 => by rw [e1, hkk q (Nat.lt_of_lt_of_le h1 hS.1) (fun z => h2 (hAA q z))]; exact hS.2.1 q h1 h2, fun q hq => by
      rcases List.mem_append.mp hq with h | h
      · exact hS.2.2 q h
      · exact hAA _ (hLq q h)⟩, hIn.2.2.2.2.1, fun i hi => (hag i (Nat.lt_of_lt_of_le hi hIn.2.2.2.2.2.2.1)).trans (hIn.2.2.2.2.2.1 i hi), Nat.le_trans hIn.2.2.2.2.2.2.1 hnx, hty⟩ (hL.up hag hnx) (fun w hw => by
      rcases List.mem_append.mp hw with h | h
      · exact hwr w (by cases r with | none => simp at h | some z => simp at h; rw [h])
      · exact wt_up hnx (hst w h))
  obtain ⟨t2, a1, b1⟩ := kq T' rfl X'
  refine ⟨t2, stp t2 ?_, b1⟩
  have e9 : (r.toList ++ st).map (cvA ad') = (r.map (cvA ad')).toList ++ st.map (cvA ad) := by
    rw [List.map_append, map_ag hag hst]
    cases r <;> rfl
  rw [e9] at a1
  exact a1
theorem tb_in {ws : List Cond} (h : ∀ w ∈ ws, w ∈ TB) : GoodIn TB ws := fun w hw => ⟨h w hw, (tb_good w (h w hw)).2⟩
theorem b_callV {y : MethodName} {E' : ME} {Sp : List AV → AM → (Option AV → AM → Prop) → Prop} (hS : Snd y E' Sp) {E : ME} {Φ : Option AV → AM → Prop} {pc : Nat} {L : List (Option AV)} {st : List AV} {m : AM} {a : Nat × Nat} {t i idx : Nat} (av : List AV) (q : vw_C)
    (hc : vwCl[t]? = some q) (hq : q.1 = y.cls) (ht : t < 12) (hl : Cond.methodLink E.2.1 idx y ∈ TB ∨ ∃ host, Cond.methodLinkNest E.2.1 idx y host ∈ TB) (hi : Cond.instanceMethod y ∈ TB) (hse : Cond.selects y.cls y y ∈ TB) (hini : Cond.initialized y.cls ∈ TB) (hco : Cond.code y E'.1 E'.2.2.1 E'.2.2.2.1 ∈ TB)
    (hds : y.cls ≠ "java/lang/invoke/MethodHandle" ∧ y.cls ≠ "java/lang/invoke/VarHandle" ∧ (parseMethodDescriptor y.desc).map (fun d => d.parameters.length) = some av.length) (hdep : E'.2.2.2.2.2.2 + 1 ≤ E.2.2.2.2.2.2 ∧ E'.2.2.1 ≤ 45) (hroom : a.1 + E'.2.2.2.2.1 ≤ E.2.2.2.2.1 ∧ a.2 + E'.2.2.2.2.2.1 ≤ E.2.2.2.2.2.1) (hsr : st.length ≤ 4)
    (hd : decode E.1 pc = .ok (.invokevirtual idx, 3)) (hsp : Sp (vr t i :: av) m (fun r m' => B E Φ (pc + 3) L (r.toList ++ st) m' (a.1 + E'.2.2.2.2.1, a.2 + E'.2.2.2.2.2.1))) : B E Φ pc L (av.reverse ++ vr t i :: st) m a := by
  intro p l e R s mi args below meth c G ad0 nx0 A ad H locs ls hOk hIn hL hst
  have hts := hOk.2.2.2.2.2.1
  have hty := hIn.2.2.2.2.2.2.2
  have hst2 : ∀ v, v ∈ st → wt m v := fun v hv => hst v (by simp [hv])
  have hb0 : wt m (vr t i) := hst _ (by simp)
  have hav : ∀ v, v ∈ vr t i :: av → wt m v := fun v hv => hst v (by
    rcases List.mem_cons.mp hv with h | h
    · simp [h]
    · simp [h])
  have hM := hS l G ad m (vr t i :: av) _ H.size hsp hav hty
  have hce := hIn.cell hb0
  unfold celT at hce
  rw [if_pos ht] at hce
  have hmem : ∀ w ∈ Cond.code y E'.1 E'.2.2.1 E'.2.2.2.1 :: TB, w ∈ TB := fun w hw => by
    rcases List.mem_cons.mp hw with h | h
    · rw [h]; exact hco
    · exact h
  have hR : (rmD E'.2.2.2.2.2.2 E'.2.2.2.2.1 E'.2.2.2.2.2.1).frames + 1 ≤ R.frames ∧ 8 + (E'.2.2.1 + 11) + (rmD E'.2.2.2.2.2.2 E'.2.2.2.2.1 E'.2.2.2.2.2.1).locals ≤ R.locals := by
    rw [hOk.2.2.2.2.2.2.2.1]
    refine ⟨hdep.1, ?_⟩
    show 8 + (E'.2.2.1 + 11) + 64 * E'.2.2.2.2.2.2 ≤ 64 * E.2.2.2.2.2.2
    have := hdep.1
    have := hdep.2
    omega
  have hpre : PreV s H y.cls (ad i) (va_Pc ((vr t i :: av).map (cvA ad)) (fun U => U.heap.size = H.size ∧ Wd G ad m U ∧ va_D (fun _ => True) (wsO G.2 ad m))) (av.map (cvA ad)) :=
    ⟨fun a U g mk q => by obtain ⟨q0, q1, ⟨qP, qK, qN⟩, qD⟩ := q; exact ⟨q0, q1, ⟨qP, va_K.moved (u := U) (U := U.calling g mk a) (Vm.Alike.refl U.vm) qK, va_Nw.same rfl rfl qN⟩, qD⟩, hq ▸ va_recv hIn.1 hIn.2.1 hc hce, fun U hU hW => ⟨rfl, by rw [hU], ⟨by rw [hU]; exact hIn.2.1, va_K.moved hW.alike hIn.1, nw_up hW hOk.2.2.2.2.2.2.2.2⟩, hIn.2.2.1.weaken (fun _ _ _ _ => trivial)⟩⟩
  have hcat := cat_le ad st
  have hW8 : ((st.map (cvA ad)).map fun v => v.category).sum ≤ 8 := by omega
  have hf : a.1 + E'.2.2.2.2.1 ≤ R.cells ∧ a.2 + E'.2.2.2.2.2.1 ≤ R.slots := by rw [hOk.2.2.2.2.2.2.2.1]; exact hroom
  have hstk : ((av.reverse ++ vr t i :: st).map (cvA ad)) = (av.map (cvA ad)).reverse ++ .ref (ad i) :: st.map (cvA ad) := by rw [List.map_append, List.map_reverse]; rfl
  rw [hstk]
  refine b_back (mc := E'.2.2.2.2.1) (ms := E'.2.2.2.2.2.1) (Φ' := fun r m' => B E Φ (pc + 3) L (r.toList ++ st) m' (a.1 + E'.2.2.2.2.1, a.2 + E'.2.2.2.2.2.1)) (fun r m' h => h) hOk hIn hL hst2 (as := (Value.ref (ad i) :: av.map (cvA ad)).toArray) ?_
  rcases hl with hl | ⟨host, hl⟩
  · exact va_runV (n := (av.map (cvA ad)).length) ⟨hOk.1, hOk.2.1, hOk.2.2.1, hOk.2.2.2.2.1, hts⟩ hM ⟨callB_of _ hts (tb_in hmem) rfl rfl rfl (hts _ hini) (hts _ hl) ⟨hds.1, hds.2.1, by rw [List.length_map]; exact hds.2.2⟩ hR, hts _ hi, hts _ hse⟩ hpre rfl rfl hL.1 rfl (lv_room hW8) hd hf
  · exact va_runVN (n := (av.map (cvA ad)).length) ⟨hOk.1, hOk.2.1, hOk.2.2.1, hOk.2.2.2.2.1, hts⟩ hM ⟨va_cnB _ hts (tb_in hmem) rfl rfl rfl (va_Nw.of rfl (hts _ hl)) (hts _ hini) ⟨hds.1, hds.2.1, by rw [List.length_map]; exact hds.2.2⟩ hR, hts _ hi, hts _ hse⟩ hpre rfl rfl hL.1 rfl (lv_room hW8) hd hf
theorem b_callS {y : MethodName} {E' : ME} {Sp : List AV → AM → (Option AV → AM → Prop) → Prop} (hS : Snd y E' Sp) {E : ME} {Φ : Option AV → AM → Prop} {pc : Nat} {L : List (Option AV)} {st : List AV} {m : AM} {a : Nat × Nat} {idx : Nat} (av : List AV)
    (hl : Cond.methodLink E.2.1 idx y ∈ TB ∨ ∃ host, Cond.methodLinkNest E.2.1 idx y host ∈ TB) (hi : Cond.static y ∈ TB) (hini : Cond.initialized y.cls ∈ TB) (hco : Cond.code y E'.1 E'.2.2.1 E'.2.2.2.1 ∈ TB)
    (hds : y.cls ≠ "java/lang/invoke/MethodHandle" ∧ y.cls ≠ "java/lang/invoke/VarHandle" ∧ (parseMethodDescriptor y.desc).map (fun d => d.parameters.length) = some av.length) (hdep : E'.2.2.2.2.2.2 + 1 ≤ E.2.2.2.2.2.2 ∧ E'.2.2.1 ≤ 45) (hroom : a.1 + E'.2.2.2.2.1 ≤ E.2.2.2.2.1 ∧ a.2 + E'.2.2.2.2.2.1 ≤ E.2.2.2.2.2.1) (hsr : st.length ≤ 4)
    (hd : decode E.1 pc = .ok (.invokestatic idx, 3)) (hsp : Sp av m (fun r m' => B E Φ (pc + 3) L (r.toList ++ st) m' (a.1 + E'.2.2.2.2.1, a.2 + E'.2.2.2.2.2.1))) : B E Φ pc L (av.reverse ++ st) m a := by
  intro p l e R s mi args below meth c G ad0 nx0 A ad H locs ls hOk hIn hL hst
  have hts := hOk.2.2.2.2.2.1
  have hty := hIn.2.2.2.2.2.2.2
  have hst2 : ∀ v, v ∈ st → wt m v := fun v hv => hst v (by simp [hv])
  have hav : ∀ v, v ∈ av → wt m v := fun v hv => hst v (by simp [hv])
  have hM := hS l G ad m av _ H.size hsp hav hty
  have hmem : ∀ w ∈ Cond.code y E'.1 E'.2.2.1 E'.2.2.2.1 :: TB, w ∈ TB := fun w hw => by
    rcases List.mem_cons.mp hw with h | h
    · rw [h]; exact hco
    · exact h
  have hR : (rmD E'.2.2.2.2.2.2 E'.2.2.2.2.1 E'.2.2.2.2.2.1).frames + 1 ≤ R.frames ∧ 8 + (E'.2.2.1 + 11) + (rmD E'.2.2.2.2.2.2 E'.2.2.2.2.1 E'.2.2.2.2.2.1).locals ≤ R.locals := by
    rw [hOk.2.2.2.2.2.2.2.1]
    refine ⟨hdep.1, ?_⟩
    show 8 + (E'.2.2.1 + 11) + 64 * E'.2.2.2.2.2.2 ≤ 64 * E.2.2.2.2.2.2
    have := hdep.1
    have := hdep.2
    omega
  have hpre : PreS s H (va_Pc (av.map (cvA ad)) (fun U => U.heap.size = H.size ∧ Wd G ad m U ∧ va_D (fun _ => True) (wsO G.2 ad m))) (av.map (cvA ad)) :=
    ⟨fun a U g mk q => by obtain ⟨q0, q1, ⟨qP, qK, qN⟩, qD⟩ := q; exact ⟨q0, q1, ⟨qP, va_K.moved (u := U) (U := U.calling g mk a) (Vm.Alike.refl U.vm) qK, va_Nw.same rfl rfl qN⟩, qD⟩, fun U hU hW => ⟨rfl, by rw [hU], ⟨by rw [hU]; exact hIn.2.1, va_K.moved hW.alike hIn.1, nw_up hW hOk.2.2.2.2.2.2.2.2⟩, hIn.2.2.1.weaken (fun _ _ _ _ => trivial)⟩⟩
  have hcat := cat_le ad st
  have hW8 : ((st.map (cvA ad)).map fun v => v.category).sum ≤ 8 := by omega
  have hf : a.1 + E'.2.2.2.2.1 ≤ R.cells ∧ a.2 + E'.2.2.2.2.2.1 ≤ R.slots := by rw [hOk.2.2.2.2.2.2.2.1]; exact hroom
  have hstk : ((av.reverse ++ st).map (cvA ad)) = (av.map (cvA ad)).reverse ++ st.map (cvA ad) := by rw [List.map_append, List.map_reverse]
  rw [hstk]
  refine b_back (mc := E'.2.2.2.2.1) (ms := E'.2.2.2.2.2.1) (Φ' := fun r m' => B E Φ (pc + 3) L (r.toList ++ st) m' (a.1 + E'.2.2.2.2.1, a.2 + E'.2.2.2.2.2.1)) (fun r m' h => h) hOk hIn hL hst2 (as := (av.map (cvA ad)).toArray) ?_
  rcases hl with hl | ⟨host, hl⟩
  · exact va_runS (n := (av.map (cvA ad)).length) ⟨hOk.1, hOk.2.1, hOk.2.2.1, hOk.2.2.2.2.1, hts⟩ hM ⟨callB_of _ hts (tb_in hmem) rfl rfl rfl (hts _ hini) (hts _ hl) ⟨hds.1, hds.2.1, by rw [List.length_map]; exact hds.2.2⟩ hR, hts _ hi⟩ hpre rfl rfl hL.1 rfl (lv_room hW8) hd hf
  · exact va_runSN (n := (av.map (cvA ad)).length) ⟨hOk.1, hOk.2.1, hOk.2.2.1, hOk.2.2.2.2.1, hts⟩ hM ⟨va_cnB _ hts (tb_in hmem) rfl rfl rfl (va_Nw.of rfl (hts _ hl)) (hts _ hini) ⟨hds.1, hds.2.1, by rw [List.length_map]; exact hds.2.2⟩ hR, hts _ hi, trivial⟩ hpre rfl rfl hL.1 rfl (lv_room hW8) hd hf
theorem kd_off (t t' o : Nat) (h : ∀ j, j < 125 → KD j = t → KD (j + o) = t' ∧ j + o < 125) {m : AM} {i : Nat} (ht : t ≠ 12) (hw : wt m (vr t i)) (hm : TY m) : wt m (vr t' (i + o)) := by
  have hi : i < 125 := by
    rcases Nat.lt_or_ge i 125 with h1 | h1
    · exact h1
    · have h9 : KD i = t := hw.1
      rw [KD_ge h1] at h9
      exact absurd h9.symm ht
  have h2 := h i hi hw.1
  exact ⟨h2.1, Nat.lt_of_lt_of_le h2.2 hm.1⟩
end
section
/-! the tables' words that are used, each by its place -/
theorem tb1 {w : Cond} (i : Nat) (h : tables_1_1[i]? = some w) (g : goodWord w = true) : w ∈ TB := List.mem_filter.mpr ⟨List.mem_append_right _ (List.mem_append_left _ (List.mem_of_getElem? h)), g⟩
theorem tb2 {w : Cond} (i : Nat) (h : tables_1_2[i]? = some w) (g : goodWord w = true) : w ∈ TB := List.mem_filter.mpr ⟨List.mem_append_right _ (List.mem_append_right _ (List.mem_append_left _ (List.mem_of_getElem? h))), g⟩
theorem tb3 {w : Cond} (i : Nat) (h : tables_1_3[i]? = some w) (g : goodWord w = true) : w ∈ TB := List.mem_filter.mpr ⟨List.mem_append_right _ (List.mem_append_right _ (List.mem_append_right _ (List.mem_append_left _ (List.mem_of_getElem? h)))), g⟩
theorem tb4 {w : Cond} (i : Nat) (h : tables_1_4[i]? = some w) (g : goodWord w = true) : w ∈ TB := List.mem_filter.mpr ⟨List.mem_append_right _ (List.mem_append_right _ (List.mem_append_right _ (List.mem_append_right _ (List.mem_append_left _ (List.mem_of_getElem? h))))), g⟩
theorem tb5 {w : Cond} (i : Nat) (h : tables_1_5[i]? = some w) (g : goodWord w = true) : w ∈ TB := List.mem_filter.mpr ⟨List.mem_append_right _ (List.mem_append_right _ (List.mem_append_right _ (List.mem_append_right _ (List.mem_append_right _ (List.mem_append_left _ (List.mem_of_getElem? h)))))), g⟩
theorem tb6 {w : Cond} (i : Nat) (h : tables_1_6[i]? = some w) (g : goodWord w = true) : w ∈ TB := List.mem_filter.mpr ⟨List.mem_append_right _ (List.mem_append_right _ (List.mem_append_right _ (List.mem_append_right _ (List.mem_append_right _ (List.mem_append_right _ (List.mem_of_getElem? h)))))), g⟩
theorem k0 : (Jvm.Cond.selects "BelievedWords" ({ cls := "BelievedWords", name := "found", desc := "(I)I" } : Jvm.MethodName) ({ cls := "BelievedWords", name := "found", desc := "(I)I" } : Jvm.MethodName)) ∈ TB := tb_of 0 rfl rfl
theorem k1 : (Jvm.Cond.selects "BelievedWords" ({ cls := "BelievedWords", name := "fine", desc := "(I)I" } : Jvm.MethodName) ({ cls := "BelievedWords", name := "fine", desc := "(I)I" } : Jvm.MethodName)) ∈ TB := tb_of 1 rfl rfl
theorem k2 : (Jvm.Cond.selects "BelievedWords$Tape" ({ cls := "BelievedWords$Tape", name := "readLaw", desc := "()Z" } : Jvm.MethodName) ({ cls := "BelievedWords$Tape", name := "readLaw", desc := "()Z" } : Jvm.MethodName)) ∈ TB := tb_of 2 rfl rfl
theorem k3 : (Jvm.Cond.selects "BelievedWords$Tape" ({ cls := "BelievedWords$Tape", name := "takes", desc := "(I)Z" } : Jvm.MethodName) ({ cls := "BelievedWords$Tape", name := "takes", desc := "(I)Z" } : Jvm.MethodName)) ∈ TB := tb_of 3 rfl rfl
theorem k4 : (Jvm.Cond.selects "BelievedWords$Tape" ({ cls := "BelievedWords$Tape", name := "step", desc := "()V" } : Jvm.MethodName) ({ cls := "BelievedWords$Tape", name := "step", desc := "()V" } : Jvm.MethodName)) ∈ TB := tb_of 4 rfl rfl
theorem k5 : (Jvm.Cond.selects "BelievedWords$Tape" ({ cls := "BelievedWords$Tape", name := "stepOverFigures", desc := "()V" } : Jvm.MethodName) ({ cls := "BelievedWords$Tape", name := "stepOverFigures", desc := "()V" } : Jvm.MethodName)) ∈ TB := tb_of 5 rfl rfl
theorem k6 : (Jvm.Cond.selects "BelievedWords$Tape" ({ cls := "BelievedWords$Tape", name := "fails", desc := "(I)Z" } : Jvm.MethodName) ({ cls := "BelievedWords$Tape", name := "fails", desc := "(I)Z" } : Jvm.MethodName)) ∈ TB := tb_of 6 rfl rfl
theorem k7 : (Jvm.Cond.selects "BelievedWords$Tape" ({ cls := "BelievedWords$Tape", name := "takesNumber", desc := "(II)Z" } : Jvm.MethodName) ({ cls := "BelievedWords$Tape", name := "takesNumber", desc := "(II)Z" } : Jvm.MethodName)) ∈ TB := tb_of 7 rfl rfl
theorem k8 : (Jvm.Cond.selects "BelievedWords$Tape" ({ cls := "BelievedWords$Tape", name := "readRules", desc := "()Z" } : Jvm.MethodName) ({ cls := "BelievedWords$Tape", name := "readRules", desc := "()Z" } : Jvm.MethodName)) ∈ TB := tb_of 8 rfl rfl
theorem k9 : (Jvm.Cond.selects "BelievedWords$Tape" ({ cls := "BelievedWords$Tape", name := "readRule", desc := "(I)Z" } : Jvm.MethodName) ({ cls := "BelievedWords$Tape", name := "readRule", desc := "(I)Z" } : Jvm.MethodName)) ∈ TB := tb_of 9 rfl rfl
theorem k10 : (Jvm.Cond.selects "BelievedWords$Tape" ({ cls := "BelievedWords$Tape", name := "readPeople", desc := "()Z" } : Jvm.MethodName) ({ cls := "BelievedWords$Tape", name := "readPeople", desc := "()Z" } : Jvm.MethodName)) ∈ TB := tb_of 10 rfl rfl
theorem k11 : (Jvm.Cond.selects "BelievedWords$Court" ({ cls := "BelievedWords$Court", name := "gatherRules", desc := "()V" } : Jvm.MethodName) ({ cls := "BelievedWords$Court", name := "gatherRules", desc := "()V" } : Jvm.MethodName)) ∈ TB := tb_of 11 rfl rfl
theorem k12 : (Jvm.Cond.selects "BelievedWords$Court" ({ cls := "BelievedWords$Court", name := "believed", desc := "(IIII)I" } : Jvm.MethodName) ({ cls := "BelievedWords$Court", name := "believed", desc := "(IIII)I" } : Jvm.MethodName)) ∈ TB := tb_of 12 rfl rfl
theorem k13 : (Jvm.Cond.selects "BelievedWords$Court" ({ cls := "BelievedWords$Court", name := "grow", desc := "(I)I" } : Jvm.MethodName) ({ cls := "BelievedWords$Court", name := "grow", desc := "(I)I" } : Jvm.MethodName)) ∈ TB := tb_of 13 rfl rfl
theorem k14 : (Jvm.Cond.selects "BelievedWords$Court" ({ cls := "BelievedWords$Court", name := "isBarred", desc := "(I)Z" } : Jvm.MethodName) ({ cls := "BelievedWords$Court", name := "isBarred", desc := "(I)Z" } : Jvm.MethodName)) ∈ TB := tb_of 14 rfl rfl
theorem k15 : (Jvm.Cond.selects "BelievedWords" ({ cls := "BelievedWords", name := "refusalOfGoal", desc := "(III)I" } : Jvm.MethodName) ({ cls := "BelievedWords", name := "refusalOfGoal", desc := "(III)I" } : Jvm.MethodName)) ∈ TB := tb_of 15 rfl rfl
theorem k16 : (Jvm.Cond.selects "BelievedWords$Search" ({ cls := "BelievedWords$Search", name := "begin", desc := "(LBelievedWords$Law;IIZ)V" } : Jvm.MethodName) ({ cls := "BelievedWords$Search", name := "begin", desc := "(LBelievedWords$Law;IIZ)V" } : Jvm.MethodName)) ∈ TB := tb_of 16 rfl rfl
theorem k17 : (Jvm.Cond.selects "BelievedWords$Search" ({ cls := "BelievedWords$Search", name := "gatherMovers", desc := "(LBelievedWords$Law;)V" } : Jvm.MethodName) ({ cls := "BelievedWords$Search", name := "gatherMovers", desc := "(LBelievedWords$Law;)V" } : Jvm.MethodName)) ∈ TB := tb_of 17 rfl rfl
theorem k18 : (Jvm.Cond.selects "BelievedWords$Search" ({ cls := "BelievedWords$Search", name := "isMet", desc := "(I)Z" } : Jvm.MethodName) ({ cls := "BelievedWords$Search", name := "isMet", desc := "(I)Z" } : Jvm.MethodName)) ∈ TB := tb_of 18 rfl rfl
theorem k19 : (Jvm.Cond.selects "BelievedWords$Search" ({ cls := "BelievedWords$Search", name := "explore", desc := "(LBelievedWords$Court;)I" } : Jvm.MethodName) ({ cls := "BelievedWords$Search", name := "explore", desc := "(LBelievedWords$Court;)I" } : Jvm.MethodName)) ∈ TB := tb_of 19 rfl rfl
theorem k20 : (Jvm.Cond.selects "BelievedWords$Search" ({ cls := "BelievedWords$Search", name := "sayFirst", desc := "(LBelievedWords$Court;)V" } : Jvm.MethodName) ({ cls := "BelievedWords$Search", name := "sayFirst", desc := "(LBelievedWords$Court;)V" } : Jvm.MethodName)) ∈ TB := tb_of 20 rfl rfl
theorem k21 : (Jvm.Cond.selects "BelievedWords$Search" ({ cls := "BelievedWords$Search", name := "stepOf", desc := "(II)I" } : Jvm.MethodName) ({ cls := "BelievedWords$Search", name := "stepOf", desc := "(II)I" } : Jvm.MethodName)) ∈ TB := tb_of 21 rfl rfl
theorem k22 : (Jvm.Cond.selects "BelievedWords$Search" ({ cls := "BelievedWords$Search", name := "enter", desc := "(IIII)V" } : Jvm.MethodName) ({ cls := "BelievedWords$Search", name := "enter", desc := "(IIII)V" } : Jvm.MethodName)) ∈ TB := tb_of 22 rfl rfl
theorem k23 : (Jvm.Cond.selects "BelievedWords$Search" ({ cls := "BelievedWords$Search", name := "soOf", desc := "(I)I" } : Jvm.MethodName) ({ cls := "BelievedWords$Search", name := "soOf", desc := "(I)I" } : Jvm.MethodName)) ∈ TB := tb_of 23 rfl rfl
theorem k24 : (Jvm.Cond.selects "BelievedWords$Search" ({ cls := "BelievedWords$Search", name := "lead", desc := "(LBelievedWords$Court;I)V" } : Jvm.MethodName) ({ cls := "BelievedWords$Search", name := "lead", desc := "(LBelievedWords$Court;I)V" } : Jvm.MethodName)) ∈ TB := tb_of 24 rfl rfl
theorem k25 : (Jvm.Cond.selects "BelievedWords$Foresight" ({ cls := "BelievedWords$Foresight", name := "tellSaying", desc := "(LBelievedWords$Court;IIIIZ)V" } : Jvm.MethodName) ({ cls := "BelievedWords$Foresight", name := "tellSaying", desc := "(LBelievedWords$Court;IIIIZ)V" } : Jvm.MethodName)) ∈ TB := tb_of 25 rfl rfl
theorem k26 : (Jvm.Cond.selects "BelievedWords$Foresight" ({ cls := "BelievedWords$Foresight", name := "turnOver", desc := "()V" } : Jvm.MethodName) ({ cls := "BelievedWords$Foresight", name := "turnOver", desc := "()V" } : Jvm.MethodName)) ∈ TB := tb_of 26 rfl rfl
theorem k27 : (Jvm.Cond.selects "BelievedWords$Asks" ({ cls := "BelievedWords$Asks", name := "askedOf", desc := "(LBelievedWords$Court;III)I" } : Jvm.MethodName) ({ cls := "BelievedWords$Asks", name := "askedOf", desc := "(LBelievedWords$Court;III)I" } : Jvm.MethodName)) ∈ TB := tb_of 27 rfl rfl
theorem k28 : (Jvm.Cond.selects "BelievedWords$Asks" ({ cls := "BelievedWords$Asks", name := "body", desc := "(LBelievedWords$Court;III)I" } : Jvm.MethodName) ({ cls := "BelievedWords$Asks", name := "body", desc := "(LBelievedWords$Court;III)I" } : Jvm.MethodName)) ∈ TB := tb_of 28 rfl rfl
theorem k29 : (Jvm.Cond.selects "BelievedWords$Asks" ({ cls := "BelievedWords$Asks", name := "leave", desc := "(I)V" } : Jvm.MethodName) ({ cls := "BelievedWords$Asks", name := "leave", desc := "(I)V" } : Jvm.MethodName)) ∈ TB := tb_of 29 rfl rfl
theorem k30 : (Jvm.Cond.selects "BelievedWordsModel" ({ cls := "BelievedWordsModel", name := "finding", desc := "(I)I" } : Jvm.MethodName) ({ cls := "BelievedWordsModel", name := "finding", desc := "(I)I" } : Jvm.MethodName)) ∈ TB := tb_of 30 rfl rfl
theorem k31 : (Jvm.Cond.selects "BelievedWordsModel" ({ cls := "BelievedWordsModel", name := "begin", desc := "()V" } : Jvm.MethodName) ({ cls := "BelievedWordsModel", name := "begin", desc := "()V" } : Jvm.MethodName)) ∈ TB := tb_of 31 rfl rfl
theorem k32 : (Jvm.Cond.selects "BelievedWordsModel" ({ cls := "BelievedWordsModel", name := "nextToken", desc := "()V" } : Jvm.MethodName) ({ cls := "BelievedWordsModel", name := "nextToken", desc := "()V" } : Jvm.MethodName)) ∈ TB := tb_of 32 rfl rfl
theorem k33 : (Jvm.Cond.selects "BelievedWordsModel" ({ cls := "BelievedWordsModel", name := "isLetter", desc := "(I)Z" } : Jvm.MethodName) ({ cls := "BelievedWordsModel", name := "isLetter", desc := "(I)Z" } : Jvm.MethodName)) ∈ TB := tb_of 33 rfl rfl
theorem k34 : (Jvm.Cond.selects "BelievedWordsModel" ({ cls := "BelievedWordsModel", name := "must", desc := "(Z)V" } : Jvm.MethodName) ({ cls := "BelievedWordsModel", name := "must", desc := "(Z)V" } : Jvm.MethodName)) ∈ TB := tb_of 34 rfl rfl
theorem k35 : (Jvm.Cond.selects "BelievedWordsModel" ({ cls := "BelievedWordsModel", name := "bad", desc := "(I)V" } : Jvm.MethodName) ({ cls := "BelievedWordsModel", name := "bad", desc := "(I)V" } : Jvm.MethodName)) ∈ TB := tb_of 35 rfl rfl
theorem k36 : (Jvm.Cond.selects "BelievedWordsModel" ({ cls := "BelievedWordsModel", name := "number", desc := "(II)I" } : Jvm.MethodName) ({ cls := "BelievedWordsModel", name := "number", desc := "(II)I" } : Jvm.MethodName)) ∈ TB := tb_of 36 rfl rfl
theorem k37 : (Jvm.Cond.selects "BelievedWordsModel" ({ cls := "BelievedWordsModel", name := "mustSign", desc := "(I)V" } : Jvm.MethodName) ({ cls := "BelievedWordsModel", name := "mustSign", desc := "(I)V" } : Jvm.MethodName)) ∈ TB := tb_of 37 rfl rfl
theorem k38 : (Jvm.Cond.selects "BelievedWordsModel" ({ cls := "BelievedWordsModel", name := "readRule", desc := "()V" } : Jvm.MethodName) ({ cls := "BelievedWordsModel", name := "readRule", desc := "()V" } : Jvm.MethodName)) ∈ TB := tb_of 38 rfl rfl
theorem k39 : (Jvm.Cond.selects "BelievedWordsModel" ({ cls := "BelievedWordsModel", name := "isTold", desc := "(IIJ)Z" } : Jvm.MethodName) ({ cls := "BelievedWordsModel", name := "isTold", desc := "(IIJ)Z" } : Jvm.MethodName)) ∈ TB := tb_of 39 rfl rfl
theorem k40 : (Jvm.Cond.selects "BelievedWordsModel" ({ cls := "BelievedWordsModel", name := "isSort", desc := "()Z" } : Jvm.MethodName) ({ cls := "BelievedWordsModel", name := "isSort", desc := "()Z" } : Jvm.MethodName)) ∈ TB := tb_of 40 rfl rfl
theorem k41 : (Jvm.Cond.selects "BelievedWordsModel" ({ cls := "BelievedWordsModel", name := "failed", desc := "()Z" } : Jvm.MethodName) ({ cls := "BelievedWordsModel", name := "failed", desc := "()Z" } : Jvm.MethodName)) ∈ TB := tb_of 41 rfl rfl
theorem k42 : (Jvm.Cond.selects "BelievedWordsModel" ({ cls := "BelievedWordsModel", name := "isPerson", desc := "(I)Z" } : Jvm.MethodName) ({ cls := "BelievedWordsModel", name := "isPerson", desc := "(I)Z" } : Jvm.MethodName)) ∈ TB := tb_of 42 rfl rfl
theorem k43 : (Jvm.Cond.selects "BelievedWordsModel" ({ cls := "BelievedWordsModel", name := "isSaying", desc := "(J)Z" } : Jvm.MethodName) ({ cls := "BelievedWordsModel", name := "isSaying", desc := "(J)Z" } : Jvm.MethodName)) ∈ TB := tb_of 43 rfl rfl
theorem k44 : (Jvm.Cond.selects "BelievedWordsModel" ({ cls := "BelievedWordsModel", name := "keep", desc := "()V" } : Jvm.MethodName) ({ cls := "BelievedWordsModel", name := "keep", desc := "()V" } : Jvm.MethodName)) ∈ TB := tb_of 44 rfl rfl
theorem k45 : (Jvm.Cond.selects "BelievedWordsModel" ({ cls := "BelievedWordsModel", name := "after", desc := "(IIII)I" } : Jvm.MethodName) ({ cls := "BelievedWordsModel", name := "after", desc := "(IIII)I" } : Jvm.MethodName)) ∈ TB := tb_of 45 rfl rfl
theorem k46 : (Jvm.Cond.selects "BelievedWordsModel" ({ cls := "BelievedWordsModel", name := "kindOf", desc := "(I)I" } : Jvm.MethodName) ({ cls := "BelievedWordsModel", name := "kindOf", desc := "(I)I" } : Jvm.MethodName)) ∈ TB := tb_of 46 rfl rfl
theorem k47 : (Jvm.Cond.selects "BelievedWordsModel" ({ cls := "BelievedWordsModel", name := "afterBy", desc := "(IIII)I" } : Jvm.MethodName) ({ cls := "BelievedWordsModel", name := "afterBy", desc := "(IIII)I" } : Jvm.MethodName)) ∈ TB := tb_of 47 rfl rfl
theorem k48 : (Jvm.Cond.selects "BelievedWordsModel" ({ cls := "BelievedWordsModel", name := "closed", desc := "(I)I" } : Jvm.MethodName) ({ cls := "BelievedWordsModel", name := "closed", desc := "(I)I" } : Jvm.MethodName)) ∈ TB := tb_of 48 rfl rfl
theorem k49 : (Jvm.Cond.selects "BelievedWordsModel" ({ cls := "BelievedWordsModel", name := "canBe", desc := "(I)Z" } : Jvm.MethodName) ({ cls := "BelievedWordsModel", name := "canBe", desc := "(I)Z" } : Jvm.MethodName)) ∈ TB := tb_of 49 rfl rfl
theorem k50 : (Jvm.Cond.selects "BelievedWordsModel" ({ cls := "BelievedWordsModel", name := "isFact", desc := "(I)Z" } : Jvm.MethodName) ({ cls := "BelievedWordsModel", name := "isFact", desc := "(I)Z" } : Jvm.MethodName)) ∈ TB := tb_of 50 rfl rfl
theorem k51 : (Jvm.Cond.selects "BelievedWordsModel" ({ cls := "BelievedWordsModel", name := "isRule", desc := "(I)Z" } : Jvm.MethodName) ({ cls := "BelievedWordsModel", name := "isRule", desc := "(I)Z" } : Jvm.MethodName)) ∈ TB := tb_of 51 rfl rfl
theorem k52 : (Jvm.Cond.selects "BelievedWordsModel" ({ cls := "BelievedWordsModel", name := "isThere", desc := "()Z" } : Jvm.MethodName) ({ cls := "BelievedWordsModel", name := "isThere", desc := "()Z" } : Jvm.MethodName)) ∈ TB := tb_of 52 rfl rfl
theorem k53 : (Jvm.Cond.selects "BelievedWordsModel" ({ cls := "BelievedWordsModel", name := "areTold", desc := "(II)Z" } : Jvm.MethodName) ({ cls := "BelievedWordsModel", name := "areTold", desc := "(II)Z" } : Jvm.MethodName)) ∈ TB := tb_of 53 rfl rfl
theorem k54 : (Jvm.Cond.selects "BelievedWordsModel" ({ cls := "BelievedWordsModel", name := "areFacts", desc := "(I)Z" } : Jvm.MethodName) ({ cls := "BelievedWordsModel", name := "areFacts", desc := "(I)Z" } : Jvm.MethodName)) ∈ TB := tb_of 54 rfl rfl
theorem k55 : (Jvm.Cond.selects "BelievedWordsModel" ({ cls := "BelievedWordsModel", name := "isSoNow", desc := "(II)Z" } : Jvm.MethodName) ({ cls := "BelievedWordsModel", name := "isSoNow", desc := "(II)Z" } : Jvm.MethodName)) ∈ TB := tb_of 55 rfl rfl
theorem k56 : (Jvm.Cond.selects "BelievedWordsModel" ({ cls := "BelievedWordsModel", name := "spread", desc := "(Z)V" } : Jvm.MethodName) ({ cls := "BelievedWordsModel", name := "spread", desc := "(Z)V" } : Jvm.MethodName)) ∈ TB := tb_of 56 rfl rfl
theorem k57 : (Jvm.Cond.selects "BelievedWordsModel" ({ cls := "BelievedWordsModel", name := "clearStates", desc := "()V" } : Jvm.MethodName) ({ cls := "BelievedWordsModel", name := "clearStates", desc := "()V" } : Jvm.MethodName)) ∈ TB := tb_of 57 rfl rfl
theorem k58 : (Jvm.Cond.selects "BelievedWordsModel" ({ cls := "BelievedWordsModel", name := "goOn", desc := "(IIIZ)V" } : Jvm.MethodName) ({ cls := "BelievedWordsModel", name := "goOn", desc := "(IIIZ)V" } : Jvm.MethodName)) ∈ TB := tb_of 58 rfl rfl
theorem k59 : (Jvm.Cond.selects "BelievedWordsModel" ({ cls := "BelievedWordsModel", name := "bestOf", desc := "(III)I" } : Jvm.MethodName) ({ cls := "BelievedWordsModel", name := "bestOf", desc := "(III)I" } : Jvm.MethodName)) ∈ TB := tb_of 59 rfl rfl
theorem k60 : (Jvm.Cond.selects "BelievedWordsModel" ({ cls := "BelievedWordsModel", name := "madeBy", desc := "(I)I" } : Jvm.MethodName) ({ cls := "BelievedWordsModel", name := "madeBy", desc := "(I)I" } : Jvm.MethodName)) ∈ TB := tb_of 60 rfl rfl
theorem k61 : (Jvm.Cond.selects "BelievedWordsModel" ({ cls := "BelievedWordsModel", name := "afterAll", desc := "(III)I" } : Jvm.MethodName) ({ cls := "BelievedWordsModel", name := "afterAll", desc := "(III)I" } : Jvm.MethodName)) ∈ TB := tb_of 61 rfl rfl
theorem k62 : (Jvm.Cond.selects "BelievedWordsModel" ({ cls := "BelievedWordsModel", name := "sizeOf", desc := "(I)I" } : Jvm.MethodName) ({ cls := "BelievedWordsModel", name := "sizeOf", desc := "(I)I" } : Jvm.MethodName)) ∈ TB := tb_of 62 rfl rfl
theorem k63 : (Jvm.Cond.selects "BelievedWordsModel" ({ cls := "BelievedWordsModel", name := "quietSize", desc := "(I)I" } : Jvm.MethodName) ({ cls := "BelievedWordsModel", name := "quietSize", desc := "(I)I" } : Jvm.MethodName)) ∈ TB := tb_of 63 rfl rfl
theorem k64 : (Jvm.Cond.selects "BelievedWordsModel" ({ cls := "BelievedWordsModel", name := "began", desc := "(I)V" } : Jvm.MethodName) ({ cls := "BelievedWordsModel", name := "began", desc := "(I)V" } : Jvm.MethodName)) ∈ TB := tb_of 64 rfl rfl
theorem k65 : (Jvm.Cond.selects "BelievedWordsModel" ({ cls := "BelievedWordsModel", name := "plainSize", desc := "(I)I" } : Jvm.MethodName) ({ cls := "BelievedWordsModel", name := "plainSize", desc := "(I)I" } : Jvm.MethodName)) ∈ TB := tb_of 65 rfl rfl
theorem k66 : (Jvm.Cond.selects "BelievedWordsModel" ({ cls := "BelievedWordsModel", name := "markOf", desc := "(I)I" } : Jvm.MethodName) ({ cls := "BelievedWordsModel", name := "markOf", desc := "(I)I" } : Jvm.MethodName)) ∈ TB := tb_of 66 rfl rfl
theorem k67 : (Jvm.Cond.initialized "BelievedWordsLaw") ∈ TB := tb1 0 rfl rfl
theorem k68 : (Jvm.Cond.initialized "BelievedWords") ∈ TB := tb1 1 rfl rfl
theorem k69 : (Jvm.Cond.initialized "BelievedWords$Rows") ∈ TB := tb1 2 rfl rfl
theorem k70 : (Jvm.Cond.initialized "java/util/Arrays") ∈ TB := tb1 3 rfl rfl
theorem k71 : (Jvm.Cond.initialized "BelievedWords$Tape") ∈ TB := tb1 4 rfl rfl
theorem k72 : (Jvm.Cond.initialized "BelievedWords$Law") ∈ TB := tb1 5 rfl rfl
theorem k73 : (Jvm.Cond.initialized "BelievedWords$Court") ∈ TB := tb1 6 rfl rfl
theorem k74 : (Jvm.Cond.initialized "BelievedWords$Standing") ∈ TB := tb1 7 rfl rfl
theorem k75 : (Jvm.Cond.initialized "BelievedWords$Acts") ∈ TB := tb1 8 rfl rfl
theorem k76 : (Jvm.Cond.initialized "BelievedWords$Search") ∈ TB := tb1 9 rfl rfl
theorem k77 : (Jvm.Cond.initialized "BelievedWords$Foresight") ∈ TB := tb1 10 rfl rfl
theorem k78 : (Jvm.Cond.initialized "BelievedWords$Asks") ∈ TB := tb1 11 rfl rfl
theorem k79 : (Jvm.Cond.initialized "BelievedWords$Image") ∈ TB := tb1 12 rfl rfl
theorem k80 : (Jvm.Cond.initialized "BelievedWordsModel") ∈ TB := tb1 13 rfl rfl
theorem k81 : (Jvm.Cond.initialized "java/lang/System") ∈ TB := tb1 14 rfl rfl
theorem k82 : (Jvm.Cond.initialized "java/lang/Math") ∈ TB := tb1 15 rfl rfl
theorem k83 : (Jvm.Cond.initialized "java/lang/Integer") ∈ TB := tb1 16 rfl rfl
theorem k84 : (Jvm.Cond.initialized "java/lang/Long") ∈ TB := tb1 17 rfl rfl
theorem k87 : (Jvm.Cond.methodLink "BelievedWordsLaw" (9 : Nat) ({ cls := "BelievedWords", name := "<init>", desc := "()V" } : Jvm.MethodName)) ∈ TB := tb1 20 rfl rfl
theorem k88 : (Jvm.Cond.instanceMethod ({ cls := "BelievedWords", name := "<init>", desc := "()V" } : Jvm.MethodName)) ∈ TB := tb1 21 rfl rfl
theorem k89 : (Jvm.Cond.code ({ cls := "BelievedWords", name := "<init>", desc := "()V" } : Jvm.MethodName) prog_1_method_1_code (2 : Nat) (Option.none : Option Jvm.ClassFile.FieldType)) ∈ TB := tb1 22 rfl rfl
theorem k90 : (Jvm.Cond.methodLink "BelievedWords" (1 : Nat) ({ cls := "java/lang/Object", name := "<init>", desc := "()V" } : Jvm.MethodName)) ∈ TB := tb1 23 rfl rfl
theorem k91 : (Jvm.Cond.instanceMethod ({ cls := "java/lang/Object", name := "<init>", desc := "()V" } : Jvm.MethodName)) ∈ TB := tb1 24 rfl rfl
theorem k92 : (Jvm.Cond.code ({ cls := "java/lang/Object", name := "<init>", desc := "()V" } : Jvm.MethodName) object_method_1_code (1 : Nat) (Option.none : Option Jvm.ClassFile.FieldType)) ∈ TB := tb1 25 rfl rfl
theorem k95 : (Jvm.Cond.methodLink "BelievedWords" (9 : Nat) ({ cls := "BelievedWords$Rows", name := "<init>", desc := "()V" } : Jvm.MethodName)) ∈ TB := tb1 28 rfl rfl
theorem k96 : (Jvm.Cond.instanceMethod ({ cls := "BelievedWords$Rows", name := "<init>", desc := "()V" } : Jvm.MethodName)) ∈ TB := tb1 29 rfl rfl
theorem k97 : (Jvm.Cond.code ({ cls := "BelievedWords$Rows", name := "<init>", desc := "()V" } : Jvm.MethodName) prog_8_method_1_code (1 : Nat) (Option.none : Option Jvm.ClassFile.FieldType)) ∈ TB := tb1 30 rfl rfl
theorem k98 : (Jvm.Cond.methodLink "BelievedWords$Rows" (3 : Nat) ({ cls := "java/lang/Object", name := "<init>", desc := "()V" } : Jvm.MethodName)) ∈ TB := tb1 31 rfl rfl
theorem k101 : (Jvm.Cond.methodLink "BelievedWords$Rows" (23 : Nat) ({ cls := "java/util/Arrays", name := "fill", desc := "([II)V" } : Jvm.MethodName)) ∈ TB := tb1 34 rfl rfl
theorem k102 : (Jvm.Cond.static ({ cls := "java/util/Arrays", name := "fill", desc := "([II)V" } : Jvm.MethodName)) ∈ TB := tb1 35 rfl rfl
theorem k103 : (Jvm.Cond.code ({ cls := "java/util/Arrays", name := "fill", desc := "([II)V" } : Jvm.MethodName) prog_19_method_103_code (4 : Nat) (Option.none : Option Jvm.ClassFile.FieldType)) ∈ TB := tb1 36 rfl rfl
theorem k104 : (Jvm.Cond.fieldLink "BelievedWords$Rows" (11 : Nat) "BelievedWords$Rows" "items" "[[I") ∈ TB := tb1 37 rfl rfl
theorem k105 : (Jvm.Cond.fieldLink "BelievedWords$Rows" (16 : Nat) "BelievedWords$Rows" "lanes" "[I") ∈ TB := tb1 38 rfl rfl
theorem k106 : (Jvm.Cond.fieldLink "BelievedWords$Rows" (20 : Nat) "BelievedWords$Rows" "lengths" "[I") ∈ TB := tb1 39 rfl rfl
theorem k107 : (Jvm.Cond.laysFinal "BelievedWords$Rows" "BelievedWords$Rows" "items" "[[I") ∈ TB := tb1 40 rfl rfl
theorem k109 : (Jvm.Cond.laysFinal "BelievedWords$Rows" "BelievedWords$Rows" "lanes" "[I") ∈ TB := tb1 42 rfl rfl
theorem k111 : (Jvm.Cond.laysFinal "BelievedWords$Rows" "BelievedWords$Rows" "lengths" "[I") ∈ TB := tb1 44 rfl rfl
theorem k114 : (Jvm.Cond.arrayClass Jvm.ClassFile.FieldType.int) ∈ TB := tb1 47 rfl rfl
theorem k118 : (Jvm.Cond.instanceMethod ({ cls := "BelievedWords$Tape", name := "<init>", desc := "()V" } : Jvm.MethodName)) ∈ TB := tb1 51 rfl rfl
theorem k119 : (Jvm.Cond.code ({ cls := "BelievedWords$Tape", name := "<init>", desc := "()V" } : Jvm.MethodName) prog_11_method_1_code (1 : Nat) (Option.none : Option Jvm.ClassFile.FieldType)) ∈ TB := tb1 52 rfl rfl
theorem k120 : (Jvm.Cond.methodLink "BelievedWords$Tape" (3 : Nat) ({ cls := "java/lang/Object", name := "<init>", desc := "()V" } : Jvm.MethodName)) ∈ TB := tb1 53 rfl rfl
theorem k124 : (Jvm.Cond.instanceMethod ({ cls := "BelievedWords$Law", name := "<init>", desc := "()V" } : Jvm.MethodName)) ∈ TB := tb1 57 rfl rfl
theorem k125 : (Jvm.Cond.code ({ cls := "BelievedWords$Law", name := "<init>", desc := "()V" } : Jvm.MethodName) prog_7_method_1_code (1 : Nat) (Option.none : Option Jvm.ClassFile.FieldType)) ∈ TB := tb1 58 rfl rfl
theorem k126 : (Jvm.Cond.methodLink "BelievedWords$Law" (3 : Nat) ({ cls := "java/lang/Object", name := "<init>", desc := "()V" } : Jvm.MethodName)) ∈ TB := tb1 59 rfl rfl
theorem k127 : (Jvm.Cond.fieldLink "BelievedWords$Law" (9 : Nat) "BelievedWords$Law" "sorts" "[I") ∈ TB := tb1 60 rfl rfl
theorem k128 : (Jvm.Cond.fieldLink "BelievedWords$Court" (71 : Nat) "BelievedWords$Law" "sorts" "[I") ∈ TB := tb1 61 rfl rfl
theorem k129 : (Jvm.Cond.fieldLink "BelievedWords" (198 : Nat) "BelievedWords$Law" "sorts" "[I") ∈ TB := tb1 62 rfl rfl
theorem k130 : (Jvm.Cond.fieldLink "BelievedWords$Law" (15 : Nat) "BelievedWords$Law" "ones" "[I") ∈ TB := tb1 63 rfl rfl
theorem k131 : (Jvm.Cond.fieldLink "BelievedWords$Court" (74 : Nat) "BelievedWords$Law" "ones" "[I") ∈ TB := tb1 64 rfl rfl
theorem k132 : (Jvm.Cond.fieldLink "BelievedWords" (202 : Nat) "BelievedWords$Law" "ones" "[I") ∈ TB := tb1 65 rfl rfl
theorem k133 : (Jvm.Cond.fieldLink "BelievedWords$Law" (18 : Nat) "BelievedWords$Law" "others" "[I") ∈ TB := tb1 66 rfl rfl
theorem k134 : (Jvm.Cond.fieldLink "BelievedWords$Court" (77 : Nat) "BelievedWords$Law" "others" "[I") ∈ TB := tb1 67 rfl rfl
theorem k135 : (Jvm.Cond.fieldLink "BelievedWords" (205 : Nat) "BelievedWords$Law" "others" "[I") ∈ TB := tb1 68 rfl rfl
theorem k136 : (Jvm.Cond.fieldLink "BelievedWords$Law" (21 : Nat) "BelievedWords$Law" "kinds" "[I") ∈ TB := tb1 69 rfl rfl
theorem k137 : (Jvm.Cond.fieldLink "BelievedWords$Asks" (33 : Nat) "BelievedWords$Law" "kinds" "[I") ∈ TB := tb1 70 rfl rfl
theorem k138 : (Jvm.Cond.fieldLink "BelievedWords$Court" (86 : Nat) "BelievedWords$Law" "kinds" "[I") ∈ TB := tb1 71 rfl rfl
theorem k139 : (Jvm.Cond.fieldLink "BelievedWords$Search" (121 : Nat) "BelievedWords$Law" "kinds" "[I") ∈ TB := tb1 72 rfl rfl
theorem k140 : (Jvm.Cond.fieldLink "BelievedWords$Foresight" (109 : Nat) "BelievedWords$Law" "kinds" "[I") ∈ TB := tb1 73 rfl rfl
theorem k141 : (Jvm.Cond.fieldLink "BelievedWords" (211 : Nat) "BelievedWords$Law" "kinds" "[I") ∈ TB := tb1 74 rfl rfl
theorem k142 : (Jvm.Cond.fieldLink "BelievedWords$Law" (24 : Nat) "BelievedWords$Law" "facts" "I") ∈ TB := tb1 75 rfl rfl
theorem k143 : (Jvm.Cond.fieldLink "BelievedWords$Court" (35 : Nat) "BelievedWords$Law" "facts" "I") ∈ TB := tb1 76 rfl rfl
theorem k144 : (Jvm.Cond.fieldLink "BelievedWords$Foresight" (30 : Nat) "BelievedWords$Law" "facts" "I") ∈ TB := tb1 77 rfl rfl
theorem k145 : (Jvm.Cond.fieldLink "BelievedWords$Search" (77 : Nat) "BelievedWords$Law" "facts" "I") ∈ TB := tb1 78 rfl rfl
theorem k146 : (Jvm.Cond.fieldLink "BelievedWords$Tape" (60 : Nat) "BelievedWords$Law" "facts" "I") ∈ TB := tb1 79 rfl rfl
theorem k147 : (Jvm.Cond.fieldLink "BelievedWords" (171 : Nat) "BelievedWords$Law" "facts" "I") ∈ TB := tb1 80 rfl rfl
theorem k148 : (Jvm.Cond.fieldLink "BelievedWords$Law" (28 : Nat) "BelievedWords$Law" "atFirst" "I") ∈ TB := tb1 81 rfl rfl
theorem k149 : (Jvm.Cond.fieldLink "BelievedWords$Court" (43 : Nat) "BelievedWords$Law" "atFirst" "I") ∈ TB := tb1 82 rfl rfl
theorem k150 : (Jvm.Cond.fieldLink "BelievedWords$Tape" (63 : Nat) "BelievedWords$Law" "atFirst" "I") ∈ TB := tb1 83 rfl rfl
theorem k151 : (Jvm.Cond.fieldLink "BelievedWords$Law" (31 : Nat) "BelievedWords$Law" "price" "I") ∈ TB := tb1 84 rfl rfl
theorem k152 : (Jvm.Cond.fieldLink "BelievedWords$Search" (56 : Nat) "BelievedWords$Law" "price" "I") ∈ TB := tb1 85 rfl rfl
theorem k153 : (Jvm.Cond.fieldLink "BelievedWords$Tape" (66 : Nat) "BelievedWords$Law" "price" "I") ∈ TB := tb1 86 rfl rfl
theorem k154 : (Jvm.Cond.fieldLink "BelievedWords$Court" (116 : Nat) "BelievedWords$Law" "price" "I") ∈ TB := tb1 87 rfl rfl
theorem k155 : (Jvm.Cond.fieldLink "BelievedWords" (318 : Nat) "BelievedWords$Law" "price" "I") ∈ TB := tb1 88 rfl rfl
theorem k156 : (Jvm.Cond.fieldLink "BelievedWords$Law" (34 : Nat) "BelievedWords$Law" "rules" "I") ∈ TB := tb1 89 rfl rfl
theorem k157 : (Jvm.Cond.fieldLink "BelievedWords$Court" (65 : Nat) "BelievedWords$Law" "rules" "I") ∈ TB := tb1 90 rfl rfl
theorem k158 : (Jvm.Cond.fieldLink "BelievedWords$Tape" (75 : Nat) "BelievedWords$Law" "rules" "I") ∈ TB := tb1 91 rfl rfl
theorem k159 : (Jvm.Cond.fieldLink "BelievedWords" (315 : Nat) "BelievedWords$Law" "rules" "I") ∈ TB := tb1 92 rfl rfl
theorem k160 : (Jvm.Cond.fieldLink "BelievedWords$Law" (37 : Nat) "BelievedWords$Law" "people" "I") ∈ TB := tb1 93 rfl rfl
theorem k161 : (Jvm.Cond.fieldLink "BelievedWords" (130 : Nat) "BelievedWords$Law" "people" "I") ∈ TB := tb1 94 rfl rfl
theorem k162 : (Jvm.Cond.fieldLink "BelievedWords$Search" (118 : Nat) "BelievedWords$Law" "people" "I") ∈ TB := tb1 95 rfl rfl
theorem k163 : (Jvm.Cond.fieldLink "BelievedWords$Foresight" (116 : Nat) "BelievedWords$Law" "people" "I") ∈ TB := tb1 96 rfl rfl
theorem k164 : (Jvm.Cond.laysFinal "BelievedWords$Law" "BelievedWords$Law" "sorts" "[I") ∈ TB := tb1 97 rfl rfl
theorem k166 : (Jvm.Cond.laysFinal "BelievedWords$Law" "BelievedWords$Law" "ones" "[I") ∈ TB := tb1 99 rfl rfl
theorem k168 : (Jvm.Cond.laysFinal "BelievedWords$Law" "BelievedWords$Law" "others" "[I") ∈ TB := tb1 101 rfl rfl
theorem k170 : (Jvm.Cond.laysFinal "BelievedWords$Law" "BelievedWords$Law" "kinds" "[I") ∈ TB := tb1 103 rfl rfl
theorem k172 : (Jvm.Cond.lays "BelievedWords$Law" "BelievedWords$Law" "facts" "I") ∈ TB := tb1 105 rfl rfl
theorem k174 : (Jvm.Cond.lays "BelievedWords$Law" "BelievedWords$Law" "atFirst" "I") ∈ TB := tb1 107 rfl rfl
theorem k176 : (Jvm.Cond.lays "BelievedWords$Law" "BelievedWords$Law" "price" "I") ∈ TB := tb1 109 rfl rfl
theorem k178 : (Jvm.Cond.lays "BelievedWords$Law" "BelievedWords$Law" "rules" "I") ∈ TB := tb1 111 rfl rfl
theorem k180 : (Jvm.Cond.lays "BelievedWords$Law" "BelievedWords$Law" "people" "I") ∈ TB := tb1 113 rfl rfl
theorem k183 : (Jvm.Cond.fieldLink "BelievedWords$Tape" (12 : Nat) "BelievedWords$Tape" "told" "LBelievedWords$Law;") ∈ TB := tb1 116 rfl rfl
theorem k184 : (Jvm.Cond.fieldLink "BelievedWords" (116 : Nat) "BelievedWords$Tape" "told" "LBelievedWords$Law;") ∈ TB := tb1 117 rfl rfl
theorem k185 : (Jvm.Cond.fieldLink "BelievedWords$Tape" (18 : Nat) "BelievedWords$Tape" "bytes" "[I") ∈ TB := tb1 118 rfl rfl
theorem k186 : (Jvm.Cond.fieldLink "BelievedWords$Tape" (22 : Nat) "BelievedWords$Tape" "length" "I") ∈ TB := tb1 119 rfl rfl
theorem k188 : (Jvm.Cond.fieldLink "BelievedWords$Tape" (100 : Nat) "BelievedWords$Tape" "at" "I") ∈ TB := tb1 121 rfl rfl
theorem k189 : (Jvm.Cond.fieldLink "BelievedWords$Tape" (36 : Nat) "BelievedWords$Tape" "behind" "I") ∈ TB := tb1 122 rfl rfl
theorem k190 : (Jvm.Cond.fieldLink "BelievedWords$Tape" (72 : Nat) "BelievedWords$Tape" "letter" "I") ∈ TB := tb1 123 rfl rfl
theorem k191 : (Jvm.Cond.fieldLink "BelievedWords$Tape" (57 : Nat) "BelievedWords$Tape" "number" "I") ∈ TB := tb1 124 rfl rfl
theorem k192 : (Jvm.Cond.fieldLink "BelievedWords$Tape" (27 : Nat) "BelievedWords$Tape" "fault" "I") ∈ TB := tb1 125 rfl rfl
theorem k193 : (Jvm.Cond.fieldLink "BelievedWords$Tape" (30 : Nat) "BelievedWords$Tape" "place" "I") ∈ TB := tb1 126 rfl rfl
theorem k194 : (Jvm.Cond.laysFinal "BelievedWords$Tape" "BelievedWords$Tape" "told" "LBelievedWords$Law;") ∈ TB := tb1 127 rfl rfl
theorem k196 : (Jvm.Cond.laysFinal "BelievedWords$Tape" "BelievedWords$Tape" "bytes" "[I") ∈ TB := tb1 129 rfl rfl
theorem k198 : (Jvm.Cond.lays "BelievedWords$Tape" "BelievedWords$Tape" "length" "I") ∈ TB := tb1 131 rfl rfl
theorem k200 : (Jvm.Cond.lays "BelievedWords$Tape" "BelievedWords$Tape" "at" "I") ∈ TB := tb1 133 rfl rfl
theorem k202 : (Jvm.Cond.lays "BelievedWords$Tape" "BelievedWords$Tape" "behind" "I") ∈ TB := tb1 135 rfl rfl
theorem k204 : (Jvm.Cond.lays "BelievedWords$Tape" "BelievedWords$Tape" "letter" "I") ∈ TB := tb1 137 rfl rfl
theorem k206 : (Jvm.Cond.lays "BelievedWords$Tape" "BelievedWords$Tape" "number" "I") ∈ TB := tb1 139 rfl rfl
theorem k208 : (Jvm.Cond.lays "BelievedWords$Tape" "BelievedWords$Tape" "fault" "I") ∈ TB := tb1 141 rfl rfl
theorem k210 : (Jvm.Cond.lays "BelievedWords$Tape" "BelievedWords$Tape" "place" "I") ∈ TB := tb1 143 rfl rfl
theorem k216 : (Jvm.Cond.instanceMethod ({ cls := "BelievedWords$Court", name := "<init>", desc := "()V" } : Jvm.MethodName)) ∈ TB := tb1 149 rfl rfl
theorem k217 : (Jvm.Cond.code ({ cls := "BelievedWords$Court", name := "<init>", desc := "()V" } : Jvm.MethodName) prog_4_method_1_code (1 : Nat) (Option.none : Option Jvm.ClassFile.FieldType)) ∈ TB := tb1 150 rfl rfl
theorem k218 : (Jvm.Cond.methodLink "BelievedWords$Court" (3 : Nat) ({ cls := "java/lang/Object", name := "<init>", desc := "()V" } : Jvm.MethodName)) ∈ TB := tb1 151 rfl rfl
theorem k224 : (Jvm.Cond.instanceMethod ({ cls := "BelievedWords$Standing", name := "<init>", desc := "()V" } : Jvm.MethodName)) ∈ TB := tb1 157 rfl rfl
theorem k225 : (Jvm.Cond.code ({ cls := "BelievedWords$Standing", name := "<init>", desc := "()V" } : Jvm.MethodName) prog_10_method_1_code (1 : Nat) (Option.none : Option Jvm.ClassFile.FieldType)) ∈ TB := tb1 158 rfl rfl
theorem k226 : (Jvm.Cond.methodLink "BelievedWords$Standing" (3 : Nat) ({ cls := "java/lang/Object", name := "<init>", desc := "()V" } : Jvm.MethodName)) ∈ TB := tb1 159 rfl rfl
theorem k227 : (Jvm.Cond.fieldLink "BelievedWords$Standing" (9 : Nat) "BelievedWords$Standing" "cells" "[I") ∈ TB := tb1 160 rfl rfl
theorem k228 : (Jvm.Cond.fieldLink "BelievedWords$Asks" (55 : Nat) "BelievedWords$Standing" "cells" "[I") ∈ TB := tb1 161 rfl rfl
theorem k229 : (Jvm.Cond.fieldLink "BelievedWords$Court" (106 : Nat) "BelievedWords$Standing" "cells" "[I") ∈ TB := tb1 162 rfl rfl
theorem k230 : (Jvm.Cond.fieldLink "BelievedWords" (208 : Nat) "BelievedWords$Standing" "cells" "[I") ∈ TB := tb1 163 rfl rfl
theorem k231 : (Jvm.Cond.fieldLink "BelievedWords$Standing" (21 : Nat) "BelievedWords$Standing" "so" "I") ∈ TB := tb1 164 rfl rfl
theorem k232 : (Jvm.Cond.fieldLink "BelievedWords$Search" (38 : Nat) "BelievedWords$Standing" "so" "I") ∈ TB := tb1 165 rfl rfl
theorem k233 : (Jvm.Cond.fieldLink "BelievedWords$Foresight" (40 : Nat) "BelievedWords$Standing" "so" "I") ∈ TB := tb1 166 rfl rfl
theorem k234 : (Jvm.Cond.fieldLink "BelievedWords$Asks" (60 : Nat) "BelievedWords$Standing" "so" "I") ∈ TB := tb1 167 rfl rfl
theorem k235 : (Jvm.Cond.fieldLink "BelievedWords$Court" (89 : Nat) "BelievedWords$Standing" "so" "I") ∈ TB := tb1 168 rfl rfl
theorem k236 : (Jvm.Cond.fieldLink "BelievedWords" (192 : Nat) "BelievedWords$Standing" "so" "I") ∈ TB := tb1 169 rfl rfl
theorem k237 : (Jvm.Cond.fieldLink "BelievedWords$Standing" (25 : Nat) "BelievedWords$Standing" "saidOf" "I") ∈ TB := tb1 170 rfl rfl
theorem k238 : (Jvm.Cond.fieldLink "BelievedWords$Foresight" (45 : Nat) "BelievedWords$Standing" "saidOf" "I") ∈ TB := tb1 171 rfl rfl
theorem k239 : (Jvm.Cond.fieldLink "BelievedWords$Court" (92 : Nat) "BelievedWords$Standing" "saidOf" "I") ∈ TB := tb1 172 rfl rfl
theorem k240 : (Jvm.Cond.fieldLink "BelievedWords$Search" (115 : Nat) "BelievedWords$Standing" "saidOf" "I") ∈ TB := tb1 173 rfl rfl
theorem k241 : (Jvm.Cond.fieldLink "BelievedWords" (174 : Nat) "BelievedWords$Standing" "saidOf" "I") ∈ TB := tb1 174 rfl rfl
theorem k242 : (Jvm.Cond.fieldLink "BelievedWords$Standing" (28 : Nat) "BelievedWords$Standing" "sayings" "I") ∈ TB := tb1 175 rfl rfl
theorem k243 : (Jvm.Cond.fieldLink "BelievedWords$Court" (102 : Nat) "BelievedWords$Standing" "sayings" "I") ∈ TB := tb1 176 rfl rfl
theorem k244 : (Jvm.Cond.fieldLink "BelievedWords" (157 : Nat) "BelievedWords$Standing" "sayings" "I") ∈ TB := tb1 177 rfl rfl
theorem k245 : (Jvm.Cond.fieldLink "BelievedWords$Standing" (31 : Nat) "BelievedWords$Standing" "cost" "I") ∈ TB := tb1 178 rfl rfl
theorem k246 : (Jvm.Cond.fieldLink "BelievedWords$Court" (109 : Nat) "BelievedWords$Standing" "cost" "I") ∈ TB := tb1 179 rfl rfl
theorem k247 : (Jvm.Cond.fieldLink "BelievedWords" (195 : Nat) "BelievedWords$Standing" "cost" "I") ∈ TB := tb1 180 rfl rfl
theorem k248 : (Jvm.Cond.fieldLink "BelievedWords$Standing" (34 : Nat) "BelievedWords$Standing" "struck" "I") ∈ TB := tb1 181 rfl rfl
theorem k249 : (Jvm.Cond.fieldLink "BelievedWords$Court" (68 : Nat) "BelievedWords$Standing" "struck" "I") ∈ TB := tb1 182 rfl rfl
theorem k250 : (Jvm.Cond.fieldLink "BelievedWords" (183 : Nat) "BelievedWords$Standing" "struck" "I") ∈ TB := tb1 183 rfl rfl
theorem k251 : (Jvm.Cond.laysFinal "BelievedWords$Standing" "BelievedWords$Standing" "cells" "[I") ∈ TB := tb1 184 rfl rfl
theorem k253 : (Jvm.Cond.lays "BelievedWords$Standing" "BelievedWords$Standing" "so" "I") ∈ TB := tb1 186 rfl rfl
theorem k255 : (Jvm.Cond.lays "BelievedWords$Standing" "BelievedWords$Standing" "saidOf" "I") ∈ TB := tb1 188 rfl rfl
theorem k257 : (Jvm.Cond.lays "BelievedWords$Standing" "BelievedWords$Standing" "sayings" "I") ∈ TB := tb1 190 rfl rfl
theorem k259 : (Jvm.Cond.lays "BelievedWords$Standing" "BelievedWords$Standing" "cost" "I") ∈ TB := tb1 192 rfl rfl
theorem k261 : (Jvm.Cond.lays "BelievedWords$Standing" "BelievedWords$Standing" "struck" "I") ∈ TB := tb1 194 rfl rfl
theorem k264 : (Jvm.Cond.fieldLink "BelievedWords$Court" (12 : Nat) "BelievedWords$Court" "law" "LBelievedWords$Law;") ∈ TB := tb1 197 rfl rfl
theorem k265 : (Jvm.Cond.fieldLink "BelievedWords$Search" (24 : Nat) "BelievedWords$Court" "law" "LBelievedWords$Law;") ∈ TB := tb1 198 rfl rfl
theorem k266 : (Jvm.Cond.fieldLink "BelievedWords$Image" (23 : Nat) "BelievedWords$Court" "law" "LBelievedWords$Law;") ∈ TB := tb1 199 rfl rfl
theorem k267 : (Jvm.Cond.fieldLink "BelievedWords$Foresight" (24 : Nat) "BelievedWords$Court" "law" "LBelievedWords$Law;") ∈ TB := tb1 200 rfl rfl
theorem k268 : (Jvm.Cond.fieldLink "BelievedWords$Asks" (27 : Nat) "BelievedWords$Court" "law" "LBelievedWords$Law;") ∈ TB := tb1 201 rfl rfl
theorem k269 : (Jvm.Cond.fieldLink "BelievedWords" (127 : Nat) "BelievedWords$Court" "law" "LBelievedWords$Law;") ∈ TB := tb1 202 rfl rfl
theorem k270 : (Jvm.Cond.fieldLink "BelievedWords$Court" (21 : Nat) "BelievedWords$Court" "now" "LBelievedWords$Standing;") ∈ TB := tb1 203 rfl rfl
theorem k271 : (Jvm.Cond.fieldLink "BelievedWords$Search" (34 : Nat) "BelievedWords$Court" "now" "LBelievedWords$Standing;") ∈ TB := tb1 204 rfl rfl
theorem k272 : (Jvm.Cond.fieldLink "BelievedWords$Image" (30 : Nat) "BelievedWords$Court" "now" "LBelievedWords$Standing;") ∈ TB := tb1 205 rfl rfl
theorem k273 : (Jvm.Cond.fieldLink "BelievedWords$Foresight" (36 : Nat) "BelievedWords$Court" "now" "LBelievedWords$Standing;") ∈ TB := tb1 206 rfl rfl
theorem k274 : (Jvm.Cond.fieldLink "BelievedWords$Asks" (51 : Nat) "BelievedWords$Court" "now" "LBelievedWords$Standing;") ∈ TB := tb1 207 rfl rfl
theorem k275 : (Jvm.Cond.fieldLink "BelievedWords" (153 : Nat) "BelievedWords$Court" "now" "LBelievedWords$Standing;") ∈ TB := tb1 208 rfl rfl
theorem k276 : (Jvm.Cond.fieldLink "BelievedWords$Court" (25 : Nat) "BelievedWords$Court" "made" "[I") ∈ TB := tb1 209 rfl rfl
theorem k277 : (Jvm.Cond.fieldLink "BelievedWords$Court" (29 : Nat) "BelievedWords$Court" "barred" "[I") ∈ TB := tb1 210 rfl rfl
theorem k278 : (Jvm.Cond.fieldLink "BelievedWords$Court" (32 : Nat) "BelievedWords$Court" "settled" "[I") ∈ TB := tb1 211 rfl rfl
theorem k279 : (Jvm.Cond.laysFinal "BelievedWords$Court" "BelievedWords$Court" "law" "LBelievedWords$Law;") ∈ TB := tb1 212 rfl rfl
theorem k281 : (Jvm.Cond.laysFinal "BelievedWords$Court" "BelievedWords$Court" "now" "LBelievedWords$Standing;") ∈ TB := tb1 214 rfl rfl
theorem k283 : (Jvm.Cond.laysFinal "BelievedWords$Court" "BelievedWords$Court" "made" "[I") ∈ TB := tb1 216 rfl rfl
theorem k285 : (Jvm.Cond.laysFinal "BelievedWords$Court" "BelievedWords$Court" "barred" "[I") ∈ TB := tb1 218 rfl rfl
theorem k287 : (Jvm.Cond.laysFinal "BelievedWords$Court" "BelievedWords$Court" "settled" "[I") ∈ TB := tb1 220 rfl rfl
theorem k292 : (Jvm.Cond.methodLink "BelievedWords" (32 : Nat) ({ cls := "BelievedWords$Acts", name := "<init>", desc := "()V" } : Jvm.MethodName)) ∈ TB := tb1 225 rfl rfl
theorem k293 : (Jvm.Cond.instanceMethod ({ cls := "BelievedWords$Acts", name := "<init>", desc := "()V" } : Jvm.MethodName)) ∈ TB := tb1 226 rfl rfl
theorem k294 : (Jvm.Cond.code ({ cls := "BelievedWords$Acts", name := "<init>", desc := "()V" } : Jvm.MethodName) prog_2_method_1_code (2 : Nat) (Option.none : Option Jvm.ClassFile.FieldType)) ∈ TB := tb1 227 rfl rfl
theorem k295 : (Jvm.Cond.methodLink "BelievedWords$Acts" (3 : Nat) ({ cls := "java/lang/Object", name := "<init>", desc := "()V" } : Jvm.MethodName)) ∈ TB := tb1 228 rfl rfl
theorem k299 : (Jvm.Cond.fieldLink "BelievedWords$Acts" (11 : Nat) "BelievedWords$Acts" "before" "[LBelievedWords$Standing;") ∈ TB := tb1 232 rfl rfl
theorem k300 : (Jvm.Cond.fieldLink "BelievedWords$Acts" (22 : Nat) "BelievedWords$Acts" "next" "I") ∈ TB := tb1 233 rfl rfl
theorem k301 : (Jvm.Cond.fieldLink "BelievedWords$Acts" (18 : Nat) "BelievedWords$Acts" "kept" "I") ∈ TB := tb1 234 rfl rfl
theorem k302 : (Jvm.Cond.fieldLink "BelievedWords" (321 : Nat) "BelievedWords$Acts" "kept" "I") ∈ TB := tb1 235 rfl rfl
theorem k303 : (Jvm.Cond.laysFinal "BelievedWords$Acts" "BelievedWords$Acts" "before" "[LBelievedWords$Standing;") ∈ TB := tb1 236 rfl rfl
theorem k305 : (Jvm.Cond.lays "BelievedWords$Acts" "BelievedWords$Acts" "next" "I") ∈ TB := tb1 238 rfl rfl
theorem k307 : (Jvm.Cond.lays "BelievedWords$Acts" "BelievedWords$Acts" "kept" "I") ∈ TB := tb2 0 rfl rfl
theorem k315 : (Jvm.Cond.instanceMethod ({ cls := "BelievedWords$Search", name := "<init>", desc := "()V" } : Jvm.MethodName)) ∈ TB := tb2 8 rfl rfl
theorem k316 : (Jvm.Cond.code ({ cls := "BelievedWords$Search", name := "<init>", desc := "()V" } : Jvm.MethodName) prog_9_method_1_code (1 : Nat) (Option.none : Option Jvm.ClassFile.FieldType)) ∈ TB := tb2 9 rfl rfl
theorem k317 : (Jvm.Cond.methodLink "BelievedWords$Search" (3 : Nat) ({ cls := "java/lang/Object", name := "<init>", desc := "()V" } : Jvm.MethodName)) ∈ TB := tb2 10 rfl rfl
theorem k318 : (Jvm.Cond.fieldLink "BelievedWords$Search" (9 : Nat) "BelievedWords$Search" "movers" "[I") ∈ TB := tb2 11 rfl rfl
theorem k319 : (Jvm.Cond.fieldLink "BelievedWords$Search" (15 : Nat) "BelievedWords$Search" "walks" "[I") ∈ TB := tb2 12 rfl rfl
theorem k320 : (Jvm.Cond.fieldLink "BelievedWords$Search" (18 : Nat) "BelievedWords$Search" "costs" "[I") ∈ TB := tb2 13 rfl rfl
theorem k321 : (Jvm.Cond.fieldLink "BelievedWords$Search" (21 : Nat) "BelievedWords$Search" "firsts" "[I") ∈ TB := tb2 14 rfl rfl
theorem k322 : (Jvm.Cond.fieldLink "BelievedWords$Search" (104 : Nat) "BelievedWords$Search" "moving" "I") ∈ TB := tb2 15 rfl rfl
theorem k323 : (Jvm.Cond.fieldLink "BelievedWords$Search" (80 : Nat) "BelievedWords$Search" "facts" "I") ∈ TB := tb2 16 rfl rfl
theorem k324 : (Jvm.Cond.fieldLink "BelievedWords$Search" (61 : Nat) "BelievedWords$Search" "nodes" "I") ∈ TB := tb2 17 rfl rfl
theorem k325 : (Jvm.Cond.fieldLink "BelievedWords$Search" (85 : Nat) "BelievedWords$Search" "minding" "Z") ∈ TB := tb2 18 rfl rfl
theorem k326 : (Jvm.Cond.fieldLink "BelievedWords$Search" (98 : Nat) "BelievedWords$Search" "byCost" "Z") ∈ TB := tb2 19 rfl rfl
theorem k327 : (Jvm.Cond.fieldLink "BelievedWords$Search" (64 : Nat) "BelievedWords$Search" "walk" "I") ∈ TB := tb2 20 rfl rfl
theorem k328 : (Jvm.Cond.fieldLink "BelievedWords$Search" (89 : Nat) "BelievedWords$Search" "farthest" "I") ∈ TB := tb2 21 rfl rfl
theorem k329 : (Jvm.Cond.fieldLink "BelievedWords$Search" (92 : Nat) "BelievedWords$Search" "wantedSo" "I") ∈ TB := tb2 22 rfl rfl
theorem k330 : (Jvm.Cond.fieldLink "BelievedWords$Search" (95 : Nat) "BelievedWords$Search" "wantedNot" "I") ∈ TB := tb2 23 rfl rfl
theorem k331 : (Jvm.Cond.fieldLink "BelievedWords$Search" (53 : Nat) "BelievedWords$Search" "first" "I") ∈ TB := tb2 24 rfl rfl
theorem k332 : (Jvm.Cond.laysFinal "BelievedWords$Search" "BelievedWords$Search" "movers" "[I") ∈ TB := tb2 25 rfl rfl
theorem k334 : (Jvm.Cond.lays "BelievedWords$Search" "BelievedWords$Search" "walks" "[I") ∈ TB := tb2 27 rfl rfl
theorem k336 : (Jvm.Cond.lays "BelievedWords$Search" "BelievedWords$Search" "costs" "[I") ∈ TB := tb2 29 rfl rfl
theorem k338 : (Jvm.Cond.lays "BelievedWords$Search" "BelievedWords$Search" "firsts" "[I") ∈ TB := tb2 31 rfl rfl
theorem k340 : (Jvm.Cond.lays "BelievedWords$Search" "BelievedWords$Search" "moving" "I") ∈ TB := tb2 33 rfl rfl
theorem k342 : (Jvm.Cond.lays "BelievedWords$Search" "BelievedWords$Search" "facts" "I") ∈ TB := tb2 35 rfl rfl
theorem k344 : (Jvm.Cond.lays "BelievedWords$Search" "BelievedWords$Search" "nodes" "I") ∈ TB := tb2 37 rfl rfl
theorem k346 : (Jvm.Cond.lays "BelievedWords$Search" "BelievedWords$Search" "minding" "Z") ∈ TB := tb2 39 rfl rfl
theorem k348 : (Jvm.Cond.lays "BelievedWords$Search" "BelievedWords$Search" "byCost" "Z") ∈ TB := tb2 41 rfl rfl
theorem k350 : (Jvm.Cond.lays "BelievedWords$Search" "BelievedWords$Search" "walk" "I") ∈ TB := tb2 43 rfl rfl
theorem k352 : (Jvm.Cond.lays "BelievedWords$Search" "BelievedWords$Search" "farthest" "I") ∈ TB := tb2 45 rfl rfl
theorem k354 : (Jvm.Cond.lays "BelievedWords$Search" "BelievedWords$Search" "wantedSo" "I") ∈ TB := tb2 47 rfl rfl
theorem k356 : (Jvm.Cond.lays "BelievedWords$Search" "BelievedWords$Search" "wantedNot" "I") ∈ TB := tb2 49 rfl rfl
theorem k358 : (Jvm.Cond.lays "BelievedWords$Search" "BelievedWords$Search" "first" "I") ∈ TB := tb2 51 rfl rfl
theorem k364 : (Jvm.Cond.instanceMethod ({ cls := "BelievedWords$Foresight", name := "<init>", desc := "()V" } : Jvm.MethodName)) ∈ TB := tb2 57 rfl rfl
theorem k365 : (Jvm.Cond.code ({ cls := "BelievedWords$Foresight", name := "<init>", desc := "()V" } : Jvm.MethodName) prog_5_method_1_code (1 : Nat) (Option.none : Option Jvm.ClassFile.FieldType)) ∈ TB := tb2 58 rfl rfl
theorem k366 : (Jvm.Cond.methodLink "BelievedWords$Foresight" (3 : Nat) ({ cls := "java/lang/Object", name := "<init>", desc := "()V" } : Jvm.MethodName)) ∈ TB := tb2 59 rfl rfl
theorem k367 : (Jvm.Cond.fieldLink "BelievedWords$Foresight" (11 : Nat) "BelievedWords$Foresight" "ways" "[I") ∈ TB := tb2 60 rfl rfl
theorem k368 : (Jvm.Cond.fieldLink "BelievedWords$Foresight" (15 : Nat) "BelievedWords$Foresight" "firsts" "[I") ∈ TB := tb2 61 rfl rfl
theorem k369 : (Jvm.Cond.fieldLink "BelievedWords$Foresight" (18 : Nat) "BelievedWords$Foresight" "nextWays" "[I") ∈ TB := tb2 62 rfl rfl
theorem k370 : (Jvm.Cond.fieldLink "BelievedWords$Foresight" (21 : Nat) "BelievedWords$Foresight" "nextFirsts" "[I") ∈ TB := tb2 63 rfl rfl
theorem k371 : (Jvm.Cond.lays "BelievedWords$Foresight" "BelievedWords$Foresight" "ways" "[I") ∈ TB := tb2 64 rfl rfl
theorem k373 : (Jvm.Cond.lays "BelievedWords$Foresight" "BelievedWords$Foresight" "firsts" "[I") ∈ TB := tb2 66 rfl rfl
theorem k375 : (Jvm.Cond.lays "BelievedWords$Foresight" "BelievedWords$Foresight" "nextWays" "[I") ∈ TB := tb2 68 rfl rfl
theorem k377 : (Jvm.Cond.lays "BelievedWords$Foresight" "BelievedWords$Foresight" "nextFirsts" "[I") ∈ TB := tb2 70 rfl rfl
theorem k383 : (Jvm.Cond.instanceMethod ({ cls := "BelievedWords$Asks", name := "<init>", desc := "()V" } : Jvm.MethodName)) ∈ TB := tb2 76 rfl rfl
theorem k384 : (Jvm.Cond.code ({ cls := "BelievedWords$Asks", name := "<init>", desc := "()V" } : Jvm.MethodName) prog_3_method_1_code (1 : Nat) (Option.none : Option Jvm.ClassFile.FieldType)) ∈ TB := tb2 77 rfl rfl
theorem k385 : (Jvm.Cond.methodLink "BelievedWords$Asks" (3 : Nat) ({ cls := "java/lang/Object", name := "<init>", desc := "()V" } : Jvm.MethodName)) ∈ TB := tb2 78 rfl rfl
theorem k386 : (Jvm.Cond.fieldLink "BelievedWords$Asks" (9 : Nat) "BelievedWords$Asks" "trace" "[I") ∈ TB := tb2 79 rfl rfl
theorem k387 : (Jvm.Cond.fieldLink "BelievedWords$Asks" (18 : Nat) "BelievedWords$Asks" "left" "I") ∈ TB := tb2 80 rfl rfl
theorem k388 : (Jvm.Cond.laysFinal "BelievedWords$Asks" "BelievedWords$Asks" "trace" "[I") ∈ TB := tb2 81 rfl rfl
theorem k390 : (Jvm.Cond.lays "BelievedWords$Asks" "BelievedWords$Asks" "left" "I") ∈ TB := tb2 83 rfl rfl
theorem k395 : (Jvm.Cond.instanceMethod ({ cls := "BelievedWords$Image", name := "<init>", desc := "()V" } : Jvm.MethodName)) ∈ TB := tb2 88 rfl rfl
theorem k396 : (Jvm.Cond.code ({ cls := "BelievedWords$Image", name := "<init>", desc := "()V" } : Jvm.MethodName) prog_6_method_1_code (1 : Nat) (Option.none : Option Jvm.ClassFile.FieldType)) ∈ TB := tb2 89 rfl rfl
theorem k397 : (Jvm.Cond.methodLink "BelievedWords$Image" (1 : Nat) ({ cls := "java/lang/Object", name := "<init>", desc := "()V" } : Jvm.MethodName)) ∈ TB := tb2 90 rfl rfl
theorem k402 : (Jvm.Cond.fieldLink "BelievedWords$Image" (10 : Nat) "BelievedWords$Image" "law" "LBelievedWords$Law;") ∈ TB := tb2 95 rfl rfl
theorem k403 : (Jvm.Cond.fieldLink "BelievedWords" (294 : Nat) "BelievedWords$Image" "law" "LBelievedWords$Law;") ∈ TB := tb2 96 rfl rfl
theorem k404 : (Jvm.Cond.fieldLink "BelievedWords$Image" (19 : Nat) "BelievedWords$Image" "standing" "LBelievedWords$Standing;") ∈ TB := tb2 97 rfl rfl
theorem k405 : (Jvm.Cond.fieldLink "BelievedWords" (295 : Nat) "BelievedWords$Image" "standing" "LBelievedWords$Standing;") ∈ TB := tb2 98 rfl rfl
theorem k406 : (Jvm.Cond.fieldLink "BelievedWords$Image" (36 : Nat) "BelievedWords$Image" "kept" "Z") ∈ TB := tb2 99 rfl rfl
theorem k407 : (Jvm.Cond.fieldLink "BelievedWords" (290 : Nat) "BelievedWords$Image" "kept" "Z") ∈ TB := tb2 100 rfl rfl
theorem k408 : (Jvm.Cond.laysFinal "BelievedWords$Image" "BelievedWords$Image" "law" "LBelievedWords$Law;") ∈ TB := tb2 101 rfl rfl
theorem k410 : (Jvm.Cond.laysFinal "BelievedWords$Image" "BelievedWords$Image" "standing" "LBelievedWords$Standing;") ∈ TB := tb2 103 rfl rfl
theorem k412 : (Jvm.Cond.lays "BelievedWords$Image" "BelievedWords$Image" "kept" "Z") ∈ TB := tb2 105 rfl rfl
theorem k415 : (Jvm.Cond.fieldLink "BelievedWords" (10 : Nat) "BelievedWords" "rows" "LBelievedWords$Rows;") ∈ TB := tb2 108 rfl rfl
theorem k416 : (Jvm.Cond.fieldLink "BelievedWords" (19 : Nat) "BelievedWords" "tape" "LBelievedWords$Tape;") ∈ TB := tb2 109 rfl rfl
theorem k417 : (Jvm.Cond.fieldLink "BelievedWords" (26 : Nat) "BelievedWords" "bench" "LBelievedWords$Court;") ∈ TB := tb2 110 rfl rfl
theorem k418 : (Jvm.Cond.fieldLink "BelievedWords" (33 : Nat) "BelievedWords" "acts" "LBelievedWords$Acts;") ∈ TB := tb2 111 rfl rfl
theorem k419 : (Jvm.Cond.fieldLink "BelievedWords" (39 : Nat) "BelievedWords" "images" "[LBelievedWords$Image;") ∈ TB := tb2 112 rfl rfl
theorem k420 : (Jvm.Cond.fieldLink "BelievedWords" (46 : Nat) "BelievedWords" "search" "LBelievedWords$Search;") ∈ TB := tb2 113 rfl rfl
theorem k421 : (Jvm.Cond.fieldLink "BelievedWords" (53 : Nat) "BelievedWords" "foresight" "LBelievedWords$Foresight;") ∈ TB := tb2 114 rfl rfl
theorem k422 : (Jvm.Cond.fieldLink "BelievedWords" (60 : Nat) "BelievedWords" "asks" "LBelievedWords$Asks;") ∈ TB := tb2 115 rfl rfl
theorem k423 : (Jvm.Cond.fieldLink "BelievedWords" (272 : Nat) "BelievedWords" "finding" "I") ∈ TB := tb2 116 rfl rfl
theorem k424 : (Jvm.Cond.laysFinal "BelievedWords" "BelievedWords" "rows" "LBelievedWords$Rows;") ∈ TB := tb2 117 rfl rfl
theorem k426 : (Jvm.Cond.laysFinal "BelievedWords" "BelievedWords" "tape" "LBelievedWords$Tape;") ∈ TB := tb2 119 rfl rfl
theorem k428 : (Jvm.Cond.laysFinal "BelievedWords" "BelievedWords" "bench" "LBelievedWords$Court;") ∈ TB := tb2 121 rfl rfl
theorem k430 : (Jvm.Cond.laysFinal "BelievedWords" "BelievedWords" "acts" "LBelievedWords$Acts;") ∈ TB := tb2 123 rfl rfl
theorem k432 : (Jvm.Cond.laysFinal "BelievedWords" "BelievedWords" "images" "[LBelievedWords$Image;") ∈ TB := tb2 125 rfl rfl
theorem k434 : (Jvm.Cond.laysFinal "BelievedWords" "BelievedWords" "search" "LBelievedWords$Search;") ∈ TB := tb2 127 rfl rfl
theorem k436 : (Jvm.Cond.laysFinal "BelievedWords" "BelievedWords" "foresight" "LBelievedWords$Foresight;") ∈ TB := tb2 129 rfl rfl
theorem k438 : (Jvm.Cond.laysFinal "BelievedWords" "BelievedWords" "asks" "LBelievedWords$Asks;") ∈ TB := tb2 131 rfl rfl
theorem k440 : (Jvm.Cond.lays "BelievedWords" "BelievedWords" "finding" "I") ∈ TB := tb2 133 rfl rfl
theorem k443 : (Jvm.Cond.methodLink "BelievedWordsLaw" (13 : Nat) ({ cls := "BelievedWords", name := "row", desc := "(III)I" } : Jvm.MethodName)) ∈ TB := tb2 136 rfl rfl
theorem k444 : (Jvm.Cond.instanceMethod ({ cls := "BelievedWords", name := "row", desc := "(III)I" } : Jvm.MethodName)) ∈ TB := tb2 137 rfl rfl
theorem k445 : (Jvm.Cond.selects "BelievedWords" ({ cls := "BelievedWords", name := "row", desc := "(III)I" } : Jvm.MethodName) ({ cls := "BelievedWords", name := "row", desc := "(III)I" } : Jvm.MethodName)) ∈ TB := tb2 138 rfl rfl
theorem k446 : (Jvm.Cond.code ({ cls := "BelievedWords", name := "row", desc := "(III)I" } : Jvm.MethodName) prog_1_method_2_code (4 : Nat) (Option.some Jvm.ClassFile.FieldType.int)) ∈ TB := tb2 139 rfl rfl
theorem k447 : (Jvm.Cond.methodLink "BelievedWords" (65 : Nat) ({ cls := "BelievedWords", name := "isRow", desc := "(I)Z" } : Jvm.MethodName)) ∈ TB := tb2 140 rfl rfl
theorem k448 : (Jvm.Cond.static ({ cls := "BelievedWords", name := "isRow", desc := "(I)Z" } : Jvm.MethodName)) ∈ TB := tb2 141 rfl rfl
theorem k449 : (Jvm.Cond.code ({ cls := "BelievedWords", name := "isRow", desc := "(I)Z" } : Jvm.MethodName) prog_1_method_38_code (1 : Nat) (Option.some Jvm.ClassFile.FieldType.boolean)) ∈ TB := tb2 142 rfl rfl
theorem k450 : (Jvm.Cond.constant "BelievedWords" (69 : Nat) (-1000001 : Int32)) ∈ TB := tb2 143 rfl rfl
theorem k451 : (Jvm.Cond.methodLink "BelievedWords" (70 : Nat) ({ cls := "BelievedWords", name := "found", desc := "(I)I" } : Jvm.MethodName)) ∈ TB := tb2 144 rfl rfl
theorem k453 : (Jvm.Cond.instanceMethod ({ cls := "BelievedWords", name := "found", desc := "(I)I" } : Jvm.MethodName)) ∈ TB := tb2 146 rfl rfl
theorem k454 : (Jvm.Cond.code ({ cls := "BelievedWords", name := "found", desc := "(I)I" } : Jvm.MethodName) prog_1_method_35_code (2 : Nat) (Option.some Jvm.ClassFile.FieldType.int)) ∈ TB := tb2 147 rfl rfl
theorem k455 : (Jvm.Cond.constant "BelievedWords" (326 : Nat) (-1000010 : Int32)) ∈ TB := tb2 148 rfl rfl
theorem k456 : (Jvm.Cond.methodLink "BelievedWords" (74 : Nat) ({ cls := "BelievedWords$Rows", name := "lay", desc := "(III)V" } : Jvm.MethodName)) ∈ TB := tb2 149 rfl rfl
theorem k457 : (Jvm.Cond.instanceMethod ({ cls := "BelievedWords$Rows", name := "lay", desc := "(III)V" } : Jvm.MethodName)) ∈ TB := tb2 150 rfl rfl
theorem k458 : (Jvm.Cond.selects "BelievedWords$Rows" ({ cls := "BelievedWords$Rows", name := "lay", desc := "(III)V" } : Jvm.MethodName) ({ cls := "BelievedWords$Rows", name := "lay", desc := "(III)V" } : Jvm.MethodName)) ∈ TB := tb2 151 rfl rfl
theorem k459 : (Jvm.Cond.code ({ cls := "BelievedWords$Rows", name := "lay", desc := "(III)V" } : Jvm.MethodName) prog_8_method_5_code (4 : Nat) (Option.none : Option Jvm.ClassFile.FieldType)) ∈ TB := tb2 152 rfl rfl
theorem k460 : (Jvm.Cond.methodLink "BelievedWords" (78 : Nat) ({ cls := "BelievedWords", name := "fine", desc := "(I)I" } : Jvm.MethodName)) ∈ TB := tb2 153 rfl rfl
theorem k462 : (Jvm.Cond.instanceMethod ({ cls := "BelievedWords", name := "fine", desc := "(I)I" } : Jvm.MethodName)) ∈ TB := tb2 155 rfl rfl
theorem k463 : (Jvm.Cond.code ({ cls := "BelievedWords", name := "fine", desc := "(I)I" } : Jvm.MethodName) prog_1_method_36_code (2 : Nat) (Option.some Jvm.ClassFile.FieldType.int)) ∈ TB := tb2 156 rfl rfl
theorem k464 : (Jvm.Cond.methodLink "BelievedWordsLaw" (18 : Nat) ({ cls := "BelievedWords", name := "set", desc := "(III)I" } : Jvm.MethodName)) ∈ TB := tb2 157 rfl rfl
theorem k465 : (Jvm.Cond.instanceMethod ({ cls := "BelievedWords", name := "set", desc := "(III)I" } : Jvm.MethodName)) ∈ TB := tb2 158 rfl rfl
theorem k466 : (Jvm.Cond.selects "BelievedWords" ({ cls := "BelievedWords", name := "set", desc := "(III)I" } : Jvm.MethodName) ({ cls := "BelievedWords", name := "set", desc := "(III)I" } : Jvm.MethodName)) ∈ TB := tb2 159 rfl rfl
theorem k467 : (Jvm.Cond.code ({ cls := "BelievedWords", name := "set", desc := "(III)I" } : Jvm.MethodName) prog_1_method_3_code (5 : Nat) (Option.some Jvm.ClassFile.FieldType.int)) ∈ TB := tb2 160 rfl rfl
theorem k468 : (Jvm.Cond.methodLink "BelievedWords" (81 : Nat) ({ cls := "BelievedWords$Rows", name := "lack", desc := "(III)I" } : Jvm.MethodName)) ∈ TB := tb2 161 rfl rfl
theorem k469 : (Jvm.Cond.instanceMethod ({ cls := "BelievedWords$Rows", name := "lack", desc := "(III)I" } : Jvm.MethodName)) ∈ TB := tb2 162 rfl rfl
theorem k470 : (Jvm.Cond.selects "BelievedWords$Rows" ({ cls := "BelievedWords$Rows", name := "lack", desc := "(III)I" } : Jvm.MethodName) ({ cls := "BelievedWords$Rows", name := "lack", desc := "(III)I" } : Jvm.MethodName)) ∈ TB := tb2 163 rfl rfl
theorem k471 : (Jvm.Cond.code ({ cls := "BelievedWords$Rows", name := "lack", desc := "(III)I" } : Jvm.MethodName) prog_8_method_4_code (4 : Nat) (Option.some Jvm.ClassFile.FieldType.int)) ∈ TB := tb2 164 rfl rfl
theorem k472 : (Jvm.Cond.methodLink "BelievedWords$Rows" (29 : Nat) ({ cls := "BelievedWords$Rows", name := "isMissing", desc := "(I)Z" } : Jvm.MethodName)) ∈ TB := tb2 165 rfl rfl
theorem k473 : (Jvm.Cond.instanceMethod ({ cls := "BelievedWords$Rows", name := "isMissing", desc := "(I)Z" } : Jvm.MethodName)) ∈ TB := tb2 166 rfl rfl
theorem k474 : (Jvm.Cond.selects "BelievedWords$Rows" ({ cls := "BelievedWords$Rows", name := "isMissing", desc := "(I)Z" } : Jvm.MethodName) ({ cls := "BelievedWords$Rows", name := "isMissing", desc := "(I)Z" } : Jvm.MethodName)) ∈ TB := tb2 167 rfl rfl
theorem k475 : (Jvm.Cond.code ({ cls := "BelievedWords$Rows", name := "isMissing", desc := "(I)Z" } : Jvm.MethodName) prog_8_method_2_code (2 : Nat) (Option.some Jvm.ClassFile.FieldType.boolean)) ∈ TB := tb2 168 rfl rfl
theorem k476 : (Jvm.Cond.methodLink "BelievedWords" (85 : Nat) ({ cls := "BelievedWords$Rows", name := "put", desc := "(III)I" } : Jvm.MethodName)) ∈ TB := tb2 169 rfl rfl
theorem k477 : (Jvm.Cond.instanceMethod ({ cls := "BelievedWords$Rows", name := "put", desc := "(III)I" } : Jvm.MethodName)) ∈ TB := tb2 170 rfl rfl
theorem k478 : (Jvm.Cond.selects "BelievedWords$Rows" ({ cls := "BelievedWords$Rows", name := "put", desc := "(III)I" } : Jvm.MethodName) ({ cls := "BelievedWords$Rows", name := "put", desc := "(III)I" } : Jvm.MethodName)) ∈ TB := tb2 171 rfl rfl
theorem k479 : (Jvm.Cond.code ({ cls := "BelievedWords$Rows", name := "put", desc := "(III)I" } : Jvm.MethodName) prog_8_method_6_code (4 : Nat) (Option.some Jvm.ClassFile.FieldType.int)) ∈ TB := tb2 172 rfl rfl
theorem k480 : (Jvm.Cond.methodLink "BelievedWordsLaw" (22 : Nat) ({ cls := "BelievedWords", name := "copy", desc := "(IIIII)I" } : Jvm.MethodName)) ∈ TB := tb2 173 rfl rfl
theorem k481 : (Jvm.Cond.instanceMethod ({ cls := "BelievedWords", name := "copy", desc := "(IIIII)I" } : Jvm.MethodName)) ∈ TB := tb2 174 rfl rfl
theorem k482 : (Jvm.Cond.selects "BelievedWords" ({ cls := "BelievedWords", name := "copy", desc := "(IIIII)I" } : Jvm.MethodName) ({ cls := "BelievedWords", name := "copy", desc := "(IIIII)I" } : Jvm.MethodName)) ∈ TB := tb2 175 rfl rfl
theorem k483 : (Jvm.Cond.code ({ cls := "BelievedWords", name := "copy", desc := "(IIIII)I" } : Jvm.MethodName) prog_1_method_4_code (6 : Nat) (Option.some Jvm.ClassFile.FieldType.int)) ∈ TB := tb2 176 rfl rfl
theorem k484 : (Jvm.Cond.methodLink "BelievedWords" (88 : Nat) ({ cls := "BelievedWords$Rows", name := "isMissing", desc := "(I)Z" } : Jvm.MethodName)) ∈ TB := tb2 177 rfl rfl
theorem k485 : (Jvm.Cond.methodLink "BelievedWords" (91 : Nat) ({ cls := "BelievedWords$Rows", name := "laneOf", desc := "(I)I" } : Jvm.MethodName)) ∈ TB := tb2 178 rfl rfl
theorem k486 : (Jvm.Cond.instanceMethod ({ cls := "BelievedWords$Rows", name := "laneOf", desc := "(I)I" } : Jvm.MethodName)) ∈ TB := tb2 179 rfl rfl
theorem k487 : (Jvm.Cond.selects "BelievedWords$Rows" ({ cls := "BelievedWords$Rows", name := "laneOf", desc := "(I)I" } : Jvm.MethodName) ({ cls := "BelievedWords$Rows", name := "laneOf", desc := "(I)I" } : Jvm.MethodName)) ∈ TB := tb2 180 rfl rfl
theorem k488 : (Jvm.Cond.code ({ cls := "BelievedWords$Rows", name := "laneOf", desc := "(I)I" } : Jvm.MethodName) prog_8_method_3_code (2 : Nat) (Option.some Jvm.ClassFile.FieldType.int)) ∈ TB := tb2 181 rfl rfl
theorem k489 : (Jvm.Cond.methodLink "BelievedWords" (94 : Nat) ({ cls := "BelievedWords$Rows", name := "carry", desc := "(IIIII)V" } : Jvm.MethodName)) ∈ TB := tb2 182 rfl rfl
theorem k490 : (Jvm.Cond.instanceMethod ({ cls := "BelievedWords$Rows", name := "carry", desc := "(IIIII)V" } : Jvm.MethodName)) ∈ TB := tb2 183 rfl rfl
theorem k491 : (Jvm.Cond.selects "BelievedWords$Rows" ({ cls := "BelievedWords$Rows", name := "carry", desc := "(IIIII)V" } : Jvm.MethodName) ({ cls := "BelievedWords$Rows", name := "carry", desc := "(IIIII)V" } : Jvm.MethodName)) ∈ TB := tb2 184 rfl rfl
theorem k492 : (Jvm.Cond.code ({ cls := "BelievedWords$Rows", name := "carry", desc := "(IIIII)V" } : Jvm.MethodName) prog_8_method_7_code (6 : Nat) (Option.none : Option Jvm.ClassFile.FieldType)) ∈ TB := tb2 185 rfl rfl
theorem k493 : (Jvm.Cond.methodLink "BelievedWords$Rows" (33 : Nat) ({ cls := "java/lang/System", name := "arraycopy", desc := "(Ljava/lang/Object;ILjava/lang/Object;II)V" } : Jvm.MethodName)) ∈ TB := tb2 186 rfl rfl
theorem k494 : (Jvm.Cond.static ({ cls := "java/lang/System", name := "arraycopy", desc := "(Ljava/lang/Object;ILjava/lang/Object;II)V" } : Jvm.MethodName)) ∈ TB := tb2 187 rfl rfl
theorem k495 : (Jvm.Cond.native ({ cls := "java/lang/System", name := "arraycopy", desc := "(Ljava/lang/Object;ILjava/lang/Object;II)V" } : Jvm.MethodName)) ∈ TB := tb2 188 rfl rfl
theorem k496 : (Jvm.Cond.methodLink "BelievedWordsLaw" (27 : Nat) ({ cls := "BelievedWords", name := "drop", desc := "(I)I" } : Jvm.MethodName)) ∈ TB := tb2 189 rfl rfl
theorem k497 : (Jvm.Cond.instanceMethod ({ cls := "BelievedWords", name := "drop", desc := "(I)I" } : Jvm.MethodName)) ∈ TB := tb2 190 rfl rfl
theorem k498 : (Jvm.Cond.selects "BelievedWords" ({ cls := "BelievedWords", name := "drop", desc := "(I)I" } : Jvm.MethodName) ({ cls := "BelievedWords", name := "drop", desc := "(I)I" } : Jvm.MethodName)) ∈ TB := tb2 191 rfl rfl
theorem k499 : (Jvm.Cond.code ({ cls := "BelievedWords", name := "drop", desc := "(I)I" } : Jvm.MethodName) prog_1_method_5_code (2 : Nat) (Option.some Jvm.ClassFile.FieldType.int)) ∈ TB := tb2 192 rfl rfl
theorem k500 : (Jvm.Cond.methodLink "BelievedWords" (98 : Nat) ({ cls := "BelievedWords$Rows", name := "remove", desc := "(I)I" } : Jvm.MethodName)) ∈ TB := tb2 193 rfl rfl
theorem k501 : (Jvm.Cond.instanceMethod ({ cls := "BelievedWords$Rows", name := "remove", desc := "(I)I" } : Jvm.MethodName)) ∈ TB := tb2 194 rfl rfl
theorem k502 : (Jvm.Cond.selects "BelievedWords$Rows" ({ cls := "BelievedWords$Rows", name := "remove", desc := "(I)I" } : Jvm.MethodName) ({ cls := "BelievedWords$Rows", name := "remove", desc := "(I)I" } : Jvm.MethodName)) ∈ TB := tb2 195 rfl rfl
theorem k503 : (Jvm.Cond.code ({ cls := "BelievedWords$Rows", name := "remove", desc := "(I)I" } : Jvm.MethodName) prog_8_method_8_code (3 : Nat) (Option.some Jvm.ClassFile.FieldType.int)) ∈ TB := tb2 196 rfl rfl
theorem k504 : (Jvm.Cond.methodLink "BelievedWordsLaw" (32 : Nat) ({ cls := "BelievedWords", name := "feed", desc := "(I)I" } : Jvm.MethodName)) ∈ TB := tb2 197 rfl rfl
theorem k505 : (Jvm.Cond.instanceMethod ({ cls := "BelievedWords", name := "feed", desc := "(I)I" } : Jvm.MethodName)) ∈ TB := tb2 198 rfl rfl
theorem k506 : (Jvm.Cond.selects "BelievedWords" ({ cls := "BelievedWords", name := "feed", desc := "(I)I" } : Jvm.MethodName) ({ cls := "BelievedWords", name := "feed", desc := "(I)I" } : Jvm.MethodName)) ∈ TB := tb2 199 rfl rfl
theorem k507 : (Jvm.Cond.code ({ cls := "BelievedWords", name := "feed", desc := "(I)I" } : Jvm.MethodName) prog_1_method_6_code (2 : Nat) (Option.some Jvm.ClassFile.FieldType.int)) ∈ TB := tb2 200 rfl rfl
theorem k508 : (Jvm.Cond.methodLink "BelievedWords" (101 : Nat) ({ cls := "BelievedWords$Tape", name := "add", desc := "(I)I" } : Jvm.MethodName)) ∈ TB := tb2 201 rfl rfl
theorem k509 : (Jvm.Cond.instanceMethod ({ cls := "BelievedWords$Tape", name := "add", desc := "(I)I" } : Jvm.MethodName)) ∈ TB := tb2 202 rfl rfl
theorem k510 : (Jvm.Cond.selects "BelievedWords$Tape" ({ cls := "BelievedWords$Tape", name := "add", desc := "(I)I" } : Jvm.MethodName) ({ cls := "BelievedWords$Tape", name := "add", desc := "(I)I" } : Jvm.MethodName)) ∈ TB := tb2 203 rfl rfl
theorem k511 : (Jvm.Cond.code ({ cls := "BelievedWords$Tape", name := "add", desc := "(I)I" } : Jvm.MethodName) prog_11_method_2_code (2 : Nat) (Option.some Jvm.ClassFile.FieldType.int)) ∈ TB := tb2 204 rfl rfl
theorem k512 : (Jvm.Cond.constant "BelievedWords$Tape" (26 : Nat) (-1000003 : Int32)) ∈ TB := tb2 205 rfl rfl
theorem k513 : (Jvm.Cond.methodLink "BelievedWordsLaw" (36 : Nat) ({ cls := "BelievedWords", name := "court", desc := "()I" } : Jvm.MethodName)) ∈ TB := tb2 206 rfl rfl
theorem k514 : (Jvm.Cond.instanceMethod ({ cls := "BelievedWords", name := "court", desc := "()I" } : Jvm.MethodName)) ∈ TB := tb2 207 rfl rfl
theorem k515 : (Jvm.Cond.selects "BelievedWords" ({ cls := "BelievedWords", name := "court", desc := "()I" } : Jvm.MethodName) ({ cls := "BelievedWords", name := "court", desc := "()I" } : Jvm.MethodName)) ∈ TB := tb2 208 rfl rfl
theorem k516 : (Jvm.Cond.code ({ cls := "BelievedWords", name := "court", desc := "()I" } : Jvm.MethodName) prog_1_method_7_code (2 : Nat) (Option.some Jvm.ClassFile.FieldType.int)) ∈ TB := tb2 209 rfl rfl
theorem k517 : (Jvm.Cond.methodLink "BelievedWords" (104 : Nat) ({ cls := "BelievedWords$Tape", name := "read", desc := "()Z" } : Jvm.MethodName)) ∈ TB := tb2 210 rfl rfl
theorem k518 : (Jvm.Cond.instanceMethod ({ cls := "BelievedWords$Tape", name := "read", desc := "()Z" } : Jvm.MethodName)) ∈ TB := tb2 211 rfl rfl
theorem k519 : (Jvm.Cond.selects "BelievedWords$Tape" ({ cls := "BelievedWords$Tape", name := "read", desc := "()Z" } : Jvm.MethodName) ({ cls := "BelievedWords$Tape", name := "read", desc := "()Z" } : Jvm.MethodName)) ∈ TB := tb2 212 rfl rfl
theorem k520 : (Jvm.Cond.code ({ cls := "BelievedWords$Tape", name := "read", desc := "()Z" } : Jvm.MethodName) prog_11_method_6_code (1 : Nat) (Option.some Jvm.ClassFile.FieldType.boolean)) ∈ TB := tb2 213 rfl rfl
theorem k521 : (Jvm.Cond.methodLink "BelievedWords$Tape" (33 : Nat) ({ cls := "BelievedWords$Law", name := "clear", desc := "()V" } : Jvm.MethodName)) ∈ TB := tb2 214 rfl rfl
theorem k522 : (Jvm.Cond.instanceMethod ({ cls := "BelievedWords$Law", name := "clear", desc := "()V" } : Jvm.MethodName)) ∈ TB := tb2 215 rfl rfl
theorem k523 : (Jvm.Cond.selects "BelievedWords$Law" ({ cls := "BelievedWords$Law", name := "clear", desc := "()V" } : Jvm.MethodName) ({ cls := "BelievedWords$Law", name := "clear", desc := "()V" } : Jvm.MethodName)) ∈ TB := tb2 216 rfl rfl
theorem k524 : (Jvm.Cond.code ({ cls := "BelievedWords$Law", name := "clear", desc := "()V" } : Jvm.MethodName) prog_7_method_2_code (1 : Nat) (Option.none : Option Jvm.ClassFile.FieldType)) ∈ TB := tb2 217 rfl rfl
theorem k525 : (Jvm.Cond.methodLink "BelievedWords$Tape" (39 : Nat) ({ cls := "BelievedWords$Tape", name := "readLaw", desc := "()Z" } : Jvm.MethodName)) ∈ TB := tb2 218 rfl rfl
theorem k527 : (Jvm.Cond.instanceMethod ({ cls := "BelievedWords$Tape", name := "readLaw", desc := "()Z" } : Jvm.MethodName)) ∈ TB := tb2 220 rfl rfl
theorem k528 : (Jvm.Cond.code ({ cls := "BelievedWords$Tape", name := "readLaw", desc := "()Z" } : Jvm.MethodName) prog_11_method_7_code (1 : Nat) (Option.some Jvm.ClassFile.FieldType.boolean)) ∈ TB := tb2 221 rfl rfl
theorem k529 : (Jvm.Cond.methodLink "BelievedWords$Tape" (49 : Nat) ({ cls := "BelievedWords$Tape", name := "takes", desc := "(I)Z" } : Jvm.MethodName)) ∈ TB := tb2 222 rfl rfl
theorem k531 : (Jvm.Cond.instanceMethod ({ cls := "BelievedWords$Tape", name := "takes", desc := "(I)Z" } : Jvm.MethodName)) ∈ TB := tb2 224 rfl rfl
theorem k532 : (Jvm.Cond.code ({ cls := "BelievedWords$Tape", name := "takes", desc := "(I)Z" } : Jvm.MethodName) prog_11_method_12_code (2 : Nat) (Option.some Jvm.ClassFile.FieldType.boolean)) ∈ TB := tb2 225 rfl rfl
theorem k533 : (Jvm.Cond.methodLink "BelievedWords$Tape" (69 : Nat) ({ cls := "BelievedWords$Tape", name := "step", desc := "()V" } : Jvm.MethodName)) ∈ TB := tb2 226 rfl rfl
theorem k535 : (Jvm.Cond.instanceMethod ({ cls := "BelievedWords$Tape", name := "step", desc := "()V" } : Jvm.MethodName)) ∈ TB := tb2 228 rfl rfl
theorem k536 : (Jvm.Cond.code ({ cls := "BelievedWords$Tape", name := "step", desc := "()V" } : Jvm.MethodName) prog_11_method_15_code (2 : Nat) (Option.none : Option Jvm.ClassFile.FieldType)) ∈ TB := tb2 229 rfl rfl
theorem k537 : (Jvm.Cond.methodLink "BelievedWords$Tape" (103 : Nat) ({ cls := "BelievedWords$Tape", name := "stepOverFigures", desc := "()V" } : Jvm.MethodName)) ∈ TB := tb2 230 rfl rfl
theorem k539 : (Jvm.Cond.instanceMethod ({ cls := "BelievedWords$Tape", name := "stepOverFigures", desc := "()V" } : Jvm.MethodName)) ∈ TB := tb2 232 rfl rfl
theorem k540 : (Jvm.Cond.code ({ cls := "BelievedWords$Tape", name := "stepOverFigures", desc := "()V" } : Jvm.MethodName) prog_11_method_16_code (3 : Nat) (Option.none : Option Jvm.ClassFile.FieldType)) ∈ TB := tb2 233 rfl rfl
theorem k541 : (Jvm.Cond.methodLink "BelievedWords$Tape" (78 : Nat) ({ cls := "BelievedWords$Tape", name := "fails", desc := "(I)Z" } : Jvm.MethodName)) ∈ TB := tb2 234 rfl rfl
theorem k543 : (Jvm.Cond.instanceMethod ({ cls := "BelievedWords$Tape", name := "fails", desc := "(I)Z" } : Jvm.MethodName)) ∈ TB := tb2 236 rfl rfl
theorem k544 : (Jvm.Cond.code ({ cls := "BelievedWords$Tape", name := "fails", desc := "(I)Z" } : Jvm.MethodName) prog_11_method_14_code (2 : Nat) (Option.some Jvm.ClassFile.FieldType.boolean)) ∈ TB := tb2 237 rfl rfl
theorem k545 : (Jvm.Cond.methodLink "BelievedWords$Tape" (53 : Nat) ({ cls := "BelievedWords$Tape", name := "takesNumber", desc := "(II)Z" } : Jvm.MethodName)) ∈ TB := tb2 238 rfl rfl
theorem k547 : (Jvm.Cond.instanceMethod ({ cls := "BelievedWords$Tape", name := "takesNumber", desc := "(II)Z" } : Jvm.MethodName)) ∈ TB := tb3 0 rfl rfl
theorem k548 : (Jvm.Cond.code ({ cls := "BelievedWords$Tape", name := "takesNumber", desc := "(II)Z" } : Jvm.MethodName) prog_11_method_13_code (3 : Nat) (Option.some Jvm.ClassFile.FieldType.boolean)) ∈ TB := tb3 1 rfl rfl
theorem k549 : (Jvm.Cond.methodLink "BelievedWords$Tape" (43 : Nat) ({ cls := "BelievedWords$Tape", name := "readRules", desc := "()Z" } : Jvm.MethodName)) ∈ TB := tb3 2 rfl rfl
theorem k551 : (Jvm.Cond.instanceMethod ({ cls := "BelievedWords$Tape", name := "readRules", desc := "()Z" } : Jvm.MethodName)) ∈ TB := tb3 4 rfl rfl
theorem k552 : (Jvm.Cond.code ({ cls := "BelievedWords$Tape", name := "readRules", desc := "()Z" } : Jvm.MethodName) prog_11_method_8_code (2 : Nat) (Option.some Jvm.ClassFile.FieldType.boolean)) ∈ TB := tb3 5 rfl rfl
theorem k553 : (Jvm.Cond.methodLink "BelievedWords$Tape" (81 : Nat) ({ cls := "BelievedWords$Tape", name := "readRule", desc := "(I)Z" } : Jvm.MethodName)) ∈ TB := tb3 6 rfl rfl
theorem k555 : (Jvm.Cond.instanceMethod ({ cls := "BelievedWords$Tape", name := "readRule", desc := "(I)Z" } : Jvm.MethodName)) ∈ TB := tb3 8 rfl rfl
theorem k556 : (Jvm.Cond.code ({ cls := "BelievedWords$Tape", name := "readRule", desc := "(I)Z" } : Jvm.MethodName) prog_11_method_9_code (3 : Nat) (Option.some Jvm.ClassFile.FieldType.boolean)) ∈ TB := tb3 9 rfl rfl
theorem k557 : (Jvm.Cond.methodLink "BelievedWords$Tape" (84 : Nat) ({ cls := "BelievedWords$Law", name := "hasRule", desc := "(III)Z" } : Jvm.MethodName)) ∈ TB := tb3 10 rfl rfl
theorem k558 : (Jvm.Cond.instanceMethod ({ cls := "BelievedWords$Law", name := "hasRule", desc := "(III)Z" } : Jvm.MethodName)) ∈ TB := tb3 11 rfl rfl
theorem k559 : (Jvm.Cond.selects "BelievedWords$Law" ({ cls := "BelievedWords$Law", name := "hasRule", desc := "(III)Z" } : Jvm.MethodName) ({ cls := "BelievedWords$Law", name := "hasRule", desc := "(III)Z" } : Jvm.MethodName)) ∈ TB := tb3 12 rfl rfl
theorem k560 : (Jvm.Cond.code ({ cls := "BelievedWords$Law", name := "hasRule", desc := "(III)Z" } : Jvm.MethodName) prog_7_method_4_code (5 : Nat) (Option.some Jvm.ClassFile.FieldType.boolean)) ∈ TB := tb3 13 rfl rfl
theorem k561 : (Jvm.Cond.methodLink "BelievedWords$Tape" (88 : Nat) ({ cls := "BelievedWords$Law", name := "addRule", desc := "(III)V" } : Jvm.MethodName)) ∈ TB := tb3 14 rfl rfl
theorem k562 : (Jvm.Cond.instanceMethod ({ cls := "BelievedWords$Law", name := "addRule", desc := "(III)V" } : Jvm.MethodName)) ∈ TB := tb3 15 rfl rfl
theorem k563 : (Jvm.Cond.selects "BelievedWords$Law" ({ cls := "BelievedWords$Law", name := "addRule", desc := "(III)V" } : Jvm.MethodName) ({ cls := "BelievedWords$Law", name := "addRule", desc := "(III)V" } : Jvm.MethodName)) ∈ TB := tb3 16 rfl rfl
theorem k564 : (Jvm.Cond.code ({ cls := "BelievedWords$Law", name := "addRule", desc := "(III)V" } : Jvm.MethodName) prog_7_method_5_code (4 : Nat) (Option.none : Option Jvm.ClassFile.FieldType)) ∈ TB := tb3 17 rfl rfl
theorem k565 : (Jvm.Cond.methodLink "BelievedWords$Tape" (46 : Nat) ({ cls := "BelievedWords$Tape", name := "readPeople", desc := "()Z" } : Jvm.MethodName)) ∈ TB := tb3 18 rfl rfl
theorem k567 : (Jvm.Cond.instanceMethod ({ cls := "BelievedWords$Tape", name := "readPeople", desc := "()Z" } : Jvm.MethodName)) ∈ TB := tb3 20 rfl rfl
theorem k568 : (Jvm.Cond.code ({ cls := "BelievedWords$Tape", name := "readPeople", desc := "()Z" } : Jvm.MethodName) prog_11_method_10_code (3 : Nat) (Option.some Jvm.ClassFile.FieldType.boolean)) ∈ TB := tb3 21 rfl rfl
theorem k569 : (Jvm.Cond.methodLink "BelievedWords$Tape" (92 : Nat) ({ cls := "BelievedWords$Tape", name := "kindBy", desc := "(I)I" } : Jvm.MethodName)) ∈ TB := tb3 22 rfl rfl
theorem k570 : (Jvm.Cond.static ({ cls := "BelievedWords$Tape", name := "kindBy", desc := "(I)I" } : Jvm.MethodName)) ∈ TB := tb3 23 rfl rfl
theorem k571 : (Jvm.Cond.code ({ cls := "BelievedWords$Tape", name := "kindBy", desc := "(I)I" } : Jvm.MethodName) prog_11_method_11_code (1 : Nat) (Option.some Jvm.ClassFile.FieldType.int)) ∈ TB := tb3 24 rfl rfl
theorem k572 : (Jvm.Cond.methodLink "BelievedWords$Tape" (96 : Nat) ({ cls := "BelievedWords$Law", name := "addPerson", desc := "(I)V" } : Jvm.MethodName)) ∈ TB := tb3 25 rfl rfl
theorem k573 : (Jvm.Cond.instanceMethod ({ cls := "BelievedWords$Law", name := "addPerson", desc := "(I)V" } : Jvm.MethodName)) ∈ TB := tb3 26 rfl rfl
theorem k574 : (Jvm.Cond.selects "BelievedWords$Law" ({ cls := "BelievedWords$Law", name := "addPerson", desc := "(I)V" } : Jvm.MethodName) ({ cls := "BelievedWords$Law", name := "addPerson", desc := "(I)V" } : Jvm.MethodName)) ∈ TB := tb3 27 rfl rfl
theorem k575 : (Jvm.Cond.code ({ cls := "BelievedWords$Law", name := "addPerson", desc := "(I)V" } : Jvm.MethodName) prog_7_method_6_code (2 : Nat) (Option.none : Option Jvm.ClassFile.FieldType)) ∈ TB := tb3 28 rfl rfl
theorem k576 : (Jvm.Cond.methodLink "BelievedWords" (108 : Nat) ({ cls := "BelievedWords$Tape", name := "wipe", desc := "()V" } : Jvm.MethodName)) ∈ TB := tb3 29 rfl rfl
theorem k577 : (Jvm.Cond.instanceMethod ({ cls := "BelievedWords$Tape", name := "wipe", desc := "()V" } : Jvm.MethodName)) ∈ TB := tb3 30 rfl rfl
theorem k578 : (Jvm.Cond.selects "BelievedWords$Tape" ({ cls := "BelievedWords$Tape", name := "wipe", desc := "()V" } : Jvm.MethodName) ({ cls := "BelievedWords$Tape", name := "wipe", desc := "()V" } : Jvm.MethodName)) ∈ TB := tb3 31 rfl rfl
theorem k579 : (Jvm.Cond.code ({ cls := "BelievedWords$Tape", name := "wipe", desc := "()V" } : Jvm.MethodName) prog_11_method_3_code (1 : Nat) (Option.none : Option Jvm.ClassFile.FieldType)) ∈ TB := tb3 32 rfl rfl
theorem k580 : (Jvm.Cond.constant "BelievedWords" (111 : Nat) (-1000100 : Int32)) ∈ TB := tb3 33 rfl rfl
theorem k581 : (Jvm.Cond.methodLink "BelievedWords" (112 : Nat) ({ cls := "BelievedWords$Tape", name := "faultPlace", desc := "()I" } : Jvm.MethodName)) ∈ TB := tb3 34 rfl rfl
theorem k582 : (Jvm.Cond.instanceMethod ({ cls := "BelievedWords$Tape", name := "faultPlace", desc := "()I" } : Jvm.MethodName)) ∈ TB := tb3 35 rfl rfl
theorem k583 : (Jvm.Cond.selects "BelievedWords$Tape" ({ cls := "BelievedWords$Tape", name := "faultPlace", desc := "()I" } : Jvm.MethodName) ({ cls := "BelievedWords$Tape", name := "faultPlace", desc := "()I" } : Jvm.MethodName)) ∈ TB := tb3 36 rfl rfl
theorem k584 : (Jvm.Cond.code ({ cls := "BelievedWords$Tape", name := "faultPlace", desc := "()I" } : Jvm.MethodName) prog_11_method_5_code (1 : Nat) (Option.some Jvm.ClassFile.FieldType.int)) ∈ TB := tb3 37 rfl rfl
theorem k585 : (Jvm.Cond.methodLink "BelievedWords" (120 : Nat) ({ cls := "BelievedWords$Court", name := "open", desc := "(LBelievedWords$Law;)V" } : Jvm.MethodName)) ∈ TB := tb3 38 rfl rfl
theorem k586 : (Jvm.Cond.instanceMethod ({ cls := "BelievedWords$Court", name := "open", desc := "(LBelievedWords$Law;)V" } : Jvm.MethodName)) ∈ TB := tb3 39 rfl rfl
theorem k587 : (Jvm.Cond.selects "BelievedWords$Court" ({ cls := "BelievedWords$Court", name := "open", desc := "(LBelievedWords$Law;)V" } : Jvm.MethodName) ({ cls := "BelievedWords$Court", name := "open", desc := "(LBelievedWords$Law;)V" } : Jvm.MethodName)) ∈ TB := tb3 40 rfl rfl
theorem k588 : (Jvm.Cond.code ({ cls := "BelievedWords$Court", name := "open", desc := "(LBelievedWords$Law;)V" } : Jvm.MethodName) prog_4_method_3_code (2 : Nat) (Option.none : Option Jvm.ClassFile.FieldType)) ∈ TB := tb3 41 rfl rfl
theorem k589 : (Jvm.Cond.methodLink "BelievedWords$Court" (39 : Nat) ({ cls := "BelievedWords$Law", name := "become", desc := "(LBelievedWords$Law;)V" } : Jvm.MethodName)) ∈ TB := tb3 42 rfl rfl
theorem k590 : (Jvm.Cond.instanceMethod ({ cls := "BelievedWords$Law", name := "become", desc := "(LBelievedWords$Law;)V" } : Jvm.MethodName)) ∈ TB := tb3 43 rfl rfl
theorem k591 : (Jvm.Cond.selects "BelievedWords$Law" ({ cls := "BelievedWords$Law", name := "become", desc := "(LBelievedWords$Law;)V" } : Jvm.MethodName) ({ cls := "BelievedWords$Law", name := "become", desc := "(LBelievedWords$Law;)V" } : Jvm.MethodName)) ∈ TB := tb3 44 rfl rfl
theorem k592 : (Jvm.Cond.code ({ cls := "BelievedWords$Law", name := "become", desc := "(LBelievedWords$Law;)V" } : Jvm.MethodName) prog_7_method_3_code (2 : Nat) (Option.none : Option Jvm.ClassFile.FieldType)) ∈ TB := tb3 45 rfl rfl
theorem k593 : (Jvm.Cond.methodLink "BelievedWords$Law" (40 : Nat) ({ cls := "java/lang/System", name := "arraycopy", desc := "(Ljava/lang/Object;ILjava/lang/Object;II)V" } : Jvm.MethodName)) ∈ TB := tb3 46 rfl rfl
theorem k594 : (Jvm.Cond.methodLink "BelievedWords$Court" (46 : Nat) ({ cls := "BelievedWords$Standing", name := "begin", desc := "(I)V" } : Jvm.MethodName)) ∈ TB := tb3 47 rfl rfl
theorem k595 : (Jvm.Cond.instanceMethod ({ cls := "BelievedWords$Standing", name := "begin", desc := "(I)V" } : Jvm.MethodName)) ∈ TB := tb3 48 rfl rfl
theorem k596 : (Jvm.Cond.selects "BelievedWords$Standing" ({ cls := "BelievedWords$Standing", name := "begin", desc := "(I)V" } : Jvm.MethodName) ({ cls := "BelievedWords$Standing", name := "begin", desc := "(I)V" } : Jvm.MethodName)) ∈ TB := tb3 49 rfl rfl
theorem k597 : (Jvm.Cond.code ({ cls := "BelievedWords$Standing", name := "begin", desc := "(I)V" } : Jvm.MethodName) prog_10_method_2_code (2 : Nat) (Option.none : Option Jvm.ClassFile.FieldType)) ∈ TB := tb3 50 rfl rfl
theorem k598 : (Jvm.Cond.methodLink "BelievedWords$Standing" (15 : Nat) ({ cls := "java/util/Arrays", name := "fill", desc := "([II)V" } : Jvm.MethodName)) ∈ TB := tb3 51 rfl rfl
theorem k599 : (Jvm.Cond.methodLink "BelievedWords$Court" (50 : Nat) ({ cls := "BelievedWords$Court", name := "gatherRules", desc := "()V" } : Jvm.MethodName)) ∈ TB := tb3 52 rfl rfl
theorem k601 : (Jvm.Cond.instanceMethod ({ cls := "BelievedWords$Court", name := "gatherRules", desc := "()V" } : Jvm.MethodName)) ∈ TB := tb3 54 rfl rfl
theorem k602 : (Jvm.Cond.code ({ cls := "BelievedWords$Court", name := "gatherRules", desc := "()V" } : Jvm.MethodName) prog_4_method_6_code (3 : Nat) (Option.none : Option Jvm.ClassFile.FieldType)) ∈ TB := tb3 55 rfl rfl
theorem k603 : (Jvm.Cond.methodLink "BelievedWords$Court" (59 : Nat) ({ cls := "java/util/Arrays", name := "fill", desc := "([II)V" } : Jvm.MethodName)) ∈ TB := tb3 56 rfl rfl
theorem k604 : (Jvm.Cond.methodLink "BelievedWords" (124 : Nat) ({ cls := "BelievedWords$Acts", name := "forget", desc := "()V" } : Jvm.MethodName)) ∈ TB := tb3 57 rfl rfl
theorem k605 : (Jvm.Cond.instanceMethod ({ cls := "BelievedWords$Acts", name := "forget", desc := "()V" } : Jvm.MethodName)) ∈ TB := tb3 58 rfl rfl
theorem k606 : (Jvm.Cond.selects "BelievedWords$Acts" ({ cls := "BelievedWords$Acts", name := "forget", desc := "()V" } : Jvm.MethodName) ({ cls := "BelievedWords$Acts", name := "forget", desc := "()V" } : Jvm.MethodName)) ∈ TB := tb3 59 rfl rfl
theorem k607 : (Jvm.Cond.code ({ cls := "BelievedWords$Acts", name := "forget", desc := "()V" } : Jvm.MethodName) prog_2_method_3_code (1 : Nat) (Option.none : Option Jvm.ClassFile.FieldType)) ∈ TB := tb3 60 rfl rfl
theorem k608 : (Jvm.Cond.methodLink "BelievedWordsLaw" (41 : Nat) ({ cls := "BelievedWords", name := "fault", desc := "()I" } : Jvm.MethodName)) ∈ TB := tb3 61 rfl rfl
theorem k609 : (Jvm.Cond.instanceMethod ({ cls := "BelievedWords", name := "fault", desc := "()I" } : Jvm.MethodName)) ∈ TB := tb3 62 rfl rfl
theorem k610 : (Jvm.Cond.selects "BelievedWords" ({ cls := "BelievedWords", name := "fault", desc := "()I" } : Jvm.MethodName) ({ cls := "BelievedWords", name := "fault", desc := "()I" } : Jvm.MethodName)) ∈ TB := tb3 63 rfl rfl
theorem k611 : (Jvm.Cond.code ({ cls := "BelievedWords", name := "fault", desc := "()I" } : Jvm.MethodName) prog_1_method_8_code (1 : Nat) (Option.some Jvm.ClassFile.FieldType.int)) ∈ TB := tb3 64 rfl rfl
theorem k612 : (Jvm.Cond.methodLink "BelievedWords" (136 : Nat) ({ cls := "BelievedWords$Tape", name := "faultNumber", desc := "()I" } : Jvm.MethodName)) ∈ TB := tb3 65 rfl rfl
theorem k613 : (Jvm.Cond.instanceMethod ({ cls := "BelievedWords$Tape", name := "faultNumber", desc := "()I" } : Jvm.MethodName)) ∈ TB := tb3 66 rfl rfl
theorem k614 : (Jvm.Cond.selects "BelievedWords$Tape" ({ cls := "BelievedWords$Tape", name := "faultNumber", desc := "()I" } : Jvm.MethodName) ({ cls := "BelievedWords$Tape", name := "faultNumber", desc := "()I" } : Jvm.MethodName)) ∈ TB := tb3 67 rfl rfl
theorem k615 : (Jvm.Cond.code ({ cls := "BelievedWords$Tape", name := "faultNumber", desc := "()I" } : Jvm.MethodName) prog_11_method_4_code (1 : Nat) (Option.some Jvm.ClassFile.FieldType.int)) ∈ TB := tb3 68 rfl rfl
theorem k616 : (Jvm.Cond.methodLink "BelievedWordsLaw" (45 : Nat) ({ cls := "BelievedWords", name := "undo", desc := "()I" } : Jvm.MethodName)) ∈ TB := tb3 69 rfl rfl
theorem k617 : (Jvm.Cond.instanceMethod ({ cls := "BelievedWords", name := "undo", desc := "()I" } : Jvm.MethodName)) ∈ TB := tb3 70 rfl rfl
theorem k618 : (Jvm.Cond.selects "BelievedWords" ({ cls := "BelievedWords", name := "undo", desc := "()I" } : Jvm.MethodName) ({ cls := "BelievedWords", name := "undo", desc := "()I" } : Jvm.MethodName)) ∈ TB := tb3 71 rfl rfl
theorem k619 : (Jvm.Cond.code ({ cls := "BelievedWords", name := "undo", desc := "()I" } : Jvm.MethodName) prog_1_method_9_code (1 : Nat) (Option.some Jvm.ClassFile.FieldType.int)) ∈ TB := tb3 72 rfl rfl
theorem k620 : (Jvm.Cond.methodLink "BelievedWords" (139 : Nat) ({ cls := "BelievedWords$Acts", name := "isEmpty", desc := "()Z" } : Jvm.MethodName)) ∈ TB := tb3 73 rfl rfl
theorem k621 : (Jvm.Cond.instanceMethod ({ cls := "BelievedWords$Acts", name := "isEmpty", desc := "()Z" } : Jvm.MethodName)) ∈ TB := tb3 74 rfl rfl
theorem k622 : (Jvm.Cond.selects "BelievedWords$Acts" ({ cls := "BelievedWords$Acts", name := "isEmpty", desc := "()Z" } : Jvm.MethodName) ({ cls := "BelievedWords$Acts", name := "isEmpty", desc := "()Z" } : Jvm.MethodName)) ∈ TB := tb3 75 rfl rfl
theorem k623 : (Jvm.Cond.code ({ cls := "BelievedWords$Acts", name := "isEmpty", desc := "()Z" } : Jvm.MethodName) prog_2_method_2_code (1 : Nat) (Option.some Jvm.ClassFile.FieldType.boolean)) ∈ TB := tb3 76 rfl rfl
theorem k624 : (Jvm.Cond.constant "BelievedWords" (142 : Nat) (-1000002 : Int32)) ∈ TB := tb3 77 rfl rfl
theorem k625 : (Jvm.Cond.methodLink "BelievedWords" (143 : Nat) ({ cls := "BelievedWords$Acts", name := "takeBack", desc := "(LBelievedWords$Court;)I" } : Jvm.MethodName)) ∈ TB := tb3 78 rfl rfl
theorem k626 : (Jvm.Cond.instanceMethod ({ cls := "BelievedWords$Acts", name := "takeBack", desc := "(LBelievedWords$Court;)I" } : Jvm.MethodName)) ∈ TB := tb3 79 rfl rfl
theorem k627 : (Jvm.Cond.selects "BelievedWords$Acts" ({ cls := "BelievedWords$Acts", name := "takeBack", desc := "(LBelievedWords$Court;)I" } : Jvm.MethodName) ({ cls := "BelievedWords$Acts", name := "takeBack", desc := "(LBelievedWords$Court;)I" } : Jvm.MethodName)) ∈ TB := tb3 80 rfl rfl
theorem k628 : (Jvm.Cond.code ({ cls := "BelievedWords$Acts", name := "takeBack", desc := "(LBelievedWords$Court;)I" } : Jvm.MethodName) prog_2_method_5_code (2 : Nat) (Option.some Jvm.ClassFile.FieldType.int)) ∈ TB := tb3 81 rfl rfl
theorem k629 : (Jvm.Cond.methodLink "BelievedWords$Acts" (35 : Nat) ({ cls := "BelievedWords$Court", name := "goBack", desc := "(LBelievedWords$Standing;)V" } : Jvm.MethodName)) ∈ TB := tb3 82 rfl rfl
theorem k630 : (Jvm.Cond.instanceMethod ({ cls := "BelievedWords$Court", name := "goBack", desc := "(LBelievedWords$Standing;)V" } : Jvm.MethodName)) ∈ TB := tb3 83 rfl rfl
theorem k631 : (Jvm.Cond.selects "BelievedWords$Court" ({ cls := "BelievedWords$Court", name := "goBack", desc := "(LBelievedWords$Standing;)V" } : Jvm.MethodName) ({ cls := "BelievedWords$Court", name := "goBack", desc := "(LBelievedWords$Standing;)V" } : Jvm.MethodName)) ∈ TB := tb3 84 rfl rfl
theorem k632 : (Jvm.Cond.code ({ cls := "BelievedWords$Court", name := "goBack", desc := "(LBelievedWords$Standing;)V" } : Jvm.MethodName) prog_4_method_5_code (2 : Nat) (Option.none : Option Jvm.ClassFile.FieldType)) ∈ TB := tb3 85 rfl rfl
theorem k633 : (Jvm.Cond.methodLink "BelievedWords$Court" (57 : Nat) ({ cls := "BelievedWords$Standing", name := "become", desc := "(LBelievedWords$Standing;)V" } : Jvm.MethodName)) ∈ TB := tb3 86 rfl rfl
theorem k634 : (Jvm.Cond.instanceMethod ({ cls := "BelievedWords$Standing", name := "become", desc := "(LBelievedWords$Standing;)V" } : Jvm.MethodName)) ∈ TB := tb3 87 rfl rfl
theorem k635 : (Jvm.Cond.selects "BelievedWords$Standing" ({ cls := "BelievedWords$Standing", name := "become", desc := "(LBelievedWords$Standing;)V" } : Jvm.MethodName) ({ cls := "BelievedWords$Standing", name := "become", desc := "(LBelievedWords$Standing;)V" } : Jvm.MethodName)) ∈ TB := tb3 88 rfl rfl
theorem k636 : (Jvm.Cond.code ({ cls := "BelievedWords$Standing", name := "become", desc := "(LBelievedWords$Standing;)V" } : Jvm.MethodName) prog_10_method_3_code (2 : Nat) (Option.none : Option Jvm.ClassFile.FieldType)) ∈ TB := tb3 89 rfl rfl
theorem k637 : (Jvm.Cond.methodLink "BelievedWords$Standing" (37 : Nat) ({ cls := "java/lang/System", name := "arraycopy", desc := "(Ljava/lang/Object;ILjava/lang/Object;II)V" } : Jvm.MethodName)) ∈ TB := tb3 90 rfl rfl
theorem k638 : (Jvm.Cond.methodLink "BelievedWordsLaw" (49 : Nat) ({ cls := "BelievedWords", name := "say", desc := "(II)I" } : Jvm.MethodName)) ∈ TB := tb3 91 rfl rfl
theorem k639 : (Jvm.Cond.instanceMethod ({ cls := "BelievedWords", name := "say", desc := "(II)I" } : Jvm.MethodName)) ∈ TB := tb3 92 rfl rfl
theorem k640 : (Jvm.Cond.selects "BelievedWords" ({ cls := "BelievedWords", name := "say", desc := "(II)I" } : Jvm.MethodName) ({ cls := "BelievedWords", name := "say", desc := "(II)I" } : Jvm.MethodName)) ∈ TB := tb3 93 rfl rfl
theorem k641 : (Jvm.Cond.code ({ cls := "BelievedWords", name := "say", desc := "(II)I" } : Jvm.MethodName) prog_1_method_10_code (3 : Nat) (Option.some Jvm.ClassFile.FieldType.int)) ∈ TB := tb3 94 rfl rfl
theorem k642 : (Jvm.Cond.methodLink "BelievedWords" (147 : Nat) ({ cls := "BelievedWords$Law", name := "isPerson", desc := "(I)Z" } : Jvm.MethodName)) ∈ TB := tb3 95 rfl rfl
theorem k643 : (Jvm.Cond.instanceMethod ({ cls := "BelievedWords$Law", name := "isPerson", desc := "(I)Z" } : Jvm.MethodName)) ∈ TB := tb3 96 rfl rfl
theorem k644 : (Jvm.Cond.selects "BelievedWords$Law" ({ cls := "BelievedWords$Law", name := "isPerson", desc := "(I)Z" } : Jvm.MethodName) ({ cls := "BelievedWords$Law", name := "isPerson", desc := "(I)Z" } : Jvm.MethodName)) ∈ TB := tb3 97 rfl rfl
theorem k645 : (Jvm.Cond.code ({ cls := "BelievedWords$Law", name := "isPerson", desc := "(I)Z" } : Jvm.MethodName) prog_7_method_9_code (2 : Nat) (Option.some Jvm.ClassFile.FieldType.boolean)) ∈ TB := tb3 98 rfl rfl
theorem k646 : (Jvm.Cond.methodLink "BelievedWords" (150 : Nat) ({ cls := "BelievedWords$Law", name := "isSaying", desc := "(I)Z" } : Jvm.MethodName)) ∈ TB := tb3 99 rfl rfl
theorem k647 : (Jvm.Cond.instanceMethod ({ cls := "BelievedWords$Law", name := "isSaying", desc := "(I)Z" } : Jvm.MethodName)) ∈ TB := tb3 100 rfl rfl
theorem k648 : (Jvm.Cond.selects "BelievedWords$Law" ({ cls := "BelievedWords$Law", name := "isSaying", desc := "(I)Z" } : Jvm.MethodName) ({ cls := "BelievedWords$Law", name := "isSaying", desc := "(I)Z" } : Jvm.MethodName)) ∈ TB := tb3 101 rfl rfl
theorem k649 : (Jvm.Cond.code ({ cls := "BelievedWords$Law", name := "isSaying", desc := "(I)Z" } : Jvm.MethodName) prog_7_method_10_code (2 : Nat) (Option.some Jvm.ClassFile.FieldType.boolean)) ∈ TB := tb3 102 rfl rfl
theorem k650 : (Jvm.Cond.constant "BelievedWords" (162 : Nat) (-1000003 : Int32)) ∈ TB := tb3 103 rfl rfl
theorem k651 : (Jvm.Cond.methodLink "BelievedWords" (163 : Nat) ({ cls := "BelievedWords$Acts", name := "keep", desc := "(LBelievedWords$Standing;)V" } : Jvm.MethodName)) ∈ TB := tb3 104 rfl rfl
theorem k652 : (Jvm.Cond.instanceMethod ({ cls := "BelievedWords$Acts", name := "keep", desc := "(LBelievedWords$Standing;)V" } : Jvm.MethodName)) ∈ TB := tb3 105 rfl rfl
theorem k653 : (Jvm.Cond.selects "BelievedWords$Acts" ({ cls := "BelievedWords$Acts", name := "keep", desc := "(LBelievedWords$Standing;)V" } : Jvm.MethodName) ({ cls := "BelievedWords$Acts", name := "keep", desc := "(LBelievedWords$Standing;)V" } : Jvm.MethodName)) ∈ TB := tb3 106 rfl rfl
theorem k654 : (Jvm.Cond.code ({ cls := "BelievedWords$Acts", name := "keep", desc := "(LBelievedWords$Standing;)V" } : Jvm.MethodName) prog_2_method_4_code (2 : Nat) (Option.none : Option Jvm.ClassFile.FieldType)) ∈ TB := tb3 107 rfl rfl
theorem k655 : (Jvm.Cond.methodLink "BelievedWords$Acts" (25 : Nat) ({ cls := "BelievedWords$Standing", name := "become", desc := "(LBelievedWords$Standing;)V" } : Jvm.MethodName)) ∈ TB := tb3 108 rfl rfl
theorem k656 : (Jvm.Cond.methodLink "BelievedWords$Acts" (29 : Nat) ({ cls := "java/lang/Math", name := "min", desc := "(II)I" } : Jvm.MethodName)) ∈ TB := tb3 109 rfl rfl
theorem k657 : (Jvm.Cond.static ({ cls := "java/lang/Math", name := "min", desc := "(II)I" } : Jvm.MethodName)) ∈ TB := tb3 110 rfl rfl
theorem k658 : (Jvm.Cond.code ({ cls := "java/lang/Math", name := "min", desc := "(II)I" } : Jvm.MethodName) prog_17_method_69_code (2 : Nat) (Option.some Jvm.ClassFile.FieldType.int)) ∈ TB := tb3 111 rfl rfl
theorem k659 : (Jvm.Cond.methodLink "BelievedWords" (167 : Nat) ({ cls := "BelievedWords$Court", name := "utter", desc := "(II)I" } : Jvm.MethodName)) ∈ TB := tb3 112 rfl rfl
theorem k660 : (Jvm.Cond.instanceMethod ({ cls := "BelievedWords$Court", name := "utter", desc := "(II)I" } : Jvm.MethodName)) ∈ TB := tb3 113 rfl rfl
theorem k661 : (Jvm.Cond.selects "BelievedWords$Court" ({ cls := "BelievedWords$Court", name := "utter", desc := "(II)I" } : Jvm.MethodName) ({ cls := "BelievedWords$Court", name := "utter", desc := "(II)I" } : Jvm.MethodName)) ∈ TB := tb3 114 rfl rfl
theorem k662 : (Jvm.Cond.code ({ cls := "BelievedWords$Court", name := "utter", desc := "(II)I" } : Jvm.MethodName) prog_4_method_8_code (4 : Nat) (Option.some Jvm.ClassFile.FieldType.int)) ∈ TB := tb3 115 rfl rfl
theorem k663 : (Jvm.Cond.methodLink "BelievedWords$Court" (95 : Nat) ({ cls := "BelievedWords$Court", name := "outcome", desc := "(IIII)I" } : Jvm.MethodName)) ∈ TB := tb3 116 rfl rfl
theorem k664 : (Jvm.Cond.instanceMethod ({ cls := "BelievedWords$Court", name := "outcome", desc := "(IIII)I" } : Jvm.MethodName)) ∈ TB := tb3 117 rfl rfl
theorem k665 : (Jvm.Cond.selects "BelievedWords$Court" ({ cls := "BelievedWords$Court", name := "outcome", desc := "(IIII)I" } : Jvm.MethodName) ({ cls := "BelievedWords$Court", name := "outcome", desc := "(IIII)I" } : Jvm.MethodName)) ∈ TB := tb3 118 rfl rfl
theorem k666 : (Jvm.Cond.code ({ cls := "BelievedWords$Court", name := "outcome", desc := "(IIII)I" } : Jvm.MethodName) prog_4_method_10_code (5 : Nat) (Option.some Jvm.ClassFile.FieldType.int)) ∈ TB := tb3 119 rfl rfl
theorem k667 : (Jvm.Cond.methodLink "BelievedWords$Court" (118 : Nat) ({ cls := "BelievedWords$Court", name := "believed", desc := "(IIII)I" } : Jvm.MethodName)) ∈ TB := tb3 120 rfl rfl
theorem k669 : (Jvm.Cond.instanceMethod ({ cls := "BelievedWords$Court", name := "believed", desc := "(IIII)I" } : Jvm.MethodName)) ∈ TB := tb3 122 rfl rfl
theorem k670 : (Jvm.Cond.code ({ cls := "BelievedWords$Court", name := "believed", desc := "(IIII)I" } : Jvm.MethodName) prog_4_method_12_code (7 : Nat) (Option.some Jvm.ClassFile.FieldType.int)) ∈ TB := tb3 123 rfl rfl
theorem k671 : (Jvm.Cond.methodLink "BelievedWords$Court" (99 : Nat) ({ cls := "BelievedWords$Court", name := "factOf", desc := "(I)I" } : Jvm.MethodName)) ∈ TB := tb3 124 rfl rfl
theorem k672 : (Jvm.Cond.static ({ cls := "BelievedWords$Court", name := "factOf", desc := "(I)I" } : Jvm.MethodName)) ∈ TB := tb3 125 rfl rfl
theorem k673 : (Jvm.Cond.code ({ cls := "BelievedWords$Court", name := "factOf", desc := "(I)I" } : Jvm.MethodName) prog_4_method_17_code (1 : Nat) (Option.some Jvm.ClassFile.FieldType.int)) ∈ TB := tb3 126 rfl rfl
theorem k674 : (Jvm.Cond.methodLink "BelievedWords$Court" (121 : Nat) ({ cls := "BelievedWords$Court", name := "settle", desc := "(I)I" } : Jvm.MethodName)) ∈ TB := tb3 127 rfl rfl
theorem k675 : (Jvm.Cond.instanceMethod ({ cls := "BelievedWords$Court", name := "settle", desc := "(I)I" } : Jvm.MethodName)) ∈ TB := tb3 128 rfl rfl
theorem k676 : (Jvm.Cond.selects "BelievedWords$Court" ({ cls := "BelievedWords$Court", name := "settle", desc := "(I)I" } : Jvm.MethodName) ({ cls := "BelievedWords$Court", name := "settle", desc := "(I)I" } : Jvm.MethodName)) ∈ TB := tb3 129 rfl rfl
theorem k677 : (Jvm.Cond.code ({ cls := "BelievedWords$Court", name := "settle", desc := "(I)I" } : Jvm.MethodName) prog_4_method_13_code (3 : Nat) (Option.some Jvm.ClassFile.FieldType.int)) ∈ TB := tb3 130 rfl rfl
theorem k678 : (Jvm.Cond.constant "BelievedWords$Court" (105 : Nat) (-1000000 : Int32)) ∈ TB := tb3 131 rfl rfl
theorem k679 : (Jvm.Cond.methodLink "BelievedWords$Court" (124 : Nat) ({ cls := "BelievedWords$Court", name := "grow", desc := "(I)I" } : Jvm.MethodName)) ∈ TB := tb3 132 rfl rfl
theorem k681 : (Jvm.Cond.instanceMethod ({ cls := "BelievedWords$Court", name := "grow", desc := "(I)I" } : Jvm.MethodName)) ∈ TB := tb3 134 rfl rfl
theorem k682 : (Jvm.Cond.code ({ cls := "BelievedWords$Court", name := "grow", desc := "(I)I" } : Jvm.MethodName) prog_4_method_14_code (6 : Nat) (Option.some Jvm.ClassFile.FieldType.int)) ∈ TB := tb3 135 rfl rfl
theorem k683 : (Jvm.Cond.methodLink "BelievedWords$Court" (127 : Nat) ({ cls := "BelievedWords$Court", name := "isBarred", desc := "(I)Z" } : Jvm.MethodName)) ∈ TB := tb3 136 rfl rfl
theorem k685 : (Jvm.Cond.instanceMethod ({ cls := "BelievedWords$Court", name := "isBarred", desc := "(I)Z" } : Jvm.MethodName)) ∈ TB := tb3 138 rfl rfl
theorem k686 : (Jvm.Cond.code ({ cls := "BelievedWords$Court", name := "isBarred", desc := "(I)Z" } : Jvm.MethodName) prog_4_method_15_code (3 : Nat) (Option.some Jvm.ClassFile.FieldType.boolean)) ∈ TB := tb3 139 rfl rfl
theorem k687 : (Jvm.Cond.methodLink "BelievedWords$Court" (112 : Nat) ({ cls := "BelievedWords$Court", name := "price", desc := "(II)I" } : Jvm.MethodName)) ∈ TB := tb3 140 rfl rfl
theorem k688 : (Jvm.Cond.instanceMethod ({ cls := "BelievedWords$Court", name := "price", desc := "(II)I" } : Jvm.MethodName)) ∈ TB := tb3 141 rfl rfl
theorem k689 : (Jvm.Cond.selects "BelievedWords$Court" ({ cls := "BelievedWords$Court", name := "price", desc := "(II)I" } : Jvm.MethodName) ({ cls := "BelievedWords$Court", name := "price", desc := "(II)I" } : Jvm.MethodName)) ∈ TB := tb3 142 rfl rfl
theorem k690 : (Jvm.Cond.code ({ cls := "BelievedWords$Court", name := "price", desc := "(II)I" } : Jvm.MethodName) prog_4_method_9_code (3 : Nat) (Option.some Jvm.ClassFile.FieldType.int)) ∈ TB := tb3 143 rfl rfl
theorem k691 : (Jvm.Cond.methodLink "BelievedWords$Court" (80 : Nat) ({ cls := "java/lang/Integer", name := "bitCount", desc := "(I)I" } : Jvm.MethodName)) ∈ TB := tb3 144 rfl rfl
theorem k692 : (Jvm.Cond.static ({ cls := "java/lang/Integer", name := "bitCount", desc := "(I)I" } : Jvm.MethodName)) ∈ TB := tb3 145 rfl rfl
theorem k693 : (Jvm.Cond.code ({ cls := "java/lang/Integer", name := "bitCount", desc := "(I)I" } : Jvm.MethodName) prog_15_method_49_code (1 : Nat) (Option.some Jvm.ClassFile.FieldType.int)) ∈ TB := tb3 146 rfl rfl
theorem k694 : (Jvm.Cond.constant "java/lang/Integer" (265 : Nat) (1431655765 : Int32)) ∈ TB := tb3 147 rfl rfl
theorem k695 : (Jvm.Cond.constant "java/lang/Integer" (266 : Nat) (858993459 : Int32)) ∈ TB := tb3 148 rfl rfl
theorem k696 : (Jvm.Cond.constant "java/lang/Integer" (267 : Nat) (252645135 : Int32)) ∈ TB := tb3 149 rfl rfl
theorem k697 : (Jvm.Cond.methodLink "BelievedWordsLaw" (54 : Nat) ({ cls := "BelievedWords", name := "pardon", desc := "(I)I" } : Jvm.MethodName)) ∈ TB := tb3 150 rfl rfl
theorem k698 : (Jvm.Cond.instanceMethod ({ cls := "BelievedWords", name := "pardon", desc := "(I)I" } : Jvm.MethodName)) ∈ TB := tb3 151 rfl rfl
theorem k699 : (Jvm.Cond.selects "BelievedWords" ({ cls := "BelievedWords", name := "pardon", desc := "(I)I" } : Jvm.MethodName) ({ cls := "BelievedWords", name := "pardon", desc := "(I)I" } : Jvm.MethodName)) ∈ TB := tb3 152 rfl rfl
theorem k700 : (Jvm.Cond.code ({ cls := "BelievedWords", name := "pardon", desc := "(I)I" } : Jvm.MethodName) prog_1_method_11_code (2 : Nat) (Option.some Jvm.ClassFile.FieldType.int)) ∈ TB := tb3 153 rfl rfl
theorem k701 : (Jvm.Cond.methodLink "BelievedWordsLaw" (58 : Nat) ({ cls := "BelievedWords", name := "strike", desc := "(II)I" } : Jvm.MethodName)) ∈ TB := tb3 154 rfl rfl
theorem k702 : (Jvm.Cond.instanceMethod ({ cls := "BelievedWords", name := "strike", desc := "(II)I" } : Jvm.MethodName)) ∈ TB := tb3 155 rfl rfl
theorem k703 : (Jvm.Cond.selects "BelievedWords" ({ cls := "BelievedWords", name := "strike", desc := "(II)I" } : Jvm.MethodName) ({ cls := "BelievedWords", name := "strike", desc := "(II)I" } : Jvm.MethodName)) ∈ TB := tb3 156 rfl rfl
theorem k704 : (Jvm.Cond.code ({ cls := "BelievedWords", name := "strike", desc := "(II)I" } : Jvm.MethodName) prog_1_method_12_code (3 : Nat) (Option.some Jvm.ClassFile.FieldType.int)) ∈ TB := tb3 157 rfl rfl
theorem k705 : (Jvm.Cond.methodLink "BelievedWords" (177 : Nat) ({ cls := "BelievedWords$Law", name := "isRule", desc := "(I)Z" } : Jvm.MethodName)) ∈ TB := tb3 158 rfl rfl
theorem k706 : (Jvm.Cond.instanceMethod ({ cls := "BelievedWords$Law", name := "isRule", desc := "(I)Z" } : Jvm.MethodName)) ∈ TB := tb3 159 rfl rfl
theorem k707 : (Jvm.Cond.selects "BelievedWords$Law" ({ cls := "BelievedWords$Law", name := "isRule", desc := "(I)Z" } : Jvm.MethodName) ({ cls := "BelievedWords$Law", name := "isRule", desc := "(I)Z" } : Jvm.MethodName)) ∈ TB := tb3 160 rfl rfl
theorem k708 : (Jvm.Cond.code ({ cls := "BelievedWords$Law", name := "isRule", desc := "(I)Z" } : Jvm.MethodName) prog_7_method_8_code (2 : Nat) (Option.some Jvm.ClassFile.FieldType.boolean)) ∈ TB := tb3 161 rfl rfl
theorem k709 : (Jvm.Cond.methodLink "BelievedWords" (180 : Nat) ({ cls := "BelievedWords", name := "isNoBit", desc := "(I)Z" } : Jvm.MethodName)) ∈ TB := tb3 162 rfl rfl
theorem k710 : (Jvm.Cond.static ({ cls := "BelievedWords", name := "isNoBit", desc := "(I)Z" } : Jvm.MethodName)) ∈ TB := tb3 163 rfl rfl
theorem k711 : (Jvm.Cond.code ({ cls := "BelievedWords", name := "isNoBit", desc := "(I)Z" } : Jvm.MethodName) prog_1_method_40_code (1 : Nat) (Option.some Jvm.ClassFile.FieldType.boolean)) ∈ TB := tb3 164 rfl rfl
theorem k712 : (Jvm.Cond.methodLink "BelievedWords" (186 : Nat) ({ cls := "BelievedWords$Court", name := "turnRule", desc := "(I)I" } : Jvm.MethodName)) ∈ TB := tb3 165 rfl rfl
theorem k713 : (Jvm.Cond.instanceMethod ({ cls := "BelievedWords$Court", name := "turnRule", desc := "(I)I" } : Jvm.MethodName)) ∈ TB := tb3 166 rfl rfl
theorem k714 : (Jvm.Cond.selects "BelievedWords$Court" ({ cls := "BelievedWords$Court", name := "turnRule", desc := "(I)I" } : Jvm.MethodName) ({ cls := "BelievedWords$Court", name := "turnRule", desc := "(I)I" } : Jvm.MethodName)) ∈ TB := tb3 167 rfl rfl
theorem k715 : (Jvm.Cond.code ({ cls := "BelievedWords$Court", name := "turnRule", desc := "(I)I" } : Jvm.MethodName) prog_4_method_7_code (2 : Nat) (Option.some Jvm.ClassFile.FieldType.int)) ∈ TB := tb3 168 rfl rfl
theorem k716 : (Jvm.Cond.methodLink "BelievedWordsLaw" (62 : Nat) ({ cls := "BelievedWords", name := "stand", desc := "(I)I" } : Jvm.MethodName)) ∈ TB := tb3 169 rfl rfl
theorem k717 : (Jvm.Cond.instanceMethod ({ cls := "BelievedWords", name := "stand", desc := "(I)I" } : Jvm.MethodName)) ∈ TB := tb3 170 rfl rfl
theorem k718 : (Jvm.Cond.selects "BelievedWords" ({ cls := "BelievedWords", name := "stand", desc := "(I)I" } : Jvm.MethodName) ({ cls := "BelievedWords", name := "stand", desc := "(I)I" } : Jvm.MethodName)) ∈ TB := tb3 171 rfl rfl
theorem k719 : (Jvm.Cond.code ({ cls := "BelievedWords", name := "stand", desc := "(I)I" } : Jvm.MethodName) prog_1_method_13_code (2 : Nat) (Option.some Jvm.ClassFile.FieldType.int)) ∈ TB := tb3 172 rfl rfl
theorem k720 : (Jvm.Cond.methodLink "BelievedWords" (189 : Nat) ({ cls := "BelievedWords$Court", name := "isOpen", desc := "()Z" } : Jvm.MethodName)) ∈ TB := tb3 173 rfl rfl
theorem k721 : (Jvm.Cond.instanceMethod ({ cls := "BelievedWords$Court", name := "isOpen", desc := "()Z" } : Jvm.MethodName)) ∈ TB := tb3 174 rfl rfl
theorem k722 : (Jvm.Cond.selects "BelievedWords$Court" ({ cls := "BelievedWords$Court", name := "isOpen", desc := "()Z" } : Jvm.MethodName) ({ cls := "BelievedWords$Court", name := "isOpen", desc := "()Z" } : Jvm.MethodName)) ∈ TB := tb3 175 rfl rfl
theorem k723 : (Jvm.Cond.code ({ cls := "BelievedWords$Court", name := "isOpen", desc := "()Z" } : Jvm.MethodName) prog_4_method_2_code (1 : Nat) (Option.some Jvm.ClassFile.FieldType.boolean)) ∈ TB := tb3 176 rfl rfl
theorem k724 : (Jvm.Cond.methodLink "BelievedWordsLaw" (66 : Nat) ({ cls := "BelievedWords", name := "rule", desc := "(II)I" } : Jvm.MethodName)) ∈ TB := tb3 177 rfl rfl
theorem k725 : (Jvm.Cond.instanceMethod ({ cls := "BelievedWords", name := "rule", desc := "(II)I" } : Jvm.MethodName)) ∈ TB := tb3 178 rfl rfl
theorem k726 : (Jvm.Cond.selects "BelievedWords" ({ cls := "BelievedWords", name := "rule", desc := "(II)I" } : Jvm.MethodName) ({ cls := "BelievedWords", name := "rule", desc := "(II)I" } : Jvm.MethodName)) ∈ TB := tb3 179 rfl rfl
theorem k727 : (Jvm.Cond.code ({ cls := "BelievedWords", name := "rule", desc := "(II)I" } : Jvm.MethodName) prog_1_method_14_code (3 : Nat) (Option.some Jvm.ClassFile.FieldType.int)) ∈ TB := tb3 180 rfl rfl
theorem k728 : (Jvm.Cond.methodLink "BelievedWordsLaw" (70 : Nat) ({ cls := "BelievedWords", name := "cell", desc := "(I)I" } : Jvm.MethodName)) ∈ TB := tb3 181 rfl rfl
theorem k729 : (Jvm.Cond.instanceMethod ({ cls := "BelievedWords", name := "cell", desc := "(I)I" } : Jvm.MethodName)) ∈ TB := tb3 182 rfl rfl
theorem k730 : (Jvm.Cond.selects "BelievedWords" ({ cls := "BelievedWords", name := "cell", desc := "(I)I" } : Jvm.MethodName) ({ cls := "BelievedWords", name := "cell", desc := "(I)I" } : Jvm.MethodName)) ∈ TB := tb3 183 rfl rfl
theorem k731 : (Jvm.Cond.code ({ cls := "BelievedWords", name := "cell", desc := "(I)I" } : Jvm.MethodName) prog_1_method_15_code (2 : Nat) (Option.some Jvm.ClassFile.FieldType.int)) ∈ TB := tb3 184 rfl rfl
theorem k732 : (Jvm.Cond.methodLink "BelievedWordsLaw" (74 : Nat) ({ cls := "BelievedWords", name := "makes", desc := "(II)I" } : Jvm.MethodName)) ∈ TB := tb3 185 rfl rfl
theorem k733 : (Jvm.Cond.instanceMethod ({ cls := "BelievedWords", name := "makes", desc := "(II)I" } : Jvm.MethodName)) ∈ TB := tb3 186 rfl rfl
theorem k734 : (Jvm.Cond.selects "BelievedWords" ({ cls := "BelievedWords", name := "makes", desc := "(II)I" } : Jvm.MethodName) ({ cls := "BelievedWords", name := "makes", desc := "(II)I" } : Jvm.MethodName)) ∈ TB := tb3 187 rfl rfl
theorem k735 : (Jvm.Cond.code ({ cls := "BelievedWords", name := "makes", desc := "(II)I" } : Jvm.MethodName) prog_1_method_16_code (3 : Nat) (Option.some Jvm.ClassFile.FieldType.int)) ∈ TB := tb3 188 rfl rfl
theorem k736 : (Jvm.Cond.methodLink "BelievedWords" (214 : Nat) ({ cls := "BelievedWords$Court", name := "outcome", desc := "(IIII)I" } : Jvm.MethodName)) ∈ TB := tb3 189 rfl rfl
theorem k737 : (Jvm.Cond.methodLink "BelievedWordsLaw" (78 : Nat) ({ cls := "BelievedWords", name := "shortest", desc := "(III)I" } : Jvm.MethodName)) ∈ TB := tb3 190 rfl rfl
theorem k738 : (Jvm.Cond.instanceMethod ({ cls := "BelievedWords", name := "shortest", desc := "(III)I" } : Jvm.MethodName)) ∈ TB := tb3 191 rfl rfl
theorem k739 : (Jvm.Cond.selects "BelievedWords" ({ cls := "BelievedWords", name := "shortest", desc := "(III)I" } : Jvm.MethodName) ({ cls := "BelievedWords", name := "shortest", desc := "(III)I" } : Jvm.MethodName)) ∈ TB := tb3 192 rfl rfl
theorem k740 : (Jvm.Cond.code ({ cls := "BelievedWords", name := "shortest", desc := "(III)I" } : Jvm.MethodName) prog_1_method_17_code (5 : Nat) (Option.some Jvm.ClassFile.FieldType.int)) ∈ TB := tb3 193 rfl rfl
theorem k741 : (Jvm.Cond.methodLink "BelievedWords" (218 : Nat) ({ cls := "BelievedWords", name := "refusalOfGoal", desc := "(III)I" } : Jvm.MethodName)) ∈ TB := tb3 194 rfl rfl
theorem k743 : (Jvm.Cond.instanceMethod ({ cls := "BelievedWords", name := "refusalOfGoal", desc := "(III)I" } : Jvm.MethodName)) ∈ TB := tb3 196 rfl rfl
theorem k744 : (Jvm.Cond.code ({ cls := "BelievedWords", name := "refusalOfGoal", desc := "(III)I" } : Jvm.MethodName) prog_1_method_37_code (5 : Nat) (Option.some Jvm.ClassFile.FieldType.int)) ∈ TB := tb3 197 rfl rfl
theorem k745 : (Jvm.Cond.methodLink "BelievedWords" (232 : Nat) ({ cls := "BelievedWords$Law", name := "areFacts", desc := "(I)Z" } : Jvm.MethodName)) ∈ TB := tb3 198 rfl rfl
end
section
theorem k746 : (Jvm.Cond.instanceMethod ({ cls := "BelievedWords$Law", name := "areFacts", desc := "(I)Z" } : Jvm.MethodName)) ∈ TB := tb3 199 rfl rfl
theorem k747 : (Jvm.Cond.selects "BelievedWords$Law" ({ cls := "BelievedWords$Law", name := "areFacts", desc := "(I)Z" } : Jvm.MethodName) ({ cls := "BelievedWords$Law", name := "areFacts", desc := "(I)Z" } : Jvm.MethodName)) ∈ TB := tb3 200 rfl rfl
theorem k748 : (Jvm.Cond.code ({ cls := "BelievedWords$Law", name := "areFacts", desc := "(I)Z" } : Jvm.MethodName) prog_7_method_11_code (2 : Nat) (Option.some Jvm.ClassFile.FieldType.boolean)) ∈ TB := tb3 201 rfl rfl
theorem k749 : (Jvm.Cond.methodLink "BelievedWords" (221 : Nat) ({ cls := "BelievedWords$Search", name := "fewest", desc := "(LBelievedWords$Court;III)I" } : Jvm.MethodName)) ∈ TB := tb3 202 rfl rfl
theorem k750 : (Jvm.Cond.instanceMethod ({ cls := "BelievedWords$Search", name := "fewest", desc := "(LBelievedWords$Court;III)I" } : Jvm.MethodName)) ∈ TB := tb3 203 rfl rfl
theorem k751 : (Jvm.Cond.selects "BelievedWords$Search" ({ cls := "BelievedWords$Search", name := "fewest", desc := "(LBelievedWords$Court;III)I" } : Jvm.MethodName) ({ cls := "BelievedWords$Search", name := "fewest", desc := "(LBelievedWords$Court;III)I" } : Jvm.MethodName)) ∈ TB := tb3 204 rfl rfl
theorem k752 : (Jvm.Cond.code ({ cls := "BelievedWords$Search", name := "fewest", desc := "(LBelievedWords$Court;III)I" } : Jvm.MethodName) prog_9_method_2_code (6 : Nat) (Option.some Jvm.ClassFile.FieldType.int)) ∈ TB := tb3 205 rfl rfl
theorem k753 : (Jvm.Cond.methodLink "BelievedWords$Search" (30 : Nat) ({ cls := "BelievedWords$Search", name := "begin", desc := "(LBelievedWords$Law;IIZ)V" } : Jvm.MethodName)) ∈ TB := tb3 206 rfl rfl
theorem k755 : (Jvm.Cond.instanceMethod ({ cls := "BelievedWords$Search", name := "begin", desc := "(LBelievedWords$Law;IIZ)V" } : Jvm.MethodName)) ∈ TB := tb3 208 rfl rfl
theorem k756 : (Jvm.Cond.code ({ cls := "BelievedWords$Search", name := "begin", desc := "(LBelievedWords$Law;IIZ)V" } : Jvm.MethodName) prog_9_method_5_code (5 : Nat) (Option.none : Option Jvm.ClassFile.FieldType)) ∈ TB := tb3 209 rfl rfl
theorem k757 : (Jvm.Cond.methodLink "BelievedWords$Search" (81 : Nat) ({ cls := "BelievedWords$Search", name := "gatherMovers", desc := "(LBelievedWords$Law;)V" } : Jvm.MethodName)) ∈ TB := tb3 210 rfl rfl
theorem k759 : (Jvm.Cond.instanceMethod ({ cls := "BelievedWords$Search", name := "gatherMovers", desc := "(LBelievedWords$Law;)V" } : Jvm.MethodName)) ∈ TB := tb3 212 rfl rfl
theorem k760 : (Jvm.Cond.code ({ cls := "BelievedWords$Search", name := "gatherMovers", desc := "(LBelievedWords$Law;)V" } : Jvm.MethodName) prog_9_method_6_code (3 : Nat) (Option.none : Option Jvm.ClassFile.FieldType)) ∈ TB := tb3 213 rfl rfl
theorem k761 : (Jvm.Cond.methodLink "BelievedWords$Search" (101 : Nat) ({ cls := "BelievedWords$Law", name := "hasKind", desc := "(I)Z" } : Jvm.MethodName)) ∈ TB := tb3 214 rfl rfl
theorem k762 : (Jvm.Cond.instanceMethod ({ cls := "BelievedWords$Law", name := "hasKind", desc := "(I)Z" } : Jvm.MethodName)) ∈ TB := tb3 215 rfl rfl
theorem k763 : (Jvm.Cond.selects "BelievedWords$Law" ({ cls := "BelievedWords$Law", name := "hasKind", desc := "(I)Z" } : Jvm.MethodName) ({ cls := "BelievedWords$Law", name := "hasKind", desc := "(I)Z" } : Jvm.MethodName)) ∈ TB := tb3 216 rfl rfl
theorem k764 : (Jvm.Cond.code ({ cls := "BelievedWords$Law", name := "hasKind", desc := "(I)Z" } : Jvm.MethodName) prog_7_method_7_code (3 : Nat) (Option.some Jvm.ClassFile.FieldType.boolean)) ∈ TB := tb3 217 rfl rfl
theorem k765 : (Jvm.Cond.constant "BelievedWords$Search" (48 : Nat) (-1000000 : Int32)) ∈ TB := tb3 218 rfl rfl
theorem k766 : (Jvm.Cond.methodLink "BelievedWords$Search" (44 : Nat) ({ cls := "BelievedWords$Search", name := "isMet", desc := "(I)Z" } : Jvm.MethodName)) ∈ TB := tb3 219 rfl rfl
theorem k768 : (Jvm.Cond.instanceMethod ({ cls := "BelievedWords$Search", name := "isMet", desc := "(I)Z" } : Jvm.MethodName)) ∈ TB := tb3 221 rfl rfl
theorem k769 : (Jvm.Cond.code ({ cls := "BelievedWords$Search", name := "isMet", desc := "(I)Z" } : Jvm.MethodName) prog_9_method_8_code (2 : Nat) (Option.some Jvm.ClassFile.FieldType.boolean)) ∈ TB := tb3 222 rfl rfl
theorem k770 : (Jvm.Cond.methodLink "BelievedWords$Search" (49 : Nat) ({ cls := "BelievedWords$Search", name := "explore", desc := "(LBelievedWords$Court;)I" } : Jvm.MethodName)) ∈ TB := tb3 223 rfl rfl
theorem k772 : (Jvm.Cond.instanceMethod ({ cls := "BelievedWords$Search", name := "explore", desc := "(LBelievedWords$Court;)I" } : Jvm.MethodName)) ∈ TB := tb3 225 rfl rfl
theorem k773 : (Jvm.Cond.code ({ cls := "BelievedWords$Search", name := "explore", desc := "(LBelievedWords$Court;)I" } : Jvm.MethodName) prog_9_method_7_code (4 : Nat) (Option.some Jvm.ClassFile.FieldType.int)) ∈ TB := tb3 226 rfl rfl
theorem k774 : (Jvm.Cond.methodLink "BelievedWords$Search" (107 : Nat) ({ cls := "BelievedWords$Search", name := "sayFirst", desc := "(LBelievedWords$Court;)V" } : Jvm.MethodName)) ∈ TB := tb3 227 rfl rfl
theorem k776 : (Jvm.Cond.instanceMethod ({ cls := "BelievedWords$Search", name := "sayFirst", desc := "(LBelievedWords$Court;)V" } : Jvm.MethodName)) ∈ TB := tb3 229 rfl rfl
theorem k777 : (Jvm.Cond.code ({ cls := "BelievedWords$Search", name := "sayFirst", desc := "(LBelievedWords$Court;)V" } : Jvm.MethodName) prog_9_method_10_code (7 : Nat) (Option.none : Option Jvm.ClassFile.FieldType)) ∈ TB := tb3 230 rfl rfl
theorem k778 : (Jvm.Cond.methodLink "BelievedWords$Search" (124 : Nat) ({ cls := "BelievedWords$Court", name := "outcome", desc := "(IIII)I" } : Jvm.MethodName)) ∈ TB := tb3 231 rfl rfl
theorem k779 : (Jvm.Cond.methodLink "BelievedWords$Search" (128 : Nat) ({ cls := "BelievedWords$Court", name := "factOf", desc := "(I)I" } : Jvm.MethodName)) ∈ TB := tb3 232 rfl rfl
theorem k780 : (Jvm.Cond.methodLink "BelievedWords$Search" (131 : Nat) ({ cls := "BelievedWords$Search", name := "stepOf", desc := "(II)I" } : Jvm.MethodName)) ∈ TB := tb3 233 rfl rfl
theorem k782 : (Jvm.Cond.instanceMethod ({ cls := "BelievedWords$Search", name := "stepOf", desc := "(II)I" } : Jvm.MethodName)) ∈ TB := tb3 235 rfl rfl
theorem k783 : (Jvm.Cond.code ({ cls := "BelievedWords$Search", name := "stepOf", desc := "(II)I" } : Jvm.MethodName) prog_9_method_12_code (3 : Nat) (Option.some Jvm.ClassFile.FieldType.int)) ∈ TB := tb3 236 rfl rfl
theorem k784 : (Jvm.Cond.methodLink "BelievedWords$Search" (139 : Nat) ({ cls := "java/lang/Integer", name := "bitCount", desc := "(I)I" } : Jvm.MethodName)) ∈ TB := tb3 237 rfl rfl
theorem k785 : (Jvm.Cond.methodLink "BelievedWords$Search" (135 : Nat) ({ cls := "BelievedWords$Search", name := "enter", desc := "(IIII)V" } : Jvm.MethodName)) ∈ TB := tb3 238 rfl rfl
theorem k787 : (Jvm.Cond.instanceMethod ({ cls := "BelievedWords$Search", name := "enter", desc := "(IIII)V" } : Jvm.MethodName)) ∈ TB := tb4 0 rfl rfl
theorem k788 : (Jvm.Cond.code ({ cls := "BelievedWords$Search", name := "enter", desc := "(IIII)V" } : Jvm.MethodName) prog_9_method_13_code (6 : Nat) (Option.none : Option Jvm.ClassFile.FieldType)) ∈ TB := tb4 1 rfl rfl
theorem k789 : (Jvm.Cond.methodLink "BelievedWords$Search" (143 : Nat) ({ cls := "java/lang/Math", name := "max", desc := "(II)I" } : Jvm.MethodName)) ∈ TB := tb4 2 rfl rfl
theorem k790 : (Jvm.Cond.static ({ cls := "java/lang/Math", name := "max", desc := "(II)I" } : Jvm.MethodName)) ∈ TB := tb4 3 rfl rfl
theorem k791 : (Jvm.Cond.code ({ cls := "java/lang/Math", name := "max", desc := "(II)I" } : Jvm.MethodName) prog_17_method_65_code (2 : Nat) (Option.some Jvm.ClassFile.FieldType.int)) ∈ TB := tb4 4 rfl rfl
theorem k792 : (Jvm.Cond.methodLink "BelievedWords$Search" (67 : Nat) ({ cls := "BelievedWords$Search", name := "soOf", desc := "(I)I" } : Jvm.MethodName)) ∈ TB := tb4 5 rfl rfl
theorem k794 : (Jvm.Cond.instanceMethod ({ cls := "BelievedWords$Search", name := "soOf", desc := "(I)I" } : Jvm.MethodName)) ∈ TB := tb4 7 rfl rfl
theorem k795 : (Jvm.Cond.code ({ cls := "BelievedWords$Search", name := "soOf", desc := "(I)I" } : Jvm.MethodName) prog_9_method_9_code (2 : Nat) (Option.some Jvm.ClassFile.FieldType.int)) ∈ TB := tb4 8 rfl rfl
theorem k796 : (Jvm.Cond.methodLink "BelievedWords$Search" (111 : Nat) ({ cls := "BelievedWords$Search", name := "lead", desc := "(LBelievedWords$Court;I)V" } : Jvm.MethodName)) ∈ TB := tb4 9 rfl rfl
theorem k798 : (Jvm.Cond.instanceMethod ({ cls := "BelievedWords$Search", name := "lead", desc := "(LBelievedWords$Court;I)V" } : Jvm.MethodName)) ∈ TB := tb4 11 rfl rfl
theorem k799 : (Jvm.Cond.code ({ cls := "BelievedWords$Search", name := "lead", desc := "(LBelievedWords$Court;I)V" } : Jvm.MethodName) prog_9_method_11_code (8 : Nat) (Option.none : Option Jvm.ClassFile.FieldType)) ∈ TB := tb4 12 rfl rfl
theorem k800 : (Jvm.Cond.methodLink "BelievedWordsLaw" (82 : Nat) ({ cls := "BelievedWords", name := "cheapest", desc := "(III)I" } : Jvm.MethodName)) ∈ TB := tb4 13 rfl rfl
theorem k801 : (Jvm.Cond.instanceMethod ({ cls := "BelievedWords", name := "cheapest", desc := "(III)I" } : Jvm.MethodName)) ∈ TB := tb4 14 rfl rfl
theorem k802 : (Jvm.Cond.selects "BelievedWords" ({ cls := "BelievedWords", name := "cheapest", desc := "(III)I" } : Jvm.MethodName) ({ cls := "BelievedWords", name := "cheapest", desc := "(III)I" } : Jvm.MethodName)) ∈ TB := tb4 15 rfl rfl
theorem k803 : (Jvm.Cond.code ({ cls := "BelievedWords", name := "cheapest", desc := "(III)I" } : Jvm.MethodName) prog_1_method_18_code (5 : Nat) (Option.some Jvm.ClassFile.FieldType.int)) ∈ TB := tb4 16 rfl rfl
theorem k804 : (Jvm.Cond.methodLink "BelievedWords" (225 : Nat) ({ cls := "BelievedWords$Search", name := "leastCost", desc := "(LBelievedWords$Court;III)I" } : Jvm.MethodName)) ∈ TB := tb4 17 rfl rfl
theorem k805 : (Jvm.Cond.instanceMethod ({ cls := "BelievedWords$Search", name := "leastCost", desc := "(LBelievedWords$Court;III)I" } : Jvm.MethodName)) ∈ TB := tb4 18 rfl rfl
theorem k806 : (Jvm.Cond.selects "BelievedWords$Search" ({ cls := "BelievedWords$Search", name := "leastCost", desc := "(LBelievedWords$Court;III)I" } : Jvm.MethodName) ({ cls := "BelievedWords$Search", name := "leastCost", desc := "(LBelievedWords$Court;III)I" } : Jvm.MethodName)) ∈ TB := tb4 19 rfl rfl
theorem k807 : (Jvm.Cond.code ({ cls := "BelievedWords$Search", name := "leastCost", desc := "(LBelievedWords$Court;III)I" } : Jvm.MethodName) prog_9_method_3_code (6 : Nat) (Option.some Jvm.ClassFile.FieldType.int)) ∈ TB := tb4 20 rfl rfl
theorem k808 : (Jvm.Cond.methodLink "BelievedWordsLaw" (86 : Nat) ({ cls := "BelievedWords", name := "idle", desc := "(I)I" } : Jvm.MethodName)) ∈ TB := tb4 21 rfl rfl
theorem k809 : (Jvm.Cond.instanceMethod ({ cls := "BelievedWords", name := "idle", desc := "(I)I" } : Jvm.MethodName)) ∈ TB := tb4 22 rfl rfl
theorem k810 : (Jvm.Cond.selects "BelievedWords" ({ cls := "BelievedWords", name := "idle", desc := "(I)I" } : Jvm.MethodName) ({ cls := "BelievedWords", name := "idle", desc := "(I)I" } : Jvm.MethodName)) ∈ TB := tb4 23 rfl rfl
theorem k811 : (Jvm.Cond.code ({ cls := "BelievedWords", name := "idle", desc := "(I)I" } : Jvm.MethodName) prog_1_method_19_code (2 : Nat) (Option.some Jvm.ClassFile.FieldType.int)) ∈ TB := tb4 24 rfl rfl
theorem k812 : (Jvm.Cond.methodLink "BelievedWords" (228 : Nat) ({ cls := "BelievedWords$Foresight", name := "idleSayings", desc := "(LBelievedWords$Court;I)I" } : Jvm.MethodName)) ∈ TB := tb4 25 rfl rfl
theorem k813 : (Jvm.Cond.instanceMethod ({ cls := "BelievedWords$Foresight", name := "idleSayings", desc := "(LBelievedWords$Court;I)I" } : Jvm.MethodName)) ∈ TB := tb4 26 rfl rfl
theorem k814 : (Jvm.Cond.selects "BelievedWords$Foresight" ({ cls := "BelievedWords$Foresight", name := "idleSayings", desc := "(LBelievedWords$Court;I)I" } : Jvm.MethodName) ({ cls := "BelievedWords$Foresight", name := "idleSayings", desc := "(LBelievedWords$Court;I)I" } : Jvm.MethodName)) ∈ TB := tb4 27 rfl rfl
theorem k815 : (Jvm.Cond.code ({ cls := "BelievedWords$Foresight", name := "idleSayings", desc := "(LBelievedWords$Court;I)I" } : Jvm.MethodName) prog_5_method_2_code (5 : Nat) (Option.some Jvm.ClassFile.FieldType.int)) ∈ TB := tb4 28 rfl rfl
theorem k816 : (Jvm.Cond.methodLink "BelievedWords$Foresight" (48 : Nat) ({ cls := "BelievedWords$Court", name := "outcome", desc := "(IIII)I" } : Jvm.MethodName)) ∈ TB := tb4 29 rfl rfl
theorem k817 : (Jvm.Cond.methodLink "BelievedWordsLaw" (90 : Nat) ({ cls := "BelievedWords", name := "giveUp", desc := "(II)I" } : Jvm.MethodName)) ∈ TB := tb4 30 rfl rfl
theorem k818 : (Jvm.Cond.instanceMethod ({ cls := "BelievedWords", name := "giveUp", desc := "(II)I" } : Jvm.MethodName)) ∈ TB := tb4 31 rfl rfl
theorem k819 : (Jvm.Cond.selects "BelievedWords" ({ cls := "BelievedWords", name := "giveUp", desc := "(II)I" } : Jvm.MethodName) ({ cls := "BelievedWords", name := "giveUp", desc := "(II)I" } : Jvm.MethodName)) ∈ TB := tb4 32 rfl rfl
theorem k820 : (Jvm.Cond.code ({ cls := "BelievedWords", name := "giveUp", desc := "(II)I" } : Jvm.MethodName) prog_1_method_20_code (4 : Nat) (Option.some Jvm.ClassFile.FieldType.int)) ∈ TB := tb4 33 rfl rfl
theorem k821 : (Jvm.Cond.methodLink "BelievedWords" (235 : Nat) ({ cls := "BelievedWords$Foresight", name := "leftOut", desc := "(LBelievedWords$Court;I)I" } : Jvm.MethodName)) ∈ TB := tb4 34 rfl rfl
theorem k822 : (Jvm.Cond.instanceMethod ({ cls := "BelievedWords$Foresight", name := "leftOut", desc := "(LBelievedWords$Court;I)I" } : Jvm.MethodName)) ∈ TB := tb4 35 rfl rfl
theorem k823 : (Jvm.Cond.selects "BelievedWords$Foresight" ({ cls := "BelievedWords$Foresight", name := "leftOut", desc := "(LBelievedWords$Court;I)I" } : Jvm.MethodName) ({ cls := "BelievedWords$Foresight", name := "leftOut", desc := "(LBelievedWords$Court;I)I" } : Jvm.MethodName)) ∈ TB := tb4 36 rfl rfl
theorem k824 : (Jvm.Cond.code ({ cls := "BelievedWords$Foresight", name := "leftOut", desc := "(LBelievedWords$Court;I)I" } : Jvm.MethodName) prog_5_method_3_code (6 : Nat) (Option.some Jvm.ClassFile.FieldType.int)) ∈ TB := tb4 37 rfl rfl
theorem k825 : (Jvm.Cond.methodLink "BelievedWords$Foresight" (52 : Nat) ({ cls := "java/lang/Integer", name := "bitCount", desc := "(I)I" } : Jvm.MethodName)) ∈ TB := tb4 38 rfl rfl
theorem k826 : (Jvm.Cond.methodLink "BelievedWords$Foresight" (58 : Nat) ({ cls := "BelievedWords$Court", name := "settle", desc := "(I)I" } : Jvm.MethodName)) ∈ TB := tb4 39 rfl rfl
theorem k827 : (Jvm.Cond.constant "BelievedWords$Foresight" (61 : Nat) (-1000000 : Int32)) ∈ TB := tb4 40 rfl rfl
theorem k828 : (Jvm.Cond.methodLink "BelievedWords" (238 : Nat) ({ cls := "java/lang/Integer", name := "bitCount", desc := "(I)I" } : Jvm.MethodName)) ∈ TB := tb4 41 rfl rfl
theorem k829 : (Jvm.Cond.methodLink "BelievedWordsLaw" (94 : Nat) ({ cls := "BelievedWords", name := "order", desc := "(II)I" } : Jvm.MethodName)) ∈ TB := tb4 42 rfl rfl
theorem k830 : (Jvm.Cond.instanceMethod ({ cls := "BelievedWords", name := "order", desc := "(II)I" } : Jvm.MethodName)) ∈ TB := tb4 43 rfl rfl
theorem k831 : (Jvm.Cond.selects "BelievedWords" ({ cls := "BelievedWords", name := "order", desc := "(II)I" } : Jvm.MethodName) ({ cls := "BelievedWords", name := "order", desc := "(II)I" } : Jvm.MethodName)) ∈ TB := tb4 44 rfl rfl
theorem k832 : (Jvm.Cond.code ({ cls := "BelievedWords", name := "order", desc := "(II)I" } : Jvm.MethodName) prog_1_method_21_code (3 : Nat) (Option.some Jvm.ClassFile.FieldType.int)) ∈ TB := tb4 45 rfl rfl
theorem k833 : (Jvm.Cond.methodLink "BelievedWords" (243 : Nat) ({ cls := "BelievedWords$Foresight", name := "inOrder", desc := "(LBelievedWords$Court;II)I" } : Jvm.MethodName)) ∈ TB := tb4 46 rfl rfl
theorem k834 : (Jvm.Cond.instanceMethod ({ cls := "BelievedWords$Foresight", name := "inOrder", desc := "(LBelievedWords$Court;II)I" } : Jvm.MethodName)) ∈ TB := tb4 47 rfl rfl
theorem k835 : (Jvm.Cond.selects "BelievedWords$Foresight" ({ cls := "BelievedWords$Foresight", name := "inOrder", desc := "(LBelievedWords$Court;II)I" } : Jvm.MethodName) ({ cls := "BelievedWords$Foresight", name := "inOrder", desc := "(LBelievedWords$Court;II)I" } : Jvm.MethodName)) ∈ TB := tb4 48 rfl rfl
theorem k836 : (Jvm.Cond.code ({ cls := "BelievedWords$Foresight", name := "inOrder", desc := "(LBelievedWords$Court;II)I" } : Jvm.MethodName) prog_5_method_4_code (8 : Nat) (Option.some Jvm.ClassFile.FieldType.int)) ∈ TB := tb4 49 rfl rfl
theorem k837 : (Jvm.Cond.methodLink "BelievedWords$Foresight" (62 : Nat) ({ cls := "BelievedWords$Foresight", name := "firstFree", desc := "(LBelievedWords$Court;I)I" } : Jvm.MethodName)) ∈ TB := tb4 50 rfl rfl
theorem k838 : (Jvm.Cond.static ({ cls := "BelievedWords$Foresight", name := "firstFree", desc := "(LBelievedWords$Court;I)I" } : Jvm.MethodName)) ∈ TB := tb4 51 rfl rfl
theorem k839 : (Jvm.Cond.code ({ cls := "BelievedWords$Foresight", name := "firstFree", desc := "(LBelievedWords$Court;I)I" } : Jvm.MethodName) prog_5_method_5_code (3 : Nat) (Option.some Jvm.ClassFile.FieldType.int)) ∈ TB := tb4 52 rfl rfl
theorem k840 : (Jvm.Cond.methodLink "BelievedWords$Foresight" (66 : Nat) ({ cls := "BelievedWords$Court", name := "makesAny", desc := "(II)Z" } : Jvm.MethodName)) ∈ TB := tb4 53 rfl rfl
theorem k841 : (Jvm.Cond.instanceMethod ({ cls := "BelievedWords$Court", name := "makesAny", desc := "(II)Z" } : Jvm.MethodName)) ∈ TB := tb4 54 rfl rfl
theorem k842 : (Jvm.Cond.selects "BelievedWords$Court" ({ cls := "BelievedWords$Court", name := "makesAny", desc := "(II)Z" } : Jvm.MethodName) ({ cls := "BelievedWords$Court", name := "makesAny", desc := "(II)Z" } : Jvm.MethodName)) ∈ TB := tb4 55 rfl rfl
theorem k843 : (Jvm.Cond.code ({ cls := "BelievedWords$Court", name := "makesAny", desc := "(II)Z" } : Jvm.MethodName) prog_4_method_16_code (3 : Nat) (Option.some Jvm.ClassFile.FieldType.boolean)) ∈ TB := tb4 56 rfl rfl
theorem k844 : (Jvm.Cond.methodLink "BelievedWordsLaw" (98 : Nat) ({ cls := "BelievedWords", name := "ever", desc := "(I)I" } : Jvm.MethodName)) ∈ TB := tb4 57 rfl rfl
theorem k845 : (Jvm.Cond.instanceMethod ({ cls := "BelievedWords", name := "ever", desc := "(I)I" } : Jvm.MethodName)) ∈ TB := tb4 58 rfl rfl
theorem k846 : (Jvm.Cond.selects "BelievedWords" ({ cls := "BelievedWords", name := "ever", desc := "(I)I" } : Jvm.MethodName) ({ cls := "BelievedWords", name := "ever", desc := "(I)I" } : Jvm.MethodName)) ∈ TB := tb4 59 rfl rfl
theorem k847 : (Jvm.Cond.code ({ cls := "BelievedWords", name := "ever", desc := "(I)I" } : Jvm.MethodName) prog_1_method_22_code (2 : Nat) (Option.some Jvm.ClassFile.FieldType.int)) ∈ TB := tb4 60 rfl rfl
theorem k848 : (Jvm.Cond.methodLink "BelievedWords" (247 : Nat) ({ cls := "BelievedWords$Search", name := "reachable", desc := "(LBelievedWords$Court;I)I" } : Jvm.MethodName)) ∈ TB := tb4 61 rfl rfl
theorem k849 : (Jvm.Cond.instanceMethod ({ cls := "BelievedWords$Search", name := "reachable", desc := "(LBelievedWords$Court;I)I" } : Jvm.MethodName)) ∈ TB := tb4 62 rfl rfl
theorem k850 : (Jvm.Cond.selects "BelievedWords$Search" ({ cls := "BelievedWords$Search", name := "reachable", desc := "(LBelievedWords$Court;I)I" } : Jvm.MethodName) ({ cls := "BelievedWords$Search", name := "reachable", desc := "(LBelievedWords$Court;I)I" } : Jvm.MethodName)) ∈ TB := tb4 63 rfl rfl
theorem k851 : (Jvm.Cond.code ({ cls := "BelievedWords$Search", name := "reachable", desc := "(LBelievedWords$Court;I)I" } : Jvm.MethodName) prog_9_method_4_code (7 : Nat) (Option.some Jvm.ClassFile.FieldType.int)) ∈ TB := tb4 64 rfl rfl
theorem k852 : (Jvm.Cond.methodLink "BelievedWords$Search" (71 : Nat) ({ cls := "java/lang/Long", name := "bitCount", desc := "(J)I" } : Jvm.MethodName)) ∈ TB := tb4 65 rfl rfl
theorem k853 : (Jvm.Cond.static ({ cls := "java/lang/Long", name := "bitCount", desc := "(J)I" } : Jvm.MethodName)) ∈ TB := tb4 66 rfl rfl
theorem k854 : (Jvm.Cond.code ({ cls := "java/lang/Long", name := "bitCount", desc := "(J)I" } : Jvm.MethodName) prog_16_method_50_code (2 : Nat) (Option.some Jvm.ClassFile.FieldType.int)) ∈ TB := tb4 67 rfl rfl
theorem k855 : (Jvm.Cond.constantLong "java/lang/Long" (314 : Nat) (6148914691236517205 : Int64)) ∈ TB := tb4 68 rfl rfl
theorem k856 : (Jvm.Cond.constantLong "java/lang/Long" (316 : Nat) (3689348814741910323 : Int64)) ∈ TB := tb4 69 rfl rfl
theorem k857 : (Jvm.Cond.constantLong "java/lang/Long" (318 : Nat) (1085102592571150095 : Int64)) ∈ TB := tb4 70 rfl rfl
theorem k858 : (Jvm.Cond.methodLink "BelievedWordsLaw" (102 : Nat) ({ cls := "BelievedWords", name := "said", desc := "(IIIII)I" } : Jvm.MethodName)) ∈ TB := tb4 71 rfl rfl
theorem k859 : (Jvm.Cond.instanceMethod ({ cls := "BelievedWords", name := "said", desc := "(IIIII)I" } : Jvm.MethodName)) ∈ TB := tb4 72 rfl rfl
theorem k860 : (Jvm.Cond.selects "BelievedWords" ({ cls := "BelievedWords", name := "said", desc := "(IIIII)I" } : Jvm.MethodName) ({ cls := "BelievedWords", name := "said", desc := "(IIIII)I" } : Jvm.MethodName)) ∈ TB := tb4 73 rfl rfl
theorem k861 : (Jvm.Cond.code ({ cls := "BelievedWords", name := "said", desc := "(IIIII)I" } : Jvm.MethodName) prog_1_method_23_code (7 : Nat) (Option.some Jvm.ClassFile.FieldType.int)) ∈ TB := tb4 74 rfl rfl
theorem k862 : (Jvm.Cond.methodLink "BelievedWords" (250 : Nat) ({ cls := "BelievedWords$Rows", name := "itemsFrom", desc := "(III)[I" } : Jvm.MethodName)) ∈ TB := tb4 75 rfl rfl
theorem k863 : (Jvm.Cond.instanceMethod ({ cls := "BelievedWords$Rows", name := "itemsFrom", desc := "(III)[I" } : Jvm.MethodName)) ∈ TB := tb4 76 rfl rfl
theorem k864 : (Jvm.Cond.selects "BelievedWords$Rows" ({ cls := "BelievedWords$Rows", name := "itemsFrom", desc := "(III)[I" } : Jvm.MethodName) ({ cls := "BelievedWords$Rows", name := "itemsFrom", desc := "(III)[I" } : Jvm.MethodName)) ∈ TB := tb4 77 rfl rfl
theorem k865 : (Jvm.Cond.code ({ cls := "BelievedWords$Rows", name := "itemsFrom", desc := "(III)[I" } : Jvm.MethodName) prog_8_method_9_code (4 : Nat) (Option.some (Jvm.ClassFile.FieldType.array Jvm.ClassFile.FieldType.int))) ∈ TB := tb4 78 rfl rfl
theorem k866 : (Jvm.Cond.methodLink "BelievedWords$Rows" (39 : Nat) ({ cls := "java/util/Arrays", name := "copyOfRange", desc := "([III)[I" } : Jvm.MethodName)) ∈ TB := tb4 79 rfl rfl
theorem k867 : (Jvm.Cond.static ({ cls := "java/util/Arrays", name := "copyOfRange", desc := "([III)[I" } : Jvm.MethodName)) ∈ TB := tb4 80 rfl rfl
theorem k868 : (Jvm.Cond.code ({ cls := "java/util/Arrays", name := "copyOfRange", desc := "([III)[I" } : Jvm.MethodName) prog_19_method_136_code (3 : Nat) (Option.some (Jvm.ClassFile.FieldType.array Jvm.ClassFile.FieldType.int))) ∈ TB := tb4 81 rfl rfl
theorem k869 : (Jvm.Cond.methodLink "java/util/Arrays" (351 : Nat) ({ cls := "java/util/Arrays", name := "copyOfRangeInt", desc := "([III)[I" } : Jvm.MethodName)) ∈ TB := tb4 82 rfl rfl
theorem k870 : (Jvm.Cond.static ({ cls := "java/util/Arrays", name := "copyOfRangeInt", desc := "([III)[I" } : Jvm.MethodName)) ∈ TB := tb4 83 rfl rfl
theorem k871 : (Jvm.Cond.code ({ cls := "java/util/Arrays", name := "copyOfRangeInt", desc := "([III)[I" } : Jvm.MethodName) prog_19_method_137_code (5 : Nat) (Option.some (Jvm.ClassFile.FieldType.array Jvm.ClassFile.FieldType.int))) ∈ TB := tb4 84 rfl rfl
theorem k872 : (Jvm.Cond.methodLink "java/util/Arrays" (343 : Nat) ({ cls := "java/util/Arrays", name := "checkLength", desc := "(II)V" } : Jvm.MethodName)) ∈ TB := tb4 85 rfl rfl
theorem k873 : (Jvm.Cond.static ({ cls := "java/util/Arrays", name := "checkLength", desc := "(II)V" } : Jvm.MethodName)) ∈ TB := tb4 86 rfl rfl
theorem k874 : (Jvm.Cond.code ({ cls := "java/util/Arrays", name := "checkLength", desc := "(II)V" } : Jvm.MethodName) prog_19_method_131_code (2 : Nat) (Option.none : Option Jvm.ClassFile.FieldType)) ∈ TB := tb4 87 rfl rfl
theorem k875 : (Jvm.Cond.methodLink "java/util/Arrays" (304 : Nat) ({ cls := "java/lang/Math", name := "min", desc := "(II)I" } : Jvm.MethodName)) ∈ TB := tb4 88 rfl rfl
theorem k876 : (Jvm.Cond.methodLink "java/util/Arrays" (150 : Nat) ({ cls := "java/lang/System", name := "arraycopy", desc := "(Ljava/lang/Object;ILjava/lang/Object;II)V" } : Jvm.MethodName)) ∈ TB := tb4 89 rfl rfl
theorem k877 : (Jvm.Cond.methodLink "java/util/Arrays" (316 : Nat) ({ cls := "[I", name := "clone", desc := "()Ljava/lang/Object;" } : Jvm.MethodName)) ∈ TB := tb4 90 rfl rfl
theorem k879 : (Jvm.Cond.native ({ cls := "java/lang/Object", name := "clone", desc := "()Ljava/lang/Object;" } : Jvm.MethodName)) ∈ TB := tb4 92 rfl rfl
theorem k880 : (Jvm.Cond.instanceMethod ({ cls := "java/lang/Object", name := "clone", desc := "()Ljava/lang/Object;" } : Jvm.MethodName)) ∈ TB := tb4 93 rfl rfl
theorem k881 : (Jvm.Cond.selects "[I" ({ cls := "[I", name := "clone", desc := "()Ljava/lang/Object;" } : Jvm.MethodName) ({ cls := "java/lang/Object", name := "clone", desc := "()Ljava/lang/Object;" } : Jvm.MethodName)) ∈ TB := tb4 94 rfl rfl
theorem k884 : (Jvm.Cond.methodLink "BelievedWords" (254 : Nat) ({ cls := "BelievedWords$Foresight", name := "tellRows", desc := "(LBelievedWords$Court;I[I)V" } : Jvm.MethodName)) ∈ TB := tb4 97 rfl rfl
theorem k885 : (Jvm.Cond.instanceMethod ({ cls := "BelievedWords$Foresight", name := "tellRows", desc := "(LBelievedWords$Court;I[I)V" } : Jvm.MethodName)) ∈ TB := tb4 98 rfl rfl
theorem k886 : (Jvm.Cond.selects "BelievedWords$Foresight" ({ cls := "BelievedWords$Foresight", name := "tellRows", desc := "(LBelievedWords$Court;I[I)V" } : Jvm.MethodName) ({ cls := "BelievedWords$Foresight", name := "tellRows", desc := "(LBelievedWords$Court;I[I)V" } : Jvm.MethodName)) ∈ TB := tb4 99 rfl rfl
theorem k887 : (Jvm.Cond.code ({ cls := "BelievedWords$Foresight", name := "tellRows", desc := "(LBelievedWords$Court;I[I)V" } : Jvm.MethodName) prog_5_method_6_code (7 : Nat) (Option.none : Option Jvm.ClassFile.FieldType)) ∈ TB := tb4 100 rfl rfl
theorem k888 : (Jvm.Cond.methodLink "BelievedWords$Foresight" (70 : Nat) ({ cls := "java/util/Arrays", name := "fill", desc := "([II)V" } : Jvm.MethodName)) ∈ TB := tb4 101 rfl rfl
theorem k889 : (Jvm.Cond.methodLink "BelievedWords$Foresight" (76 : Nat) ({ cls := "BelievedWords$Foresight", name := "tellSaying", desc := "(LBelievedWords$Court;IIIIZ)V" } : Jvm.MethodName)) ∈ TB := tb4 102 rfl rfl
theorem k891 : (Jvm.Cond.instanceMethod ({ cls := "BelievedWords$Foresight", name := "tellSaying", desc := "(LBelievedWords$Court;IIIIZ)V" } : Jvm.MethodName)) ∈ TB := tb4 104 rfl rfl
theorem k892 : (Jvm.Cond.code ({ cls := "BelievedWords$Foresight", name := "tellSaying", desc := "(LBelievedWords$Court;IIIIZ)V" } : Jvm.MethodName) prog_5_method_7_code (11 : Nat) (Option.none : Option Jvm.ClassFile.FieldType)) ∈ TB := tb4 105 rfl rfl
theorem k893 : (Jvm.Cond.methodLink "BelievedWords$Foresight" (83 : Nat) ({ cls := "BelievedWords$Court", name := "factOf", desc := "(I)I" } : Jvm.MethodName)) ∈ TB := tb4 106 rfl rfl
theorem k894 : (Jvm.Cond.methodLink "BelievedWords$Foresight" (80 : Nat) ({ cls := "BelievedWords$Foresight", name := "turnOver", desc := "()V" } : Jvm.MethodName)) ∈ TB := tb4 107 rfl rfl
theorem k896 : (Jvm.Cond.instanceMethod ({ cls := "BelievedWords$Foresight", name := "turnOver", desc := "()V" } : Jvm.MethodName)) ∈ TB := tb4 109 rfl rfl
theorem k897 : (Jvm.Cond.code ({ cls := "BelievedWords$Foresight", name := "turnOver", desc := "()V" } : Jvm.MethodName) prog_5_method_8_code (3 : Nat) (Option.none : Option Jvm.ClassFile.FieldType)) ∈ TB := tb4 110 rfl rfl
theorem k898 : (Jvm.Cond.methodLink "BelievedWords" (258 : Nat) ({ cls := "BelievedWords$Foresight", name := "waysInAll", desc := "()I" } : Jvm.MethodName)) ∈ TB := tb4 111 rfl rfl
theorem k899 : (Jvm.Cond.instanceMethod ({ cls := "BelievedWords$Foresight", name := "waysInAll", desc := "()I" } : Jvm.MethodName)) ∈ TB := tb4 112 rfl rfl
theorem k900 : (Jvm.Cond.selects "BelievedWords$Foresight" ({ cls := "BelievedWords$Foresight", name := "waysInAll", desc := "()I" } : Jvm.MethodName) ({ cls := "BelievedWords$Foresight", name := "waysInAll", desc := "()I" } : Jvm.MethodName)) ∈ TB := tb4 113 rfl rfl
theorem k901 : (Jvm.Cond.code ({ cls := "BelievedWords$Foresight", name := "waysInAll", desc := "()I" } : Jvm.MethodName) prog_5_method_9_code (3 : Nat) (Option.some Jvm.ClassFile.FieldType.int)) ∈ TB := tb4 114 rfl rfl
theorem k902 : (Jvm.Cond.methodLink "BelievedWords" (261 : Nat) ({ cls := "BelievedWords$Foresight", name := "firstOfAll", desc := "()I" } : Jvm.MethodName)) ∈ TB := tb4 115 rfl rfl
theorem k903 : (Jvm.Cond.instanceMethod ({ cls := "BelievedWords$Foresight", name := "firstOfAll", desc := "()I" } : Jvm.MethodName)) ∈ TB := tb4 116 rfl rfl
theorem k904 : (Jvm.Cond.selects "BelievedWords$Foresight" ({ cls := "BelievedWords$Foresight", name := "firstOfAll", desc := "()I" } : Jvm.MethodName) ({ cls := "BelievedWords$Foresight", name := "firstOfAll", desc := "()I" } : Jvm.MethodName)) ∈ TB := tb4 117 rfl rfl
theorem k905 : (Jvm.Cond.code ({ cls := "BelievedWords$Foresight", name := "firstOfAll", desc := "()I" } : Jvm.MethodName) prog_5_method_10_code (3 : Nat) (Option.some Jvm.ClassFile.FieldType.int)) ∈ TB := tb4 118 rfl rfl
theorem k906 : (Jvm.Cond.methodLink "BelievedWordsLaw" (106 : Nat) ({ cls := "BelievedWords", name := "who", desc := "(IIII)I" } : Jvm.MethodName)) ∈ TB := tb4 119 rfl rfl
theorem k907 : (Jvm.Cond.instanceMethod ({ cls := "BelievedWords", name := "who", desc := "(IIII)I" } : Jvm.MethodName)) ∈ TB := tb4 120 rfl rfl
theorem k908 : (Jvm.Cond.selects "BelievedWords" ({ cls := "BelievedWords", name := "who", desc := "(IIII)I" } : Jvm.MethodName) ({ cls := "BelievedWords", name := "who", desc := "(IIII)I" } : Jvm.MethodName)) ∈ TB := tb4 121 rfl rfl
theorem k909 : (Jvm.Cond.code ({ cls := "BelievedWords", name := "who", desc := "(IIII)I" } : Jvm.MethodName) prog_1_method_24_code (8 : Nat) (Option.some Jvm.ClassFile.FieldType.int)) ∈ TB := tb4 122 rfl rfl
theorem k910 : (Jvm.Cond.methodLink "BelievedWords" (264 : Nat) ({ cls := "BelievedWords$Foresight", name := "fittingKinds", desc := "(LBelievedWords$Court;[I)I" } : Jvm.MethodName)) ∈ TB := tb4 123 rfl rfl
theorem k911 : (Jvm.Cond.instanceMethod ({ cls := "BelievedWords$Foresight", name := "fittingKinds", desc := "(LBelievedWords$Court;[I)I" } : Jvm.MethodName)) ∈ TB := tb4 124 rfl rfl
theorem k912 : (Jvm.Cond.selects "BelievedWords$Foresight" ({ cls := "BelievedWords$Foresight", name := "fittingKinds", desc := "(LBelievedWords$Court;[I)I" } : Jvm.MethodName) ({ cls := "BelievedWords$Foresight", name := "fittingKinds", desc := "(LBelievedWords$Court;[I)I" } : Jvm.MethodName)) ∈ TB := tb4 125 rfl rfl
theorem k913 : (Jvm.Cond.code ({ cls := "BelievedWords$Foresight", name := "fittingKinds", desc := "(LBelievedWords$Court;[I)I" } : Jvm.MethodName) prog_5_method_11_code (5 : Nat) (Option.some Jvm.ClassFile.FieldType.int)) ∈ TB := tb4 126 rfl rfl
theorem k914 : (Jvm.Cond.methodLink "BelievedWords$Foresight" (86 : Nat) ({ cls := "BelievedWords$Foresight", name := "fits", desc := "(LBelievedWords$Court;I[I)Z" } : Jvm.MethodName)) ∈ TB := tb4 127 rfl rfl
theorem k915 : (Jvm.Cond.static ({ cls := "BelievedWords$Foresight", name := "fits", desc := "(LBelievedWords$Court;I[I)Z" } : Jvm.MethodName)) ∈ TB := tb4 128 rfl rfl
theorem k916 : (Jvm.Cond.code ({ cls := "BelievedWords$Foresight", name := "fits", desc := "(LBelievedWords$Court;I[I)Z" } : Jvm.MethodName) prog_5_method_12_code (6 : Nat) (Option.some Jvm.ClassFile.FieldType.boolean)) ∈ TB := tb4 129 rfl rfl
theorem k917 : (Jvm.Cond.methodLink "BelievedWords$Foresight" (90 : Nat) ({ cls := "BelievedWords$Court", name := "soBehind", desc := "(IIII)I" } : Jvm.MethodName)) ∈ TB := tb4 130 rfl rfl
theorem k918 : (Jvm.Cond.instanceMethod ({ cls := "BelievedWords$Court", name := "soBehind", desc := "(IIII)I" } : Jvm.MethodName)) ∈ TB := tb4 131 rfl rfl
theorem k919 : (Jvm.Cond.selects "BelievedWords$Court" ({ cls := "BelievedWords$Court", name := "soBehind", desc := "(IIII)I" } : Jvm.MethodName) ({ cls := "BelievedWords$Court", name := "soBehind", desc := "(IIII)I" } : Jvm.MethodName)) ∈ TB := tb4 132 rfl rfl
theorem k920 : (Jvm.Cond.code ({ cls := "BelievedWords$Court", name := "soBehind", desc := "(IIII)I" } : Jvm.MethodName) prog_4_method_11_code (6 : Nat) (Option.some Jvm.ClassFile.FieldType.int)) ∈ TB := tb4 133 rfl rfl
theorem k921 : (Jvm.Cond.methodLink "BelievedWordsLaw" (111 : Nat) ({ cls := "BelievedWords", name := "temper", desc := "(IIIIII)J" } : Jvm.MethodName)) ∈ TB := tb4 134 rfl rfl
theorem k922 : (Jvm.Cond.instanceMethod ({ cls := "BelievedWords", name := "temper", desc := "(IIIIII)J" } : Jvm.MethodName)) ∈ TB := tb4 135 rfl rfl
theorem k923 : (Jvm.Cond.selects "BelievedWords" ({ cls := "BelievedWords", name := "temper", desc := "(IIIIII)J" } : Jvm.MethodName) ({ cls := "BelievedWords", name := "temper", desc := "(IIIIII)J" } : Jvm.MethodName)) ∈ TB := tb4 136 rfl rfl
theorem k924 : (Jvm.Cond.code ({ cls := "BelievedWords", name := "temper", desc := "(IIIIII)J" } : Jvm.MethodName) prog_1_method_25_code (10 : Nat) (Option.some Jvm.ClassFile.FieldType.long)) ∈ TB := tb4 137 rfl rfl
theorem k925 : (Jvm.Cond.constantLong "BelievedWords" (268 : Nat) (-1000002 : Int64)) ∈ TB := tb4 138 rfl rfl
theorem k926 : (Jvm.Cond.constantLong "BelievedWords" (270 : Nat) (-1000001 : Int64)) ∈ TB := tb4 139 rfl rfl
theorem k927 : (Jvm.Cond.methodLink "BelievedWords" (275 : Nat) ({ cls := "BelievedWords$Foresight", name := "likelihood", desc := "(LBelievedWords$Court;II[II)J" } : Jvm.MethodName)) ∈ TB := tb4 140 rfl rfl
theorem k928 : (Jvm.Cond.instanceMethod ({ cls := "BelievedWords$Foresight", name := "likelihood", desc := "(LBelievedWords$Court;II[II)J" } : Jvm.MethodName)) ∈ TB := tb4 141 rfl rfl
theorem k929 : (Jvm.Cond.selects "BelievedWords$Foresight" ({ cls := "BelievedWords$Foresight", name := "likelihood", desc := "(LBelievedWords$Court;II[II)J" } : Jvm.MethodName) ({ cls := "BelievedWords$Foresight", name := "likelihood", desc := "(LBelievedWords$Court;II[II)J" } : Jvm.MethodName)) ∈ TB := tb4 142 rfl rfl
theorem k930 : (Jvm.Cond.code ({ cls := "BelievedWords$Foresight", name := "likelihood", desc := "(LBelievedWords$Court;II[II)J" } : Jvm.MethodName) prog_5_method_13_code (14 : Nat) (Option.some Jvm.ClassFile.FieldType.long)) ∈ TB := tb4 143 rfl rfl
theorem k931 : (Jvm.Cond.constantLong "BelievedWords$Foresight" (93 : Nat) (10 : Int64)) ∈ TB := tb4 144 rfl rfl
theorem k932 : (Jvm.Cond.methodLink "BelievedWords$Foresight" (95 : Nat) ({ cls := "BelievedWords$Foresight", name := "cases", desc := "(III)J" } : Jvm.MethodName)) ∈ TB := tb4 145 rfl rfl
theorem k933 : (Jvm.Cond.static ({ cls := "BelievedWords$Foresight", name := "cases", desc := "(III)J" } : Jvm.MethodName)) ∈ TB := tb4 146 rfl rfl
theorem k934 : (Jvm.Cond.code ({ cls := "BelievedWords$Foresight", name := "cases", desc := "(III)J" } : Jvm.MethodName) prog_5_method_14_code (6 : Nat) (Option.some Jvm.ClassFile.FieldType.long)) ∈ TB := tb4 147 rfl rfl
theorem k935 : (Jvm.Cond.methodLink "BelievedWords$Foresight" (99 : Nat) ({ cls := "BelievedWords$Foresight", name := "soByPlan", desc := "(LBelievedWords$Court;[II)I" } : Jvm.MethodName)) ∈ TB := tb4 148 rfl rfl
theorem k936 : (Jvm.Cond.static ({ cls := "BelievedWords$Foresight", name := "soByPlan", desc := "(LBelievedWords$Court;[II)I" } : Jvm.MethodName)) ∈ TB := tb4 149 rfl rfl
theorem k937 : (Jvm.Cond.code ({ cls := "BelievedWords$Foresight", name := "soByPlan", desc := "(LBelievedWords$Court;[II)I" } : Jvm.MethodName) prog_5_method_15_code (7 : Nat) (Option.some Jvm.ClassFile.FieldType.int)) ∈ TB := tb4 150 rfl rfl
theorem k938 : (Jvm.Cond.methodLink "BelievedWords$Foresight" (103 : Nat) ({ cls := "BelievedWords$Foresight", name := "commonDivisor", desc := "(JJ)J" } : Jvm.MethodName)) ∈ TB := tb4 151 rfl rfl
theorem k939 : (Jvm.Cond.static ({ cls := "BelievedWords$Foresight", name := "commonDivisor", desc := "(JJ)J" } : Jvm.MethodName)) ∈ TB := tb4 152 rfl rfl
theorem k940 : (Jvm.Cond.code ({ cls := "BelievedWords$Foresight", name := "commonDivisor", desc := "(JJ)J" } : Jvm.MethodName) prog_5_method_16_code (11 : Nat) (Option.some Jvm.ClassFile.FieldType.long)) ∈ TB := tb4 153 rfl rfl
theorem k941 : (Jvm.Cond.constantLong "BelievedWords$Foresight" (107 : Nat) (-1000000 : Int64)) ∈ TB := tb4 154 rfl rfl
theorem k942 : (Jvm.Cond.methodLink "BelievedWordsLaw" (116 : Nat) ({ cls := "BelievedWords", name := "drawn", desc := "(III)I" } : Jvm.MethodName)) ∈ TB := tb4 155 rfl rfl
theorem k943 : (Jvm.Cond.instanceMethod ({ cls := "BelievedWords", name := "drawn", desc := "(III)I" } : Jvm.MethodName)) ∈ TB := tb4 156 rfl rfl
theorem k944 : (Jvm.Cond.selects "BelievedWords" ({ cls := "BelievedWords", name := "drawn", desc := "(III)I" } : Jvm.MethodName) ({ cls := "BelievedWords", name := "drawn", desc := "(III)I" } : Jvm.MethodName)) ∈ TB := tb4 157 rfl rfl
theorem k945 : (Jvm.Cond.code ({ cls := "BelievedWords", name := "drawn", desc := "(III)I" } : Jvm.MethodName) prog_1_method_26_code (4 : Nat) (Option.some Jvm.ClassFile.FieldType.int)) ∈ TB := tb4 158 rfl rfl
theorem k946 : (Jvm.Cond.constant "BelievedWords" (279 : Nat) (999999 : Int32)) ∈ TB := tb4 159 rfl rfl
theorem k947 : (Jvm.Cond.methodLink "BelievedWords" (280 : Nat) ({ cls := "BelievedWords$Foresight", name := "talk", desc := "(LBelievedWords$Court;III)I" } : Jvm.MethodName)) ∈ TB := tb4 160 rfl rfl
theorem k948 : (Jvm.Cond.instanceMethod ({ cls := "BelievedWords$Foresight", name := "talk", desc := "(LBelievedWords$Court;III)I" } : Jvm.MethodName)) ∈ TB := tb4 161 rfl rfl
theorem k949 : (Jvm.Cond.selects "BelievedWords$Foresight" ({ cls := "BelievedWords$Foresight", name := "talk", desc := "(LBelievedWords$Court;III)I" } : Jvm.MethodName) ({ cls := "BelievedWords$Foresight", name := "talk", desc := "(LBelievedWords$Court;III)I" } : Jvm.MethodName)) ∈ TB := tb4 162 rfl rfl
theorem k950 : (Jvm.Cond.code ({ cls := "BelievedWords$Foresight", name := "talk", desc := "(LBelievedWords$Court;III)I" } : Jvm.MethodName) prog_5_method_17_code (14 : Nat) (Option.some Jvm.ClassFile.FieldType.int)) ∈ TB := tb4 163 rfl rfl
theorem k951 : (Jvm.Cond.methodLink "BelievedWords$Foresight" (112 : Nat) ({ cls := "BelievedWords$Court", name := "isOpen", desc := "()Z" } : Jvm.MethodName)) ∈ TB := tb4 164 rfl rfl
theorem k952 : (Jvm.Cond.constant "BelievedWords$Foresight" (119 : Nat) (-1000002 : Int32)) ∈ TB := tb4 165 rfl rfl
theorem k953 : (Jvm.Cond.constantLong "BelievedWords$Foresight" (120 : Nat) (16807 : Int64)) ∈ TB := tb4 166 rfl rfl
theorem k954 : (Jvm.Cond.constantLong "BelievedWords$Foresight" (122 : Nat) (2147483647 : Int64)) ∈ TB := tb4 167 rfl rfl
theorem k955 : (Jvm.Cond.methodLink "BelievedWords$Foresight" (124 : Nat) ({ cls := "BelievedWords$Court", name := "price", desc := "(II)I" } : Jvm.MethodName)) ∈ TB := tb4 168 rfl rfl
theorem k956 : (Jvm.Cond.methodLink "BelievedWordsLaw" (120 : Nat) ({ cls := "BelievedWords", name := "image", desc := "(I)I" } : Jvm.MethodName)) ∈ TB := tb4 169 rfl rfl
theorem k957 : (Jvm.Cond.instanceMethod ({ cls := "BelievedWords", name := "image", desc := "(I)I" } : Jvm.MethodName)) ∈ TB := tb4 170 rfl rfl
theorem k958 : (Jvm.Cond.selects "BelievedWords" ({ cls := "BelievedWords", name := "image", desc := "(I)I" } : Jvm.MethodName) ({ cls := "BelievedWords", name := "image", desc := "(I)I" } : Jvm.MethodName)) ∈ TB := tb4 171 rfl rfl
theorem k959 : (Jvm.Cond.code ({ cls := "BelievedWords", name := "image", desc := "(I)I" } : Jvm.MethodName) prog_1_method_27_code (2 : Nat) (Option.some Jvm.ClassFile.FieldType.int)) ∈ TB := tb4 172 rfl rfl
theorem k960 : (Jvm.Cond.methodLink "BelievedWords" (283 : Nat) ({ cls := "BelievedWords", name := "isImage", desc := "(I)Z" } : Jvm.MethodName)) ∈ TB := tb4 173 rfl rfl
theorem k961 : (Jvm.Cond.static ({ cls := "BelievedWords", name := "isImage", desc := "(I)Z" } : Jvm.MethodName)) ∈ TB := tb4 174 rfl rfl
theorem k962 : (Jvm.Cond.code ({ cls := "BelievedWords", name := "isImage", desc := "(I)Z" } : Jvm.MethodName) prog_1_method_39_code (1 : Nat) (Option.some Jvm.ClassFile.FieldType.boolean)) ∈ TB := tb4 175 rfl rfl
theorem k963 : (Jvm.Cond.methodLink "BelievedWords" (286 : Nat) ({ cls := "BelievedWords$Image", name := "take", desc := "(LBelievedWords$Court;)V" } : Jvm.MethodName)) ∈ TB := tb4 176 rfl rfl
theorem k964 : (Jvm.Cond.instanceMethod ({ cls := "BelievedWords$Image", name := "take", desc := "(LBelievedWords$Court;)V" } : Jvm.MethodName)) ∈ TB := tb4 177 rfl rfl
theorem k965 : (Jvm.Cond.selects "BelievedWords$Image" ({ cls := "BelievedWords$Image", name := "take", desc := "(LBelievedWords$Court;)V" } : Jvm.MethodName) ({ cls := "BelievedWords$Image", name := "take", desc := "(LBelievedWords$Court;)V" } : Jvm.MethodName)) ∈ TB := tb4 178 rfl rfl
theorem k966 : (Jvm.Cond.code ({ cls := "BelievedWords$Image", name := "take", desc := "(LBelievedWords$Court;)V" } : Jvm.MethodName) prog_6_method_2_code (2 : Nat) (Option.none : Option Jvm.ClassFile.FieldType)) ∈ TB := tb4 179 rfl rfl
theorem k967 : (Jvm.Cond.methodLink "BelievedWords$Image" (26 : Nat) ({ cls := "BelievedWords$Law", name := "become", desc := "(LBelievedWords$Law;)V" } : Jvm.MethodName)) ∈ TB := tb4 180 rfl rfl
theorem k968 : (Jvm.Cond.methodLink "BelievedWords$Image" (33 : Nat) ({ cls := "BelievedWords$Standing", name := "become", desc := "(LBelievedWords$Standing;)V" } : Jvm.MethodName)) ∈ TB := tb4 181 rfl rfl
theorem k969 : (Jvm.Cond.methodLink "BelievedWordsLaw" (124 : Nat) ({ cls := "BelievedWords", name := "restore", desc := "(I)I" } : Jvm.MethodName)) ∈ TB := tb4 182 rfl rfl
theorem k970 : (Jvm.Cond.instanceMethod ({ cls := "BelievedWords", name := "restore", desc := "(I)I" } : Jvm.MethodName)) ∈ TB := tb4 183 rfl rfl
theorem k971 : (Jvm.Cond.selects "BelievedWords" ({ cls := "BelievedWords", name := "restore", desc := "(I)I" } : Jvm.MethodName) ({ cls := "BelievedWords", name := "restore", desc := "(I)I" } : Jvm.MethodName)) ∈ TB := tb4 184 rfl rfl
theorem k972 : (Jvm.Cond.code ({ cls := "BelievedWords", name := "restore", desc := "(I)I" } : Jvm.MethodName) prog_1_method_28_code (2 : Nat) (Option.some Jvm.ClassFile.FieldType.int)) ∈ TB := tb4 185 rfl rfl
theorem k973 : (Jvm.Cond.methodLink "BelievedWords" (298 : Nat) ({ cls := "BelievedWords$Court", name := "resume", desc := "(LBelievedWords$Law;LBelievedWords$Standing;)V" } : Jvm.MethodName)) ∈ TB := tb4 186 rfl rfl
theorem k974 : (Jvm.Cond.instanceMethod ({ cls := "BelievedWords$Court", name := "resume", desc := "(LBelievedWords$Law;LBelievedWords$Standing;)V" } : Jvm.MethodName)) ∈ TB := tb4 187 rfl rfl
theorem k975 : (Jvm.Cond.selects "BelievedWords$Court" ({ cls := "BelievedWords$Court", name := "resume", desc := "(LBelievedWords$Law;LBelievedWords$Standing;)V" } : Jvm.MethodName) ({ cls := "BelievedWords$Court", name := "resume", desc := "(LBelievedWords$Law;LBelievedWords$Standing;)V" } : Jvm.MethodName)) ∈ TB := tb4 188 rfl rfl
theorem k976 : (Jvm.Cond.code ({ cls := "BelievedWords$Court", name := "resume", desc := "(LBelievedWords$Law;LBelievedWords$Standing;)V" } : Jvm.MethodName) prog_4_method_4_code (3 : Nat) (Option.none : Option Jvm.ClassFile.FieldType)) ∈ TB := tb4 189 rfl rfl
theorem k977 : (Jvm.Cond.methodLink "BelievedWords$Court" (53 : Nat) ({ cls := "BelievedWords$Court", name := "goBack", desc := "(LBelievedWords$Standing;)V" } : Jvm.MethodName)) ∈ TB := tb4 190 rfl rfl
theorem k978 : (Jvm.Cond.methodLink "BelievedWordsLaw" (128 : Nat) ({ cls := "BelievedWords", name := "kind", desc := "(I)I" } : Jvm.MethodName)) ∈ TB := tb4 191 rfl rfl
theorem k979 : (Jvm.Cond.instanceMethod ({ cls := "BelievedWords", name := "kind", desc := "(I)I" } : Jvm.MethodName)) ∈ TB := tb4 192 rfl rfl
theorem k980 : (Jvm.Cond.selects "BelievedWords" ({ cls := "BelievedWords", name := "kind", desc := "(I)I" } : Jvm.MethodName) ({ cls := "BelievedWords", name := "kind", desc := "(I)I" } : Jvm.MethodName)) ∈ TB := tb4 193 rfl rfl
theorem k981 : (Jvm.Cond.code ({ cls := "BelievedWords", name := "kind", desc := "(I)I" } : Jvm.MethodName) prog_1_method_29_code (2 : Nat) (Option.some Jvm.ClassFile.FieldType.int)) ∈ TB := tb4 194 rfl rfl
theorem k982 : (Jvm.Cond.methodLink "BelievedWordsLaw" (132 : Nat) ({ cls := "BelievedWords", name := "as", desc := "(II)I" } : Jvm.MethodName)) ∈ TB := tb4 195 rfl rfl
theorem k983 : (Jvm.Cond.instanceMethod ({ cls := "BelievedWords", name := "as", desc := "(II)I" } : Jvm.MethodName)) ∈ TB := tb4 196 rfl rfl
theorem k984 : (Jvm.Cond.selects "BelievedWords" ({ cls := "BelievedWords", name := "as", desc := "(II)I" } : Jvm.MethodName) ({ cls := "BelievedWords", name := "as", desc := "(II)I" } : Jvm.MethodName)) ∈ TB := tb4 197 rfl rfl
theorem k985 : (Jvm.Cond.code ({ cls := "BelievedWords", name := "as", desc := "(II)I" } : Jvm.MethodName) prog_1_method_30_code (3 : Nat) (Option.some Jvm.ClassFile.FieldType.int)) ∈ TB := tb4 198 rfl rfl
theorem k986 : (Jvm.Cond.methodLink "BelievedWords" (302 : Nat) ({ cls := "BelievedWords$Asks", name := "isOfKind", desc := "(II)Z" } : Jvm.MethodName)) ∈ TB := tb4 199 rfl rfl
theorem k987 : (Jvm.Cond.static ({ cls := "BelievedWords$Asks", name := "isOfKind", desc := "(II)Z" } : Jvm.MethodName)) ∈ TB := tb4 200 rfl rfl
theorem k988 : (Jvm.Cond.code ({ cls := "BelievedWords$Asks", name := "isOfKind", desc := "(II)Z" } : Jvm.MethodName) prog_3_method_2_code (4 : Nat) (Option.some Jvm.ClassFile.FieldType.boolean)) ∈ TB := tb4 201 rfl rfl
theorem k989 : (Jvm.Cond.fieldLink "BelievedWords$Asks" (15 : Nat) "BelievedWords$Asks" "PARENTS" "[I") ∈ TB := tb4 202 rfl rfl
theorem k991 : (Jvm.Cond.methodLink "BelievedWordsLaw" (136 : Nat) ({ cls := "BelievedWords", name := "ask", desc := "(II)I" } : Jvm.MethodName)) ∈ TB := tb4 204 rfl rfl
theorem k992 : (Jvm.Cond.instanceMethod ({ cls := "BelievedWords", name := "ask", desc := "(II)I" } : Jvm.MethodName)) ∈ TB := tb4 205 rfl rfl
theorem k993 : (Jvm.Cond.selects "BelievedWords" ({ cls := "BelievedWords", name := "ask", desc := "(II)I" } : Jvm.MethodName) ({ cls := "BelievedWords", name := "ask", desc := "(II)I" } : Jvm.MethodName)) ∈ TB := tb4 206 rfl rfl
theorem k994 : (Jvm.Cond.code ({ cls := "BelievedWords", name := "ask", desc := "(II)I" } : Jvm.MethodName) prog_1_method_31_code (3 : Nat) (Option.some Jvm.ClassFile.FieldType.int)) ∈ TB := tb4 207 rfl rfl
theorem k995 : (Jvm.Cond.methodLink "BelievedWords" (306 : Nat) ({ cls := "BelievedWords$Asks", name := "answer", desc := "(LBelievedWords$Court;II)I" } : Jvm.MethodName)) ∈ TB := tb4 208 rfl rfl
theorem k996 : (Jvm.Cond.instanceMethod ({ cls := "BelievedWords$Asks", name := "answer", desc := "(LBelievedWords$Court;II)I" } : Jvm.MethodName)) ∈ TB := tb4 209 rfl rfl
theorem k997 : (Jvm.Cond.selects "BelievedWords$Asks" ({ cls := "BelievedWords$Asks", name := "answer", desc := "(LBelievedWords$Court;II)I" } : Jvm.MethodName) ({ cls := "BelievedWords$Asks", name := "answer", desc := "(LBelievedWords$Court;II)I" } : Jvm.MethodName)) ∈ TB := tb4 210 rfl rfl
theorem k998 : (Jvm.Cond.code ({ cls := "BelievedWords$Asks", name := "answer", desc := "(LBelievedWords$Court;II)I" } : Jvm.MethodName) prog_3_method_4_code (4 : Nat) (Option.some Jvm.ClassFile.FieldType.int)) ∈ TB := tb4 211 rfl rfl
theorem k999 : (Jvm.Cond.methodLink "BelievedWords$Asks" (23 : Nat) ({ cls := "BelievedWords$Asks", name := "askedOf", desc := "(LBelievedWords$Court;III)I" } : Jvm.MethodName)) ∈ TB := tb4 212 rfl rfl
theorem k1001 : (Jvm.Cond.instanceMethod ({ cls := "BelievedWords$Asks", name := "askedOf", desc := "(LBelievedWords$Court;III)I" } : Jvm.MethodName)) ∈ TB := tb4 214 rfl rfl
theorem k1002 : (Jvm.Cond.code ({ cls := "BelievedWords$Asks", name := "askedOf", desc := "(LBelievedWords$Court;III)I" } : Jvm.MethodName) prog_3_method_5_code (6 : Nat) (Option.some Jvm.ClassFile.FieldType.int)) ∈ TB := tb4 215 rfl rfl
theorem k1003 : (Jvm.Cond.fieldLink "BelievedWords$Asks" (38 : Nat) "BelievedWords$Asks" "SIZES" "[I") ∈ TB := tb4 216 rfl rfl
theorem k1005 : (Jvm.Cond.fieldLink "BelievedWords$Asks" (41 : Nat) "BelievedWords$Asks" "MARKS" "[I") ∈ TB := tb4 218 rfl rfl
theorem k1007 : (Jvm.Cond.methodLink "BelievedWords$Asks" (44 : Nat) ({ cls := "BelievedWords$Asks", name := "body", desc := "(LBelievedWords$Court;III)I" } : Jvm.MethodName)) ∈ TB := tb4 220 rfl rfl
theorem k1009 : (Jvm.Cond.instanceMethod ({ cls := "BelievedWords$Asks", name := "body", desc := "(LBelievedWords$Court;III)I" } : Jvm.MethodName)) ∈ TB := tb4 222 rfl rfl
theorem k1010 : (Jvm.Cond.code ({ cls := "BelievedWords$Asks", name := "body", desc := "(LBelievedWords$Court;III)I" } : Jvm.MethodName) prog_3_method_6_code (6 : Nat) (Option.some Jvm.ClassFile.FieldType.int)) ∈ TB := tb4 223 rfl rfl
theorem k1011 : (Jvm.Cond.methodLink "BelievedWords$Asks" (47 : Nat) ({ cls := "BelievedWords$Asks", name := "leave", desc := "(I)V" } : Jvm.MethodName)) ∈ TB := tb4 224 rfl rfl
theorem k1013 : (Jvm.Cond.instanceMethod ({ cls := "BelievedWords$Asks", name := "leave", desc := "(I)V" } : Jvm.MethodName)) ∈ TB := tb4 226 rfl rfl
theorem k1014 : (Jvm.Cond.code ({ cls := "BelievedWords$Asks", name := "leave", desc := "(I)V" } : Jvm.MethodName) prog_3_method_7_code (2 : Nat) (Option.none : Option Jvm.ClassFile.FieldType)) ∈ TB := tb4 227 rfl rfl
theorem k1015 : (Jvm.Cond.methodLink "BelievedWordsLaw" (140 : Nat) ({ cls := "BelievedWords", name := "trace", desc := "(I)I" } : Jvm.MethodName)) ∈ TB := tb4 228 rfl rfl
theorem k1016 : (Jvm.Cond.instanceMethod ({ cls := "BelievedWords", name := "trace", desc := "(I)I" } : Jvm.MethodName)) ∈ TB := tb4 229 rfl rfl
theorem k1017 : (Jvm.Cond.selects "BelievedWords" ({ cls := "BelievedWords", name := "trace", desc := "(I)I" } : Jvm.MethodName) ({ cls := "BelievedWords", name := "trace", desc := "(I)I" } : Jvm.MethodName)) ∈ TB := tb4 230 rfl rfl
theorem k1018 : (Jvm.Cond.code ({ cls := "BelievedWords", name := "trace", desc := "(I)I" } : Jvm.MethodName) prog_1_method_32_code (2 : Nat) (Option.some Jvm.ClassFile.FieldType.int)) ∈ TB := tb4 231 rfl rfl
theorem k1019 : (Jvm.Cond.methodLink "BelievedWords" (309 : Nat) ({ cls := "BelievedWords$Asks", name := "traced", desc := "(I)I" } : Jvm.MethodName)) ∈ TB := tb4 232 rfl rfl
theorem k1020 : (Jvm.Cond.instanceMethod ({ cls := "BelievedWords$Asks", name := "traced", desc := "(I)I" } : Jvm.MethodName)) ∈ TB := tb4 233 rfl rfl
theorem k1021 : (Jvm.Cond.selects "BelievedWords$Asks" ({ cls := "BelievedWords$Asks", name := "traced", desc := "(I)I" } : Jvm.MethodName) ({ cls := "BelievedWords$Asks", name := "traced", desc := "(I)I" } : Jvm.MethodName)) ∈ TB := tb4 234 rfl rfl
theorem k1022 : (Jvm.Cond.code ({ cls := "BelievedWords$Asks", name := "traced", desc := "(I)I" } : Jvm.MethodName) prog_3_method_3_code (2 : Nat) (Option.some Jvm.ClassFile.FieldType.int)) ∈ TB := tb4 235 rfl rfl
theorem k1023 : (Jvm.Cond.constant "BelievedWords$Asks" (22 : Nat) (-1000000 : Int32)) ∈ TB := tb4 236 rfl rfl
theorem k1024 : (Jvm.Cond.methodLink "BelievedWordsLaw" (144 : Nat) ({ cls := "BelievedWords", name := "count", desc := "(I)I" } : Jvm.MethodName)) ∈ TB := tb4 237 rfl rfl
theorem k1025 : (Jvm.Cond.instanceMethod ({ cls := "BelievedWords", name := "count", desc := "(I)I" } : Jvm.MethodName)) ∈ TB := tb4 238 rfl rfl
theorem k1026 : (Jvm.Cond.selects "BelievedWords" ({ cls := "BelievedWords", name := "count", desc := "(I)I" } : Jvm.MethodName) ({ cls := "BelievedWords", name := "count", desc := "(I)I" } : Jvm.MethodName)) ∈ TB := tb4 239 rfl rfl
theorem k1027 : (Jvm.Cond.code ({ cls := "BelievedWords", name := "count", desc := "(I)I" } : Jvm.MethodName) prog_1_method_33_code (2 : Nat) (Option.some Jvm.ClassFile.FieldType.int)) ∈ TB := tb5 0 rfl rfl
theorem k1028 : (Jvm.Cond.methodLink "BelievedWords" (312 : Nat) ({ cls := "BelievedWords$Rows", name := "present", desc := "()I" } : Jvm.MethodName)) ∈ TB := tb5 1 rfl rfl
theorem k1029 : (Jvm.Cond.instanceMethod ({ cls := "BelievedWords$Rows", name := "present", desc := "()I" } : Jvm.MethodName)) ∈ TB := tb5 2 rfl rfl
theorem k1030 : (Jvm.Cond.selects "BelievedWords$Rows" ({ cls := "BelievedWords$Rows", name := "present", desc := "()I" } : Jvm.MethodName) ({ cls := "BelievedWords$Rows", name := "present", desc := "()I" } : Jvm.MethodName)) ∈ TB := tb5 3 rfl rfl
theorem k1031 : (Jvm.Cond.code ({ cls := "BelievedWords$Rows", name := "present", desc := "()I" } : Jvm.MethodName) prog_8_method_10_code (3 : Nat) (Option.some Jvm.ClassFile.FieldType.int)) ∈ TB := tb5 4 rfl rfl
theorem k1032 : (Jvm.Cond.methodLink "BelievedWordsLaw" (148 : Nat) ({ cls := "BelievedWords", name := "status", desc := "()I" } : Jvm.MethodName)) ∈ TB := tb5 5 rfl rfl
theorem k1033 : (Jvm.Cond.instanceMethod ({ cls := "BelievedWords", name := "status", desc := "()I" } : Jvm.MethodName)) ∈ TB := tb5 6 rfl rfl
theorem k1034 : (Jvm.Cond.selects "BelievedWords" ({ cls := "BelievedWords", name := "status", desc := "()I" } : Jvm.MethodName) ({ cls := "BelievedWords", name := "status", desc := "()I" } : Jvm.MethodName)) ∈ TB := tb5 7 rfl rfl
theorem k1035 : (Jvm.Cond.code ({ cls := "BelievedWords", name := "status", desc := "()I" } : Jvm.MethodName) prog_1_method_34_code (1 : Nat) (Option.some Jvm.ClassFile.FieldType.int)) ∈ TB := tb5 8 rfl rfl
theorem k1038 : (Jvm.Cond.methodLink "BelievedWordsLaw" (12 : Nat) ({ cls := "BelievedWordsModel", name := "<init>", desc := "()V" } : Jvm.MethodName)) ∈ TB := tb5 11 rfl rfl
theorem k1039 : (Jvm.Cond.instanceMethod ({ cls := "BelievedWordsModel", name := "<init>", desc := "()V" } : Jvm.MethodName)) ∈ TB := tb5 12 rfl rfl
theorem k1040 : (Jvm.Cond.code ({ cls := "BelievedWordsModel", name := "<init>", desc := "()V" } : Jvm.MethodName) prog_13_method_1_code (1 : Nat) (Option.none : Option Jvm.ClassFile.FieldType)) ∈ TB := tb5 13 rfl rfl
theorem k1041 : (Jvm.Cond.methodLink "BelievedWordsModel" (1 : Nat) ({ cls := "java/lang/Object", name := "<init>", desc := "()V" } : Jvm.MethodName)) ∈ TB := tb5 14 rfl rfl
theorem k1042 : (Jvm.Cond.fieldLink "BelievedWordsModel" (53 : Nat) "BelievedWordsModel" "thrown" "I") ∈ TB := tb5 15 rfl rfl
theorem k1043 : (Jvm.Cond.fieldLink "BelievedWordsModel" (57 : Nat) "BelievedWordsModel" "status" "I") ∈ TB := tb5 16 rfl rfl
theorem k1044 : (Jvm.Cond.fieldLink "BelievedWordsModel" (7 : Nat) "BelievedWordsModel" "lane" "[I") ∈ TB := tb5 17 rfl rfl
theorem k1045 : (Jvm.Cond.fieldLink "BelievedWordsModel" (13 : Nat) "BelievedWordsModel" "many" "[I") ∈ TB := tb5 18 rfl rfl
theorem k1046 : (Jvm.Cond.fieldLink "BelievedWordsModel" (16 : Nat) "BelievedWordsModel" "item" "[I") ∈ TB := tb5 19 rfl rfl
theorem k1047 : (Jvm.Cond.fieldLink "BelievedWordsModel" (19 : Nat) "BelievedWordsModel" "court" "[I") ∈ TB := tb5 20 rfl rfl
theorem k1048 : (Jvm.Cond.fieldLink "BelievedWordsModel" (22 : Nat) "BelievedWordsModel" "fresh" "[I") ∈ TB := tb5 21 rfl rfl
theorem k1049 : (Jvm.Cond.fieldLink "BelievedWordsModel" (25 : Nat) "BelievedWordsModel" "was" "[I") ∈ TB := tb5 22 rfl rfl
theorem k1050 : (Jvm.Cond.fieldLink "BelievedWordsModel" (156 : Nat) "BelievedWordsModel" "acts" "I") ∈ TB := tb5 23 rfl rfl
theorem k1051 : (Jvm.Cond.fieldLink "BelievedWordsModel" (28 : Nat) "BelievedWordsModel" "tape" "[I") ∈ TB := tb5 24 rfl rfl
theorem k1052 : (Jvm.Cond.fieldLink "BelievedWordsModel" (80 : Nat) "BelievedWordsModel" "taped" "I") ∈ TB := tb5 25 rfl rfl
theorem k1053 : (Jvm.Cond.fieldLink "BelievedWordsModel" (93 : Nat) "BelievedWordsModel" "cursor" "I") ∈ TB := tb5 26 rfl rfl
theorem k1054 : (Jvm.Cond.fieldLink "BelievedWordsModel" (87 : Nat) "BelievedWordsModel" "start" "I") ∈ TB := tb5 27 rfl rfl
theorem k1055 : (Jvm.Cond.fieldLink "BelievedWordsModel" (108 : Nat) "BelievedWordsModel" "token" "I") ∈ TB := tb5 28 rfl rfl
theorem k1056 : (Jvm.Cond.fieldLink "BelievedWordsModel" (97 : Nat) "BelievedWordsModel" "value" "I") ∈ TB := tb5 29 rfl rfl
theorem k1057 : (Jvm.Cond.fieldLink "BelievedWordsModel" (84 : Nat) "BelievedWordsModel" "fault" "I") ∈ TB := tb5 30 rfl rfl
theorem k1058 : (Jvm.Cond.fieldLink "BelievedWordsModel" (90 : Nat) "BelievedWordsModel" "faultAt" "I") ∈ TB := tb5 31 rfl rfl
theorem k1059 : (Jvm.Cond.fieldLink "BelievedWordsModel" (122 : Nat) "BelievedWordsModel" "latest" "I") ∈ TB := tb5 32 rfl rfl
theorem k1060 : (Jvm.Cond.fieldLink "BelievedWordsModel" (31 : Nat) "BelievedWordsModel" "far" "[I") ∈ TB := tb5 33 rfl rfl
theorem k1061 : (Jvm.Cond.fieldLink "BelievedWordsModel" (34 : Nat) "BelievedWordsModel" "first" "[I") ∈ TB := tb5 34 rfl rfl
theorem k1062 : (Jvm.Cond.fieldLink "BelievedWordsModel" (37 : Nat) "BelievedWordsModel" "waits" "[Z") ∈ TB := tb5 35 rfl rfl
theorem k1063 : (Jvm.Cond.fieldLink "BelievedWordsModel" (41 : Nat) "BelievedWordsModel" "line" "[I") ∈ TB := tb5 36 rfl rfl
theorem k1064 : (Jvm.Cond.fieldLink "BelievedWordsModel" (210 : Nat) "BelievedWordsModel" "lineFrom" "I") ∈ TB := tb5 37 rfl rfl
theorem k1065 : (Jvm.Cond.fieldLink "BelievedWordsModel" (204 : Nat) "BelievedWordsModel" "lineTo" "I") ∈ TB := tb5 38 rfl rfl
theorem k1066 : (Jvm.Cond.fieldLink "BelievedWordsModel" (44 : Nat) "BelievedWordsModel" "isKept" "[Z") ∈ TB := tb5 39 rfl rfl
theorem k1067 : (Jvm.Cond.fieldLink "BelievedWordsModel" (47 : Nat) "BelievedWordsModel" "kept" "[I") ∈ TB := tb5 40 rfl rfl
theorem k1068 : (Jvm.Cond.fieldLink "BelievedWordsModel" (50 : Nat) "BelievedWordsModel" "trace" "[I") ∈ TB := tb5 41 rfl rfl
theorem k1069 : (Jvm.Cond.fieldLink "BelievedWordsModel" (264 : Nat) "BelievedWordsModel" "traced" "I") ∈ TB := tb5 42 rfl rfl
theorem k1070 : (Jvm.Cond.lays "BelievedWordsModel" "BelievedWordsModel" "thrown" "I") ∈ TB := tb5 43 rfl rfl
theorem k1072 : (Jvm.Cond.lays "BelievedWordsModel" "BelievedWordsModel" "status" "I") ∈ TB := tb5 45 rfl rfl
theorem k1074 : (Jvm.Cond.laysFinal "BelievedWordsModel" "BelievedWordsModel" "lane" "[I") ∈ TB := tb5 47 rfl rfl
theorem k1076 : (Jvm.Cond.laysFinal "BelievedWordsModel" "BelievedWordsModel" "many" "[I") ∈ TB := tb5 49 rfl rfl
theorem k1078 : (Jvm.Cond.laysFinal "BelievedWordsModel" "BelievedWordsModel" "item" "[I") ∈ TB := tb5 51 rfl rfl
theorem k1080 : (Jvm.Cond.laysFinal "BelievedWordsModel" "BelievedWordsModel" "court" "[I") ∈ TB := tb5 53 rfl rfl
theorem k1082 : (Jvm.Cond.laysFinal "BelievedWordsModel" "BelievedWordsModel" "fresh" "[I") ∈ TB := tb5 55 rfl rfl
theorem k1084 : (Jvm.Cond.laysFinal "BelievedWordsModel" "BelievedWordsModel" "was" "[I") ∈ TB := tb5 57 rfl rfl
theorem k1086 : (Jvm.Cond.lays "BelievedWordsModel" "BelievedWordsModel" "acts" "I") ∈ TB := tb5 59 rfl rfl
theorem k1088 : (Jvm.Cond.laysFinal "BelievedWordsModel" "BelievedWordsModel" "tape" "[I") ∈ TB := tb5 61 rfl rfl
theorem k1090 : (Jvm.Cond.lays "BelievedWordsModel" "BelievedWordsModel" "taped" "I") ∈ TB := tb5 63 rfl rfl
theorem k1092 : (Jvm.Cond.lays "BelievedWordsModel" "BelievedWordsModel" "cursor" "I") ∈ TB := tb5 65 rfl rfl
theorem k1094 : (Jvm.Cond.lays "BelievedWordsModel" "BelievedWordsModel" "start" "I") ∈ TB := tb5 67 rfl rfl
theorem k1096 : (Jvm.Cond.lays "BelievedWordsModel" "BelievedWordsModel" "token" "I") ∈ TB := tb5 69 rfl rfl
theorem k1098 : (Jvm.Cond.lays "BelievedWordsModel" "BelievedWordsModel" "value" "I") ∈ TB := tb5 71 rfl rfl
theorem k1100 : (Jvm.Cond.lays "BelievedWordsModel" "BelievedWordsModel" "fault" "I") ∈ TB := tb5 73 rfl rfl
theorem k1102 : (Jvm.Cond.lays "BelievedWordsModel" "BelievedWordsModel" "faultAt" "I") ∈ TB := tb5 75 rfl rfl
theorem k1104 : (Jvm.Cond.lays "BelievedWordsModel" "BelievedWordsModel" "latest" "I") ∈ TB := tb5 77 rfl rfl
theorem k1106 : (Jvm.Cond.laysFinal "BelievedWordsModel" "BelievedWordsModel" "far" "[I") ∈ TB := tb5 79 rfl rfl
theorem k1108 : (Jvm.Cond.laysFinal "BelievedWordsModel" "BelievedWordsModel" "first" "[I") ∈ TB := tb5 81 rfl rfl
theorem k1110 : (Jvm.Cond.laysFinal "BelievedWordsModel" "BelievedWordsModel" "waits" "[Z") ∈ TB := tb5 83 rfl rfl
theorem k1112 : (Jvm.Cond.laysFinal "BelievedWordsModel" "BelievedWordsModel" "line" "[I") ∈ TB := tb5 85 rfl rfl
theorem k1114 : (Jvm.Cond.lays "BelievedWordsModel" "BelievedWordsModel" "lineFrom" "I") ∈ TB := tb5 87 rfl rfl
theorem k1116 : (Jvm.Cond.lays "BelievedWordsModel" "BelievedWordsModel" "lineTo" "I") ∈ TB := tb5 89 rfl rfl
theorem k1118 : (Jvm.Cond.laysFinal "BelievedWordsModel" "BelievedWordsModel" "isKept" "[Z") ∈ TB := tb5 91 rfl rfl
theorem k1120 : (Jvm.Cond.laysFinal "BelievedWordsModel" "BelievedWordsModel" "kept" "[I") ∈ TB := tb5 93 rfl rfl
theorem k1122 : (Jvm.Cond.laysFinal "BelievedWordsModel" "BelievedWordsModel" "trace" "[I") ∈ TB := tb5 95 rfl rfl
theorem k1124 : (Jvm.Cond.lays "BelievedWordsModel" "BelievedWordsModel" "traced" "I") ∈ TB := tb5 97 rfl rfl
theorem k1127 : (Jvm.Cond.arrayClass Jvm.ClassFile.FieldType.boolean) ∈ TB := tb5 100 rfl rfl
theorem k1128 : (Jvm.Cond.methodLink "BelievedWordsLaw" (17 : Nat) ({ cls := "BelievedWordsModel", name := "row", desc := "(III)I" } : Jvm.MethodName)) ∈ TB := tb5 101 rfl rfl
theorem k1129 : (Jvm.Cond.instanceMethod ({ cls := "BelievedWordsModel", name := "row", desc := "(III)I" } : Jvm.MethodName)) ∈ TB := tb5 102 rfl rfl
theorem k1130 : (Jvm.Cond.selects "BelievedWordsModel" ({ cls := "BelievedWordsModel", name := "row", desc := "(III)I" } : Jvm.MethodName) ({ cls := "BelievedWordsModel", name := "row", desc := "(III)I" } : Jvm.MethodName)) ∈ TB := tb5 103 rfl rfl
theorem k1131 : (Jvm.Cond.code ({ cls := "BelievedWordsModel", name := "row", desc := "(III)I" } : Jvm.MethodName) prog_13_method_6_code (5 : Nat) (Option.some Jvm.ClassFile.FieldType.int)) ∈ TB := tb5 104 rfl rfl
theorem k1132 : (Jvm.Cond.methodLink "BelievedWordsModel" (67 : Nat) ({ cls := "BelievedWordsModel", name := "isRow", desc := "(I)Z" } : Jvm.MethodName)) ∈ TB := tb5 105 rfl rfl
theorem k1133 : (Jvm.Cond.static ({ cls := "BelievedWordsModel", name := "isRow", desc := "(I)Z" } : Jvm.MethodName)) ∈ TB := tb5 106 rfl rfl
theorem k1134 : (Jvm.Cond.code ({ cls := "BelievedWordsModel", name := "isRow", desc := "(I)Z" } : Jvm.MethodName) prog_13_method_5_code (1 : Nat) (Option.some Jvm.ClassFile.FieldType.boolean)) ∈ TB := tb5 107 rfl rfl
theorem k1135 : (Jvm.Cond.constantLong "BelievedWordsModel" (61 : Nat) (7 : Int64)) ∈ TB := tb5 108 rfl rfl
theorem k1136 : (Jvm.Cond.methodLink "BelievedWordsModel" (63 : Nat) ({ cls := "BelievedWordsModel", name := "in", desc := "(JJJ)Z" } : Jvm.MethodName)) ∈ TB := tb5 109 rfl rfl
theorem k1137 : (Jvm.Cond.static ({ cls := "BelievedWordsModel", name := "in", desc := "(JJJ)Z" } : Jvm.MethodName)) ∈ TB := tb5 110 rfl rfl
theorem k1138 : (Jvm.Cond.code ({ cls := "BelievedWordsModel", name := "in", desc := "(JJJ)Z" } : Jvm.MethodName) prog_13_method_3_code (6 : Nat) (Option.some Jvm.ClassFile.FieldType.boolean)) ∈ TB := tb5 111 rfl rfl
theorem k1139 : (Jvm.Cond.constantLong "BelievedWordsModel" (71 : Nat) (2 : Int64)) ∈ TB := tb5 112 rfl rfl
theorem k1140 : (Jvm.Cond.constant "BelievedWordsModel" (73 : Nat) (-1000001 : Int32)) ∈ TB := tb5 113 rfl rfl
theorem k1141 : (Jvm.Cond.methodLink "BelievedWordsModel" (74 : Nat) ({ cls := "BelievedWordsModel", name := "finding", desc := "(I)I" } : Jvm.MethodName)) ∈ TB := tb5 114 rfl rfl
theorem k1143 : (Jvm.Cond.instanceMethod ({ cls := "BelievedWordsModel", name := "finding", desc := "(I)I" } : Jvm.MethodName)) ∈ TB := tb5 116 rfl rfl
theorem k1144 : (Jvm.Cond.code ({ cls := "BelievedWordsModel", name := "finding", desc := "(I)I" } : Jvm.MethodName) prog_13_method_4_code (2 : Nat) (Option.some Jvm.ClassFile.FieldType.int)) ∈ TB := tb5 117 rfl rfl
theorem k1145 : (Jvm.Cond.constant "BelievedWordsModel" (60 : Nat) (-1000010 : Int32)) ∈ TB := tb5 118 rfl rfl
theorem k1146 : (Jvm.Cond.methodLink "BelievedWordsLaw" (21 : Nat) ({ cls := "BelievedWordsModel", name := "set", desc := "(III)I" } : Jvm.MethodName)) ∈ TB := tb5 119 rfl rfl
theorem k1147 : (Jvm.Cond.instanceMethod ({ cls := "BelievedWordsModel", name := "set", desc := "(III)I" } : Jvm.MethodName)) ∈ TB := tb5 120 rfl rfl
theorem k1148 : (Jvm.Cond.selects "BelievedWordsModel" ({ cls := "BelievedWordsModel", name := "set", desc := "(III)I" } : Jvm.MethodName) ({ cls := "BelievedWordsModel", name := "set", desc := "(III)I" } : Jvm.MethodName)) ∈ TB := tb5 121 rfl rfl
theorem k1149 : (Jvm.Cond.code ({ cls := "BelievedWordsModel", name := "set", desc := "(III)I" } : Jvm.MethodName) prog_13_method_7_code (4 : Nat) (Option.some Jvm.ClassFile.FieldType.int)) ∈ TB := tb5 122 rfl rfl
theorem k1150 : (Jvm.Cond.methodLink "BelievedWordsLaw" (26 : Nat) ({ cls := "BelievedWordsModel", name := "copy", desc := "(IIIII)I" } : Jvm.MethodName)) ∈ TB := tb5 123 rfl rfl
theorem k1151 : (Jvm.Cond.instanceMethod ({ cls := "BelievedWordsModel", name := "copy", desc := "(IIIII)I" } : Jvm.MethodName)) ∈ TB := tb5 124 rfl rfl
theorem k1152 : (Jvm.Cond.selects "BelievedWordsModel" ({ cls := "BelievedWordsModel", name := "copy", desc := "(IIIII)I" } : Jvm.MethodName) ({ cls := "BelievedWordsModel", name := "copy", desc := "(IIIII)I" } : Jvm.MethodName)) ∈ TB := tb5 125 rfl rfl
theorem k1153 : (Jvm.Cond.code ({ cls := "BelievedWordsModel", name := "copy", desc := "(IIIII)I" } : Jvm.MethodName) prog_13_method_8_code (9 : Nat) (Option.some Jvm.ClassFile.FieldType.int)) ∈ TB := tb5 126 rfl rfl
theorem k1154 : (Jvm.Cond.methodLink "BelievedWordsLaw" (31 : Nat) ({ cls := "BelievedWordsModel", name := "drop", desc := "(I)I" } : Jvm.MethodName)) ∈ TB := tb5 127 rfl rfl
theorem k1155 : (Jvm.Cond.instanceMethod ({ cls := "BelievedWordsModel", name := "drop", desc := "(I)I" } : Jvm.MethodName)) ∈ TB := tb5 128 rfl rfl
theorem k1156 : (Jvm.Cond.selects "BelievedWordsModel" ({ cls := "BelievedWordsModel", name := "drop", desc := "(I)I" } : Jvm.MethodName) ({ cls := "BelievedWordsModel", name := "drop", desc := "(I)I" } : Jvm.MethodName)) ∈ TB := tb5 129 rfl rfl
theorem k1157 : (Jvm.Cond.code ({ cls := "BelievedWordsModel", name := "drop", desc := "(I)I" } : Jvm.MethodName) prog_13_method_9_code (2 : Nat) (Option.some Jvm.ClassFile.FieldType.int)) ∈ TB := tb5 130 rfl rfl
theorem k1158 : (Jvm.Cond.methodLink "BelievedWordsLaw" (35 : Nat) ({ cls := "BelievedWordsModel", name := "feed", desc := "(I)I" } : Jvm.MethodName)) ∈ TB := tb5 131 rfl rfl
theorem k1159 : (Jvm.Cond.instanceMethod ({ cls := "BelievedWordsModel", name := "feed", desc := "(I)I" } : Jvm.MethodName)) ∈ TB := tb5 132 rfl rfl
theorem k1160 : (Jvm.Cond.selects "BelievedWordsModel" ({ cls := "BelievedWordsModel", name := "feed", desc := "(I)I" } : Jvm.MethodName) ({ cls := "BelievedWordsModel", name := "feed", desc := "(I)I" } : Jvm.MethodName)) ∈ TB := tb5 133 rfl rfl
theorem k1161 : (Jvm.Cond.code ({ cls := "BelievedWordsModel", name := "feed", desc := "(I)I" } : Jvm.MethodName) prog_13_method_10_code (2 : Nat) (Option.some Jvm.ClassFile.FieldType.int)) ∈ TB := tb5 134 rfl rfl
theorem k1162 : (Jvm.Cond.constantLong "BelievedWordsModel" (78 : Nat) (255 : Int64)) ∈ TB := tb5 135 rfl rfl
theorem k1163 : (Jvm.Cond.constant "BelievedWordsModel" (83 : Nat) (-1000003 : Int32)) ∈ TB := tb5 136 rfl rfl
theorem k1164 : (Jvm.Cond.methodLink "BelievedWordsLaw" (44 : Nat) ({ cls := "BelievedWordsModel", name := "fault", desc := "()I" } : Jvm.MethodName)) ∈ TB := tb5 137 rfl rfl
theorem k1165 : (Jvm.Cond.instanceMethod ({ cls := "BelievedWordsModel", name := "fault", desc := "()I" } : Jvm.MethodName)) ∈ TB := tb5 138 rfl rfl
theorem k1166 : (Jvm.Cond.selects "BelievedWordsModel" ({ cls := "BelievedWordsModel", name := "fault", desc := "()I" } : Jvm.MethodName) ({ cls := "BelievedWordsModel", name := "fault", desc := "()I" } : Jvm.MethodName)) ∈ TB := tb5 139 rfl rfl
theorem k1167 : (Jvm.Cond.code ({ cls := "BelievedWordsModel", name := "fault", desc := "()I" } : Jvm.MethodName) prog_13_method_19_code (1 : Nat) (Option.some Jvm.ClassFile.FieldType.int)) ∈ TB := tb5 140 rfl rfl
theorem k1168 : (Jvm.Cond.methodLink "BelievedWordsLaw" (40 : Nat) ({ cls := "BelievedWordsModel", name := "court", desc := "()I" } : Jvm.MethodName)) ∈ TB := tb5 141 rfl rfl
theorem k1169 : (Jvm.Cond.instanceMethod ({ cls := "BelievedWordsModel", name := "court", desc := "()I" } : Jvm.MethodName)) ∈ TB := tb5 142 rfl rfl
theorem k1170 : (Jvm.Cond.selects "BelievedWordsModel" ({ cls := "BelievedWordsModel", name := "court", desc := "()I" } : Jvm.MethodName) ({ cls := "BelievedWordsModel", name := "court", desc := "()I" } : Jvm.MethodName)) ∈ TB := tb5 143 rfl rfl
theorem k1171 : (Jvm.Cond.code ({ cls := "BelievedWordsModel", name := "court", desc := "()I" } : Jvm.MethodName) prog_13_method_24_code (2 : Nat) (Option.some Jvm.ClassFile.FieldType.int)) ∈ TB := tb5 144 rfl rfl
theorem k1172 : (Jvm.Cond.methodLink "BelievedWordsModel" (139 : Nat) ({ cls := "BelievedWordsModel", name := "begin", desc := "()V" } : Jvm.MethodName)) ∈ TB := tb5 145 rfl rfl
theorem k1174 : (Jvm.Cond.instanceMethod ({ cls := "BelievedWordsModel", name := "begin", desc := "()V" } : Jvm.MethodName)) ∈ TB := tb5 147 rfl rfl
theorem k1175 : (Jvm.Cond.code ({ cls := "BelievedWordsModel", name := "begin", desc := "()V" } : Jvm.MethodName) prog_13_method_17_code (1 : Nat) (Option.none : Option Jvm.ClassFile.FieldType)) ∈ TB := tb5 148 rfl rfl
theorem k1176 : (Jvm.Cond.methodLink "BelievedWordsModel" (115 : Nat) ({ cls := "BelievedWordsModel", name := "nextToken", desc := "()V" } : Jvm.MethodName)) ∈ TB := tb5 149 rfl rfl
theorem k1178 : (Jvm.Cond.instanceMethod ({ cls := "BelievedWordsModel", name := "nextToken", desc := "()V" } : Jvm.MethodName)) ∈ TB := tb5 151 rfl rfl
theorem k1179 : (Jvm.Cond.code ({ cls := "BelievedWordsModel", name := "nextToken", desc := "()V" } : Jvm.MethodName) prog_13_method_12_code (1 : Nat) (Option.none : Option Jvm.ClassFile.FieldType)) ∈ TB := tb5 152 rfl rfl
theorem k1180 : (Jvm.Cond.constant "BelievedWordsModel" (96 : Nat) (-1000000 : Int32)) ∈ TB := tb5 153 rfl rfl
theorem k1181 : (Jvm.Cond.constantLong "BelievedWordsModel" (100 : Nat) (97 : Int64)) ∈ TB := tb5 154 rfl rfl
theorem k1182 : (Jvm.Cond.constantLong "BelievedWordsModel" (102 : Nat) (122 : Int64)) ∈ TB := tb5 155 rfl rfl
theorem k1183 : (Jvm.Cond.constantLong "BelievedWordsModel" (104 : Nat) (48 : Int64)) ∈ TB := tb5 156 rfl rfl
theorem k1184 : (Jvm.Cond.constantLong "BelievedWordsModel" (106 : Nat) (57 : Int64)) ∈ TB := tb5 157 rfl rfl
theorem k1185 : (Jvm.Cond.methodLink "BelievedWordsModel" (142 : Nat) ({ cls := "BelievedWordsModel", name := "isLetter", desc := "(I)Z" } : Jvm.MethodName)) ∈ TB := tb5 158 rfl rfl
theorem k1187 : (Jvm.Cond.instanceMethod ({ cls := "BelievedWordsModel", name := "isLetter", desc := "(I)Z" } : Jvm.MethodName)) ∈ TB := tb5 160 rfl rfl
theorem k1188 : (Jvm.Cond.code ({ cls := "BelievedWordsModel", name := "isLetter", desc := "(I)Z" } : Jvm.MethodName) prog_13_method_14_code (2 : Nat) (Option.some Jvm.ClassFile.FieldType.boolean)) ∈ TB := tb5 161 rfl rfl
theorem k1189 : (Jvm.Cond.methodLink "BelievedWordsModel" (118 : Nat) ({ cls := "BelievedWordsModel", name := "must", desc := "(Z)V" } : Jvm.MethodName)) ∈ TB := tb5 162 rfl rfl
theorem k1191 : (Jvm.Cond.instanceMethod ({ cls := "BelievedWordsModel", name := "must", desc := "(Z)V" } : Jvm.MethodName)) ∈ TB := tb5 164 rfl rfl
theorem k1192 : (Jvm.Cond.code ({ cls := "BelievedWordsModel", name := "must", desc := "(Z)V" } : Jvm.MethodName) prog_13_method_13_code (2 : Nat) (Option.none : Option Jvm.ClassFile.FieldType)) ∈ TB := tb5 165 rfl rfl
theorem k1193 : (Jvm.Cond.methodLink "BelievedWordsModel" (111 : Nat) ({ cls := "BelievedWordsModel", name := "bad", desc := "(I)V" } : Jvm.MethodName)) ∈ TB := tb5 166 rfl rfl
theorem k1195 : (Jvm.Cond.instanceMethod ({ cls := "BelievedWordsModel", name := "bad", desc := "(I)V" } : Jvm.MethodName)) ∈ TB := tb5 168 rfl rfl
theorem k1196 : (Jvm.Cond.code ({ cls := "BelievedWordsModel", name := "bad", desc := "(I)V" } : Jvm.MethodName) prog_13_method_11_code (2 : Nat) (Option.none : Option Jvm.ClassFile.FieldType)) ∈ TB := tb5 169 rfl rfl
theorem k1197 : (Jvm.Cond.methodLink "BelievedWordsModel" (128 : Nat) ({ cls := "BelievedWordsModel", name := "number", desc := "(II)I" } : Jvm.MethodName)) ∈ TB := tb5 170 rfl rfl
theorem k1199 : (Jvm.Cond.instanceMethod ({ cls := "BelievedWordsModel", name := "number", desc := "(II)I" } : Jvm.MethodName)) ∈ TB := tb5 172 rfl rfl
theorem k1200 : (Jvm.Cond.code ({ cls := "BelievedWordsModel", name := "number", desc := "(II)I" } : Jvm.MethodName) prog_13_method_15_code (4 : Nat) (Option.some Jvm.ClassFile.FieldType.int)) ∈ TB := tb5 173 rfl rfl
theorem k1201 : (Jvm.Cond.methodLink "BelievedWordsModel" (132 : Nat) ({ cls := "BelievedWordsModel", name := "mustSign", desc := "(I)V" } : Jvm.MethodName)) ∈ TB := tb5 174 rfl rfl
theorem k1203 : (Jvm.Cond.instanceMethod ({ cls := "BelievedWordsModel", name := "mustSign", desc := "(I)V" } : Jvm.MethodName)) ∈ TB := tb5 176 rfl rfl
theorem k1204 : (Jvm.Cond.code ({ cls := "BelievedWordsModel", name := "mustSign", desc := "(I)V" } : Jvm.MethodName) prog_13_method_16_code (2 : Nat) (Option.none : Option Jvm.ClassFile.FieldType)) ∈ TB := tb5 177 rfl rfl
theorem k1205 : (Jvm.Cond.methodLink "BelievedWordsModel" (145 : Nat) ({ cls := "BelievedWordsModel", name := "readRule", desc := "()V" } : Jvm.MethodName)) ∈ TB := tb5 178 rfl rfl
theorem k1207 : (Jvm.Cond.instanceMethod ({ cls := "BelievedWordsModel", name := "readRule", desc := "()V" } : Jvm.MethodName)) ∈ TB := tb5 180 rfl rfl
theorem k1208 : (Jvm.Cond.code ({ cls := "BelievedWordsModel", name := "readRule", desc := "()V" } : Jvm.MethodName) prog_13_method_23_code (5 : Nat) (Option.none : Option Jvm.ClassFile.FieldType)) ∈ TB := tb5 181 rfl rfl
theorem k1209 : (Jvm.Cond.methodLink "BelievedWordsModel" (135 : Nat) ({ cls := "BelievedWordsModel", name := "isTold", desc := "(IIJ)Z" } : Jvm.MethodName)) ∈ TB := tb5 182 rfl rfl
theorem k1211 : (Jvm.Cond.instanceMethod ({ cls := "BelievedWordsModel", name := "isTold", desc := "(IIJ)Z" } : Jvm.MethodName)) ∈ TB := tb5 184 rfl rfl
theorem k1212 : (Jvm.Cond.code ({ cls := "BelievedWordsModel", name := "isTold", desc := "(IIJ)Z" } : Jvm.MethodName) prog_13_method_22_code (8 : Nat) (Option.some Jvm.ClassFile.FieldType.boolean)) ∈ TB := tb5 185 rfl rfl
theorem k1213 : (Jvm.Cond.methodLink "BelievedWordsModel" (148 : Nat) ({ cls := "BelievedWordsModel", name := "isSort", desc := "()Z" } : Jvm.MethodName)) ∈ TB := tb5 186 rfl rfl
theorem k1215 : (Jvm.Cond.instanceMethod ({ cls := "BelievedWordsModel", name := "isSort", desc := "()Z" } : Jvm.MethodName)) ∈ TB := tb5 188 rfl rfl
theorem k1216 : (Jvm.Cond.code ({ cls := "BelievedWordsModel", name := "isSort", desc := "()Z" } : Jvm.MethodName) prog_13_method_21_code (1 : Nat) (Option.some Jvm.ClassFile.FieldType.boolean)) ∈ TB := tb5 189 rfl rfl
theorem k1217 : (Jvm.Cond.methodLink "BelievedWordsModel" (125 : Nat) ({ cls := "BelievedWordsModel", name := "kindBy", desc := "(I)I" } : Jvm.MethodName)) ∈ TB := tb5 190 rfl rfl
theorem k1218 : (Jvm.Cond.static ({ cls := "BelievedWordsModel", name := "kindBy", desc := "(I)I" } : Jvm.MethodName)) ∈ TB := tb5 191 rfl rfl
theorem k1219 : (Jvm.Cond.code ({ cls := "BelievedWordsModel", name := "kindBy", desc := "(I)I" } : Jvm.MethodName) prog_13_method_20_code (1 : Nat) (Option.some Jvm.ClassFile.FieldType.int)) ∈ TB := tb5 192 rfl rfl
theorem k1220 : (Jvm.Cond.methodLink "BelievedWordsModel" (152 : Nat) ({ cls := "BelievedWordsModel", name := "failed", desc := "()Z" } : Jvm.MethodName)) ∈ TB := tb5 193 rfl rfl
theorem k1222 : (Jvm.Cond.instanceMethod ({ cls := "BelievedWordsModel", name := "failed", desc := "()Z" } : Jvm.MethodName)) ∈ TB := tb5 195 rfl rfl
theorem k1223 : (Jvm.Cond.code ({ cls := "BelievedWordsModel", name := "failed", desc := "()Z" } : Jvm.MethodName) prog_13_method_18_code (1 : Nat) (Option.some Jvm.ClassFile.FieldType.boolean)) ∈ TB := tb5 196 rfl rfl
theorem k1224 : (Jvm.Cond.constant "BelievedWordsModel" (155 : Nat) (-1000100 : Int32)) ∈ TB := tb5 197 rfl rfl
theorem k1225 : (Jvm.Cond.methodLink "BelievedWordsLaw" (53 : Nat) ({ cls := "BelievedWordsModel", name := "say", desc := "(II)I" } : Jvm.MethodName)) ∈ TB := tb5 198 rfl rfl
theorem k1226 : (Jvm.Cond.instanceMethod ({ cls := "BelievedWordsModel", name := "say", desc := "(II)I" } : Jvm.MethodName)) ∈ TB := tb5 199 rfl rfl
theorem k1227 : (Jvm.Cond.selects "BelievedWordsModel" ({ cls := "BelievedWordsModel", name := "say", desc := "(II)I" } : Jvm.MethodName) ({ cls := "BelievedWordsModel", name := "say", desc := "(II)I" } : Jvm.MethodName)) ∈ TB := tb5 200 rfl rfl
theorem k1228 : (Jvm.Cond.code ({ cls := "BelievedWordsModel", name := "say", desc := "(II)I" } : Jvm.MethodName) prog_13_method_39_code (4 : Nat) (Option.some Jvm.ClassFile.FieldType.int)) ∈ TB := tb5 201 rfl rfl
theorem k1229 : (Jvm.Cond.methodLink "BelievedWordsModel" (176 : Nat) ({ cls := "BelievedWordsModel", name := "isPerson", desc := "(I)Z" } : Jvm.MethodName)) ∈ TB := tb5 202 rfl rfl
theorem k1231 : (Jvm.Cond.instanceMethod ({ cls := "BelievedWordsModel", name := "isPerson", desc := "(I)Z" } : Jvm.MethodName)) ∈ TB := tb5 204 rfl rfl
theorem k1232 : (Jvm.Cond.code ({ cls := "BelievedWordsModel", name := "isPerson", desc := "(I)Z" } : Jvm.MethodName) prog_13_method_27_code (2 : Nat) (Option.some Jvm.ClassFile.FieldType.boolean)) ∈ TB := tb5 205 rfl rfl
theorem k1233 : (Jvm.Cond.methodLink "BelievedWordsModel" (179 : Nat) ({ cls := "BelievedWordsModel", name := "isSaying", desc := "(J)Z" } : Jvm.MethodName)) ∈ TB := tb5 206 rfl rfl
theorem k1235 : (Jvm.Cond.instanceMethod ({ cls := "BelievedWordsModel", name := "isSaying", desc := "(J)Z" } : Jvm.MethodName)) ∈ TB := tb5 208 rfl rfl
theorem k1236 : (Jvm.Cond.code ({ cls := "BelievedWordsModel", name := "isSaying", desc := "(J)Z" } : Jvm.MethodName) prog_13_method_29_code (3 : Nat) (Option.some Jvm.ClassFile.FieldType.boolean)) ∈ TB := tb5 209 rfl rfl
theorem k1237 : (Jvm.Cond.methodLink "BelievedWordsModel" (183 : Nat) ({ cls := "BelievedWordsModel", name := "keep", desc := "()V" } : Jvm.MethodName)) ∈ TB := tb5 210 rfl rfl
theorem k1239 : (Jvm.Cond.instanceMethod ({ cls := "BelievedWordsModel", name := "keep", desc := "()V" } : Jvm.MethodName)) ∈ TB := tb5 212 rfl rfl
theorem k1240 : (Jvm.Cond.code ({ cls := "BelievedWordsModel", name := "keep", desc := "()V" } : Jvm.MethodName) prog_13_method_38_code (2 : Nat) (Option.none : Option Jvm.ClassFile.FieldType)) ∈ TB := tb5 213 rfl rfl
theorem k1241 : (Jvm.Cond.methodLink "BelievedWordsModel" (186 : Nat) ({ cls := "BelievedWordsModel", name := "after", desc := "(IIII)I" } : Jvm.MethodName)) ∈ TB := tb5 214 rfl rfl
theorem k1243 : (Jvm.Cond.instanceMethod ({ cls := "BelievedWordsModel", name := "after", desc := "(IIII)I" } : Jvm.MethodName)) ∈ TB := tb5 216 rfl rfl
theorem k1244 : (Jvm.Cond.code ({ cls := "BelievedWordsModel", name := "after", desc := "(IIII)I" } : Jvm.MethodName) prog_13_method_37_code (5 : Nat) (Option.some Jvm.ClassFile.FieldType.int)) ∈ TB := tb5 217 rfl rfl
theorem k1245 : (Jvm.Cond.methodLink "BelievedWordsModel" (169 : Nat) ({ cls := "BelievedWordsModel", name := "kindOf", desc := "(I)I" } : Jvm.MethodName)) ∈ TB := tb5 218 rfl rfl
theorem k1247 : (Jvm.Cond.instanceMethod ({ cls := "BelievedWordsModel", name := "kindOf", desc := "(I)I" } : Jvm.MethodName)) ∈ TB := tb5 220 rfl rfl
theorem k1248 : (Jvm.Cond.code ({ cls := "BelievedWordsModel", name := "kindOf", desc := "(I)I" } : Jvm.MethodName) prog_13_method_31_code (2 : Nat) (Option.some Jvm.ClassFile.FieldType.int)) ∈ TB := tb5 221 rfl rfl
theorem k1249 : (Jvm.Cond.methodLink "BelievedWordsModel" (172 : Nat) ({ cls := "BelievedWordsModel", name := "afterBy", desc := "(IIII)I" } : Jvm.MethodName)) ∈ TB := tb5 222 rfl rfl
theorem k1251 : (Jvm.Cond.instanceMethod ({ cls := "BelievedWordsModel", name := "afterBy", desc := "(IIII)I" } : Jvm.MethodName)) ∈ TB := tb5 224 rfl rfl
theorem k1252 : (Jvm.Cond.code ({ cls := "BelievedWordsModel", name := "afterBy", desc := "(IIII)I" } : Jvm.MethodName) prog_13_method_36_code (8 : Nat) (Option.some Jvm.ClassFile.FieldType.int)) ∈ TB := tb5 225 rfl rfl
theorem k1253 : (Jvm.Cond.methodLink "BelievedWordsModel" (159 : Nat) ({ cls := "BelievedWordsModel", name := "with", desc := "(III)I" } : Jvm.MethodName)) ∈ TB := tb5 226 rfl rfl
theorem k1254 : (Jvm.Cond.static ({ cls := "BelievedWordsModel", name := "with", desc := "(III)I" } : Jvm.MethodName)) ∈ TB := tb5 227 rfl rfl
theorem k1255 : (Jvm.Cond.code ({ cls := "BelievedWordsModel", name := "with", desc := "(III)I" } : Jvm.MethodName) prog_13_method_35_code (3 : Nat) (Option.some Jvm.ClassFile.FieldType.int)) ∈ TB := tb5 228 rfl rfl
theorem k1256 : (Jvm.Cond.methodLink "BelievedWordsModel" (163 : Nat) ({ cls := "BelievedWordsModel", name := "closed", desc := "(I)I" } : Jvm.MethodName)) ∈ TB := tb5 229 rfl rfl
theorem k1258 : (Jvm.Cond.instanceMethod ({ cls := "BelievedWordsModel", name := "closed", desc := "(I)I" } : Jvm.MethodName)) ∈ TB := tb5 231 rfl rfl
theorem k1259 : (Jvm.Cond.code ({ cls := "BelievedWordsModel", name := "closed", desc := "(I)I" } : Jvm.MethodName) prog_13_method_33_code (7 : Nat) (Option.some Jvm.ClassFile.FieldType.int)) ∈ TB := tb5 232 rfl rfl
theorem k1260 : (Jvm.Cond.methodLink "BelievedWordsModel" (166 : Nat) ({ cls := "BelievedWordsModel", name := "canBe", desc := "(I)Z" } : Jvm.MethodName)) ∈ TB := tb5 233 rfl rfl
theorem k1262 : (Jvm.Cond.instanceMethod ({ cls := "BelievedWordsModel", name := "canBe", desc := "(I)Z" } : Jvm.MethodName)) ∈ TB := tb5 235 rfl rfl
theorem k1263 : (Jvm.Cond.code ({ cls := "BelievedWordsModel", name := "canBe", desc := "(I)Z" } : Jvm.MethodName) prog_13_method_34_code (5 : Nat) (Option.some Jvm.ClassFile.FieldType.boolean)) ∈ TB := tb5 236 rfl rfl
theorem k1264 : (Jvm.Cond.methodLink "BelievedWordsModel" (189 : Nat) ({ cls := "BelievedWordsModel", name := "bits", desc := "(I)I" } : Jvm.MethodName)) ∈ TB := tb5 237 rfl rfl
theorem k1265 : (Jvm.Cond.static ({ cls := "BelievedWordsModel", name := "bits", desc := "(I)I" } : Jvm.MethodName)) ∈ TB := tb5 238 rfl rfl
theorem k1266 : (Jvm.Cond.code ({ cls := "BelievedWordsModel", name := "bits", desc := "(I)I" } : Jvm.MethodName) prog_13_method_32_code (3 : Nat) (Option.some Jvm.ClassFile.FieldType.int)) ∈ TB := tb5 239 rfl rfl
theorem k1267 : (Jvm.Cond.methodLink "BelievedWordsLaw" (57 : Nat) ({ cls := "BelievedWordsModel", name := "pardon", desc := "(I)I" } : Jvm.MethodName)) ∈ TB := tb6 0 rfl rfl
theorem k1268 : (Jvm.Cond.instanceMethod ({ cls := "BelievedWordsModel", name := "pardon", desc := "(I)I" } : Jvm.MethodName)) ∈ TB := tb6 1 rfl rfl
theorem k1269 : (Jvm.Cond.selects "BelievedWordsModel" ({ cls := "BelievedWordsModel", name := "pardon", desc := "(I)I" } : Jvm.MethodName) ({ cls := "BelievedWordsModel", name := "pardon", desc := "(I)I" } : Jvm.MethodName)) ∈ TB := tb6 2 rfl rfl
theorem k1270 : (Jvm.Cond.code ({ cls := "BelievedWordsModel", name := "pardon", desc := "(I)I" } : Jvm.MethodName) prog_13_method_40_code (2 : Nat) (Option.some Jvm.ClassFile.FieldType.int)) ∈ TB := tb6 3 rfl rfl
theorem k1271 : (Jvm.Cond.methodLink "BelievedWordsModel" (192 : Nat) ({ cls := "BelievedWordsModel", name := "isFact", desc := "(I)Z" } : Jvm.MethodName)) ∈ TB := tb6 4 rfl rfl
theorem k1273 : (Jvm.Cond.instanceMethod ({ cls := "BelievedWordsModel", name := "isFact", desc := "(I)Z" } : Jvm.MethodName)) ∈ TB := tb6 6 rfl rfl
theorem k1274 : (Jvm.Cond.code ({ cls := "BelievedWordsModel", name := "isFact", desc := "(I)Z" } : Jvm.MethodName) prog_13_method_26_code (2 : Nat) (Option.some Jvm.ClassFile.FieldType.boolean)) ∈ TB := tb6 7 rfl rfl
theorem k1275 : (Jvm.Cond.constant "BelievedWordsModel" (195 : Nat) (-1000002 : Int32)) ∈ TB := tb6 8 rfl rfl
theorem k1276 : (Jvm.Cond.methodLink "BelievedWordsLaw" (61 : Nat) ({ cls := "BelievedWordsModel", name := "strike", desc := "(II)I" } : Jvm.MethodName)) ∈ TB := tb6 9 rfl rfl
theorem k1277 : (Jvm.Cond.instanceMethod ({ cls := "BelievedWordsModel", name := "strike", desc := "(II)I" } : Jvm.MethodName)) ∈ TB := tb6 10 rfl rfl
theorem k1278 : (Jvm.Cond.selects "BelievedWordsModel" ({ cls := "BelievedWordsModel", name := "strike", desc := "(II)I" } : Jvm.MethodName) ({ cls := "BelievedWordsModel", name := "strike", desc := "(II)I" } : Jvm.MethodName)) ∈ TB := tb6 11 rfl rfl
theorem k1279 : (Jvm.Cond.code ({ cls := "BelievedWordsModel", name := "strike", desc := "(II)I" } : Jvm.MethodName) prog_13_method_41_code (5 : Nat) (Option.some Jvm.ClassFile.FieldType.int)) ∈ TB := tb6 12 rfl rfl
theorem k1280 : (Jvm.Cond.methodLink "BelievedWordsModel" (196 : Nat) ({ cls := "BelievedWordsModel", name := "isRule", desc := "(I)Z" } : Jvm.MethodName)) ∈ TB := tb6 13 rfl rfl
theorem k1282 : (Jvm.Cond.instanceMethod ({ cls := "BelievedWordsModel", name := "isRule", desc := "(I)Z" } : Jvm.MethodName)) ∈ TB := tb6 15 rfl rfl
theorem k1283 : (Jvm.Cond.code ({ cls := "BelievedWordsModel", name := "isRule", desc := "(I)Z" } : Jvm.MethodName) prog_13_method_28_code (2 : Nat) (Option.some Jvm.ClassFile.FieldType.boolean)) ∈ TB := tb6 16 rfl rfl
theorem k1284 : (Jvm.Cond.methodLink "BelievedWordsLaw" (48 : Nat) ({ cls := "BelievedWordsModel", name := "undo", desc := "()I" } : Jvm.MethodName)) ∈ TB := tb6 17 rfl rfl
theorem k1285 : (Jvm.Cond.instanceMethod ({ cls := "BelievedWordsModel", name := "undo", desc := "()I" } : Jvm.MethodName)) ∈ TB := tb6 18 rfl rfl
theorem k1286 : (Jvm.Cond.selects "BelievedWordsModel" ({ cls := "BelievedWordsModel", name := "undo", desc := "()I" } : Jvm.MethodName) ({ cls := "BelievedWordsModel", name := "undo", desc := "()I" } : Jvm.MethodName)) ∈ TB := tb6 19 rfl rfl
theorem k1287 : (Jvm.Cond.code ({ cls := "BelievedWordsModel", name := "undo", desc := "()I" } : Jvm.MethodName) prog_13_method_42_code (2 : Nat) (Option.some Jvm.ClassFile.FieldType.int)) ∈ TB := tb6 20 rfl rfl
theorem k1288 : (Jvm.Cond.methodLink "BelievedWordsLaw" (65 : Nat) ({ cls := "BelievedWordsModel", name := "stand", desc := "(I)I" } : Jvm.MethodName)) ∈ TB := tb6 21 rfl rfl
theorem k1289 : (Jvm.Cond.instanceMethod ({ cls := "BelievedWordsModel", name := "stand", desc := "(I)I" } : Jvm.MethodName)) ∈ TB := tb6 22 rfl rfl
theorem k1290 : (Jvm.Cond.selects "BelievedWordsModel" ({ cls := "BelievedWordsModel", name := "stand", desc := "(I)I" } : Jvm.MethodName) ({ cls := "BelievedWordsModel", name := "stand", desc := "(I)I" } : Jvm.MethodName)) ∈ TB := tb6 23 rfl rfl
theorem k1291 : (Jvm.Cond.code ({ cls := "BelievedWordsModel", name := "stand", desc := "(I)I" } : Jvm.MethodName) prog_13_method_43_code (2 : Nat) (Option.some Jvm.ClassFile.FieldType.int)) ∈ TB := tb6 24 rfl rfl
theorem k1292 : (Jvm.Cond.methodLink "BelievedWordsModel" (199 : Nat) ({ cls := "BelievedWordsModel", name := "isThere", desc := "()Z" } : Jvm.MethodName)) ∈ TB := tb6 25 rfl rfl
theorem k1294 : (Jvm.Cond.instanceMethod ({ cls := "BelievedWordsModel", name := "isThere", desc := "()Z" } : Jvm.MethodName)) ∈ TB := tb6 27 rfl rfl
theorem k1295 : (Jvm.Cond.code ({ cls := "BelievedWordsModel", name := "isThere", desc := "()Z" } : Jvm.MethodName) prog_13_method_25_code (1 : Nat) (Option.some Jvm.ClassFile.FieldType.boolean)) ∈ TB := tb6 28 rfl rfl
theorem k1296 : (Jvm.Cond.methodLink "BelievedWordsLaw" (69 : Nat) ({ cls := "BelievedWordsModel", name := "rule", desc := "(II)I" } : Jvm.MethodName)) ∈ TB := tb6 29 rfl rfl
theorem k1297 : (Jvm.Cond.instanceMethod ({ cls := "BelievedWordsModel", name := "rule", desc := "(II)I" } : Jvm.MethodName)) ∈ TB := tb6 30 rfl rfl
theorem k1298 : (Jvm.Cond.selects "BelievedWordsModel" ({ cls := "BelievedWordsModel", name := "rule", desc := "(II)I" } : Jvm.MethodName) ({ cls := "BelievedWordsModel", name := "rule", desc := "(II)I" } : Jvm.MethodName)) ∈ TB := tb6 31 rfl rfl
theorem k1299 : (Jvm.Cond.code ({ cls := "BelievedWordsModel", name := "rule", desc := "(II)I" } : Jvm.MethodName) prog_13_method_44_code (3 : Nat) (Option.some Jvm.ClassFile.FieldType.int)) ∈ TB := tb6 32 rfl rfl
theorem k1300 : (Jvm.Cond.constantLong "BelievedWordsModel" (202 : Nat) (3 : Int64)) ∈ TB := tb6 33 rfl rfl
theorem k1301 : (Jvm.Cond.methodLink "BelievedWordsLaw" (73 : Nat) ({ cls := "BelievedWordsModel", name := "cell", desc := "(I)I" } : Jvm.MethodName)) ∈ TB := tb6 34 rfl rfl
theorem k1302 : (Jvm.Cond.instanceMethod ({ cls := "BelievedWordsModel", name := "cell", desc := "(I)I" } : Jvm.MethodName)) ∈ TB := tb6 35 rfl rfl
theorem k1303 : (Jvm.Cond.selects "BelievedWordsModel" ({ cls := "BelievedWordsModel", name := "cell", desc := "(I)I" } : Jvm.MethodName) ({ cls := "BelievedWordsModel", name := "cell", desc := "(I)I" } : Jvm.MethodName)) ∈ TB := tb6 36 rfl rfl
theorem k1304 : (Jvm.Cond.code ({ cls := "BelievedWordsModel", name := "cell", desc := "(I)I" } : Jvm.MethodName) prog_13_method_45_code (2 : Nat) (Option.some Jvm.ClassFile.FieldType.int)) ∈ TB := tb6 37 rfl rfl
theorem k1305 : (Jvm.Cond.methodLink "BelievedWordsLaw" (77 : Nat) ({ cls := "BelievedWordsModel", name := "makes", desc := "(II)I" } : Jvm.MethodName)) ∈ TB := tb6 38 rfl rfl
theorem k1306 : (Jvm.Cond.instanceMethod ({ cls := "BelievedWordsModel", name := "makes", desc := "(II)I" } : Jvm.MethodName)) ∈ TB := tb6 39 rfl rfl
theorem k1307 : (Jvm.Cond.selects "BelievedWordsModel" ({ cls := "BelievedWordsModel", name := "makes", desc := "(II)I" } : Jvm.MethodName) ({ cls := "BelievedWordsModel", name := "makes", desc := "(II)I" } : Jvm.MethodName)) ∈ TB := tb6 40 rfl rfl
theorem k1308 : (Jvm.Cond.code ({ cls := "BelievedWordsModel", name := "makes", desc := "(II)I" } : Jvm.MethodName) prog_13_method_46_code (3 : Nat) (Option.some Jvm.ClassFile.FieldType.int)) ∈ TB := tb6 41 rfl rfl
theorem k1309 : (Jvm.Cond.methodLink "BelievedWordsLaw" (81 : Nat) ({ cls := "BelievedWordsModel", name := "shortest", desc := "(III)I" } : Jvm.MethodName)) ∈ TB := tb6 42 rfl rfl
theorem k1310 : (Jvm.Cond.instanceMethod ({ cls := "BelievedWordsModel", name := "shortest", desc := "(III)I" } : Jvm.MethodName)) ∈ TB := tb6 43 rfl rfl
theorem k1311 : (Jvm.Cond.selects "BelievedWordsModel" ({ cls := "BelievedWordsModel", name := "shortest", desc := "(III)I" } : Jvm.MethodName) ({ cls := "BelievedWordsModel", name := "shortest", desc := "(III)I" } : Jvm.MethodName)) ∈ TB := tb6 44 rfl rfl
theorem k1312 : (Jvm.Cond.code ({ cls := "BelievedWordsModel", name := "shortest", desc := "(III)I" } : Jvm.MethodName) prog_13_method_53_code (4 : Nat) (Option.some Jvm.ClassFile.FieldType.int)) ∈ TB := tb6 45 rfl rfl
theorem k1313 : (Jvm.Cond.methodLink "BelievedWordsModel" (220 : Nat) ({ cls := "BelievedWordsModel", name := "areTold", desc := "(II)Z" } : Jvm.MethodName)) ∈ TB := tb6 46 rfl rfl
theorem k1315 : (Jvm.Cond.instanceMethod ({ cls := "BelievedWordsModel", name := "areTold", desc := "(II)Z" } : Jvm.MethodName)) ∈ TB := tb6 48 rfl rfl
theorem k1316 : (Jvm.Cond.code ({ cls := "BelievedWordsModel", name := "areTold", desc := "(II)Z" } : Jvm.MethodName) prog_13_method_51_code (3 : Nat) (Option.some Jvm.ClassFile.FieldType.boolean)) ∈ TB := tb6 49 rfl rfl
theorem k1317 : (Jvm.Cond.methodLink "BelievedWordsModel" (217 : Nat) ({ cls := "BelievedWordsModel", name := "areFacts", desc := "(I)Z" } : Jvm.MethodName)) ∈ TB := tb6 50 rfl rfl
theorem k1319 : (Jvm.Cond.instanceMethod ({ cls := "BelievedWordsModel", name := "areFacts", desc := "(I)Z" } : Jvm.MethodName)) ∈ TB := tb6 52 rfl rfl
theorem k1320 : (Jvm.Cond.code ({ cls := "BelievedWordsModel", name := "areFacts", desc := "(I)Z" } : Jvm.MethodName) prog_13_method_30_code (2 : Nat) (Option.some Jvm.ClassFile.FieldType.boolean)) ∈ TB := tb6 53 rfl rfl
theorem k1321 : (Jvm.Cond.methodLink "BelievedWordsModel" (224 : Nat) ({ cls := "BelievedWordsModel", name := "isSoNow", desc := "(II)Z" } : Jvm.MethodName)) ∈ TB := tb6 54 rfl rfl
theorem k1323 : (Jvm.Cond.instanceMethod ({ cls := "BelievedWordsModel", name := "isSoNow", desc := "(II)Z" } : Jvm.MethodName)) ∈ TB := tb6 56 rfl rfl
theorem k1324 : (Jvm.Cond.code ({ cls := "BelievedWordsModel", name := "isSoNow", desc := "(II)Z" } : Jvm.MethodName) prog_13_method_50_code (3 : Nat) (Option.some Jvm.ClassFile.FieldType.boolean)) ∈ TB := tb6 57 rfl rfl
theorem k1325 : (Jvm.Cond.methodLink "BelievedWordsModel" (227 : Nat) ({ cls := "BelievedWordsModel", name := "spread", desc := "(Z)V" } : Jvm.MethodName)) ∈ TB := tb6 58 rfl rfl
theorem k1327 : (Jvm.Cond.instanceMethod ({ cls := "BelievedWordsModel", name := "spread", desc := "(Z)V" } : Jvm.MethodName)) ∈ TB := tb6 60 rfl rfl
theorem k1328 : (Jvm.Cond.code ({ cls := "BelievedWordsModel", name := "spread", desc := "(Z)V" } : Jvm.MethodName) prog_13_method_49_code (3 : Nat) (Option.none : Option Jvm.ClassFile.FieldType)) ∈ TB := tb6 61 rfl rfl
theorem k1329 : (Jvm.Cond.methodLink "BelievedWordsModel" (207 : Nat) ({ cls := "BelievedWordsModel", name := "clearStates", desc := "()V" } : Jvm.MethodName)) ∈ TB := tb6 62 rfl rfl
theorem k1331 : (Jvm.Cond.instanceMethod ({ cls := "BelievedWordsModel", name := "clearStates", desc := "()V" } : Jvm.MethodName)) ∈ TB := tb6 64 rfl rfl
theorem k1332 : (Jvm.Cond.code ({ cls := "BelievedWordsModel", name := "clearStates", desc := "()V" } : Jvm.MethodName) prog_13_method_47_code (2 : Nat) (Option.none : Option Jvm.ClassFile.FieldType)) ∈ TB := tb6 65 rfl rfl
theorem k1333 : (Jvm.Cond.methodLink "BelievedWordsModel" (213 : Nat) ({ cls := "BelievedWordsModel", name := "goOn", desc := "(IIIZ)V" } : Jvm.MethodName)) ∈ TB := tb6 66 rfl rfl
theorem k1335 : (Jvm.Cond.instanceMethod ({ cls := "BelievedWordsModel", name := "goOn", desc := "(IIIZ)V" } : Jvm.MethodName)) ∈ TB := tb6 68 rfl rfl
theorem k1336 : (Jvm.Cond.code ({ cls := "BelievedWordsModel", name := "goOn", desc := "(IIIZ)V" } : Jvm.MethodName) prog_13_method_48_code (11 : Nat) (Option.none : Option Jvm.ClassFile.FieldType)) ∈ TB := tb6 69 rfl rfl
theorem k1337 : (Jvm.Cond.methodLink "BelievedWordsModel" (230 : Nat) ({ cls := "BelievedWordsModel", name := "bestOf", desc := "(III)I" } : Jvm.MethodName)) ∈ TB := tb6 70 rfl rfl
theorem k1339 : (Jvm.Cond.instanceMethod ({ cls := "BelievedWordsModel", name := "bestOf", desc := "(III)I" } : Jvm.MethodName)) ∈ TB := tb6 72 rfl rfl
theorem k1340 : (Jvm.Cond.code ({ cls := "BelievedWordsModel", name := "bestOf", desc := "(III)I" } : Jvm.MethodName) prog_13_method_52_code (8 : Nat) (Option.some Jvm.ClassFile.FieldType.int)) ∈ TB := tb6 73 rfl rfl
theorem k1341 : (Jvm.Cond.methodLink "BelievedWordsLaw" (85 : Nat) ({ cls := "BelievedWordsModel", name := "cheapest", desc := "(III)I" } : Jvm.MethodName)) ∈ TB := tb6 74 rfl rfl
theorem k1342 : (Jvm.Cond.instanceMethod ({ cls := "BelievedWordsModel", name := "cheapest", desc := "(III)I" } : Jvm.MethodName)) ∈ TB := tb6 75 rfl rfl
theorem k1343 : (Jvm.Cond.selects "BelievedWordsModel" ({ cls := "BelievedWordsModel", name := "cheapest", desc := "(III)I" } : Jvm.MethodName) ({ cls := "BelievedWordsModel", name := "cheapest", desc := "(III)I" } : Jvm.MethodName)) ∈ TB := tb6 76 rfl rfl
theorem k1344 : (Jvm.Cond.code ({ cls := "BelievedWordsModel", name := "cheapest", desc := "(III)I" } : Jvm.MethodName) prog_13_method_54_code (4 : Nat) (Option.some Jvm.ClassFile.FieldType.int)) ∈ TB := tb6 77 rfl rfl
theorem k1345 : (Jvm.Cond.methodLink "BelievedWordsLaw" (89 : Nat) ({ cls := "BelievedWordsModel", name := "idle", desc := "(I)I" } : Jvm.MethodName)) ∈ TB := tb6 78 rfl rfl
theorem k1346 : (Jvm.Cond.instanceMethod ({ cls := "BelievedWordsModel", name := "idle", desc := "(I)I" } : Jvm.MethodName)) ∈ TB := tb6 79 rfl rfl
theorem k1347 : (Jvm.Cond.selects "BelievedWordsModel" ({ cls := "BelievedWordsModel", name := "idle", desc := "(I)I" } : Jvm.MethodName) ({ cls := "BelievedWordsModel", name := "idle", desc := "(I)I" } : Jvm.MethodName)) ∈ TB := tb6 80 rfl rfl
theorem k1348 : (Jvm.Cond.code ({ cls := "BelievedWordsModel", name := "idle", desc := "(I)I" } : Jvm.MethodName) prog_13_method_55_code (4 : Nat) (Option.some Jvm.ClassFile.FieldType.int)) ∈ TB := tb6 81 rfl rfl
theorem k1349 : (Jvm.Cond.methodLink "BelievedWordsLaw" (93 : Nat) ({ cls := "BelievedWordsModel", name := "giveUp", desc := "(II)I" } : Jvm.MethodName)) ∈ TB := tb6 82 rfl rfl
theorem k1350 : (Jvm.Cond.instanceMethod ({ cls := "BelievedWordsModel", name := "giveUp", desc := "(II)I" } : Jvm.MethodName)) ∈ TB := tb6 83 rfl rfl
theorem k1351 : (Jvm.Cond.selects "BelievedWordsModel" ({ cls := "BelievedWordsModel", name := "giveUp", desc := "(II)I" } : Jvm.MethodName) ({ cls := "BelievedWordsModel", name := "giveUp", desc := "(II)I" } : Jvm.MethodName)) ∈ TB := tb6 84 rfl rfl
theorem k1352 : (Jvm.Cond.code ({ cls := "BelievedWordsModel", name := "giveUp", desc := "(II)I" } : Jvm.MethodName) prog_13_method_56_code (6 : Nat) (Option.some Jvm.ClassFile.FieldType.int)) ∈ TB := tb6 85 rfl rfl
theorem k1353 : (Jvm.Cond.methodLink "BelievedWordsLaw" (97 : Nat) ({ cls := "BelievedWordsModel", name := "order", desc := "(II)I" } : Jvm.MethodName)) ∈ TB := tb6 86 rfl rfl
theorem k1354 : (Jvm.Cond.instanceMethod ({ cls := "BelievedWordsModel", name := "order", desc := "(II)I" } : Jvm.MethodName)) ∈ TB := tb6 87 rfl rfl
theorem k1355 : (Jvm.Cond.selects "BelievedWordsModel" ({ cls := "BelievedWordsModel", name := "order", desc := "(II)I" } : Jvm.MethodName) ({ cls := "BelievedWordsModel", name := "order", desc := "(II)I" } : Jvm.MethodName)) ∈ TB := tb6 88 rfl rfl
theorem k1356 : (Jvm.Cond.code ({ cls := "BelievedWordsModel", name := "order", desc := "(II)I" } : Jvm.MethodName) prog_13_method_58_code (8 : Nat) (Option.some Jvm.ClassFile.FieldType.int)) ∈ TB := tb6 89 rfl rfl
theorem k1357 : (Jvm.Cond.methodLink "BelievedWordsModel" (233 : Nat) ({ cls := "BelievedWordsModel", name := "madeBy", desc := "(I)I" } : Jvm.MethodName)) ∈ TB := tb6 90 rfl rfl
theorem k1359 : (Jvm.Cond.instanceMethod ({ cls := "BelievedWordsModel", name := "madeBy", desc := "(I)I" } : Jvm.MethodName)) ∈ TB := tb6 92 rfl rfl
theorem k1360 : (Jvm.Cond.code ({ cls := "BelievedWordsModel", name := "madeBy", desc := "(I)I" } : Jvm.MethodName) prog_13_method_57_code (5 : Nat) (Option.some Jvm.ClassFile.FieldType.int)) ∈ TB := tb6 93 rfl rfl
theorem k1361 : (Jvm.Cond.methodLink "BelievedWordsLaw" (101 : Nat) ({ cls := "BelievedWordsModel", name := "ever", desc := "(I)I" } : Jvm.MethodName)) ∈ TB := tb6 94 rfl rfl
theorem k1362 : (Jvm.Cond.instanceMethod ({ cls := "BelievedWordsModel", name := "ever", desc := "(I)I" } : Jvm.MethodName)) ∈ TB := tb6 95 rfl rfl
theorem k1363 : (Jvm.Cond.selects "BelievedWordsModel" ({ cls := "BelievedWordsModel", name := "ever", desc := "(I)I" } : Jvm.MethodName) ({ cls := "BelievedWordsModel", name := "ever", desc := "(I)I" } : Jvm.MethodName)) ∈ TB := tb6 96 rfl rfl
theorem k1364 : (Jvm.Cond.code ({ cls := "BelievedWordsModel", name := "ever", desc := "(I)I" } : Jvm.MethodName) prog_13_method_59_code (7 : Nat) (Option.some Jvm.ClassFile.FieldType.int)) ∈ TB := tb6 97 rfl rfl
theorem k1365 : (Jvm.Cond.methodLink "BelievedWordsLaw" (105 : Nat) ({ cls := "BelievedWordsModel", name := "said", desc := "(IIIII)I" } : Jvm.MethodName)) ∈ TB := tb6 98 rfl rfl
theorem k1366 : (Jvm.Cond.instanceMethod ({ cls := "BelievedWordsModel", name := "said", desc := "(IIIII)I" } : Jvm.MethodName)) ∈ TB := tb6 99 rfl rfl
theorem k1367 : (Jvm.Cond.selects "BelievedWordsModel" ({ cls := "BelievedWordsModel", name := "said", desc := "(IIIII)I" } : Jvm.MethodName) ({ cls := "BelievedWordsModel", name := "said", desc := "(IIIII)I" } : Jvm.MethodName)) ∈ TB := tb6 100 rfl rfl
theorem k1368 : (Jvm.Cond.code ({ cls := "BelievedWordsModel", name := "said", desc := "(IIIII)I" } : Jvm.MethodName) prog_13_method_60_code (17 : Nat) (Option.some Jvm.ClassFile.FieldType.int)) ∈ TB := tb6 101 rfl rfl
theorem k1369 : (Jvm.Cond.constantLong "BelievedWordsModel" (236 : Nat) (4 : Int64)) ∈ TB := tb6 102 rfl rfl
theorem k1370 : (Jvm.Cond.methodLink "BelievedWordsLaw" (110 : Nat) ({ cls := "BelievedWordsModel", name := "who", desc := "(IIII)I" } : Jvm.MethodName)) ∈ TB := tb6 103 rfl rfl
theorem k1371 : (Jvm.Cond.instanceMethod ({ cls := "BelievedWordsModel", name := "who", desc := "(IIII)I" } : Jvm.MethodName)) ∈ TB := tb6 104 rfl rfl
theorem k1372 : (Jvm.Cond.selects "BelievedWordsModel" ({ cls := "BelievedWordsModel", name := "who", desc := "(IIII)I" } : Jvm.MethodName) ({ cls := "BelievedWordsModel", name := "who", desc := "(IIII)I" } : Jvm.MethodName)) ∈ TB := tb6 105 rfl rfl
theorem k1373 : (Jvm.Cond.code ({ cls := "BelievedWordsModel", name := "who", desc := "(IIII)I" } : Jvm.MethodName) prog_13_method_61_code (13 : Nat) (Option.some Jvm.ClassFile.FieldType.int)) ∈ TB := tb6 106 rfl rfl
theorem k1374 : (Jvm.Cond.constantLong "BelievedWordsModel" (238 : Nat) (12 : Int64)) ∈ TB := tb6 107 rfl rfl
theorem k1375 : (Jvm.Cond.methodLink "BelievedWordsLaw" (115 : Nat) ({ cls := "BelievedWordsModel", name := "temper", desc := "(IIIIII)J" } : Jvm.MethodName)) ∈ TB := tb6 108 rfl rfl
theorem k1376 : (Jvm.Cond.instanceMethod ({ cls := "BelievedWordsModel", name := "temper", desc := "(IIIIII)J" } : Jvm.MethodName)) ∈ TB := tb6 109 rfl rfl
theorem k1377 : (Jvm.Cond.selects "BelievedWordsModel" ({ cls := "BelievedWordsModel", name := "temper", desc := "(IIIIII)J" } : Jvm.MethodName) ({ cls := "BelievedWordsModel", name := "temper", desc := "(IIIIII)J" } : Jvm.MethodName)) ∈ TB := tb6 110 rfl rfl
theorem k1378 : (Jvm.Cond.code ({ cls := "BelievedWordsModel", name := "temper", desc := "(IIIIII)J" } : Jvm.MethodName) prog_13_method_63_code (18 : Nat) (Option.some Jvm.ClassFile.FieldType.long)) ∈ TB := tb6 111 rfl rfl
theorem k1379 : (Jvm.Cond.constantLong "BelievedWordsModel" (240 : Nat) (-1000002 : Int64)) ∈ TB := tb6 112 rfl rfl
theorem k1380 : (Jvm.Cond.constantLong "BelievedWordsModel" (242 : Nat) (10 : Int64)) ∈ TB := tb6 113 rfl rfl
theorem k1381 : (Jvm.Cond.constantLong "BelievedWordsModel" (244 : Nat) (6 : Int64)) ∈ TB := tb6 114 rfl rfl
theorem k1382 : (Jvm.Cond.constantLong "BelievedWordsModel" (246 : Nat) (-1000001 : Int64)) ∈ TB := tb6 115 rfl rfl
theorem k1383 : (Jvm.Cond.methodLink "BelievedWordsModel" (248 : Nat) ({ cls := "BelievedWordsModel", name := "afterAll", desc := "(III)I" } : Jvm.MethodName)) ∈ TB := tb6 116 rfl rfl
theorem k1385 : (Jvm.Cond.instanceMethod ({ cls := "BelievedWordsModel", name := "afterAll", desc := "(III)I" } : Jvm.MethodName)) ∈ TB := tb6 118 rfl rfl
theorem k1386 : (Jvm.Cond.code ({ cls := "BelievedWordsModel", name := "afterAll", desc := "(III)I" } : Jvm.MethodName) prog_13_method_62_code (9 : Nat) (Option.some Jvm.ClassFile.FieldType.int)) ∈ TB := tb6 119 rfl rfl
theorem k1387 : (Jvm.Cond.methodLink "BelievedWordsLaw" (119 : Nat) ({ cls := "BelievedWordsModel", name := "drawn", desc := "(III)I" } : Jvm.MethodName)) ∈ TB := tb6 120 rfl rfl
theorem k1388 : (Jvm.Cond.instanceMethod ({ cls := "BelievedWordsModel", name := "drawn", desc := "(III)I" } : Jvm.MethodName)) ∈ TB := tb6 121 rfl rfl
theorem k1389 : (Jvm.Cond.selects "BelievedWordsModel" ({ cls := "BelievedWordsModel", name := "drawn", desc := "(III)I" } : Jvm.MethodName) ({ cls := "BelievedWordsModel", name := "drawn", desc := "(III)I" } : Jvm.MethodName)) ∈ TB := tb6 122 rfl rfl
theorem k1390 : (Jvm.Cond.code ({ cls := "BelievedWordsModel", name := "drawn", desc := "(III)I" } : Jvm.MethodName) prog_13_method_64_code (12 : Nat) (Option.some Jvm.ClassFile.FieldType.int)) ∈ TB := tb6 123 rfl rfl
theorem k1391 : (Jvm.Cond.constantLong "BelievedWordsModel" (251 : Nat) (60 : Int64)) ∈ TB := tb6 124 rfl rfl
theorem k1392 : (Jvm.Cond.constantLong "BelievedWordsModel" (253 : Nat) (999999 : Int64)) ∈ TB := tb6 125 rfl rfl
theorem k1393 : (Jvm.Cond.constantLong "BelievedWordsModel" (255 : Nat) (16807 : Int64)) ∈ TB := tb6 126 rfl rfl
theorem k1394 : (Jvm.Cond.constantLong "BelievedWordsModel" (257 : Nat) (2147483647 : Int64)) ∈ TB := tb6 127 rfl rfl
theorem k1395 : (Jvm.Cond.methodLink "BelievedWordsLaw" (123 : Nat) ({ cls := "BelievedWordsModel", name := "image", desc := "(I)I" } : Jvm.MethodName)) ∈ TB := tb6 128 rfl rfl
theorem k1396 : (Jvm.Cond.instanceMethod ({ cls := "BelievedWordsModel", name := "image", desc := "(I)I" } : Jvm.MethodName)) ∈ TB := tb6 129 rfl rfl
theorem k1397 : (Jvm.Cond.selects "BelievedWordsModel" ({ cls := "BelievedWordsModel", name := "image", desc := "(I)I" } : Jvm.MethodName) ({ cls := "BelievedWordsModel", name := "image", desc := "(I)I" } : Jvm.MethodName)) ∈ TB := tb6 130 rfl rfl
theorem k1398 : (Jvm.Cond.code ({ cls := "BelievedWordsModel", name := "image", desc := "(I)I" } : Jvm.MethodName) prog_13_method_65_code (3 : Nat) (Option.some Jvm.ClassFile.FieldType.int)) ∈ TB := tb6 131 rfl rfl
theorem k1399 : (Jvm.Cond.methodLink "BelievedWordsLaw" (127 : Nat) ({ cls := "BelievedWordsModel", name := "restore", desc := "(I)I" } : Jvm.MethodName)) ∈ TB := tb6 132 rfl rfl
theorem k1400 : (Jvm.Cond.instanceMethod ({ cls := "BelievedWordsModel", name := "restore", desc := "(I)I" } : Jvm.MethodName)) ∈ TB := tb6 133 rfl rfl
theorem k1401 : (Jvm.Cond.selects "BelievedWordsModel" ({ cls := "BelievedWordsModel", name := "restore", desc := "(I)I" } : Jvm.MethodName) ({ cls := "BelievedWordsModel", name := "restore", desc := "(I)I" } : Jvm.MethodName)) ∈ TB := tb6 134 rfl rfl
theorem k1402 : (Jvm.Cond.code ({ cls := "BelievedWordsModel", name := "restore", desc := "(I)I" } : Jvm.MethodName) prog_13_method_66_code (3 : Nat) (Option.some Jvm.ClassFile.FieldType.int)) ∈ TB := tb6 135 rfl rfl
theorem k1403 : (Jvm.Cond.methodLink "BelievedWordsLaw" (131 : Nat) ({ cls := "BelievedWordsModel", name := "kind", desc := "(I)I" } : Jvm.MethodName)) ∈ TB := tb6 136 rfl rfl
theorem k1404 : (Jvm.Cond.instanceMethod ({ cls := "BelievedWordsModel", name := "kind", desc := "(I)I" } : Jvm.MethodName)) ∈ TB := tb6 137 rfl rfl
theorem k1405 : (Jvm.Cond.selects "BelievedWordsModel" ({ cls := "BelievedWordsModel", name := "kind", desc := "(I)I" } : Jvm.MethodName) ({ cls := "BelievedWordsModel", name := "kind", desc := "(I)I" } : Jvm.MethodName)) ∈ TB := tb6 138 rfl rfl
theorem k1406 : (Jvm.Cond.code ({ cls := "BelievedWordsModel", name := "kind", desc := "(I)I" } : Jvm.MethodName) prog_13_method_68_code (2 : Nat) (Option.some Jvm.ClassFile.FieldType.int)) ∈ TB := tb6 139 rfl rfl
theorem k1407 : (Jvm.Cond.methodLink "BelievedWordsLaw" (135 : Nat) ({ cls := "BelievedWordsModel", name := "as", desc := "(II)I" } : Jvm.MethodName)) ∈ TB := tb6 140 rfl rfl
theorem k1408 : (Jvm.Cond.instanceMethod ({ cls := "BelievedWordsModel", name := "as", desc := "(II)I" } : Jvm.MethodName)) ∈ TB := tb6 141 rfl rfl
theorem k1409 : (Jvm.Cond.selects "BelievedWordsModel" ({ cls := "BelievedWordsModel", name := "as", desc := "(II)I" } : Jvm.MethodName) ({ cls := "BelievedWordsModel", name := "as", desc := "(II)I" } : Jvm.MethodName)) ∈ TB := tb6 142 rfl rfl
theorem k1410 : (Jvm.Cond.code ({ cls := "BelievedWordsModel", name := "as", desc := "(II)I" } : Jvm.MethodName) prog_13_method_69_code (3 : Nat) (Option.some Jvm.ClassFile.FieldType.int)) ∈ TB := tb6 143 rfl rfl
theorem k1411 : (Jvm.Cond.constantLong "BelievedWordsModel" (259 : Nat) (5 : Int64)) ∈ TB := tb6 144 rfl rfl
theorem k1412 : (Jvm.Cond.methodLink "BelievedWordsModel" (261 : Nat) ({ cls := "BelievedWordsModel", name := "isOf", desc := "(II)Z" } : Jvm.MethodName)) ∈ TB := tb6 145 rfl rfl
theorem k1413 : (Jvm.Cond.static ({ cls := "BelievedWordsModel", name := "isOf", desc := "(II)Z" } : Jvm.MethodName)) ∈ TB := tb6 146 rfl rfl
theorem k1414 : (Jvm.Cond.code ({ cls := "BelievedWordsModel", name := "isOf", desc := "(II)Z" } : Jvm.MethodName) prog_13_method_67_code (2 : Nat) (Option.some Jvm.ClassFile.FieldType.boolean)) ∈ TB := tb6 147 rfl rfl
theorem k1415 : (Jvm.Cond.methodLink "BelievedWordsLaw" (139 : Nat) ({ cls := "BelievedWordsModel", name := "ask", desc := "(II)I" } : Jvm.MethodName)) ∈ TB := tb6 148 rfl rfl
theorem k1416 : (Jvm.Cond.instanceMethod ({ cls := "BelievedWordsModel", name := "ask", desc := "(II)I" } : Jvm.MethodName)) ∈ TB := tb6 149 rfl rfl
theorem k1417 : (Jvm.Cond.selects "BelievedWordsModel" ({ cls := "BelievedWordsModel", name := "ask", desc := "(II)I" } : Jvm.MethodName) ({ cls := "BelievedWordsModel", name := "ask", desc := "(II)I" } : Jvm.MethodName)) ∈ TB := tb6 150 rfl rfl
theorem k1418 : (Jvm.Cond.code ({ cls := "BelievedWordsModel", name := "ask", desc := "(II)I" } : Jvm.MethodName) prog_13_method_75_code (3 : Nat) (Option.some Jvm.ClassFile.FieldType.int)) ∈ TB := tb6 151 rfl rfl
theorem k1419 : (Jvm.Cond.methodLink "BelievedWordsModel" (279 : Nat) ({ cls := "BelievedWordsModel", name := "sizeOf", desc := "(I)I" } : Jvm.MethodName)) ∈ TB := tb6 152 rfl rfl
theorem k1421 : (Jvm.Cond.instanceMethod ({ cls := "BelievedWordsModel", name := "sizeOf", desc := "(I)I" } : Jvm.MethodName)) ∈ TB := tb6 154 rfl rfl
theorem k1422 : (Jvm.Cond.code ({ cls := "BelievedWordsModel", name := "sizeOf", desc := "(I)I" } : Jvm.MethodName) prog_13_method_74_code (4 : Nat) (Option.some Jvm.ClassFile.FieldType.int)) ∈ TB := tb6 155 rfl rfl
theorem k1423 : (Jvm.Cond.methodLink "BelievedWordsModel" (273 : Nat) ({ cls := "BelievedWordsModel", name := "quietSize", desc := "(I)I" } : Jvm.MethodName)) ∈ TB := tb6 156 rfl rfl
theorem k1425 : (Jvm.Cond.instanceMethod ({ cls := "BelievedWordsModel", name := "quietSize", desc := "(I)I" } : Jvm.MethodName)) ∈ TB := tb6 158 rfl rfl
theorem k1426 : (Jvm.Cond.code ({ cls := "BelievedWordsModel", name := "quietSize", desc := "(I)I" } : Jvm.MethodName) prog_13_method_72_code (4 : Nat) (Option.some Jvm.ClassFile.FieldType.int)) ∈ TB := tb6 159 rfl rfl
theorem k1427 : (Jvm.Cond.methodLink "BelievedWordsModel" (267 : Nat) ({ cls := "BelievedWordsModel", name := "began", desc := "(I)V" } : Jvm.MethodName)) ∈ TB := tb6 160 rfl rfl
theorem k1429 : (Jvm.Cond.instanceMethod ({ cls := "BelievedWordsModel", name := "began", desc := "(I)V" } : Jvm.MethodName)) ∈ TB := tb6 162 rfl rfl
theorem k1430 : (Jvm.Cond.code ({ cls := "BelievedWordsModel", name := "began", desc := "(I)V" } : Jvm.MethodName) prog_13_method_70_code (2 : Nat) (Option.none : Option Jvm.ClassFile.FieldType)) ∈ TB := tb6 163 rfl rfl
theorem k1431 : (Jvm.Cond.methodLink "BelievedWordsModel" (270 : Nat) ({ cls := "BelievedWordsModel", name := "plainSize", desc := "(I)I" } : Jvm.MethodName)) ∈ TB := tb6 164 rfl rfl
theorem k1433 : (Jvm.Cond.instanceMethod ({ cls := "BelievedWordsModel", name := "plainSize", desc := "(I)I" } : Jvm.MethodName)) ∈ TB := tb6 166 rfl rfl
theorem k1434 : (Jvm.Cond.code ({ cls := "BelievedWordsModel", name := "plainSize", desc := "(I)I" } : Jvm.MethodName) prog_13_method_71_code (2 : Nat) (Option.some Jvm.ClassFile.FieldType.int)) ∈ TB := tb6 167 rfl rfl
theorem k1435 : (Jvm.Cond.methodLink "BelievedWordsModel" (276 : Nat) ({ cls := "BelievedWordsModel", name := "markOf", desc := "(I)I" } : Jvm.MethodName)) ∈ TB := tb6 168 rfl rfl
theorem k1437 : (Jvm.Cond.instanceMethod ({ cls := "BelievedWordsModel", name := "markOf", desc := "(I)I" } : Jvm.MethodName)) ∈ TB := tb6 170 rfl rfl
theorem k1438 : (Jvm.Cond.code ({ cls := "BelievedWordsModel", name := "markOf", desc := "(I)I" } : Jvm.MethodName) prog_13_method_73_code (4 : Nat) (Option.some Jvm.ClassFile.FieldType.int)) ∈ TB := tb6 171 rfl rfl
theorem k1439 : (Jvm.Cond.methodLink "BelievedWordsLaw" (143 : Nat) ({ cls := "BelievedWordsModel", name := "trace", desc := "(I)I" } : Jvm.MethodName)) ∈ TB := tb6 172 rfl rfl
theorem k1440 : (Jvm.Cond.instanceMethod ({ cls := "BelievedWordsModel", name := "trace", desc := "(I)I" } : Jvm.MethodName)) ∈ TB := tb6 173 rfl rfl
theorem k1441 : (Jvm.Cond.selects "BelievedWordsModel" ({ cls := "BelievedWordsModel", name := "trace", desc := "(I)I" } : Jvm.MethodName) ({ cls := "BelievedWordsModel", name := "trace", desc := "(I)I" } : Jvm.MethodName)) ∈ TB := tb6 174 rfl rfl
theorem k1442 : (Jvm.Cond.code ({ cls := "BelievedWordsModel", name := "trace", desc := "(I)I" } : Jvm.MethodName) prog_13_method_76_code (2 : Nat) (Option.some Jvm.ClassFile.FieldType.int)) ∈ TB := tb6 175 rfl rfl
theorem k1443 : (Jvm.Cond.methodLink "BelievedWordsLaw" (147 : Nat) ({ cls := "BelievedWordsModel", name := "count", desc := "(I)I" } : Jvm.MethodName)) ∈ TB := tb6 176 rfl rfl
theorem k1444 : (Jvm.Cond.instanceMethod ({ cls := "BelievedWordsModel", name := "count", desc := "(I)I" } : Jvm.MethodName)) ∈ TB := tb6 177 rfl rfl
theorem k1445 : (Jvm.Cond.selects "BelievedWordsModel" ({ cls := "BelievedWordsModel", name := "count", desc := "(I)I" } : Jvm.MethodName) ({ cls := "BelievedWordsModel", name := "count", desc := "(I)I" } : Jvm.MethodName)) ∈ TB := tb6 178 rfl rfl
theorem k1446 : (Jvm.Cond.code ({ cls := "BelievedWordsModel", name := "count", desc := "(I)I" } : Jvm.MethodName) prog_13_method_77_code (4 : Nat) (Option.some Jvm.ClassFile.FieldType.int)) ∈ TB := tb6 179 rfl rfl
theorem k1447 : (Jvm.Cond.methodLink "BelievedWordsLaw" (151 : Nat) ({ cls := "BelievedWordsModel", name := "status", desc := "()I" } : Jvm.MethodName)) ∈ TB := tb6 180 rfl rfl
theorem k1448 : (Jvm.Cond.instanceMethod ({ cls := "BelievedWordsModel", name := "status", desc := "()I" } : Jvm.MethodName)) ∈ TB := tb6 181 rfl rfl
theorem k1449 : (Jvm.Cond.selects "BelievedWordsModel" ({ cls := "BelievedWordsModel", name := "status", desc := "()I" } : Jvm.MethodName) ({ cls := "BelievedWordsModel", name := "status", desc := "()I" } : Jvm.MethodName)) ∈ TB := tb6 182 rfl rfl
theorem k1450 : (Jvm.Cond.code ({ cls := "BelievedWordsModel", name := "status", desc := "()I" } : Jvm.MethodName) prog_13_method_78_code (1 : Nat) (Option.some Jvm.ClassFile.FieldType.int)) ∈ TB := tb6 183 rfl rfl
end
section
/-! ROWS, by field -/
theorem TY_rset {m : AM} {i j x : Nat} (hw : wt m (vr 12 x)) (h : TY m) : TY (rset m i j x) := by
  refine ⟨h.1, fun b k => ?_⟩
  simp only [rset]
  by_cases e1 : b = i
  · by_cases e2 : k = j
    · rw [if_pos e1, if_pos e2]; exact hw
    · rw [if_pos e1, if_neg e2]; exact h.2 b k
  · rw [if_neg e1]; exact h.2 b k
theorem uTB0 : ∀ w ∈ u_ws RX0 TX0 3, w ∈ TB := (List.forall_mem_cons.mpr ⟨k303, (List.forall_mem_cons.mpr ⟨k305, (List.forall_mem_cons.mpr ⟨k307, (fun w h => absurd h List.not_mem_nil)⟩)⟩)⟩)
theorem gf0_0 {E : ME} {Φ : Option AV → AM → Prop} {pc : Nat} {L : List (Option AV)} {st : List AV} {m : AM} {a : Nat × Nat} {i idx : Nat} (j : Nat) (hj : i + 1 = j) (hl : Cond.fieldLink E.2.1 idx "BelievedWords$Acts" "before" "[LBelievedWords$Standing;" ∈ TB) (hd : decode E.1 pc = .ok (.getfield idx, 3)) (kk : B E Φ (pc + 3) L (vr 13 j :: st) m a) : B E Φ pc L (vr 0 i :: st) m a := by
  subst hj
  exact b_get 0 (vr 13 (i + 1)) (T := TX0) (N := 3) (C := RX0) rfl (by decide) (by decide) uTB0 (Or.inl hl) (fun ad => rfl) (fun h h2 => kd_off 0 13 1 (by decide +kernel) (by decide) h h2) hd kk
theorem gf0_1 {E : ME} {Φ : Option AV → AM → Prop} {pc : Nat} {L : List (Option AV)} {st : List AV} {m : AM} {a : Nat × Nat} {i idx : Nat} (hl : Cond.fieldLink E.2.1 idx "BelievedWords$Acts" "next" "I" ∈ TB) (hd : decode E.1 pc = .ok (.getfield idx, 3)) (kk : B E Φ (pc + 3) L (vi (m.1 i 1) :: st) m a) : B E Φ pc L (vr 0 i :: st) m a := b_get 1 (vi (m.1 i 1)) (T := TX0) (N := 3) (C := RX0) rfl (by decide) (by decide) uTB0 (Or.inl hl) (fun ad => rfl) (fun _ _ => trivial) hd kk
theorem pf0_1 {E : ME} {Φ : Option AV → AM → Prop} {pc : Nat} {L : List (Option AV)} {st : List AV} {m : AM} {a : Nat × Nat} {i idx : Nat} {x : Int32} (hl : Cond.fieldLink E.2.1 idx "BelievedWords$Acts" "next" "I" ∈ TB) (hd : decode E.1 pc = .ok (.putfield idx, 3)) (kk : B E Φ (pc + 3) L st (mset m i 1 x) a) : B E Φ pc L (vi x :: vr 0 i :: st) m a := b_put 1 (vi x) (mset m i 1 x) tyX0 .int (T := TX0) (N := 3) (C := RX0) rfl (by decide) (by decide) uTB0 tyX0_ok nmX0 (Or.inl hl) rfl (by decide +kernel) (fun _ => rfl) (fun _ => rfl) (fun _ => Nat.le_of_ble_eq_true rfl) (fun ad => by simp [flds, mset, cvA]) rfl (fun Y ad a h => cel_mset_ne _ _ h) (fun _ h => h) hd kk
theorem gf0_2 {E : ME} {Φ : Option AV → AM → Prop} {pc : Nat} {L : List (Option AV)} {st : List AV} {m : AM} {a : Nat × Nat} {i idx : Nat} (hl : Cond.fieldLink E.2.1 idx "BelievedWords$Acts" "kept" "I" ∈ TB) (hd : decode E.1 pc = .ok (.getfield idx, 3)) (kk : B E Φ (pc + 3) L (vi (m.1 i 2) :: st) m a) : B E Φ pc L (vr 0 i :: st) m a := b_get 2 (vi (m.1 i 2)) (T := TX0) (N := 3) (C := RX0) rfl (by decide) (by decide) uTB0 (Or.inl hl) (fun ad => rfl) (fun _ _ => trivial) hd kk
theorem pf0_2 {E : ME} {Φ : Option AV → AM → Prop} {pc : Nat} {L : List (Option AV)} {st : List AV} {m : AM} {a : Nat × Nat} {i idx : Nat} {x : Int32} (hl : Cond.fieldLink E.2.1 idx "BelievedWords$Acts" "kept" "I" ∈ TB) (hd : decode E.1 pc = .ok (.putfield idx, 3)) (kk : B E Φ (pc + 3) L st (mset m i 2 x) a) : B E Φ pc L (vi x :: vr 0 i :: st) m a := b_put 2 (vi x) (mset m i 2 x) tyX0 .int (T := TX0) (N := 3) (C := RX0) rfl (by decide) (by decide) uTB0 tyX0_ok nmX0 (Or.inl hl) rfl (by decide +kernel) (fun _ => rfl) (fun _ => rfl) (fun _ => Nat.le_of_ble_eq_true rfl) (fun ad => by simp [flds, mset, cvA]) rfl (fun Y ad a h => cel_mset_ne _ _ h) (fun _ h => h) hd kk
theorem uTB1 : ∀ w ∈ u_ws RX1 TX1 2, w ∈ TB := (List.forall_mem_cons.mpr ⟨k388, (List.forall_mem_cons.mpr ⟨k390, (fun w h => absurd h List.not_mem_nil)⟩)⟩)
theorem gf1_0 {E : ME} {Φ : Option AV → AM → Prop} {pc : Nat} {L : List (Option AV)} {st : List AV} {m : AM} {a : Nat × Nat} {i idx : Nat} (j : Nat) (hj : i + 1 = j) (hl : Cond.fieldLink E.2.1 idx "BelievedWords$Asks" "trace" "[I" ∈ TB) (hd : decode E.1 pc = .ok (.getfield idx, 3)) (kk : B E Φ (pc + 3) L (vr 116 j :: st) m a) : B E Φ pc L (vr 1 i :: st) m a := by
  subst hj
  exact b_get 0 (vr 116 (i + 1)) (T := TX1) (N := 2) (C := RX1) rfl (by decide) (by decide) uTB1 (Or.inl hl) (fun ad => rfl) (fun h h2 => kd_off 1 116 1 (by decide +kernel) (by decide) h h2) hd kk
theorem gf1_1 {E : ME} {Φ : Option AV → AM → Prop} {pc : Nat} {L : List (Option AV)} {st : List AV} {m : AM} {a : Nat × Nat} {i idx : Nat} (hl : Cond.fieldLink E.2.1 idx "BelievedWords$Asks" "left" "I" ∈ TB) (hd : decode E.1 pc = .ok (.getfield idx, 3)) (kk : B E Φ (pc + 3) L (vi (m.1 i 1) :: st) m a) : B E Φ pc L (vr 1 i :: st) m a := b_get 1 (vi (m.1 i 1)) (T := TX1) (N := 2) (C := RX1) rfl (by decide) (by decide) uTB1 (Or.inl hl) (fun ad => rfl) (fun _ _ => trivial) hd kk
theorem pf1_1 {E : ME} {Φ : Option AV → AM → Prop} {pc : Nat} {L : List (Option AV)} {st : List AV} {m : AM} {a : Nat × Nat} {i idx : Nat} {x : Int32} (hl : Cond.fieldLink E.2.1 idx "BelievedWords$Asks" "left" "I" ∈ TB) (hd : decode E.1 pc = .ok (.putfield idx, 3)) (kk : B E Φ (pc + 3) L st (mset m i 1 x) a) : B E Φ pc L (vi x :: vr 1 i :: st) m a := b_put 1 (vi x) (mset m i 1 x) tyX1 .int (T := TX1) (N := 2) (C := RX1) rfl (by decide) (by decide) uTB1 tyX1_ok nmX1 (Or.inl hl) rfl (by decide +kernel) (fun _ => rfl) (fun _ => rfl) (fun _ => Nat.le_of_ble_eq_true rfl) (fun ad => by simp [flds, mset, cvA]) rfl (fun Y ad a h => cel_mset_ne _ _ h) (fun _ h => h) hd kk
theorem uTB2 : ∀ w ∈ u_ws RX2 TX2 5, w ∈ TB := (List.forall_mem_cons.mpr ⟨k279, (List.forall_mem_cons.mpr ⟨k281, (List.forall_mem_cons.mpr ⟨k283, (List.forall_mem_cons.mpr ⟨k285, (List.forall_mem_cons.mpr ⟨k287, (fun w h => absurd h List.not_mem_nil)⟩)⟩)⟩)⟩)⟩)
theorem gf2_0 {E : ME} {Φ : Option AV → AM → Prop} {pc : Nat} {L : List (Option AV)} {st : List AV} {m : AM} {a : Nat × Nat} {i idx : Nat} (j : Nat) (hj : i + 1 = j) (hl : Cond.fieldLink E.2.1 idx "BelievedWords$Court" "law" "LBelievedWords$Law;" ∈ TB) (hd : decode E.1 pc = .ok (.getfield idx, 3)) (kk : B E Φ (pc + 3) L (vr 5 j :: st) m a) : B E Φ pc L (vr 2 i :: st) m a := by
  subst hj
  exact b_get 0 (vr 5 (i + 1)) (T := TX2) (N := 5) (C := RX2) rfl (by decide) (by decide) uTB2 (Or.inl hl) (fun ad => rfl) (fun h h2 => kd_off 2 5 1 (by decide +kernel) (by decide) h h2) hd kk
theorem gf2_1 {E : ME} {Φ : Option AV → AM → Prop} {pc : Nat} {L : List (Option AV)} {st : List AV} {m : AM} {a : Nat × Nat} {i idx : Nat} (j : Nat) (hj : i + 6 = j) (hl : Cond.fieldLink E.2.1 idx "BelievedWords$Court" "now" "LBelievedWords$Standing;" ∈ TB) (hd : decode E.1 pc = .ok (.getfield idx, 3)) (kk : B E Φ (pc + 3) L (vr 8 j :: st) m a) : B E Φ pc L (vr 2 i :: st) m a := by
  subst hj
  exact b_get 1 (vr 8 (i + 6)) (T := TX2) (N := 5) (C := RX2) rfl (by decide) (by decide) uTB2 (Or.inl hl) (fun ad => rfl) (fun h h2 => kd_off 2 8 6 (by decide +kernel) (by decide) h h2) hd kk
theorem gf2_2 {E : ME} {Φ : Option AV → AM → Prop} {pc : Nat} {L : List (Option AV)} {st : List AV} {m : AM} {a : Nat × Nat} {i idx : Nat} (j : Nat) (hj : i + 8 = j) (hl : Cond.fieldLink E.2.1 idx "BelievedWords$Court" "made" "[I" ∈ TB) (hd : decode E.1 pc = .ok (.getfield idx, 3)) (kk : B E Φ (pc + 3) L (vr 106 j :: st) m a) : B E Φ pc L (vr 2 i :: st) m a := by
  subst hj
  exact b_get 2 (vr 106 (i + 8)) (T := TX2) (N := 5) (C := RX2) rfl (by decide) (by decide) uTB2 (Or.inl hl) (fun ad => rfl) (fun h h2 => kd_off 2 106 8 (by decide +kernel) (by decide) h h2) hd kk
theorem gf2_3 {E : ME} {Φ : Option AV → AM → Prop} {pc : Nat} {L : List (Option AV)} {st : List AV} {m : AM} {a : Nat × Nat} {i idx : Nat} (j : Nat) (hj : i + 9 = j) (hl : Cond.fieldLink E.2.1 idx "BelievedWords$Court" "barred" "[I" ∈ TB) (hd : decode E.1 pc = .ok (.getfield idx, 3)) (kk : B E Φ (pc + 3) L (vr 106 j :: st) m a) : B E Φ pc L (vr 2 i :: st) m a := by
  subst hj
  exact b_get 3 (vr 106 (i + 9)) (T := TX2) (N := 5) (C := RX2) rfl (by decide) (by decide) uTB2 (Or.inl hl) (fun ad => rfl) (fun h h2 => kd_off 2 106 9 (by decide +kernel) (by decide) h h2) hd kk
theorem gf2_4 {E : ME} {Φ : Option AV → AM → Prop} {pc : Nat} {L : List (Option AV)} {st : List AV} {m : AM} {a : Nat × Nat} {i idx : Nat} (j : Nat) (hj : i + 10 = j) (hl : Cond.fieldLink E.2.1 idx "BelievedWords$Court" "settled" "[I" ∈ TB) (hd : decode E.1 pc = .ok (.getfield idx, 3)) (kk : B E Φ (pc + 3) L (vr 164 j :: st) m a) : B E Φ pc L (vr 2 i :: st) m a := by
  subst hj
  exact b_get 4 (vr 164 (i + 10)) (T := TX2) (N := 5) (C := RX2) rfl (by decide) (by decide) uTB2 (Or.inl hl) (fun ad => rfl) (fun h h2 => kd_off 2 164 10 (by decide +kernel) (by decide) h h2) hd kk
theorem uTB3 : ∀ w ∈ u_ws RX3 TX3 4, w ∈ TB := (List.forall_mem_cons.mpr ⟨k371, (List.forall_mem_cons.mpr ⟨k373, (List.forall_mem_cons.mpr ⟨k375, (List.forall_mem_cons.mpr ⟨k377, (fun w h => absurd h List.not_mem_nil)⟩)⟩)⟩)⟩)
theorem gf3_0 {E : ME} {Φ : Option AV → AM → Prop} {pc : Nat} {L : List (Option AV)} {st : List AV} {m : AM} {a : Nat × Nat} {i idx : Nat} (hl : Cond.fieldLink E.2.1 idx "BelievedWords$Foresight" "ways" "[I" ∈ TB) (hd : decode E.1 pc = .ok (.getfield idx, 3)) (kk : B E Φ (pc + 3) L (vr 12 (m.2.1 i 0) :: st) m a) : B E Φ pc L (vr 3 i :: st) m a := b_get 0 (vr 12 (m.2.1 i 0)) (T := TX3) (N := 4) (C := RX3) rfl (by decide) (by decide) uTB3 (Or.inl hl) (fun ad => rfl) (fun _ h => h.2 i 0) hd kk
theorem pf3_0 {E : ME} {Φ : Option AV → AM → Prop} {pc : Nat} {L : List (Option AV)} {st : List AV} {m : AM} {a : Nat × Nat} {i idx : Nat} {x : Nat} (hl : Cond.fieldLink E.2.1 idx "BelievedWords$Foresight" "ways" "[I" ∈ TB) (hd : decode E.1 pc = .ok (.putfield idx, 3)) (kk : B E Φ (pc + 3) L st (rset m i 0 x) a) : B E Φ pc L (vr 12 x :: vr 3 i :: st) m a := b_put 0 (vr 12 x) (rset m i 0 x) tyX3 (.array .int) (T := TX3) (N := 4) (C := RX3) rfl (by decide) (by decide) uTB3 tyX3_ok nmX3 (Or.inl hl) rfl (by decide +kernel) (fun _ => rfl) (fun _ => rfl) (fun _ => Nat.le_of_ble_eq_true rfl) (fun ad => by simp [flds, rset, cvA]) rfl (fun Y ad a h => cel_rset_ne _ _ h) (fun hw h => TY_rset hw h) hd kk
theorem gf3_1 {E : ME} {Φ : Option AV → AM → Prop} {pc : Nat} {L : List (Option AV)} {st : List AV} {m : AM} {a : Nat × Nat} {i idx : Nat} (hl : Cond.fieldLink E.2.1 idx "BelievedWords$Foresight" "firsts" "[I" ∈ TB) (hd : decode E.1 pc = .ok (.getfield idx, 3)) (kk : B E Φ (pc + 3) L (vr 12 (m.2.1 i 1) :: st) m a) : B E Φ pc L (vr 3 i :: st) m a := b_get 1 (vr 12 (m.2.1 i 1)) (T := TX3) (N := 4) (C := RX3) rfl (by decide) (by decide) uTB3 (Or.inl hl) (fun ad => rfl) (fun _ h => h.2 i 1) hd kk
theorem pf3_1 {E : ME} {Φ : Option AV → AM → Prop} {pc : Nat} {L : List (Option AV)} {st : List AV} {m : AM} {a : Nat × Nat} {i idx : Nat} {x : Nat} (hl : Cond.fieldLink E.2.1 idx "BelievedWords$Foresight" "firsts" "[I" ∈ TB) (hd : decode E.1 pc = .ok (.putfield idx, 3)) (kk : B E Φ (pc + 3) L st (rset m i 1 x) a) : B E Φ pc L (vr 12 x :: vr 3 i :: st) m a := b_put 1 (vr 12 x) (rset m i 1 x) tyX3 (.array .int) (T := TX3) (N := 4) (C := RX3) rfl (by decide) (by decide) uTB3 tyX3_ok nmX3 (Or.inl hl) rfl (by decide +kernel) (fun _ => rfl) (fun _ => rfl) (fun _ => Nat.le_of_ble_eq_true rfl) (fun ad => by simp [flds, rset, cvA]) rfl (fun Y ad a h => cel_rset_ne _ _ h) (fun hw h => TY_rset hw h) hd kk
theorem gf3_2 {E : ME} {Φ : Option AV → AM → Prop} {pc : Nat} {L : List (Option AV)} {st : List AV} {m : AM} {a : Nat × Nat} {i idx : Nat} (hl : Cond.fieldLink E.2.1 idx "BelievedWords$Foresight" "nextWays" "[I" ∈ TB) (hd : decode E.1 pc = .ok (.getfield idx, 3)) (kk : B E Φ (pc + 3) L (vr 12 (m.2.1 i 2) :: st) m a) : B E Φ pc L (vr 3 i :: st) m a := b_get 2 (vr 12 (m.2.1 i 2)) (T := TX3) (N := 4) (C := RX3) rfl (by decide) (by decide) uTB3 (Or.inl hl) (fun ad => rfl) (fun _ h => h.2 i 2) hd kk
theorem pf3_2 {E : ME} {Φ : Option AV → AM → Prop} {pc : Nat} {L : List (Option AV)} {st : List AV} {m : AM} {a : Nat × Nat} {i idx : Nat} {x : Nat} (hl : Cond.fieldLink E.2.1 idx "BelievedWords$Foresight" "nextWays" "[I" ∈ TB) (hd : decode E.1 pc = .ok (.putfield idx, 3)) (kk : B E Φ (pc + 3) L st (rset m i 2 x) a) : B E Φ pc L (vr 12 x :: vr 3 i :: st) m a := b_put 2 (vr 12 x) (rset m i 2 x) tyX3 (.array .int) (T := TX3) (N := 4) (C := RX3) rfl (by decide) (by decide) uTB3 tyX3_ok nmX3 (Or.inl hl) rfl (by decide +kernel) (fun _ => rfl) (fun _ => rfl) (fun _ => Nat.le_of_ble_eq_true rfl) (fun ad => by simp [flds, rset, cvA]) rfl (fun Y ad a h => cel_rset_ne _ _ h) (fun hw h => TY_rset hw h) hd kk
theorem gf3_3 {E : ME} {Φ : Option AV → AM → Prop} {pc : Nat} {L : List (Option AV)} {st : List AV} {m : AM} {a : Nat × Nat} {i idx : Nat} (hl : Cond.fieldLink E.2.1 idx "BelievedWords$Foresight" "nextFirsts" "[I" ∈ TB) (hd : decode E.1 pc = .ok (.getfield idx, 3)) (kk : B E Φ (pc + 3) L (vr 12 (m.2.1 i 3) :: st) m a) : B E Φ pc L (vr 3 i :: st) m a := b_get 3 (vr 12 (m.2.1 i 3)) (T := TX3) (N := 4) (C := RX3) rfl (by decide) (by decide) uTB3 (Or.inl hl) (fun ad => rfl) (fun _ h => h.2 i 3) hd kk
theorem pf3_3 {E : ME} {Φ : Option AV → AM → Prop} {pc : Nat} {L : List (Option AV)} {st : List AV} {m : AM} {a : Nat × Nat} {i idx : Nat} {x : Nat} (hl : Cond.fieldLink E.2.1 idx "BelievedWords$Foresight" "nextFirsts" "[I" ∈ TB) (hd : decode E.1 pc = .ok (.putfield idx, 3)) (kk : B E Φ (pc + 3) L st (rset m i 3 x) a) : B E Φ pc L (vr 12 x :: vr 3 i :: st) m a := b_put 3 (vr 12 x) (rset m i 3 x) tyX3 (.array .int) (T := TX3) (N := 4) (C := RX3) rfl (by decide) (by decide) uTB3 tyX3_ok nmX3 (Or.inl hl) rfl (by decide +kernel) (fun _ => rfl) (fun _ => rfl) (fun _ => Nat.le_of_ble_eq_true rfl) (fun ad => by simp [flds, rset, cvA]) rfl (fun Y ad a h => cel_rset_ne _ _ h) (fun hw h => TY_rset hw h) hd kk
theorem uTB4 : ∀ w ∈ u_ws RX4 TX4 3, w ∈ TB := (List.forall_mem_cons.mpr ⟨k408, (List.forall_mem_cons.mpr ⟨k410, (List.forall_mem_cons.mpr ⟨k412, (fun w h => absurd h List.not_mem_nil)⟩)⟩)⟩)
theorem gf4_0 {E : ME} {Φ : Option AV → AM → Prop} {pc : Nat} {L : List (Option AV)} {st : List AV} {m : AM} {a : Nat × Nat} {i idx : Nat} (j : Nat) (hj : i + 1 = j) (hl : Cond.fieldLink E.2.1 idx "BelievedWords$Image" "law" "LBelievedWords$Law;" ∈ TB) (hd : decode E.1 pc = .ok (.getfield idx, 3)) (kk : B E Φ (pc + 3) L (vr 5 j :: st) m a) : B E Φ pc L (vr 4 i :: st) m a := by
  subst hj
  exact b_get 0 (vr 5 (i + 1)) (T := TX4) (N := 3) (C := RX4) rfl (by decide) (by decide) uTB4 (Or.inl hl) (fun ad => rfl) (fun h h2 => kd_off 4 5 1 (by decide +kernel) (by decide) h h2) hd kk
theorem gf4_1 {E : ME} {Φ : Option AV → AM → Prop} {pc : Nat} {L : List (Option AV)} {st : List AV} {m : AM} {a : Nat × Nat} {i idx : Nat} (j : Nat) (hj : i + 6 = j) (hl : Cond.fieldLink E.2.1 idx "BelievedWords$Image" "standing" "LBelievedWords$Standing;" ∈ TB) (hd : decode E.1 pc = .ok (.getfield idx, 3)) (kk : B E Φ (pc + 3) L (vr 8 j :: st) m a) : B E Φ pc L (vr 4 i :: st) m a := by
  subst hj
  exact b_get 1 (vr 8 (i + 6)) (T := TX4) (N := 3) (C := RX4) rfl (by decide) (by decide) uTB4 (Or.inl hl) (fun ad => rfl) (fun h h2 => kd_off 4 8 6 (by decide +kernel) (by decide) h h2) hd kk
theorem gf4_2 {E : ME} {Φ : Option AV → AM → Prop} {pc : Nat} {L : List (Option AV)} {st : List AV} {m : AM} {a : Nat × Nat} {i idx : Nat} (hl : Cond.fieldLink E.2.1 idx "BelievedWords$Image" "kept" "Z" ∈ TB) (hd : decode E.1 pc = .ok (.getfield idx, 3)) (kk : B E Φ (pc + 3) L (vi (m.1 i 2) :: st) m a) : B E Φ pc L (vr 4 i :: st) m a := b_get 2 (vi (m.1 i 2)) (T := TX4) (N := 3) (C := RX4) rfl (by decide) (by decide) uTB4 (Or.inl hl) (fun ad => rfl) (fun _ _ => trivial) hd kk
theorem pf4_2 {E : ME} {Φ : Option AV → AM → Prop} {pc : Nat} {L : List (Option AV)} {st : List AV} {m : AM} {a : Nat × Nat} {i idx : Nat} {x : Int32} (hl : Cond.fieldLink E.2.1 idx "BelievedWords$Image" "kept" "Z" ∈ TB) (hx : x = 0 ∨ x = 1) (hd : decode E.1 pc = .ok (.putfield idx, 3)) (kk : B E Φ (pc + 3) L st (mset m i 2 x) a) : B E Φ pc L (vi x :: vr 4 i :: st) m a := b_put 2 (vi x) (mset m i 2 x) tyX4 .boolean (T := TX4) (N := 3) (C := RX4) rfl (by decide) (by decide) uTB4 tyX4_ok nmX4 (Or.inl hl) rfl (by decide +kernel) (fun _ => by rcases hx with rfl | rfl <;> rfl) (fun _ => by rcases hx with rfl | rfl <;> rfl) (fun _ => Nat.le_of_ble_eq_true rfl) (fun ad => by simp [flds, mset, cvA]) rfl (fun Y ad a h => cel_mset_ne _ _ h) (fun _ h => h) hd kk
theorem uTB5 : ∀ w ∈ u_ws RX5 TX5 9, w ∈ TB := (List.forall_mem_cons.mpr ⟨k164, (List.forall_mem_cons.mpr ⟨k166, (List.forall_mem_cons.mpr ⟨k168, (List.forall_mem_cons.mpr ⟨k170, (List.forall_mem_cons.mpr ⟨k172, (List.forall_mem_cons.mpr ⟨k174, (List.forall_mem_cons.mpr ⟨k176, (List.forall_mem_cons.mpr ⟨k178, (List.forall_mem_cons.mpr ⟨k180, (fun w h => absurd h List.not_mem_nil)⟩)⟩)⟩)⟩)⟩)⟩)⟩)⟩)⟩)
theorem gf5_0 {E : ME} {Φ : Option AV → AM → Prop} {pc : Nat} {L : List (Option AV)} {st : List AV} {m : AM} {a : Nat × Nat} {i idx : Nat} (j : Nat) (hj : i + 1 = j) (hl : Cond.fieldLink E.2.1 idx "BelievedWords$Law" "sorts" "[I" ∈ TB) (hd : decode E.1 pc = .ok (.getfield idx, 3)) (kk : B E Φ (pc + 3) L (vr 108 j :: st) m a) : B E Φ pc L (vr 5 i :: st) m a := by
  subst hj
  exact b_get 0 (vr 108 (i + 1)) (T := TX5) (N := 9) (C := RX5) rfl (by decide) (by decide) uTB5 (Or.inl hl) (fun ad => rfl) (fun h h2 => kd_off 5 108 1 (by decide +kernel) (by decide) h h2) hd kk
theorem gf5_1 {E : ME} {Φ : Option AV → AM → Prop} {pc : Nat} {L : List (Option AV)} {st : List AV} {m : AM} {a : Nat × Nat} {i idx : Nat} (j : Nat) (hj : i + 2 = j) (hl : Cond.fieldLink E.2.1 idx "BelievedWords$Law" "ones" "[I" ∈ TB) (hd : decode E.1 pc = .ok (.getfield idx, 3)) (kk : B E Φ (pc + 3) L (vr 108 j :: st) m a) : B E Φ pc L (vr 5 i :: st) m a := by
  subst hj
  exact b_get 1 (vr 108 (i + 2)) (T := TX5) (N := 9) (C := RX5) rfl (by decide) (by decide) uTB5 (Or.inl hl) (fun ad => rfl) (fun h h2 => kd_off 5 108 2 (by decide +kernel) (by decide) h h2) hd kk
theorem gf5_2 {E : ME} {Φ : Option AV → AM → Prop} {pc : Nat} {L : List (Option AV)} {st : List AV} {m : AM} {a : Nat × Nat} {i idx : Nat} (j : Nat) (hj : i + 3 = j) (hl : Cond.fieldLink E.2.1 idx "BelievedWords$Law" "others" "[I" ∈ TB) (hd : decode E.1 pc = .ok (.getfield idx, 3)) (kk : B E Φ (pc + 3) L (vr 108 j :: st) m a) : B E Φ pc L (vr 5 i :: st) m a := by
  subst hj
  exact b_get 2 (vr 108 (i + 3)) (T := TX5) (N := 9) (C := RX5) rfl (by decide) (by decide) uTB5 (Or.inl hl) (fun ad => rfl) (fun h h2 => kd_off 5 108 3 (by decide +kernel) (by decide) h h2) hd kk
theorem gf5_3 {E : ME} {Φ : Option AV → AM → Prop} {pc : Nat} {L : List (Option AV)} {st : List AV} {m : AM} {a : Nat × Nat} {i idx : Nat} (j : Nat) (hj : i + 4 = j) (hl : Cond.fieldLink E.2.1 idx "BelievedWords$Law" "kinds" "[I" ∈ TB) (hd : decode E.1 pc = .ok (.getfield idx, 3)) (kk : B E Φ (pc + 3) L (vr 105 j :: st) m a) : B E Φ pc L (vr 5 i :: st) m a := by
  subst hj
  exact b_get 3 (vr 105 (i + 4)) (T := TX5) (N := 9) (C := RX5) rfl (by decide) (by decide) uTB5 (Or.inl hl) (fun ad => rfl) (fun h h2 => kd_off 5 105 4 (by decide +kernel) (by decide) h h2) hd kk
theorem gf5_4 {E : ME} {Φ : Option AV → AM → Prop} {pc : Nat} {L : List (Option AV)} {st : List AV} {m : AM} {a : Nat × Nat} {i idx : Nat} (hl : Cond.fieldLink E.2.1 idx "BelievedWords$Law" "facts" "I" ∈ TB) (hd : decode E.1 pc = .ok (.getfield idx, 3)) (kk : B E Φ (pc + 3) L (vi (m.1 i 4) :: st) m a) : B E Φ pc L (vr 5 i :: st) m a := b_get 4 (vi (m.1 i 4)) (T := TX5) (N := 9) (C := RX5) rfl (by decide) (by decide) uTB5 (Or.inl hl) (fun ad => rfl) (fun _ _ => trivial) hd kk
theorem pf5_4 {E : ME} {Φ : Option AV → AM → Prop} {pc : Nat} {L : List (Option AV)} {st : List AV} {m : AM} {a : Nat × Nat} {i idx : Nat} {x : Int32} (hl : Cond.fieldLink E.2.1 idx "BelievedWords$Law" "facts" "I" ∈ TB) (hd : decode E.1 pc = .ok (.putfield idx, 3)) (kk : B E Φ (pc + 3) L st (mset m i 4 x) a) : B E Φ pc L (vi x :: vr 5 i :: st) m a := b_put 4 (vi x) (mset m i 4 x) tyX5 .int (T := TX5) (N := 9) (C := RX5) rfl (by decide) (by decide) uTB5 tyX5_ok nmX5 (Or.inl hl) rfl (by decide +kernel) (fun _ => rfl) (fun _ => rfl) (fun _ => Nat.le_of_ble_eq_true rfl) (fun ad => by simp [flds, mset, cvA]) rfl (fun Y ad a h => cel_mset_ne _ _ h) (fun _ h => h) hd kk
theorem gf5_5 {E : ME} {Φ : Option AV → AM → Prop} {pc : Nat} {L : List (Option AV)} {st : List AV} {m : AM} {a : Nat × Nat} {i idx : Nat} (hl : Cond.fieldLink E.2.1 idx "BelievedWords$Law" "atFirst" "I" ∈ TB) (hd : decode E.1 pc = .ok (.getfield idx, 3)) (kk : B E Φ (pc + 3) L (vi (m.1 i 5) :: st) m a) : B E Φ pc L (vr 5 i :: st) m a := b_get 5 (vi (m.1 i 5)) (T := TX5) (N := 9) (C := RX5) rfl (by decide) (by decide) uTB5 (Or.inl hl) (fun ad => rfl) (fun _ _ => trivial) hd kk
theorem pf5_5 {E : ME} {Φ : Option AV → AM → Prop} {pc : Nat} {L : List (Option AV)} {st : List AV} {m : AM} {a : Nat × Nat} {i idx : Nat} {x : Int32} (hl : Cond.fieldLink E.2.1 idx "BelievedWords$Law" "atFirst" "I" ∈ TB) (hd : decode E.1 pc = .ok (.putfield idx, 3)) (kk : B E Φ (pc + 3) L st (mset m i 5 x) a) : B E Φ pc L (vi x :: vr 5 i :: st) m a := b_put 5 (vi x) (mset m i 5 x) tyX5 .int (T := TX5) (N := 9) (C := RX5) rfl (by decide) (by decide) uTB5 tyX5_ok nmX5 (Or.inl hl) rfl (by decide +kernel) (fun _ => rfl) (fun _ => rfl) (fun _ => Nat.le_of_ble_eq_true rfl) (fun ad => by simp [flds, mset, cvA]) rfl (fun Y ad a h => cel_mset_ne _ _ h) (fun _ h => h) hd kk
theorem gf5_6 {E : ME} {Φ : Option AV → AM → Prop} {pc : Nat} {L : List (Option AV)} {st : List AV} {m : AM} {a : Nat × Nat} {i idx : Nat} (hl : Cond.fieldLink E.2.1 idx "BelievedWords$Law" "price" "I" ∈ TB) (hd : decode E.1 pc = .ok (.getfield idx, 3)) (kk : B E Φ (pc + 3) L (vi (m.1 i 6) :: st) m a) : B E Φ pc L (vr 5 i :: st) m a := b_get 6 (vi (m.1 i 6)) (T := TX5) (N := 9) (C := RX5) rfl (by decide) (by decide) uTB5 (Or.inl hl) (fun ad => rfl) (fun _ _ => trivial) hd kk
theorem pf5_6 {E : ME} {Φ : Option AV → AM → Prop} {pc : Nat} {L : List (Option AV)} {st : List AV} {m : AM} {a : Nat × Nat} {i idx : Nat} {x : Int32} (hl : Cond.fieldLink E.2.1 idx "BelievedWords$Law" "price" "I" ∈ TB) (hd : decode E.1 pc = .ok (.putfield idx, 3)) (kk : B E Φ (pc + 3) L st (mset m i 6 x) a) : B E Φ pc L (vi x :: vr 5 i :: st) m a := b_put 6 (vi x) (mset m i 6 x) tyX5 .int (T := TX5) (N := 9) (C := RX5) rfl (by decide) (by decide) uTB5 tyX5_ok nmX5 (Or.inl hl) rfl (by decide +kernel) (fun _ => rfl) (fun _ => rfl) (fun _ => Nat.le_of_ble_eq_true rfl) (fun ad => by simp [flds, mset, cvA]) rfl (fun Y ad a h => cel_mset_ne _ _ h) (fun _ h => h) hd kk
theorem gf5_7 {E : ME} {Φ : Option AV → AM → Prop} {pc : Nat} {L : List (Option AV)} {st : List AV} {m : AM} {a : Nat × Nat} {i idx : Nat} (hl : Cond.fieldLink E.2.1 idx "BelievedWords$Law" "rules" "I" ∈ TB) (hd : decode E.1 pc = .ok (.getfield idx, 3)) (kk : B E Φ (pc + 3) L (vi (m.1 i 7) :: st) m a) : B E Φ pc L (vr 5 i :: st) m a := b_get 7 (vi (m.1 i 7)) (T := TX5) (N := 9) (C := RX5) rfl (by decide) (by decide) uTB5 (Or.inl hl) (fun ad => rfl) (fun _ _ => trivial) hd kk
theorem pf5_7 {E : ME} {Φ : Option AV → AM → Prop} {pc : Nat} {L : List (Option AV)} {st : List AV} {m : AM} {a : Nat × Nat} {i idx : Nat} {x : Int32} (hl : Cond.fieldLink E.2.1 idx "BelievedWords$Law" "rules" "I" ∈ TB) (hd : decode E.1 pc = .ok (.putfield idx, 3)) (kk : B E Φ (pc + 3) L st (mset m i 7 x) a) : B E Φ pc L (vi x :: vr 5 i :: st) m a := b_put 7 (vi x) (mset m i 7 x) tyX5 .int (T := TX5) (N := 9) (C := RX5) rfl (by decide) (by decide) uTB5 tyX5_ok nmX5 (Or.inl hl) rfl (by decide +kernel) (fun _ => rfl) (fun _ => rfl) (fun _ => Nat.le_of_ble_eq_true rfl) (fun ad => by simp [flds, mset, cvA]) rfl (fun Y ad a h => cel_mset_ne _ _ h) (fun _ h => h) hd kk
theorem gf5_8 {E : ME} {Φ : Option AV → AM → Prop} {pc : Nat} {L : List (Option AV)} {st : List AV} {m : AM} {a : Nat × Nat} {i idx : Nat} (hl : Cond.fieldLink E.2.1 idx "BelievedWords$Law" "people" "I" ∈ TB) (hd : decode E.1 pc = .ok (.getfield idx, 3)) (kk : B E Φ (pc + 3) L (vi (m.1 i 8) :: st) m a) : B E Φ pc L (vr 5 i :: st) m a := b_get 8 (vi (m.1 i 8)) (T := TX5) (N := 9) (C := RX5) rfl (by decide) (by decide) uTB5 (Or.inl hl) (fun ad => rfl) (fun _ _ => trivial) hd kk
theorem pf5_8 {E : ME} {Φ : Option AV → AM → Prop} {pc : Nat} {L : List (Option AV)} {st : List AV} {m : AM} {a : Nat × Nat} {i idx : Nat} {x : Int32} (hl : Cond.fieldLink E.2.1 idx "BelievedWords$Law" "people" "I" ∈ TB) (hd : decode E.1 pc = .ok (.putfield idx, 3)) (kk : B E Φ (pc + 3) L st (mset m i 8 x) a) : B E Φ pc L (vi x :: vr 5 i :: st) m a := b_put 8 (vi x) (mset m i 8 x) tyX5 .int (T := TX5) (N := 9) (C := RX5) rfl (by decide) (by decide) uTB5 tyX5_ok nmX5 (Or.inl hl) rfl (by decide +kernel) (fun _ => rfl) (fun _ => rfl) (fun _ => Nat.le_of_ble_eq_true rfl) (fun ad => by simp [flds, mset, cvA]) rfl (fun Y ad a h => cel_mset_ne _ _ h) (fun _ h => h) hd kk
theorem uTB6 : ∀ w ∈ u_ws RX6 TX6 3, w ∈ TB := (List.forall_mem_cons.mpr ⟨k107, (List.forall_mem_cons.mpr ⟨k109, (List.forall_mem_cons.mpr ⟨k111, (fun w h => absurd h List.not_mem_nil)⟩)⟩)⟩)
theorem gf6_0 {E : ME} {Φ : Option AV → AM → Prop} {pc : Nat} {L : List (Option AV)} {st : List AV} {m : AM} {a : Nat × Nat} {i idx : Nat} (j : Nat) (hj : i + 1 = j) (hl : Cond.fieldLink E.2.1 idx "BelievedWords$Rows" "items" "[[I" ∈ TB) (hd : decode E.1 pc = .ok (.getfield idx, 3)) (kk : B E Φ (pc + 3) L (vr 15 j :: st) m a) : B E Φ pc L (vr 6 i :: st) m a := by
  subst hj
  exact b_get 0 (vr 15 (i + 1)) (T := TX6) (N := 3) (C := RX6) rfl (by decide) (by decide) uTB6 (Or.inl hl) (fun ad => rfl) (fun h h2 => kd_off 6 15 1 (by decide +kernel) (by decide) h h2) hd kk
theorem gf6_1 {E : ME} {Φ : Option AV → AM → Prop} {pc : Nat} {L : List (Option AV)} {st : List AV} {m : AM} {a : Nat × Nat} {i idx : Nat} (j : Nat) (hj : i + 10 = j) (hl : Cond.fieldLink E.2.1 idx "BelievedWords$Rows" "lanes" "[I" ∈ TB) (hd : decode E.1 pc = .ok (.getfield idx, 3)) (kk : B E Φ (pc + 3) L (vr 108 j :: st) m a) : B E Φ pc L (vr 6 i :: st) m a := by
  subst hj
  exact b_get 1 (vr 108 (i + 10)) (T := TX6) (N := 3) (C := RX6) rfl (by decide) (by decide) uTB6 (Or.inl hl) (fun ad => rfl) (fun h h2 => kd_off 6 108 10 (by decide +kernel) (by decide) h h2) hd kk
theorem gf6_2 {E : ME} {Φ : Option AV → AM → Prop} {pc : Nat} {L : List (Option AV)} {st : List AV} {m : AM} {a : Nat × Nat} {i idx : Nat} (j : Nat) (hj : i + 11 = j) (hl : Cond.fieldLink E.2.1 idx "BelievedWords$Rows" "lengths" "[I" ∈ TB) (hd : decode E.1 pc = .ok (.getfield idx, 3)) (kk : B E Φ (pc + 3) L (vr 108 j :: st) m a) : B E Φ pc L (vr 6 i :: st) m a := by
  subst hj
  exact b_get 2 (vr 108 (i + 11)) (T := TX6) (N := 3) (C := RX6) rfl (by decide) (by decide) uTB6 (Or.inl hl) (fun ad => rfl) (fun h h2 => kd_off 6 108 11 (by decide +kernel) (by decide) h h2) hd kk
theorem uTB7 : ∀ w ∈ u_ws RX7 TX7 14, w ∈ TB := (List.forall_mem_cons.mpr ⟨k332, (List.forall_mem_cons.mpr ⟨k334, (List.forall_mem_cons.mpr ⟨k336, (List.forall_mem_cons.mpr ⟨k338, (List.forall_mem_cons.mpr ⟨k340, (List.forall_mem_cons.mpr ⟨k342, (List.forall_mem_cons.mpr ⟨k344, (List.forall_mem_cons.mpr ⟨k346, (List.forall_mem_cons.mpr ⟨k348, (List.forall_mem_cons.mpr ⟨k350, (List.forall_mem_cons.mpr ⟨k352, (List.forall_mem_cons.mpr ⟨k354, (List.forall_mem_cons.mpr ⟨k356, (List.forall_mem_cons.mpr ⟨k358, (fun w h => absurd h List.not_mem_nil)⟩)⟩)⟩)⟩)⟩)⟩)⟩)⟩)⟩)⟩)⟩)⟩)⟩)⟩)
theorem gf7_0 {E : ME} {Φ : Option AV → AM → Prop} {pc : Nat} {L : List (Option AV)} {st : List AV} {m : AM} {a : Nat × Nat} {i idx : Nat} (j : Nat) (hj : i + 1 = j) (hl : Cond.fieldLink E.2.1 idx "BelievedWords$Search" "movers" "[I" ∈ TB) (hd : decode E.1 pc = .ok (.getfield idx, 3)) (kk : B E Φ (pc + 3) L (vr 105 j :: st) m a) : B E Φ pc L (vr 7 i :: st) m a := by
  subst hj
  exact b_get 0 (vr 105 (i + 1)) (T := TX7) (N := 14) (C := RX7) rfl (by decide) (by decide) uTB7 (Or.inl hl) (fun ad => rfl) (fun h h2 => kd_off 7 105 1 (by decide +kernel) (by decide) h h2) hd kk
theorem gf7_1 {E : ME} {Φ : Option AV → AM → Prop} {pc : Nat} {L : List (Option AV)} {st : List AV} {m : AM} {a : Nat × Nat} {i idx : Nat} (hl : Cond.fieldLink E.2.1 idx "BelievedWords$Search" "walks" "[I" ∈ TB) (hd : decode E.1 pc = .ok (.getfield idx, 3)) (kk : B E Φ (pc + 3) L (vr 12 (m.2.1 i 1) :: st) m a) : B E Φ pc L (vr 7 i :: st) m a := b_get 1 (vr 12 (m.2.1 i 1)) (T := TX7) (N := 14) (C := RX7) rfl (by decide) (by decide) uTB7 (Or.inl hl) (fun ad => rfl) (fun _ h => h.2 i 1) hd kk
theorem pf7_1 {E : ME} {Φ : Option AV → AM → Prop} {pc : Nat} {L : List (Option AV)} {st : List AV} {m : AM} {a : Nat × Nat} {i idx : Nat} {x : Nat} (hl : Cond.fieldLink E.2.1 idx "BelievedWords$Search" "walks" "[I" ∈ TB) (hd : decode E.1 pc = .ok (.putfield idx, 3)) (kk : B E Φ (pc + 3) L st (rset m i 1 x) a) : B E Φ pc L (vr 12 x :: vr 7 i :: st) m a := b_put 1 (vr 12 x) (rset m i 1 x) tyX7 (.array .int) (T := TX7) (N := 14) (C := RX7) rfl (by decide) (by decide) uTB7 tyX7_ok nmX7 (Or.inl hl) rfl (by decide +kernel) (fun _ => rfl) (fun _ => rfl) (fun _ => Nat.le_of_ble_eq_true rfl) (fun ad => by simp [flds, rset, cvA]) rfl (fun Y ad a h => cel_rset_ne _ _ h) (fun hw h => TY_rset hw h) hd kk
theorem gf7_2 {E : ME} {Φ : Option AV → AM → Prop} {pc : Nat} {L : List (Option AV)} {st : List AV} {m : AM} {a : Nat × Nat} {i idx : Nat} (hl : Cond.fieldLink E.2.1 idx "BelievedWords$Search" "costs" "[I" ∈ TB) (hd : decode E.1 pc = .ok (.getfield idx, 3)) (kk : B E Φ (pc + 3) L (vr 12 (m.2.1 i 2) :: st) m a) : B E Φ pc L (vr 7 i :: st) m a := b_get 2 (vr 12 (m.2.1 i 2)) (T := TX7) (N := 14) (C := RX7) rfl (by decide) (by decide) uTB7 (Or.inl hl) (fun ad => rfl) (fun _ h => h.2 i 2) hd kk
theorem pf7_2 {E : ME} {Φ : Option AV → AM → Prop} {pc : Nat} {L : List (Option AV)} {st : List AV} {m : AM} {a : Nat × Nat} {i idx : Nat} {x : Nat} (hl : Cond.fieldLink E.2.1 idx "BelievedWords$Search" "costs" "[I" ∈ TB) (hd : decode E.1 pc = .ok (.putfield idx, 3)) (kk : B E Φ (pc + 3) L st (rset m i 2 x) a) : B E Φ pc L (vr 12 x :: vr 7 i :: st) m a := b_put 2 (vr 12 x) (rset m i 2 x) tyX7 (.array .int) (T := TX7) (N := 14) (C := RX7) rfl (by decide) (by decide) uTB7 tyX7_ok nmX7 (Or.inl hl) rfl (by decide +kernel) (fun _ => rfl) (fun _ => rfl) (fun _ => Nat.le_of_ble_eq_true rfl) (fun ad => by simp [flds, rset, cvA]) rfl (fun Y ad a h => cel_rset_ne _ _ h) (fun hw h => TY_rset hw h) hd kk
theorem gf7_3 {E : ME} {Φ : Option AV → AM → Prop} {pc : Nat} {L : List (Option AV)} {st : List AV} {m : AM} {a : Nat × Nat} {i idx : Nat} (hl : Cond.fieldLink E.2.1 idx "BelievedWords$Search" "firsts" "[I" ∈ TB) (hd : decode E.1 pc = .ok (.getfield idx, 3)) (kk : B E Φ (pc + 3) L (vr 12 (m.2.1 i 3) :: st) m a) : B E Φ pc L (vr 7 i :: st) m a := b_get 3 (vr 12 (m.2.1 i 3)) (T := TX7) (N := 14) (C := RX7) rfl (by decide) (by decide) uTB7 (Or.inl hl) (fun ad => rfl) (fun _ h => h.2 i 3) hd kk
theorem pf7_3 {E : ME} {Φ : Option AV → AM → Prop} {pc : Nat} {L : List (Option AV)} {st : List AV} {m : AM} {a : Nat × Nat} {i idx : Nat} {x : Nat} (hl : Cond.fieldLink E.2.1 idx "BelievedWords$Search" "firsts" "[I" ∈ TB) (hd : decode E.1 pc = .ok (.putfield idx, 3)) (kk : B E Φ (pc + 3) L st (rset m i 3 x) a) : B E Φ pc L (vr 12 x :: vr 7 i :: st) m a := b_put 3 (vr 12 x) (rset m i 3 x) tyX7 (.array .int) (T := TX7) (N := 14) (C := RX7) rfl (by decide) (by decide) uTB7 tyX7_ok nmX7 (Or.inl hl) rfl (by decide +kernel) (fun _ => rfl) (fun _ => rfl) (fun _ => Nat.le_of_ble_eq_true rfl) (fun ad => by simp [flds, rset, cvA]) rfl (fun Y ad a h => cel_rset_ne _ _ h) (fun hw h => TY_rset hw h) hd kk
theorem gf7_4 {E : ME} {Φ : Option AV → AM → Prop} {pc : Nat} {L : List (Option AV)} {st : List AV} {m : AM} {a : Nat × Nat} {i idx : Nat} (hl : Cond.fieldLink E.2.1 idx "BelievedWords$Search" "moving" "I" ∈ TB) (hd : decode E.1 pc = .ok (.getfield idx, 3)) (kk : B E Φ (pc + 3) L (vi (m.1 i 4) :: st) m a) : B E Φ pc L (vr 7 i :: st) m a := b_get 4 (vi (m.1 i 4)) (T := TX7) (N := 14) (C := RX7) rfl (by decide) (by decide) uTB7 (Or.inl hl) (fun ad => rfl) (fun _ _ => trivial) hd kk
theorem pf7_4 {E : ME} {Φ : Option AV → AM → Prop} {pc : Nat} {L : List (Option AV)} {st : List AV} {m : AM} {a : Nat × Nat} {i idx : Nat} {x : Int32} (hl : Cond.fieldLink E.2.1 idx "BelievedWords$Search" "moving" "I" ∈ TB) (hd : decode E.1 pc = .ok (.putfield idx, 3)) (kk : B E Φ (pc + 3) L st (mset m i 4 x) a) : B E Φ pc L (vi x :: vr 7 i :: st) m a := b_put 4 (vi x) (mset m i 4 x) tyX7 .int (T := TX7) (N := 14) (C := RX7) rfl (by decide) (by decide) uTB7 tyX7_ok nmX7 (Or.inl hl) rfl (by decide +kernel) (fun _ => rfl) (fun _ => rfl) (fun _ => Nat.le_of_ble_eq_true rfl) (fun ad => by simp [flds, mset, cvA]) rfl (fun Y ad a h => cel_mset_ne _ _ h) (fun _ h => h) hd kk
theorem gf7_5 {E : ME} {Φ : Option AV → AM → Prop} {pc : Nat} {L : List (Option AV)} {st : List AV} {m : AM} {a : Nat × Nat} {i idx : Nat} (hl : Cond.fieldLink E.2.1 idx "BelievedWords$Search" "facts" "I" ∈ TB) (hd : decode E.1 pc = .ok (.getfield idx, 3)) (kk : B E Φ (pc + 3) L (vi (m.1 i 5) :: st) m a) : B E Φ pc L (vr 7 i :: st) m a := b_get 5 (vi (m.1 i 5)) (T := TX7) (N := 14) (C := RX7) rfl (by decide) (by decide) uTB7 (Or.inl hl) (fun ad => rfl) (fun _ _ => trivial) hd kk
theorem pf7_5 {E : ME} {Φ : Option AV → AM → Prop} {pc : Nat} {L : List (Option AV)} {st : List AV} {m : AM} {a : Nat × Nat} {i idx : Nat} {x : Int32} (hl : Cond.fieldLink E.2.1 idx "BelievedWords$Search" "facts" "I" ∈ TB) (hd : decode E.1 pc = .ok (.putfield idx, 3)) (kk : B E Φ (pc + 3) L st (mset m i 5 x) a) : B E Φ pc L (vi x :: vr 7 i :: st) m a := b_put 5 (vi x) (mset m i 5 x) tyX7 .int (T := TX7) (N := 14) (C := RX7) rfl (by decide) (by decide) uTB7 tyX7_ok nmX7 (Or.inl hl) rfl (by decide +kernel) (fun _ => rfl) (fun _ => rfl) (fun _ => Nat.le_of_ble_eq_true rfl) (fun ad => by simp [flds, mset, cvA]) rfl (fun Y ad a h => cel_mset_ne _ _ h) (fun _ h => h) hd kk
theorem gf7_6 {E : ME} {Φ : Option AV → AM → Prop} {pc : Nat} {L : List (Option AV)} {st : List AV} {m : AM} {a : Nat × Nat} {i idx : Nat} (hl : Cond.fieldLink E.2.1 idx "BelievedWords$Search" "nodes" "I" ∈ TB) (hd : decode E.1 pc = .ok (.getfield idx, 3)) (kk : B E Φ (pc + 3) L (vi (m.1 i 6) :: st) m a) : B E Φ pc L (vr 7 i :: st) m a := b_get 6 (vi (m.1 i 6)) (T := TX7) (N := 14) (C := RX7) rfl (by decide) (by decide) uTB7 (Or.inl hl) (fun ad => rfl) (fun _ _ => trivial) hd kk
theorem pf7_6 {E : ME} {Φ : Option AV → AM → Prop} {pc : Nat} {L : List (Option AV)} {st : List AV} {m : AM} {a : Nat × Nat} {i idx : Nat} {x : Int32} (hl : Cond.fieldLink E.2.1 idx "BelievedWords$Search" "nodes" "I" ∈ TB) (hd : decode E.1 pc = .ok (.putfield idx, 3)) (kk : B E Φ (pc + 3) L st (mset m i 6 x) a) : B E Φ pc L (vi x :: vr 7 i :: st) m a := b_put 6 (vi x) (mset m i 6 x) tyX7 .int (T := TX7) (N := 14) (C := RX7) rfl (by decide) (by decide) uTB7 tyX7_ok nmX7 (Or.inl hl) rfl (by decide +kernel) (fun _ => rfl) (fun _ => rfl) (fun _ => Nat.le_of_ble_eq_true rfl) (fun ad => by simp [flds, mset, cvA]) rfl (fun Y ad a h => cel_mset_ne _ _ h) (fun _ h => h) hd kk
theorem gf7_7 {E : ME} {Φ : Option AV → AM → Prop} {pc : Nat} {L : List (Option AV)} {st : List AV} {m : AM} {a : Nat × Nat} {i idx : Nat} (hl : Cond.fieldLink E.2.1 idx "BelievedWords$Search" "minding" "Z" ∈ TB) (hd : decode E.1 pc = .ok (.getfield idx, 3)) (kk : B E Φ (pc + 3) L (vi (m.1 i 7) :: st) m a) : B E Φ pc L (vr 7 i :: st) m a := b_get 7 (vi (m.1 i 7)) (T := TX7) (N := 14) (C := RX7) rfl (by decide) (by decide) uTB7 (Or.inl hl) (fun ad => rfl) (fun _ _ => trivial) hd kk
theorem pf7_7 {E : ME} {Φ : Option AV → AM → Prop} {pc : Nat} {L : List (Option AV)} {st : List AV} {m : AM} {a : Nat × Nat} {i idx : Nat} {x : Int32} (hl : Cond.fieldLink E.2.1 idx "BelievedWords$Search" "minding" "Z" ∈ TB) (hx : x = 0 ∨ x = 1) (hd : decode E.1 pc = .ok (.putfield idx, 3)) (kk : B E Φ (pc + 3) L st (mset m i 7 x) a) : B E Φ pc L (vi x :: vr 7 i :: st) m a := b_put 7 (vi x) (mset m i 7 x) tyX7 .boolean (T := TX7) (N := 14) (C := RX7) rfl (by decide) (by decide) uTB7 tyX7_ok nmX7 (Or.inl hl) rfl (by decide +kernel) (fun _ => by rcases hx with rfl | rfl <;> rfl) (fun _ => by rcases hx with rfl | rfl <;> rfl) (fun _ => Nat.le_of_ble_eq_true rfl) (fun ad => by simp [flds, mset, cvA]) rfl (fun Y ad a h => cel_mset_ne _ _ h) (fun _ h => h) hd kk
theorem gf7_8 {E : ME} {Φ : Option AV → AM → Prop} {pc : Nat} {L : List (Option AV)} {st : List AV} {m : AM} {a : Nat × Nat} {i idx : Nat} (hl : Cond.fieldLink E.2.1 idx "BelievedWords$Search" "byCost" "Z" ∈ TB) (hd : decode E.1 pc = .ok (.getfield idx, 3)) (kk : B E Φ (pc + 3) L (vi (m.1 i 8) :: st) m a) : B E Φ pc L (vr 7 i :: st) m a := b_get 8 (vi (m.1 i 8)) (T := TX7) (N := 14) (C := RX7) rfl (by decide) (by decide) uTB7 (Or.inl hl) (fun ad => rfl) (fun _ _ => trivial) hd kk
theorem pf7_8 {E : ME} {Φ : Option AV → AM → Prop} {pc : Nat} {L : List (Option AV)} {st : List AV} {m : AM} {a : Nat × Nat} {i idx : Nat} {x : Int32} (hl : Cond.fieldLink E.2.1 idx "BelievedWords$Search" "byCost" "Z" ∈ TB) (hx : x = 0 ∨ x = 1) (hd : decode E.1 pc = .ok (.putfield idx, 3)) (kk : B E Φ (pc + 3) L st (mset m i 8 x) a) : B E Φ pc L (vi x :: vr 7 i :: st) m a := b_put 8 (vi x) (mset m i 8 x) tyX7 .boolean (T := TX7) (N := 14) (C := RX7) rfl (by decide) (by decide) uTB7 tyX7_ok nmX7 (Or.inl hl) rfl (by decide +kernel) (fun _ => by rcases hx with rfl | rfl <;> rfl) (fun _ => by rcases hx with rfl | rfl <;> rfl) (fun _ => Nat.le_of_ble_eq_true rfl) (fun ad => by simp [flds, mset, cvA]) rfl (fun Y ad a h => cel_mset_ne _ _ h) (fun _ h => h) hd kk
theorem gf7_9 {E : ME} {Φ : Option AV → AM → Prop} {pc : Nat} {L : List (Option AV)} {st : List AV} {m : AM} {a : Nat × Nat} {i idx : Nat} (hl : Cond.fieldLink E.2.1 idx "BelievedWords$Search" "walk" "I" ∈ TB) (hd : decode E.1 pc = .ok (.getfield idx, 3)) (kk : B E Φ (pc + 3) L (vi (m.1 i 9) :: st) m a) : B E Φ pc L (vr 7 i :: st) m a := b_get 9 (vi (m.1 i 9)) (T := TX7) (N := 14) (C := RX7) rfl (by decide) (by decide) uTB7 (Or.inl hl) (fun ad => rfl) (fun _ _ => trivial) hd kk
theorem pf7_9 {E : ME} {Φ : Option AV → AM → Prop} {pc : Nat} {L : List (Option AV)} {st : List AV} {m : AM} {a : Nat × Nat} {i idx : Nat} {x : Int32} (hl : Cond.fieldLink E.2.1 idx "BelievedWords$Search" "walk" "I" ∈ TB) (hd : decode E.1 pc = .ok (.putfield idx, 3)) (kk : B E Φ (pc + 3) L st (mset m i 9 x) a) : B E Φ pc L (vi x :: vr 7 i :: st) m a := b_put 9 (vi x) (mset m i 9 x) tyX7 .int (T := TX7) (N := 14) (C := RX7) rfl (by decide) (by decide) uTB7 tyX7_ok nmX7 (Or.inl hl) rfl (by decide +kernel) (fun _ => rfl) (fun _ => rfl) (fun _ => Nat.le_of_ble_eq_true rfl) (fun ad => by simp [flds, mset, cvA]) rfl (fun Y ad a h => cel_mset_ne _ _ h) (fun _ h => h) hd kk
theorem gf7_10 {E : ME} {Φ : Option AV → AM → Prop} {pc : Nat} {L : List (Option AV)} {st : List AV} {m : AM} {a : Nat × Nat} {i idx : Nat} (hl : Cond.fieldLink E.2.1 idx "BelievedWords$Search" "farthest" "I" ∈ TB) (hd : decode E.1 pc = .ok (.getfield idx, 3)) (kk : B E Φ (pc + 3) L (vi (m.1 i 10) :: st) m a) : B E Φ pc L (vr 7 i :: st) m a := b_get 10 (vi (m.1 i 10)) (T := TX7) (N := 14) (C := RX7) rfl (by decide) (by decide) uTB7 (Or.inl hl) (fun ad => rfl) (fun _ _ => trivial) hd kk
theorem pf7_10 {E : ME} {Φ : Option AV → AM → Prop} {pc : Nat} {L : List (Option AV)} {st : List AV} {m : AM} {a : Nat × Nat} {i idx : Nat} {x : Int32} (hl : Cond.fieldLink E.2.1 idx "BelievedWords$Search" "farthest" "I" ∈ TB) (hd : decode E.1 pc = .ok (.putfield idx, 3)) (kk : B E Φ (pc + 3) L st (mset m i 10 x) a) : B E Φ pc L (vi x :: vr 7 i :: st) m a := b_put 10 (vi x) (mset m i 10 x) tyX7 .int (T := TX7) (N := 14) (C := RX7) rfl (by decide) (by decide) uTB7 tyX7_ok nmX7 (Or.inl hl) rfl (by decide +kernel) (fun _ => rfl) (fun _ => rfl) (fun _ => Nat.le_of_ble_eq_true rfl) (fun ad => by simp [flds, mset, cvA]) rfl (fun Y ad a h => cel_mset_ne _ _ h) (fun _ h => h) hd kk
theorem gf7_11 {E : ME} {Φ : Option AV → AM → Prop} {pc : Nat} {L : List (Option AV)} {st : List AV} {m : AM} {a : Nat × Nat} {i idx : Nat} (hl : Cond.fieldLink E.2.1 idx "BelievedWords$Search" "wantedSo" "I" ∈ TB) (hd : decode E.1 pc = .ok (.getfield idx, 3)) (kk : B E Φ (pc + 3) L (vi (m.1 i 11) :: st) m a) : B E Φ pc L (vr 7 i :: st) m a := b_get 11 (vi (m.1 i 11)) (T := TX7) (N := 14) (C := RX7) rfl (by decide) (by decide) uTB7 (Or.inl hl) (fun ad => rfl) (fun _ _ => trivial) hd kk
theorem pf7_11 {E : ME} {Φ : Option AV → AM → Prop} {pc : Nat} {L : List (Option AV)} {st : List AV} {m : AM} {a : Nat × Nat} {i idx : Nat} {x : Int32} (hl : Cond.fieldLink E.2.1 idx "BelievedWords$Search" "wantedSo" "I" ∈ TB) (hd : decode E.1 pc = .ok (.putfield idx, 3)) (kk : B E Φ (pc + 3) L st (mset m i 11 x) a) : B E Φ pc L (vi x :: vr 7 i :: st) m a := b_put 11 (vi x) (mset m i 11 x) tyX7 .int (T := TX7) (N := 14) (C := RX7) rfl (by decide) (by decide) uTB7 tyX7_ok nmX7 (Or.inl hl) rfl (by decide +kernel) (fun _ => rfl) (fun _ => rfl) (fun _ => Nat.le_of_ble_eq_true rfl) (fun ad => by simp [flds, mset, cvA]) rfl (fun Y ad a h => cel_mset_ne _ _ h) (fun _ h => h) hd kk
theorem gf7_12 {E : ME} {Φ : Option AV → AM → Prop} {pc : Nat} {L : List (Option AV)} {st : List AV} {m : AM} {a : Nat × Nat} {i idx : Nat} (hl : Cond.fieldLink E.2.1 idx "BelievedWords$Search" "wantedNot" "I" ∈ TB) (hd : decode E.1 pc = .ok (.getfield idx, 3)) (kk : B E Φ (pc + 3) L (vi (m.1 i 12) :: st) m a) : B E Φ pc L (vr 7 i :: st) m a := b_get 12 (vi (m.1 i 12)) (T := TX7) (N := 14) (C := RX7) rfl (by decide) (by decide) uTB7 (Or.inl hl) (fun ad => rfl) (fun _ _ => trivial) hd kk
theorem pf7_12 {E : ME} {Φ : Option AV → AM → Prop} {pc : Nat} {L : List (Option AV)} {st : List AV} {m : AM} {a : Nat × Nat} {i idx : Nat} {x : Int32} (hl : Cond.fieldLink E.2.1 idx "BelievedWords$Search" "wantedNot" "I" ∈ TB) (hd : decode E.1 pc = .ok (.putfield idx, 3)) (kk : B E Φ (pc + 3) L st (mset m i 12 x) a) : B E Φ pc L (vi x :: vr 7 i :: st) m a := b_put 12 (vi x) (mset m i 12 x) tyX7 .int (T := TX7) (N := 14) (C := RX7) rfl (by decide) (by decide) uTB7 tyX7_ok nmX7 (Or.inl hl) rfl (by decide +kernel) (fun _ => rfl) (fun _ => rfl) (fun _ => Nat.le_of_ble_eq_true rfl) (fun ad => by simp [flds, mset, cvA]) rfl (fun Y ad a h => cel_mset_ne _ _ h) (fun _ h => h) hd kk
theorem gf7_13 {E : ME} {Φ : Option AV → AM → Prop} {pc : Nat} {L : List (Option AV)} {st : List AV} {m : AM} {a : Nat × Nat} {i idx : Nat} (hl : Cond.fieldLink E.2.1 idx "BelievedWords$Search" "first" "I" ∈ TB) (hd : decode E.1 pc = .ok (.getfield idx, 3)) (kk : B E Φ (pc + 3) L (vi (m.1 i 13) :: st) m a) : B E Φ pc L (vr 7 i :: st) m a := b_get 13 (vi (m.1 i 13)) (T := TX7) (N := 14) (C := RX7) rfl (by decide) (by decide) uTB7 (Or.inl hl) (fun ad => rfl) (fun _ _ => trivial) hd kk
theorem pf7_13 {E : ME} {Φ : Option AV → AM → Prop} {pc : Nat} {L : List (Option AV)} {st : List AV} {m : AM} {a : Nat × Nat} {i idx : Nat} {x : Int32} (hl : Cond.fieldLink E.2.1 idx "BelievedWords$Search" "first" "I" ∈ TB) (hd : decode E.1 pc = .ok (.putfield idx, 3)) (kk : B E Φ (pc + 3) L st (mset m i 13 x) a) : B E Φ pc L (vi x :: vr 7 i :: st) m a := b_put 13 (vi x) (mset m i 13 x) tyX7 .int (T := TX7) (N := 14) (C := RX7) rfl (by decide) (by decide) uTB7 tyX7_ok nmX7 (Or.inl hl) rfl (by decide +kernel) (fun _ => rfl) (fun _ => rfl) (fun _ => Nat.le_of_ble_eq_true rfl) (fun ad => by simp [flds, mset, cvA]) rfl (fun Y ad a h => cel_mset_ne _ _ h) (fun _ h => h) hd kk
theorem uTB8 : ∀ w ∈ u_ws RX8 TX8 6, w ∈ TB := (List.forall_mem_cons.mpr ⟨k251, (List.forall_mem_cons.mpr ⟨k253, (List.forall_mem_cons.mpr ⟨k255, (List.forall_mem_cons.mpr ⟨k257, (List.forall_mem_cons.mpr ⟨k259, (List.forall_mem_cons.mpr ⟨k261, (fun w h => absurd h List.not_mem_nil)⟩)⟩)⟩)⟩)⟩)⟩)
theorem gf8_0 {E : ME} {Φ : Option AV → AM → Prop} {pc : Nat} {L : List (Option AV)} {st : List AV} {m : AM} {a : Nat × Nat} {i idx : Nat} (j : Nat) (hj : i + 1 = j) (hl : Cond.fieldLink E.2.1 idx "BelievedWords$Standing" "cells" "[I" ∈ TB) (hd : decode E.1 pc = .ok (.getfield idx, 3)) (kk : B E Φ (pc + 3) L (vr 105 j :: st) m a) : B E Φ pc L (vr 8 i :: st) m a := by
  subst hj
  exact b_get 0 (vr 105 (i + 1)) (T := TX8) (N := 6) (C := RX8) rfl (by decide) (by decide) uTB8 (Or.inl hl) (fun ad => rfl) (fun h h2 => kd_off 8 105 1 (by decide +kernel) (by decide) h h2) hd kk
theorem gf8_1 {E : ME} {Φ : Option AV → AM → Prop} {pc : Nat} {L : List (Option AV)} {st : List AV} {m : AM} {a : Nat × Nat} {i idx : Nat} (hl : Cond.fieldLink E.2.1 idx "BelievedWords$Standing" "so" "I" ∈ TB) (hd : decode E.1 pc = .ok (.getfield idx, 3)) (kk : B E Φ (pc + 3) L (vi (m.1 i 1) :: st) m a) : B E Φ pc L (vr 8 i :: st) m a := b_get 1 (vi (m.1 i 1)) (T := TX8) (N := 6) (C := RX8) rfl (by decide) (by decide) uTB8 (Or.inl hl) (fun ad => rfl) (fun _ _ => trivial) hd kk
theorem pf8_1 {E : ME} {Φ : Option AV → AM → Prop} {pc : Nat} {L : List (Option AV)} {st : List AV} {m : AM} {a : Nat × Nat} {i idx : Nat} {x : Int32} (hl : Cond.fieldLink E.2.1 idx "BelievedWords$Standing" "so" "I" ∈ TB) (hd : decode E.1 pc = .ok (.putfield idx, 3)) (kk : B E Φ (pc + 3) L st (mset m i 1 x) a) : B E Φ pc L (vi x :: vr 8 i :: st) m a := b_put 1 (vi x) (mset m i 1 x) tyX8 .int (T := TX8) (N := 6) (C := RX8) rfl (by decide) (by decide) uTB8 tyX8_ok nmX8 (Or.inl hl) rfl (by decide +kernel) (fun _ => rfl) (fun _ => rfl) (fun _ => Nat.le_of_ble_eq_true rfl) (fun ad => by simp [flds, mset, cvA]) rfl (fun Y ad a h => cel_mset_ne _ _ h) (fun _ h => h) hd kk
theorem gf8_2 {E : ME} {Φ : Option AV → AM → Prop} {pc : Nat} {L : List (Option AV)} {st : List AV} {m : AM} {a : Nat × Nat} {i idx : Nat} (hl : Cond.fieldLink E.2.1 idx "BelievedWords$Standing" "saidOf" "I" ∈ TB) (hd : decode E.1 pc = .ok (.getfield idx, 3)) (kk : B E Φ (pc + 3) L (vi (m.1 i 2) :: st) m a) : B E Φ pc L (vr 8 i :: st) m a := b_get 2 (vi (m.1 i 2)) (T := TX8) (N := 6) (C := RX8) rfl (by decide) (by decide) uTB8 (Or.inl hl) (fun ad => rfl) (fun _ _ => trivial) hd kk
theorem pf8_2 {E : ME} {Φ : Option AV → AM → Prop} {pc : Nat} {L : List (Option AV)} {st : List AV} {m : AM} {a : Nat × Nat} {i idx : Nat} {x : Int32} (hl : Cond.fieldLink E.2.1 idx "BelievedWords$Standing" "saidOf" "I" ∈ TB) (hd : decode E.1 pc = .ok (.putfield idx, 3)) (kk : B E Φ (pc + 3) L st (mset m i 2 x) a) : B E Φ pc L (vi x :: vr 8 i :: st) m a := b_put 2 (vi x) (mset m i 2 x) tyX8 .int (T := TX8) (N := 6) (C := RX8) rfl (by decide) (by decide) uTB8 tyX8_ok nmX8 (Or.inl hl) rfl (by decide +kernel) (fun _ => rfl) (fun _ => rfl) (fun _ => Nat.le_of_ble_eq_true rfl) (fun ad => by simp [flds, mset, cvA]) rfl (fun Y ad a h => cel_mset_ne _ _ h) (fun _ h => h) hd kk
theorem gf8_3 {E : ME} {Φ : Option AV → AM → Prop} {pc : Nat} {L : List (Option AV)} {st : List AV} {m : AM} {a : Nat × Nat} {i idx : Nat} (hl : Cond.fieldLink E.2.1 idx "BelievedWords$Standing" "sayings" "I" ∈ TB) (hd : decode E.1 pc = .ok (.getfield idx, 3)) (kk : B E Φ (pc + 3) L (vi (m.1 i 3) :: st) m a) : B E Φ pc L (vr 8 i :: st) m a := b_get 3 (vi (m.1 i 3)) (T := TX8) (N := 6) (C := RX8) rfl (by decide) (by decide) uTB8 (Or.inl hl) (fun ad => rfl) (fun _ _ => trivial) hd kk
theorem pf8_3 {E : ME} {Φ : Option AV → AM → Prop} {pc : Nat} {L : List (Option AV)} {st : List AV} {m : AM} {a : Nat × Nat} {i idx : Nat} {x : Int32} (hl : Cond.fieldLink E.2.1 idx "BelievedWords$Standing" "sayings" "I" ∈ TB) (hd : decode E.1 pc = .ok (.putfield idx, 3)) (kk : B E Φ (pc + 3) L st (mset m i 3 x) a) : B E Φ pc L (vi x :: vr 8 i :: st) m a := b_put 3 (vi x) (mset m i 3 x) tyX8 .int (T := TX8) (N := 6) (C := RX8) rfl (by decide) (by decide) uTB8 tyX8_ok nmX8 (Or.inl hl) rfl (by decide +kernel) (fun _ => rfl) (fun _ => rfl) (fun _ => Nat.le_of_ble_eq_true rfl) (fun ad => by simp [flds, mset, cvA]) rfl (fun Y ad a h => cel_mset_ne _ _ h) (fun _ h => h) hd kk
theorem gf8_4 {E : ME} {Φ : Option AV → AM → Prop} {pc : Nat} {L : List (Option AV)} {st : List AV} {m : AM} {a : Nat × Nat} {i idx : Nat} (hl : Cond.fieldLink E.2.1 idx "BelievedWords$Standing" "cost" "I" ∈ TB) (hd : decode E.1 pc = .ok (.getfield idx, 3)) (kk : B E Φ (pc + 3) L (vi (m.1 i 4) :: st) m a) : B E Φ pc L (vr 8 i :: st) m a := b_get 4 (vi (m.1 i 4)) (T := TX8) (N := 6) (C := RX8) rfl (by decide) (by decide) uTB8 (Or.inl hl) (fun ad => rfl) (fun _ _ => trivial) hd kk
theorem pf8_4 {E : ME} {Φ : Option AV → AM → Prop} {pc : Nat} {L : List (Option AV)} {st : List AV} {m : AM} {a : Nat × Nat} {i idx : Nat} {x : Int32} (hl : Cond.fieldLink E.2.1 idx "BelievedWords$Standing" "cost" "I" ∈ TB) (hd : decode E.1 pc = .ok (.putfield idx, 3)) (kk : B E Φ (pc + 3) L st (mset m i 4 x) a) : B E Φ pc L (vi x :: vr 8 i :: st) m a := b_put 4 (vi x) (mset m i 4 x) tyX8 .int (T := TX8) (N := 6) (C := RX8) rfl (by decide) (by decide) uTB8 tyX8_ok nmX8 (Or.inl hl) rfl (by decide +kernel) (fun _ => rfl) (fun _ => rfl) (fun _ => Nat.le_of_ble_eq_true rfl) (fun ad => by simp [flds, mset, cvA]) rfl (fun Y ad a h => cel_mset_ne _ _ h) (fun _ h => h) hd kk
theorem gf8_5 {E : ME} {Φ : Option AV → AM → Prop} {pc : Nat} {L : List (Option AV)} {st : List AV} {m : AM} {a : Nat × Nat} {i idx : Nat} (hl : Cond.fieldLink E.2.1 idx "BelievedWords$Standing" "struck" "I" ∈ TB) (hd : decode E.1 pc = .ok (.getfield idx, 3)) (kk : B E Φ (pc + 3) L (vi (m.1 i 5) :: st) m a) : B E Φ pc L (vr 8 i :: st) m a := b_get 5 (vi (m.1 i 5)) (T := TX8) (N := 6) (C := RX8) rfl (by decide) (by decide) uTB8 (Or.inl hl) (fun ad => rfl) (fun _ _ => trivial) hd kk
theorem pf8_5 {E : ME} {Φ : Option AV → AM → Prop} {pc : Nat} {L : List (Option AV)} {st : List AV} {m : AM} {a : Nat × Nat} {i idx : Nat} {x : Int32} (hl : Cond.fieldLink E.2.1 idx "BelievedWords$Standing" "struck" "I" ∈ TB) (hd : decode E.1 pc = .ok (.putfield idx, 3)) (kk : B E Φ (pc + 3) L st (mset m i 5 x) a) : B E Φ pc L (vi x :: vr 8 i :: st) m a := b_put 5 (vi x) (mset m i 5 x) tyX8 .int (T := TX8) (N := 6) (C := RX8) rfl (by decide) (by decide) uTB8 tyX8_ok nmX8 (Or.inl hl) rfl (by decide +kernel) (fun _ => rfl) (fun _ => rfl) (fun _ => Nat.le_of_ble_eq_true rfl) (fun ad => by simp [flds, mset, cvA]) rfl (fun Y ad a h => cel_mset_ne _ _ h) (fun _ h => h) hd kk
theorem uTB9 : ∀ w ∈ u_ws RX9 TX9 9, w ∈ TB := (List.forall_mem_cons.mpr ⟨k194, (List.forall_mem_cons.mpr ⟨k196, (List.forall_mem_cons.mpr ⟨k198, (List.forall_mem_cons.mpr ⟨k200, (List.forall_mem_cons.mpr ⟨k202, (List.forall_mem_cons.mpr ⟨k204, (List.forall_mem_cons.mpr ⟨k206, (List.forall_mem_cons.mpr ⟨k208, (List.forall_mem_cons.mpr ⟨k210, (fun w h => absurd h List.not_mem_nil)⟩)⟩)⟩)⟩)⟩)⟩)⟩)⟩)⟩)
theorem gf9_0 {E : ME} {Φ : Option AV → AM → Prop} {pc : Nat} {L : List (Option AV)} {st : List AV} {m : AM} {a : Nat × Nat} {i idx : Nat} (j : Nat) (hj : i + 1 = j) (hl : Cond.fieldLink E.2.1 idx "BelievedWords$Tape" "told" "LBelievedWords$Law;" ∈ TB) (hd : decode E.1 pc = .ok (.getfield idx, 3)) (kk : B E Φ (pc + 3) L (vr 5 j :: st) m a) : B E Φ pc L (vr 9 i :: st) m a := by
  subst hj
  exact b_get 0 (vr 5 (i + 1)) (T := TX9) (N := 9) (C := RX9) rfl (by decide) (by decide) uTB9 (Or.inl hl) (fun ad => rfl) (fun h h2 => kd_off 9 5 1 (by decide +kernel) (by decide) h h2) hd kk
theorem gf9_1 {E : ME} {Φ : Option AV → AM → Prop} {pc : Nat} {L : List (Option AV)} {st : List AV} {m : AM} {a : Nat × Nat} {i idx : Nat} (j : Nat) (hj : i + 6 = j) (hl : Cond.fieldLink E.2.1 idx "BelievedWords$Tape" "bytes" "[I" ∈ TB) (hd : decode E.1 pc = .ok (.getfield idx, 3)) (kk : B E Φ (pc + 3) L (vr 220 j :: st) m a) : B E Φ pc L (vr 9 i :: st) m a := by
  subst hj
  exact b_get 1 (vr 220 (i + 6)) (T := TX9) (N := 9) (C := RX9) rfl (by decide) (by decide) uTB9 (Or.inl hl) (fun ad => rfl) (fun h h2 => kd_off 9 220 6 (by decide +kernel) (by decide) h h2) hd kk
theorem gf9_2 {E : ME} {Φ : Option AV → AM → Prop} {pc : Nat} {L : List (Option AV)} {st : List AV} {m : AM} {a : Nat × Nat} {i idx : Nat} (hl : Cond.fieldLink E.2.1 idx "BelievedWords$Tape" "length" "I" ∈ TB) (hd : decode E.1 pc = .ok (.getfield idx, 3)) (kk : B E Φ (pc + 3) L (vi (m.1 i 2) :: st) m a) : B E Φ pc L (vr 9 i :: st) m a := b_get 2 (vi (m.1 i 2)) (T := TX9) (N := 9) (C := RX9) rfl (by decide) (by decide) uTB9 (Or.inl hl) (fun ad => rfl) (fun _ _ => trivial) hd kk
theorem pf9_2 {E : ME} {Φ : Option AV → AM → Prop} {pc : Nat} {L : List (Option AV)} {st : List AV} {m : AM} {a : Nat × Nat} {i idx : Nat} {x : Int32} (hl : Cond.fieldLink E.2.1 idx "BelievedWords$Tape" "length" "I" ∈ TB) (hd : decode E.1 pc = .ok (.putfield idx, 3)) (kk : B E Φ (pc + 3) L st (mset m i 2 x) a) : B E Φ pc L (vi x :: vr 9 i :: st) m a := b_put 2 (vi x) (mset m i 2 x) tyX9 .int (T := TX9) (N := 9) (C := RX9) rfl (by decide) (by decide) uTB9 tyX9_ok nmX9 (Or.inl hl) rfl (by decide +kernel) (fun _ => rfl) (fun _ => rfl) (fun _ => Nat.le_of_ble_eq_true rfl) (fun ad => by simp [flds, mset, cvA]) rfl (fun Y ad a h => cel_mset_ne _ _ h) (fun _ h => h) hd kk
theorem gf9_3 {E : ME} {Φ : Option AV → AM → Prop} {pc : Nat} {L : List (Option AV)} {st : List AV} {m : AM} {a : Nat × Nat} {i idx : Nat} (hl : Cond.fieldLink E.2.1 idx "BelievedWords$Tape" "at" "I" ∈ TB) (hd : decode E.1 pc = .ok (.getfield idx, 3)) (kk : B E Φ (pc + 3) L (vi (m.1 i 3) :: st) m a) : B E Φ pc L (vr 9 i :: st) m a := b_get 3 (vi (m.1 i 3)) (T := TX9) (N := 9) (C := RX9) rfl (by decide) (by decide) uTB9 (Or.inl hl) (fun ad => rfl) (fun _ _ => trivial) hd kk
theorem pf9_3 {E : ME} {Φ : Option AV → AM → Prop} {pc : Nat} {L : List (Option AV)} {st : List AV} {m : AM} {a : Nat × Nat} {i idx : Nat} {x : Int32} (hl : Cond.fieldLink E.2.1 idx "BelievedWords$Tape" "at" "I" ∈ TB) (hd : decode E.1 pc = .ok (.putfield idx, 3)) (kk : B E Φ (pc + 3) L st (mset m i 3 x) a) : B E Φ pc L (vi x :: vr 9 i :: st) m a := b_put 3 (vi x) (mset m i 3 x) tyX9 .int (T := TX9) (N := 9) (C := RX9) rfl (by decide) (by decide) uTB9 tyX9_ok nmX9 (Or.inl hl) rfl (by decide +kernel) (fun _ => rfl) (fun _ => rfl) (fun _ => Nat.le_of_ble_eq_true rfl) (fun ad => by simp [flds, mset, cvA]) rfl (fun Y ad a h => cel_mset_ne _ _ h) (fun _ h => h) hd kk
theorem gf9_4 {E : ME} {Φ : Option AV → AM → Prop} {pc : Nat} {L : List (Option AV)} {st : List AV} {m : AM} {a : Nat × Nat} {i idx : Nat} (hl : Cond.fieldLink E.2.1 idx "BelievedWords$Tape" "behind" "I" ∈ TB) (hd : decode E.1 pc = .ok (.getfield idx, 3)) (kk : B E Φ (pc + 3) L (vi (m.1 i 4) :: st) m a) : B E Φ pc L (vr 9 i :: st) m a := b_get 4 (vi (m.1 i 4)) (T := TX9) (N := 9) (C := RX9) rfl (by decide) (by decide) uTB9 (Or.inl hl) (fun ad => rfl) (fun _ _ => trivial) hd kk
theorem pf9_4 {E : ME} {Φ : Option AV → AM → Prop} {pc : Nat} {L : List (Option AV)} {st : List AV} {m : AM} {a : Nat × Nat} {i idx : Nat} {x : Int32} (hl : Cond.fieldLink E.2.1 idx "BelievedWords$Tape" "behind" "I" ∈ TB) (hd : decode E.1 pc = .ok (.putfield idx, 3)) (kk : B E Φ (pc + 3) L st (mset m i 4 x) a) : B E Φ pc L (vi x :: vr 9 i :: st) m a := b_put 4 (vi x) (mset m i 4 x) tyX9 .int (T := TX9) (N := 9) (C := RX9) rfl (by decide) (by decide) uTB9 tyX9_ok nmX9 (Or.inl hl) rfl (by decide +kernel) (fun _ => rfl) (fun _ => rfl) (fun _ => Nat.le_of_ble_eq_true rfl) (fun ad => by simp [flds, mset, cvA]) rfl (fun Y ad a h => cel_mset_ne _ _ h) (fun _ h => h) hd kk
theorem gf9_5 {E : ME} {Φ : Option AV → AM → Prop} {pc : Nat} {L : List (Option AV)} {st : List AV} {m : AM} {a : Nat × Nat} {i idx : Nat} (hl : Cond.fieldLink E.2.1 idx "BelievedWords$Tape" "letter" "I" ∈ TB) (hd : decode E.1 pc = .ok (.getfield idx, 3)) (kk : B E Φ (pc + 3) L (vi (m.1 i 5) :: st) m a) : B E Φ pc L (vr 9 i :: st) m a := b_get 5 (vi (m.1 i 5)) (T := TX9) (N := 9) (C := RX9) rfl (by decide) (by decide) uTB9 (Or.inl hl) (fun ad => rfl) (fun _ _ => trivial) hd kk
theorem pf9_5 {E : ME} {Φ : Option AV → AM → Prop} {pc : Nat} {L : List (Option AV)} {st : List AV} {m : AM} {a : Nat × Nat} {i idx : Nat} {x : Int32} (hl : Cond.fieldLink E.2.1 idx "BelievedWords$Tape" "letter" "I" ∈ TB) (hd : decode E.1 pc = .ok (.putfield idx, 3)) (kk : B E Φ (pc + 3) L st (mset m i 5 x) a) : B E Φ pc L (vi x :: vr 9 i :: st) m a := b_put 5 (vi x) (mset m i 5 x) tyX9 .int (T := TX9) (N := 9) (C := RX9) rfl (by decide) (by decide) uTB9 tyX9_ok nmX9 (Or.inl hl) rfl (by decide +kernel) (fun _ => rfl) (fun _ => rfl) (fun _ => Nat.le_of_ble_eq_true rfl) (fun ad => by simp [flds, mset, cvA]) rfl (fun Y ad a h => cel_mset_ne _ _ h) (fun _ h => h) hd kk
theorem gf9_6 {E : ME} {Φ : Option AV → AM → Prop} {pc : Nat} {L : List (Option AV)} {st : List AV} {m : AM} {a : Nat × Nat} {i idx : Nat} (hl : Cond.fieldLink E.2.1 idx "BelievedWords$Tape" "number" "I" ∈ TB) (hd : decode E.1 pc = .ok (.getfield idx, 3)) (kk : B E Φ (pc + 3) L (vi (m.1 i 6) :: st) m a) : B E Φ pc L (vr 9 i :: st) m a := b_get 6 (vi (m.1 i 6)) (T := TX9) (N := 9) (C := RX9) rfl (by decide) (by decide) uTB9 (Or.inl hl) (fun ad => rfl) (fun _ _ => trivial) hd kk
theorem pf9_6 {E : ME} {Φ : Option AV → AM → Prop} {pc : Nat} {L : List (Option AV)} {st : List AV} {m : AM} {a : Nat × Nat} {i idx : Nat} {x : Int32} (hl : Cond.fieldLink E.2.1 idx "BelievedWords$Tape" "number" "I" ∈ TB) (hd : decode E.1 pc = .ok (.putfield idx, 3)) (kk : B E Φ (pc + 3) L st (mset m i 6 x) a) : B E Φ pc L (vi x :: vr 9 i :: st) m a := b_put 6 (vi x) (mset m i 6 x) tyX9 .int (T := TX9) (N := 9) (C := RX9) rfl (by decide) (by decide) uTB9 tyX9_ok nmX9 (Or.inl hl) rfl (by decide +kernel) (fun _ => rfl) (fun _ => rfl) (fun _ => Nat.le_of_ble_eq_true rfl) (fun ad => by simp [flds, mset, cvA]) rfl (fun Y ad a h => cel_mset_ne _ _ h) (fun _ h => h) hd kk
theorem gf9_7 {E : ME} {Φ : Option AV → AM → Prop} {pc : Nat} {L : List (Option AV)} {st : List AV} {m : AM} {a : Nat × Nat} {i idx : Nat} (hl : Cond.fieldLink E.2.1 idx "BelievedWords$Tape" "fault" "I" ∈ TB) (hd : decode E.1 pc = .ok (.getfield idx, 3)) (kk : B E Φ (pc + 3) L (vi (m.1 i 7) :: st) m a) : B E Φ pc L (vr 9 i :: st) m a := b_get 7 (vi (m.1 i 7)) (T := TX9) (N := 9) (C := RX9) rfl (by decide) (by decide) uTB9 (Or.inl hl) (fun ad => rfl) (fun _ _ => trivial) hd kk
theorem pf9_7 {E : ME} {Φ : Option AV → AM → Prop} {pc : Nat} {L : List (Option AV)} {st : List AV} {m : AM} {a : Nat × Nat} {i idx : Nat} {x : Int32} (hl : Cond.fieldLink E.2.1 idx "BelievedWords$Tape" "fault" "I" ∈ TB) (hd : decode E.1 pc = .ok (.putfield idx, 3)) (kk : B E Φ (pc + 3) L st (mset m i 7 x) a) : B E Φ pc L (vi x :: vr 9 i :: st) m a := b_put 7 (vi x) (mset m i 7 x) tyX9 .int (T := TX9) (N := 9) (C := RX9) rfl (by decide) (by decide) uTB9 tyX9_ok nmX9 (Or.inl hl) rfl (by decide +kernel) (fun _ => rfl) (fun _ => rfl) (fun _ => Nat.le_of_ble_eq_true rfl) (fun ad => by simp [flds, mset, cvA]) rfl (fun Y ad a h => cel_mset_ne _ _ h) (fun _ h => h) hd kk
theorem gf9_8 {E : ME} {Φ : Option AV → AM → Prop} {pc : Nat} {L : List (Option AV)} {st : List AV} {m : AM} {a : Nat × Nat} {i idx : Nat} (hl : Cond.fieldLink E.2.1 idx "BelievedWords$Tape" "place" "I" ∈ TB) (hd : decode E.1 pc = .ok (.getfield idx, 3)) (kk : B E Φ (pc + 3) L (vi (m.1 i 8) :: st) m a) : B E Φ pc L (vr 9 i :: st) m a := b_get 8 (vi (m.1 i 8)) (T := TX9) (N := 9) (C := RX9) rfl (by decide) (by decide) uTB9 (Or.inl hl) (fun ad => rfl) (fun _ _ => trivial) hd kk
theorem pf9_8 {E : ME} {Φ : Option AV → AM → Prop} {pc : Nat} {L : List (Option AV)} {st : List AV} {m : AM} {a : Nat × Nat} {i idx : Nat} {x : Int32} (hl : Cond.fieldLink E.2.1 idx "BelievedWords$Tape" "place" "I" ∈ TB) (hd : decode E.1 pc = .ok (.putfield idx, 3)) (kk : B E Φ (pc + 3) L st (mset m i 8 x) a) : B E Φ pc L (vi x :: vr 9 i :: st) m a := b_put 8 (vi x) (mset m i 8 x) tyX9 .int (T := TX9) (N := 9) (C := RX9) rfl (by decide) (by decide) uTB9 tyX9_ok nmX9 (Or.inl hl) rfl (by decide +kernel) (fun _ => rfl) (fun _ => rfl) (fun _ => Nat.le_of_ble_eq_true rfl) (fun ad => by simp [flds, mset, cvA]) rfl (fun Y ad a h => cel_mset_ne _ _ h) (fun _ h => h) hd kk
theorem uTB10 : ∀ w ∈ u_ws RX10 TX10 9, w ∈ TB := (List.forall_mem_cons.mpr ⟨k424, (List.forall_mem_cons.mpr ⟨k426, (List.forall_mem_cons.mpr ⟨k428, (List.forall_mem_cons.mpr ⟨k430, (List.forall_mem_cons.mpr ⟨k432, (List.forall_mem_cons.mpr ⟨k434, (List.forall_mem_cons.mpr ⟨k436, (List.forall_mem_cons.mpr ⟨k438, (List.forall_mem_cons.mpr ⟨k440, (fun w h => absurd h List.not_mem_nil)⟩)⟩)⟩)⟩)⟩)⟩)⟩)⟩)⟩)
theorem gf10_0 {E : ME} {Φ : Option AV → AM → Prop} {pc : Nat} {L : List (Option AV)} {st : List AV} {m : AM} {a : Nat × Nat} {i idx : Nat} (j : Nat) (hj : i + 1 = j) (hl : Cond.fieldLink E.2.1 idx "BelievedWords" "rows" "LBelievedWords$Rows;" ∈ TB) (hd : decode E.1 pc = .ok (.getfield idx, 3)) (kk : B E Φ (pc + 3) L (vr 6 j :: st) m a) : B E Φ pc L (vr 10 i :: st) m a := by
  subst hj
  exact b_get 0 (vr 6 (i + 1)) (T := TX10) (N := 9) (C := RX10) rfl (by decide) (by decide) uTB10 (Or.inl hl) (fun ad => rfl) (fun h h2 => kd_off 10 6 1 (by decide +kernel) (by decide) h h2) hd kk
theorem gf10_1 {E : ME} {Φ : Option AV → AM → Prop} {pc : Nat} {L : List (Option AV)} {st : List AV} {m : AM} {a : Nat × Nat} {i idx : Nat} (j : Nat) (hj : i + 13 = j) (hl : Cond.fieldLink E.2.1 idx "BelievedWords" "tape" "LBelievedWords$Tape;" ∈ TB) (hd : decode E.1 pc = .ok (.getfield idx, 3)) (kk : B E Φ (pc + 3) L (vr 9 j :: st) m a) : B E Φ pc L (vr 10 i :: st) m a := by
  subst hj
  exact b_get 1 (vr 9 (i + 13)) (T := TX10) (N := 9) (C := RX10) rfl (by decide) (by decide) uTB10 (Or.inl hl) (fun ad => rfl) (fun h h2 => kd_off 10 9 13 (by decide +kernel) (by decide) h h2) hd kk
theorem gf10_2 {E : ME} {Φ : Option AV → AM → Prop} {pc : Nat} {L : List (Option AV)} {st : List AV} {m : AM} {a : Nat × Nat} {i idx : Nat} (j : Nat) (hj : i + 20 = j) (hl : Cond.fieldLink E.2.1 idx "BelievedWords" "bench" "LBelievedWords$Court;" ∈ TB) (hd : decode E.1 pc = .ok (.getfield idx, 3)) (kk : B E Φ (pc + 3) L (vr 2 j :: st) m a) : B E Φ pc L (vr 10 i :: st) m a := by
  subst hj
  exact b_get 2 (vr 2 (i + 20)) (T := TX10) (N := 9) (C := RX10) rfl (by decide) (by decide) uTB10 (Or.inl hl) (fun ad => rfl) (fun h h2 => kd_off 10 2 20 (by decide +kernel) (by decide) h h2) hd kk
theorem gf10_3 {E : ME} {Φ : Option AV → AM → Prop} {pc : Nat} {L : List (Option AV)} {st : List AV} {m : AM} {a : Nat × Nat} {i idx : Nat} (j : Nat) (hj : i + 31 = j) (hl : Cond.fieldLink E.2.1 idx "BelievedWords" "acts" "LBelievedWords$Acts;" ∈ TB) (hd : decode E.1 pc = .ok (.getfield idx, 3)) (kk : B E Φ (pc + 3) L (vr 0 j :: st) m a) : B E Φ pc L (vr 10 i :: st) m a := by
  subst hj
  exact b_get 3 (vr 0 (i + 31)) (T := TX10) (N := 9) (C := RX10) rfl (by decide) (by decide) uTB10 (Or.inl hl) (fun ad => rfl) (fun h h2 => kd_off 10 0 31 (by decide +kernel) (by decide) h h2) hd kk
theorem gf10_4 {E : ME} {Φ : Option AV → AM → Prop} {pc : Nat} {L : List (Option AV)} {st : List AV} {m : AM} {a : Nat × Nat} {i idx : Nat} (j : Nat) (hj : i + 81 = j) (hl : Cond.fieldLink E.2.1 idx "BelievedWords" "images" "[LBelievedWords$Image;" ∈ TB) (hd : decode E.1 pc = .ok (.getfield idx, 3)) (kk : B E Φ (pc + 3) L (vr 14 j :: st) m a) : B E Φ pc L (vr 10 i :: st) m a := by
  subst hj
  exact b_get 4 (vr 14 (i + 81)) (T := TX10) (N := 9) (C := RX10) rfl (by decide) (by decide) uTB10 (Or.inl hl) (fun ad => rfl) (fun h h2 => kd_off 10 14 81 (by decide +kernel) (by decide) h h2) hd kk
theorem gf10_5 {E : ME} {Φ : Option AV → AM → Prop} {pc : Nat} {L : List (Option AV)} {st : List AV} {m : AM} {a : Nat × Nat} {i idx : Nat} (j : Nat) (hj : i + 98 = j) (hl : Cond.fieldLink E.2.1 idx "BelievedWords" "search" "LBelievedWords$Search;" ∈ TB) (hd : decode E.1 pc = .ok (.getfield idx, 3)) (kk : B E Φ (pc + 3) L (vr 7 j :: st) m a) : B E Φ pc L (vr 10 i :: st) m a := by
  subst hj
  exact b_get 5 (vr 7 (i + 98)) (T := TX10) (N := 9) (C := RX10) rfl (by decide) (by decide) uTB10 (Or.inl hl) (fun ad => rfl) (fun h h2 => kd_off 10 7 98 (by decide +kernel) (by decide) h h2) hd kk
theorem gf10_6 {E : ME} {Φ : Option AV → AM → Prop} {pc : Nat} {L : List (Option AV)} {st : List AV} {m : AM} {a : Nat × Nat} {i idx : Nat} (j : Nat) (hj : i + 103 = j) (hl : Cond.fieldLink E.2.1 idx "BelievedWords" "foresight" "LBelievedWords$Foresight;" ∈ TB) (hd : decode E.1 pc = .ok (.getfield idx, 3)) (kk : B E Φ (pc + 3) L (vr 3 j :: st) m a) : B E Φ pc L (vr 10 i :: st) m a := by
  subst hj
  exact b_get 6 (vr 3 (i + 103)) (T := TX10) (N := 9) (C := RX10) rfl (by decide) (by decide) uTB10 (Or.inl hl) (fun ad => rfl) (fun h h2 => kd_off 10 3 103 (by decide +kernel) (by decide) h h2) hd kk
theorem gf10_7 {E : ME} {Φ : Option AV → AM → Prop} {pc : Nat} {L : List (Option AV)} {st : List AV} {m : AM} {a : Nat × Nat} {i idx : Nat} (j : Nat) (hj : i + 108 = j) (hl : Cond.fieldLink E.2.1 idx "BelievedWords" "asks" "LBelievedWords$Asks;" ∈ TB) (hd : decode E.1 pc = .ok (.getfield idx, 3)) (kk : B E Φ (pc + 3) L (vr 1 j :: st) m a) : B E Φ pc L (vr 10 i :: st) m a := by
  subst hj
  exact b_get 7 (vr 1 (i + 108)) (T := TX10) (N := 9) (C := RX10) rfl (by decide) (by decide) uTB10 (Or.inl hl) (fun ad => rfl) (fun h h2 => kd_off 10 1 108 (by decide +kernel) (by decide) h h2) hd kk
theorem gf10_8 {E : ME} {Φ : Option AV → AM → Prop} {pc : Nat} {L : List (Option AV)} {st : List AV} {m : AM} {a : Nat × Nat} {i idx : Nat} (hl : Cond.fieldLink E.2.1 idx "BelievedWords" "finding" "I" ∈ TB) (hd : decode E.1 pc = .ok (.getfield idx, 3)) (kk : B E Φ (pc + 3) L (vi (m.1 i 8) :: st) m a) : B E Φ pc L (vr 10 i :: st) m a := b_get 8 (vi (m.1 i 8)) (T := TX10) (N := 9) (C := RX10) rfl (by decide) (by decide) uTB10 (Or.inl hl) (fun ad => rfl) (fun _ _ => trivial) hd kk
theorem pf10_8 {E : ME} {Φ : Option AV → AM → Prop} {pc : Nat} {L : List (Option AV)} {st : List AV} {m : AM} {a : Nat × Nat} {i idx : Nat} {x : Int32} (hl : Cond.fieldLink E.2.1 idx "BelievedWords" "finding" "I" ∈ TB) (hd : decode E.1 pc = .ok (.putfield idx, 3)) (kk : B E Φ (pc + 3) L st (mset m i 8 x) a) : B E Φ pc L (vi x :: vr 10 i :: st) m a := b_put 8 (vi x) (mset m i 8 x) tyX10 .int (T := TX10) (N := 9) (C := RX10) rfl (by decide) (by decide) uTB10 tyX10_ok nmX10 (Or.inl hl) rfl (by decide +kernel) (fun _ => rfl) (fun _ => rfl) (fun _ => Nat.le_of_ble_eq_true rfl) (fun ad => by simp [flds, mset, cvA]) rfl (fun Y ad a h => cel_mset_ne _ _ h) (fun _ h => h) hd kk
theorem uTB11 : ∀ w ∈ u_ws RX11 TX11 28, w ∈ TB := (List.forall_mem_cons.mpr ⟨k1070, (List.forall_mem_cons.mpr ⟨k1072, (List.forall_mem_cons.mpr ⟨k1074, (List.forall_mem_cons.mpr ⟨k1076, (List.forall_mem_cons.mpr ⟨k1078, (List.forall_mem_cons.mpr ⟨k1080, (List.forall_mem_cons.mpr ⟨k1082, (List.forall_mem_cons.mpr ⟨k1084, (List.forall_mem_cons.mpr ⟨k1086, (List.forall_mem_cons.mpr ⟨k1088, (List.forall_mem_cons.mpr ⟨k1090, (List.forall_mem_cons.mpr ⟨k1092, (List.forall_mem_cons.mpr ⟨k1094, (List.forall_mem_cons.mpr ⟨k1096, (List.forall_mem_cons.mpr ⟨k1098, (List.forall_mem_cons.mpr ⟨k1100, (List.forall_mem_cons.mpr ⟨k1102, (List.forall_mem_cons.mpr ⟨k1104, (List.forall_mem_cons.mpr ⟨k1106, (List.forall_mem_cons.mpr ⟨k1108, (List.forall_mem_cons.mpr ⟨k1110, (List.forall_mem_cons.mpr ⟨k1112, (List.forall_mem_cons.mpr ⟨k1114, (List.forall_mem_cons.mpr ⟨k1116, (List.forall_mem_cons.mpr ⟨k1118, (List.forall_mem_cons.mpr ⟨k1120, (List.forall_mem_cons.mpr ⟨k1122, (List.forall_mem_cons.mpr ⟨k1124, (fun w h => absurd h List.not_mem_nil)⟩)⟩)⟩)⟩)⟩)⟩)⟩)⟩)⟩)⟩)⟩)⟩)⟩)⟩)⟩)⟩)⟩)⟩)⟩)⟩)⟩)⟩)⟩)⟩)⟩)⟩)⟩)⟩)
theorem gf11_0 {E : ME} {Φ : Option AV → AM → Prop} {pc : Nat} {L : List (Option AV)} {st : List AV} {m : AM} {a : Nat × Nat} {i idx : Nat} (hl : Cond.fieldLink E.2.1 idx "BelievedWordsModel" "thrown" "I" ∈ TB) (hd : decode E.1 pc = .ok (.getfield idx, 3)) (kk : B E Φ (pc + 3) L (vi (m.1 i 0) :: st) m a) : B E Φ pc L (vr 11 i :: st) m a := b_get 0 (vi (m.1 i 0)) (T := TX11) (N := 28) (C := RX11) rfl (by decide) (by decide) uTB11 (Or.inl hl) (fun ad => rfl) (fun _ _ => trivial) hd kk
theorem pf11_0 {E : ME} {Φ : Option AV → AM → Prop} {pc : Nat} {L : List (Option AV)} {st : List AV} {m : AM} {a : Nat × Nat} {i idx : Nat} {x : Int32} (hl : Cond.fieldLink E.2.1 idx "BelievedWordsModel" "thrown" "I" ∈ TB) (hd : decode E.1 pc = .ok (.putfield idx, 3)) (kk : B E Φ (pc + 3) L st (mset m i 0 x) a) : B E Φ pc L (vi x :: vr 11 i :: st) m a := b_put 0 (vi x) (mset m i 0 x) tyX11 .int (T := TX11) (N := 28) (C := RX11) rfl (by decide) (by decide) uTB11 tyX11_ok nmX11 (Or.inl hl) rfl (by decide +kernel) (fun _ => rfl) (fun _ => rfl) (fun _ => Nat.le_of_ble_eq_true rfl) (fun ad => by simp [flds, mset, cvA]) rfl (fun Y ad a h => cel_mset_ne _ _ h) (fun _ h => h) hd kk
theorem gf11_1 {E : ME} {Φ : Option AV → AM → Prop} {pc : Nat} {L : List (Option AV)} {st : List AV} {m : AM} {a : Nat × Nat} {i idx : Nat} (hl : Cond.fieldLink E.2.1 idx "BelievedWordsModel" "status" "I" ∈ TB) (hd : decode E.1 pc = .ok (.getfield idx, 3)) (kk : B E Φ (pc + 3) L (vi (m.1 i 1) :: st) m a) : B E Φ pc L (vr 11 i :: st) m a := b_get 1 (vi (m.1 i 1)) (T := TX11) (N := 28) (C := RX11) rfl (by decide) (by decide) uTB11 (Or.inl hl) (fun ad => rfl) (fun _ _ => trivial) hd kk
theorem pf11_1 {E : ME} {Φ : Option AV → AM → Prop} {pc : Nat} {L : List (Option AV)} {st : List AV} {m : AM} {a : Nat × Nat} {i idx : Nat} {x : Int32} (hl : Cond.fieldLink E.2.1 idx "BelievedWordsModel" "status" "I" ∈ TB) (hd : decode E.1 pc = .ok (.putfield idx, 3)) (kk : B E Φ (pc + 3) L st (mset m i 1 x) a) : B E Φ pc L (vi x :: vr 11 i :: st) m a := b_put 1 (vi x) (mset m i 1 x) tyX11 .int (T := TX11) (N := 28) (C := RX11) rfl (by decide) (by decide) uTB11 tyX11_ok nmX11 (Or.inl hl) rfl (by decide +kernel) (fun _ => rfl) (fun _ => rfl) (fun _ => Nat.le_of_ble_eq_true rfl) (fun ad => by simp [flds, mset, cvA]) rfl (fun Y ad a h => cel_mset_ne _ _ h) (fun _ h => h) hd kk
theorem gf11_2 {E : ME} {Φ : Option AV → AM → Prop} {pc : Nat} {L : List (Option AV)} {st : List AV} {m : AM} {a : Nat × Nat} {i idx : Nat} (j : Nat) (hj : i + 1 = j) (hl : Cond.fieldLink E.2.1 idx "BelievedWordsModel" "lane" "[I" ∈ TB) (hd : decode E.1 pc = .ok (.getfield idx, 3)) (kk : B E Φ (pc + 3) L (vr 108 j :: st) m a) : B E Φ pc L (vr 11 i :: st) m a := by
  subst hj
  exact b_get 2 (vr 108 (i + 1)) (T := TX11) (N := 28) (C := RX11) rfl (by decide) (by decide) uTB11 (Or.inl hl) (fun ad => rfl) (fun h h2 => kd_off 11 108 1 (by decide +kernel) (by decide) h h2) hd kk
theorem gf11_3 {E : ME} {Φ : Option AV → AM → Prop} {pc : Nat} {L : List (Option AV)} {st : List AV} {m : AM} {a : Nat × Nat} {i idx : Nat} (j : Nat) (hj : i + 2 = j) (hl : Cond.fieldLink E.2.1 idx "BelievedWordsModel" "many" "[I" ∈ TB) (hd : decode E.1 pc = .ok (.getfield idx, 3)) (kk : B E Φ (pc + 3) L (vr 108 j :: st) m a) : B E Φ pc L (vr 11 i :: st) m a := by
  subst hj
  exact b_get 3 (vr 108 (i + 2)) (T := TX11) (N := 28) (C := RX11) rfl (by decide) (by decide) uTB11 (Or.inl hl) (fun ad => rfl) (fun h h2 => kd_off 11 108 2 (by decide +kernel) (by decide) h h2) hd kk
theorem gf11_4 {E : ME} {Φ : Option AV → AM → Prop} {pc : Nat} {L : List (Option AV)} {st : List AV} {m : AM} {a : Nat × Nat} {i idx : Nat} (j : Nat) (hj : i + 3 = j) (hl : Cond.fieldLink E.2.1 idx "BelievedWordsModel" "item" "[I" ∈ TB) (hd : decode E.1 pc = .ok (.getfield idx, 3)) (kk : B E Φ (pc + 3) L (vr 420 j :: st) m a) : B E Φ pc L (vr 11 i :: st) m a := by
  subst hj
  exact b_get 4 (vr 420 (i + 3)) (T := TX11) (N := 28) (C := RX11) rfl (by decide) (by decide) uTB11 (Or.inl hl) (fun ad => rfl) (fun h h2 => kd_off 11 420 3 (by decide +kernel) (by decide) h h2) hd kk
theorem gf11_5 {E : ME} {Φ : Option AV → AM → Prop} {pc : Nat} {L : List (Option AV)} {st : List AV} {m : AM} {a : Nat × Nat} {i idx : Nat} (j : Nat) (hj : i + 4 = j) (hl : Cond.fieldLink E.2.1 idx "BelievedWordsModel" "court" "[I" ∈ TB) (hd : decode E.1 pc = .ok (.getfield idx, 3)) (kk : B E Φ (pc + 3) L (vr 150 j :: st) m a) : B E Φ pc L (vr 11 i :: st) m a := by
  subst hj
  exact b_get 5 (vr 150 (i + 4)) (T := TX11) (N := 28) (C := RX11) rfl (by decide) (by decide) uTB11 (Or.inl hl) (fun ad => rfl) (fun h h2 => kd_off 11 150 4 (by decide +kernel) (by decide) h h2) hd kk
theorem gf11_6 {E : ME} {Φ : Option AV → AM → Prop} {pc : Nat} {L : List (Option AV)} {st : List AV} {m : AM} {a : Nat × Nat} {i idx : Nat} (j : Nat) (hj : i + 5 = j) (hl : Cond.fieldLink E.2.1 idx "BelievedWordsModel" "fresh" "[I" ∈ TB) (hd : decode E.1 pc = .ok (.getfield idx, 3)) (kk : B E Φ (pc + 3) L (vr 150 j :: st) m a) : B E Φ pc L (vr 11 i :: st) m a := by
  subst hj
  exact b_get 6 (vr 150 (i + 5)) (T := TX11) (N := 28) (C := RX11) rfl (by decide) (by decide) uTB11 (Or.inl hl) (fun ad => rfl) (fun h h2 => kd_off 11 150 5 (by decide +kernel) (by decide) h h2) hd kk
theorem gf11_7 {E : ME} {Φ : Option AV → AM → Prop} {pc : Nat} {L : List (Option AV)} {st : List AV} {m : AM} {a : Nat × Nat} {i idx : Nat} (j : Nat) (hj : i + 6 = j) (hl : Cond.fieldLink E.2.1 idx "BelievedWordsModel" "was" "[I" ∈ TB) (hd : decode E.1 pc = .ok (.getfield idx, 3)) (kk : B E Φ (pc + 3) L (vr 1300 j :: st) m a) : B E Φ pc L (vr 11 i :: st) m a := by
  subst hj
  exact b_get 7 (vr 1300 (i + 6)) (T := TX11) (N := 28) (C := RX11) rfl (by decide) (by decide) uTB11 (Or.inl hl) (fun ad => rfl) (fun h h2 => kd_off 11 1300 6 (by decide +kernel) (by decide) h h2) hd kk
theorem gf11_8 {E : ME} {Φ : Option AV → AM → Prop} {pc : Nat} {L : List (Option AV)} {st : List AV} {m : AM} {a : Nat × Nat} {i idx : Nat} (hl : Cond.fieldLink E.2.1 idx "BelievedWordsModel" "acts" "I" ∈ TB) (hd : decode E.1 pc = .ok (.getfield idx, 3)) (kk : B E Φ (pc + 3) L (vi (m.1 i 8) :: st) m a) : B E Φ pc L (vr 11 i :: st) m a := b_get 8 (vi (m.1 i 8)) (T := TX11) (N := 28) (C := RX11) rfl (by decide) (by decide) uTB11 (Or.inl hl) (fun ad => rfl) (fun _ _ => trivial) hd kk
theorem pf11_8 {E : ME} {Φ : Option AV → AM → Prop} {pc : Nat} {L : List (Option AV)} {st : List AV} {m : AM} {a : Nat × Nat} {i idx : Nat} {x : Int32} (hl : Cond.fieldLink E.2.1 idx "BelievedWordsModel" "acts" "I" ∈ TB) (hd : decode E.1 pc = .ok (.putfield idx, 3)) (kk : B E Φ (pc + 3) L st (mset m i 8 x) a) : B E Φ pc L (vi x :: vr 11 i :: st) m a := b_put 8 (vi x) (mset m i 8 x) tyX11 .int (T := TX11) (N := 28) (C := RX11) rfl (by decide) (by decide) uTB11 tyX11_ok nmX11 (Or.inl hl) rfl (by decide +kernel) (fun _ => rfl) (fun _ => rfl) (fun _ => Nat.le_of_ble_eq_true rfl) (fun ad => by simp [flds, mset, cvA]) rfl (fun Y ad a h => cel_mset_ne _ _ h) (fun _ h => h) hd kk
theorem gf11_9 {E : ME} {Φ : Option AV → AM → Prop} {pc : Nat} {L : List (Option AV)} {st : List AV} {m : AM} {a : Nat × Nat} {i idx : Nat} (j : Nat) (hj : i + 7 = j) (hl : Cond.fieldLink E.2.1 idx "BelievedWordsModel" "tape" "[I" ∈ TB) (hd : decode E.1 pc = .ok (.getfield idx, 3)) (kk : B E Φ (pc + 3) L (vr 220 j :: st) m a) : B E Φ pc L (vr 11 i :: st) m a := by
  subst hj
  exact b_get 9 (vr 220 (i + 7)) (T := TX11) (N := 28) (C := RX11) rfl (by decide) (by decide) uTB11 (Or.inl hl) (fun ad => rfl) (fun h h2 => kd_off 11 220 7 (by decide +kernel) (by decide) h h2) hd kk
theorem gf11_10 {E : ME} {Φ : Option AV → AM → Prop} {pc : Nat} {L : List (Option AV)} {st : List AV} {m : AM} {a : Nat × Nat} {i idx : Nat} (hl : Cond.fieldLink E.2.1 idx "BelievedWordsModel" "taped" "I" ∈ TB) (hd : decode E.1 pc = .ok (.getfield idx, 3)) (kk : B E Φ (pc + 3) L (vi (m.1 i 10) :: st) m a) : B E Φ pc L (vr 11 i :: st) m a := b_get 10 (vi (m.1 i 10)) (T := TX11) (N := 28) (C := RX11) rfl (by decide) (by decide) uTB11 (Or.inl hl) (fun ad => rfl) (fun _ _ => trivial) hd kk
theorem pf11_10 {E : ME} {Φ : Option AV → AM → Prop} {pc : Nat} {L : List (Option AV)} {st : List AV} {m : AM} {a : Nat × Nat} {i idx : Nat} {x : Int32} (hl : Cond.fieldLink E.2.1 idx "BelievedWordsModel" "taped" "I" ∈ TB) (hd : decode E.1 pc = .ok (.putfield idx, 3)) (kk : B E Φ (pc + 3) L st (mset m i 10 x) a) : B E Φ pc L (vi x :: vr 11 i :: st) m a := b_put 10 (vi x) (mset m i 10 x) tyX11 .int (T := TX11) (N := 28) (C := RX11) rfl (by decide) (by decide) uTB11 tyX11_ok nmX11 (Or.inl hl) rfl (by decide +kernel) (fun _ => rfl) (fun _ => rfl) (fun _ => Nat.le_of_ble_eq_true rfl) (fun ad => by simp [flds, mset, cvA]) rfl (fun Y ad a h => cel_mset_ne _ _ h) (fun _ h => h) hd kk
theorem gf11_11 {E : ME} {Φ : Option AV → AM → Prop} {pc : Nat} {L : List (Option AV)} {st : List AV} {m : AM} {a : Nat × Nat} {i idx : Nat} (hl : Cond.fieldLink E.2.1 idx "BelievedWordsModel" "cursor" "I" ∈ TB) (hd : decode E.1 pc = .ok (.getfield idx, 3)) (kk : B E Φ (pc + 3) L (vi (m.1 i 11) :: st) m a) : B E Φ pc L (vr 11 i :: st) m a := b_get 11 (vi (m.1 i 11)) (T := TX11) (N := 28) (C := RX11) rfl (by decide) (by decide) uTB11 (Or.inl hl) (fun ad => rfl) (fun _ _ => trivial) hd kk
theorem pf11_11 {E : ME} {Φ : Option AV → AM → Prop} {pc : Nat} {L : List (Option AV)} {st : List AV} {m : AM} {a : Nat × Nat} {i idx : Nat} {x : Int32} (hl : Cond.fieldLink E.2.1 idx "BelievedWordsModel" "cursor" "I" ∈ TB) (hd : decode E.1 pc = .ok (.putfield idx, 3)) (kk : B E Φ (pc + 3) L st (mset m i 11 x) a) : B E Φ pc L (vi x :: vr 11 i :: st) m a := b_put 11 (vi x) (mset m i 11 x) tyX11 .int (T := TX11) (N := 28) (C := RX11) rfl (by decide) (by decide) uTB11 tyX11_ok nmX11 (Or.inl hl) rfl (by decide +kernel) (fun _ => rfl) (fun _ => rfl) (fun _ => Nat.le_of_ble_eq_true rfl) (fun ad => by simp [flds, mset, cvA]) rfl (fun Y ad a h => cel_mset_ne _ _ h) (fun _ h => h) hd kk
theorem gf11_12 {E : ME} {Φ : Option AV → AM → Prop} {pc : Nat} {L : List (Option AV)} {st : List AV} {m : AM} {a : Nat × Nat} {i idx : Nat} (hl : Cond.fieldLink E.2.1 idx "BelievedWordsModel" "start" "I" ∈ TB) (hd : decode E.1 pc = .ok (.getfield idx, 3)) (kk : B E Φ (pc + 3) L (vi (m.1 i 12) :: st) m a) : B E Φ pc L (vr 11 i :: st) m a := b_get 12 (vi (m.1 i 12)) (T := TX11) (N := 28) (C := RX11) rfl (by decide) (by decide) uTB11 (Or.inl hl) (fun ad => rfl) (fun _ _ => trivial) hd kk
theorem pf11_12 {E : ME} {Φ : Option AV → AM → Prop} {pc : Nat} {L : List (Option AV)} {st : List AV} {m : AM} {a : Nat × Nat} {i idx : Nat} {x : Int32} (hl : Cond.fieldLink E.2.1 idx "BelievedWordsModel" "start" "I" ∈ TB) (hd : decode E.1 pc = .ok (.putfield idx, 3)) (kk : B E Φ (pc + 3) L st (mset m i 12 x) a) : B E Φ pc L (vi x :: vr 11 i :: st) m a := b_put 12 (vi x) (mset m i 12 x) tyX11 .int (T := TX11) (N := 28) (C := RX11) rfl (by decide) (by decide) uTB11 tyX11_ok nmX11 (Or.inl hl) rfl (by decide +kernel) (fun _ => rfl) (fun _ => rfl) (fun _ => Nat.le_of_ble_eq_true rfl) (fun ad => by simp [flds, mset, cvA]) rfl (fun Y ad a h => cel_mset_ne _ _ h) (fun _ h => h) hd kk
theorem gf11_13 {E : ME} {Φ : Option AV → AM → Prop} {pc : Nat} {L : List (Option AV)} {st : List AV} {m : AM} {a : Nat × Nat} {i idx : Nat} (hl : Cond.fieldLink E.2.1 idx "BelievedWordsModel" "token" "I" ∈ TB) (hd : decode E.1 pc = .ok (.getfield idx, 3)) (kk : B E Φ (pc + 3) L (vi (m.1 i 13) :: st) m a) : B E Φ pc L (vr 11 i :: st) m a := b_get 13 (vi (m.1 i 13)) (T := TX11) (N := 28) (C := RX11) rfl (by decide) (by decide) uTB11 (Or.inl hl) (fun ad => rfl) (fun _ _ => trivial) hd kk
theorem pf11_13 {E : ME} {Φ : Option AV → AM → Prop} {pc : Nat} {L : List (Option AV)} {st : List AV} {m : AM} {a : Nat × Nat} {i idx : Nat} {x : Int32} (hl : Cond.fieldLink E.2.1 idx "BelievedWordsModel" "token" "I" ∈ TB) (hd : decode E.1 pc = .ok (.putfield idx, 3)) (kk : B E Φ (pc + 3) L st (mset m i 13 x) a) : B E Φ pc L (vi x :: vr 11 i :: st) m a := b_put 13 (vi x) (mset m i 13 x) tyX11 .int (T := TX11) (N := 28) (C := RX11) rfl (by decide) (by decide) uTB11 tyX11_ok nmX11 (Or.inl hl) rfl (by decide +kernel) (fun _ => rfl) (fun _ => rfl) (fun _ => Nat.le_of_ble_eq_true rfl) (fun ad => by simp [flds, mset, cvA]) rfl (fun Y ad a h => cel_mset_ne _ _ h) (fun _ h => h) hd kk
theorem gf11_14 {E : ME} {Φ : Option AV → AM → Prop} {pc : Nat} {L : List (Option AV)} {st : List AV} {m : AM} {a : Nat × Nat} {i idx : Nat} (hl : Cond.fieldLink E.2.1 idx "BelievedWordsModel" "value" "I" ∈ TB) (hd : decode E.1 pc = .ok (.getfield idx, 3)) (kk : B E Φ (pc + 3) L (vi (m.1 i 14) :: st) m a) : B E Φ pc L (vr 11 i :: st) m a := b_get 14 (vi (m.1 i 14)) (T := TX11) (N := 28) (C := RX11) rfl (by decide) (by decide) uTB11 (Or.inl hl) (fun ad => rfl) (fun _ _ => trivial) hd kk
theorem pf11_14 {E : ME} {Φ : Option AV → AM → Prop} {pc : Nat} {L : List (Option AV)} {st : List AV} {m : AM} {a : Nat × Nat} {i idx : Nat} {x : Int32} (hl : Cond.fieldLink E.2.1 idx "BelievedWordsModel" "value" "I" ∈ TB) (hd : decode E.1 pc = .ok (.putfield idx, 3)) (kk : B E Φ (pc + 3) L st (mset m i 14 x) a) : B E Φ pc L (vi x :: vr 11 i :: st) m a := b_put 14 (vi x) (mset m i 14 x) tyX11 .int (T := TX11) (N := 28) (C := RX11) rfl (by decide) (by decide) uTB11 tyX11_ok nmX11 (Or.inl hl) rfl (by decide +kernel) (fun _ => rfl) (fun _ => rfl) (fun _ => Nat.le_of_ble_eq_true rfl) (fun ad => by simp [flds, mset, cvA]) rfl (fun Y ad a h => cel_mset_ne _ _ h) (fun _ h => h) hd kk
theorem gf11_15 {E : ME} {Φ : Option AV → AM → Prop} {pc : Nat} {L : List (Option AV)} {st : List AV} {m : AM} {a : Nat × Nat} {i idx : Nat} (hl : Cond.fieldLink E.2.1 idx "BelievedWordsModel" "fault" "I" ∈ TB) (hd : decode E.1 pc = .ok (.getfield idx, 3)) (kk : B E Φ (pc + 3) L (vi (m.1 i 15) :: st) m a) : B E Φ pc L (vr 11 i :: st) m a := b_get 15 (vi (m.1 i 15)) (T := TX11) (N := 28) (C := RX11) rfl (by decide) (by decide) uTB11 (Or.inl hl) (fun ad => rfl) (fun _ _ => trivial) hd kk
theorem pf11_15 {E : ME} {Φ : Option AV → AM → Prop} {pc : Nat} {L : List (Option AV)} {st : List AV} {m : AM} {a : Nat × Nat} {i idx : Nat} {x : Int32} (hl : Cond.fieldLink E.2.1 idx "BelievedWordsModel" "fault" "I" ∈ TB) (hd : decode E.1 pc = .ok (.putfield idx, 3)) (kk : B E Φ (pc + 3) L st (mset m i 15 x) a) : B E Φ pc L (vi x :: vr 11 i :: st) m a := b_put 15 (vi x) (mset m i 15 x) tyX11 .int (T := TX11) (N := 28) (C := RX11) rfl (by decide) (by decide) uTB11 tyX11_ok nmX11 (Or.inl hl) rfl (by decide +kernel) (fun _ => rfl) (fun _ => rfl) (fun _ => Nat.le_of_ble_eq_true rfl) (fun ad => by simp [flds, mset, cvA]) rfl (fun Y ad a h => cel_mset_ne _ _ h) (fun _ h => h) hd kk
theorem gf11_16 {E : ME} {Φ : Option AV → AM → Prop} {pc : Nat} {L : List (Option AV)} {st : List AV} {m : AM} {a : Nat × Nat} {i idx : Nat} (hl : Cond.fieldLink E.2.1 idx "BelievedWordsModel" "faultAt" "I" ∈ TB) (hd : decode E.1 pc = .ok (.getfield idx, 3)) (kk : B E Φ (pc + 3) L (vi (m.1 i 16) :: st) m a) : B E Φ pc L (vr 11 i :: st) m a := b_get 16 (vi (m.1 i 16)) (T := TX11) (N := 28) (C := RX11) rfl (by decide) (by decide) uTB11 (Or.inl hl) (fun ad => rfl) (fun _ _ => trivial) hd kk
theorem pf11_16 {E : ME} {Φ : Option AV → AM → Prop} {pc : Nat} {L : List (Option AV)} {st : List AV} {m : AM} {a : Nat × Nat} {i idx : Nat} {x : Int32} (hl : Cond.fieldLink E.2.1 idx "BelievedWordsModel" "faultAt" "I" ∈ TB) (hd : decode E.1 pc = .ok (.putfield idx, 3)) (kk : B E Φ (pc + 3) L st (mset m i 16 x) a) : B E Φ pc L (vi x :: vr 11 i :: st) m a := b_put 16 (vi x) (mset m i 16 x) tyX11 .int (T := TX11) (N := 28) (C := RX11) rfl (by decide) (by decide) uTB11 tyX11_ok nmX11 (Or.inl hl) rfl (by decide +kernel) (fun _ => rfl) (fun _ => rfl) (fun _ => Nat.le_of_ble_eq_true rfl) (fun ad => by simp [flds, mset, cvA]) rfl (fun Y ad a h => cel_mset_ne _ _ h) (fun _ h => h) hd kk
theorem gf11_17 {E : ME} {Φ : Option AV → AM → Prop} {pc : Nat} {L : List (Option AV)} {st : List AV} {m : AM} {a : Nat × Nat} {i idx : Nat} (hl : Cond.fieldLink E.2.1 idx "BelievedWordsModel" "latest" "I" ∈ TB) (hd : decode E.1 pc = .ok (.getfield idx, 3)) (kk : B E Φ (pc + 3) L (vi (m.1 i 17) :: st) m a) : B E Φ pc L (vr 11 i :: st) m a := b_get 17 (vi (m.1 i 17)) (T := TX11) (N := 28) (C := RX11) rfl (by decide) (by decide) uTB11 (Or.inl hl) (fun ad => rfl) (fun _ _ => trivial) hd kk
theorem pf11_17 {E : ME} {Φ : Option AV → AM → Prop} {pc : Nat} {L : List (Option AV)} {st : List AV} {m : AM} {a : Nat × Nat} {i idx : Nat} {x : Int32} (hl : Cond.fieldLink E.2.1 idx "BelievedWordsModel" "latest" "I" ∈ TB) (hd : decode E.1 pc = .ok (.putfield idx, 3)) (kk : B E Φ (pc + 3) L st (mset m i 17 x) a) : B E Φ pc L (vi x :: vr 11 i :: st) m a := b_put 17 (vi x) (mset m i 17 x) tyX11 .int (T := TX11) (N := 28) (C := RX11) rfl (by decide) (by decide) uTB11 tyX11_ok nmX11 (Or.inl hl) rfl (by decide +kernel) (fun _ => rfl) (fun _ => rfl) (fun _ => Nat.le_of_ble_eq_true rfl) (fun ad => by simp [flds, mset, cvA]) rfl (fun Y ad a h => cel_mset_ne _ _ h) (fun _ h => h) hd kk
theorem gf11_18 {E : ME} {Φ : Option AV → AM → Prop} {pc : Nat} {L : List (Option AV)} {st : List AV} {m : AM} {a : Nat × Nat} {i idx : Nat} (j : Nat) (hj : i + 8 = j) (hl : Cond.fieldLink E.2.1 idx "BelievedWordsModel" "far" "[I" ∈ TB) (hd : decode E.1 pc = .ok (.getfield idx, 3)) (kk : B E Φ (pc + 3) L (vr 4196 j :: st) m a) : B E Φ pc L (vr 11 i :: st) m a := by
  subst hj
  exact b_get 18 (vr 4196 (i + 8)) (T := TX11) (N := 28) (C := RX11) rfl (by decide) (by decide) uTB11 (Or.inl hl) (fun ad => rfl) (fun h h2 => kd_off 11 4196 8 (by decide +kernel) (by decide) h h2) hd kk
theorem gf11_19 {E : ME} {Φ : Option AV → AM → Prop} {pc : Nat} {L : List (Option AV)} {st : List AV} {m : AM} {a : Nat × Nat} {i idx : Nat} (j : Nat) (hj : i + 9 = j) (hl : Cond.fieldLink E.2.1 idx "BelievedWordsModel" "first" "[I" ∈ TB) (hd : decode E.1 pc = .ok (.getfield idx, 3)) (kk : B E Φ (pc + 3) L (vr 4196 j :: st) m a) : B E Φ pc L (vr 11 i :: st) m a := by
  subst hj
  exact b_get 19 (vr 4196 (i + 9)) (T := TX11) (N := 28) (C := RX11) rfl (by decide) (by decide) uTB11 (Or.inl hl) (fun ad => rfl) (fun h h2 => kd_off 11 4196 9 (by decide +kernel) (by decide) h h2) hd kk
theorem gf11_20 {E : ME} {Φ : Option AV → AM → Prop} {pc : Nat} {L : List (Option AV)} {st : List AV} {m : AM} {a : Nat × Nat} {i idx : Nat} (j : Nat) (hj : i + 10 = j) (hl : Cond.fieldLink E.2.1 idx "BelievedWordsModel" "waits" "[Z" ∈ TB) (hd : decode E.1 pc = .ok (.getfield idx, 3)) (kk : B E Φ (pc + 3) L (vr 24096 j :: st) m a) : B E Φ pc L (vr 11 i :: st) m a := by
  subst hj
  exact b_get 20 (vr 24096 (i + 10)) (T := TX11) (N := 28) (C := RX11) rfl (by decide) (by decide) uTB11 (Or.inl hl) (fun ad => rfl) (fun h h2 => kd_off 11 24096 10 (by decide +kernel) (by decide) h h2) hd kk
theorem gf11_21 {E : ME} {Φ : Option AV → AM → Prop} {pc : Nat} {L : List (Option AV)} {st : List AV} {m : AM} {a : Nat × Nat} {i idx : Nat} (j : Nat) (hj : i + 11 = j) (hl : Cond.fieldLink E.2.1 idx "BelievedWordsModel" "line" "[I" ∈ TB) (hd : decode E.1 pc = .ok (.getfield idx, 3)) (kk : B E Φ (pc + 3) L (vr 4197 j :: st) m a) : B E Φ pc L (vr 11 i :: st) m a := by
  subst hj
  exact b_get 21 (vr 4197 (i + 11)) (T := TX11) (N := 28) (C := RX11) rfl (by decide) (by decide) uTB11 (Or.inl hl) (fun ad => rfl) (fun h h2 => kd_off 11 4197 11 (by decide +kernel) (by decide) h h2) hd kk
theorem gf11_22 {E : ME} {Φ : Option AV → AM → Prop} {pc : Nat} {L : List (Option AV)} {st : List AV} {m : AM} {a : Nat × Nat} {i idx : Nat} (hl : Cond.fieldLink E.2.1 idx "BelievedWordsModel" "lineFrom" "I" ∈ TB) (hd : decode E.1 pc = .ok (.getfield idx, 3)) (kk : B E Φ (pc + 3) L (vi (m.1 i 22) :: st) m a) : B E Φ pc L (vr 11 i :: st) m a := b_get 22 (vi (m.1 i 22)) (T := TX11) (N := 28) (C := RX11) rfl (by decide) (by decide) uTB11 (Or.inl hl) (fun ad => rfl) (fun _ _ => trivial) hd kk
theorem pf11_22 {E : ME} {Φ : Option AV → AM → Prop} {pc : Nat} {L : List (Option AV)} {st : List AV} {m : AM} {a : Nat × Nat} {i idx : Nat} {x : Int32} (hl : Cond.fieldLink E.2.1 idx "BelievedWordsModel" "lineFrom" "I" ∈ TB) (hd : decode E.1 pc = .ok (.putfield idx, 3)) (kk : B E Φ (pc + 3) L st (mset m i 22 x) a) : B E Φ pc L (vi x :: vr 11 i :: st) m a := b_put 22 (vi x) (mset m i 22 x) tyX11 .int (T := TX11) (N := 28) (C := RX11) rfl (by decide) (by decide) uTB11 tyX11_ok nmX11 (Or.inl hl) rfl (by decide +kernel) (fun _ => rfl) (fun _ => rfl) (fun _ => Nat.le_of_ble_eq_true rfl) (fun ad => by simp [flds, mset, cvA]) rfl (fun Y ad a h => cel_mset_ne _ _ h) (fun _ h => h) hd kk
theorem gf11_23 {E : ME} {Φ : Option AV → AM → Prop} {pc : Nat} {L : List (Option AV)} {st : List AV} {m : AM} {a : Nat × Nat} {i idx : Nat} (hl : Cond.fieldLink E.2.1 idx "BelievedWordsModel" "lineTo" "I" ∈ TB) (hd : decode E.1 pc = .ok (.getfield idx, 3)) (kk : B E Φ (pc + 3) L (vi (m.1 i 23) :: st) m a) : B E Φ pc L (vr 11 i :: st) m a := b_get 23 (vi (m.1 i 23)) (T := TX11) (N := 28) (C := RX11) rfl (by decide) (by decide) uTB11 (Or.inl hl) (fun ad => rfl) (fun _ _ => trivial) hd kk
theorem pf11_23 {E : ME} {Φ : Option AV → AM → Prop} {pc : Nat} {L : List (Option AV)} {st : List AV} {m : AM} {a : Nat × Nat} {i idx : Nat} {x : Int32} (hl : Cond.fieldLink E.2.1 idx "BelievedWordsModel" "lineTo" "I" ∈ TB) (hd : decode E.1 pc = .ok (.putfield idx, 3)) (kk : B E Φ (pc + 3) L st (mset m i 23 x) a) : B E Φ pc L (vi x :: vr 11 i :: st) m a := b_put 23 (vi x) (mset m i 23 x) tyX11 .int (T := TX11) (N := 28) (C := RX11) rfl (by decide) (by decide) uTB11 tyX11_ok nmX11 (Or.inl hl) rfl (by decide +kernel) (fun _ => rfl) (fun _ => rfl) (fun _ => Nat.le_of_ble_eq_true rfl) (fun ad => by simp [flds, mset, cvA]) rfl (fun Y ad a h => cel_mset_ne _ _ h) (fun _ h => h) hd kk
theorem gf11_24 {E : ME} {Φ : Option AV → AM → Prop} {pc : Nat} {L : List (Option AV)} {st : List AV} {m : AM} {a : Nat × Nat} {i idx : Nat} (j : Nat) (hj : i + 12 = j) (hl : Cond.fieldLink E.2.1 idx "BelievedWordsModel" "isKept" "[Z" ∈ TB) (hd : decode E.1 pc = .ok (.getfield idx, 3)) (kk : B E Φ (pc + 3) L (vr 20002 j :: st) m a) : B E Φ pc L (vr 11 i :: st) m a := by
  subst hj
  exact b_get 24 (vr 20002 (i + 12)) (T := TX11) (N := 28) (C := RX11) rfl (by decide) (by decide) uTB11 (Or.inl hl) (fun ad => rfl) (fun h h2 => kd_off 11 20002 12 (by decide +kernel) (by decide) h h2) hd kk
theorem gf11_25 {E : ME} {Φ : Option AV → AM → Prop} {pc : Nat} {L : List (Option AV)} {st : List AV} {m : AM} {a : Nat × Nat} {i idx : Nat} (j : Nat) (hj : i + 13 = j) (hl : Cond.fieldLink E.2.1 idx "BelievedWordsModel" "kept" "[I" ∈ TB) (hd : decode E.1 pc = .ok (.getfield idx, 3)) (kk : B E Φ (pc + 3) L (vr 200 j :: st) m a) : B E Φ pc L (vr 11 i :: st) m a := by
  subst hj
  exact b_get 25 (vr 200 (i + 13)) (T := TX11) (N := 28) (C := RX11) rfl (by decide) (by decide) uTB11 (Or.inl hl) (fun ad => rfl) (fun h h2 => kd_off 11 200 13 (by decide +kernel) (by decide) h h2) hd kk
theorem gf11_26 {E : ME} {Φ : Option AV → AM → Prop} {pc : Nat} {L : List (Option AV)} {st : List AV} {m : AM} {a : Nat × Nat} {i idx : Nat} (j : Nat) (hj : i + 14 = j) (hl : Cond.fieldLink E.2.1 idx "BelievedWordsModel" "trace" "[I" ∈ TB) (hd : decode E.1 pc = .ok (.getfield idx, 3)) (kk : B E Φ (pc + 3) L (vr 116 j :: st) m a) : B E Φ pc L (vr 11 i :: st) m a := by
  subst hj
  exact b_get 26 (vr 116 (i + 14)) (T := TX11) (N := 28) (C := RX11) rfl (by decide) (by decide) uTB11 (Or.inl hl) (fun ad => rfl) (fun h h2 => kd_off 11 116 14 (by decide +kernel) (by decide) h h2) hd kk
theorem gf11_27 {E : ME} {Φ : Option AV → AM → Prop} {pc : Nat} {L : List (Option AV)} {st : List AV} {m : AM} {a : Nat × Nat} {i idx : Nat} (hl : Cond.fieldLink E.2.1 idx "BelievedWordsModel" "traced" "I" ∈ TB) (hd : decode E.1 pc = .ok (.getfield idx, 3)) (kk : B E Φ (pc + 3) L (vi (m.1 i 27) :: st) m a) : B E Φ pc L (vr 11 i :: st) m a := b_get 27 (vi (m.1 i 27)) (T := TX11) (N := 28) (C := RX11) rfl (by decide) (by decide) uTB11 (Or.inl hl) (fun ad => rfl) (fun _ _ => trivial) hd kk
theorem pf11_27 {E : ME} {Φ : Option AV → AM → Prop} {pc : Nat} {L : List (Option AV)} {st : List AV} {m : AM} {a : Nat × Nat} {i idx : Nat} {x : Int32} (hl : Cond.fieldLink E.2.1 idx "BelievedWordsModel" "traced" "I" ∈ TB) (hd : decode E.1 pc = .ok (.putfield idx, 3)) (kk : B E Φ (pc + 3) L st (mset m i 27 x) a) : B E Φ pc L (vi x :: vr 11 i :: st) m a := b_put 27 (vi x) (mset m i 27 x) tyX11 .int (T := TX11) (N := 28) (C := RX11) rfl (by decide) (by decide) uTB11 tyX11_ok nmX11 (Or.inl hl) rfl (by decide +kernel) (fun _ => rfl) (fun _ => rfl) (fun _ => Nat.le_of_ble_eq_true rfl) (fun ad => by simp [flds, mset, cvA]) rfl (fun Y ad a h => cel_mset_ne _ _ h) (fun _ h => h) hd kk
def notL (o : Option AV) : Prop := ∀ x, o ≠ some (vl x)
theorem notL_i {x : Int32} : notL (some (vi x)) := fun y h => by cases h
theorem notL_r {t i : Nat} : notL (some (vr t i)) := fun y h => by cases h
theorem notL_n : notL none := fun y h => by cases h
theorem noL_0 (L : List (Option AV)) : noL L 0 := fun k x h => absurd h (Nat.succ_ne_zero k)
theorem noL_s {L : List (Option AV)} {j : Nat} {o : Option AV} (h : L[j]? = some o) (hn : notL o) : noL L (j + 1) := fun k x e h2 => by
  have e2 : k = j := Nat.succ.inj e
  subst e2
  rw [h] at h2
  exact hn x (Option.some.inj h2)
theorem siN0 {E : ME} {Φ : Option AV → AM → Prop} {pc : Nat} {st : List AV} {m : AM} {a : Nat × Nat} {k4 : Fin 4} {x : Int32} {o : Option AV} {L : List (Option AV)} (hj : (k4 : Nat) = 0) (hj2 : 0 < E.2.2.1) (hd : decode E.1 pc = .ok (.istore_n k4, 1)) (k : B E Φ (pc + 1) (some (vi x) :: L) st m a) : B E Φ pc (o :: L) (vi x :: st) m a := b_istoreN 0 hd hj (noL_0 _) hj2 k
theorem siG0 {E : ME} {Φ : Option AV → AM → Prop} {pc : Nat} {st : List AV} {m : AM} {a : Nat × Nat} {x : Int32} {o : Option AV} {L : List (Option AV)} (hj2 : 0 < E.2.2.1) (hd : decode E.1 pc = .ok (.istore 0, 2)) (k : B E Φ (pc + 2) (some (vi x) :: L) st m a) : B E Φ pc (o :: L) (vi x :: st) m a := b_istoreG 0 hd (noL_0 _) hj2 k
theorem saN0 {E : ME} {Φ : Option AV → AM → Prop} {pc : Nat} {st : List AV} {m : AM} {a : Nat × Nat} {k4 : Fin 4} {t i : Nat} {o : Option AV} {L : List (Option AV)} (hj : (k4 : Nat) = 0) (hj2 : 0 < E.2.2.1) (hd : decode E.1 pc = .ok (.astore_n k4, 1)) (k : B E Φ (pc + 1) (some (vr t i) :: L) st m a) : B E Φ pc (o :: L) (vr t i :: st) m a := b_astoreN 0 hd hj (noL_0 _) hj2 k
theorem saG0 {E : ME} {Φ : Option AV → AM → Prop} {pc : Nat} {st : List AV} {m : AM} {a : Nat × Nat} {t i : Nat} {o : Option AV} {L : List (Option AV)} (hj2 : 0 < E.2.2.1) (hd : decode E.1 pc = .ok (.astore 0, 2)) (k : B E Φ (pc + 2) (some (vr t i) :: L) st m a) : B E Φ pc (o :: L) (vr t i :: st) m a := b_astoreG 0 hd (noL_0 _) hj2 k
theorem inc0 {E : ME} {Φ : Option AV → AM → Prop} {pc : Nat} {st : List AV} {m : AM} {a : Nat × Nat} {x : Int32} {n : Int} {L : List (Option AV)} (hj2 : 0 < E.2.2.1) (hd : decode E.1 pc = .ok (.iinc 0 n, 3)) (k : B E Φ (pc + 3) (some (vi (x + Int32.ofInt n)) :: L) st m a) : B E Φ pc (some (vi x) :: L) st m a := b_iincG 0 hd rfl (noL_0 _) hj2 k
theorem slN0 {E : ME} {Φ : Option AV → AM → Prop} {pc : Nat} {st : List AV} {m : AM} {a : Nat × Nat} {k4 : Fin 4} {x : Int64} {o o' : Option AV} {L : List (Option AV)} (hj : (k4 : Nat) = 0) (hj2 : 1 < E.2.2.1) (hd : decode E.1 pc = .ok (.lstore_n k4, 1)) (k : B E Φ (pc + 1) (some (vl x) :: none :: L) st m a) : B E Φ pc (o :: o' :: L) (vl x :: st) m a := b_lstoreN 0 hd hj (noL_0 _) hj2 k
theorem slG0 {E : ME} {Φ : Option AV → AM → Prop} {pc : Nat} {st : List AV} {m : AM} {a : Nat × Nat} {x : Int64} {o o' : Option AV} {L : List (Option AV)} (hj2 : 1 < E.2.2.1) (hd : decode E.1 pc = .ok (.lstore 0, 2)) (k : B E Φ (pc + 2) (some (vl x) :: none :: L) st m a) : B E Φ pc (o :: o' :: L) (vl x :: st) m a := b_lstoreG 0 hd (noL_0 _) hj2 k
theorem siN1 {E : ME} {Φ : Option AV → AM → Prop} {pc : Nat} {st : List AV} {m : AM} {a : Nat × Nat} {k4 : Fin 4} {x : Int32} {o0 o : Option AV} {L : List (Option AV)} (hj : (k4 : Nat) = 1) (hn : notL o0) (hj2 : 1 < E.2.2.1) (hd : decode E.1 pc = .ok (.istore_n k4, 1)) (k : B E Φ (pc + 1) (o0 :: some (vi x) :: L) st m a) : B E Φ pc (o0 :: o :: L) (vi x :: st) m a := b_istoreN 1 hd hj (noL_s rfl hn) hj2 k
theorem siG1 {E : ME} {Φ : Option AV → AM → Prop} {pc : Nat} {st : List AV} {m : AM} {a : Nat × Nat} {x : Int32} {o0 o : Option AV} {L : List (Option AV)} (hn : notL o0) (hj2 : 1 < E.2.2.1) (hd : decode E.1 pc = .ok (.istore 1, 2)) (k : B E Φ (pc + 2) (o0 :: some (vi x) :: L) st m a) : B E Φ pc (o0 :: o :: L) (vi x :: st) m a := b_istoreG 1 hd (noL_s rfl hn) hj2 k
theorem saN1 {E : ME} {Φ : Option AV → AM → Prop} {pc : Nat} {st : List AV} {m : AM} {a : Nat × Nat} {k4 : Fin 4} {t i : Nat} {o0 o : Option AV} {L : List (Option AV)} (hj : (k4 : Nat) = 1) (hn : notL o0) (hj2 : 1 < E.2.2.1) (hd : decode E.1 pc = .ok (.astore_n k4, 1)) (k : B E Φ (pc + 1) (o0 :: some (vr t i) :: L) st m a) : B E Φ pc (o0 :: o :: L) (vr t i :: st) m a := b_astoreN 1 hd hj (noL_s rfl hn) hj2 k
theorem saG1 {E : ME} {Φ : Option AV → AM → Prop} {pc : Nat} {st : List AV} {m : AM} {a : Nat × Nat} {t i : Nat} {o0 o : Option AV} {L : List (Option AV)} (hn : notL o0) (hj2 : 1 < E.2.2.1) (hd : decode E.1 pc = .ok (.astore 1, 2)) (k : B E Φ (pc + 2) (o0 :: some (vr t i) :: L) st m a) : B E Φ pc (o0 :: o :: L) (vr t i :: st) m a := b_astoreG 1 hd (noL_s rfl hn) hj2 k
theorem inc1 {E : ME} {Φ : Option AV → AM → Prop} {pc : Nat} {st : List AV} {m : AM} {a : Nat × Nat} {x : Int32} {n : Int} {o0 : Option AV} {L : List (Option AV)} (hn : notL o0) (hj2 : 1 < E.2.2.1) (hd : decode E.1 pc = .ok (.iinc 1 n, 3)) (k : B E Φ (pc + 3) (o0 :: some (vi (x + Int32.ofInt n)) :: L) st m a) : B E Φ pc (o0 :: some (vi x) :: L) st m a := b_iincG 1 hd rfl (noL_s rfl hn) hj2 k
theorem slN1 {E : ME} {Φ : Option AV → AM → Prop} {pc : Nat} {st : List AV} {m : AM} {a : Nat × Nat} {k4 : Fin 4} {x : Int64} {o0 o o' : Option AV} {L : List (Option AV)} (hj : (k4 : Nat) = 1) (hn : notL o0) (hj2 : 2 < E.2.2.1) (hd : decode E.1 pc = .ok (.lstore_n k4, 1)) (k : B E Φ (pc + 1) (o0 :: some (vl x) :: none :: L) st m a) : B E Φ pc (o0 :: o :: o' :: L) (vl x :: st) m a := b_lstoreN 1 hd hj (noL_s rfl hn) hj2 k
theorem slG1 {E : ME} {Φ : Option AV → AM → Prop} {pc : Nat} {st : List AV} {m : AM} {a : Nat × Nat} {x : Int64} {o0 o o' : Option AV} {L : List (Option AV)} (hn : notL o0) (hj2 : 2 < E.2.2.1) (hd : decode E.1 pc = .ok (.lstore 1, 2)) (k : B E Φ (pc + 2) (o0 :: some (vl x) :: none :: L) st m a) : B E Φ pc (o0 :: o :: o' :: L) (vl x :: st) m a := b_lstoreG 1 hd (noL_s rfl hn) hj2 k
theorem siN2 {E : ME} {Φ : Option AV → AM → Prop} {pc : Nat} {st : List AV} {m : AM} {a : Nat × Nat} {k4 : Fin 4} {x : Int32} {o0 o1 o : Option AV} {L : List (Option AV)} (hj : (k4 : Nat) = 2) (hn : notL o1) (hj2 : 2 < E.2.2.1) (hd : decode E.1 pc = .ok (.istore_n k4, 1)) (k : B E Φ (pc + 1) (o0 :: o1 :: some (vi x) :: L) st m a) : B E Φ pc (o0 :: o1 :: o :: L) (vi x :: st) m a := b_istoreN 2 hd hj (noL_s rfl hn) hj2 k
theorem siG2 {E : ME} {Φ : Option AV → AM → Prop} {pc : Nat} {st : List AV} {m : AM} {a : Nat × Nat} {x : Int32} {o0 o1 o : Option AV} {L : List (Option AV)} (hn : notL o1) (hj2 : 2 < E.2.2.1) (hd : decode E.1 pc = .ok (.istore 2, 2)) (k : B E Φ (pc + 2) (o0 :: o1 :: some (vi x) :: L) st m a) : B E Φ pc (o0 :: o1 :: o :: L) (vi x :: st) m a := b_istoreG 2 hd (noL_s rfl hn) hj2 k
theorem saN2 {E : ME} {Φ : Option AV → AM → Prop} {pc : Nat} {st : List AV} {m : AM} {a : Nat × Nat} {k4 : Fin 4} {t i : Nat} {o0 o1 o : Option AV} {L : List (Option AV)} (hj : (k4 : Nat) = 2) (hn : notL o1) (hj2 : 2 < E.2.2.1) (hd : decode E.1 pc = .ok (.astore_n k4, 1)) (k : B E Φ (pc + 1) (o0 :: o1 :: some (vr t i) :: L) st m a) : B E Φ pc (o0 :: o1 :: o :: L) (vr t i :: st) m a := b_astoreN 2 hd hj (noL_s rfl hn) hj2 k
theorem saG2 {E : ME} {Φ : Option AV → AM → Prop} {pc : Nat} {st : List AV} {m : AM} {a : Nat × Nat} {t i : Nat} {o0 o1 o : Option AV} {L : List (Option AV)} (hn : notL o1) (hj2 : 2 < E.2.2.1) (hd : decode E.1 pc = .ok (.astore 2, 2)) (k : B E Φ (pc + 2) (o0 :: o1 :: some (vr t i) :: L) st m a) : B E Φ pc (o0 :: o1 :: o :: L) (vr t i :: st) m a := b_astoreG 2 hd (noL_s rfl hn) hj2 k
theorem inc2 {E : ME} {Φ : Option AV → AM → Prop} {pc : Nat} {st : List AV} {m : AM} {a : Nat × Nat} {x : Int32} {n : Int} {o0 o1 : Option AV} {L : List (Option AV)} (hn : notL o1) (hj2 : 2 < E.2.2.1) (hd : decode E.1 pc = .ok (.iinc 2 n, 3)) (k : B E Φ (pc + 3) (o0 :: o1 :: some (vi (x + Int32.ofInt n)) :: L) st m a) : B E Φ pc (o0 :: o1 :: some (vi x) :: L) st m a := b_iincG 2 hd rfl (noL_s rfl hn) hj2 k
theorem slN2 {E : ME} {Φ : Option AV → AM → Prop} {pc : Nat} {st : List AV} {m : AM} {a : Nat × Nat} {k4 : Fin 4} {x : Int64} {o0 o1 o o' : Option AV} {L : List (Option AV)} (hj : (k4 : Nat) = 2) (hn : notL o1) (hj2 : 3 < E.2.2.1) (hd : decode E.1 pc = .ok (.lstore_n k4, 1)) (k : B E Φ (pc + 1) (o0 :: o1 :: some (vl x) :: none :: L) st m a) : B E Φ pc (o0 :: o1 :: o :: o' :: L) (vl x :: st) m a := b_lstoreN 2 hd hj (noL_s rfl hn) hj2 k
theorem slG2 {E : ME} {Φ : Option AV → AM → Prop} {pc : Nat} {st : List AV} {m : AM} {a : Nat × Nat} {x : Int64} {o0 o1 o o' : Option AV} {L : List (Option AV)} (hn : notL o1) (hj2 : 3 < E.2.2.1) (hd : decode E.1 pc = .ok (.lstore 2, 2)) (k : B E Φ (pc + 2) (o0 :: o1 :: some (vl x) :: none :: L) st m a) : B E Φ pc (o0 :: o1 :: o :: o' :: L) (vl x :: st) m a := b_lstoreG 2 hd (noL_s rfl hn) hj2 k
theorem siN3 {E : ME} {Φ : Option AV → AM → Prop} {pc : Nat} {st : List AV} {m : AM} {a : Nat × Nat} {k4 : Fin 4} {x : Int32} {o0 o1 o2 o : Option AV} {L : List (Option AV)} (hj : (k4 : Nat) = 3) (hn : notL o2) (hj2 : 3 < E.2.2.1) (hd : decode E.1 pc = .ok (.istore_n k4, 1)) (k : B E Φ (pc + 1) (o0 :: o1 :: o2 :: some (vi x) :: L) st m a) : B E Φ pc (o0 :: o1 :: o2 :: o :: L) (vi x :: st) m a := b_istoreN 3 hd hj (noL_s rfl hn) hj2 k
theorem siG3 {E : ME} {Φ : Option AV → AM → Prop} {pc : Nat} {st : List AV} {m : AM} {a : Nat × Nat} {x : Int32} {o0 o1 o2 o : Option AV} {L : List (Option AV)} (hn : notL o2) (hj2 : 3 < E.2.2.1) (hd : decode E.1 pc = .ok (.istore 3, 2)) (k : B E Φ (pc + 2) (o0 :: o1 :: o2 :: some (vi x) :: L) st m a) : B E Φ pc (o0 :: o1 :: o2 :: o :: L) (vi x :: st) m a := b_istoreG 3 hd (noL_s rfl hn) hj2 k
theorem saN3 {E : ME} {Φ : Option AV → AM → Prop} {pc : Nat} {st : List AV} {m : AM} {a : Nat × Nat} {k4 : Fin 4} {t i : Nat} {o0 o1 o2 o : Option AV} {L : List (Option AV)} (hj : (k4 : Nat) = 3) (hn : notL o2) (hj2 : 3 < E.2.2.1) (hd : decode E.1 pc = .ok (.astore_n k4, 1)) (k : B E Φ (pc + 1) (o0 :: o1 :: o2 :: some (vr t i) :: L) st m a) : B E Φ pc (o0 :: o1 :: o2 :: o :: L) (vr t i :: st) m a := b_astoreN 3 hd hj (noL_s rfl hn) hj2 k
theorem saG3 {E : ME} {Φ : Option AV → AM → Prop} {pc : Nat} {st : List AV} {m : AM} {a : Nat × Nat} {t i : Nat} {o0 o1 o2 o : Option AV} {L : List (Option AV)} (hn : notL o2) (hj2 : 3 < E.2.2.1) (hd : decode E.1 pc = .ok (.astore 3, 2)) (k : B E Φ (pc + 2) (o0 :: o1 :: o2 :: some (vr t i) :: L) st m a) : B E Φ pc (o0 :: o1 :: o2 :: o :: L) (vr t i :: st) m a := b_astoreG 3 hd (noL_s rfl hn) hj2 k
theorem inc3 {E : ME} {Φ : Option AV → AM → Prop} {pc : Nat} {st : List AV} {m : AM} {a : Nat × Nat} {x : Int32} {n : Int} {o0 o1 o2 : Option AV} {L : List (Option AV)} (hn : notL o2) (hj2 : 3 < E.2.2.1) (hd : decode E.1 pc = .ok (.iinc 3 n, 3)) (k : B E Φ (pc + 3) (o0 :: o1 :: o2 :: some (vi (x + Int32.ofInt n)) :: L) st m a) : B E Φ pc (o0 :: o1 :: o2 :: some (vi x) :: L) st m a := b_iincG 3 hd rfl (noL_s rfl hn) hj2 k
theorem slN3 {E : ME} {Φ : Option AV → AM → Prop} {pc : Nat} {st : List AV} {m : AM} {a : Nat × Nat} {k4 : Fin 4} {x : Int64} {o0 o1 o2 o o' : Option AV} {L : List (Option AV)} (hj : (k4 : Nat) = 3) (hn : notL o2) (hj2 : 4 < E.2.2.1) (hd : decode E.1 pc = .ok (.lstore_n k4, 1)) (k : B E Φ (pc + 1) (o0 :: o1 :: o2 :: some (vl x) :: none :: L) st m a) : B E Φ pc (o0 :: o1 :: o2 :: o :: o' :: L) (vl x :: st) m a := b_lstoreN 3 hd hj (noL_s rfl hn) hj2 k
theorem slG3 {E : ME} {Φ : Option AV → AM → Prop} {pc : Nat} {st : List AV} {m : AM} {a : Nat × Nat} {x : Int64} {o0 o1 o2 o o' : Option AV} {L : List (Option AV)} (hn : notL o2) (hj2 : 4 < E.2.2.1) (hd : decode E.1 pc = .ok (.lstore 3, 2)) (k : B E Φ (pc + 2) (o0 :: o1 :: o2 :: some (vl x) :: none :: L) st m a) : B E Φ pc (o0 :: o1 :: o2 :: o :: o' :: L) (vl x :: st) m a := b_lstoreG 3 hd (noL_s rfl hn) hj2 k
theorem siG4 {E : ME} {Φ : Option AV → AM → Prop} {pc : Nat} {st : List AV} {m : AM} {a : Nat × Nat} {x : Int32} {o0 o1 o2 o3 o : Option AV} {L : List (Option AV)} (hn : notL o3) (hj2 : 4 < E.2.2.1) (hd : decode E.1 pc = .ok (.istore 4, 2)) (k : B E Φ (pc + 2) (o0 :: o1 :: o2 :: o3 :: some (vi x) :: L) st m a) : B E Φ pc (o0 :: o1 :: o2 :: o3 :: o :: L) (vi x :: st) m a := b_istoreG 4 hd (noL_s rfl hn) hj2 k
theorem saG4 {E : ME} {Φ : Option AV → AM → Prop} {pc : Nat} {st : List AV} {m : AM} {a : Nat × Nat} {t i : Nat} {o0 o1 o2 o3 o : Option AV} {L : List (Option AV)} (hn : notL o3) (hj2 : 4 < E.2.2.1) (hd : decode E.1 pc = .ok (.astore 4, 2)) (k : B E Φ (pc + 2) (o0 :: o1 :: o2 :: o3 :: some (vr t i) :: L) st m a) : B E Φ pc (o0 :: o1 :: o2 :: o3 :: o :: L) (vr t i :: st) m a := b_astoreG 4 hd (noL_s rfl hn) hj2 k
theorem inc4 {E : ME} {Φ : Option AV → AM → Prop} {pc : Nat} {st : List AV} {m : AM} {a : Nat × Nat} {x : Int32} {n : Int} {o0 o1 o2 o3 : Option AV} {L : List (Option AV)} (hn : notL o3) (hj2 : 4 < E.2.2.1) (hd : decode E.1 pc = .ok (.iinc 4 n, 3)) (k : B E Φ (pc + 3) (o0 :: o1 :: o2 :: o3 :: some (vi (x + Int32.ofInt n)) :: L) st m a) : B E Φ pc (o0 :: o1 :: o2 :: o3 :: some (vi x) :: L) st m a := b_iincG 4 hd rfl (noL_s rfl hn) hj2 k
theorem slG4 {E : ME} {Φ : Option AV → AM → Prop} {pc : Nat} {st : List AV} {m : AM} {a : Nat × Nat} {x : Int64} {o0 o1 o2 o3 o o' : Option AV} {L : List (Option AV)} (hn : notL o3) (hj2 : 5 < E.2.2.1) (hd : decode E.1 pc = .ok (.lstore 4, 2)) (k : B E Φ (pc + 2) (o0 :: o1 :: o2 :: o3 :: some (vl x) :: none :: L) st m a) : B E Φ pc (o0 :: o1 :: o2 :: o3 :: o :: o' :: L) (vl x :: st) m a := b_lstoreG 4 hd (noL_s rfl hn) hj2 k
theorem siG5 {E : ME} {Φ : Option AV → AM → Prop} {pc : Nat} {st : List AV} {m : AM} {a : Nat × Nat} {x : Int32} {o0 o1 o2 o3 o4 o : Option AV} {L : List (Option AV)} (hn : notL o4) (hj2 : 5 < E.2.2.1) (hd : decode E.1 pc = .ok (.istore 5, 2)) (k : B E Φ (pc + 2) (o0 :: o1 :: o2 :: o3 :: o4 :: some (vi x) :: L) st m a) : B E Φ pc (o0 :: o1 :: o2 :: o3 :: o4 :: o :: L) (vi x :: st) m a := b_istoreG 5 hd (noL_s rfl hn) hj2 k
theorem saG5 {E : ME} {Φ : Option AV → AM → Prop} {pc : Nat} {st : List AV} {m : AM} {a : Nat × Nat} {t i : Nat} {o0 o1 o2 o3 o4 o : Option AV} {L : List (Option AV)} (hn : notL o4) (hj2 : 5 < E.2.2.1) (hd : decode E.1 pc = .ok (.astore 5, 2)) (k : B E Φ (pc + 2) (o0 :: o1 :: o2 :: o3 :: o4 :: some (vr t i) :: L) st m a) : B E Φ pc (o0 :: o1 :: o2 :: o3 :: o4 :: o :: L) (vr t i :: st) m a := b_astoreG 5 hd (noL_s rfl hn) hj2 k
theorem inc5 {E : ME} {Φ : Option AV → AM → Prop} {pc : Nat} {st : List AV} {m : AM} {a : Nat × Nat} {x : Int32} {n : Int} {o0 o1 o2 o3 o4 : Option AV} {L : List (Option AV)} (hn : notL o4) (hj2 : 5 < E.2.2.1) (hd : decode E.1 pc = .ok (.iinc 5 n, 3)) (k : B E Φ (pc + 3) (o0 :: o1 :: o2 :: o3 :: o4 :: some (vi (x + Int32.ofInt n)) :: L) st m a) : B E Φ pc (o0 :: o1 :: o2 :: o3 :: o4 :: some (vi x) :: L) st m a := b_iincG 5 hd rfl (noL_s rfl hn) hj2 k
theorem slG5 {E : ME} {Φ : Option AV → AM → Prop} {pc : Nat} {st : List AV} {m : AM} {a : Nat × Nat} {x : Int64} {o0 o1 o2 o3 o4 o o' : Option AV} {L : List (Option AV)} (hn : notL o4) (hj2 : 6 < E.2.2.1) (hd : decode E.1 pc = .ok (.lstore 5, 2)) (k : B E Φ (pc + 2) (o0 :: o1 :: o2 :: o3 :: o4 :: some (vl x) :: none :: L) st m a) : B E Φ pc (o0 :: o1 :: o2 :: o3 :: o4 :: o :: o' :: L) (vl x :: st) m a := b_lstoreG 5 hd (noL_s rfl hn) hj2 k
theorem siG6 {E : ME} {Φ : Option AV → AM → Prop} {pc : Nat} {st : List AV} {m : AM} {a : Nat × Nat} {x : Int32} {o0 o1 o2 o3 o4 o5 o : Option AV} {L : List (Option AV)} (hn : notL o5) (hj2 : 6 < E.2.2.1) (hd : decode E.1 pc = .ok (.istore 6, 2)) (k : B E Φ (pc + 2) (o0 :: o1 :: o2 :: o3 :: o4 :: o5 :: some (vi x) :: L) st m a) : B E Φ pc (o0 :: o1 :: o2 :: o3 :: o4 :: o5 :: o :: L) (vi x :: st) m a := b_istoreG 6 hd (noL_s rfl hn) hj2 k
theorem saG6 {E : ME} {Φ : Option AV → AM → Prop} {pc : Nat} {st : List AV} {m : AM} {a : Nat × Nat} {t i : Nat} {o0 o1 o2 o3 o4 o5 o : Option AV} {L : List (Option AV)} (hn : notL o5) (hj2 : 6 < E.2.2.1) (hd : decode E.1 pc = .ok (.astore 6, 2)) (k : B E Φ (pc + 2) (o0 :: o1 :: o2 :: o3 :: o4 :: o5 :: some (vr t i) :: L) st m a) : B E Φ pc (o0 :: o1 :: o2 :: o3 :: o4 :: o5 :: o :: L) (vr t i :: st) m a := b_astoreG 6 hd (noL_s rfl hn) hj2 k
theorem inc6 {E : ME} {Φ : Option AV → AM → Prop} {pc : Nat} {st : List AV} {m : AM} {a : Nat × Nat} {x : Int32} {n : Int} {o0 o1 o2 o3 o4 o5 : Option AV} {L : List (Option AV)} (hn : notL o5) (hj2 : 6 < E.2.2.1) (hd : decode E.1 pc = .ok (.iinc 6 n, 3)) (k : B E Φ (pc + 3) (o0 :: o1 :: o2 :: o3 :: o4 :: o5 :: some (vi (x + Int32.ofInt n)) :: L) st m a) : B E Φ pc (o0 :: o1 :: o2 :: o3 :: o4 :: o5 :: some (vi x) :: L) st m a := b_iincG 6 hd rfl (noL_s rfl hn) hj2 k
theorem slG6 {E : ME} {Φ : Option AV → AM → Prop} {pc : Nat} {st : List AV} {m : AM} {a : Nat × Nat} {x : Int64} {o0 o1 o2 o3 o4 o5 o o' : Option AV} {L : List (Option AV)} (hn : notL o5) (hj2 : 7 < E.2.2.1) (hd : decode E.1 pc = .ok (.lstore 6, 2)) (k : B E Φ (pc + 2) (o0 :: o1 :: o2 :: o3 :: o4 :: o5 :: some (vl x) :: none :: L) st m a) : B E Φ pc (o0 :: o1 :: o2 :: o3 :: o4 :: o5 :: o :: o' :: L) (vl x :: st) m a := b_lstoreG 6 hd (noL_s rfl hn) hj2 k
theorem siG7 {E : ME} {Φ : Option AV → AM → Prop} {pc : Nat} {st : List AV} {m : AM} {a : Nat × Nat} {x : Int32} {o0 o1 o2 o3 o4 o5 o6 o : Option AV} {L : List (Option AV)} (hn : notL o6) (hj2 : 7 < E.2.2.1) (hd : decode E.1 pc = .ok (.istore 7, 2)) (k : B E Φ (pc + 2) (o0 :: o1 :: o2 :: o3 :: o4 :: o5 :: o6 :: some (vi x) :: L) st m a) : B E Φ pc (o0 :: o1 :: o2 :: o3 :: o4 :: o5 :: o6 :: o :: L) (vi x :: st) m a := b_istoreG 7 hd (noL_s rfl hn) hj2 k
theorem saG7 {E : ME} {Φ : Option AV → AM → Prop} {pc : Nat} {st : List AV} {m : AM} {a : Nat × Nat} {t i : Nat} {o0 o1 o2 o3 o4 o5 o6 o : Option AV} {L : List (Option AV)} (hn : notL o6) (hj2 : 7 < E.2.2.1) (hd : decode E.1 pc = .ok (.astore 7, 2)) (k : B E Φ (pc + 2) (o0 :: o1 :: o2 :: o3 :: o4 :: o5 :: o6 :: some (vr t i) :: L) st m a) : B E Φ pc (o0 :: o1 :: o2 :: o3 :: o4 :: o5 :: o6 :: o :: L) (vr t i :: st) m a := b_astoreG 7 hd (noL_s rfl hn) hj2 k
theorem inc7 {E : ME} {Φ : Option AV → AM → Prop} {pc : Nat} {st : List AV} {m : AM} {a : Nat × Nat} {x : Int32} {n : Int} {o0 o1 o2 o3 o4 o5 o6 : Option AV} {L : List (Option AV)} (hn : notL o6) (hj2 : 7 < E.2.2.1) (hd : decode E.1 pc = .ok (.iinc 7 n, 3)) (k : B E Φ (pc + 3) (o0 :: o1 :: o2 :: o3 :: o4 :: o5 :: o6 :: some (vi (x + Int32.ofInt n)) :: L) st m a) : B E Φ pc (o0 :: o1 :: o2 :: o3 :: o4 :: o5 :: o6 :: some (vi x) :: L) st m a := b_iincG 7 hd rfl (noL_s rfl hn) hj2 k
theorem slG7 {E : ME} {Φ : Option AV → AM → Prop} {pc : Nat} {st : List AV} {m : AM} {a : Nat × Nat} {x : Int64} {o0 o1 o2 o3 o4 o5 o6 o o' : Option AV} {L : List (Option AV)} (hn : notL o6) (hj2 : 8 < E.2.2.1) (hd : decode E.1 pc = .ok (.lstore 7, 2)) (k : B E Φ (pc + 2) (o0 :: o1 :: o2 :: o3 :: o4 :: o5 :: o6 :: some (vl x) :: none :: L) st m a) : B E Φ pc (o0 :: o1 :: o2 :: o3 :: o4 :: o5 :: o6 :: o :: o' :: L) (vl x :: st) m a := b_lstoreG 7 hd (noL_s rfl hn) hj2 k
theorem siG8 {E : ME} {Φ : Option AV → AM → Prop} {pc : Nat} {st : List AV} {m : AM} {a : Nat × Nat} {x : Int32} {o0 o1 o2 o3 o4 o5 o6 o7 o : Option AV} {L : List (Option AV)} (hn : notL o7) (hj2 : 8 < E.2.2.1) (hd : decode E.1 pc = .ok (.istore 8, 2)) (k : B E Φ (pc + 2) (o0 :: o1 :: o2 :: o3 :: o4 :: o5 :: o6 :: o7 :: some (vi x) :: L) st m a) : B E Φ pc (o0 :: o1 :: o2 :: o3 :: o4 :: o5 :: o6 :: o7 :: o :: L) (vi x :: st) m a := b_istoreG 8 hd (noL_s rfl hn) hj2 k
theorem saG8 {E : ME} {Φ : Option AV → AM → Prop} {pc : Nat} {st : List AV} {m : AM} {a : Nat × Nat} {t i : Nat} {o0 o1 o2 o3 o4 o5 o6 o7 o : Option AV} {L : List (Option AV)} (hn : notL o7) (hj2 : 8 < E.2.2.1) (hd : decode E.1 pc = .ok (.astore 8, 2)) (k : B E Φ (pc + 2) (o0 :: o1 :: o2 :: o3 :: o4 :: o5 :: o6 :: o7 :: some (vr t i) :: L) st m a) : B E Φ pc (o0 :: o1 :: o2 :: o3 :: o4 :: o5 :: o6 :: o7 :: o :: L) (vr t i :: st) m a := b_astoreG 8 hd (noL_s rfl hn) hj2 k
theorem inc8 {E : ME} {Φ : Option AV → AM → Prop} {pc : Nat} {st : List AV} {m : AM} {a : Nat × Nat} {x : Int32} {n : Int} {o0 o1 o2 o3 o4 o5 o6 o7 : Option AV} {L : List (Option AV)} (hn : notL o7) (hj2 : 8 < E.2.2.1) (hd : decode E.1 pc = .ok (.iinc 8 n, 3)) (k : B E Φ (pc + 3) (o0 :: o1 :: o2 :: o3 :: o4 :: o5 :: o6 :: o7 :: some (vi (x + Int32.ofInt n)) :: L) st m a) : B E Φ pc (o0 :: o1 :: o2 :: o3 :: o4 :: o5 :: o6 :: o7 :: some (vi x) :: L) st m a := b_iincG 8 hd rfl (noL_s rfl hn) hj2 k
theorem slG8 {E : ME} {Φ : Option AV → AM → Prop} {pc : Nat} {st : List AV} {m : AM} {a : Nat × Nat} {x : Int64} {o0 o1 o2 o3 o4 o5 o6 o7 o o' : Option AV} {L : List (Option AV)} (hn : notL o7) (hj2 : 9 < E.2.2.1) (hd : decode E.1 pc = .ok (.lstore 8, 2)) (k : B E Φ (pc + 2) (o0 :: o1 :: o2 :: o3 :: o4 :: o5 :: o6 :: o7 :: some (vl x) :: none :: L) st m a) : B E Φ pc (o0 :: o1 :: o2 :: o3 :: o4 :: o5 :: o6 :: o7 :: o :: o' :: L) (vl x :: st) m a := b_lstoreG 8 hd (noL_s rfl hn) hj2 k
theorem siG9 {E : ME} {Φ : Option AV → AM → Prop} {pc : Nat} {st : List AV} {m : AM} {a : Nat × Nat} {x : Int32} {o0 o1 o2 o3 o4 o5 o6 o7 o8 o : Option AV} {L : List (Option AV)} (hn : notL o8) (hj2 : 9 < E.2.2.1) (hd : decode E.1 pc = .ok (.istore 9, 2)) (k : B E Φ (pc + 2) (o0 :: o1 :: o2 :: o3 :: o4 :: o5 :: o6 :: o7 :: o8 :: some (vi x) :: L) st m a) : B E Φ pc (o0 :: o1 :: o2 :: o3 :: o4 :: o5 :: o6 :: o7 :: o8 :: o :: L) (vi x :: st) m a := b_istoreG 9 hd (noL_s rfl hn) hj2 k
theorem saG9 {E : ME} {Φ : Option AV → AM → Prop} {pc : Nat} {st : List AV} {m : AM} {a : Nat × Nat} {t i : Nat} {o0 o1 o2 o3 o4 o5 o6 o7 o8 o : Option AV} {L : List (Option AV)} (hn : notL o8) (hj2 : 9 < E.2.2.1) (hd : decode E.1 pc = .ok (.astore 9, 2)) (k : B E Φ (pc + 2) (o0 :: o1 :: o2 :: o3 :: o4 :: o5 :: o6 :: o7 :: o8 :: some (vr t i) :: L) st m a) : B E Φ pc (o0 :: o1 :: o2 :: o3 :: o4 :: o5 :: o6 :: o7 :: o8 :: o :: L) (vr t i :: st) m a := b_astoreG 9 hd (noL_s rfl hn) hj2 k
theorem inc9 {E : ME} {Φ : Option AV → AM → Prop} {pc : Nat} {st : List AV} {m : AM} {a : Nat × Nat} {x : Int32} {n : Int} {o0 o1 o2 o3 o4 o5 o6 o7 o8 : Option AV} {L : List (Option AV)} (hn : notL o8) (hj2 : 9 < E.2.2.1) (hd : decode E.1 pc = .ok (.iinc 9 n, 3)) (k : B E Φ (pc + 3) (o0 :: o1 :: o2 :: o3 :: o4 :: o5 :: o6 :: o7 :: o8 :: some (vi (x + Int32.ofInt n)) :: L) st m a) : B E Φ pc (o0 :: o1 :: o2 :: o3 :: o4 :: o5 :: o6 :: o7 :: o8 :: some (vi x) :: L) st m a := b_iincG 9 hd rfl (noL_s rfl hn) hj2 k
theorem slG9 {E : ME} {Φ : Option AV → AM → Prop} {pc : Nat} {st : List AV} {m : AM} {a : Nat × Nat} {x : Int64} {o0 o1 o2 o3 o4 o5 o6 o7 o8 o o' : Option AV} {L : List (Option AV)} (hn : notL o8) (hj2 : 10 < E.2.2.1) (hd : decode E.1 pc = .ok (.lstore 9, 2)) (k : B E Φ (pc + 2) (o0 :: o1 :: o2 :: o3 :: o4 :: o5 :: o6 :: o7 :: o8 :: some (vl x) :: none :: L) st m a) : B E Φ pc (o0 :: o1 :: o2 :: o3 :: o4 :: o5 :: o6 :: o7 :: o8 :: o :: o' :: L) (vl x :: st) m a := b_lstoreG 9 hd (noL_s rfl hn) hj2 k
theorem siG10 {E : ME} {Φ : Option AV → AM → Prop} {pc : Nat} {st : List AV} {m : AM} {a : Nat × Nat} {x : Int32} {o0 o1 o2 o3 o4 o5 o6 o7 o8 o9 o : Option AV} {L : List (Option AV)} (hn : notL o9) (hj2 : 10 < E.2.2.1) (hd : decode E.1 pc = .ok (.istore 10, 2)) (k : B E Φ (pc + 2) (o0 :: o1 :: o2 :: o3 :: o4 :: o5 :: o6 :: o7 :: o8 :: o9 :: some (vi x) :: L) st m a) : B E Φ pc (o0 :: o1 :: o2 :: o3 :: o4 :: o5 :: o6 :: o7 :: o8 :: o9 :: o :: L) (vi x :: st) m a := b_istoreG 10 hd (noL_s rfl hn) hj2 k
theorem saG10 {E : ME} {Φ : Option AV → AM → Prop} {pc : Nat} {st : List AV} {m : AM} {a : Nat × Nat} {t i : Nat} {o0 o1 o2 o3 o4 o5 o6 o7 o8 o9 o : Option AV} {L : List (Option AV)} (hn : notL o9) (hj2 : 10 < E.2.2.1) (hd : decode E.1 pc = .ok (.astore 10, 2)) (k : B E Φ (pc + 2) (o0 :: o1 :: o2 :: o3 :: o4 :: o5 :: o6 :: o7 :: o8 :: o9 :: some (vr t i) :: L) st m a) : B E Φ pc (o0 :: o1 :: o2 :: o3 :: o4 :: o5 :: o6 :: o7 :: o8 :: o9 :: o :: L) (vr t i :: st) m a := b_astoreG 10 hd (noL_s rfl hn) hj2 k
theorem inc10 {E : ME} {Φ : Option AV → AM → Prop} {pc : Nat} {st : List AV} {m : AM} {a : Nat × Nat} {x : Int32} {n : Int} {o0 o1 o2 o3 o4 o5 o6 o7 o8 o9 : Option AV} {L : List (Option AV)} (hn : notL o9) (hj2 : 10 < E.2.2.1) (hd : decode E.1 pc = .ok (.iinc 10 n, 3)) (k : B E Φ (pc + 3) (o0 :: o1 :: o2 :: o3 :: o4 :: o5 :: o6 :: o7 :: o8 :: o9 :: some (vi (x + Int32.ofInt n)) :: L) st m a) : B E Φ pc (o0 :: o1 :: o2 :: o3 :: o4 :: o5 :: o6 :: o7 :: o8 :: o9 :: some (vi x) :: L) st m a := b_iincG 10 hd rfl (noL_s rfl hn) hj2 k
theorem slG10 {E : ME} {Φ : Option AV → AM → Prop} {pc : Nat} {st : List AV} {m : AM} {a : Nat × Nat} {x : Int64} {o0 o1 o2 o3 o4 o5 o6 o7 o8 o9 o o' : Option AV} {L : List (Option AV)} (hn : notL o9) (hj2 : 11 < E.2.2.1) (hd : decode E.1 pc = .ok (.lstore 10, 2)) (k : B E Φ (pc + 2) (o0 :: o1 :: o2 :: o3 :: o4 :: o5 :: o6 :: o7 :: o8 :: o9 :: some (vl x) :: none :: L) st m a) : B E Φ pc (o0 :: o1 :: o2 :: o3 :: o4 :: o5 :: o6 :: o7 :: o8 :: o9 :: o :: o' :: L) (vl x :: st) m a := b_lstoreG 10 hd (noL_s rfl hn) hj2 k
theorem siG11 {E : ME} {Φ : Option AV → AM → Prop} {pc : Nat} {st : List AV} {m : AM} {a : Nat × Nat} {x : Int32} {o0 o1 o2 o3 o4 o5 o6 o7 o8 o9 o10 o : Option AV} {L : List (Option AV)} (hn : notL o10) (hj2 : 11 < E.2.2.1) (hd : decode E.1 pc = .ok (.istore 11, 2)) (k : B E Φ (pc + 2) (o0 :: o1 :: o2 :: o3 :: o4 :: o5 :: o6 :: o7 :: o8 :: o9 :: o10 :: some (vi x) :: L) st m a) : B E Φ pc (o0 :: o1 :: o2 :: o3 :: o4 :: o5 :: o6 :: o7 :: o8 :: o9 :: o10 :: o :: L) (vi x :: st) m a := b_istoreG 11 hd (noL_s rfl hn) hj2 k
theorem saG11 {E : ME} {Φ : Option AV → AM → Prop} {pc : Nat} {st : List AV} {m : AM} {a : Nat × Nat} {t i : Nat} {o0 o1 o2 o3 o4 o5 o6 o7 o8 o9 o10 o : Option AV} {L : List (Option AV)} (hn : notL o10) (hj2 : 11 < E.2.2.1) (hd : decode E.1 pc = .ok (.astore 11, 2)) (k : B E Φ (pc + 2) (o0 :: o1 :: o2 :: o3 :: o4 :: o5 :: o6 :: o7 :: o8 :: o9 :: o10 :: some (vr t i) :: L) st m a) : B E Φ pc (o0 :: o1 :: o2 :: o3 :: o4 :: o5 :: o6 :: o7 :: o8 :: o9 :: o10 :: o :: L) (vr t i :: st) m a := b_astoreG 11 hd (noL_s rfl hn) hj2 k
theorem inc11 {E : ME} {Φ : Option AV → AM → Prop} {pc : Nat} {st : List AV} {m : AM} {a : Nat × Nat} {x : Int32} {n : Int} {o0 o1 o2 o3 o4 o5 o6 o7 o8 o9 o10 : Option AV} {L : List (Option AV)} (hn : notL o10) (hj2 : 11 < E.2.2.1) (hd : decode E.1 pc = .ok (.iinc 11 n, 3)) (k : B E Φ (pc + 3) (o0 :: o1 :: o2 :: o3 :: o4 :: o5 :: o6 :: o7 :: o8 :: o9 :: o10 :: some (vi (x + Int32.ofInt n)) :: L) st m a) : B E Φ pc (o0 :: o1 :: o2 :: o3 :: o4 :: o5 :: o6 :: o7 :: o8 :: o9 :: o10 :: some (vi x) :: L) st m a := b_iincG 11 hd rfl (noL_s rfl hn) hj2 k
theorem slG11 {E : ME} {Φ : Option AV → AM → Prop} {pc : Nat} {st : List AV} {m : AM} {a : Nat × Nat} {x : Int64} {o0 o1 o2 o3 o4 o5 o6 o7 o8 o9 o10 o o' : Option AV} {L : List (Option AV)} (hn : notL o10) (hj2 : 12 < E.2.2.1) (hd : decode E.1 pc = .ok (.lstore 11, 2)) (k : B E Φ (pc + 2) (o0 :: o1 :: o2 :: o3 :: o4 :: o5 :: o6 :: o7 :: o8 :: o9 :: o10 :: some (vl x) :: none :: L) st m a) : B E Φ pc (o0 :: o1 :: o2 :: o3 :: o4 :: o5 :: o6 :: o7 :: o8 :: o9 :: o10 :: o :: o' :: L) (vl x :: st) m a := b_lstoreG 11 hd (noL_s rfl hn) hj2 k
theorem siG12 {E : ME} {Φ : Option AV → AM → Prop} {pc : Nat} {st : List AV} {m : AM} {a : Nat × Nat} {x : Int32} {o0 o1 o2 o3 o4 o5 o6 o7 o8 o9 o10 o11 o : Option AV} {L : List (Option AV)} (hn : notL o11) (hj2 : 12 < E.2.2.1) (hd : decode E.1 pc = .ok (.istore 12, 2)) (k : B E Φ (pc + 2) (o0 :: o1 :: o2 :: o3 :: o4 :: o5 :: o6 :: o7 :: o8 :: o9 :: o10 :: o11 :: some (vi x) :: L) st m a) : B E Φ pc (o0 :: o1 :: o2 :: o3 :: o4 :: o5 :: o6 :: o7 :: o8 :: o9 :: o10 :: o11 :: o :: L) (vi x :: st) m a := b_istoreG 12 hd (noL_s rfl hn) hj2 k
theorem saG12 {E : ME} {Φ : Option AV → AM → Prop} {pc : Nat} {st : List AV} {m : AM} {a : Nat × Nat} {t i : Nat} {o0 o1 o2 o3 o4 o5 o6 o7 o8 o9 o10 o11 o : Option AV} {L : List (Option AV)} (hn : notL o11) (hj2 : 12 < E.2.2.1) (hd : decode E.1 pc = .ok (.astore 12, 2)) (k : B E Φ (pc + 2) (o0 :: o1 :: o2 :: o3 :: o4 :: o5 :: o6 :: o7 :: o8 :: o9 :: o10 :: o11 :: some (vr t i) :: L) st m a) : B E Φ pc (o0 :: o1 :: o2 :: o3 :: o4 :: o5 :: o6 :: o7 :: o8 :: o9 :: o10 :: o11 :: o :: L) (vr t i :: st) m a := b_astoreG 12 hd (noL_s rfl hn) hj2 k
theorem inc12 {E : ME} {Φ : Option AV → AM → Prop} {pc : Nat} {st : List AV} {m : AM} {a : Nat × Nat} {x : Int32} {n : Int} {o0 o1 o2 o3 o4 o5 o6 o7 o8 o9 o10 o11 : Option AV} {L : List (Option AV)} (hn : notL o11) (hj2 : 12 < E.2.2.1) (hd : decode E.1 pc = .ok (.iinc 12 n, 3)) (k : B E Φ (pc + 3) (o0 :: o1 :: o2 :: o3 :: o4 :: o5 :: o6 :: o7 :: o8 :: o9 :: o10 :: o11 :: some (vi (x + Int32.ofInt n)) :: L) st m a) : B E Φ pc (o0 :: o1 :: o2 :: o3 :: o4 :: o5 :: o6 :: o7 :: o8 :: o9 :: o10 :: o11 :: some (vi x) :: L) st m a := b_iincG 12 hd rfl (noL_s rfl hn) hj2 k
theorem slG12 {E : ME} {Φ : Option AV → AM → Prop} {pc : Nat} {st : List AV} {m : AM} {a : Nat × Nat} {x : Int64} {o0 o1 o2 o3 o4 o5 o6 o7 o8 o9 o10 o11 o o' : Option AV} {L : List (Option AV)} (hn : notL o11) (hj2 : 13 < E.2.2.1) (hd : decode E.1 pc = .ok (.lstore 12, 2)) (k : B E Φ (pc + 2) (o0 :: o1 :: o2 :: o3 :: o4 :: o5 :: o6 :: o7 :: o8 :: o9 :: o10 :: o11 :: some (vl x) :: none :: L) st m a) : B E Φ pc (o0 :: o1 :: o2 :: o3 :: o4 :: o5 :: o6 :: o7 :: o8 :: o9 :: o10 :: o11 :: o :: o' :: L) (vl x :: st) m a := b_lstoreG 12 hd (noL_s rfl hn) hj2 k
theorem siG13 {E : ME} {Φ : Option AV → AM → Prop} {pc : Nat} {st : List AV} {m : AM} {a : Nat × Nat} {x : Int32} {o0 o1 o2 o3 o4 o5 o6 o7 o8 o9 o10 o11 o12 o : Option AV} {L : List (Option AV)} (hn : notL o12) (hj2 : 13 < E.2.2.1) (hd : decode E.1 pc = .ok (.istore 13, 2)) (k : B E Φ (pc + 2) (o0 :: o1 :: o2 :: o3 :: o4 :: o5 :: o6 :: o7 :: o8 :: o9 :: o10 :: o11 :: o12 :: some (vi x) :: L) st m a) : B E Φ pc (o0 :: o1 :: o2 :: o3 :: o4 :: o5 :: o6 :: o7 :: o8 :: o9 :: o10 :: o11 :: o12 :: o :: L) (vi x :: st) m a := b_istoreG 13 hd (noL_s rfl hn) hj2 k
theorem saG13 {E : ME} {Φ : Option AV → AM → Prop} {pc : Nat} {st : List AV} {m : AM} {a : Nat × Nat} {t i : Nat} {o0 o1 o2 o3 o4 o5 o6 o7 o8 o9 o10 o11 o12 o : Option AV} {L : List (Option AV)} (hn : notL o12) (hj2 : 13 < E.2.2.1) (hd : decode E.1 pc = .ok (.astore 13, 2)) (k : B E Φ (pc + 2) (o0 :: o1 :: o2 :: o3 :: o4 :: o5 :: o6 :: o7 :: o8 :: o9 :: o10 :: o11 :: o12 :: some (vr t i) :: L) st m a) : B E Φ pc (o0 :: o1 :: o2 :: o3 :: o4 :: o5 :: o6 :: o7 :: o8 :: o9 :: o10 :: o11 :: o12 :: o :: L) (vr t i :: st) m a := b_astoreG 13 hd (noL_s rfl hn) hj2 k
theorem inc13 {E : ME} {Φ : Option AV → AM → Prop} {pc : Nat} {st : List AV} {m : AM} {a : Nat × Nat} {x : Int32} {n : Int} {o0 o1 o2 o3 o4 o5 o6 o7 o8 o9 o10 o11 o12 : Option AV} {L : List (Option AV)} (hn : notL o12) (hj2 : 13 < E.2.2.1) (hd : decode E.1 pc = .ok (.iinc 13 n, 3)) (k : B E Φ (pc + 3) (o0 :: o1 :: o2 :: o3 :: o4 :: o5 :: o6 :: o7 :: o8 :: o9 :: o10 :: o11 :: o12 :: some (vi (x + Int32.ofInt n)) :: L) st m a) : B E Φ pc (o0 :: o1 :: o2 :: o3 :: o4 :: o5 :: o6 :: o7 :: o8 :: o9 :: o10 :: o11 :: o12 :: some (vi x) :: L) st m a := b_iincG 13 hd rfl (noL_s rfl hn) hj2 k
theorem slG13 {E : ME} {Φ : Option AV → AM → Prop} {pc : Nat} {st : List AV} {m : AM} {a : Nat × Nat} {x : Int64} {o0 o1 o2 o3 o4 o5 o6 o7 o8 o9 o10 o11 o12 o o' : Option AV} {L : List (Option AV)} (hn : notL o12) (hj2 : 14 < E.2.2.1) (hd : decode E.1 pc = .ok (.lstore 13, 2)) (k : B E Φ (pc + 2) (o0 :: o1 :: o2 :: o3 :: o4 :: o5 :: o6 :: o7 :: o8 :: o9 :: o10 :: o11 :: o12 :: some (vl x) :: none :: L) st m a) : B E Φ pc (o0 :: o1 :: o2 :: o3 :: o4 :: o5 :: o6 :: o7 :: o8 :: o9 :: o10 :: o11 :: o12 :: o :: o' :: L) (vl x :: st) m a := b_lstoreG 13 hd (noL_s rfl hn) hj2 k
theorem siG14 {E : ME} {Φ : Option AV → AM → Prop} {pc : Nat} {st : List AV} {m : AM} {a : Nat × Nat} {x : Int32} {o0 o1 o2 o3 o4 o5 o6 o7 o8 o9 o10 o11 o12 o13 o : Option AV} {L : List (Option AV)} (hn : notL o13) (hj2 : 14 < E.2.2.1) (hd : decode E.1 pc = .ok (.istore 14, 2)) (k : B E Φ (pc + 2) (o0 :: o1 :: o2 :: o3 :: o4 :: o5 :: o6 :: o7 :: o8 :: o9 :: o10 :: o11 :: o12 :: o13 :: some (vi x) :: L) st m a) : B E Φ pc (o0 :: o1 :: o2 :: o3 :: o4 :: o5 :: o6 :: o7 :: o8 :: o9 :: o10 :: o11 :: o12 :: o13 :: o :: L) (vi x :: st) m a := b_istoreG 14 hd (noL_s rfl hn) hj2 k
theorem saG14 {E : ME} {Φ : Option AV → AM → Prop} {pc : Nat} {st : List AV} {m : AM} {a : Nat × Nat} {t i : Nat} {o0 o1 o2 o3 o4 o5 o6 o7 o8 o9 o10 o11 o12 o13 o : Option AV} {L : List (Option AV)} (hn : notL o13) (hj2 : 14 < E.2.2.1) (hd : decode E.1 pc = .ok (.astore 14, 2)) (k : B E Φ (pc + 2) (o0 :: o1 :: o2 :: o3 :: o4 :: o5 :: o6 :: o7 :: o8 :: o9 :: o10 :: o11 :: o12 :: o13 :: some (vr t i) :: L) st m a) : B E Φ pc (o0 :: o1 :: o2 :: o3 :: o4 :: o5 :: o6 :: o7 :: o8 :: o9 :: o10 :: o11 :: o12 :: o13 :: o :: L) (vr t i :: st) m a := b_astoreG 14 hd (noL_s rfl hn) hj2 k
theorem inc14 {E : ME} {Φ : Option AV → AM → Prop} {pc : Nat} {st : List AV} {m : AM} {a : Nat × Nat} {x : Int32} {n : Int} {o0 o1 o2 o3 o4 o5 o6 o7 o8 o9 o10 o11 o12 o13 : Option AV} {L : List (Option AV)} (hn : notL o13) (hj2 : 14 < E.2.2.1) (hd : decode E.1 pc = .ok (.iinc 14 n, 3)) (k : B E Φ (pc + 3) (o0 :: o1 :: o2 :: o3 :: o4 :: o5 :: o6 :: o7 :: o8 :: o9 :: o10 :: o11 :: o12 :: o13 :: some (vi (x + Int32.ofInt n)) :: L) st m a) : B E Φ pc (o0 :: o1 :: o2 :: o3 :: o4 :: o5 :: o6 :: o7 :: o8 :: o9 :: o10 :: o11 :: o12 :: o13 :: some (vi x) :: L) st m a := b_iincG 14 hd rfl (noL_s rfl hn) hj2 k
theorem slG14 {E : ME} {Φ : Option AV → AM → Prop} {pc : Nat} {st : List AV} {m : AM} {a : Nat × Nat} {x : Int64} {o0 o1 o2 o3 o4 o5 o6 o7 o8 o9 o10 o11 o12 o13 o o' : Option AV} {L : List (Option AV)} (hn : notL o13) (hj2 : 15 < E.2.2.1) (hd : decode E.1 pc = .ok (.lstore 14, 2)) (k : B E Φ (pc + 2) (o0 :: o1 :: o2 :: o3 :: o4 :: o5 :: o6 :: o7 :: o8 :: o9 :: o10 :: o11 :: o12 :: o13 :: some (vl x) :: none :: L) st m a) : B E Φ pc (o0 :: o1 :: o2 :: o3 :: o4 :: o5 :: o6 :: o7 :: o8 :: o9 :: o10 :: o11 :: o12 :: o13 :: o :: o' :: L) (vl x :: st) m a := b_lstoreG 14 hd (noL_s rfl hn) hj2 k
theorem siG15 {E : ME} {Φ : Option AV → AM → Prop} {pc : Nat} {st : List AV} {m : AM} {a : Nat × Nat} {x : Int32} {o0 o1 o2 o3 o4 o5 o6 o7 o8 o9 o10 o11 o12 o13 o14 o : Option AV} {L : List (Option AV)} (hn : notL o14) (hj2 : 15 < E.2.2.1) (hd : decode E.1 pc = .ok (.istore 15, 2)) (k : B E Φ (pc + 2) (o0 :: o1 :: o2 :: o3 :: o4 :: o5 :: o6 :: o7 :: o8 :: o9 :: o10 :: o11 :: o12 :: o13 :: o14 :: some (vi x) :: L) st m a) : B E Φ pc (o0 :: o1 :: o2 :: o3 :: o4 :: o5 :: o6 :: o7 :: o8 :: o9 :: o10 :: o11 :: o12 :: o13 :: o14 :: o :: L) (vi x :: st) m a := b_istoreG 15 hd (noL_s rfl hn) hj2 k
theorem saG15 {E : ME} {Φ : Option AV → AM → Prop} {pc : Nat} {st : List AV} {m : AM} {a : Nat × Nat} {t i : Nat} {o0 o1 o2 o3 o4 o5 o6 o7 o8 o9 o10 o11 o12 o13 o14 o : Option AV} {L : List (Option AV)} (hn : notL o14) (hj2 : 15 < E.2.2.1) (hd : decode E.1 pc = .ok (.astore 15, 2)) (k : B E Φ (pc + 2) (o0 :: o1 :: o2 :: o3 :: o4 :: o5 :: o6 :: o7 :: o8 :: o9 :: o10 :: o11 :: o12 :: o13 :: o14 :: some (vr t i) :: L) st m a) : B E Φ pc (o0 :: o1 :: o2 :: o3 :: o4 :: o5 :: o6 :: o7 :: o8 :: o9 :: o10 :: o11 :: o12 :: o13 :: o14 :: o :: L) (vr t i :: st) m a := b_astoreG 15 hd (noL_s rfl hn) hj2 k
theorem inc15 {E : ME} {Φ : Option AV → AM → Prop} {pc : Nat} {st : List AV} {m : AM} {a : Nat × Nat} {x : Int32} {n : Int} {o0 o1 o2 o3 o4 o5 o6 o7 o8 o9 o10 o11 o12 o13 o14 : Option AV} {L : List (Option AV)} (hn : notL o14) (hj2 : 15 < E.2.2.1) (hd : decode E.1 pc = .ok (.iinc 15 n, 3)) (k : B E Φ (pc + 3) (o0 :: o1 :: o2 :: o3 :: o4 :: o5 :: o6 :: o7 :: o8 :: o9 :: o10 :: o11 :: o12 :: o13 :: o14 :: some (vi (x + Int32.ofInt n)) :: L) st m a) : B E Φ pc (o0 :: o1 :: o2 :: o3 :: o4 :: o5 :: o6 :: o7 :: o8 :: o9 :: o10 :: o11 :: o12 :: o13 :: o14 :: some (vi x) :: L) st m a := b_iincG 15 hd rfl (noL_s rfl hn) hj2 k
theorem slG15 {E : ME} {Φ : Option AV → AM → Prop} {pc : Nat} {st : List AV} {m : AM} {a : Nat × Nat} {x : Int64} {o0 o1 o2 o3 o4 o5 o6 o7 o8 o9 o10 o11 o12 o13 o14 o o' : Option AV} {L : List (Option AV)} (hn : notL o14) (hj2 : 16 < E.2.2.1) (hd : decode E.1 pc = .ok (.lstore 15, 2)) (k : B E Φ (pc + 2) (o0 :: o1 :: o2 :: o3 :: o4 :: o5 :: o6 :: o7 :: o8 :: o9 :: o10 :: o11 :: o12 :: o13 :: o14 :: some (vl x) :: none :: L) st m a) : B E Φ pc (o0 :: o1 :: o2 :: o3 :: o4 :: o5 :: o6 :: o7 :: o8 :: o9 :: o10 :: o11 :: o12 :: o13 :: o14 :: o :: o' :: L) (vl x :: st) m a := b_lstoreG 15 hd (noL_s rfl hn) hj2 k
theorem siG16 {E : ME} {Φ : Option AV → AM → Prop} {pc : Nat} {st : List AV} {m : AM} {a : Nat × Nat} {x : Int32} {o0 o1 o2 o3 o4 o5 o6 o7 o8 o9 o10 o11 o12 o13 o14 o15 o : Option AV} {L : List (Option AV)} (hn : notL o15) (hj2 : 16 < E.2.2.1) (hd : decode E.1 pc = .ok (.istore 16, 2)) (k : B E Φ (pc + 2) (o0 :: o1 :: o2 :: o3 :: o4 :: o5 :: o6 :: o7 :: o8 :: o9 :: o10 :: o11 :: o12 :: o13 :: o14 :: o15 :: some (vi x) :: L) st m a) : B E Φ pc (o0 :: o1 :: o2 :: o3 :: o4 :: o5 :: o6 :: o7 :: o8 :: o9 :: o10 :: o11 :: o12 :: o13 :: o14 :: o15 :: o :: L) (vi x :: st) m a := b_istoreG 16 hd (noL_s rfl hn) hj2 k
theorem saG16 {E : ME} {Φ : Option AV → AM → Prop} {pc : Nat} {st : List AV} {m : AM} {a : Nat × Nat} {t i : Nat} {o0 o1 o2 o3 o4 o5 o6 o7 o8 o9 o10 o11 o12 o13 o14 o15 o : Option AV} {L : List (Option AV)} (hn : notL o15) (hj2 : 16 < E.2.2.1) (hd : decode E.1 pc = .ok (.astore 16, 2)) (k : B E Φ (pc + 2) (o0 :: o1 :: o2 :: o3 :: o4 :: o5 :: o6 :: o7 :: o8 :: o9 :: o10 :: o11 :: o12 :: o13 :: o14 :: o15 :: some (vr t i) :: L) st m a) : B E Φ pc (o0 :: o1 :: o2 :: o3 :: o4 :: o5 :: o6 :: o7 :: o8 :: o9 :: o10 :: o11 :: o12 :: o13 :: o14 :: o15 :: o :: L) (vr t i :: st) m a := b_astoreG 16 hd (noL_s rfl hn) hj2 k
theorem inc16 {E : ME} {Φ : Option AV → AM → Prop} {pc : Nat} {st : List AV} {m : AM} {a : Nat × Nat} {x : Int32} {n : Int} {o0 o1 o2 o3 o4 o5 o6 o7 o8 o9 o10 o11 o12 o13 o14 o15 : Option AV} {L : List (Option AV)} (hn : notL o15) (hj2 : 16 < E.2.2.1) (hd : decode E.1 pc = .ok (.iinc 16 n, 3)) (k : B E Φ (pc + 3) (o0 :: o1 :: o2 :: o3 :: o4 :: o5 :: o6 :: o7 :: o8 :: o9 :: o10 :: o11 :: o12 :: o13 :: o14 :: o15 :: some (vi (x + Int32.ofInt n)) :: L) st m a) : B E Φ pc (o0 :: o1 :: o2 :: o3 :: o4 :: o5 :: o6 :: o7 :: o8 :: o9 :: o10 :: o11 :: o12 :: o13 :: o14 :: o15 :: some (vi x) :: L) st m a := b_iincG 16 hd rfl (noL_s rfl hn) hj2 k
theorem slG16 {E : ME} {Φ : Option AV → AM → Prop} {pc : Nat} {st : List AV} {m : AM} {a : Nat × Nat} {x : Int64} {o0 o1 o2 o3 o4 o5 o6 o7 o8 o9 o10 o11 o12 o13 o14 o15 o o' : Option AV} {L : List (Option AV)} (hn : notL o15) (hj2 : 17 < E.2.2.1) (hd : decode E.1 pc = .ok (.lstore 16, 2)) (k : B E Φ (pc + 2) (o0 :: o1 :: o2 :: o3 :: o4 :: o5 :: o6 :: o7 :: o8 :: o9 :: o10 :: o11 :: o12 :: o13 :: o14 :: o15 :: some (vl x) :: none :: L) st m a) : B E Φ pc (o0 :: o1 :: o2 :: o3 :: o4 :: o5 :: o6 :: o7 :: o8 :: o9 :: o10 :: o11 :: o12 :: o13 :: o14 :: o15 :: o :: o' :: L) (vl x :: st) m a := b_lstoreG 16 hd (noL_s rfl hn) hj2 k
theorem siG17 {E : ME} {Φ : Option AV → AM → Prop} {pc : Nat} {st : List AV} {m : AM} {a : Nat × Nat} {x : Int32} {o0 o1 o2 o3 o4 o5 o6 o7 o8 o9 o10 o11 o12 o13 o14 o15 o16 o : Option AV} {L : List (Option AV)} (hn : notL o16) (hj2 : 17 < E.2.2.1) (hd : decode E.1 pc = .ok (.istore 17, 2)) (k : B E Φ (pc + 2) (o0 :: o1 :: o2 :: o3 :: o4 :: o5 :: o6 :: o7 :: o8 :: o9 :: o10 :: o11 :: o12 :: o13 :: o14 :: o15 :: o16 :: some (vi x) :: L) st m a) : B E Φ pc (o0 :: o1 :: o2 :: o3 :: o4 :: o5 :: o6 :: o7 :: o8 :: o9 :: o10 :: o11 :: o12 :: o13 :: o14 :: o15 :: o16 :: o :: L) (vi x :: st) m a := b_istoreG 17 hd (noL_s rfl hn) hj2 k
theorem saG17 {E : ME} {Φ : Option AV → AM → Prop} {pc : Nat} {st : List AV} {m : AM} {a : Nat × Nat} {t i : Nat} {o0 o1 o2 o3 o4 o5 o6 o7 o8 o9 o10 o11 o12 o13 o14 o15 o16 o : Option AV} {L : List (Option AV)} (hn : notL o16) (hj2 : 17 < E.2.2.1) (hd : decode E.1 pc = .ok (.astore 17, 2)) (k : B E Φ (pc + 2) (o0 :: o1 :: o2 :: o3 :: o4 :: o5 :: o6 :: o7 :: o8 :: o9 :: o10 :: o11 :: o12 :: o13 :: o14 :: o15 :: o16 :: some (vr t i) :: L) st m a) : B E Φ pc (o0 :: o1 :: o2 :: o3 :: o4 :: o5 :: o6 :: o7 :: o8 :: o9 :: o10 :: o11 :: o12 :: o13 :: o14 :: o15 :: o16 :: o :: L) (vr t i :: st) m a := b_astoreG 17 hd (noL_s rfl hn) hj2 k
theorem inc17 {E : ME} {Φ : Option AV → AM → Prop} {pc : Nat} {st : List AV} {m : AM} {a : Nat × Nat} {x : Int32} {n : Int} {o0 o1 o2 o3 o4 o5 o6 o7 o8 o9 o10 o11 o12 o13 o14 o15 o16 : Option AV} {L : List (Option AV)} (hn : notL o16) (hj2 : 17 < E.2.2.1) (hd : decode E.1 pc = .ok (.iinc 17 n, 3)) (k : B E Φ (pc + 3) (o0 :: o1 :: o2 :: o3 :: o4 :: o5 :: o6 :: o7 :: o8 :: o9 :: o10 :: o11 :: o12 :: o13 :: o14 :: o15 :: o16 :: some (vi (x + Int32.ofInt n)) :: L) st m a) : B E Φ pc (o0 :: o1 :: o2 :: o3 :: o4 :: o5 :: o6 :: o7 :: o8 :: o9 :: o10 :: o11 :: o12 :: o13 :: o14 :: o15 :: o16 :: some (vi x) :: L) st m a := b_iincG 17 hd rfl (noL_s rfl hn) hj2 k
theorem slG17 {E : ME} {Φ : Option AV → AM → Prop} {pc : Nat} {st : List AV} {m : AM} {a : Nat × Nat} {x : Int64} {o0 o1 o2 o3 o4 o5 o6 o7 o8 o9 o10 o11 o12 o13 o14 o15 o16 o o' : Option AV} {L : List (Option AV)} (hn : notL o16) (hj2 : 18 < E.2.2.1) (hd : decode E.1 pc = .ok (.lstore 17, 2)) (k : B E Φ (pc + 2) (o0 :: o1 :: o2 :: o3 :: o4 :: o5 :: o6 :: o7 :: o8 :: o9 :: o10 :: o11 :: o12 :: o13 :: o14 :: o15 :: o16 :: some (vl x) :: none :: L) st m a) : B E Φ pc (o0 :: o1 :: o2 :: o3 :: o4 :: o5 :: o6 :: o7 :: o8 :: o9 :: o10 :: o11 :: o12 :: o13 :: o14 :: o15 :: o16 :: o :: o' :: L) (vl x :: st) m a := b_lstoreG 17 hd (noL_s rfl hn) hj2 k
theorem siG18 {E : ME} {Φ : Option AV → AM → Prop} {pc : Nat} {st : List AV} {m : AM} {a : Nat × Nat} {x : Int32} {o0 o1 o2 o3 o4 o5 o6 o7 o8 o9 o10 o11 o12 o13 o14 o15 o16 o17 o : Option AV} {L : List (Option AV)} (hn : notL o17) (hj2 : 18 < E.2.2.1) (hd : decode E.1 pc = .ok (.istore 18, 2)) (k : B E Φ (pc + 2) (o0 :: o1 :: o2 :: o3 :: o4 :: o5 :: o6 :: o7 :: o8 :: o9 :: o10 :: o11 :: o12 :: o13 :: o14 :: o15 :: o16 :: o17 :: some (vi x) :: L) st m a) : B E Φ pc (o0 :: o1 :: o2 :: o3 :: o4 :: o5 :: o6 :: o7 :: o8 :: o9 :: o10 :: o11 :: o12 :: o13 :: o14 :: o15 :: o16 :: o17 :: o :: L) (vi x :: st) m a := b_istoreG 18 hd (noL_s rfl hn) hj2 k
theorem saG18 {E : ME} {Φ : Option AV → AM → Prop} {pc : Nat} {st : List AV} {m : AM} {a : Nat × Nat} {t i : Nat} {o0 o1 o2 o3 o4 o5 o6 o7 o8 o9 o10 o11 o12 o13 o14 o15 o16 o17 o : Option AV} {L : List (Option AV)} (hn : notL o17) (hj2 : 18 < E.2.2.1) (hd : decode E.1 pc = .ok (.astore 18, 2)) (k : B E Φ (pc + 2) (o0 :: o1 :: o2 :: o3 :: o4 :: o5 :: o6 :: o7 :: o8 :: o9 :: o10 :: o11 :: o12 :: o13 :: o14 :: o15 :: o16 :: o17 :: some (vr t i) :: L) st m a) : B E Φ pc (o0 :: o1 :: o2 :: o3 :: o4 :: o5 :: o6 :: o7 :: o8 :: o9 :: o10 :: o11 :: o12 :: o13 :: o14 :: o15 :: o16 :: o17 :: o :: L) (vr t i :: st) m a := b_astoreG 18 hd (noL_s rfl hn) hj2 k
theorem inc18 {E : ME} {Φ : Option AV → AM → Prop} {pc : Nat} {st : List AV} {m : AM} {a : Nat × Nat} {x : Int32} {n : Int} {o0 o1 o2 o3 o4 o5 o6 o7 o8 o9 o10 o11 o12 o13 o14 o15 o16 o17 : Option AV} {L : List (Option AV)} (hn : notL o17) (hj2 : 18 < E.2.2.1) (hd : decode E.1 pc = .ok (.iinc 18 n, 3)) (k : B E Φ (pc + 3) (o0 :: o1 :: o2 :: o3 :: o4 :: o5 :: o6 :: o7 :: o8 :: o9 :: o10 :: o11 :: o12 :: o13 :: o14 :: o15 :: o16 :: o17 :: some (vi (x + Int32.ofInt n)) :: L) st m a) : B E Φ pc (o0 :: o1 :: o2 :: o3 :: o4 :: o5 :: o6 :: o7 :: o8 :: o9 :: o10 :: o11 :: o12 :: o13 :: o14 :: o15 :: o16 :: o17 :: some (vi x) :: L) st m a := b_iincG 18 hd rfl (noL_s rfl hn) hj2 k
theorem slG18 {E : ME} {Φ : Option AV → AM → Prop} {pc : Nat} {st : List AV} {m : AM} {a : Nat × Nat} {x : Int64} {o0 o1 o2 o3 o4 o5 o6 o7 o8 o9 o10 o11 o12 o13 o14 o15 o16 o17 o o' : Option AV} {L : List (Option AV)} (hn : notL o17) (hj2 : 19 < E.2.2.1) (hd : decode E.1 pc = .ok (.lstore 18, 2)) (k : B E Φ (pc + 2) (o0 :: o1 :: o2 :: o3 :: o4 :: o5 :: o6 :: o7 :: o8 :: o9 :: o10 :: o11 :: o12 :: o13 :: o14 :: o15 :: o16 :: o17 :: some (vl x) :: none :: L) st m a) : B E Φ pc (o0 :: o1 :: o2 :: o3 :: o4 :: o5 :: o6 :: o7 :: o8 :: o9 :: o10 :: o11 :: o12 :: o13 :: o14 :: o15 :: o16 :: o17 :: o :: o' :: L) (vl x :: st) m a := b_lstoreG 18 hd (noL_s rfl hn) hj2 k
theorem siG19 {E : ME} {Φ : Option AV → AM → Prop} {pc : Nat} {st : List AV} {m : AM} {a : Nat × Nat} {x : Int32} {o0 o1 o2 o3 o4 o5 o6 o7 o8 o9 o10 o11 o12 o13 o14 o15 o16 o17 o18 o : Option AV} {L : List (Option AV)} (hn : notL o18) (hj2 : 19 < E.2.2.1) (hd : decode E.1 pc = .ok (.istore 19, 2)) (k : B E Φ (pc + 2) (o0 :: o1 :: o2 :: o3 :: o4 :: o5 :: o6 :: o7 :: o8 :: o9 :: o10 :: o11 :: o12 :: o13 :: o14 :: o15 :: o16 :: o17 :: o18 :: some (vi x) :: L) st m a) : B E Φ pc (o0 :: o1 :: o2 :: o3 :: o4 :: o5 :: o6 :: o7 :: o8 :: o9 :: o10 :: o11 :: o12 :: o13 :: o14 :: o15 :: o16 :: o17 :: o18 :: o :: L) (vi x :: st) m a := b_istoreG 19 hd (noL_s rfl hn) hj2 k
theorem saG19 {E : ME} {Φ : Option AV → AM → Prop} {pc : Nat} {st : List AV} {m : AM} {a : Nat × Nat} {t i : Nat} {o0 o1 o2 o3 o4 o5 o6 o7 o8 o9 o10 o11 o12 o13 o14 o15 o16 o17 o18 o : Option AV} {L : List (Option AV)} (hn : notL o18) (hj2 : 19 < E.2.2.1) (hd : decode E.1 pc = .ok (.astore 19, 2)) (k : B E Φ (pc + 2) (o0 :: o1 :: o2 :: o3 :: o4 :: o5 :: o6 :: o7 :: o8 :: o9 :: o10 :: o11 :: o12 :: o13 :: o14 :: o15 :: o16 :: o17 :: o18 :: some (vr t i) :: L) st m a) : B E Φ pc (o0 :: o1 :: o2 :: o3 :: o4 :: o5 :: o6 :: o7 :: o8 :: o9 :: o10 :: o11 :: o12 :: o13 :: o14 :: o15 :: o16 :: o17 :: o18 :: o :: L) (vr t i :: st) m a := b_astoreG 19 hd (noL_s rfl hn) hj2 k
theorem inc19 {E : ME} {Φ : Option AV → AM → Prop} {pc : Nat} {st : List AV} {m : AM} {a : Nat × Nat} {x : Int32} {n : Int} {o0 o1 o2 o3 o4 o5 o6 o7 o8 o9 o10 o11 o12 o13 o14 o15 o16 o17 o18 : Option AV} {L : List (Option AV)} (hn : notL o18) (hj2 : 19 < E.2.2.1) (hd : decode E.1 pc = .ok (.iinc 19 n, 3)) (k : B E Φ (pc + 3) (o0 :: o1 :: o2 :: o3 :: o4 :: o5 :: o6 :: o7 :: o8 :: o9 :: o10 :: o11 :: o12 :: o13 :: o14 :: o15 :: o16 :: o17 :: o18 :: some (vi (x + Int32.ofInt n)) :: L) st m a) : B E Φ pc (o0 :: o1 :: o2 :: o3 :: o4 :: o5 :: o6 :: o7 :: o8 :: o9 :: o10 :: o11 :: o12 :: o13 :: o14 :: o15 :: o16 :: o17 :: o18 :: some (vi x) :: L) st m a := b_iincG 19 hd rfl (noL_s rfl hn) hj2 k
theorem slG19 {E : ME} {Φ : Option AV → AM → Prop} {pc : Nat} {st : List AV} {m : AM} {a : Nat × Nat} {x : Int64} {o0 o1 o2 o3 o4 o5 o6 o7 o8 o9 o10 o11 o12 o13 o14 o15 o16 o17 o18 o o' : Option AV} {L : List (Option AV)} (hn : notL o18) (hj2 : 20 < E.2.2.1) (hd : decode E.1 pc = .ok (.lstore 19, 2)) (k : B E Φ (pc + 2) (o0 :: o1 :: o2 :: o3 :: o4 :: o5 :: o6 :: o7 :: o8 :: o9 :: o10 :: o11 :: o12 :: o13 :: o14 :: o15 :: o16 :: o17 :: o18 :: some (vl x) :: none :: L) st m a) : B E Φ pc (o0 :: o1 :: o2 :: o3 :: o4 :: o5 :: o6 :: o7 :: o8 :: o9 :: o10 :: o11 :: o12 :: o13 :: o14 :: o15 :: o16 :: o17 :: o18 :: o :: o' :: L) (vl x :: st) m a := b_lstoreG 19 hd (noL_s rfl hn) hj2 k
end
section
/-! small numbers as ints: bits, comparisons -/
theorem n_and (a b : Nat) : nI a &&& nI b = nI (a &&& b) := by
  apply Int32.toBitVec_inj.1
  show BitVec.ofNat 32 a &&& BitVec.ofNat 32 b = BitVec.ofNat 32 (a &&& b)
  apply BitVec.eq_of_getLsbD_eq
  intro i hi
  simp [hi]
theorem n_or (a b : Nat) : nI a ||| nI b = nI (a ||| b) := by
  apply Int32.toBitVec_inj.1
  show BitVec.ofNat 32 a ||| BitVec.ofNat 32 b = BitVec.ofNat 32 (a ||| b)
  apply BitVec.eq_of_getLsbD_eq
  intro i hi
  simp [hi]
theorem n_xor (a b : Nat) : nI a ^^^ nI b = nI (a ^^^ b) := by
  apply Int32.toBitVec_inj.1
  show BitVec.ofNat 32 a ^^^ BitVec.ofNat 32 b = BitVec.ofNat 32 (a ^^^ b)
  apply BitVec.eq_of_getLsbD_eq
  intro i hi
  simp [hi]
theorem n_sm : ∀ n, n < 32 → ((nI n &&& 31).toBitVec.smod 32).toNat = n := by decide +kernel
theorem n_shr {a k : Nat} (ha : a < 2147483648) (hk : k < 32) : nI a >>> (nI k &&& 31) = nI (a >>> k) := by
  rw [pk_shrN ha _ k (n_sm k hk), Nat.shiftRight_eq_div_pow]
theorem n_shl {a k : Nat} (hk : k < 32) (ha : a * 2 ^ k < 4294967296) : nI a <<< (nI k &&& 31) = nI (a <<< k) := by
  rw [pk_shlN _ k (n_sm k hk) ha, Nat.shiftLeft_eq]
/-- a without the bits of b -/
def nDel (a b : Nat) : Nat := a ^^^ (a &&& b)
theorem i_del (x y : Int32) : x &&& (y ^^^ (-1)) = x ^^^ (x &&& y) := by
  apply Int32.toBitVec_inj.1
  rw [Int32.toBitVec_and, Int32.toBitVec_xor, Int32.toBitVec_xor, Int32.toBitVec_and, show (-1 : Int32).toBitVec = BitVec.allOnes 32 from by decide]
  apply BitVec.eq_of_getElem_eq
  intro i hi
  rw [BitVec.getElem_and, BitVec.getElem_xor, BitVec.getElem_xor, BitVec.getElem_and, BitVec.getElem_allOnes]
  generalize x.toBitVec[i] = p
  generalize y.toBitVec[i] = q
  revert p q
  decide
theorem n_del (a b : Nat) : nI a &&& (nI b ^^^ (-1)) = nI (nDel a b) := by
  rw [i_del, n_and, n_xor]
  rfl
theorem nDel_bit (a b i : Nat) : (nDel a b).testBit i = (a.testBit i && !b.testBit i) := by
  unfold nDel
  rw [Nat.testBit_xor, Nat.testBit_and]
  generalize a.testBit i = p
  generalize b.testBit i = q
  revert p q
  decide
theorem n_eq0 {a : Nat} (ha : a < 2147483648) : nI a = 0 ↔ a = 0 := by
  rw [show (0 : Int32) = nI 0 from rfl]
  exact nI_eq ha (by omega)
theorem n_lt {a b : Nat} (ha : a < 2147483648) (hb : b < 2147483648) : nI a < nI b ↔ a < b := nI_ltI ha hb
theorem n_le {a b : Nat} (ha : a < 2147483648) (hb : b < 2147483648) : nI a ≤ nI b ↔ a ≤ b := nI_leI ha hb
theorem n_eq {a b : Nat} (ha : a < 2147483648) (hb : b < 2147483648) : nI a = nI b ↔ a = b := nI_eq ha hb
theorem n_lt0 {a : Nat} (ha : a < 2147483648) : nI a < 0 ↔ False := by
  rw [show (0 : Int32) = nI 0 from rfl, n_lt ha (by omega)]
  exact ⟨fun h => absurd h (Nat.not_lt_zero a), False.elim⟩
theorem n_ge0 {a : Nat} (ha : a < 2147483648) : 0 ≤ nI a ↔ True := by
  rw [show (0 : Int32) = nI 0 from rfl, n_le (by omega) ha]
  simp
theorem n_gt0 {a : Nat} (ha : a < 2147483648) : 0 < nI a ↔ 0 < a := by
  rw [show (0 : Int32) = nI 0 from rfl, n_lt (by omega) ha]
theorem n_le0 {a : Nat} (ha : a < 2147483648) : nI a ≤ 0 ↔ a = 0 := by
  rw [show (0 : Int32) = nI 0 from rfl, n_le ha (by omega)]
  omega
theorem n_cl {a : Nat} (ha : a < 2147483648) : (nI a).toNatClampNeg = a := nI_clamp ha
theorem n_in {a n : Nat} (h : a < n) (hn : n < 2147483648) : vp_in (nI a) n := vp_in_nI h hn
theorem n_add (a b : Nat) : nI a + nI b = nI (a + b) := nI_add a b
theorem n_mul (a b : Nat) : nI a * nI b = nI (a * b) := pk_mul a b
theorem n_sub {a b : Nat} (h : b ≤ a) : nI a - nI b = nI (a - b) := pk_sub h
theorem n_inc (a : Nat) : nI a + Int32.ofInt 1 = nI (a + 1) := nI_1 a
theorem n_bit1 (a k : Nat) : a >>> k &&& 1 = if a.testBit k then 1 else 0 := by
  unfold Nat.testBit
  rw [Nat.and_comm, Nat.and_comm 1 (a >>> k), Nat.and_comm (a >>> k) 1]
  rw [Nat.and_comm, Nat.and_one_is_mod]
  rcases Nat.mod_two_eq_zero_or_one (a >>> k) with h | h <;> simp [h]
theorem n_any (x : Int32) (n : Nat) (hn : n < 2147483648) : x < 0 ∨ nI n ≤ x ∨ ∃ j : Nat, j < n ∧ x = nI j := pk_ix x hn
theorem n_ne_m1 {a : Nat} (ha : a < 2147483648) : ¬ nI a = -1 := fun h => by
  have h2 := nI_toInt ha
  rw [h] at h2
  have h3 : (-1 : Int32).toInt = -1 := rfl
  omega
theorem n_ne_none {a : Nat} (ha : a < 2147483648) : ¬ nI a = -1000000 := fun h => by
  have h2 := nI_toInt ha
  rw [h] at h2
  have h3 : (-1000000 : Int32).toInt = -1000000 := rfl
  omega
end
section
/-! THE COURT AS NUMBERS: C k is what the reference's court[k] holds. Closure under the rules that make, and what can not be. -/
def upC (C : Nat → Nat) (k v : Nat) : Nat → Nat := fun j => if j = k then v else C j
/-- rule k makes (it stands, and is of that sort) -/
def actM (C : Nat → Nat) (k : Nat) : Prop := C (8 + 4 * k) = 0 ∧ C (11 + 4 * k) = 0
/-- by the rule k, if it makes -/
def clStep (C : Nat → Nat) (k s : Nat) : Nat := if (C (8 + 4 * k) = 0 ∧ C (11 + 4 * k) = 0) ∧ s.testBit (C (9 + 4 * k)) = true then s ||| 2 ^ C (10 + 4 * k) else s
def clRound (C : Nat → Nat) : Nat → Nat → Nat
  | 0, s => s
  | k + 1, s => clStep C k (clRound C k s)
def clN (C : Nat → Nat) : Nat → Nat → Nat
  | 0, s => s
  | t + 1, s => clRound C (C 3) (clN C t s)
def closedN (C : Nat → Nat) (s : Nat) : Nat := clN C 6 s
def canB (C : Nat → Nat) (s : Nat) : Nat → Bool
  | 0 => true
  | k + 1 => canB C s k && (decide (C (8 + 4 * k) = 0) || decide (C (11 + 4 * k) = 1) || !(s.testBit (C (9 + 4 * k)) && s.testBit (C (10 + 4 * k))))
def canBe (C : Nat → Nat) (s : Nat) : Bool := canB C s (C 3)
/-- what rules make of s; NONE -/
def setN (C : Nat → Nat) (s : Nat) : Option Nat := if canBe C (closedN C s) = true then some (closedN C s) else none
def oI (o : Option Nat) : Int32 := match o with
  | some v => nI v
  | none => -1000000
/-- a court that is told as the document says -/
def VC (C : Nat → Nat) : Prop := (1 ≤ C 0 ∧ C 0 ≤ 6) ∧ C 1 < 2 ^ C 0 ∧ (1 ≤ C 2 ∧ C 2 ≤ 9) ∧ C 3 ≤ 8 ∧ (1 ≤ C 4 ∧ C 4 ≤ 5) ∧ C 5 < 2 ^ C 0 ∧ C 7 ≤ 999 ∧ C 6 ≤ 54 * C 7 ∧
  (∀ k, k < C 3 → (C (8 + 4 * k) = 0 ∨ C (8 + 4 * k) = 1) ∧ C (9 + 4 * k) < C 0 ∧ C (10 + 4 * k) < C 0 ∧ (C (11 + 4 * k) = 0 ∨ C (11 + 4 * k) = 1)) ∧ (∀ p, p < C 4 → (1 ≤ C (40 + 2 * p) ∧ C (40 + 2 * p) ≤ 5) ∧ C (41 + 2 * p) ≤ C 7)
def sub (a b : Nat) : Prop := ∀ i, a.testBit i = true → b.testBit i = true
theorem sub_rf (a : Nat) : sub a a := fun _ h => h
theorem sub_tr {a b c : Nat} (h : sub a b) (h2 : sub b c) : sub a c := fun i q => h2 i (h i q)
theorem sub_eq {a b : Nat} (h : sub a b) (h2 : sub b a) : a = b := Nat.eq_of_testBit_eq fun i => by
  cases ha : a.testBit i
  · cases hb : b.testBit i
    · rfl
    · rw [h2 i hb] at ha; cases ha
  · rw [h i ha]
theorem sub_or {a b : Nat} : sub a (a ||| b) := fun i h => by rw [Nat.testBit_or, h]; rfl
theorem sub_orL {a b c : Nat} (h : sub a c) (h2 : sub b c) : sub (a ||| b) c := fun i q => by
  rw [Nat.testBit_or] at q
  rcases Bool.or_eq_true _ _ ▸ q with q | q
  · exact h i q
  · exact h2 i q
theorem sub_pow {k c : Nat} (h : c.testBit k = true) : sub (2 ^ k) c := fun i q => by
  rw [Nat.testBit_two_pow] at q
  have e : k = i := by simpa using q
  subst e
  exact h
/-- d is closed under the first n rules -/
def Clo (C : Nat → Nat) (n d : Nat) : Prop := ∀ k, k < n → actM C k → d.testBit (C (9 + 4 * k)) = true → d.testBit (C (10 + 4 * k)) = true
theorem clStep_ge (C : Nat → Nat) (k s : Nat) : sub s (clStep C k s) := by
  unfold clStep
  split
  · exact sub_or
  · exact sub_rf s
theorem clStep_le {C : Nat → Nat} {k s d n : Nat} (hk : k < n) (hd : Clo C n d) (h : sub s d) : sub (clStep C k s) d := by
  unfold clStep
  split
  · next q => exact sub_orL h (sub_pow (hd k hk q.1 (h _ q.2)))
  · exact h
theorem clRound_ge (C : Nat → Nat) : ∀ n s, sub s (clRound C n s)
  | 0, s => sub_rf s
  | n + 1, s => sub_tr (clRound_ge C n s) (clStep_ge C n _)
theorem clRound_le {C : Nat → Nat} {d n : Nat} (hd : Clo C n d) : ∀ k s, k ≤ n → sub s d → sub (clRound C k s) d
  | 0, s, _, h => h
  | k + 1, s, hk, h => clStep_le (by omega) hd (clRound_le hd k s (by omega) h)
/-- a round that changes nothing ends closed -/
theorem clRound_fix {C : Nat → Nat} : ∀ n s, clRound C n s = s → Clo C n s
  | 0, s, _ => fun k hk => absurd hk (Nat.not_lt_zero k)
  | n + 1, s, h => by
    have h1 : clRound C n s = s := sub_eq (by
      have := clStep_ge C n (clRound C n s)
      rw [show clStep C n (clRound C n s) = s from h] at this
      exact this) (clRound_ge C n s)
    have h2 := clRound_fix n s h1
    intro k hk ha hb
    rcases Nat.lt_or_ge k n with q | q
    · exact h2 k q ha hb
    · have e : k = n := by omega
      subst e
      have h3 : clStep C k s = s := by
        have : clRound C (k + 1) s = clStep C k (clRound C k s) := rfl
        rw [h1] at this
        rw [← this]; exact h
      unfold clStep at h3
      rw [if_pos ⟨ha, hb⟩] at h3
      rw [← h3, Nat.testBit_or, Nat.testBit_two_pow]
      simp
def pc6 (s : Nat) : Nat := (s.testBit 0).toNat + (s.testBit 1).toNat + (s.testBit 2).toNat + (s.testBit 3).toNat + (s.testBit 4).toNat + (s.testBit 5).toNat
theorem pc6_lt {s t : Nat} (hs : s < 64) (ht : t < 64) (h : sub s t) (hne : s ≠ t) : pc6 s < pc6 t := by
  have q : ∀ s, s < 64 → ∀ t, t < 64 → (s ||| t = t) → s ≠ t → pc6 s < pc6 t := by decide +kernel
  refine q s hs t ht (Nat.eq_of_testBit_eq fun i => ?_) hne
  rw [Nat.testBit_or]
  cases e : s.testBit i
  · rfl
  · rw [h i e]; rfl
theorem pc6_le (s : Nat) (hs : s < 64) : pc6 s ≤ 6 := by
  have q : ∀ s, s < 64 → pc6 s ≤ 6 := by decide +kernel
  exact q s hs
theorem pc6_full (s : Nat) (hs : s < 64) (h : 6 ≤ pc6 s) : s = 63 := by
  have q : ∀ s, s < 64 → 6 ≤ pc6 s → s = 63 := by decide +kernel
  exact q s hs h
theorem or_lt64 {a b : Nat} (ha : a < 64) (hb : b < 64) : a ||| b < 64 := Nat.or_lt_two_pow (n := 6) ha hb
theorem pow_lt64 {k : Nat} (h : k < 6) : 2 ^ k < 64 := by
  have : 2 ^ k < 2 ^ 6 := Nat.pow_lt_pow_right (by omega) h
  omega
theorem clStep_lt {C : Nat → Nat} (hv : ∀ k, k < C 3 → C (10 + 4 * k) < 6) {k s : Nat} (hk : k < C 3) (hs : s < 64) : clStep C k s < 64 := by
  unfold clStep
  split
  · exact or_lt64 hs (pow_lt64 (hv k hk))
  · exact hs
theorem clRound_lt {C : Nat → Nat} (hv : ∀ k, k < C 3 → C (10 + 4 * k) < 6) : ∀ n s, n ≤ C 3 → s < 64 → clRound C n s < 64
  | 0, s, _, h => h
  | n + 1, s, hn, h => clStep_lt hv (by omega) (clRound_lt hv n s (by omega) h)
theorem clN_lt {C : Nat → Nat} (hv : ∀ k, k < C 3 → C (10 + 4 * k) < 6) : ∀ t s, s < 64 → clN C t s < 64
  | 0, s, h => h
  | t + 1, s, h => clRound_lt hv _ _ (Nat.le_refl _) (clN_lt hv t s h)
theorem clN_ge (C : Nat → Nat) : ∀ t s, sub s (clN C t s)
  | 0, s => sub_rf s
  | t + 1, s => sub_tr (clN_ge C t s) (clRound_ge C _ _)
theorem clN_le {C : Nat → Nat} {d : Nat} (hd : Clo C (C 3) d) : ∀ t s, sub s d → sub (clN C t s) d
  | 0, s, h => h
  | t + 1, s, h => clRound_le hd _ _ (Nat.le_refl _) (clN_le hd t s h)
theorem clRound_clo {C : Nat → Nat} {n s : Nat} (h : Clo C n s) : ∀ k, k ≤ n → clRound C k s = s
  | 0, _ => rfl
  | k + 1, hk => by
    have h1 := clRound_clo h k (by omega)
    show clStep C k (clRound C k s) = s
    rw [h1]
    exact sub_eq (clStep_le (by omega) h (sub_rf s)) (clStep_ge C k s)
/-- after t rounds: closed, or t facts at least -/
theorem clN_grow {C : Nat → Nat} (hv : ∀ k, k < C 3 → C (10 + 4 * k) < 6) : ∀ t s, s < 64 → Clo C (C 3) (clN C t s) ∨ t ≤ pc6 (clN C t s)
  | 0, s, _ => Or.inr (Nat.zero_le _)
  | t + 1, s, hs => by
    by_cases e : clRound C (C 3) (clN C t s) = clN C t s
    · have h := clRound_fix _ _ e
      left
      show Clo C (C 3) (clRound C (C 3) (clN C t s))
      rw [e]
      exact h
    · rcases clN_grow hv t s hs with h | h
      · exact absurd (clRound_clo h _ (Nat.le_refl _)) e
      · right
        have := pc6_lt (clN_lt hv t s hs) (clN_lt hv (t + 1) s hs) (clRound_ge C (C 3) _) (Ne.symm e)
        show t + 1 ≤ pc6 (clN C (t + 1) s)
        omega
theorem closedN_lt {C : Nat → Nat} (hv : ∀ k, k < C 3 → C (10 + 4 * k) < 6) {s : Nat} (hs : s < 64) : closedN C s < 64 := clN_lt hv 6 s hs
theorem closedN_clo {C : Nat → Nat} (hv : ∀ k, k < C 3 → C (10 + 4 * k) < 6) {s : Nat} (hs : s < 64) : Clo C (C 3) (closedN C s) := by
  rcases clN_grow hv 6 s hs with h | h
  · exact h
  · have e := pc6_full _ (clN_lt hv 6 s hs) h
    intro k hk _ _
    show (clN C 6 s).testBit _ = true
    rw [e]
    have q : ∀ i, i < 6 → Nat.testBit 63 i = true := by decide
    exact q _ (hv k hk)
/-- what is closed, behind s, and within all that is so, is the closure -/
theorem closedN_uni {C : Nat → Nat} (hv : ∀ k, k < C 3 → C (10 + 4 * k) < 6) {s c : Nat} (hs : s < 64) (h1 : sub s c) (h2 : Clo C (C 3) c) (h3 : ∀ d, sub s d → Clo C (C 3) d → sub c d) : c = closedN C s :=
  sub_eq (h3 _ (clN_ge C 6 s) (closedN_clo hv hs)) (clN_le h2 6 s h1)
theorem closedN_of {C : Nat → Nat} {s : Nat} (h : Clo C (C 3) s) (t : Nat) : clN C t s = s := by
  induction t with
  | zero => rfl
  | succ t ih =>
    show clRound C (C 3) (clN C t s) = s
    rw [ih]
    exact clRound_clo h _ (Nat.le_refl _)
theorem VC.hv {C : Nat → Nat} (h : VC C) : ∀ k, k < C 3 → C (10 + 4 * k) < 6 := fun k hk => Nat.lt_of_lt_of_le (h.2.2.2.2.2.2.2.2.1 k hk).2.2.1 h.1.2
/-- what rule-made facts a fact has (by the first n rules), of a sort -/
def madeF (C : Nat → Nat) (sort f : Nat) : Nat → Nat
  | 0 => 0
  | k + 1 => if (C (8 + 4 * k) = sort ∧ C (11 + 4 * k) = 0) ∧ C (9 + 4 * k) = f then madeF C sort f k ||| 2 ^ C (10 + 4 * k) else madeF C sort f k
theorem madeF_bit (C : Nat → Nat) (sort f i : Nat) : ∀ n, (madeF C sort f n).testBit i = true ↔ ∃ k, k < n ∧ C (8 + 4 * k) = sort ∧ C (11 + 4 * k) = 0 ∧ C (9 + 4 * k) = f ∧ C (10 + 4 * k) = i
  | 0 => by simp [madeF]
  | n + 1 => by
    have ih := madeF_bit C sort f i n
    unfold madeF
    split
    · next h =>
      rw [Nat.testBit_or, Bool.or_eq_true, ih, Nat.testBit_two_pow]
      constructor
      · rintro (⟨k, hk, h1⟩ | h1)
        · exact ⟨k, by omega, h1⟩
        · exact ⟨n, by omega, h.1.1, h.1.2, h.2, by simpa using h1⟩
      · rintro ⟨k, hk, h1⟩
        rcases Nat.lt_or_ge k n with q | q
        · exact Or.inl ⟨k, q, h1⟩
        · have e : k = n := by omega
          subst e
          right
          simpa using h1.2.2.2
    · next h =>
      rw [ih]
      constructor
      · rintro ⟨k, hk, h1⟩
        exact ⟨k, by omega, h1⟩
      · rintro ⟨k, hk, h1⟩
        rcases Nat.lt_or_ge k n with q | q
        · exact ⟨k, q, h1⟩
        · have e : k = n := by omega
          subst e
          exact absurd ⟨⟨h1.1, h1.2.1⟩, h1.2.2.1⟩ h
theorem madeF_lt {C : Nat → Nat} (hv : ∀ k, k < C 3 → C (10 + 4 * k) < 6) (sort f : Nat) : ∀ n, n ≤ C 3 → madeF C sort f n < 64
  | 0, _ => by simp [madeF]
  | n + 1, hn => by
    unfold madeF
    split
    · exact or_lt64 (madeF_lt hv sort f n (by omega)) (pow_lt64 (hv n (by omega)))
    · exact madeF_lt hv sort f n (by omega)
theorem canB_iff (C : Nat → Nat) (s : Nat) : ∀ n, canB C s n = true ↔ ∀ k, k < n → C (8 + 4 * k) = 0 ∨ C (11 + 4 * k) = 1 ∨ ¬ (s.testBit (C (9 + 4 * k)) = true ∧ s.testBit (C (10 + 4 * k)) = true)
  | 0 => by simp [canB]
  | n + 1 => by
    have ih := canB_iff C s n
    unfold canB
    rw [Bool.and_eq_true, ih]
    constructor
    · rintro ⟨h1, h2⟩ k hk
      rcases Nat.lt_or_ge k n with q | q
      · exact h1 k q
      · have e : k = n := by omega
        subst e
        simp only [Bool.or_eq_true, decide_eq_true_eq, Bool.not_eq_true', Bool.and_eq_false_iff] at h2
        rcases h2 with (h2 | h2) | h2
        · exact Or.inl h2
        · exact Or.inr (Or.inl h2)
        · right; right
          rintro ⟨q1, q2⟩
          rcases h2 with h2 | h2
          · rw [q1] at h2; cases h2
          · rw [q2] at h2; cases h2
    · intro h
      refine ⟨fun k hk => h k (by omega), ?_⟩
      simp only [Bool.or_eq_true, decide_eq_true_eq, Bool.not_eq_true', Bool.and_eq_false_iff]
      rcases h n (by omega) with h2 | h2 | h2
      · exact Or.inl (Or.inl h2)
      · exact Or.inl (Or.inr h2)
      · right
        cases q1 : s.testBit (C (9 + 4 * n))
        · exact Or.inl rfl
        · cases q2 : s.testBit (C (10 + 4 * n))
          · exact Or.inr rfl
          · exact absurd ⟨q1, q2⟩ h2
end
section
/-! THE CLASS'S COURT: what its cells hold (law at i, standing at i) of a court C -/
def LawR (m : AM) (i : Nat) (C : Nat → Nat) : Prop := m.1 i 4 = nI (C 0) ∧ m.1 i 6 = nI (C 2) ∧ m.1 i 7 = nI (C 3) ∧ m.1 i 8 = nI (C 4) ∧ (∀ r, r < C 3 → m.1 (i + 1) r = nI (C (8 + 4 * r)) ∧ m.1 (i + 2) r = nI (C (9 + 4 * r)) ∧ m.1 (i + 3) r = nI (C (10 + 4 * r))) ∧ ∀ p, p < C 4 → m.1 (i + 4) p = nI (C (40 + 2 * p))
def StkR (x : Int32) (C : Nat → Nat) : Prop := ∃ k, k < 256 ∧ x = nI k ∧ ∀ r, r < 8 → k.testBit r = decide (r < C 3 ∧ C (11 + 4 * r) = 1)
def StR (m : AM) (i : Nat) (C : Nat → Nat) : Prop := m.1 i 1 = nI (C 1) ∧ m.1 i 2 = nI (C 5) ∧ m.1 i 3 = nI (C 7) ∧ m.1 i 4 = nI (C 6) ∧ StkR (m.1 i 5) C ∧ ∀ p, p < C 4 → m.1 (i + 1) p = nI (C (41 + 2 * p))
def MadR (m : AM) (C : Nat → Nat) : Prop := ∀ f, f < 6 → m.1 28 f = nI (madeF C 0 f (C 3)) ∧ m.1 29 f = nI (madeF C 1 f (C 3))
def CacR (m : AM) (C : Nat → Nat) : Prop := ∀ s, s < 64 → m.1 30 s = -1 ∨ m.1 30 s = oI (setN C s)
/-- an open court on the bench -/
def BR (m : AM) (C : Nat → Nat) : Prop := VC C ∧ LawR m 21 C ∧ StR m 26 C ∧ MadR m C ∧ CacR m C
/-! grow -/
def gStep (C : Nat → Nat) (f g : Nat) : Nat := if g.testBit f = true then g ||| madeF C 0 f (C 3) else g
def gRnd (C : Nat → Nat) : Nat → Nat → Nat
  | 0, g => g
  | f + 1, g => gStep C f (gRnd C f g)
theorem madeF_sub {C : Nat → Nat} {d f : Nat} (hd : Clo C (C 3) d) (hf : d.testBit f = true) : sub (madeF C 0 f (C 3)) d := fun i h => by
  obtain ⟨k, hk, h1, h2, h3, h4⟩ := (madeF_bit C 0 f i (C 3)).mp h
  subst h3
  subst h4
  exact hd k hk ⟨h1, h2⟩ hf
theorem gStep_le {C : Nat → Nat} {f g d : Nat} (hd : Clo C (C 3) d) (h : sub g d) : sub (gStep C f g) d := by
  unfold gStep
  split
  · next q => exact sub_orL h (madeF_sub hd (h _ q))
  · exact h
theorem gStep_ge (C : Nat → Nat) (f g : Nat) : sub g (gStep C f g) := by
  unfold gStep
  split
  · exact sub_or
  · exact sub_rf g
theorem gRnd_le {C : Nat → Nat} {d : Nat} (hd : Clo C (C 3) d) : ∀ f g, sub g d → sub (gRnd C f g) d
  | 0, g, h => h
  | f + 1, g, h => gStep_le hd (gRnd_le hd f g h)
theorem gRnd_ge (C : Nat → Nat) : ∀ f g, sub g (gRnd C f g)
  | 0, g => sub_rf g
  | f + 1, g => sub_tr (gRnd_ge C f g) (gStep_ge C f _)
theorem gStep_lt {C : Nat → Nat} (hv : VC C) {f g : Nat} (h : g < 64) : gStep C f g < 64 := by
  unfold gStep
  split
  · exact or_lt64 h (madeF_lt hv.hv 0 f _ (Nat.le_refl _))
  · exact h
theorem gRnd_lt {C : Nat → Nat} (hv : VC C) : ∀ f g, g < 64 → gRnd C f g < 64
  | 0, g, h => h
  | f + 1, g, h => gStep_lt hv (gRnd_lt hv f g h)
theorem gRnd_fix {C : Nat → Nat} : ∀ n g, gRnd C n g = g → ∀ f, f < n → g.testBit f = true → sub (madeF C 0 f (C 3)) g
  | 0, g, _ => fun f hf => absurd hf (Nat.not_lt_zero f)
  | n + 1, g, h => by
    have h1 : gRnd C n g = g := sub_eq (by
      have := gStep_ge C n (gRnd C n g)
      rw [show gStep C n (gRnd C n g) = g from h] at this
      exact this) (gRnd_ge C n g)
    intro f hf hb
    rcases Nat.lt_or_ge f n with q | q
    · exact gRnd_fix n g h1 f q hb
    · have e : f = n := by omega
      subst e
      have h3 : gStep C f g = g := by
        have : gRnd C (f + 1) g = gStep C f (gRnd C f g) := rfl
        rw [h1] at this
        rw [← this]; exact h
      unfold gStep at h3
      rw [if_pos hb] at h3
      intro i hi
      rw [← h3, Nat.testBit_or, hi, Bool.or_true]
theorem gRnd_clo {C : Nat → Nat} (hv : VC C) {g : Nat} (h : gRnd C (C 0) g = g) : Clo C (C 3) g := fun k hk ha hb =>
  gRnd_fix _ _ h _ ((hv.2.2.2.2.2.2.2.2.1 k hk).2.1) hb _ ((madeF_bit C 0 _ _ _).mpr ⟨k, hk, ha.1, ha.2, rfl, rfl⟩)
theorem gRnd_same {C : Nat → Nat} {g : Nat} (h : Clo C (C 3) g) (n : Nat) : gRnd C n g = g := sub_eq (gRnd_le h n g (sub_rf g)) (gRnd_ge C n g)
theorem tbit_and1 (g f : Nat) (hg : g < 2147483648) (hf : f < 32) : (nI g >>> (nI f &&& 31)) &&& nI 1 = nI (if g.testBit f = true then 1 else 0) := by
  rw [n_shr hg hf, n_and, n_bit1]
abbrev e_X2_grow : ME := (cX2_grow, (RX2, (6, ((some .int), (0, (0, 1))))))
theorem dX2_grow_0 : decode cX2_grow 0 = .ok (.iload_n 1, 1) := by decide +kernel
theorem dX2_grow_1 : decode cX2_grow 1 = .ok (.istore_n 2, 1) := by decide +kernel
theorem dX2_grow_2 : decode cX2_grow 2 = .ok (.iconst (-1), 1) := by decide +kernel
theorem dX2_grow_3 : decode cX2_grow 3 = .ok (.istore_n 3, 1) := by decide +kernel
theorem dX2_grow_4 : decode cX2_grow 4 = .ok (.iconst 0, 1) := by decide +kernel
theorem dX2_grow_5 : decode cX2_grow 5 = .ok (.istore 4, 2) := by decide +kernel
theorem dX2_grow_7 : decode cX2_grow 7 = .ok (.iload 4, 2) := by decide +kernel
theorem dX2_grow_9 : decode cX2_grow 9 = .ok (.bipush 6, 2) := by decide +kernel
theorem dX2_grow_11 : decode cX2_grow 11 = .ok (.if_icmp .gt 61, 3) := by decide +kernel
theorem dX2_grow_14 : decode cX2_grow 14 = .ok (.iload_n 2, 1) := by decide +kernel
theorem dX2_grow_15 : decode cX2_grow 15 = .ok (.iload_n 3, 1) := by decide +kernel
theorem dX2_grow_16 : decode cX2_grow 16 = .ok (.if_icmp .eq 56, 3) := by decide +kernel
theorem dX2_grow_19 : decode cX2_grow 19 = .ok (.iload_n 2, 1) := by decide +kernel
theorem dX2_grow_20 : decode cX2_grow 20 = .ok (.istore_n 3, 1) := by decide +kernel
theorem dX2_grow_21 : decode cX2_grow 21 = .ok (.iconst 0, 1) := by decide +kernel
theorem dX2_grow_22 : decode cX2_grow 22 = .ok (.istore 5, 2) := by decide +kernel
theorem dX2_grow_24 : decode cX2_grow 24 = .ok (.iload 5, 2) := by decide +kernel
theorem dX2_grow_26 : decode cX2_grow 26 = .ok (.aload_n 0, 1) := by decide +kernel
theorem dX2_grow_27 : decode cX2_grow 27 = .ok (.getfield 12, 3) := by decide +kernel
theorem dX2_grow_30 : decode cX2_grow 30 = .ok (.getfield 35, 3) := by decide +kernel
theorem dX2_grow_33 : decode cX2_grow 33 = .ok (.if_icmp .ge 33, 3) := by decide +kernel
theorem dX2_grow_36 : decode cX2_grow 36 = .ok (.iload_n 2, 1) := by decide +kernel
theorem dX2_grow_37 : decode cX2_grow 37 = .ok (.iload_n 2, 1) := by decide +kernel
theorem dX2_grow_38 : decode cX2_grow 38 = .ok (.iload 5, 2) := by decide +kernel
theorem dX2_grow_40 : decode cX2_grow 40 = .ok (.ishr, 1) := by decide +kernel
theorem dX2_grow_41 : decode cX2_grow 41 = .ok (.iconst 1, 1) := by decide +kernel
theorem dX2_grow_42 : decode cX2_grow 42 = .ok (.iand, 1) := by decide +kernel
theorem dX2_grow_43 : decode cX2_grow 43 = .ok (.iconst 1, 1) := by decide +kernel
theorem dX2_grow_44 : decode cX2_grow 44 = .ok (.if_icmp .ne 13, 3) := by decide +kernel
theorem dX2_grow_47 : decode cX2_grow 47 = .ok (.aload_n 0, 1) := by decide +kernel
theorem dX2_grow_48 : decode cX2_grow 48 = .ok (.getfield 25, 3) := by decide +kernel
theorem dX2_grow_51 : decode cX2_grow 51 = .ok (.iload 5, 2) := by decide +kernel
theorem dX2_grow_53 : decode cX2_grow 53 = .ok (.iaload, 1) := by decide +kernel
theorem dX2_grow_54 : decode cX2_grow 54 = .ok (.goto 4, 3) := by decide +kernel
theorem dX2_grow_57 : decode cX2_grow 57 = .ok (.iconst 0, 1) := by decide +kernel
theorem dX2_grow_58 : decode cX2_grow 58 = .ok (.ior, 1) := by decide +kernel
theorem dX2_grow_59 : decode cX2_grow 59 = .ok (.istore_n 2, 1) := by decide +kernel
theorem dX2_grow_60 : decode cX2_grow 60 = .ok (.iinc 5 1, 3) := by decide +kernel
theorem dX2_grow_63 : decode cX2_grow 63 = .ok (.goto (-39), 3) := by decide +kernel
theorem dX2_grow_66 : decode cX2_grow 66 = .ok (.iinc 4 1, 3) := by decide +kernel
theorem dX2_grow_69 : decode cX2_grow 69 = .ok (.goto (-62), 3) := by decide +kernel
theorem dX2_grow_72 : decode cX2_grow 72 = .ok (.iload_n 2, 1) := by decide +kernel
theorem dX2_grow_73 : decode cX2_grow 73 = .ok (.ireturn, 1) := by decide +kernel
def Sp_X2_grow (av : List AV) (m : AM) (Φ : Option AV → AM → Prop) : Prop := ∃ s, av = [vr 2 20, vi s] ∧ ∃ C k, BR m C ∧ s = nI k ∧ k < 64 ∧ Φ (some (vi (nI (closedN C k)))) m
set_option maxRecDepth 20000 in
set_option maxHeartbeats 4000000 in
theorem S_X2_grow : Snd yX2_grow e_X2_grow Sp_X2_grow := by
  refine Snd.of (by decide +kernel) rfl ?_ ?_
  · rintro av m Φ ⟨s, rfl, _⟩; exact Nat.le_of_ble_eq_true rfl
  rintro av m Φ ⟨s, rfl, C, k, hB, rfl, hk, h⟩ hav hty
  show B e_X2_grow Φ 0 [some (vr 2 20), some (vi (nI k)), none, none, none, none] [] m (0, 0)
  obtain ⟨hv, hL, hS, hM, hC⟩ := hB
  have hf0 : C 0 ≤ 6 := hv.1.2
  have outer : ∀ n t g x3 o5, 8 ≤ t + n → t ≤ 7 → g < 64 → sub k g → (∀ d, sub k d → Clo C (C 3) d → sub g d) → (Clo C (C 3) g ∨ t ≤ pc6 g) → (nI g = x3 → Clo C (C 3) g) → B e_X2_grow Φ 7 [some (vr 2 20), some (vi (nI k)), some (vi (nI g)), some (vi x3), some (vi (nI t)), o5] [] m (0, 0) := by
    intro n
    induction n with
    | zero => intro t g x3 o5 h1 h2; omega
    | succ n ih =>
      intro t g x3 o5 h1 h2 h3 h4 h5 h6 h7
      have done : Clo C (C 3) g → Φ (some (vi (nI g))) m := fun e => by
        rw [closedN_uni hv.hv hk h4 e h5]; exact h
      have inner : t ≤ 6 → ∀ n f, C 0 + 1 ≤ f + n → f ≤ C 0 → B e_X2_grow Φ 24 [some (vr 2 20), some (vi (nI k)), some (vi (nI (gRnd C f g))), some (vi (nI g)), some (vi (nI t)), some (vi (nI f))] [] m (0, 0) := by
        intro ht n
        induction n with
        | zero => intro f h8 h9; omega
        | succ n ih2 =>
          intro f h8 h9
          have hg := gRnd_lt hv f g h3
          refine b_iloadG (pc := 24) 5 dX2_grow_24 rfl ?_
          refine b_aloadN (pc := 26) 0 dX2_grow_26 rfl rfl ?_
          refine gf2_0 (pc := 27) 21 rfl k264 dX2_grow_27 ?_
          refine gf5_4 (pc := 30) k143 dX2_grow_30 ?_
          refine b_icmp_ge (pc := 33) 66 dX2_grow_33 (by decide) (fun c33 => ?_) (fun c33 => ?_)
          refine inc4 (pc := 66) notL_i (by decide) dX2_grow_66 ?_
          refine b_goto (pc := 69) 7 dX2_grow_69 (by decide) ?_
          rotate_left -- leaf 0: at 7
          refine b_iloadN (pc := 36) 2 dX2_grow_36 rfl rfl ?_
          refine b_iloadN (pc := 37) 2 dX2_grow_37 rfl rfl ?_
          refine b_iloadG (pc := 38) 5 dX2_grow_38 rfl ?_
          refine b_ishr (pc := 40) dX2_grow_40 ?_
          refine b_iconst (pc := 41) (nI 1) dX2_grow_41 (by decide) ?_
          refine b_iand (pc := 42) dX2_grow_42 ?_
          refine b_iconst (pc := 43) (nI 1) dX2_grow_43 (by decide) ?_
          refine b_icmp_ne (pc := 44) 57 dX2_grow_44 (by decide) (fun c44 => ?_) (fun c44 => ?_)
          refine b_iconst (pc := 57) (nI 0) dX2_grow_57 (by decide) ?_
          refine b_ior (pc := 58) dX2_grow_58 ?_
          refine siN2 (pc := 59) rfl notL_i (by decide) dX2_grow_59 ?_
          refine inc5 (pc := 60) notL_i (by decide) dX2_grow_60 ?_
          refine b_goto (pc := 63) 24 dX2_grow_63 (by decide) ?_
          rotate_left -- leaf 1: at 24
          refine b_aloadN (pc := 47) 0 dX2_grow_47 rfl rfl ?_
          refine gf2_2 (pc := 48) 28 rfl k276 dX2_grow_48 ?_
          refine b_iloadG (pc := 51) 5 dX2_grow_51 rfl ?_
          refine b_iald (pc := 53) (by decide) ?_ dX2_grow_53 ?_
          rotate_left -- leaf 2: index at 53
          refine b_goto (pc := 54) 58 dX2_grow_54 (by decide) ?_
          refine b_ior (pc := 58) dX2_grow_58 ?_
          refine siN2 (pc := 59) rfl notL_i (by decide) dX2_grow_59 ?_
          refine inc5 (pc := 60) notL_i (by decide) dX2_grow_60 ?_
          refine b_goto (pc := 63) 24 dX2_grow_63 (by decide) ?_
          rotate_left -- leaf 3: at 24
          -- leaves: 0 at 7; 1 at 24; 2 index at 53; 3 at 24
          · rw [hL.1, n_le (by omega) (by omega)] at c33
            have e : f = C 0 := by omega
            subst e
            rw [n_inc]
            refine ih (t + 1) (gRnd C (C 0) g) (nI g) _ (by omega) (by omega) hg (sub_tr h4 (gRnd_ge C _ g)) (fun d q1 q2 => gRnd_le q2 _ _ (h5 d q1 q2)) ?_ ?_
            · by_cases e : gRnd C (C 0) g = g
              · left; rw [e]; exact gRnd_clo hv e
              · rcases h6 with h6 | h6
                · exact absurd (gRnd_same h6 _) e
                · right
                  have := pc6_lt h3 hg (gRnd_ge C (C 0) g) (Ne.symm e)
                  omega
            · intro e
              rw [n_eq (by omega) (by omega)] at e
              rw [e]; exact gRnd_clo hv e
          · rw [hL.1, n_le (by omega) (by omega)] at c33
            rw [tbit_and1 _ _ (by omega) (by omega)] at c44
            have e : gRnd C (f + 1) g = gRnd C f g := by
              show gStep C f (gRnd C f g) = _
              unfold gStep
              rw [if_neg]
              intro q
              rw [if_pos q] at c44
              exact c44 rfl
            rw [n_or, Nat.or_zero, n_inc]
            have h10 := ih2 (f + 1) (by omega) (by omega)
            rw [e] at h10
            exact h10
          · rw [hL.1, n_le (by omega) (by omega)] at c33
            exact n_in (by omega) (by omega)
          · rw [hL.1, n_le (by omega) (by omega)] at c33
            rw [tbit_and1 _ _ (by omega) (by omega)] at c44
            have q : (gRnd C f g).testBit f = true := by
              by_cases q : (gRnd C f g).testBit f = true
              · exact q
              · rw [if_neg q] at c44
                exact absurd c44 (by decide)
            have e : gRnd C (f + 1) g = gRnd C f g ||| madeF C 0 f (C 3) := by
              show gStep C f (gRnd C f g) = _
              unfold gStep
              rw [if_pos q]
            rw [n_cl (by omega), (hM f (by omega)).1, n_or, n_inc, ← e]
            exact ih2 (f + 1) (by omega) (by omega)
      refine b_iloadG (pc := 7) 4 dX2_grow_7 rfl ?_
      refine b_bipush (pc := 9) (nI 6) dX2_grow_9 (by decide) ?_
      refine b_icmp_gt (pc := 11) 72 dX2_grow_11 (by decide) (fun c11 => ?_) (fun c11 => ?_)
      refine b_iloadN (pc := 72) 2 dX2_grow_72 rfl rfl ?_
      refine b_iret (pc := 73) rfl dX2_grow_73 ⟨Nat.le_of_ble_eq_true rfl, Nat.le_of_ble_eq_true rfl⟩ ?_
      rotate_left -- leaf 0: return at 73
      refine b_iloadN (pc := 14) 2 dX2_grow_14 rfl rfl ?_
      refine b_iloadN (pc := 15) 3 dX2_grow_15 rfl rfl ?_
      refine b_icmp_eq (pc := 16) 72 dX2_grow_16 (by decide) (fun c16 => ?_) (fun c16 => ?_)
      refine b_iloadN (pc := 72) 2 dX2_grow_72 rfl rfl ?_
      refine b_iret (pc := 73) rfl dX2_grow_73 ⟨Nat.le_of_ble_eq_true rfl, Nat.le_of_ble_eq_true rfl⟩ ?_
      rotate_left -- leaf 1: return at 73
      refine b_iloadN (pc := 19) 2 dX2_grow_19 rfl rfl ?_
      refine siN3 (pc := 20) rfl notL_i (by decide) dX2_grow_20 ?_
      refine b_iconst (pc := 21) (nI 0) dX2_grow_21 (by decide) ?_
      refine siG5 (pc := 22) notL_i (by decide) dX2_grow_22 ?_
      rotate_left -- leaf 2: at 24
      -- leaves: 0 return at 73; 1 return at 73; 2 at 24
      · rw [n_lt (by omega) (by omega)] at c11
        refine done ?_
        rcases h6 with h6 | h6
        · exact h6
        · have := pc6_le g h3
          omega
      · exact done (h7 c16)
      · rw [n_lt (by omega) (by omega)] at c11
        exact inner (by omega) (C 0 + 1) 0 (by omega) (by omega)
  refine b_iloadN (pc := 0) 1 dX2_grow_0 rfl rfl ?_
  refine siN2 (pc := 1) rfl notL_i (by decide) dX2_grow_1 ?_
  refine b_iconst (pc := 2) (-1) dX2_grow_2 (by decide) ?_
  refine siN3 (pc := 3) rfl notL_i (by decide) dX2_grow_3 ?_
  refine b_iconst (pc := 4) (nI 0) dX2_grow_4 (by decide) ?_
  refine siG4 (pc := 5) notL_i (by decide) dX2_grow_5 ?_
  rotate_left -- leaf 0: at 7
  -- leaves: 0 at 7
  exact outer 8 0 k (-1) none (by omega) (by omega) hk (sub_rf k) (fun d q _ => q) (Or.inr (Nat.zero_le _)) (fun e => absurd e (n_ne_m1 (by omega)))
theorem call_X2_grow {E : ME} {Φ : Option AV → AM → Prop} {pc : Nat} {L : List (Option AV)} {st : List AV} {m : AM} {a : Nat × Nat} {idx : Nat} {x0 : AV} {i : Nat} (hl : Cond.methodLink E.2.1 idx yX2_grow ∈ TB) (hdep : 1 + 1 ≤ E.2.2.2.2.2.2) (hroom : a.1 + 0 ≤ E.2.2.2.2.1 ∧ a.2 + 0 ≤ E.2.2.2.2.2.1) (hsr : st.length ≤ 4) (hd : decode E.1 pc = .ok (.invokevirtual idx, 3)) (hsp : Sp_X2_grow [vr 2 i, x0] m (fun r m2 => B E Φ (pc + 3) L (r.toList ++ st) m2 a)) : B E Φ pc L (x0 :: vr 2 i :: st) m a := b_callV S_X2_grow [x0] (RX2, TX2, 5) rfl rfl (by decide) (Or.inl hl) k681 k13 k73 k682 (show _ ∧ _ ∧ Option.map (fun d => d.parameters.length) (parseMethodDescriptor yX2_grow.desc) = some 1 from by decide +kernel) ⟨hdep, by decide⟩ hroom hsr hd hsp
end
section
/-! the class's court, further: isBarred, settle, believed, outcome, soBehind -/
theorem nat_zero_of {n : Nat} (h : ∀ i, n.testBit i = false) : n = 0 := Nat.eq_of_testBit_eq fun i => by rw [h i, Nat.zero_testBit]
theorem bar_iff {C : Nat → Nat} (hv : VC C) (s : Nat) : canBe C s = true ↔ ∀ f, f < C 0 → s.testBit f = true → s &&& madeF C 1 f (C 3) = 0 := by
  unfold canBe
  rw [canB_iff]
  constructor
  · intro h f hf hb
    refine nat_zero_of fun i => ?_
    rw [Nat.testBit_and]
    cases h1 : s.testBit i
    · rfl
    · cases h2 : (madeF C 1 f (C 3)).testBit i
      · rfl
      · obtain ⟨k, hk, q1, q2, q3, q4⟩ := (madeF_bit C 1 f i (C 3)).mp h2
        rcases h k hk with h3 | h3 | h3
        · omega
        · omega
        · rw [q3, q4] at h3
          exact absurd ⟨hb, h1⟩ h3
  · intro h k hk
    have hr := hv.2.2.2.2.2.2.2.2.1 k hk
    by_cases e1 : C (8 + 4 * k) = 0
    · exact Or.inl e1
    · by_cases e2 : C (11 + 4 * k) = 1
      · exact Or.inr (Or.inl e2)
      · right; right
        rintro ⟨q1, q2⟩
        have h3 := h _ hr.2.1 q1
        have h4 : (s &&& madeF C 1 (C (9 + 4 * k)) (C 3)).testBit (C (10 + 4 * k)) = true := by
          rw [Nat.testBit_and, q2, Bool.true_and]
          exact (madeF_bit C 1 _ _ _).mpr ⟨k, hk, by omega, by omega, rfl, rfl⟩
        rw [h3, Nat.zero_testBit] at h4
        cases h4
abbrev e_X2_isBarred : ME := (cX2_isBarred, (RX2, (3, ((some .boolean), (0, (0, 1))))))
theorem dX2_isBarred_0 : decode cX2_isBarred 0 = .ok (.iconst 0, 1) := by decide +kernel
theorem dX2_isBarred_1 : decode cX2_isBarred 1 = .ok (.istore_n 2, 1) := by decide +kernel
theorem dX2_isBarred_2 : decode cX2_isBarred 2 = .ok (.iload_n 2, 1) := by decide +kernel
theorem dX2_isBarred_3 : decode cX2_isBarred 3 = .ok (.aload_n 0, 1) := by decide +kernel
theorem dX2_isBarred_4 : decode cX2_isBarred 4 = .ok (.getfield 12, 3) := by decide +kernel
theorem dX2_isBarred_7 : decode cX2_isBarred 7 = .ok (.getfield 35, 3) := by decide +kernel
theorem dX2_isBarred_10 : decode cX2_isBarred 10 = .ok (.if_icmp .ge 31, 3) := by decide +kernel
theorem dX2_isBarred_13 : decode cX2_isBarred 13 = .ok (.iload_n 1, 1) := by decide +kernel
theorem dX2_isBarred_14 : decode cX2_isBarred 14 = .ok (.iload_n 2, 1) := by decide +kernel
theorem dX2_isBarred_15 : decode cX2_isBarred 15 = .ok (.ishr, 1) := by decide +kernel
theorem dX2_isBarred_16 : decode cX2_isBarred 16 = .ok (.iconst 1, 1) := by decide +kernel
theorem dX2_isBarred_17 : decode cX2_isBarred 17 = .ok (.iand, 1) := by decide +kernel
theorem dX2_isBarred_18 : decode cX2_isBarred 18 = .ok (.iconst 1, 1) := by decide +kernel
theorem dX2_isBarred_19 : decode cX2_isBarred 19 = .ok (.if_icmp .ne 16, 3) := by decide +kernel
theorem dX2_isBarred_22 : decode cX2_isBarred 22 = .ok (.iload_n 1, 1) := by decide +kernel
theorem dX2_isBarred_23 : decode cX2_isBarred 23 = .ok (.aload_n 0, 1) := by decide +kernel
theorem dX2_isBarred_24 : decode cX2_isBarred 24 = .ok (.getfield 29, 3) := by decide +kernel
theorem dX2_isBarred_27 : decode cX2_isBarred 27 = .ok (.iload_n 2, 1) := by decide +kernel
theorem dX2_isBarred_28 : decode cX2_isBarred 28 = .ok (.iaload, 1) := by decide +kernel
theorem dX2_isBarred_29 : decode cX2_isBarred 29 = .ok (.iand, 1) := by decide +kernel
theorem dX2_isBarred_30 : decode cX2_isBarred 30 = .ok (.ifCond .eq 5, 3) := by decide +kernel
theorem dX2_isBarred_33 : decode cX2_isBarred 33 = .ok (.iconst 1, 1) := by decide +kernel
theorem dX2_isBarred_34 : decode cX2_isBarred 34 = .ok (.ireturn, 1) := by decide +kernel
theorem dX2_isBarred_35 : decode cX2_isBarred 35 = .ok (.iinc 2 1, 3) := by decide +kernel
theorem dX2_isBarred_38 : decode cX2_isBarred 38 = .ok (.goto (-36), 3) := by decide +kernel
theorem dX2_isBarred_41 : decode cX2_isBarred 41 = .ok (.iconst 0, 1) := by decide +kernel
theorem dX2_isBarred_42 : decode cX2_isBarred 42 = .ok (.ireturn, 1) := by decide +kernel
def Sp_X2_isBarred (av : List AV) (m : AM) (Φ : Option AV → AM → Prop) : Prop := ∃ s, av = [vr 2 20, vi s] ∧ ∃ C k, BR m C ∧ s = nI k ∧ k < 64 ∧ Φ (some (vi (nI (if canBe C k = true then 0 else 1)))) m
set_option maxRecDepth 20000 in
set_option maxHeartbeats 4000000 in
theorem S_X2_isBarred : Snd yX2_isBarred e_X2_isBarred Sp_X2_isBarred := by
  refine Snd.of (by decide +kernel) rfl ?_ ?_
  · rintro av m Φ ⟨s, rfl, _⟩; exact Nat.le_of_ble_eq_true rfl
  rintro av m Φ ⟨s, rfl, C, k, hB, rfl, hk, h⟩ hav hty
  show B e_X2_isBarred Φ 0 [some (vr 2 20), some (vi (nI k)), none] [] m (0, 0)
  obtain ⟨hv, hL, hS, hM, hC⟩ := hB
  have hf0 : C 0 ≤ 6 := hv.1.2
  have loop : ∀ n f, C 0 + 1 ≤ f + n → f ≤ C 0 → (∀ j, j < f → k.testBit j = true → k &&& madeF C 1 j (C 3) = 0) → B e_X2_isBarred Φ 2 [some (vr 2 20), some (vi (nI k)), some (vi (nI f))] [] m (0, 0) := by
    intro n
    induction n with
    | zero => intro f h1 h2; omega
    | succ n ih =>
      intro f h1 h2 h3
      refine b_iloadN (pc := 2) 2 dX2_isBarred_2 rfl rfl ?_
      refine b_aloadN (pc := 3) 0 dX2_isBarred_3 rfl rfl ?_
      refine gf2_0 (pc := 4) 21 rfl k264 dX2_isBarred_4 ?_
      refine gf5_4 (pc := 7) k143 dX2_isBarred_7 ?_
      refine b_icmp_ge (pc := 10) 41 dX2_isBarred_10 (by decide) (fun c10 => ?_) (fun c10 => ?_)
      refine b_iconst (pc := 41) (nI 0) dX2_isBarred_41 (by decide) ?_
      refine b_zret (pc := 42) rfl ?_ dX2_isBarred_42 ⟨Nat.le_of_ble_eq_true rfl, Nat.le_of_ble_eq_true rfl⟩ ?_
      rotate_left -- leaf 0: bool at 42
      rotate_left -- leaf 1: return at 42
      refine b_iloadN (pc := 13) 1 dX2_isBarred_13 rfl rfl ?_
      refine b_iloadN (pc := 14) 2 dX2_isBarred_14 rfl rfl ?_
      refine b_ishr (pc := 15) dX2_isBarred_15 ?_
      refine b_iconst (pc := 16) (nI 1) dX2_isBarred_16 (by decide) ?_
      refine b_iand (pc := 17) dX2_isBarred_17 ?_
      refine b_iconst (pc := 18) (nI 1) dX2_isBarred_18 (by decide) ?_
      refine b_icmp_ne (pc := 19) 35 dX2_isBarred_19 (by decide) (fun c19 => ?_) (fun c19 => ?_)
      refine inc2 (pc := 35) notL_i (by decide) dX2_isBarred_35 ?_
      refine b_goto (pc := 38) 2 dX2_isBarred_38 (by decide) ?_
      rotate_left -- leaf 2: at 2
      refine b_iloadN (pc := 22) 1 dX2_isBarred_22 rfl rfl ?_
      refine b_aloadN (pc := 23) 0 dX2_isBarred_23 rfl rfl ?_
      refine gf2_3 (pc := 24) 29 rfl k277 dX2_isBarred_24 ?_
      refine b_iloadN (pc := 27) 2 dX2_isBarred_27 rfl rfl ?_
      refine b_iald (pc := 28) (by decide) ?_ dX2_isBarred_28 ?_
      rotate_left -- leaf 3: index at 28
      refine b_iand (pc := 29) dX2_isBarred_29 ?_
      refine b_if_eq (pc := 30) 35 dX2_isBarred_30 (by decide) (fun c30 => ?_) (fun c30 => ?_)
      refine inc2 (pc := 35) notL_i (by decide) dX2_isBarred_35 ?_
      refine b_goto (pc := 38) 2 dX2_isBarred_38 (by decide) ?_
      rotate_left -- leaf 4: at 2
      refine b_iconst (pc := 33) (nI 1) dX2_isBarred_33 (by decide) ?_
      refine b_zret (pc := 34) rfl ?_ dX2_isBarred_34 ⟨Nat.le_of_ble_eq_true rfl, Nat.le_of_ble_eq_true rfl⟩ ?_
      rotate_left -- leaf 5: bool at 34
      rotate_left -- leaf 6: return at 34
      -- leaves: 0 bool at 42; 1 return at 42; 2 at 2; 3 index at 28; 4 at 2; 5 bool at 34; 6 return at 34
      · exact Or.inl rfl
      · rw [hL.1, n_le (by omega) (by omega)] at c10
        have e : f = C 0 := by omega
        subst e
        rw [if_pos ((bar_iff hv k).mpr h3)] at h
        exact h
      · rw [hL.1, n_le (by omega) (by omega)] at c10
        rw [tbit_and1 _ _ (by omega) (by omega)] at c19
        rw [n_inc]
        refine ih (f + 1) (by omega) (by omega) (fun j hj hb => ?_)
        rcases Nat.lt_or_ge j f with q | q
        · exact h3 j q hb
        · have e : j = f := by omega
          subst e
          rw [if_pos hb] at c19
          exact absurd rfl c19
      · rw [hL.1, n_le (by omega) (by omega)] at c10
        exact n_in (by omega) (by omega)
      · rw [hL.1, n_le (by omega) (by omega)] at c10
        rw [n_cl (by omega), (hM f (by omega)).2, n_and, n_eq0 (Nat.lt_of_le_of_lt Nat.and_le_left (by omega))] at c30
        rw [n_inc]
        refine ih (f + 1) (by omega) (by omega) (fun j hj hb => ?_)
        rcases Nat.lt_or_ge j f with q | q
        · exact h3 j q hb
        · have e : j = f := by omega
          subst e
          exact c30
      · exact Or.inr rfl
      · rw [hL.1, n_le (by omega) (by omega)] at c10
        rw [tbit_and1 _ _ (by omega) (by omega)] at c19
        rw [n_cl (by omega), (hM f (by omega)).2, n_and, n_eq0 (Nat.lt_of_le_of_lt Nat.and_le_left (by omega))] at c30
        have hb : k.testBit f = true := by
          by_cases q : k.testBit f = true
          · exact q
          · rw [if_neg q] at c19
            exact absurd c19 (by decide)
        rw [if_neg (fun q => c30 ((bar_iff hv k).mp q f (by omega) hb))] at h
        exact h
  refine b_iconst (pc := 0) (nI 0) dX2_isBarred_0 (by decide) ?_
  refine siN2 (pc := 1) rfl notL_i (by decide) dX2_isBarred_1 ?_
  rotate_left -- leaf 0: at 2
  -- leaves: 0 at 2
  exact loop (C 0 + 1) 0 (by omega) (by omega) (fun j hj => absurd hj (Nat.not_lt_zero j))
theorem call_X2_isBarred {E : ME} {Φ : Option AV → AM → Prop} {pc : Nat} {L : List (Option AV)} {st : List AV} {m : AM} {a : Nat × Nat} {idx : Nat} {x0 : AV} {i : Nat} (hl : Cond.methodLink E.2.1 idx yX2_isBarred ∈ TB) (hdep : 1 + 1 ≤ E.2.2.2.2.2.2) (hroom : a.1 + 0 ≤ E.2.2.2.2.1 ∧ a.2 + 0 ≤ E.2.2.2.2.2.1) (hsr : st.length ≤ 4) (hd : decode E.1 pc = .ok (.invokevirtual idx, 3)) (hsp : Sp_X2_isBarred [vr 2 i, x0] m (fun r m2 => B E Φ (pc + 3) L (r.toList ++ st) m2 a)) : B E Φ pc L (x0 :: vr 2 i :: st) m a := b_callV S_X2_isBarred [x0] (RX2, TX2, 5) rfl rfl (by decide) (Or.inl hl) k685 k14 k73 k686 (show _ ∧ _ ∧ Option.map (fun d => d.parameters.length) (parseMethodDescriptor yX2_isBarred.desc) = some 1 from by decide +kernel) ⟨hdep, by decide⟩ hroom hsr hd hsp
/-! what was settled, kept -/
def CU (C : Nat → Nat) (m m2 : AM) : Prop := ∃ g, m2 = aset m 30 g ∧ ∀ s, s < 64 → g s = m.1 30 s ∨ g s = oI (setN C s)
theorem CU.rf (C : Nat → Nat) (m : AM) : CU C m m := ⟨m.1 30, by
  unfold aset
  have e : (fun a => if a = 30 then m.1 30 else m.1 a) = m.1 := by funext a; by_cases q : a = 30 <;> simp [q]
  rw [e], fun s _ => Or.inl rfl⟩
theorem aset_aset (m : AM) (i : Nat) (f g : Nat → Int32) : aset (aset m i f) i g = aset m i g := by
  unfold aset
  have e : (fun a => if a = i then g else (fun a => if a = i then f else m.1 a) a) = (fun a => if a = i then g else m.1 a) := by funext a; by_cases q : a = i <;> simp [q]
  simp only [e]
theorem CU.tr {C : Nat → Nat} {m m2 m3 : AM} (h : CU C m m2) (h2 : CU C m2 m3) : CU C m m3 := by
  obtain ⟨g, rfl, hg⟩ := h
  obtain ⟨g2, rfl, hg2⟩ := h2
  refine ⟨g2, aset_aset m 30 g g2, fun s hs => ?_⟩
  rcases hg2 s hs with q | q
  · rw [aset_at] at q
    rcases hg s hs with q2 | q2
    · exact Or.inl (q.trans q2)
    · exact Or.inr (q.trans q2)
  · exact Or.inr q
theorem CU.ne {C : Nat → Nat} {m m2 : AM} (h : CU C m m2) {a : Nat} (ha : a ≠ 30) : m2.1 a = m.1 a := by
  obtain ⟨g, rfl, hg⟩ := h
  exact aset_ne m g ha
theorem CU.two {C : Nat → Nat} {m m2 : AM} (h : CU C m m2) : m2.2 = m.2 := by
  obtain ⟨g, rfl, hg⟩ := h
  rfl
theorem LawR.cg {m m2 : AM} {i : Nat} {C : Nat → Nat} (h0 : m2.1 i = m.1 i) (h1 : m2.1 (i + 1) = m.1 (i + 1)) (h2 : m2.1 (i + 2) = m.1 (i + 2)) (h3 : m2.1 (i + 3) = m.1 (i + 3)) (h4 : m2.1 (i + 4) = m.1 (i + 4)) (h : LawR m i C) : LawR m2 i C := by
  unfold LawR
  rw [h0, h1, h2, h3, h4]
  exact h
theorem StR.cg {m m2 : AM} {i : Nat} {C : Nat → Nat} (h0 : m2.1 i = m.1 i) (h1 : m2.1 (i + 1) = m.1 (i + 1)) (h : StR m i C) : StR m2 i C := by
  unfold StR
  rw [h0, h1]
  exact h
theorem BR.cu {C : Nat → Nat} {m m2 : AM} (hB : BR m C) (h : CU C m m2) : BR m2 C := by
  obtain ⟨hv, hL, hS, hM, hC⟩ := hB
  refine ⟨hv, hL.cg (h.ne (by decide)) (h.ne (by decide)) (h.ne (by decide)) (h.ne (by decide)) (h.ne (by decide)), hS.cg (h.ne (by decide)) (h.ne (by decide)), ?_, ?_⟩
  · intro f hf
    rw [h.ne (by decide), h.ne (by decide)]
    exact hM f hf
  · obtain ⟨g, rfl, hg⟩ := h
    intro s hs
    rw [aset_at]
    rcases hg s hs with q | q
    · rw [q]; exact hC s hs
    · exact Or.inr q
theorem mset_aset (m : AM) (i j : Nat) (x : Int32) : mset m i j x = aset m i (upd (m.1 i) j x) := by
  unfold mset aset upd
  have e : (fun a b => if a = i then (if b = j then x else m.1 a b) else m.1 a b) = (fun a => if a = i then (fun b => if b = j then x else m.1 i b) else m.1 a) := by
    funext a b
    by_cases q : a = i
    · subst q; simp
    · simp [q]
  rw [e]
theorem CU.one {C : Nat → Nat} (m : AM) (k : Nat) : CU C m (mset m 30 k (oI (setN C k))) := by
  refine ⟨_, mset_aset m 30 k _, fun s hs => ?_⟩
  unfold upd
  by_cases q : s = k
  · subst q; right; simp
  · left; simp [q]
abbrev e_X2_settle : ME := (cX2_settle, (RX2, (3, ((some .int), (0, (0, 2))))))
theorem dX2_settle_0 : decode cX2_settle 0 = .ok (.iload_n 1, 1) := by decide +kernel
theorem dX2_settle_1 : decode cX2_settle 1 = .ok (.ifCond .lt 12, 3) := by decide +kernel
theorem dX2_settle_4 : decode cX2_settle 4 = .ok (.iload_n 1, 1) := by decide +kernel
theorem dX2_settle_5 : decode cX2_settle 5 = .ok (.aload_n 0, 1) := by decide +kernel
theorem dX2_settle_6 : decode cX2_settle 6 = .ok (.getfield 32, 3) := by decide +kernel
theorem dX2_settle_9 : decode cX2_settle 9 = .ok (.arraylength, 1) := by decide +kernel
theorem dX2_settle_10 : decode cX2_settle 10 = .ok (.if_icmp .lt 6, 3) := by decide +kernel
theorem dX2_settle_13 : decode cX2_settle 13 = .ok (.ldc 105, 2) := by decide +kernel
theorem dX2_settle_15 : decode cX2_settle 15 = .ok (.ireturn, 1) := by decide +kernel
theorem dX2_settle_16 : decode cX2_settle 16 = .ok (.aload_n 0, 1) := by decide +kernel
theorem dX2_settle_17 : decode cX2_settle 17 = .ok (.getfield 32, 3) := by decide +kernel
theorem dX2_settle_20 : decode cX2_settle 20 = .ok (.iload_n 1, 1) := by decide +kernel
theorem dX2_settle_21 : decode cX2_settle 21 = .ok (.iaload, 1) := by decide +kernel
theorem dX2_settle_22 : decode cX2_settle 22 = .ok (.iconst (-1), 1) := by decide +kernel
theorem dX2_settle_23 : decode cX2_settle 23 = .ok (.if_icmp .ne 29, 3) := by decide +kernel
theorem dX2_settle_26 : decode cX2_settle 26 = .ok (.aload_n 0, 1) := by decide +kernel
theorem dX2_settle_27 : decode cX2_settle 27 = .ok (.iload_n 1, 1) := by decide +kernel
theorem dX2_settle_28 : decode cX2_settle 28 = .ok (.invokevirtual 124, 3) := by decide +kernel
theorem dX2_settle_31 : decode cX2_settle 31 = .ok (.istore_n 2, 1) := by decide +kernel
theorem dX2_settle_32 : decode cX2_settle 32 = .ok (.aload_n 0, 1) := by decide +kernel
theorem dX2_settle_33 : decode cX2_settle 33 = .ok (.getfield 32, 3) := by decide +kernel
theorem dX2_settle_36 : decode cX2_settle 36 = .ok (.iload_n 1, 1) := by decide +kernel
theorem dX2_settle_37 : decode cX2_settle 37 = .ok (.aload_n 0, 1) := by decide +kernel
theorem dX2_settle_38 : decode cX2_settle 38 = .ok (.iload_n 2, 1) := by decide +kernel
theorem dX2_settle_39 : decode cX2_settle 39 = .ok (.invokevirtual 127, 3) := by decide +kernel
theorem dX2_settle_42 : decode cX2_settle 42 = .ok (.ifCond .eq 8, 3) := by decide +kernel
theorem dX2_settle_45 : decode cX2_settle 45 = .ok (.ldc 105, 2) := by decide +kernel
theorem dX2_settle_47 : decode cX2_settle 47 = .ok (.goto 4, 3) := by decide +kernel
theorem dX2_settle_50 : decode cX2_settle 50 = .ok (.iload_n 2, 1) := by decide +kernel
theorem dX2_settle_51 : decode cX2_settle 51 = .ok (.iastore, 1) := by decide +kernel
theorem dX2_settle_52 : decode cX2_settle 52 = .ok (.aload_n 0, 1) := by decide +kernel
theorem dX2_settle_53 : decode cX2_settle 53 = .ok (.getfield 32, 3) := by decide +kernel
theorem dX2_settle_56 : decode cX2_settle 56 = .ok (.iload_n 1, 1) := by decide +kernel
theorem dX2_settle_57 : decode cX2_settle 57 = .ok (.iaload, 1) := by decide +kernel
theorem dX2_settle_58 : decode cX2_settle 58 = .ok (.ireturn, 1) := by decide +kernel
def Sp_X2_settle (av : List AV) (m : AM) (Φ : Option AV → AM → Prop) : Prop := ∃ s, av = [vr 2 20, vi s] ∧ ∃ C k, BR m C ∧ s = nI k ∧ k < 64 ∧ ∀ m2, CU C m m2 → Φ (some (vi (oI (setN C k)))) m2
set_option maxRecDepth 20000 in
set_option maxHeartbeats 4000000 in
theorem S_X2_settle : Snd yX2_settle e_X2_settle Sp_X2_settle := by
  refine Snd.of (by decide +kernel) rfl ?_ ?_
  · rintro av m Φ ⟨s, rfl, _⟩; exact Nat.le_of_ble_eq_true rfl
  rintro av m Φ ⟨s, rfl, C, k, hB, rfl, hk, h⟩ hav hty
  show B e_X2_settle Φ 0 [some (vr 2 20), some (vi (nI k)), none] [] m (0, 0)
  have e64 : Int32.ofNat (164 - 100) = nI 64 := rfl
  have hc := closedN_lt hB.1.hv hk
  have fin : ∀ m2 o, CU C m m2 → m2.1 30 k = oI (setN C k) → B e_X2_settle Φ 52 [some (vr 2 20), some (vi (nI k)), o] [] m2 (0, 0) := by
    intro m2 o h1 h2
    refine b_aloadN (pc := 52) 0 dX2_settle_52 rfl rfl ?_
    refine gf2_4 (pc := 53) 30 rfl k278 dX2_settle_53 ?_
    refine b_iloadN (pc := 56) 1 dX2_settle_56 rfl rfl ?_
    refine b_iald (pc := 57) (by decide) ?_ dX2_settle_57 ?_
    rotate_left -- leaf 0: index at 57
    refine b_iret (pc := 58) rfl dX2_settle_58 ⟨Nat.le_of_ble_eq_true rfl, Nat.le_of_ble_eq_true rfl⟩ ?_
    rotate_left -- leaf 1: return at 58
    -- leaves: 0 index at 57; 1 return at 58
    · exact n_in (by omega) (by omega)
    · rw [n_cl (by omega), h2]
      exact h m2 h1
  have mid : B e_X2_settle Φ 51 [some (vr 2 20), some (vi (nI k)), some (vi (nI (closedN C k)))] [vi (oI (setN C k)), vi (nI k), vr 164 30] m (0, 0) := by
    refine b_iast (pc := 51) (by decide) ?_ dX2_settle_51 ?_
    rotate_left -- leaf 0: index at 51
    rotate_left -- leaf 1: at 52
    -- leaves: 0 index at 51; 1 at 52
    · exact n_in (by omega) (by omega)
    · rw [n_cl (by omega)]
      exact fin _ _ (CU.one m k) (by rw [mset_at, if_pos rfl])
  refine b_iloadN (pc := 0) 1 dX2_settle_0 rfl rfl ?_
  refine b_if_lt (pc := 1) 13 dX2_settle_1 (by decide) (fun c1 => ?_) (fun c1 => ?_)
  refine b_ldc (pc := 13) k678 dX2_settle_13 ?_
  refine b_iret (pc := 15) rfl dX2_settle_15 ⟨Nat.le_of_ble_eq_true rfl, Nat.le_of_ble_eq_true rfl⟩ ?_
  rotate_left -- leaf 0: return at 15
  refine b_iloadN (pc := 4) 1 dX2_settle_4 rfl rfl ?_
  refine b_aloadN (pc := 5) 0 dX2_settle_5 rfl rfl ?_
  refine gf2_4 (pc := 6) 30 rfl k278 dX2_settle_6 ?_
  refine b_alen (pc := 9) _ (by decide) rfl dX2_settle_9 ?_
  refine b_icmp_lt (pc := 10) 16 dX2_settle_10 (by decide) (fun c10 => ?_) (fun c10 => ?_)
  refine b_aloadN (pc := 16) 0 dX2_settle_16 rfl rfl ?_
  refine gf2_4 (pc := 17) 30 rfl k278 dX2_settle_17 ?_
  refine b_iloadN (pc := 20) 1 dX2_settle_20 rfl rfl ?_
  refine b_iald (pc := 21) (by decide) ?_ dX2_settle_21 ?_
  rotate_left -- leaf 1: index at 21
  refine b_iconst (pc := 22) (-1) dX2_settle_22 (by decide) ?_
  refine b_icmp_ne (pc := 23) 52 dX2_settle_23 (by decide) (fun c23 => ?_) (fun c23 => ?_)
  rotate_left -- leaf 2: at 52
  refine b_aloadN (pc := 26) 0 dX2_settle_26 rfl rfl ?_
  refine b_iloadN (pc := 27) 1 dX2_settle_27 rfl rfl ?_
  refine call_X2_grow (pc := 28) k679 (by decide) ⟨Nat.le_of_ble_eq_true rfl, Nat.le_of_ble_eq_true rfl⟩ (Nat.le_of_ble_eq_true rfl) dX2_settle_28 ?_
  refine ⟨_, rfl, C, _, hB, rfl, ?_, ?_⟩
  rotate_left -- leaf 3: bound of X2_grow at 28
  refine siN2 (pc := 31) rfl notL_i (by decide) dX2_settle_31 ?_
  refine b_aloadN (pc := 32) 0 dX2_settle_32 rfl rfl ?_
  refine gf2_4 (pc := 33) 30 rfl k278 dX2_settle_33 ?_
  refine b_iloadN (pc := 36) 1 dX2_settle_36 rfl rfl ?_
  refine b_aloadN (pc := 37) 0 dX2_settle_37 rfl rfl ?_
  refine b_iloadN (pc := 38) 2 dX2_settle_38 rfl rfl ?_
  refine call_X2_isBarred (pc := 39) k683 (by decide) ⟨Nat.le_of_ble_eq_true rfl, Nat.le_of_ble_eq_true rfl⟩ (Nat.le_of_ble_eq_true rfl) dX2_settle_39 ?_
  refine ⟨_, rfl, C, _, hB, rfl, ?_, ?_⟩
  rotate_left -- leaf 4: bound of X2_isBarred at 39
  refine b_if_eq (pc := 42) 50 dX2_settle_42 (by decide) (fun c42 => ?_) (fun c42 => ?_)
  refine b_iloadN (pc := 50) 2 dX2_settle_50 rfl rfl ?_
  rotate_left -- leaf 5: at 51
  refine b_ldc (pc := 45) k678 dX2_settle_45 ?_
  refine b_goto (pc := 47) 51 dX2_settle_47 (by decide) ?_
  rotate_left -- leaf 6: at 51
  refine b_ldc (pc := 13) k678 dX2_settle_13 ?_
  refine b_iret (pc := 15) rfl dX2_settle_15 ⟨Nat.le_of_ble_eq_true rfl, Nat.le_of_ble_eq_true rfl⟩ ?_
  rotate_left -- leaf 7: return at 15
  -- leaves: 0 return at 15; 1 index at 21; 2 at 52; 3 bound of X2_grow at 28; 4 bound of X2_isBarred at 39; 5 at 51; 6 at 51; 7 return at 15
  · rw [n_lt0 (by omega)] at c1
    exact c1.elim
  · exact n_in (by omega) (by omega)
  · rw [n_cl (by omega)] at c23
    rcases hB.2.2.2.2 k hk with q | q
    · exact absurd q c23
    · exact fin m _ (CU.rf C m) q
  · exact hk
  · exact hc
  · have e : canBe C (closedN C k) = true := by
      by_cases q : canBe C (closedN C k) = true
      · exact q
      · rw [if_neg q] at c42
        exact absurd c42 (by decide)
    have e2 : oI (setN C k) = nI (closedN C k) := by unfold setN; rw [if_pos e]; rfl
    rw [e2] at mid
    exact mid
  · have e : ¬ canBe C (closedN C k) = true := fun q => by
      rw [if_pos q] at c42
      exact c42 rfl
    have e2 : oI (setN C k) = -1000000 := by unfold setN; rw [if_neg e]; rfl
    rw [e2] at mid
    exact mid
  · rw [e64, n_lt (by omega) (by omega)] at c10
    omega
theorem call_X2_settle {E : ME} {Φ : Option AV → AM → Prop} {pc : Nat} {L : List (Option AV)} {st : List AV} {m : AM} {a : Nat × Nat} {idx : Nat} {x0 : AV} {i : Nat} (hl : Cond.methodLink E.2.1 idx yX2_settle ∈ TB) (hdep : 2 + 1 ≤ E.2.2.2.2.2.2) (hroom : a.1 + 0 ≤ E.2.2.2.2.1 ∧ a.2 + 0 ≤ E.2.2.2.2.2.1) (hsr : st.length ≤ 4) (hd : decode E.1 pc = .ok (.invokevirtual idx, 3)) (hsp : Sp_X2_settle [vr 2 i, x0] m (fun r m2 => B E Φ (pc + 3) L (r.toList ++ st) m2 a)) : B E Φ pc L (x0 :: vr 2 i :: st) m a := b_callV S_X2_settle [x0] (RX2, TX2, 5) rfl rfl (by decide) (Or.inl hl) k675 k676 k73 k677 (show _ ∧ _ ∧ Option.map (fun d => d.parameters.length) (parseMethodDescriptor yX2_settle.desc) = some 1 from by decide +kernel) ⟨hdep, by decide⟩ hroom hsr hd hsp
/-! what is believed -/
def withN (s f b : Nat) : Nat := if b = 1 then s ||| 2 ^ f else nDel s (2 ^ f)
def belN (C : Nat → Nat) (q s d k : Nat) : Nat := match q with
  | 1 => withN s (k / 2) (k % 2)
  | 2 => withN (withN s (k / 2) (k % 2)) ((k / 2 + 1) % C 0) (k % 2)
  | 3 => withN s (k / 2) (1 - k % 2)
  | 5 => if d.testBit (k / 2) = true then s else withN s (k / 2) (k % 2)
  | _ => s
/-- what is so behind a saying k of one of kind q, by s so, d said; none: not carried out -/
def outN (C : Nat → Nat) (q s d k : Nat) : Option Nat := setN C (belN C q s d k)
theorem and_pow (d f : Nat) : d &&& 2 ^ f = if d.testBit f = true then 2 ^ f else 0 := Nat.eq_of_testBit_eq fun i => by
  rw [Nat.testBit_and, Nat.testBit_two_pow]
  by_cases e : f = i
  · subst e
    split
    · next h => rw [h, Nat.testBit_two_pow]; simp
    · next h => rw [Bool.not_eq_true] at h; rw [h, Nat.zero_testBit]; rfl
  · split
    · rw [Nat.testBit_two_pow]; simp [e]
    · rw [Nat.zero_testBit]; simp [e]
theorem nDel_lt {a b : Nat} (h : a < 64) : nDel a b < 64 := by
  unfold nDel
  exact Nat.xor_lt_two_pow (n := 6) h (Nat.lt_of_le_of_lt Nat.and_le_left h)
theorem withN_lt {s f b : Nat} (hs : s < 64) (hf : f < 6) : withN s f b < 64 := by
  unfold withN
  split
  · exact or_lt64 hs (pow_lt64 hf)
  · exact nDel_lt hs
theorem belN_lt {C : Nat → Nat} (hv : VC C) (q : Nat) {s : Nat} (d : Nat) {k : Nat} (hs : s < 64) (hk : k < 2 * C 0) : belN C q s d k < 64 := by
  have h0 := hv.1
  have hf : k / 2 < 6 := by omega
  have hf2 : (k / 2 + 1) % C 0 < 6 := Nat.lt_of_lt_of_le (Nat.mod_lt _ (by omega)) h0.2
  unfold belN
  split
  · exact withN_lt hs hf
  · exact withN_lt (withN_lt hs hf) hf2
  · exact withN_lt hs hf
  · split
    · exact hs
    · exact withN_lt hs hf
  · exact hs
theorem withN_two (s f g b : Nat) : withN (withN s f b) g b = if b = 1 then s ||| (2 ^ f ||| 2 ^ g) else nDel s (2 ^ f ||| 2 ^ g) := by
  unfold withN
  split
  · rw [Nat.or_assoc]
  · refine Nat.eq_of_testBit_eq fun i => ?_
    rw [nDel_bit, nDel_bit, nDel_bit, Nat.testBit_or]
    generalize s.testBit i = p
    generalize (2 ^ f).testBit i = q
    generalize (2 ^ g).testBit i = r
    revert p q r
    decide
abbrev e_X2_factOf : ME := (cX2_factOf, (RX2, (1, ((some .int), (0, (0, 1))))))
theorem dX2_factOf_0 : decode cX2_factOf 0 = .ok (.iconst 1, 1) := by decide +kernel
theorem dX2_factOf_1 : decode cX2_factOf 1 = .ok (.iload_n 0, 1) := by decide +kernel
theorem dX2_factOf_2 : decode cX2_factOf 2 = .ok (.iconst 1, 1) := by decide +kernel
theorem dX2_factOf_3 : decode cX2_factOf 3 = .ok (.ishr, 1) := by decide +kernel
theorem dX2_factOf_4 : decode cX2_factOf 4 = .ok (.ishl, 1) := by decide +kernel
theorem dX2_factOf_5 : decode cX2_factOf 5 = .ok (.ireturn, 1) := by decide +kernel
def Sp_X2_factOf (av : List AV) (m : AM) (Φ : Option AV → AM → Prop) : Prop := ∃ s, av = [vi s] ∧ ∃ k, s = nI k ∧ k < 12 ∧ Φ (some (vi (nI (2 ^ (k / 2))))) m
set_option maxRecDepth 20000 in
set_option maxHeartbeats 4000000 in
theorem S_X2_factOf : Snd yX2_factOf e_X2_factOf Sp_X2_factOf := by
  refine Snd.of (by decide +kernel) rfl ?_ ?_
  · rintro av m Φ ⟨s, rfl, _⟩; exact Nat.le_of_ble_eq_true rfl
  rintro av m Φ ⟨s, rfl, k, rfl, hk, h⟩ hav hty
  show B e_X2_factOf Φ 0 [some (vi (nI k))] [] m (0, 0)
  have hp : 2 ^ (k / 2) < 64 := pow_lt64 (by omega)
  refine b_iconst (pc := 0) (nI 1) dX2_factOf_0 (by decide) ?_
  refine b_iloadN (pc := 1) 0 dX2_factOf_1 rfl rfl ?_
  refine b_iconst (pc := 2) (nI 1) dX2_factOf_2 (by decide) ?_
  refine b_ishr (pc := 3) dX2_factOf_3 ?_
  refine b_ishl (pc := 4) dX2_factOf_4 ?_
  refine b_iret (pc := 5) rfl dX2_factOf_5 ⟨Nat.le_of_ble_eq_true rfl, Nat.le_of_ble_eq_true rfl⟩ ?_
  rotate_left -- leaf 0: return at 5
  -- leaves: 0 return at 5
  rw [n_shr (by omega) (by omega), Nat.shiftRight_eq_div_pow, show 2 ^ 1 = 2 from rfl, n_shl (by omega) (by omega), Nat.shiftLeft_eq, Nat.one_mul]
  exact h
theorem call_X2_factOf {E : ME} {Φ : Option AV → AM → Prop} {pc : Nat} {L : List (Option AV)} {st : List AV} {m : AM} {a : Nat × Nat} {idx : Nat} {x0 : AV} (hl : Cond.methodLink E.2.1 idx yX2_factOf ∈ TB) (hdep : 1 + 1 ≤ E.2.2.2.2.2.2) (hroom : a.1 + 0 ≤ E.2.2.2.2.1 ∧ a.2 + 0 ≤ E.2.2.2.2.2.1) (hsr : st.length ≤ 4) (hd : decode E.1 pc = .ok (.invokestatic idx, 3)) (hsp : Sp_X2_factOf [x0] m (fun r m2 => B E Φ (pc + 3) L (r.toList ++ st) m2 a)) : B E Φ pc L (x0 :: st) m a := b_callS S_X2_factOf [x0] (Or.inl hl) k672 k73 k673 (show _ ∧ _ ∧ Option.map (fun d => d.parameters.length) (parseMethodDescriptor yX2_factOf.desc) = some 1 from by decide +kernel) ⟨hdep, by decide⟩ hroom hsr hd hsp
abbrev e_X2_believed : ME := (cX2_believed, (RX2, (7, ((some .int), (0, (0, 2))))))
theorem dX2_believed_0 : decode cX2_believed 0 = .ok (.iload_n 2, 1) := by decide +kernel
theorem dX2_believed_1 : decode cX2_believed 1 = .ok (.invokestatic 99, 3) := by decide +kernel
theorem dX2_believed_4 : decode cX2_believed 4 = .ok (.istore 5, 2) := by decide +kernel
theorem dX2_believed_6 : decode cX2_believed 6 = .ok (.iload_n 2, 1) := by decide +kernel
theorem dX2_believed_7 : decode cX2_believed 7 = .ok (.iconst 1, 1) := by decide +kernel
theorem dX2_believed_8 : decode cX2_believed 8 = .ok (.iand, 1) := by decide +kernel
theorem dX2_believed_9 : decode cX2_believed 9 = .ok (.iconst 1, 1) := by decide +kernel
theorem dX2_believed_10 : decode cX2_believed 10 = .ok (.if_icmp .ne 7, 3) := by decide +kernel
theorem dX2_believed_13 : decode cX2_believed 13 = .ok (.iconst 1, 1) := by decide +kernel
theorem dX2_believed_14 : decode cX2_believed 14 = .ok (.goto 4, 3) := by decide +kernel
theorem dX2_believed_17 : decode cX2_believed 17 = .ok (.iconst 0, 1) := by decide +kernel
theorem dX2_believed_18 : decode cX2_believed 18 = .ok (.istore 6, 2) := by decide +kernel
theorem dX2_believed_20 : decode cX2_believed 20 = .ok (.iload_n 1, 1) := by decide +kernel
theorem dX2_believed_21 : decode cX2_believed 21 = .ok (.tableswitch 89 2 5 #[31, 62, 77, 79], 31) := by decide +kernel
theorem dX2_believed_52 : decode cX2_believed 52 = .ok (.iload 5, 2) := by decide +kernel
theorem dX2_believed_54 : decode cX2_believed 54 = .ok (.iload_n 2, 1) := by decide +kernel
theorem dX2_believed_55 : decode cX2_believed 55 = .ok (.iconst 1, 1) := by decide +kernel
theorem dX2_believed_56 : decode cX2_believed 56 = .ok (.ishr, 1) := by decide +kernel
theorem dX2_believed_57 : decode cX2_believed 57 = .ok (.iconst 1, 1) := by decide +kernel
theorem dX2_believed_58 : decode cX2_believed 58 = .ok (.iadd, 1) := by decide +kernel
theorem dX2_believed_59 : decode cX2_believed 59 = .ok (.aload_n 0, 1) := by decide +kernel
theorem dX2_believed_60 : decode cX2_believed 60 = .ok (.getfield 12, 3) := by decide +kernel
theorem dX2_believed_63 : decode cX2_believed 63 = .ok (.getfield 35, 3) := by decide +kernel
theorem dX2_believed_66 : decode cX2_believed 66 = .ok (.if_icmp .ge 10, 3) := by decide +kernel
theorem dX2_believed_69 : decode cX2_believed 69 = .ok (.iload 5, 2) := by decide +kernel
theorem dX2_believed_71 : decode cX2_believed 71 = .ok (.iconst 1, 1) := by decide +kernel
theorem dX2_believed_72 : decode cX2_believed 72 = .ok (.ishl, 1) := by decide +kernel
theorem dX2_believed_73 : decode cX2_believed 73 = .ok (.goto 4, 3) := by decide +kernel
theorem dX2_believed_76 : decode cX2_believed 76 = .ok (.iconst 1, 1) := by decide +kernel
theorem dX2_believed_77 : decode cX2_believed 77 = .ok (.ior, 1) := by decide +kernel
theorem dX2_believed_78 : decode cX2_believed 78 = .ok (.istore 5, 2) := by decide +kernel
theorem dX2_believed_80 : decode cX2_believed 80 = .ok (.goto 30, 3) := by decide +kernel
theorem dX2_believed_83 : decode cX2_believed 83 = .ok (.iload 6, 2) := by decide +kernel
theorem dX2_believed_85 : decode cX2_believed 85 = .ok (.ifCond .ne 7, 3) := by decide +kernel
theorem dX2_believed_88 : decode cX2_believed 88 = .ok (.iconst 1, 1) := by decide +kernel
theorem dX2_believed_89 : decode cX2_believed 89 = .ok (.goto 4, 3) := by decide +kernel
theorem dX2_believed_92 : decode cX2_believed 92 = .ok (.iconst 0, 1) := by decide +kernel
theorem dX2_believed_93 : decode cX2_believed 93 = .ok (.istore 6, 2) := by decide +kernel
theorem dX2_believed_95 : decode cX2_believed 95 = .ok (.goto 15, 3) := by decide +kernel
theorem dX2_believed_98 : decode cX2_believed 98 = .ok (.iload_n 3, 1) := by decide +kernel
theorem dX2_believed_99 : decode cX2_believed 99 = .ok (.ireturn, 1) := by decide +kernel
theorem dX2_believed_100 : decode cX2_believed 100 = .ok (.iload 4, 2) := by decide +kernel
theorem dX2_believed_102 : decode cX2_believed 102 = .ok (.iload 5, 2) := by decide +kernel
theorem dX2_believed_104 : decode cX2_believed 104 = .ok (.iand, 1) := by decide +kernel
theorem dX2_believed_105 : decode cX2_believed 105 = .ok (.ifCond .eq 5, 3) := by decide +kernel
theorem dX2_believed_108 : decode cX2_believed 108 = .ok (.iload_n 3, 1) := by decide +kernel
theorem dX2_believed_109 : decode cX2_believed 109 = .ok (.ireturn, 1) := by decide +kernel
theorem dX2_believed_110 : decode cX2_believed 110 = .ok (.iload 6, 2) := by decide +kernel
theorem dX2_believed_112 : decode cX2_believed 112 = .ok (.ifCond .eq 10, 3) := by decide +kernel
theorem dX2_believed_115 : decode cX2_believed 115 = .ok (.iload_n 3, 1) := by decide +kernel
theorem dX2_believed_116 : decode cX2_believed 116 = .ok (.iload 5, 2) := by decide +kernel
theorem dX2_believed_118 : decode cX2_believed 118 = .ok (.ior, 1) := by decide +kernel
theorem dX2_believed_119 : decode cX2_believed 119 = .ok (.goto 9, 3) := by decide +kernel
theorem dX2_believed_122 : decode cX2_believed 122 = .ok (.iload_n 3, 1) := by decide +kernel
theorem dX2_believed_123 : decode cX2_believed 123 = .ok (.iload 5, 2) := by decide +kernel
theorem dX2_believed_125 : decode cX2_believed 125 = .ok (.iconst (-1), 1) := by decide +kernel
theorem dX2_believed_126 : decode cX2_believed 126 = .ok (.ixor, 1) := by decide +kernel
theorem dX2_believed_127 : decode cX2_believed 127 = .ok (.iand, 1) := by decide +kernel
theorem dX2_believed_128 : decode cX2_believed 128 = .ok (.ireturn, 1) := by decide +kernel
def Sp_X2_believed (av : List AV) (m : AM) (Φ : Option AV → AM → Prop) : Prop := ∃ kd sy so sd, av = [vr 2 20, vi kd, vi sy, vi so, vi sd] ∧ ∃ C q k s d, BR m C ∧ kd = nI q ∧ sy = nI k ∧ so = nI s ∧ sd = nI d ∧ (1 ≤ q ∧ q ≤ 5) ∧ k < 2 * C 0 ∧ s < 64 ∧ d < 64 ∧ Φ (some (vi (nI (belN C q s d k)))) m
set_option maxRecDepth 20000 in
set_option maxHeartbeats 4000000 in
theorem S_X2_believed : Snd yX2_believed e_X2_believed Sp_X2_believed := by
  refine Snd.of (by decide +kernel) rfl ?_ ?_
  · rintro av m Φ ⟨kd, sy, so, sd, rfl, _⟩; exact Nat.le_of_ble_eq_true rfl
  rintro av m Φ ⟨kd, sy, so, sd, rfl, C, q, k, s, d, hB, rfl, rfl, rfl, rfl, hq, hk, hs, hd, h⟩ hav hty
  show B e_X2_believed Φ 0 [some (vr 2 20), some (vi (nI q)), some (vi (nI k)), some (vi (nI s)), some (vi (nI d)), none, none] [] m (0, 0)
  have hv := hB.1
  have hL := hB.2.1
  have hf0 : C 0 ≤ 6 := hv.1.2
  have hp : 2 ^ (k / 2) < 64 := pow_lt64 (by omega)
  have tl : ∀ w e, e < 2 → Φ (some (vi (nI (if e = 1 then s ||| w else nDel s w)))) m → B e_X2_believed Φ 110 [some (vr 2 20), some (vi (nI q)), some (vi (nI k)), some (vi (nI s)), some (vi (nI d)), some (vi (nI w)), some (vi (nI e))] [] m (0, 0) := by
    intro w e he hw
    refine b_iloadG (pc := 110) 6 dX2_believed_110 rfl ?_
    refine b_if_eq (pc := 112) 122 dX2_believed_112 (by decide) (fun c112 => ?_) (fun c112 => ?_)
    refine b_iloadN (pc := 122) 3 dX2_believed_122 rfl rfl ?_
    refine b_iloadG (pc := 123) 5 dX2_believed_123 rfl ?_
    refine b_iconst (pc := 125) (-1) dX2_believed_125 (by decide) ?_
    refine b_ixor (pc := 126) dX2_believed_126 ?_
    refine b_iand (pc := 127) dX2_believed_127 ?_
    refine b_iret (pc := 128) rfl dX2_believed_128 ⟨Nat.le_of_ble_eq_true rfl, Nat.le_of_ble_eq_true rfl⟩ ?_
    rotate_left -- leaf 0: return at 128
    refine b_iloadN (pc := 115) 3 dX2_believed_115 rfl rfl ?_
    refine b_iloadG (pc := 116) 5 dX2_believed_116 rfl ?_
    refine b_ior (pc := 118) dX2_believed_118 ?_
    refine b_goto (pc := 119) 128 dX2_believed_119 (by decide) ?_
    refine b_iret (pc := 128) rfl dX2_believed_128 ⟨Nat.le_of_ble_eq_true rfl, Nat.le_of_ble_eq_true rfl⟩ ?_
    rotate_left -- leaf 1: return at 128
    -- leaves: 0 return at 128; 1 return at 128
    · rw [n_eq0 (by omega)] at c112
      subst c112
      rw [n_del]
      exact hw
    · rw [n_eq0 (by omega)] at c112
      have e1 : e = 1 := by omega
      subst e1
      rw [n_or]
      exact hw
  have sw : B e_X2_believed Φ 21 [some (vr 2 20), some (vi (nI q)), some (vi (nI k)), some (vi (nI s)), some (vi (nI d)), some (vi (nI (2 ^ (k / 2)))), some (vi (nI (k % 2)))] [vi (nI q)] m (0, 0) := by
    rcases (by omega : q = 1 ∨ q = 2 ∨ q = 3 ∨ q = 4 ∨ q = 5) with rfl | rfl | rfl | rfl | rfl
    · refine b_tableOut (pc := 21) 110 dX2_believed_21 (Or.inl (by decide)) (by decide) ?_
      exact tl _ _ (by omega) h
    · refine b_tableIn (pc := 21) (off := 31) 52 dX2_believed_21 (by decide) (by decide) (by decide) (by decide) ?_
      refine b_iloadG (pc := 52) 5 dX2_believed_52 rfl ?_
      refine b_iloadN (pc := 54) 2 dX2_believed_54 rfl rfl ?_
      refine b_iconst (pc := 55) (nI 1) dX2_believed_55 (by decide) ?_
      refine b_ishr (pc := 56) dX2_believed_56 ?_
      refine b_iconst (pc := 57) (nI 1) dX2_believed_57 (by decide) ?_
      refine b_iadd (pc := 58) dX2_believed_58 ?_
      refine b_aloadN (pc := 59) 0 dX2_believed_59 rfl rfl ?_
      refine gf2_0 (pc := 60) 21 rfl k264 dX2_believed_60 ?_
      refine gf5_4 (pc := 63) k143 dX2_believed_63 ?_
      refine b_icmp_ge (pc := 66) 76 dX2_believed_66 (by decide) (fun c66 => ?_) (fun c66 => ?_)
      refine b_iconst (pc := 76) (nI 1) dX2_believed_76 (by decide) ?_
      refine b_ior (pc := 77) dX2_believed_77 ?_
      refine siG5 (pc := 78) notL_i (by decide) dX2_believed_78 ?_
      refine b_goto (pc := 80) 110 dX2_believed_80 (by decide) ?_
      rotate_left -- leaf 0: at 110
      refine b_iloadG (pc := 69) 5 dX2_believed_69 rfl ?_
      refine b_iconst (pc := 71) (nI 1) dX2_believed_71 (by decide) ?_
      refine b_ishl (pc := 72) dX2_believed_72 ?_
      refine b_goto (pc := 73) 77 dX2_believed_73 (by decide) ?_
      refine b_ior (pc := 77) dX2_believed_77 ?_
      refine siG5 (pc := 78) notL_i (by decide) dX2_believed_78 ?_
      refine b_goto (pc := 80) 110 dX2_believed_80 (by decide) ?_
      rotate_left -- leaf 1: at 110
      -- leaves: 0 at 110; 1 at 110
      · rw [n_shr (by omega) (by omega), Nat.shiftRight_eq_div_pow, show 2 ^ 1 = 2 from rfl, n_add, hL.1, n_le (by omega) (by omega)] at c66
        have e : (k / 2 + 1) % C 0 = 0 := by rw [show k / 2 + 1 = C 0 by omega, Nat.mod_self]
        rw [n_or]
        refine tl _ _ (by omega) ?_
        have h2 := h
        unfold belN at h2
        rw [withN_two, e] at h2
        exact h2
      · rw [n_shr (by omega) (by omega), Nat.shiftRight_eq_div_pow, show 2 ^ 1 = 2 from rfl, n_add, hL.1, n_le (by omega) (by omega)] at c66
        have e : (k / 2 + 1) % C 0 = k / 2 + 1 := Nat.mod_eq_of_lt (by omega)
        rw [n_shl (by omega) (by omega), Nat.shiftLeft_eq, n_or]
        refine tl _ _ (by omega) ?_
        have h2 := h
        unfold belN at h2
        rw [withN_two, e] at h2
        exact h2
    · refine b_tableIn (pc := 21) (off := 62) 83 dX2_believed_21 (by decide) (by decide) (by decide) (by decide) ?_
      refine b_iloadG (pc := 83) 6 dX2_believed_83 rfl ?_
      refine b_if_ne (pc := 85) 92 dX2_believed_85 (by decide) (fun c85 => ?_) (fun c85 => ?_)
      refine b_iconst (pc := 92) (nI 0) dX2_believed_92 (by decide) ?_
      refine siG6 (pc := 93) notL_i (by decide) dX2_believed_93 ?_
      refine b_goto (pc := 95) 110 dX2_believed_95 (by decide) ?_
      rotate_left -- leaf 0: at 110
      refine b_iconst (pc := 88) (nI 1) dX2_believed_88 (by decide) ?_
      refine b_goto (pc := 89) 93 dX2_believed_89 (by decide) ?_
      refine siG6 (pc := 93) notL_i (by decide) dX2_believed_93 ?_
      refine b_goto (pc := 95) 110 dX2_believed_95 (by decide) ?_
      rotate_left -- leaf 1: at 110
      -- leaves: 0 at 110; 1 at 110
      · rw [n_eq0 (by omega)] at c85
        refine tl _ 0 (by omega) ?_
        have h2 := h
        unfold belN withN at h2
        rw [show 1 - k % 2 = 0 by omega] at h2
        exact h2
      · rw [n_eq0 (by omega)] at c85
        refine tl _ 1 (by omega) ?_
        have h2 := h
        unfold belN withN at h2
        rw [c85] at h2
        exact h2
    · refine b_tableIn (pc := 21) (off := 77) 98 dX2_believed_21 (by decide) (by decide) (by decide) (by decide) ?_
      refine b_iloadN (pc := 98) 3 dX2_believed_98 rfl rfl ?_
      refine b_iret (pc := 99) rfl dX2_believed_99 ⟨Nat.le_of_ble_eq_true rfl, Nat.le_of_ble_eq_true rfl⟩ ?_
      rotate_left -- leaf 0: return at 99
      -- leaves: 0 return at 99
      exact h
    · refine b_tableIn (pc := 21) (off := 79) 100 dX2_believed_21 (by decide) (by decide) (by decide) (by decide) ?_
      have h2 := h
      unfold belN at h2
      refine b_iloadG (pc := 100) 4 dX2_believed_100 rfl ?_
      refine b_iloadG (pc := 102) 5 dX2_believed_102 rfl ?_
      refine b_iand (pc := 104) dX2_believed_104 ?_
      refine b_if_eq (pc := 105) 110 dX2_believed_105 (by decide) (fun c105 => ?_) (fun c105 => ?_)
      rotate_left -- leaf 0: at 110
      refine b_iloadN (pc := 108) 3 dX2_believed_108 rfl rfl ?_
      refine b_iret (pc := 109) rfl dX2_believed_109 ⟨Nat.le_of_ble_eq_true rfl, Nat.le_of_ble_eq_true rfl⟩ ?_
      rotate_left -- leaf 1: return at 109
      -- leaves: 0 at 110; 1 return at 109
      · rw [n_and, and_pow] at c105
        have e : ¬ d.testBit (k / 2) = true := fun e => by
          rw [if_pos e, n_eq0 (by omega)] at c105
          have : 0 < 2 ^ (k / 2) := Nat.two_pow_pos _
          omega
        rw [if_neg e] at h2
        exact tl _ _ (by omega) h2
      · rw [n_and, and_pow] at c105
        have e : d.testBit (k / 2) = true := by
          by_cases e : d.testBit (k / 2) = true
          · exact e
          · rw [if_neg e] at c105
            exact absurd rfl c105
        rw [if_pos e] at h2
        exact h2
  refine b_iloadN (pc := 0) 2 dX2_believed_0 rfl rfl ?_
  refine call_X2_factOf (pc := 1) k671 (by decide) ⟨Nat.le_of_ble_eq_true rfl, Nat.le_of_ble_eq_true rfl⟩ (Nat.le_of_ble_eq_true rfl) dX2_believed_1 ?_
  refine ⟨_, rfl, _, rfl, ?_, ?_⟩
  rotate_left -- leaf 0: bound of X2_factOf at 1
  refine siG5 (pc := 4) notL_i (by decide) dX2_believed_4 ?_
  refine b_iloadN (pc := 6) 2 dX2_believed_6 rfl rfl ?_
  refine b_iconst (pc := 7) (nI 1) dX2_believed_7 (by decide) ?_
  refine b_iand (pc := 8) dX2_believed_8 ?_
  refine b_iconst (pc := 9) (nI 1) dX2_believed_9 (by decide) ?_
  refine b_icmp_ne (pc := 10) 17 dX2_believed_10 (by decide) (fun c10 => ?_) (fun c10 => ?_)
  refine b_iconst (pc := 17) (nI 0) dX2_believed_17 (by decide) ?_
  refine siG6 (pc := 18) notL_i (by decide) dX2_believed_18 ?_
  refine b_iloadN (pc := 20) 1 dX2_believed_20 rfl rfl ?_
  rotate_left -- leaf 1: at 21
  refine b_iconst (pc := 13) (nI 1) dX2_believed_13 (by decide) ?_
  refine b_goto (pc := 14) 18 dX2_believed_14 (by decide) ?_
  refine siG6 (pc := 18) notL_i (by decide) dX2_believed_18 ?_
  refine b_iloadN (pc := 20) 1 dX2_believed_20 rfl rfl ?_
  rotate_left -- leaf 2: at 21
  -- leaves: 0 bound of X2_factOf at 1; 1 at 21; 2 at 21
  · omega
  · rw [n_and, Nat.and_one_is_mod, n_eq (by omega) (by omega)] at c10
    rw [show k % 2 = 0 by omega] at sw
    exact sw
  · rw [n_and, Nat.and_one_is_mod, n_eq (by omega) (by omega)] at c10
    rw [c10] at sw
    exact sw
theorem call_X2_believed {E : ME} {Φ : Option AV → AM → Prop} {pc : Nat} {L : List (Option AV)} {st : List AV} {m : AM} {a : Nat × Nat} {idx : Nat} {x0 x1 x2 x3 : AV} {i : Nat} (hl : Cond.methodLink E.2.1 idx yX2_believed ∈ TB) (hdep : 2 + 1 ≤ E.2.2.2.2.2.2) (hroom : a.1 + 0 ≤ E.2.2.2.2.1 ∧ a.2 + 0 ≤ E.2.2.2.2.2.1) (hsr : st.length ≤ 4) (hd : decode E.1 pc = .ok (.invokevirtual idx, 3)) (hsp : Sp_X2_believed [vr 2 i, x0, x1, x2, x3] m (fun r m2 => B E Φ (pc + 3) L (r.toList ++ st) m2 a)) : B E Φ pc L (x3 :: x2 :: x1 :: x0 :: vr 2 i :: st) m a := b_callV S_X2_believed [x0, x1, x2, x3] (RX2, TX2, 5) rfl rfl (by decide) (Or.inl hl) k669 k12 k73 k670 (show _ ∧ _ ∧ Option.map (fun d => d.parameters.length) (parseMethodDescriptor yX2_believed.desc) = some 4 from by decide +kernel) ⟨hdep, by decide⟩ hroom hsr hd hsp
abbrev e_X2_outcome : ME := (cX2_outcome, (RX2, (5, ((some .int), (0, (0, 3))))))
theorem dX2_outcome_0 : decode cX2_outcome 0 = .ok (.aload_n 0, 1) := by decide +kernel
theorem dX2_outcome_1 : decode cX2_outcome 1 = .ok (.aload_n 0, 1) := by decide +kernel
theorem dX2_outcome_2 : decode cX2_outcome 2 = .ok (.iload_n 1, 1) := by decide +kernel
theorem dX2_outcome_3 : decode cX2_outcome 3 = .ok (.iload_n 2, 1) := by decide +kernel
theorem dX2_outcome_4 : decode cX2_outcome 4 = .ok (.iload_n 3, 1) := by decide +kernel
theorem dX2_outcome_5 : decode cX2_outcome 5 = .ok (.iload 4, 2) := by decide +kernel
theorem dX2_outcome_7 : decode cX2_outcome 7 = .ok (.invokevirtual 118, 3) := by decide +kernel
theorem dX2_outcome_10 : decode cX2_outcome 10 = .ok (.invokevirtual 121, 3) := by decide +kernel
theorem dX2_outcome_13 : decode cX2_outcome 13 = .ok (.ireturn, 1) := by decide +kernel
def Sp_X2_outcome (av : List AV) (m : AM) (Φ : Option AV → AM → Prop) : Prop := ∃ kd sy so sd, av = [vr 2 20, vi kd, vi sy, vi so, vi sd] ∧ ∃ C q k s d, BR m C ∧ kd = nI q ∧ sy = nI k ∧ so = nI s ∧ sd = nI d ∧ (1 ≤ q ∧ q ≤ 5) ∧ k < 2 * C 0 ∧ s < 64 ∧ d < 64 ∧ ∀ m2, CU C m m2 → Φ (some (vi (oI (outN C q s d k)))) m2
set_option maxRecDepth 20000 in
set_option maxHeartbeats 4000000 in
theorem S_X2_outcome : Snd yX2_outcome e_X2_outcome Sp_X2_outcome := by
  refine Snd.of (by decide +kernel) rfl ?_ ?_
  · rintro av m Φ ⟨kd, sy, so, sd, rfl, _⟩; exact Nat.le_of_ble_eq_true rfl
  rintro av m Φ ⟨kd, sy, so, sd, rfl, C, q, k, s, d, hB, rfl, rfl, rfl, rfl, hq, hk, hs, hd, h⟩ hav hty
  show B e_X2_outcome Φ 0 [some (vr 2 20), some (vi (nI q)), some (vi (nI k)), some (vi (nI s)), some (vi (nI d))] [] m (0, 0)
  refine b_aloadN (pc := 0) 0 dX2_outcome_0 rfl rfl ?_
  refine b_aloadN (pc := 1) 0 dX2_outcome_1 rfl rfl ?_
  refine b_iloadN (pc := 2) 1 dX2_outcome_2 rfl rfl ?_
  refine b_iloadN (pc := 3) 2 dX2_outcome_3 rfl rfl ?_
  refine b_iloadN (pc := 4) 3 dX2_outcome_4 rfl rfl ?_
  refine b_iloadG (pc := 5) 4 dX2_outcome_5 rfl ?_
  refine call_X2_believed (pc := 7) k667 (by decide) ⟨Nat.le_of_ble_eq_true rfl, Nat.le_of_ble_eq_true rfl⟩ (Nat.le_of_ble_eq_true rfl) dX2_outcome_7 ?_
  refine ⟨_, _, _, _, rfl, C, _, _, _, _, hB, rfl, rfl, rfl, rfl, ?_, ?_, ?_, ?_, ?_⟩
  rotate_left -- leaf 0: kind of X2_believed at 7
  rotate_left -- leaf 1: saying of X2_believed at 7
  rotate_left -- leaf 2: so of X2_believed at 7
  rotate_left -- leaf 3: said of X2_believed at 7
  refine call_X2_settle (pc := 10) k674 (by decide) ⟨Nat.le_of_ble_eq_true rfl, Nat.le_of_ble_eq_true rfl⟩ (Nat.le_of_ble_eq_true rfl) dX2_outcome_10 ?_
  refine ⟨_, rfl, C, _, hB, rfl, ?_, fun m10 h10 => ?_⟩
  rotate_left -- leaf 4: bound of X2_settle at 10
  have hB := hB.cu h10
  refine b_iret (pc := 13) rfl dX2_outcome_13 ⟨Nat.le_of_ble_eq_true rfl, Nat.le_of_ble_eq_true rfl⟩ ?_
  rotate_left -- leaf 5: return at 13
  -- leaves: 0 kind of X2_believed at 7; 1 saying of X2_believed at 7; 2 so of X2_believed at 7; 3 said of X2_believed at 7; 4 bound of X2_settle at 10; 5 return at 13
  · exact hq
  · exact hk
  · exact hs
  · exact hd
  · exact belN_lt hB.1 q d hs hk
  · exact h m10 h10
theorem call_X2_outcome {E : ME} {Φ : Option AV → AM → Prop} {pc : Nat} {L : List (Option AV)} {st : List AV} {m : AM} {a : Nat × Nat} {idx : Nat} {x0 x1 x2 x3 : AV} {i : Nat} (hl : Cond.methodLink E.2.1 idx yX2_outcome ∈ TB) (hdep : 3 + 1 ≤ E.2.2.2.2.2.2) (hroom : a.1 + 0 ≤ E.2.2.2.2.1 ∧ a.2 + 0 ≤ E.2.2.2.2.2.1) (hsr : st.length ≤ 4) (hd : decode E.1 pc = .ok (.invokevirtual idx, 3)) (hsp : Sp_X2_outcome [vr 2 i, x0, x1, x2, x3] m (fun r m2 => B E Φ (pc + 3) L (r.toList ++ st) m2 a)) : B E Φ pc L (x3 :: x2 :: x1 :: x0 :: vr 2 i :: st) m a := b_callV S_X2_outcome [x0, x1, x2, x3] (RX2, TX2, 5) rfl rfl (by decide) (Or.inl hl) k664 k665 k73 k666 (show _ ∧ _ ∧ Option.map (fun d => d.parameters.length) (parseMethodDescriptor yX2_outcome.desc) = some 4 from by decide +kernel) ⟨hdep, by decide⟩ hroom hsr hd hsp
theorem setN_lt {C : Nat → Nat} (hv : VC C) {s v : Nat} (hs : s < 64) (h : setN C s = some v) : v < 64 := by
  unfold setN at h
  split at h
  · cases h; exact closedN_lt hv.hv hs
  · cases h
/-- as outN, all as it was by what is not carried out -/
def behN (C : Nat → Nat) (q s d k : Nat) : Nat := (outN C q s d k).getD s
theorem behN_lt {C : Nat → Nat} (hv : VC C) {q s d k : Nat} (hs : s < 64) (hk : k < 2 * C 0) : behN C q s d k < 64 := by
  unfold behN
  cases e : outN C q s d k with
  | none => exact hs
  | some v => exact setN_lt hv (belN_lt hv q d hs hk) e
theorem oI_none {C : Nat → Nat} (hv : VC C) {s : Nat} (hs : s < 64) : oI (setN C s) = -1000000 ↔ setN C s = none := by
  cases e : setN C s with
  | none => simp [oI]
  | some v =>
    have := setN_lt hv hs e
    simp [oI, n_ne_none (show v < 2147483648 by omega)]
abbrev e_X2_soBehind : ME := (cX2_soBehind, (RX2, (6, ((some .int), (0, (0, 4))))))
theorem dX2_soBehind_0 : decode cX2_soBehind 0 = .ok (.aload_n 0, 1) := by decide +kernel
theorem dX2_soBehind_1 : decode cX2_soBehind 1 = .ok (.iload_n 1, 1) := by decide +kernel
theorem dX2_soBehind_2 : decode cX2_soBehind 2 = .ok (.iload_n 2, 1) := by decide +kernel
theorem dX2_soBehind_3 : decode cX2_soBehind 3 = .ok (.iload_n 3, 1) := by decide +kernel
theorem dX2_soBehind_4 : decode cX2_soBehind 4 = .ok (.iload 4, 2) := by decide +kernel
theorem dX2_soBehind_6 : decode cX2_soBehind 6 = .ok (.invokevirtual 95, 3) := by decide +kernel
theorem dX2_soBehind_9 : decode cX2_soBehind 9 = .ok (.istore 5, 2) := by decide +kernel
theorem dX2_soBehind_11 : decode cX2_soBehind 11 = .ok (.iload 5, 2) := by decide +kernel
theorem dX2_soBehind_13 : decode cX2_soBehind 13 = .ok (.ldc 105, 2) := by decide +kernel
theorem dX2_soBehind_15 : decode cX2_soBehind 15 = .ok (.if_icmp .ne 7, 3) := by decide +kernel
theorem dX2_soBehind_18 : decode cX2_soBehind 18 = .ok (.iload_n 3, 1) := by decide +kernel
theorem dX2_soBehind_19 : decode cX2_soBehind 19 = .ok (.goto 5, 3) := by decide +kernel
theorem dX2_soBehind_22 : decode cX2_soBehind 22 = .ok (.iload 5, 2) := by decide +kernel
theorem dX2_soBehind_24 : decode cX2_soBehind 24 = .ok (.ireturn, 1) := by decide +kernel
def Sp_X2_soBehind (av : List AV) (m : AM) (Φ : Option AV → AM → Prop) : Prop := ∃ kd sy so sd, av = [vr 2 20, vi kd, vi sy, vi so, vi sd] ∧ ∃ C q k s d, BR m C ∧ kd = nI q ∧ sy = nI k ∧ so = nI s ∧ sd = nI d ∧ (1 ≤ q ∧ q ≤ 5) ∧ k < 2 * C 0 ∧ s < 64 ∧ d < 64 ∧ ∀ m2, CU C m m2 → Φ (some (vi (nI (behN C q s d k)))) m2
set_option maxRecDepth 20000 in
set_option maxHeartbeats 4000000 in
theorem S_X2_soBehind : Snd yX2_soBehind e_X2_soBehind Sp_X2_soBehind := by
  refine Snd.of (by decide +kernel) rfl ?_ ?_
  · rintro av m Φ ⟨kd, sy, so, sd, rfl, _⟩; exact Nat.le_of_ble_eq_true rfl
  rintro av m Φ ⟨kd, sy, so, sd, rfl, C, q, k, s, d, hB, rfl, rfl, rfl, rfl, hq, hk, hs, hd, h⟩ hav hty
  show B e_X2_soBehind Φ 0 [some (vr 2 20), some (vi (nI q)), some (vi (nI k)), some (vi (nI s)), some (vi (nI d)), none] [] m (0, 0)
  have hv := hB.1
  refine b_aloadN (pc := 0) 0 dX2_soBehind_0 rfl rfl ?_
  refine b_iloadN (pc := 1) 1 dX2_soBehind_1 rfl rfl ?_
  refine b_iloadN (pc := 2) 2 dX2_soBehind_2 rfl rfl ?_
  refine b_iloadN (pc := 3) 3 dX2_soBehind_3 rfl rfl ?_
  refine b_iloadG (pc := 4) 4 dX2_soBehind_4 rfl ?_
  refine call_X2_outcome (pc := 6) k663 (by decide) ⟨Nat.le_of_ble_eq_true rfl, Nat.le_of_ble_eq_true rfl⟩ (Nat.le_of_ble_eq_true rfl) dX2_soBehind_6 ?_
  refine ⟨_, _, _, _, rfl, C, _, _, _, _, hB, rfl, rfl, rfl, rfl, ?_, ?_, ?_, ?_, fun m6 h6 => ?_⟩
  rotate_left -- leaf 0: kind of X2_outcome at 6
  rotate_left -- leaf 1: saying of X2_outcome at 6
  rotate_left -- leaf 2: so of X2_outcome at 6
  rotate_left -- leaf 3: said of X2_outcome at 6
  have hB := hB.cu h6
  refine siG5 (pc := 9) notL_i (by decide) dX2_soBehind_9 ?_
  refine b_iloadG (pc := 11) 5 dX2_soBehind_11 rfl ?_
  refine b_ldc (pc := 13) k678 dX2_soBehind_13 ?_
  refine b_icmp_ne (pc := 15) 22 dX2_soBehind_15 (by decide) (fun c15 => ?_) (fun c15 => ?_)
  refine b_iloadG (pc := 22) 5 dX2_soBehind_22 rfl ?_
  refine b_iret (pc := 24) rfl dX2_soBehind_24 ⟨Nat.le_of_ble_eq_true rfl, Nat.le_of_ble_eq_true rfl⟩ ?_
  rotate_left -- leaf 4: return at 24
  refine b_iloadN (pc := 18) 3 dX2_soBehind_18 rfl rfl ?_
  refine b_goto (pc := 19) 24 dX2_soBehind_19 (by decide) ?_
  refine b_iret (pc := 24) rfl dX2_soBehind_24 ⟨Nat.le_of_ble_eq_true rfl, Nat.le_of_ble_eq_true rfl⟩ ?_
  rotate_left -- leaf 5: return at 24
  -- leaves: 0 kind of X2_outcome at 6; 1 saying of X2_outcome at 6; 2 so of X2_outcome at 6; 3 said of X2_outcome at 6; 4 return at 24; 5 return at 24
  · exact hq
  · exact hk
  · exact hs
  · exact hd
  · have h2 := h m6 h6
    unfold behN at h2
    unfold outN at c15 h2 ⊢
    cases e : setN C (belN C q s d k) with
    | none => rw [e] at c15; exact absurd rfl c15
    | some v => rw [e] at h2; exact h2
  · have h2 := h m6 h6
    unfold outN at c15
    rw [oI_none hv (belN_lt hv q d hs hk)] at c15
    unfold behN outN at h2
    rw [c15] at h2
    exact h2
theorem call_X2_soBehind {E : ME} {Φ : Option AV → AM → Prop} {pc : Nat} {L : List (Option AV)} {st : List AV} {m : AM} {a : Nat × Nat} {idx : Nat} {x0 x1 x2 x3 : AV} {i : Nat} (hl : Cond.methodLink E.2.1 idx yX2_soBehind ∈ TB) (hdep : 4 + 1 ≤ E.2.2.2.2.2.2) (hroom : a.1 + 0 ≤ E.2.2.2.2.1 ∧ a.2 + 0 ≤ E.2.2.2.2.2.1) (hsr : st.length ≤ 4) (hd : decode E.1 pc = .ok (.invokevirtual idx, 3)) (hsp : Sp_X2_soBehind [vr 2 i, x0, x1, x2, x3] m (fun r m2 => B E Φ (pc + 3) L (r.toList ++ st) m2 a)) : B E Φ pc L (x3 :: x2 :: x1 :: x0 :: vr 2 i :: st) m a := b_callV S_X2_soBehind [x0, x1, x2, x3] (RX2, TX2, 5) rfl rfl (by decide) (Or.inl hl) k918 k919 k73 k920 (show _ ∧ _ ∧ Option.map (fun d => d.parameters.length) (parseMethodDescriptor yX2_soBehind.desc) = some 4 from by decide +kernel) ⟨hdep, by decide⟩ hroom hsr hd hsp
abbrev e_X2_isOpen : ME := (cX2_isOpen, (RX2, (1, ((some .boolean), (0, (0, 1))))))
theorem dX2_isOpen_0 : decode cX2_isOpen 0 = .ok (.aload_n 0, 1) := by decide +kernel
theorem dX2_isOpen_1 : decode cX2_isOpen 1 = .ok (.getfield 12, 3) := by decide +kernel
theorem dX2_isOpen_4 : decode cX2_isOpen 4 = .ok (.getfield 35, 3) := by decide +kernel
theorem dX2_isOpen_7 : decode cX2_isOpen 7 = .ok (.ifCond .le 7, 3) := by decide +kernel
theorem dX2_isOpen_10 : decode cX2_isOpen 10 = .ok (.iconst 1, 1) := by decide +kernel
theorem dX2_isOpen_11 : decode cX2_isOpen 11 = .ok (.goto 4, 3) := by decide +kernel
theorem dX2_isOpen_14 : decode cX2_isOpen 14 = .ok (.iconst 0, 1) := by decide +kernel
theorem dX2_isOpen_15 : decode cX2_isOpen 15 = .ok (.ireturn, 1) := by decide +kernel
def Sp_X2_isOpen (av : List AV) (m : AM) (Φ : Option AV → AM → Prop) : Prop := av = [vr 2 20] ∧ ∃ c, m.1 21 4 = nI c ∧ c ≤ 6 ∧ Φ (some (vi (nI (if c = 0 then 0 else 1)))) m
abbrev e_X2_makesAny : ME := (cX2_makesAny, (RX2, (3, ((some .boolean), (0, (0, 1))))))
theorem dX2_makesAny_0 : decode cX2_makesAny 0 = .ok (.aload_n 0, 1) := by decide +kernel
theorem dX2_makesAny_1 : decode cX2_makesAny 1 = .ok (.getfield 25, 3) := by decide +kernel
theorem dX2_makesAny_4 : decode cX2_makesAny 4 = .ok (.iload_n 1, 1) := by decide +kernel
theorem dX2_makesAny_5 : decode cX2_makesAny 5 = .ok (.iaload, 1) := by decide +kernel
theorem dX2_makesAny_6 : decode cX2_makesAny 6 = .ok (.iload_n 2, 1) := by decide +kernel
theorem dX2_makesAny_7 : decode cX2_makesAny 7 = .ok (.iand, 1) := by decide +kernel
theorem dX2_makesAny_8 : decode cX2_makesAny 8 = .ok (.ifCond .eq 7, 3) := by decide +kernel
theorem dX2_makesAny_11 : decode cX2_makesAny 11 = .ok (.iconst 1, 1) := by decide +kernel
theorem dX2_makesAny_12 : decode cX2_makesAny 12 = .ok (.goto 4, 3) := by decide +kernel
theorem dX2_makesAny_15 : decode cX2_makesAny 15 = .ok (.iconst 0, 1) := by decide +kernel
theorem dX2_makesAny_16 : decode cX2_makesAny 16 = .ok (.ireturn, 1) := by decide +kernel
def Sp_X2_makesAny (av : List AV) (m : AM) (Φ : Option AV → AM → Prop) : Prop := ∃ x y, av = [vr 2 20, vi x, vi y] ∧ ∃ C f g, BR m C ∧ x = nI f ∧ y = nI g ∧ f < C 0 ∧ g < 64 ∧ Φ (some (vi (nI (if madeF C 0 f (C 3) &&& g = 0 then 0 else 1)))) m
set_option maxRecDepth 20000 in
set_option maxHeartbeats 4000000 in
theorem S_X2_makesAny : Snd yX2_makesAny e_X2_makesAny Sp_X2_makesAny := by
  refine Snd.of (by decide +kernel) rfl ?_ ?_
  · rintro av m Φ ⟨x, y, rfl, _⟩; exact Nat.le_of_ble_eq_true rfl
  rintro av m Φ ⟨x, y, rfl, C, f, g, hB, rfl, rfl, hf, hg, h⟩ hav hty
  show B e_X2_makesAny Φ 0 [some (vr 2 20), some (vi (nI f)), some (vi (nI g))] [] m (0, 0)
  have hv := hB.1
  have hf0 : C 0 ≤ 6 := hv.1.2
  have hm := madeF_lt hv.hv 0 f (C 3) (Nat.le_refl _)
  refine b_aloadN (pc := 0) 0 dX2_makesAny_0 rfl rfl ?_
  refine gf2_2 (pc := 1) 28 rfl k276 dX2_makesAny_1 ?_
  refine b_iloadN (pc := 4) 1 dX2_makesAny_4 rfl rfl ?_
  refine b_iald (pc := 5) (by decide) ?_ dX2_makesAny_5 ?_
  rotate_left -- leaf 0: index at 5
  refine b_iloadN (pc := 6) 2 dX2_makesAny_6 rfl rfl ?_
  refine b_iand (pc := 7) dX2_makesAny_7 ?_
  refine b_if_eq (pc := 8) 15 dX2_makesAny_8 (by decide) (fun c8 => ?_) (fun c8 => ?_)
  refine b_iconst (pc := 15) (nI 0) dX2_makesAny_15 (by decide) ?_
  refine b_zret (pc := 16) rfl ?_ dX2_makesAny_16 ⟨Nat.le_of_ble_eq_true rfl, Nat.le_of_ble_eq_true rfl⟩ ?_
  rotate_left -- leaf 1: bool at 16
  rotate_left -- leaf 2: return at 16
  refine b_iconst (pc := 11) (nI 1) dX2_makesAny_11 (by decide) ?_
  refine b_goto (pc := 12) 16 dX2_makesAny_12 (by decide) ?_
  refine b_zret (pc := 16) rfl ?_ dX2_makesAny_16 ⟨Nat.le_of_ble_eq_true rfl, Nat.le_of_ble_eq_true rfl⟩ ?_
  rotate_left -- leaf 3: bool at 16
  rotate_left -- leaf 4: return at 16
  -- leaves: 0 index at 5; 1 bool at 16; 2 return at 16; 3 bool at 16; 4 return at 16
  · exact n_in (by omega) (by omega)
  · exact Or.inl rfl
  · rw [n_cl (by omega), (hB.2.2.2.1 f (by omega)).1, n_and, n_eq0 (Nat.lt_of_le_of_lt Nat.and_le_right (by omega))] at c8
    rw [if_pos c8] at h
    exact h
  · exact Or.inr rfl
  · rw [n_cl (by omega), (hB.2.2.2.1 f (by omega)).1, n_and, n_eq0 (Nat.lt_of_le_of_lt Nat.and_le_right (by omega))] at c8
    rw [if_neg c8] at h
    exact h
theorem call_X2_makesAny {E : ME} {Φ : Option AV → AM → Prop} {pc : Nat} {L : List (Option AV)} {st : List AV} {m : AM} {a : Nat × Nat} {idx : Nat} {x0 x1 : AV} {i : Nat} (hl : Cond.methodLink E.2.1 idx yX2_makesAny ∈ TB) (hdep : 1 + 1 ≤ E.2.2.2.2.2.2) (hroom : a.1 + 0 ≤ E.2.2.2.2.1 ∧ a.2 + 0 ≤ E.2.2.2.2.2.1) (hsr : st.length ≤ 4) (hd : decode E.1 pc = .ok (.invokevirtual idx, 3)) (hsp : Sp_X2_makesAny [vr 2 i, x0, x1] m (fun r m2 => B E Φ (pc + 3) L (r.toList ++ st) m2 a)) : B E Φ pc L (x1 :: x0 :: vr 2 i :: st) m a := b_callV S_X2_makesAny [x0, x1] (RX2, TX2, 5) rfl rfl (by decide) (Or.inl hl) k841 k842 k73 k843 (show _ ∧ _ ∧ Option.map (fun d => d.parameters.length) (parseMethodDescriptor yX2_makesAny.desc) = some 2 from by decide +kernel) ⟨hdep, by decide⟩ hroom hsr hd hsp
set_option maxRecDepth 20000 in
set_option maxHeartbeats 4000000 in
theorem S_X2_isOpen : Snd yX2_isOpen e_X2_isOpen Sp_X2_isOpen := by
  refine Snd.of (by decide +kernel) rfl ?_ ?_
  · rintro av m Φ ⟨rfl, _⟩; exact Nat.le_of_ble_eq_true rfl
  rintro av m Φ ⟨rfl, c, hc, hle, h⟩ hav hty
  show B e_X2_isOpen Φ 0 [some (vr 2 20)] [] m (0, 0)
  refine b_aloadN (pc := 0) 0 dX2_isOpen_0 rfl rfl ?_
  refine gf2_0 (pc := 1) 21 rfl k264 dX2_isOpen_1 ?_
  refine gf5_4 (pc := 4) k143 dX2_isOpen_4 ?_
  refine b_if_le (pc := 7) 14 dX2_isOpen_7 (by decide) (fun c7 => ?_) (fun c7 => ?_)
  refine b_iconst (pc := 14) (nI 0) dX2_isOpen_14 (by decide) ?_
  refine b_zret (pc := 15) rfl ?_ dX2_isOpen_15 ⟨Nat.le_of_ble_eq_true rfl, Nat.le_of_ble_eq_true rfl⟩ ?_
  rotate_left -- leaf 0: bool at 15
  rotate_left -- leaf 1: return at 15
  refine b_iconst (pc := 10) (nI 1) dX2_isOpen_10 (by decide) ?_
  refine b_goto (pc := 11) 15 dX2_isOpen_11 (by decide) ?_
  refine b_zret (pc := 15) rfl ?_ dX2_isOpen_15 ⟨Nat.le_of_ble_eq_true rfl, Nat.le_of_ble_eq_true rfl⟩ ?_
  rotate_left -- leaf 2: bool at 15
  rotate_left -- leaf 3: return at 15
  -- leaves: 0 bool at 15; 1 return at 15; 2 bool at 15; 3 return at 15
  · exact Or.inl rfl
  · rw [hc, n_le0 (by omega)] at c7
    rw [if_pos c7] at h
    exact h
  · exact Or.inr rfl
  · rw [hc, n_le0 (by omega)] at c7
    rw [if_neg c7] at h
    exact h
theorem call_X2_isOpen {E : ME} {Φ : Option AV → AM → Prop} {pc : Nat} {L : List (Option AV)} {st : List AV} {m : AM} {a : Nat × Nat} {idx : Nat} {i : Nat} (hl : Cond.methodLink E.2.1 idx yX2_isOpen ∈ TB) (hdep : 1 + 1 ≤ E.2.2.2.2.2.2) (hroom : a.1 + 0 ≤ E.2.2.2.2.1 ∧ a.2 + 0 ≤ E.2.2.2.2.2.1) (hsr : st.length ≤ 4) (hd : decode E.1 pc = .ok (.invokevirtual idx, 3)) (hsp : Sp_X2_isOpen [vr 2 i] m (fun r m2 => B E Φ (pc + 3) L (r.toList ++ st) m2 a)) : B E Φ pc L (vr 2 i :: st) m a := b_callV S_X2_isOpen [] (RX2, TX2, 5) rfl rfl (by decide) (Or.inl hl) k721 k722 k73 k723 (show _ ∧ _ ∧ Option.map (fun d => d.parameters.length) (parseMethodDescriptor yX2_isOpen.desc) = some 0 from by decide +kernel) ⟨hdep, by decide⟩ hroom hsr hd hsp
end
section
/-! how many bits: of a set of six -/
def pc8 (s : Nat) : Nat := pc6 s + (s.testBit 6).toNat + (s.testBit 7).toNat
theorem pc8_6 {s : Nat} (h : s < 64) : pc8 s = pc6 s := by
  have q : ∀ s, s < 64 → pc8 s = pc6 s := by decide +kernel
  exact q s h
abbrev e_J6_bitCount_0f7a4 : ME := (cJ6_bitCount_0f7a4, ("java/lang/Integer", (1, ((some .int), (0, (0, 1))))))
theorem dJ6_bitCount_0f7a4_0 : decode cJ6_bitCount_0f7a4 0 = .ok (.iload_n 0, 1) := by decide +kernel
theorem dJ6_bitCount_0f7a4_1 : decode cJ6_bitCount_0f7a4 1 = .ok (.iload_n 0, 1) := by decide +kernel
theorem dJ6_bitCount_0f7a4_2 : decode cJ6_bitCount_0f7a4 2 = .ok (.iconst 1, 1) := by decide +kernel
theorem dJ6_bitCount_0f7a4_3 : decode cJ6_bitCount_0f7a4 3 = .ok (.iushr, 1) := by decide +kernel
theorem dJ6_bitCount_0f7a4_4 : decode cJ6_bitCount_0f7a4 4 = .ok (.ldc_w 265, 3) := by decide +kernel
theorem dJ6_bitCount_0f7a4_7 : decode cJ6_bitCount_0f7a4 7 = .ok (.iand, 1) := by decide +kernel
theorem dJ6_bitCount_0f7a4_8 : decode cJ6_bitCount_0f7a4 8 = .ok (.isub, 1) := by decide +kernel
theorem dJ6_bitCount_0f7a4_9 : decode cJ6_bitCount_0f7a4 9 = .ok (.istore_n 0, 1) := by decide +kernel
theorem dJ6_bitCount_0f7a4_10 : decode cJ6_bitCount_0f7a4 10 = .ok (.iload_n 0, 1) := by decide +kernel
theorem dJ6_bitCount_0f7a4_11 : decode cJ6_bitCount_0f7a4 11 = .ok (.ldc_w 266, 3) := by decide +kernel
theorem dJ6_bitCount_0f7a4_14 : decode cJ6_bitCount_0f7a4 14 = .ok (.iand, 1) := by decide +kernel
theorem dJ6_bitCount_0f7a4_15 : decode cJ6_bitCount_0f7a4 15 = .ok (.iload_n 0, 1) := by decide +kernel
theorem dJ6_bitCount_0f7a4_16 : decode cJ6_bitCount_0f7a4 16 = .ok (.iconst 2, 1) := by decide +kernel
theorem dJ6_bitCount_0f7a4_17 : decode cJ6_bitCount_0f7a4 17 = .ok (.iushr, 1) := by decide +kernel
theorem dJ6_bitCount_0f7a4_18 : decode cJ6_bitCount_0f7a4 18 = .ok (.ldc_w 266, 3) := by decide +kernel
theorem dJ6_bitCount_0f7a4_21 : decode cJ6_bitCount_0f7a4 21 = .ok (.iand, 1) := by decide +kernel
theorem dJ6_bitCount_0f7a4_22 : decode cJ6_bitCount_0f7a4 22 = .ok (.iadd, 1) := by decide +kernel
theorem dJ6_bitCount_0f7a4_23 : decode cJ6_bitCount_0f7a4 23 = .ok (.istore_n 0, 1) := by decide +kernel
theorem dJ6_bitCount_0f7a4_24 : decode cJ6_bitCount_0f7a4 24 = .ok (.iload_n 0, 1) := by decide +kernel
theorem dJ6_bitCount_0f7a4_25 : decode cJ6_bitCount_0f7a4 25 = .ok (.iload_n 0, 1) := by decide +kernel
theorem dJ6_bitCount_0f7a4_26 : decode cJ6_bitCount_0f7a4 26 = .ok (.iconst 4, 1) := by decide +kernel
theorem dJ6_bitCount_0f7a4_27 : decode cJ6_bitCount_0f7a4 27 = .ok (.iushr, 1) := by decide +kernel
theorem dJ6_bitCount_0f7a4_28 : decode cJ6_bitCount_0f7a4 28 = .ok (.iadd, 1) := by decide +kernel
theorem dJ6_bitCount_0f7a4_29 : decode cJ6_bitCount_0f7a4 29 = .ok (.ldc_w 267, 3) := by decide +kernel
theorem dJ6_bitCount_0f7a4_32 : decode cJ6_bitCount_0f7a4 32 = .ok (.iand, 1) := by decide +kernel
theorem dJ6_bitCount_0f7a4_33 : decode cJ6_bitCount_0f7a4 33 = .ok (.istore_n 0, 1) := by decide +kernel
theorem dJ6_bitCount_0f7a4_34 : decode cJ6_bitCount_0f7a4 34 = .ok (.iload_n 0, 1) := by decide +kernel
theorem dJ6_bitCount_0f7a4_35 : decode cJ6_bitCount_0f7a4 35 = .ok (.iload_n 0, 1) := by decide +kernel
theorem dJ6_bitCount_0f7a4_36 : decode cJ6_bitCount_0f7a4 36 = .ok (.bipush 8, 2) := by decide +kernel
theorem dJ6_bitCount_0f7a4_38 : decode cJ6_bitCount_0f7a4 38 = .ok (.iushr, 1) := by decide +kernel
theorem dJ6_bitCount_0f7a4_39 : decode cJ6_bitCount_0f7a4 39 = .ok (.iadd, 1) := by decide +kernel
theorem dJ6_bitCount_0f7a4_40 : decode cJ6_bitCount_0f7a4 40 = .ok (.istore_n 0, 1) := by decide +kernel
theorem dJ6_bitCount_0f7a4_41 : decode cJ6_bitCount_0f7a4 41 = .ok (.iload_n 0, 1) := by decide +kernel
theorem dJ6_bitCount_0f7a4_42 : decode cJ6_bitCount_0f7a4 42 = .ok (.iload_n 0, 1) := by decide +kernel
theorem dJ6_bitCount_0f7a4_43 : decode cJ6_bitCount_0f7a4 43 = .ok (.bipush 16, 2) := by decide +kernel
theorem dJ6_bitCount_0f7a4_45 : decode cJ6_bitCount_0f7a4 45 = .ok (.iushr, 1) := by decide +kernel
theorem dJ6_bitCount_0f7a4_46 : decode cJ6_bitCount_0f7a4 46 = .ok (.iadd, 1) := by decide +kernel
theorem dJ6_bitCount_0f7a4_47 : decode cJ6_bitCount_0f7a4 47 = .ok (.istore_n 0, 1) := by decide +kernel
theorem dJ6_bitCount_0f7a4_48 : decode cJ6_bitCount_0f7a4 48 = .ok (.iload_n 0, 1) := by decide +kernel
theorem dJ6_bitCount_0f7a4_49 : decode cJ6_bitCount_0f7a4 49 = .ok (.bipush 63, 2) := by decide +kernel
theorem dJ6_bitCount_0f7a4_51 : decode cJ6_bitCount_0f7a4 51 = .ok (.iand, 1) := by decide +kernel
theorem dJ6_bitCount_0f7a4_52 : decode cJ6_bitCount_0f7a4 52 = .ok (.ireturn, 1) := by decide +kernel
def Sp_J6_bitCount_0f7a4 (av : List AV) (m : AM) (Φ : Option AV → AM → Prop) : Prop := ∃ x, av = [vi x] ∧ ∃ k, x = nI k ∧ k < 256 ∧ Φ (some (vi (nI (pc8 k)))) m
set_option maxRecDepth 20000 in
set_option maxHeartbeats 4000000 in
theorem S_J6_bitCount_0f7a4 : Snd yJ6_bitCount_0f7a4 e_J6_bitCount_0f7a4 Sp_J6_bitCount_0f7a4 := by
  refine Snd.of (by decide +kernel) rfl ?_ ?_
  · rintro av m Φ ⟨x, rfl, _⟩; exact Nat.le_of_ble_eq_true rfl
  rintro av m Φ ⟨x, rfl, k, rfl, hk, h⟩ hav hty
  show B e_J6_bitCount_0f7a4 Φ 0 [some (vi (nI k))] [] m (0, 0)
  refine b_iloadN (pc := 0) 0 dJ6_bitCount_0f7a4_0 rfl rfl ?_
  refine b_iloadN (pc := 1) 0 dJ6_bitCount_0f7a4_1 rfl rfl ?_
  refine b_iconst (pc := 2) (nI 1) dJ6_bitCount_0f7a4_2 (by decide) ?_
  refine b_iushr (pc := 3) dJ6_bitCount_0f7a4_3 ?_
  refine b_ldcw (pc := 4) k694 dJ6_bitCount_0f7a4_4 ?_
  refine b_iand (pc := 7) dJ6_bitCount_0f7a4_7 ?_
  refine b_isub (pc := 8) dJ6_bitCount_0f7a4_8 ?_
  refine siN0 (pc := 9) rfl (by decide) dJ6_bitCount_0f7a4_9 ?_
  refine b_iloadN (pc := 10) 0 dJ6_bitCount_0f7a4_10 rfl rfl ?_
  refine b_ldcw (pc := 11) k695 dJ6_bitCount_0f7a4_11 ?_
  refine b_iand (pc := 14) dJ6_bitCount_0f7a4_14 ?_
  refine b_iloadN (pc := 15) 0 dJ6_bitCount_0f7a4_15 rfl rfl ?_
  refine b_iconst (pc := 16) (nI 2) dJ6_bitCount_0f7a4_16 (by decide) ?_
  refine b_iushr (pc := 17) dJ6_bitCount_0f7a4_17 ?_
  refine b_ldcw (pc := 18) k695 dJ6_bitCount_0f7a4_18 ?_
  refine b_iand (pc := 21) dJ6_bitCount_0f7a4_21 ?_
  refine b_iadd (pc := 22) dJ6_bitCount_0f7a4_22 ?_
  refine siN0 (pc := 23) rfl (by decide) dJ6_bitCount_0f7a4_23 ?_
  refine b_iloadN (pc := 24) 0 dJ6_bitCount_0f7a4_24 rfl rfl ?_
  refine b_iloadN (pc := 25) 0 dJ6_bitCount_0f7a4_25 rfl rfl ?_
  refine b_iconst (pc := 26) (nI 4) dJ6_bitCount_0f7a4_26 (by decide) ?_
  refine b_iushr (pc := 27) dJ6_bitCount_0f7a4_27 ?_
  refine b_iadd (pc := 28) dJ6_bitCount_0f7a4_28 ?_
  refine b_ldcw (pc := 29) k696 dJ6_bitCount_0f7a4_29 ?_
  refine b_iand (pc := 32) dJ6_bitCount_0f7a4_32 ?_
  refine siN0 (pc := 33) rfl (by decide) dJ6_bitCount_0f7a4_33 ?_
  refine b_iloadN (pc := 34) 0 dJ6_bitCount_0f7a4_34 rfl rfl ?_
  refine b_iloadN (pc := 35) 0 dJ6_bitCount_0f7a4_35 rfl rfl ?_
  refine b_bipush (pc := 36) (nI 8) dJ6_bitCount_0f7a4_36 (by decide) ?_
  refine b_iushr (pc := 38) dJ6_bitCount_0f7a4_38 ?_
  refine b_iadd (pc := 39) dJ6_bitCount_0f7a4_39 ?_
  refine siN0 (pc := 40) rfl (by decide) dJ6_bitCount_0f7a4_40 ?_
  refine b_iloadN (pc := 41) 0 dJ6_bitCount_0f7a4_41 rfl rfl ?_
  refine b_iloadN (pc := 42) 0 dJ6_bitCount_0f7a4_42 rfl rfl ?_
  refine b_bipush (pc := 43) (nI 16) dJ6_bitCount_0f7a4_43 (by decide) ?_
  refine b_iushr (pc := 45) dJ6_bitCount_0f7a4_45 ?_
  refine b_iadd (pc := 46) dJ6_bitCount_0f7a4_46 ?_
  refine siN0 (pc := 47) rfl (by decide) dJ6_bitCount_0f7a4_47 ?_
  refine b_iloadN (pc := 48) 0 dJ6_bitCount_0f7a4_48 rfl rfl ?_
  refine b_bipush (pc := 49) (nI 63) dJ6_bitCount_0f7a4_49 (by decide) ?_
  refine b_iand (pc := 51) dJ6_bitCount_0f7a4_51 ?_
  refine b_iret (pc := 52) rfl dJ6_bitCount_0f7a4_52 ⟨Nat.le_of_ble_eq_true rfl, Nat.le_of_ble_eq_true rfl⟩ ?_
  rotate_left -- leaf 0: return at 52
  -- leaves: 0 return at 52
  refine Eq.mpr (congrArg (fun z => Φ (some (vi z)) m) ?_) h
  clear h hav hty
  revert k
  decide +kernel
theorem call_J6_bitCount_0f7a4 {E : ME} {Φ : Option AV → AM → Prop} {pc : Nat} {L : List (Option AV)} {st : List AV} {m : AM} {a : Nat × Nat} {idx : Nat} {x0 : AV} (hl : Cond.methodLink E.2.1 idx yJ6_bitCount_0f7a4 ∈ TB) (hdep : 1 + 1 ≤ E.2.2.2.2.2.2) (hroom : a.1 + 0 ≤ E.2.2.2.2.1 ∧ a.2 + 0 ≤ E.2.2.2.2.2.1) (hsr : st.length ≤ 4) (hd : decode E.1 pc = .ok (.invokestatic idx, 3)) (hsp : Sp_J6_bitCount_0f7a4 [x0] m (fun r m2 => B E Φ (pc + 3) L (r.toList ++ st) m2 a)) : B E Φ pc L (x0 :: st) m a := b_callS S_J6_bitCount_0f7a4 [x0] (Or.inl hl) k692 k83 k693 (show _ ∧ _ ∧ Option.map (fun d => d.parameters.length) (parseMethodDescriptor yJ6_bitCount_0f7a4.desc) = some 1 from by decide +kernel) ⟨hdep, by decide⟩ hroom hsr hd hsp
abbrev e_X2_price : ME := (cX2_price, (RX2, (3, ((some .int), (0, (0, 2))))))
theorem dX2_price_0 : decode cX2_price 0 = .ok (.aload_n 0, 1) := by decide +kernel
theorem dX2_price_1 : decode cX2_price 1 = .ok (.getfield 12, 3) := by decide +kernel
theorem dX2_price_4 : decode cX2_price 4 = .ok (.getfield 116, 3) := by decide +kernel
theorem dX2_price_7 : decode cX2_price 7 = .ok (.iload_n 1, 1) := by decide +kernel
theorem dX2_price_8 : decode cX2_price 8 = .ok (.iload_n 2, 1) := by decide +kernel
theorem dX2_price_9 : decode cX2_price 9 = .ok (.ixor, 1) := by decide +kernel
theorem dX2_price_10 : decode cX2_price 10 = .ok (.invokestatic 80, 3) := by decide +kernel
theorem dX2_price_13 : decode cX2_price 13 = .ok (.imul, 1) := by decide +kernel
theorem dX2_price_14 : decode cX2_price 14 = .ok (.ireturn, 1) := by decide +kernel
def Sp_X2_price (av : List AV) (m : AM) (Φ : Option AV → AM → Prop) : Prop := ∃ x y, av = [vr 2 20, vi x, vi y] ∧ ∃ P k j, m.1 21 6 = nI P ∧ x = nI k ∧ y = nI j ∧ k < 64 ∧ j < 64 ∧ Φ (some (vi (nI (P * pc6 (k ^^^ j))))) m
set_option maxRecDepth 20000 in
set_option maxHeartbeats 4000000 in
theorem S_X2_price : Snd yX2_price e_X2_price Sp_X2_price := by
  refine Snd.of (by decide +kernel) rfl ?_ ?_
  · rintro av m Φ ⟨x, y, rfl, _⟩; exact Nat.le_of_ble_eq_true rfl
  rintro av m Φ ⟨x, y, rfl, P, k, j, hP, rfl, rfl, hk, hj, h⟩ hav hty
  show B e_X2_price Φ 0 [some (vr 2 20), some (vi (nI k)), some (vi (nI j))] [] m (0, 0)
  refine b_aloadN (pc := 0) 0 dX2_price_0 rfl rfl ?_
  refine gf2_0 (pc := 1) 21 rfl k264 dX2_price_1 ?_
  refine gf5_6 (pc := 4) k154 dX2_price_4 ?_
  refine b_iloadN (pc := 7) 1 dX2_price_7 rfl rfl ?_
  refine b_iloadN (pc := 8) 2 dX2_price_8 rfl rfl ?_
  refine b_ixor (pc := 9) dX2_price_9 ?_
  refine call_J6_bitCount_0f7a4 (pc := 10) k691 (by decide) ⟨Nat.le_of_ble_eq_true rfl, Nat.le_of_ble_eq_true rfl⟩ (Nat.le_of_ble_eq_true rfl) dX2_price_10 ?_
  refine ⟨_, rfl, _, n_xor _ _, ?_, ?_⟩
  rotate_left -- leaf 0: bound of J6_bitCount_0f7a4 at 10
  refine b_imul (pc := 13) dX2_price_13 ?_
  refine b_iret (pc := 14) rfl dX2_price_14 ⟨Nat.le_of_ble_eq_true rfl, Nat.le_of_ble_eq_true rfl⟩ ?_
  rotate_left -- leaf 1: return at 14
  -- leaves: 0 bound of J6_bitCount_0f7a4 at 10; 1 return at 14
  · have := Nat.xor_lt_two_pow (n := 6) hk hj
    omega
  · rw [hP, n_mul, pc8_6 (Nat.xor_lt_two_pow (n := 6) hk hj)]
    exact h
theorem call_X2_price {E : ME} {Φ : Option AV → AM → Prop} {pc : Nat} {L : List (Option AV)} {st : List AV} {m : AM} {a : Nat × Nat} {idx : Nat} {x0 x1 : AV} {i : Nat} (hl : Cond.methodLink E.2.1 idx yX2_price ∈ TB) (hdep : 2 + 1 ≤ E.2.2.2.2.2.2) (hroom : a.1 + 0 ≤ E.2.2.2.2.1 ∧ a.2 + 0 ≤ E.2.2.2.2.2.1) (hsr : st.length ≤ 4) (hd : decode E.1 pc = .ok (.invokevirtual idx, 3)) (hsp : Sp_X2_price [vr 2 i, x0, x1] m (fun r m2 => B E Φ (pc + 3) L (r.toList ++ st) m2 a)) : B E Φ pc L (x1 :: x0 :: vr 2 i :: st) m a := b_callV S_X2_price [x0, x1] (RX2, TX2, 5) rfl rfl (by decide) (Or.inl hl) k688 k689 k73 k690 (show _ ∧ _ ∧ Option.map (fun d => d.parameters.length) (parseMethodDescriptor yX2_price.desc) = some 2 from by decide +kernel) ⟨hdep, by decide⟩ hroom hsr hd hsp
end
section
/-! rows for int arrays by tag and own length alike; Arrays.fill; what stays -/
theorem b_alenA {E : ME} {Φ : Option AV → AM → Prop} {pc : Nat} {L : List (Option AV)} {st : List AV} {m : AM} {a : Nat × Nat} {t i : Nat} (ht : t = 12 ∨ 100 ≤ t ∧ t < 20000) (hd : decode E.1 pc = .ok (.arraylength, 1)) (k : B E Φ (pc + 1) L (vi (nI (alT m t i)) :: st) m a) : B E Φ pc L (vr t i :: st) m a := by
  intro p l e R s mi args below meth c G ad0 nx0 A ad H locs ls hOk hIn hL hst
  have hw := hst _ List.mem_cons_self
  have hc := hIn.arr ht hw
  exact va_alen hOk.1 hOk.2.1 hIn.1 hIn.2.1 i 0 hc rfl rfl hd (k p l e R s mi args below meth c G ad0 nx0 A ad H locs ls hOk hIn hL (sw_i (sw_tl hst)))
theorem b_ialdA {E : ME} {Φ : Option AV → AM → Prop} {pc : Nat} {L : List (Option AV)} {st : List AV} {m : AM} {a : Nat × Nat} {t i : Nat} {x : Int32} (ht : t = 12 ∨ 100 ≤ t ∧ t < 20000) (hin : vp_in x (alT m t i)) (hd : decode E.1 pc = .ok (.iaload, 1)) (k : B E Φ (pc + 1) L (vi (m.1 i x.toNatClampNeg) :: st) m a) : B E Φ pc L (vi x :: vr t i :: st) m a := by
  intro p l e R s mi args below meth c G ad0 nx0 A ad H locs ls hOk hIn hL hst
  have hw := hst _ (List.mem_cons_of_mem _ List.mem_cons_self)
  have hc := hIn.arr ht hw
  exact va_iald hOk.1 hOk.2.1 hIn.1 hIn.2.1 i 0 hc rfl hin hd (k p l e R s mi args below meth c G ad0 nx0 A ad H locs ls hOk hIn hL (sw_i (sw_tl (sw_tl hst))))
theorem b_iastA {E : ME} {Φ : Option AV → AM → Prop} {pc : Nat} {L : List (Option AV)} {st : List AV} {m : AM} {a : Nat × Nat} {t i : Nat} {x y : Int32} (ht : t = 12 ∨ 100 ≤ t ∧ t < 20000) (hin : vp_in x (alT m t i)) (hd : decode E.1 pc = .ok (.iastore, 1)) (k : B E Φ (pc + 1) L st (mset m i x.toNatClampNeg y) a) : B E Φ pc L (vi y :: vi x :: vr t i :: st) m a := by
  rcases ht with rfl | ht
  · exact b_iastD hin hd k
  · refine b_iast ht ?_ hd k
    unfold alT at hin
    rw [if_neg (by omega)] at hin
    exact hin
theorem mset_of_aset (m : AM) (i j : Nat) (f : Nat → Int32) (x : Int32) : mset (aset m i f) i j x = aset m i (upd f j x) := by
  rw [mset_aset, aset_at, aset_aset]
theorem aset_self (m : AM) (i : Nat) (f : Nat → Int32) (h : f = m.1 i) : aset m i f = m := by
  subst h
  unfold aset
  have e : (fun a => if a = i then m.1 i else m.1 a) = m.1 := by funext a; by_cases q : a = i <;> simp [q]
  rw [e]
def fillF (f : Nat → Int32) (n : Nat) (v : Int32) : Nat → Int32 := fun k => if k < n then v else f k
abbrev e_J7_fill_53178 : ME := (cJ7_fill_53178, ("java/util/Arrays", (4, (none, (0, (0, 1))))))
theorem dJ7_fill_53178_0 : decode cJ7_fill_53178 0 = .ok (.iconst 0, 1) := by decide +kernel
theorem dJ7_fill_53178_1 : decode cJ7_fill_53178 1 = .ok (.istore_n 2, 1) := by decide +kernel
theorem dJ7_fill_53178_2 : decode cJ7_fill_53178 2 = .ok (.aload_n 0, 1) := by decide +kernel
theorem dJ7_fill_53178_3 : decode cJ7_fill_53178 3 = .ok (.arraylength, 1) := by decide +kernel
theorem dJ7_fill_53178_4 : decode cJ7_fill_53178 4 = .ok (.istore_n 3, 1) := by decide +kernel
theorem dJ7_fill_53178_5 : decode cJ7_fill_53178 5 = .ok (.iload_n 2, 1) := by decide +kernel
theorem dJ7_fill_53178_6 : decode cJ7_fill_53178 6 = .ok (.iload_n 3, 1) := by decide +kernel
theorem dJ7_fill_53178_7 : decode cJ7_fill_53178 7 = .ok (.if_icmp .ge 13, 3) := by decide +kernel
theorem dJ7_fill_53178_10 : decode cJ7_fill_53178 10 = .ok (.aload_n 0, 1) := by decide +kernel
theorem dJ7_fill_53178_11 : decode cJ7_fill_53178 11 = .ok (.iload_n 2, 1) := by decide +kernel
theorem dJ7_fill_53178_12 : decode cJ7_fill_53178 12 = .ok (.iload_n 1, 1) := by decide +kernel
theorem dJ7_fill_53178_13 : decode cJ7_fill_53178 13 = .ok (.iastore, 1) := by decide +kernel
theorem dJ7_fill_53178_14 : decode cJ7_fill_53178 14 = .ok (.iinc 2 1, 3) := by decide +kernel
theorem dJ7_fill_53178_17 : decode cJ7_fill_53178 17 = .ok (.goto (-12), 3) := by decide +kernel
theorem dJ7_fill_53178_20 : decode cJ7_fill_53178 20 = .ok (.return_, 1) := by decide +kernel
def Sp_J7_fill_53178 (av : List AV) (m : AM) (Φ : Option AV → AM → Prop) : Prop := ∃ t i v, av = [vr t i, vi v] ∧ (t = 12 ∨ 100 ≤ t ∧ t < 20000) ∧ alT m t i < 100000 ∧ Φ none (aset m i (fillF (m.1 i) (alT m t i) v))
set_option maxRecDepth 20000 in
set_option maxHeartbeats 4000000 in
theorem S_J7_fill_53178 : Snd yJ7_fill_53178 e_J7_fill_53178 Sp_J7_fill_53178 := by
  refine Snd.of (by decide +kernel) rfl ?_ ?_
  · rintro av m Φ ⟨t, i, v, rfl, _⟩; exact Nat.le_of_ble_eq_true rfl
  rintro av m Φ ⟨t, i, v, rfl, ht, hn, h⟩ hav hty
  show B e_J7_fill_53178 Φ 0 [some (vr t i), some (vi v), none, none] [] m (0, 0)
  have loop : ∀ n j, alT m t i + 1 ≤ j + n → j ≤ alT m t i → B e_J7_fill_53178 Φ 5 [some (vr t i), some (vi v), some (vi (nI j)), some (vi (nI (alT m t i)))] [] (aset m i (fillF (m.1 i) j v)) (0, 0) := by
    intro n
    induction n with
    | zero => intro j h1 h2; omega
    | succ n ih =>
      intro j h1 h2
      refine b_iloadN (pc := 5) 2 dJ7_fill_53178_5 rfl rfl ?_
      refine b_iloadN (pc := 6) 3 dJ7_fill_53178_6 rfl rfl ?_
      refine b_icmp_ge (pc := 7) 20 dJ7_fill_53178_7 (by decide) (fun c7 => ?_) (fun c7 => ?_)
      · refine b_vret (pc := 20) rfl dJ7_fill_53178_20 ⟨Nat.le_of_ble_eq_true rfl, Nat.le_of_ble_eq_true rfl⟩ ?_
        rw [n_le (by omega) (by omega)] at c7
        rw [show alT m t i = j by omega] at h
        exact h
      · rw [n_le (by omega) (by omega)] at c7
        refine b_aloadN (pc := 10) 0 dJ7_fill_53178_10 rfl rfl ?_
        refine b_iloadN (pc := 11) 2 dJ7_fill_53178_11 rfl rfl ?_
        refine b_iloadN (pc := 12) 1 dJ7_fill_53178_12 rfl rfl ?_
        refine b_iastA (pc := 13) ht ?_ dJ7_fill_53178_13 ?_
        · exact n_in (show j < alT (aset m i (fillF (m.1 i) j v)) t i from (by show j < alT m t i; omega)) (by show alT m t i < _; omega)
        refine inc2 (pc := 14) notL_i (by decide) dJ7_fill_53178_14 ?_
        refine b_goto (pc := 17) 5 dJ7_fill_53178_17 (by decide) ?_
        rw [n_inc, n_cl (by omega), mset_of_aset]
        have e : upd (fillF (m.1 i) j v) j v = fillF (m.1 i) (j + 1) v := by
          funext k
          unfold upd fillF
          by_cases q : k = j
          · subst q; simp
          · by_cases q2 : k < j
            · simp [q, q2, show k < j + 1 by omega]
            · simp [q, q2, show ¬ k < j + 1 by omega]
        rw [e]
        exact ih (j + 1) (by omega) (by omega)
  refine b_iconst (pc := 0) (nI 0) dJ7_fill_53178_0 (by decide) ?_
  refine siN2 (pc := 1) rfl notL_i (by decide) dJ7_fill_53178_1 ?_
  refine b_aloadN (pc := 2) 0 dJ7_fill_53178_2 rfl rfl ?_
  refine b_alenA (pc := 3) ht dJ7_fill_53178_3 ?_
  refine siN3 (pc := 4) rfl notL_i (by decide) dJ7_fill_53178_4 ?_
  have h0 := loop (alT m t i + 1) 0 (by omega) (by omega)
  rw [aset_self m i _ (by funext k; simp [fillF])] at h0
  exact h0
theorem call_J7_fill_53178 {E : ME} {Φ : Option AV → AM → Prop} {pc : Nat} {L : List (Option AV)} {st : List AV} {m : AM} {a : Nat × Nat} {idx : Nat} {x0 x1 : AV} (hl : Cond.methodLink E.2.1 idx yJ7_fill_53178 ∈ TB) (hdep : 1 + 1 ≤ E.2.2.2.2.2.2) (hroom : a.1 + 0 ≤ E.2.2.2.2.1 ∧ a.2 + 0 ≤ E.2.2.2.2.2.1) (hsr : st.length ≤ 4) (hd : decode E.1 pc = .ok (.invokestatic idx, 3)) (hsp : Sp_J7_fill_53178 [x0, x1] m (fun r m2 => B E Φ (pc + 3) L (r.toList ++ st) m2 a)) : B E Φ pc L (x1 :: x0 :: st) m a := b_callS S_J7_fill_53178 [x0, x1] (Or.inl hl) k102 k70 k103 (show _ ∧ _ ∧ Option.map (fun d => d.parameters.length) (parseMethodDescriptor yJ7_fill_53178.desc) = some 2 from by decide +kernel) ⟨hdep, by decide⟩ hroom hsr hd hsp
/-- what stays: all but the ints of the cells l -/
def Fr (l : List Nat) (m m2 : AM) : Prop := m2.2 = m.2 ∧ ∀ a, a ∉ l → m2.1 a = m.1 a
theorem Fr.rf (l : List Nat) (m : AM) : Fr l m m := ⟨rfl, fun _ _ => rfl⟩
theorem Fr.tr {l l2 : List Nat} {m m2 m3 : AM} (h : Fr l m m2) (h2 : Fr l2 m2 m3) : Fr (l ++ l2) m m3 := ⟨h2.1.trans h.1, fun a ha => (h2.2 a (fun q => ha (List.mem_append_right _ q))).trans (h.2 a (fun q => ha (List.mem_append_left _ q)))⟩
theorem Fr.mono {l l2 : List Nat} {m m2 : AM} (h : Fr l m m2) (hl : ∀ a, a ∈ l → a ∈ l2) : Fr l2 m m2 := ⟨h.1, fun a ha => h.2 a (fun q => ha (hl a q))⟩
theorem Fr.ms {l : List Nat} {m m2 : AM} (h : Fr l m m2) {i j : Nat} {x : Int32} (hi : i ∈ l) : Fr l m (mset m2 i j x) := ⟨h.1, fun a ha => by
  have q : a ≠ i := fun e => ha (by rw [e]; exact hi)
  rw [mset_ne m2 j x q]
  exact h.2 a ha⟩
theorem Fr.as {l : List Nat} {m m2 : AM} (h : Fr l m m2) {i : Nat} {f : Nat → Int32} (hi : i ∈ l) : Fr l m (aset m2 i f) := ⟨h.1, fun a ha => by
  have q : a ≠ i := fun e => ha (by rw [e]; exact hi)
  rw [aset_ne m2 f q]
  exact h.2 a ha⟩
theorem CU.fr {C : Nat → Nat} {m m2 : AM} (h : CU C m m2) : Fr [30] m m2 := ⟨h.two, fun a ha => h.ne (fun e => ha (by simp [e]))⟩
abbrev e_X8_become : ME := (cX8_become, (RX8, (2, (none, (0, (0, 1))))))
theorem dX8_become_0 : decode cX8_become 0 = .ok (.aload_n 1, 1) := by decide +kernel
theorem dX8_become_1 : decode cX8_become 1 = .ok (.getfield 9, 3) := by decide +kernel
theorem dX8_become_4 : decode cX8_become 4 = .ok (.iconst 0, 1) := by decide +kernel
theorem dX8_become_5 : decode cX8_become 5 = .ok (.aload_n 0, 1) := by decide +kernel
theorem dX8_become_6 : decode cX8_become 6 = .ok (.getfield 9, 3) := by decide +kernel
theorem dX8_become_9 : decode cX8_become 9 = .ok (.iconst 0, 1) := by decide +kernel
theorem dX8_become_10 : decode cX8_become 10 = .ok (.iconst 5, 1) := by decide +kernel
theorem dX8_become_11 : decode cX8_become 11 = .ok (.invokestatic 37, 3) := by decide +kernel
theorem dX8_become_14 : decode cX8_become 14 = .ok (.aload_n 0, 1) := by decide +kernel
theorem dX8_become_15 : decode cX8_become 15 = .ok (.aload_n 1, 1) := by decide +kernel
theorem dX8_become_16 : decode cX8_become 16 = .ok (.getfield 21, 3) := by decide +kernel
theorem dX8_become_19 : decode cX8_become 19 = .ok (.putfield 21, 3) := by decide +kernel
theorem dX8_become_22 : decode cX8_become 22 = .ok (.aload_n 0, 1) := by decide +kernel
theorem dX8_become_23 : decode cX8_become 23 = .ok (.aload_n 1, 1) := by decide +kernel
theorem dX8_become_24 : decode cX8_become 24 = .ok (.getfield 25, 3) := by decide +kernel
theorem dX8_become_27 : decode cX8_become 27 = .ok (.putfield 25, 3) := by decide +kernel
theorem dX8_become_30 : decode cX8_become 30 = .ok (.aload_n 0, 1) := by decide +kernel
theorem dX8_become_31 : decode cX8_become 31 = .ok (.aload_n 1, 1) := by decide +kernel
theorem dX8_become_32 : decode cX8_become 32 = .ok (.getfield 28, 3) := by decide +kernel
theorem dX8_become_35 : decode cX8_become 35 = .ok (.putfield 28, 3) := by decide +kernel
theorem dX8_become_38 : decode cX8_become 38 = .ok (.aload_n 0, 1) := by decide +kernel
theorem dX8_become_39 : decode cX8_become 39 = .ok (.aload_n 1, 1) := by decide +kernel
theorem dX8_become_40 : decode cX8_become 40 = .ok (.getfield 31, 3) := by decide +kernel
theorem dX8_become_43 : decode cX8_become 43 = .ok (.putfield 31, 3) := by decide +kernel
theorem dX8_become_46 : decode cX8_become 46 = .ok (.aload_n 0, 1) := by decide +kernel
theorem dX8_become_47 : decode cX8_become 47 = .ok (.aload_n 1, 1) := by decide +kernel
theorem dX8_become_48 : decode cX8_become 48 = .ok (.getfield 34, 3) := by decide +kernel
theorem dX8_become_51 : decode cX8_become 51 = .ok (.putfield 34, 3) := by decide +kernel
theorem dX8_become_54 : decode cX8_become 54 = .ok (.return_, 1) := by decide +kernel
def Sp_X8_become (av : List AV) (m : AM) (Φ : Option AV → AM → Prop) : Prop := ∃ i j, av = [vr 8 i, vr 8 j] ∧ (i ≠ j ∧ i + 1 ≠ j ∧ j + 1 ≠ i) ∧ ∀ m2, Fr [i, i + 1] m m2 → (∀ k, 1 ≤ k → k ≤ 5 → m2.1 i k = m.1 j k) → (∀ p, p < 5 → m2.1 (i + 1) p = m.1 (j + 1) p) → Φ none m2
set_option maxRecDepth 20000 in
set_option maxHeartbeats 4000000 in
theorem S_X8_become : Snd yX8_become e_X8_become Sp_X8_become := by
  refine Snd.of (by decide +kernel) rfl ?_ ?_
  · rintro av m Φ ⟨i, j, rfl, _⟩; exact Nat.le_of_ble_eq_true rfl
  rintro av m Φ ⟨i, j, rfl, hij, h⟩ hav hty
  show B e_X8_become Φ 0 [some (vr 8 i), some (vr 8 j)] [] m (0, 0)
  refine b_aloadN (pc := 0) 1 dX8_become_0 rfl rfl ?_
  refine gf8_0 (pc := 1) _ rfl k227 dX8_become_1 ?_
  refine b_iconst (pc := 4) (nI 0) dX8_become_4 (by decide) ?_
  refine b_aloadN (pc := 5) 0 dX8_become_5 rfl rfl ?_
  refine gf8_0 (pc := 6) _ rfl k227 dX8_become_6 ?_
  refine b_iconst (pc := 9) (nI 0) dX8_become_9 (by decide) ?_
  refine b_iconst (pc := 10) (nI 5) dX8_become_10 (by decide) ?_
  refine b_acopy (pc := 11) (by decide) (by decide) k637 k495 k494 k81 ?_ ?_ ?_ ?_ ?_ (by decide) (by decide) dX8_become_11 ?_
  rotate_left -- leaf 0: arraycopy sp at 11
  rotate_left -- leaf 1: arraycopy dp at 11
  rotate_left -- leaf 2: arraycopy n at 11
  rotate_left -- leaf 3: arraycopy from at 11
  rotate_left -- leaf 4: arraycopy to at 11
  refine b_aloadN (pc := 14) 0 dX8_become_14 rfl rfl ?_
  refine b_aloadN (pc := 15) 1 dX8_become_15 rfl rfl ?_
  refine gf8_1 (pc := 16) k231 dX8_become_16 ?_
  refine pf8_1 (pc := 19) k231 dX8_become_19 ?_
  refine b_aloadN (pc := 22) 0 dX8_become_22 rfl rfl ?_
  refine b_aloadN (pc := 23) 1 dX8_become_23 rfl rfl ?_
  refine gf8_2 (pc := 24) k237 dX8_become_24 ?_
  refine pf8_2 (pc := 27) k237 dX8_become_27 ?_
  refine b_aloadN (pc := 30) 0 dX8_become_30 rfl rfl ?_
  refine b_aloadN (pc := 31) 1 dX8_become_31 rfl rfl ?_
  refine gf8_3 (pc := 32) k242 dX8_become_32 ?_
  refine pf8_3 (pc := 35) k242 dX8_become_35 ?_
  refine b_aloadN (pc := 38) 0 dX8_become_38 rfl rfl ?_
  refine b_aloadN (pc := 39) 1 dX8_become_39 rfl rfl ?_
  refine gf8_4 (pc := 40) k245 dX8_become_40 ?_
  refine pf8_4 (pc := 43) k245 dX8_become_43 ?_
  refine b_aloadN (pc := 46) 0 dX8_become_46 rfl rfl ?_
  refine b_aloadN (pc := 47) 1 dX8_become_47 rfl rfl ?_
  refine gf8_5 (pc := 48) k248 dX8_become_48 ?_
  refine pf8_5 (pc := 51) k248 dX8_become_51 ?_
  refine b_vret (pc := 54) rfl dX8_become_54 ⟨Nat.le_of_ble_eq_true rfl, Nat.le_of_ble_eq_true rfl⟩ ?_
  rotate_left -- leaf 5: return at 54
  -- leaves: 0 arraycopy sp at 11; 1 arraycopy dp at 11; 2 arraycopy n at 11; 3 arraycopy from at 11; 4 arraycopy to at 11; 5 return at 54
  · decide
  · decide
  · decide
  · exact (show (nI 0).toNatClampNeg + (nI 5).toNatClampNeg ≤ 5 from by decide)
  · exact (show (nI 0).toNatClampNeg + (nI 5).toNatClampNeg ≤ 5 from by decide)
  · have e1 : ¬ j = i := fun e => hij.1 e.symm
    have e2 : ¬ j = i + 1 := fun e => hij.2.1 e.symm
    refine h _ (((((((Fr.rf _ m).as (by simp)).ms (by simp)).ms (by simp)).ms (by simp)).ms (by simp)).ms (by simp)) (fun k h1 h2 => ?_) (fun p hp => ?_)
    · rcases (by omega : k = 1 ∨ k = 2 ∨ k = 3 ∨ k = 4 ∨ k = 5) with rfl | rfl | rfl | rfl | rfl <;> simp [mset, aset, e1, e2]
    · have e3 : va_cpy (m.1 (j + 1)) (m.1 (i + 1)) (nI 0).toNatClampNeg (nI 0).toNatClampNeg (nI 5).toNatClampNeg p = m.1 (j + 1) p := by
        rw [n_cl (by omega), n_cl (by omega)]
        simp [va_cpy, hp]
      simp [mset, aset, e3]
theorem call_X8_become {E : ME} {Φ : Option AV → AM → Prop} {pc : Nat} {L : List (Option AV)} {st : List AV} {m : AM} {a : Nat × Nat} {idx : Nat} {x0 : AV} {i : Nat} (hl : Cond.methodLink E.2.1 idx yX8_become ∈ TB) (hdep : 1 + 1 ≤ E.2.2.2.2.2.2) (hroom : a.1 + 0 ≤ E.2.2.2.2.1 ∧ a.2 + 0 ≤ E.2.2.2.2.2.1) (hsr : st.length ≤ 4) (hd : decode E.1 pc = .ok (.invokevirtual idx, 3)) (hsp : Sp_X8_become [vr 8 i, x0] m (fun r m2 => B E Φ (pc + 3) L (r.toList ++ st) m2 a)) : B E Φ pc L (x0 :: vr 8 i :: st) m a := b_callV S_X8_become [x0] (RX8, TX8, 6) rfl rfl (by decide) (Or.inl hl) k634 k635 k74 k636 (show _ ∧ _ ∧ Option.map (fun d => d.parameters.length) (parseMethodDescriptor yX8_become.desc) = some 1 from by decide +kernel) ⟨hdep, by decide⟩ hroom hsr hd hsp
abbrev e_X8_begin : ME := (cX8_begin, (RX8, (2, (none, (0, (0, 2))))))
theorem dX8_begin_0 : decode cX8_begin 0 = .ok (.aload_n 0, 1) := by decide +kernel
theorem dX8_begin_1 : decode cX8_begin 1 = .ok (.getfield 9, 3) := by decide +kernel
theorem dX8_begin_4 : decode cX8_begin 4 = .ok (.iconst 0, 1) := by decide +kernel
theorem dX8_begin_5 : decode cX8_begin 5 = .ok (.invokestatic 15, 3) := by decide +kernel
theorem dX8_begin_8 : decode cX8_begin 8 = .ok (.aload_n 0, 1) := by decide +kernel
theorem dX8_begin_9 : decode cX8_begin 9 = .ok (.iload_n 1, 1) := by decide +kernel
theorem dX8_begin_10 : decode cX8_begin 10 = .ok (.putfield 21, 3) := by decide +kernel
theorem dX8_begin_13 : decode cX8_begin 13 = .ok (.aload_n 0, 1) := by decide +kernel
theorem dX8_begin_14 : decode cX8_begin 14 = .ok (.iconst 0, 1) := by decide +kernel
theorem dX8_begin_15 : decode cX8_begin 15 = .ok (.putfield 25, 3) := by decide +kernel
theorem dX8_begin_18 : decode cX8_begin 18 = .ok (.aload_n 0, 1) := by decide +kernel
theorem dX8_begin_19 : decode cX8_begin 19 = .ok (.iconst 0, 1) := by decide +kernel
theorem dX8_begin_20 : decode cX8_begin 20 = .ok (.putfield 28, 3) := by decide +kernel
theorem dX8_begin_23 : decode cX8_begin 23 = .ok (.aload_n 0, 1) := by decide +kernel
theorem dX8_begin_24 : decode cX8_begin 24 = .ok (.iconst 0, 1) := by decide +kernel
theorem dX8_begin_25 : decode cX8_begin 25 = .ok (.putfield 31, 3) := by decide +kernel
theorem dX8_begin_28 : decode cX8_begin 28 = .ok (.aload_n 0, 1) := by decide +kernel
theorem dX8_begin_29 : decode cX8_begin 29 = .ok (.iconst 0, 1) := by decide +kernel
theorem dX8_begin_30 : decode cX8_begin 30 = .ok (.putfield 34, 3) := by decide +kernel
theorem dX8_begin_33 : decode cX8_begin 33 = .ok (.return_, 1) := by decide +kernel
def Sp_X8_begin (av : List AV) (m : AM) (Φ : Option AV → AM → Prop) : Prop := ∃ i x, av = [vr 8 i, vi x] ∧ ∀ m2, Fr [i, i + 1] m m2 → m2.1 i 1 = x → (∀ k, 2 ≤ k → k ≤ 5 → m2.1 i k = nI 0) → (∀ p, p < 5 → m2.1 (i + 1) p = nI 0) → Φ none m2
set_option maxRecDepth 20000 in
set_option maxHeartbeats 4000000 in
theorem S_X8_begin : Snd yX8_begin e_X8_begin Sp_X8_begin := by
  refine Snd.of (by decide +kernel) rfl ?_ ?_
  · rintro av m Φ ⟨i, x, rfl, _⟩; exact Nat.le_of_ble_eq_true rfl
  rintro av m Φ ⟨i, x, rfl, h⟩ hav hty
  show B e_X8_begin Φ 0 [some (vr 8 i), some (vi x)] [] m (0, 0)
  refine b_aloadN (pc := 0) 0 dX8_begin_0 rfl rfl ?_
  refine gf8_0 (pc := 1) _ rfl k227 dX8_begin_1 ?_
  refine b_iconst (pc := 4) (nI 0) dX8_begin_4 (by decide) ?_
  refine call_J7_fill_53178 (pc := 5) k598 (by decide) ⟨Nat.le_of_ble_eq_true rfl, Nat.le_of_ble_eq_true rfl⟩ (Nat.le_of_ble_eq_true rfl) dX8_begin_5 ?_
  refine ⟨_, _, _, rfl, ?_, ?_, ?_⟩
  exact Or.inr ⟨by decide, by decide⟩
  exact (Nat.le_of_ble_eq_true rfl)
  refine b_aloadN (pc := 8) 0 dX8_begin_8 rfl rfl ?_
  refine b_iloadN (pc := 9) 1 dX8_begin_9 rfl rfl ?_
  refine pf8_1 (pc := 10) k231 dX8_begin_10 ?_
  refine b_aloadN (pc := 13) 0 dX8_begin_13 rfl rfl ?_
  refine b_iconst (pc := 14) (nI 0) dX8_begin_14 (by decide) ?_
  refine pf8_2 (pc := 15) k237 dX8_begin_15 ?_
  refine b_aloadN (pc := 18) 0 dX8_begin_18 rfl rfl ?_
  refine b_iconst (pc := 19) (nI 0) dX8_begin_19 (by decide) ?_
  refine pf8_3 (pc := 20) k242 dX8_begin_20 ?_
  refine b_aloadN (pc := 23) 0 dX8_begin_23 rfl rfl ?_
  refine b_iconst (pc := 24) (nI 0) dX8_begin_24 (by decide) ?_
  refine pf8_4 (pc := 25) k245 dX8_begin_25 ?_
  refine b_aloadN (pc := 28) 0 dX8_begin_28 rfl rfl ?_
  refine b_iconst (pc := 29) (nI 0) dX8_begin_29 (by decide) ?_
  refine pf8_5 (pc := 30) k248 dX8_begin_30 ?_
  refine b_vret (pc := 33) rfl dX8_begin_33 ⟨Nat.le_of_ble_eq_true rfl, Nat.le_of_ble_eq_true rfl⟩ ?_
  rotate_left -- leaf 0: return at 33
  -- leaves: 0 return at 33
  refine h _ ((((((Fr.rf _ m).as (by simp)).ms (by simp)).ms (by simp)).ms (by simp)).ms (by simp) |>.ms (by simp)) (by simp [mset, aset]) (fun k h1 h2 => ?_) (fun p hp => ?_)
  · rcases (by omega : k = 2 ∨ k = 3 ∨ k = 4 ∨ k = 5) with rfl | rfl | rfl | rfl <;> simp [mset, aset]
  · have e3 : fillF (m.1 (i + 1)) (alT m 105 (i + 1)) (nI 0) p = nI 0 := by
      have e4 : alT m 105 (i + 1) = 5 := rfl
      rw [e4]
      simp [fillF, hp]
    simp [mset, aset, e3]
theorem call_X8_begin {E : ME} {Φ : Option AV → AM → Prop} {pc : Nat} {L : List (Option AV)} {st : List AV} {m : AM} {a : Nat × Nat} {idx : Nat} {x0 : AV} {i : Nat} (hl : Cond.methodLink E.2.1 idx yX8_begin ∈ TB) (hdep : 2 + 1 ≤ E.2.2.2.2.2.2) (hroom : a.1 + 0 ≤ E.2.2.2.2.1 ∧ a.2 + 0 ≤ E.2.2.2.2.2.1) (hsr : st.length ≤ 4) (hd : decode E.1 pc = .ok (.invokevirtual idx, 3)) (hsp : Sp_X8_begin [vr 8 i, x0] m (fun r m2 => B E Φ (pc + 3) L (r.toList ++ st) m2 a)) : B E Φ pc L (x0 :: vr 8 i :: st) m a := b_callV S_X8_begin [x0] (RX8, TX8, 6) rfl rfl (by decide) (Or.inl hl) k595 k596 k74 k597 (show _ ∧ _ ∧ Option.map (fun d => d.parameters.length) (parseMethodDescriptor yX8_begin.desc) = some 1 from by decide +kernel) ⟨hdep, by decide⟩ hroom hsr hd hsp
abbrev e_X5_become : ME := (cX5_become, (RX5, (2, (none, (0, (0, 1))))))
theorem dX5_become_0 : decode cX5_become 0 = .ok (.aload_n 1, 1) := by decide +kernel
theorem dX5_become_1 : decode cX5_become 1 = .ok (.getfield 9, 3) := by decide +kernel
theorem dX5_become_4 : decode cX5_become 4 = .ok (.iconst 0, 1) := by decide +kernel
theorem dX5_become_5 : decode cX5_become 5 = .ok (.aload_n 0, 1) := by decide +kernel
theorem dX5_become_6 : decode cX5_become 6 = .ok (.getfield 9, 3) := by decide +kernel
theorem dX5_become_9 : decode cX5_become 9 = .ok (.iconst 0, 1) := by decide +kernel
theorem dX5_become_10 : decode cX5_become 10 = .ok (.bipush 8, 2) := by decide +kernel
theorem dX5_become_12 : decode cX5_become 12 = .ok (.invokestatic 40, 3) := by decide +kernel
theorem dX5_become_15 : decode cX5_become 15 = .ok (.aload_n 1, 1) := by decide +kernel
theorem dX5_become_16 : decode cX5_become 16 = .ok (.getfield 15, 3) := by decide +kernel
theorem dX5_become_19 : decode cX5_become 19 = .ok (.iconst 0, 1) := by decide +kernel
theorem dX5_become_20 : decode cX5_become 20 = .ok (.aload_n 0, 1) := by decide +kernel
theorem dX5_become_21 : decode cX5_become 21 = .ok (.getfield 15, 3) := by decide +kernel
theorem dX5_become_24 : decode cX5_become 24 = .ok (.iconst 0, 1) := by decide +kernel
theorem dX5_become_25 : decode cX5_become 25 = .ok (.bipush 8, 2) := by decide +kernel
theorem dX5_become_27 : decode cX5_become 27 = .ok (.invokestatic 40, 3) := by decide +kernel
theorem dX5_become_30 : decode cX5_become 30 = .ok (.aload_n 1, 1) := by decide +kernel
theorem dX5_become_31 : decode cX5_become 31 = .ok (.getfield 18, 3) := by decide +kernel
theorem dX5_become_34 : decode cX5_become 34 = .ok (.iconst 0, 1) := by decide +kernel
theorem dX5_become_35 : decode cX5_become 35 = .ok (.aload_n 0, 1) := by decide +kernel
theorem dX5_become_36 : decode cX5_become 36 = .ok (.getfield 18, 3) := by decide +kernel
theorem dX5_become_39 : decode cX5_become 39 = .ok (.iconst 0, 1) := by decide +kernel
theorem dX5_become_40 : decode cX5_become 40 = .ok (.bipush 8, 2) := by decide +kernel
theorem dX5_become_42 : decode cX5_become 42 = .ok (.invokestatic 40, 3) := by decide +kernel
theorem dX5_become_45 : decode cX5_become 45 = .ok (.aload_n 1, 1) := by decide +kernel
theorem dX5_become_46 : decode cX5_become 46 = .ok (.getfield 21, 3) := by decide +kernel
theorem dX5_become_49 : decode cX5_become 49 = .ok (.iconst 0, 1) := by decide +kernel
theorem dX5_become_50 : decode cX5_become 50 = .ok (.aload_n 0, 1) := by decide +kernel
theorem dX5_become_51 : decode cX5_become 51 = .ok (.getfield 21, 3) := by decide +kernel
theorem dX5_become_54 : decode cX5_become 54 = .ok (.iconst 0, 1) := by decide +kernel
theorem dX5_become_55 : decode cX5_become 55 = .ok (.iconst 5, 1) := by decide +kernel
theorem dX5_become_56 : decode cX5_become 56 = .ok (.invokestatic 40, 3) := by decide +kernel
theorem dX5_become_59 : decode cX5_become 59 = .ok (.aload_n 0, 1) := by decide +kernel
theorem dX5_become_60 : decode cX5_become 60 = .ok (.aload_n 1, 1) := by decide +kernel
theorem dX5_become_61 : decode cX5_become 61 = .ok (.getfield 24, 3) := by decide +kernel
theorem dX5_become_64 : decode cX5_become 64 = .ok (.putfield 24, 3) := by decide +kernel
theorem dX5_become_67 : decode cX5_become 67 = .ok (.aload_n 0, 1) := by decide +kernel
theorem dX5_become_68 : decode cX5_become 68 = .ok (.aload_n 1, 1) := by decide +kernel
theorem dX5_become_69 : decode cX5_become 69 = .ok (.getfield 28, 3) := by decide +kernel
theorem dX5_become_72 : decode cX5_become 72 = .ok (.putfield 28, 3) := by decide +kernel
theorem dX5_become_75 : decode cX5_become 75 = .ok (.aload_n 0, 1) := by decide +kernel
theorem dX5_become_76 : decode cX5_become 76 = .ok (.aload_n 1, 1) := by decide +kernel
theorem dX5_become_77 : decode cX5_become 77 = .ok (.getfield 31, 3) := by decide +kernel
theorem dX5_become_80 : decode cX5_become 80 = .ok (.putfield 31, 3) := by decide +kernel
theorem dX5_become_83 : decode cX5_become 83 = .ok (.aload_n 0, 1) := by decide +kernel
theorem dX5_become_84 : decode cX5_become 84 = .ok (.aload_n 1, 1) := by decide +kernel
theorem dX5_become_85 : decode cX5_become 85 = .ok (.getfield 34, 3) := by decide +kernel
theorem dX5_become_88 : decode cX5_become 88 = .ok (.putfield 34, 3) := by decide +kernel
theorem dX5_become_91 : decode cX5_become 91 = .ok (.aload_n 0, 1) := by decide +kernel
theorem dX5_become_92 : decode cX5_become 92 = .ok (.aload_n 1, 1) := by decide +kernel
theorem dX5_become_93 : decode cX5_become 93 = .ok (.getfield 37, 3) := by decide +kernel
theorem dX5_become_96 : decode cX5_become 96 = .ok (.putfield 37, 3) := by decide +kernel
theorem dX5_become_99 : decode cX5_become 99 = .ok (.return_, 1) := by decide +kernel
def Sp_X5_become (av : List AV) (m : AM) (Φ : Option AV → AM → Prop) : Prop := ∃ i j, av = [vr 5 i, vr 5 j] ∧ (i + 4 < j ∨ j + 4 < i) ∧ ∀ m2, Fr [i, i + 1, i + 2, i + 3, i + 4] m m2 → (∀ k, 4 ≤ k → k ≤ 8 → m2.1 i k = m.1 j k) → (∀ p, p < 8 → m2.1 (i + 1) p = m.1 (j + 1) p ∧ m2.1 (i + 2) p = m.1 (j + 2) p ∧ m2.1 (i + 3) p = m.1 (j + 3) p) → (∀ p, p < 5 → m2.1 (i + 4) p = m.1 (j + 4) p) → Φ none m2
set_option maxRecDepth 20000 in
set_option maxHeartbeats 4000000 in
theorem S_X5_become : Snd yX5_become e_X5_become Sp_X5_become := by
  refine Snd.of (by decide +kernel) rfl ?_ ?_
  · rintro av m Φ ⟨i, j, rfl, _⟩; exact Nat.le_of_ble_eq_true rfl
  rintro av m Φ ⟨i, j, rfl, hij, h⟩ hav hty
  show B e_X5_become Φ 0 [some (vr 5 i), some (vr 5 j)] [] m (0, 0)
  have c8 : ∀ f g : Nat → Int32, ∀ p, p < 8 → va_cpy f g (nI 0).toNatClampNeg (nI 0).toNatClampNeg (nI 8).toNatClampNeg p = f p := by
    intro f g p hp
    rw [n_cl (by omega), n_cl (by omega)]
    simp [va_cpy, hp]
  have c5 : ∀ f g : Nat → Int32, ∀ p, p < 5 → va_cpy f g (nI 0).toNatClampNeg (nI 0).toNatClampNeg (nI 5).toNatClampNeg p = f p := by
    intro f g p hp
    rw [n_cl (by omega), n_cl (by omega)]
    simp [va_cpy, hp]
  refine b_aloadN (pc := 0) 1 dX5_become_0 rfl rfl ?_
  refine gf5_0 (pc := 1) _ rfl k127 dX5_become_1 ?_
  refine b_iconst (pc := 4) (nI 0) dX5_become_4 (by decide) ?_
  refine b_aloadN (pc := 5) 0 dX5_become_5 rfl rfl ?_
  refine gf5_0 (pc := 6) _ rfl k127 dX5_become_6 ?_
  refine b_iconst (pc := 9) (nI 0) dX5_become_9 (by decide) ?_
  refine b_bipush (pc := 10) (nI 8) dX5_become_10 (by decide) ?_
  refine b_acopy (pc := 12) (by decide) (by decide) k593 k495 k494 k81 ?_ ?_ ?_ ?_ ?_ (by decide) (by decide) dX5_become_12 ?_
  rotate_left -- leaf 0: arraycopy sp at 12
  rotate_left -- leaf 1: arraycopy dp at 12
  rotate_left -- leaf 2: arraycopy n at 12
  rotate_left -- leaf 3: arraycopy from at 12
  rotate_left -- leaf 4: arraycopy to at 12
  refine b_aloadN (pc := 15) 1 dX5_become_15 rfl rfl ?_
  refine gf5_1 (pc := 16) _ rfl k130 dX5_become_16 ?_
  refine b_iconst (pc := 19) (nI 0) dX5_become_19 (by decide) ?_
  refine b_aloadN (pc := 20) 0 dX5_become_20 rfl rfl ?_
  refine gf5_1 (pc := 21) _ rfl k130 dX5_become_21 ?_
  refine b_iconst (pc := 24) (nI 0) dX5_become_24 (by decide) ?_
  refine b_bipush (pc := 25) (nI 8) dX5_become_25 (by decide) ?_
  refine b_acopy (pc := 27) (by decide) (by decide) k593 k495 k494 k81 ?_ ?_ ?_ ?_ ?_ (by decide) (by decide) dX5_become_27 ?_
  rotate_left -- leaf 5: arraycopy sp at 27
  rotate_left -- leaf 6: arraycopy dp at 27
  rotate_left -- leaf 7: arraycopy n at 27
  rotate_left -- leaf 8: arraycopy from at 27
  rotate_left -- leaf 9: arraycopy to at 27
  refine b_aloadN (pc := 30) 1 dX5_become_30 rfl rfl ?_
  refine gf5_2 (pc := 31) _ rfl k133 dX5_become_31 ?_
  refine b_iconst (pc := 34) (nI 0) dX5_become_34 (by decide) ?_
  refine b_aloadN (pc := 35) 0 dX5_become_35 rfl rfl ?_
  refine gf5_2 (pc := 36) _ rfl k133 dX5_become_36 ?_
  refine b_iconst (pc := 39) (nI 0) dX5_become_39 (by decide) ?_
  refine b_bipush (pc := 40) (nI 8) dX5_become_40 (by decide) ?_
  refine b_acopy (pc := 42) (by decide) (by decide) k593 k495 k494 k81 ?_ ?_ ?_ ?_ ?_ (by decide) (by decide) dX5_become_42 ?_
  rotate_left -- leaf 10: arraycopy sp at 42
  rotate_left -- leaf 11: arraycopy dp at 42
  rotate_left -- leaf 12: arraycopy n at 42
  rotate_left -- leaf 13: arraycopy from at 42
  rotate_left -- leaf 14: arraycopy to at 42
  refine b_aloadN (pc := 45) 1 dX5_become_45 rfl rfl ?_
  refine gf5_3 (pc := 46) _ rfl k136 dX5_become_46 ?_
  refine b_iconst (pc := 49) (nI 0) dX5_become_49 (by decide) ?_
  refine b_aloadN (pc := 50) 0 dX5_become_50 rfl rfl ?_
  refine gf5_3 (pc := 51) _ rfl k136 dX5_become_51 ?_
  refine b_iconst (pc := 54) (nI 0) dX5_become_54 (by decide) ?_
  refine b_iconst (pc := 55) (nI 5) dX5_become_55 (by decide) ?_
  refine b_acopy (pc := 56) (by decide) (by decide) k593 k495 k494 k81 ?_ ?_ ?_ ?_ ?_ (by decide) (by decide) dX5_become_56 ?_
  rotate_left -- leaf 15: arraycopy sp at 56
  rotate_left -- leaf 16: arraycopy dp at 56
  rotate_left -- leaf 17: arraycopy n at 56
  rotate_left -- leaf 18: arraycopy from at 56
  rotate_left -- leaf 19: arraycopy to at 56
  refine b_aloadN (pc := 59) 0 dX5_become_59 rfl rfl ?_
  refine b_aloadN (pc := 60) 1 dX5_become_60 rfl rfl ?_
  refine gf5_4 (pc := 61) k142 dX5_become_61 ?_
  refine pf5_4 (pc := 64) k142 dX5_become_64 ?_
  refine b_aloadN (pc := 67) 0 dX5_become_67 rfl rfl ?_
  refine b_aloadN (pc := 68) 1 dX5_become_68 rfl rfl ?_
  refine gf5_5 (pc := 69) k148 dX5_become_69 ?_
  refine pf5_5 (pc := 72) k148 dX5_become_72 ?_
  refine b_aloadN (pc := 75) 0 dX5_become_75 rfl rfl ?_
  refine b_aloadN (pc := 76) 1 dX5_become_76 rfl rfl ?_
  refine gf5_6 (pc := 77) k151 dX5_become_77 ?_
  refine pf5_6 (pc := 80) k151 dX5_become_80 ?_
  refine b_aloadN (pc := 83) 0 dX5_become_83 rfl rfl ?_
  refine b_aloadN (pc := 84) 1 dX5_become_84 rfl rfl ?_
  refine gf5_7 (pc := 85) k156 dX5_become_85 ?_
  refine pf5_7 (pc := 88) k156 dX5_become_88 ?_
  refine b_aloadN (pc := 91) 0 dX5_become_91 rfl rfl ?_
  refine b_aloadN (pc := 92) 1 dX5_become_92 rfl rfl ?_
  refine gf5_8 (pc := 93) k160 dX5_become_93 ?_
  refine pf5_8 (pc := 96) k160 dX5_become_96 ?_
  refine b_vret (pc := 99) rfl dX5_become_99 ⟨Nat.le_of_ble_eq_true rfl, Nat.le_of_ble_eq_true rfl⟩ ?_
  rotate_left -- leaf 20: return at 99
  -- leaves: 0 arraycopy sp at 12; 1 arraycopy dp at 12; 2 arraycopy n at 12; 3 arraycopy from at 12; 4 arraycopy to at 12; 5 arraycopy sp at 27; 6 arraycopy dp at 27; 7 arraycopy n at 27; 8 arraycopy from at 27; 9 arraycopy to at 27; 10 arraycopy sp at 42; 11 arraycopy dp at 42; 12 arraycopy n at 42; 13 arraycopy from at 42; 14 arraycopy to at 42; 15 arraycopy sp at 56; 16 arraycopy dp at 56; 17 arraycopy n at 56; 18 arraycopy from at 56; 19 arraycopy to at 56; 20 return at 99
  · decide
  · decide
  · decide
  · exact (show (nI 0).toNatClampNeg + (nI 8).toNatClampNeg ≤ 8 from by decide)
  · exact (show (nI 0).toNatClampNeg + (nI 8).toNatClampNeg ≤ 8 from by decide)
  · decide
  · decide
  · decide
  · exact (show (nI 0).toNatClampNeg + (nI 8).toNatClampNeg ≤ 8 from by decide)
  · exact (show (nI 0).toNatClampNeg + (nI 8).toNatClampNeg ≤ 8 from by decide)
  · decide
  · decide
  · decide
  · exact (show (nI 0).toNatClampNeg + (nI 8).toNatClampNeg ≤ 8 from by decide)
  · exact (show (nI 0).toNatClampNeg + (nI 8).toNatClampNeg ≤ 8 from by decide)
  · decide
  · decide
  · decide
  · exact (show (nI 0).toNatClampNeg + (nI 5).toNatClampNeg ≤ 5 from by decide)
  · exact (show (nI 0).toNatClampNeg + (nI 5).toNatClampNeg ≤ 5 from by decide)
  · have a0 : ¬ j = i := by omega
    have a1 : ¬ j = i + 1 := by omega
    have a2 : ¬ j = i + 2 := by omega
    have a3 : ¬ j = i + 3 := by omega
    have a4 : ¬ j = i + 4 := by omega
    have b1 : ¬ j + 1 = i + 2 := by omega
    have b2 : ¬ j + 1 = i + 3 := by omega
    have b3 : ¬ j + 2 = i + 1 := by omega
    have b4 : ¬ j + 2 = i + 3 := by omega
    have b5 : ¬ j + 3 = i + 1 := by omega
    have b6 : ¬ j + 3 = i + 2 := by omega
    have b7 : ¬ j + 4 = i + 1 := by omega
    have b8 : ¬ j + 4 = i + 2 := by omega
    have b9 : ¬ j + 4 = i + 3 := by omega
    refine h _ (((((((((((Fr.rf _ m).as (by simp)).as (by simp)).as (by simp)).as (by simp)).ms (by simp)).ms (by simp)).ms (by simp)).ms (by simp)).ms (by simp))) (fun k h1 h2 => ?_) (fun p hp => ⟨?_, ?_, ?_⟩) (fun p hp => ?_)
    · rcases (by omega : k = 4 ∨ k = 5 ∨ k = 6 ∨ k = 7 ∨ k = 8) with rfl | rfl | rfl | rfl | rfl <;> simp [mset, aset, a0, a1, a2, a3, a4]
    · simp [mset, aset, c8 _ _ p hp]
    · simp [mset, aset, c8 _ _ p hp, b3]
    · simp [mset, aset, c8 _ _ p hp, b5, b6]
    · simp [mset, aset, c5 _ _ p hp, b7, b8, b9]
theorem call_X5_become {E : ME} {Φ : Option AV → AM → Prop} {pc : Nat} {L : List (Option AV)} {st : List AV} {m : AM} {a : Nat × Nat} {idx : Nat} {x0 : AV} {i : Nat} (hl : Cond.methodLink E.2.1 idx yX5_become ∈ TB) (hdep : 1 + 1 ≤ E.2.2.2.2.2.2) (hroom : a.1 + 0 ≤ E.2.2.2.2.1 ∧ a.2 + 0 ≤ E.2.2.2.2.2.1) (hsr : st.length ≤ 4) (hd : decode E.1 pc = .ok (.invokevirtual idx, 3)) (hsp : Sp_X5_become [vr 5 i, x0] m (fun r m2 => B E Φ (pc + 3) L (r.toList ++ st) m2 a)) : B E Φ pc L (x0 :: vr 5 i :: st) m a := b_callV S_X5_become [x0] (RX5, TX5, 9) rfl rfl (by decide) (Or.inl hl) k590 k591 k72 k592 (show _ ∧ _ ∧ Option.map (fun d => d.parameters.length) (parseMethodDescriptor yX5_become.desc) = some 1 from by decide +kernel) ⟨hdep, by decide⟩ hroom hsr hd hsp
end
section
/-! gatherRules, goBack, turnRule, resume, open, utter -/
theorem StkR.bit {x : Int32} {C : Nat → Nat} (h : StkR x C) {r : Nat} (hr : r < 8) : (x >>> (nI r &&& 31)) &&& nI 1 = nI (if r < C 3 ∧ C (11 + 4 * r) = 1 then 1 else 0) := by
  obtain ⟨k, hk, rfl, hb⟩ := h
  rw [tbit_and1 _ _ (by omega) (by omega), hb r hr]
  simp
/-- what gatherRules has laid by the first n rules -/
def gaF (C : Nat → Nat) (sort n : Nat) : Nat → Int32 := fun f => if f < 6 then nI (madeF C sort f n) else 0
theorem gaF_step {C : Nat → Nat} {sort n : Nat} (hA : C (9 + 4 * n) < 6) (h1 : C (8 + 4 * n) = sort) (h2 : C (11 + 4 * n) = 0) : upd (gaF C sort n) (C (9 + 4 * n)) (gaF C sort n (C (9 + 4 * n)) ||| nI (2 ^ C (10 + 4 * n))) = gaF C sort (n + 1) := by
  funext f
  unfold upd gaF
  by_cases e : f = C (9 + 4 * n)
  · subst e
    rw [if_pos rfl, if_pos hA, if_pos hA, n_or]
    show _ = nI (if _ then _ else _)
    rw [if_pos ⟨⟨h1, h2⟩, rfl⟩]
  · rw [if_neg e]
    by_cases q : f < 6
    · rw [if_pos q, if_pos q]
      show _ = nI (if _ then _ else _)
      rw [if_neg (fun z => e z.2.symm)]
    · rw [if_neg q, if_neg q]
theorem gaF_skip {C : Nat → Nat} {sort n : Nat} (h : ¬ (C (8 + 4 * n) = sort ∧ C (11 + 4 * n) = 0)) : gaF C sort (n + 1) = gaF C sort n := by
  funext f
  unfold gaF
  by_cases q : f < 6
  · rw [if_pos q, if_pos q]
    show nI (if _ then _ else _) = _
    rw [if_neg (fun z => h z.1)]
  · rw [if_neg q, if_neg q]
theorem n_pow {k : Nat} (hk : k < 31) : nI 1 <<< (nI k &&& 31) = nI (2 ^ k) := by
  have h : 2 ^ k < 2 ^ 31 := Nat.pow_lt_pow_right (by omega) hk
  rw [n_shl (by omega) (by omega), Nat.shiftLeft_eq, Nat.one_mul]
abbrev e_X2_gatherRules : ME := (cX2_gatherRules, (RX2, (3, (none, (0, (0, 2))))))
theorem dX2_gatherRules_0 : decode cX2_gatherRules 0 = .ok (.aload_n 0, 1) := by decide +kernel
theorem dX2_gatherRules_1 : decode cX2_gatherRules 1 = .ok (.getfield 25, 3) := by decide +kernel
theorem dX2_gatherRules_4 : decode cX2_gatherRules 4 = .ok (.iconst 0, 1) := by decide +kernel
theorem dX2_gatherRules_5 : decode cX2_gatherRules 5 = .ok (.invokestatic 59, 3) := by decide +kernel
theorem dX2_gatherRules_8 : decode cX2_gatherRules 8 = .ok (.aload_n 0, 1) := by decide +kernel
theorem dX2_gatherRules_9 : decode cX2_gatherRules 9 = .ok (.getfield 29, 3) := by decide +kernel
theorem dX2_gatherRules_12 : decode cX2_gatherRules 12 = .ok (.iconst 0, 1) := by decide +kernel
theorem dX2_gatherRules_13 : decode cX2_gatherRules 13 = .ok (.invokestatic 59, 3) := by decide +kernel
theorem dX2_gatherRules_16 : decode cX2_gatherRules 16 = .ok (.aload_n 0, 1) := by decide +kernel
theorem dX2_gatherRules_17 : decode cX2_gatherRules 17 = .ok (.getfield 32, 3) := by decide +kernel
theorem dX2_gatherRules_20 : decode cX2_gatherRules 20 = .ok (.iconst (-1), 1) := by decide +kernel
theorem dX2_gatherRules_21 : decode cX2_gatherRules 21 = .ok (.invokestatic 59, 3) := by decide +kernel
theorem dX2_gatherRules_24 : decode cX2_gatherRules 24 = .ok (.iconst 0, 1) := by decide +kernel
theorem dX2_gatherRules_25 : decode cX2_gatherRules 25 = .ok (.istore_n 1, 1) := by decide +kernel
theorem dX2_gatherRules_26 : decode cX2_gatherRules 26 = .ok (.iload_n 1, 1) := by decide +kernel
theorem dX2_gatherRules_27 : decode cX2_gatherRules 27 = .ok (.aload_n 0, 1) := by decide +kernel
theorem dX2_gatherRules_28 : decode cX2_gatherRules 28 = .ok (.getfield 12, 3) := by decide +kernel
theorem dX2_gatherRules_31 : decode cX2_gatherRules 31 = .ok (.getfield 65, 3) := by decide +kernel
theorem dX2_gatherRules_34 : decode cX2_gatherRules 34 = .ok (.if_icmp .ge 76, 3) := by decide +kernel
theorem dX2_gatherRules_37 : decode cX2_gatherRules 37 = .ok (.aload_n 0, 1) := by decide +kernel
theorem dX2_gatherRules_38 : decode cX2_gatherRules 38 = .ok (.getfield 21, 3) := by decide +kernel
theorem dX2_gatherRules_41 : decode cX2_gatherRules 41 = .ok (.getfield 68, 3) := by decide +kernel
theorem dX2_gatherRules_44 : decode cX2_gatherRules 44 = .ok (.iload_n 1, 1) := by decide +kernel
theorem dX2_gatherRules_45 : decode cX2_gatherRules 45 = .ok (.ishr, 1) := by decide +kernel
theorem dX2_gatherRules_46 : decode cX2_gatherRules 46 = .ok (.iconst 1, 1) := by decide +kernel
theorem dX2_gatherRules_47 : decode cX2_gatherRules 47 = .ok (.iand, 1) := by decide +kernel
theorem dX2_gatherRules_48 : decode cX2_gatherRules 48 = .ok (.iconst 1, 1) := by decide +kernel
theorem dX2_gatherRules_49 : decode cX2_gatherRules 49 = .ok (.if_icmp .ne 6, 3) := by decide +kernel
theorem dX2_gatherRules_52 : decode cX2_gatherRules 52 = .ok (.goto 52, 3) := by decide +kernel
theorem dX2_gatherRules_55 : decode cX2_gatherRules 55 = .ok (.aload_n 0, 1) := by decide +kernel
theorem dX2_gatherRules_56 : decode cX2_gatherRules 56 = .ok (.getfield 12, 3) := by decide +kernel
theorem dX2_gatherRules_59 : decode cX2_gatherRules 59 = .ok (.getfield 71, 3) := by decide +kernel
theorem dX2_gatherRules_62 : decode cX2_gatherRules 62 = .ok (.iload_n 1, 1) := by decide +kernel
theorem dX2_gatherRules_63 : decode cX2_gatherRules 63 = .ok (.iaload, 1) := by decide +kernel
theorem dX2_gatherRules_64 : decode cX2_gatherRules 64 = .ok (.ifCond .ne 10, 3) := by decide +kernel
theorem dX2_gatherRules_67 : decode cX2_gatherRules 67 = .ok (.aload_n 0, 1) := by decide +kernel
theorem dX2_gatherRules_68 : decode cX2_gatherRules 68 = .ok (.getfield 25, 3) := by decide +kernel
theorem dX2_gatherRules_71 : decode cX2_gatherRules 71 = .ok (.goto 7, 3) := by decide +kernel
theorem dX2_gatherRules_74 : decode cX2_gatherRules 74 = .ok (.aload_n 0, 1) := by decide +kernel
theorem dX2_gatherRules_75 : decode cX2_gatherRules 75 = .ok (.getfield 29, 3) := by decide +kernel
theorem dX2_gatherRules_78 : decode cX2_gatherRules 78 = .ok (.astore_n 2, 1) := by decide +kernel
theorem dX2_gatherRules_79 : decode cX2_gatherRules 79 = .ok (.aload_n 2, 1) := by decide +kernel
theorem dX2_gatherRules_80 : decode cX2_gatherRules 80 = .ok (.aload_n 0, 1) := by decide +kernel
theorem dX2_gatherRules_81 : decode cX2_gatherRules 81 = .ok (.getfield 12, 3) := by decide +kernel
theorem dX2_gatherRules_84 : decode cX2_gatherRules 84 = .ok (.getfield 74, 3) := by decide +kernel
theorem dX2_gatherRules_87 : decode cX2_gatherRules 87 = .ok (.iload_n 1, 1) := by decide +kernel
theorem dX2_gatherRules_88 : decode cX2_gatherRules 88 = .ok (.iaload, 1) := by decide +kernel
theorem dX2_gatherRules_89 : decode cX2_gatherRules 89 = .ok (.dup2, 1) := by decide +kernel
theorem dX2_gatherRules_90 : decode cX2_gatherRules 90 = .ok (.iaload, 1) := by decide +kernel
theorem dX2_gatherRules_91 : decode cX2_gatherRules 91 = .ok (.iconst 1, 1) := by decide +kernel
theorem dX2_gatherRules_92 : decode cX2_gatherRules 92 = .ok (.aload_n 0, 1) := by decide +kernel
theorem dX2_gatherRules_93 : decode cX2_gatherRules 93 = .ok (.getfield 12, 3) := by decide +kernel
theorem dX2_gatherRules_96 : decode cX2_gatherRules 96 = .ok (.getfield 77, 3) := by decide +kernel
theorem dX2_gatherRules_99 : decode cX2_gatherRules 99 = .ok (.iload_n 1, 1) := by decide +kernel
theorem dX2_gatherRules_100 : decode cX2_gatherRules 100 = .ok (.iaload, 1) := by decide +kernel
theorem dX2_gatherRules_101 : decode cX2_gatherRules 101 = .ok (.ishl, 1) := by decide +kernel
theorem dX2_gatherRules_102 : decode cX2_gatherRules 102 = .ok (.ior, 1) := by decide +kernel
theorem dX2_gatherRules_103 : decode cX2_gatherRules 103 = .ok (.iastore, 1) := by decide +kernel
theorem dX2_gatherRules_104 : decode cX2_gatherRules 104 = .ok (.iinc 1 1, 3) := by decide +kernel
theorem dX2_gatherRules_107 : decode cX2_gatherRules 107 = .ok (.goto (-81), 3) := by decide +kernel
theorem dX2_gatherRules_110 : decode cX2_gatherRules 110 = .ok (.return_, 1) := by decide +kernel
def Sp_X2_gatherRules (av : List AV) (m : AM) (Φ : Option AV → AM → Prop) : Prop := av = [vr 2 20] ∧ ∃ C, VC C ∧ LawR m 21 C ∧ StkR (m.1 26 5) C ∧ ∀ m2, Fr [28, 29, 30] m m2 → MadR m2 C → CacR m2 C → Φ none m2
set_option maxRecDepth 20000 in
set_option maxHeartbeats 4000000 in
theorem S_X2_gatherRules : Snd yX2_gatherRules e_X2_gatherRules Sp_X2_gatherRules := by
  refine Snd.of (by decide +kernel) rfl ?_ ?_
  · rintro av m Φ ⟨rfl, _⟩; exact Nat.le_of_ble_eq_true rfl
  rintro av m Φ ⟨rfl, C, hv, hL, hS, h⟩ hav hty
  show B e_X2_gatherRules Φ 0 [some (vr 2 20), none, none] [] m (0, 0)
  have hr := hv.2.2.2.2.2.2.2.2.1
  have h8 := hv.2.2.2.1
  have h06 := hv.1.2
  have loop : ∀ n r o m2, C 3 + 1 ≤ r + n → r ≤ C 3 → Fr [28, 29, 30] m m2 → (∀ f, f < 6 → m2.1 28 f = gaF C 0 r f) → (∀ f, f < 6 → m2.1 29 f = gaF C 1 r f) → (∀ s, s < 64 → m2.1 30 s = -1) → B e_X2_gatherRules Φ 26 [some (vr 2 20), some (vi (nI r)), o] [] m2 (0, 0) := by
    intro n
    induction n with
    | zero => intro r o m2 h1 h2; omega
    | succ n ih =>
      intro r o m2 h1 h2 hf h28 h29 h30
      have f21 : m2.1 21 = m.1 21 := hf.2 21 (by decide)
      have f22 : m2.1 22 = m.1 22 := hf.2 22 (by decide)
      have f23 : m2.1 23 = m.1 23 := hf.2 23 (by decide)
      have f24 : m2.1 24 = m.1 24 := hf.2 24 (by decide)
      have f26 : m2.1 26 = m.1 26 := hf.2 26 (by decide)
      have skip : ¬ (C (8 + 4 * r) = 0 ∧ C (11 + 4 * r) = 0) → ¬ (C (8 + 4 * r) = 1 ∧ C (11 + 4 * r) = 0) → r < C 3 → ∀ o, B e_X2_gatherRules Φ 26 [some (vr 2 20), some (vi (nI (r + 1))), o] [] m2 (0, 0) := fun e1 e2 e3 o => ih (r + 1) o m2 (by omega) (by omega) hf (fun f q => by rw [gaF_skip e1]; exact h28 f q) (fun f q => by rw [gaF_skip e2]; exact h29 f q) h30
      have st79 : ∀ a sort, (a = 28 ∧ sort = 0 ∨ a = 29 ∧ sort = 1) → C (8 + 4 * r) = sort → C (11 + 4 * r) = 0 → r < C 3 → B e_X2_gatherRules Φ 79 [some (vr 2 20), some (vi (nI r)), some (vr 106 a)] [] m2 (0, 0) := by
        intro a sort ha hs hx hr3
        have hr1 := hr r hr3
        have ea : ∀ f, f < 6 → m2.1 a f = gaF C sort r f := by
          rcases ha with ⟨rfl, rfl⟩ | ⟨rfl, rfl⟩
          · exact h28
          · exact h29
        refine b_aloadN (pc := 79) 2 dX2_gatherRules_79 rfl rfl ?_
        refine b_aloadN (pc := 80) 0 dX2_gatherRules_80 rfl rfl ?_
        refine gf2_0 (pc := 81) 21 rfl k264 dX2_gatherRules_81 ?_
        refine gf5_1 (pc := 84) 23 rfl k131 dX2_gatherRules_84 ?_
        refine b_iloadN (pc := 87) 1 dX2_gatherRules_87 rfl rfl ?_
        refine b_iald (pc := 88) (by decide) ?_ dX2_gatherRules_88 ?_
        rotate_left -- leaf 0: index at 88
        refine b_dup2 (pc := 89) dX2_gatherRules_89 ?_
        refine b_iald (pc := 90) (by decide) ?_ dX2_gatherRules_90 ?_
        rotate_left -- leaf 1: index at 90
        refine b_iconst (pc := 91) (nI 1) dX2_gatherRules_91 (by decide) ?_
        refine b_aloadN (pc := 92) 0 dX2_gatherRules_92 rfl rfl ?_
        refine gf2_0 (pc := 93) 21 rfl k264 dX2_gatherRules_93 ?_
        refine gf5_2 (pc := 96) 24 rfl k134 dX2_gatherRules_96 ?_
        refine b_iloadN (pc := 99) 1 dX2_gatherRules_99 rfl rfl ?_
        refine b_iald (pc := 100) (by decide) ?_ dX2_gatherRules_100 ?_
        rotate_left -- leaf 2: index at 100
        refine b_ishl (pc := 101) dX2_gatherRules_101 ?_
        refine b_ior (pc := 102) dX2_gatherRules_102 ?_
        refine b_iast (pc := 103) (by decide) ?_ dX2_gatherRules_103 ?_
        rotate_left -- leaf 3: index at 103
        refine inc1 (pc := 104) notL_r (by decide) dX2_gatherRules_104 ?_
        refine b_goto (pc := 107) 26 dX2_gatherRules_107 (by decide) ?_
        rotate_left -- leaf 4: at 26
        -- leaves: 0 index at 88; 1 index at 90; 2 index at 100; 3 index at 103; 4 at 26
        · exact n_in (by omega) (by omega)
        · rw [n_cl (by omega), f23, (hL.2.2.2.2.1 r hr3).2.1]
          exact n_in (by omega) (by omega)
        · exact n_in (by omega) (by omega)
        · rw [n_cl (by omega), f23, (hL.2.2.2.2.1 r hr3).2.1]
          exact n_in (by omega) (by omega)
        · rw [n_cl (by omega), f23, (hL.2.2.2.2.1 r hr3).2.1, n_cl (by omega), f24, (hL.2.2.2.2.1 r hr3).2.2, n_pow (by omega), n_inc, ea _ (by omega)]
          have hst := gaF_step (C := C) (sort := sort) (n := r) (by omega) hs hx
          have key : ∀ f, f < 6 → (mset m2 a (C (9 + 4 * r)) (gaF C sort r (C (9 + 4 * r)) ||| nI (2 ^ C (10 + 4 * r)))).1 a f = gaF C sort (r + 1) f := by
            intro f q
            rw [mset_at, ← hst]
            unfold upd
            by_cases e : f = C (9 + 4 * r)
            · rw [if_pos e, if_pos e]
            · rw [if_neg e, if_neg e]; exact ea f q
          rcases ha with ⟨rfl, rfl⟩ | ⟨rfl, rfl⟩
          · refine ih (r + 1) _ _ (by omega) (by omega) (hf.ms (by simp)) key (fun f q => ?_) (fun s q => ?_)
            · rw [mset_ne _ _ _ (by decide), gaF_skip (by omega)]; exact h29 f q
            · rw [mset_ne _ _ _ (by decide)]; exact h30 s q
          · refine ih (r + 1) _ _ (by omega) (by omega) (hf.ms (by simp)) (fun f q => ?_) key (fun s q => ?_)
            · rw [mset_ne _ _ _ (by decide), gaF_skip (by omega)]; exact h28 f q
            · rw [mset_ne _ _ _ (by decide)]; exact h30 s q
      refine b_iloadN (pc := 26) 1 dX2_gatherRules_26 rfl rfl ?_
      refine b_aloadN (pc := 27) 0 dX2_gatherRules_27 rfl rfl ?_
      refine gf2_0 (pc := 28) 21 rfl k264 dX2_gatherRules_28 ?_
      refine gf5_7 (pc := 31) k157 dX2_gatherRules_31 ?_
      refine b_icmp_ge (pc := 34) 110 dX2_gatherRules_34 (by decide) (fun c34 => ?_) (fun c34 => ?_)
      refine b_vret (pc := 110) rfl dX2_gatherRules_110 ⟨Nat.le_of_ble_eq_true rfl, Nat.le_of_ble_eq_true rfl⟩ ?_
      rotate_left -- leaf 0: return at 110
      refine b_aloadN (pc := 37) 0 dX2_gatherRules_37 rfl rfl ?_
      refine gf2_1 (pc := 38) 26 rfl k270 dX2_gatherRules_38 ?_
      refine gf8_5 (pc := 41) k249 dX2_gatherRules_41 ?_
      refine b_iloadN (pc := 44) 1 dX2_gatherRules_44 rfl rfl ?_
      refine b_ishr (pc := 45) dX2_gatherRules_45 ?_
      refine b_iconst (pc := 46) (nI 1) dX2_gatherRules_46 (by decide) ?_
      refine b_iand (pc := 47) dX2_gatherRules_47 ?_
      refine b_iconst (pc := 48) (nI 1) dX2_gatherRules_48 (by decide) ?_
      refine b_icmp_ne (pc := 49) 55 dX2_gatherRules_49 (by decide) (fun c49 => ?_) (fun c49 => ?_)
      refine b_aloadN (pc := 55) 0 dX2_gatherRules_55 rfl rfl ?_
      refine gf2_0 (pc := 56) 21 rfl k264 dX2_gatherRules_56 ?_
      refine gf5_0 (pc := 59) 22 rfl k128 dX2_gatherRules_59 ?_
      refine b_iloadN (pc := 62) 1 dX2_gatherRules_62 rfl rfl ?_
      refine b_iald (pc := 63) (by decide) ?_ dX2_gatherRules_63 ?_
      rotate_left -- leaf 1: index at 63
      refine b_if_ne (pc := 64) 74 dX2_gatherRules_64 (by decide) (fun c64 => ?_) (fun c64 => ?_)
      refine b_aloadN (pc := 74) 0 dX2_gatherRules_74 rfl rfl ?_
      refine gf2_3 (pc := 75) 29 rfl k277 dX2_gatherRules_75 ?_
      refine saN2 (pc := 78) rfl notL_i (by decide) dX2_gatherRules_78 ?_
      rotate_left -- leaf 2: at 79
      refine b_aloadN (pc := 67) 0 dX2_gatherRules_67 rfl rfl ?_
      refine gf2_2 (pc := 68) 28 rfl k276 dX2_gatherRules_68 ?_
      refine b_goto (pc := 71) 78 dX2_gatherRules_71 (by decide) ?_
      refine saN2 (pc := 78) rfl notL_i (by decide) dX2_gatherRules_78 ?_
      rotate_left -- leaf 3: at 79
      refine b_goto (pc := 52) 104 dX2_gatherRules_52 (by decide) ?_
      refine inc1 (pc := 104) notL_r (by decide) dX2_gatherRules_104 ?_
      refine b_goto (pc := 107) 26 dX2_gatherRules_107 (by decide) ?_
      rotate_left -- leaf 4: at 26
      -- leaves: 0 return at 110; 1 index at 63; 2 at 79; 3 at 79; 4 at 26
      · rw [f21, hL.2.2.1, n_le (by omega) (by omega)] at c34
        have e : r = C 3 := by omega
        subst e
        refine h m2 hf (fun f q => ⟨?_, ?_⟩) (fun s q => Or.inl (h30 s q))
        · rw [h28 f q]; unfold gaF; rw [if_pos q]
        · rw [h29 f q]; unfold gaF; rw [if_pos q]
      · rw [f21, hL.2.2.1, n_le (by omega) (by omega)] at c34
        exact n_in (by omega) (by omega)
      · rw [f21, hL.2.2.1, n_le (by omega) (by omega)] at c34
        rw [f26, hS.bit (by omega)] at c49
        have hr1 := hr r (by omega)
        have h0 : C (11 + 4 * r) = 0 := by
          rcases hr1.2.2.2 with q | q
          · exact q
          · rw [if_pos ⟨by omega, q⟩] at c49; exact absurd rfl c49
        rw [n_cl (by omega), f22, (hL.2.2.2.2.1 r (by omega)).1, n_eq0 (by omega)] at c64
        exact st79 29 1 (Or.inr ⟨rfl, rfl⟩) (by omega) h0 (by omega)
      · rw [f21, hL.2.2.1, n_le (by omega) (by omega)] at c34
        rw [f26, hS.bit (by omega)] at c49
        have hr1 := hr r (by omega)
        have h0 : C (11 + 4 * r) = 0 := by
          rcases hr1.2.2.2 with q | q
          · exact q
          · rw [if_pos ⟨by omega, q⟩] at c49; exact absurd rfl c49
        rw [n_cl (by omega), f22, (hL.2.2.2.2.1 r (by omega)).1, n_eq0 (by omega)] at c64
        exact st79 28 0 (Or.inl ⟨rfl, rfl⟩) (by omega) h0 (by omega)
      · rw [f21, hL.2.2.1, n_le (by omega) (by omega)] at c34
        rw [f26, hS.bit (by omega)] at c49
        have h1 : C (11 + 4 * r) = 1 := by
          by_cases q : r < C 3 ∧ C (11 + 4 * r) = 1
          · exact q.2
          · rw [if_neg q] at c49; exact absurd c49 (by decide)
        rw [n_inc]
        exact skip (by omega) (by omega) (by omega) _
  refine b_aloadN (pc := 0) 0 dX2_gatherRules_0 rfl rfl ?_
  refine gf2_2 (pc := 1) 28 rfl k276 dX2_gatherRules_1 ?_
  refine b_iconst (pc := 4) (nI 0) dX2_gatherRules_4 (by decide) ?_
  refine call_J7_fill_53178 (pc := 5) k603 (by decide) ⟨Nat.le_of_ble_eq_true rfl, Nat.le_of_ble_eq_true rfl⟩ (Nat.le_of_ble_eq_true rfl) dX2_gatherRules_5 ?_
  refine ⟨_, _, _, rfl, ?_, ?_, ?_⟩
  exact Or.inr ⟨by decide, by decide⟩
  exact (Nat.le_of_ble_eq_true rfl)
  refine b_aloadN (pc := 8) 0 dX2_gatherRules_8 rfl rfl ?_
  refine gf2_3 (pc := 9) 29 rfl k277 dX2_gatherRules_9 ?_
  refine b_iconst (pc := 12) (nI 0) dX2_gatherRules_12 (by decide) ?_
  refine call_J7_fill_53178 (pc := 13) k603 (by decide) ⟨Nat.le_of_ble_eq_true rfl, Nat.le_of_ble_eq_true rfl⟩ (Nat.le_of_ble_eq_true rfl) dX2_gatherRules_13 ?_
  refine ⟨_, _, _, rfl, ?_, ?_, ?_⟩
  exact Or.inr ⟨by decide, by decide⟩
  exact (Nat.le_of_ble_eq_true rfl)
  refine b_aloadN (pc := 16) 0 dX2_gatherRules_16 rfl rfl ?_
  refine gf2_4 (pc := 17) 30 rfl k278 dX2_gatherRules_17 ?_
  refine b_iconst (pc := 20) (-1) dX2_gatherRules_20 (by decide) ?_
  refine call_J7_fill_53178 (pc := 21) k603 (by decide) ⟨Nat.le_of_ble_eq_true rfl, Nat.le_of_ble_eq_true rfl⟩ (Nat.le_of_ble_eq_true rfl) dX2_gatherRules_21 ?_
  refine ⟨_, _, _, rfl, ?_, ?_, ?_⟩
  exact Or.inr ⟨by decide, by decide⟩
  exact (Nat.le_of_ble_eq_true rfl)
  refine b_iconst (pc := 24) (nI 0) dX2_gatherRules_24 (by decide) ?_
  refine siN1 (pc := 25) rfl notL_r (by decide) dX2_gatherRules_25 ?_
  rotate_left -- leaf 0: at 26
  -- leaves: 0 at 26
  refine loop (C 3 + 1) 0 none _ (by omega) (by omega) ((((Fr.rf _ m).as (by simp)).as (by simp)).as (by simp)) (fun f q => ?_) (fun f q => ?_) (fun s q => ?_)
  · rw [aset_ne _ _ (by decide), aset_ne _ _ (by decide), aset_at]
    show (if f < 6 then nI 0 else _) = _
    unfold gaF
    rw [if_pos q, if_pos q]
    rfl
  · rw [aset_ne _ _ (by decide), aset_at]
    show (if f < 6 then nI 0 else _) = _
    unfold gaF
    rw [if_pos q, if_pos q]
    rfl
  · rw [aset_at]
    show (if s < 64 then (-1 : Int32) else _) = _
    rw [if_pos q]
theorem call_X2_gatherRules {E : ME} {Φ : Option AV → AM → Prop} {pc : Nat} {L : List (Option AV)} {st : List AV} {m : AM} {a : Nat × Nat} {idx : Nat} {i : Nat} (hl : Cond.methodLink E.2.1 idx yX2_gatherRules ∈ TB) (hdep : 2 + 1 ≤ E.2.2.2.2.2.2) (hroom : a.1 + 0 ≤ E.2.2.2.2.1 ∧ a.2 + 0 ≤ E.2.2.2.2.2.1) (hsr : st.length ≤ 4) (hd : decode E.1 pc = .ok (.invokevirtual idx, 3)) (hsp : Sp_X2_gatherRules [vr 2 i] m (fun r m2 => B E Φ (pc + 3) L (r.toList ++ st) m2 a)) : B E Φ pc L (vr 2 i :: st) m a := b_callV S_X2_gatherRules [] (RX2, TX2, 5) rfl rfl (by decide) (Or.inl hl) k601 k11 k73 k602 (show _ ∧ _ ∧ Option.map (fun d => d.parameters.length) (parseMethodDescriptor yX2_gatherRules.desc) = some 0 from by decide +kernel) ⟨hdep, by decide⟩ hroom hsr hd hsp
end
section
/-! courts of the same rules; goBack, turnRule, resume, open, utter -/
def sameR (C C2 : Nat → Nat) : Prop := C2 3 = C 3 ∧ ∀ j, 8 ≤ j → j < 40 → C2 j = C j
theorem madeF_cg {C C2 : Nat → Nat} (h : sameR C C2) (sort f : Nat) : ∀ n, n ≤ 8 → madeF C2 sort f n = madeF C sort f n
  | 0, _ => rfl
  | n + 1, hn => by
    have ih := madeF_cg h sort f n (by omega)
    show (if _ then _ else _) = if _ then _ else _
    rw [ih, h.2 (8 + 4 * n) (by omega) (by omega), h.2 (11 + 4 * n) (by omega) (by omega), h.2 (9 + 4 * n) (by omega) (by omega), h.2 (10 + 4 * n) (by omega) (by omega)]
theorem clStep_cg {C C2 : Nat → Nat} (h : sameR C C2) {k : Nat} (s : Nat) (hk : k < 8) : clStep C2 k s = clStep C k s := by
  unfold clStep
  rw [h.2 (8 + 4 * k) (by omega) (by omega), h.2 (11 + 4 * k) (by omega) (by omega), h.2 (9 + 4 * k) (by omega) (by omega), h.2 (10 + 4 * k) (by omega) (by omega)]
theorem clRound_cg {C C2 : Nat → Nat} (h : sameR C C2) : ∀ n s, n ≤ 8 → clRound C2 n s = clRound C n s
  | 0, s, _ => rfl
  | n + 1, s, hn => by
    show clStep C2 n (clRound C2 n s) = clStep C n (clRound C n s)
    rw [clRound_cg h n s (by omega), clStep_cg h _ (by omega)]
theorem clN_cg {C C2 : Nat → Nat} (h : sameR C C2) (h8 : C 3 ≤ 8) : ∀ t s, clN C2 t s = clN C t s
  | 0, s => rfl
  | t + 1, s => by
    show clRound C2 (C2 3) (clN C2 t s) = clRound C (C 3) (clN C t s)
    rw [clN_cg h h8 t s, h.1, clRound_cg h _ _ h8]
theorem canB_cg {C C2 : Nat → Nat} (h : sameR C C2) (s : Nat) : ∀ n, n ≤ 8 → canB C2 s n = canB C s n
  | 0, _ => rfl
  | n + 1, hn => by
    have ih := canB_cg h s n (by omega)
    show (_ && _) = (_ && _)
    rw [ih, h.2 (8 + 4 * n) (by omega) (by omega), h.2 (11 + 4 * n) (by omega) (by omega), h.2 (9 + 4 * n) (by omega) (by omega), h.2 (10 + 4 * n) (by omega) (by omega)]
theorem setN_cg {C C2 : Nat → Nat} (h : sameR C C2) (h8 : C 3 ≤ 8) (s : Nat) : setN C2 s = setN C s := by
  unfold setN canBe closedN
  rw [clN_cg h h8, h.1, canB_cg h _ _ h8]
theorem MadR.cg {m : AM} {C C2 : Nat → Nat} (h : sameR C C2) (h8 : C 3 ≤ 8) (hm : MadR m C) : MadR m C2 := fun f hf => by
  rw [h.1, madeF_cg h _ _ _ h8, madeF_cg h _ _ _ h8]
  exact hm f hf
theorem CacR.cg {m : AM} {C C2 : Nat → Nat} (h : sameR C C2) (h8 : C 3 ≤ 8) (hm : CacR m C) : CacR m C2 := fun s hs => by
  rw [setN_cg h h8]
  exact hm s hs
theorem StkR.cg {x : Int32} {C C2 : Nat → Nat} (h : sameR C C2) (h8 : C 3 ≤ 8) (hx : StkR x C) : StkR x C2 := by
  obtain ⟨k, hk, e, hb⟩ := hx
  refine ⟨k, hk, e, fun r hr => ?_⟩
  rw [h.1, h.2 (11 + 4 * r) (by omega) (by omega)]
  exact hb r hr
theorem upC_ne (C : Nat → Nat) {k j : Nat} (v : Nat) (h : j ≠ k) : upC C k v j = C j := by unfold upC; rw [if_neg h]
theorem upC_at (C : Nat → Nat) (k v : Nat) : upC C k v k = v := by unfold upC; rw [if_pos rfl]
abbrev e_X2_goBack : ME := (cX2_goBack, (RX2, (2, (none, (0, (0, 3))))))
theorem dX2_goBack_0 : decode cX2_goBack 0 = .ok (.aload_n 0, 1) := by decide +kernel
theorem dX2_goBack_1 : decode cX2_goBack 1 = .ok (.getfield 21, 3) := by decide +kernel
theorem dX2_goBack_4 : decode cX2_goBack 4 = .ok (.aload_n 1, 1) := by decide +kernel
theorem dX2_goBack_5 : decode cX2_goBack 5 = .ok (.invokevirtual 57, 3) := by decide +kernel
theorem dX2_goBack_8 : decode cX2_goBack 8 = .ok (.aload_n 0, 1) := by decide +kernel
theorem dX2_goBack_9 : decode cX2_goBack 9 = .ok (.invokevirtual 50, 3) := by decide +kernel
theorem dX2_goBack_12 : decode cX2_goBack 12 = .ok (.return_, 1) := by decide +kernel
def Sp_X2_goBack (av : List AV) (m : AM) (Φ : Option AV → AM → Prop) : Prop := ∃ j, av = [vr 2 20, vr 8 j] ∧ (26 ≠ j ∧ 27 ≠ j ∧ j + 1 ≠ 26) ∧ ∃ C, VC C ∧ LawR m 21 C ∧ StR m j C ∧ ∀ m2, Fr [26, 27, 28, 29, 30] m m2 → BR m2 C → Φ none m2
set_option maxRecDepth 20000 in
set_option maxHeartbeats 4000000 in
theorem S_X2_goBack : Snd yX2_goBack e_X2_goBack Sp_X2_goBack := by
  refine Snd.of (by decide +kernel) rfl ?_ ?_
  · rintro av m Φ ⟨j, rfl, _⟩; exact Nat.le_of_ble_eq_true rfl
  rintro av m Φ ⟨j, rfl, hj, C, hv, hL, hS, h⟩ hav hty
  show B e_X2_goBack Φ 0 [some (vr 2 20), some (vr 8 j)] [] m (0, 0)
  have st26 : ∀ m2, Fr [26, 26 + 1] m m2 → (∀ k, 1 ≤ k → k ≤ 5 → m2.1 26 k = m.1 j k) → (∀ p, p < 5 → m2.1 (26 + 1) p = m.1 (j + 1) p) → StR m2 26 C := by
    intro m2 h1 h2 h3
    unfold StR
    rw [h2 1 (by omega) (by omega), h2 2 (by omega) (by omega), h2 3 (by omega) (by omega), h2 4 (by omega) (by omega), h2 5 (by omega) (by omega)]
    refine ⟨hS.1, hS.2.1, hS.2.2.1, hS.2.2.2.1, hS.2.2.2.2.1, fun p hp => ?_⟩
    have := hv.2.2.2.2.1.2
    rw [h3 p (by omega)]
    exact hS.2.2.2.2.2 p hp
  have law : ∀ l m2, Fr l m m2 → 21 ∉ l → 22 ∉ l → 23 ∉ l → 24 ∉ l → 25 ∉ l → LawR m2 21 C := fun l m2 h1 a b c d e => hL.cg (h1.2 _ a) (h1.2 _ b) (h1.2 _ c) (h1.2 _ d) (h1.2 _ e)
  refine b_aloadN (pc := 0) 0 dX2_goBack_0 rfl rfl ?_
  refine gf2_1 (pc := 1) 26 rfl k270 dX2_goBack_1 ?_
  refine b_aloadN (pc := 4) 1 dX2_goBack_4 rfl rfl ?_
  refine call_X8_become (pc := 5) k633 (by decide) ⟨Nat.le_of_ble_eq_true rfl, Nat.le_of_ble_eq_true rfl⟩ (Nat.le_of_ble_eq_true rfl) dX2_goBack_5 ?_
  refine ⟨_, _, rfl, ?_, fun m5 fr5 st5 cl5 => ?_⟩
  rotate_left -- leaf 0: apart of X8_become at 5
  refine b_aloadN (pc := 8) 0 dX2_goBack_8 rfl rfl ?_
  refine call_X2_gatherRules (pc := 9) k599 (by decide) ⟨Nat.le_of_ble_eq_true rfl, Nat.le_of_ble_eq_true rfl⟩ (Nat.le_of_ble_eq_true rfl) dX2_goBack_9 ?_
  refine ⟨rfl, C, ?_, ?_, ?_, fun m9 fr9 md9 ca9 => ?_⟩
  rotate_left -- leaf 1: valid of X2_gatherRules at 9
  rotate_left -- leaf 2: law of X2_gatherRules at 9
  rotate_left -- leaf 3: struck of X2_gatherRules at 9
  refine b_vret (pc := 12) rfl dX2_goBack_12 ⟨Nat.le_of_ble_eq_true rfl, Nat.le_of_ble_eq_true rfl⟩ ?_
  rotate_left -- leaf 4: return at 12
  -- leaves: 0 apart of X8_become at 5; 1 valid of X2_gatherRules at 9; 2 law of X2_gatherRules at 9; 3 struck of X2_gatherRules at 9; 4 return at 12
  · exact ⟨hj.1, hj.2.1, hj.2.2⟩
  · exact hv
  · exact law _ _ fr5 (by decide) (by decide) (by decide) (by decide) (by decide)
  · exact (st26 m5 fr5 st5 cl5).2.2.2.2.1
  · have f := fr5.tr fr9
    refine h m9 (f.mono (by decide)) ⟨hv, law _ _ f (by decide) (by decide) (by decide) (by decide) (by decide), ?_, md9, ca9⟩
    exact (st26 m5 fr5 st5 cl5).cg (fr9.2 _ (by decide)) (fr9.2 _ (by decide))
theorem call_X2_goBack {E : ME} {Φ : Option AV → AM → Prop} {pc : Nat} {L : List (Option AV)} {st : List AV} {m : AM} {a : Nat × Nat} {idx : Nat} {x0 : AV} {i : Nat} (hl : Cond.methodLink E.2.1 idx yX2_goBack ∈ TB) (hdep : 3 + 1 ≤ E.2.2.2.2.2.2) (hroom : a.1 + 0 ≤ E.2.2.2.2.1 ∧ a.2 + 0 ≤ E.2.2.2.2.2.1) (hsr : st.length ≤ 4) (hd : decode E.1 pc = .ok (.invokevirtual idx, 3)) (hsp : Sp_X2_goBack [vr 2 i, x0] m (fun r m2 => B E Φ (pc + 3) L (r.toList ++ st) m2 a)) : B E Φ pc L (x0 :: vr 2 i :: st) m a := b_callV S_X2_goBack [x0] (RX2, TX2, 5) rfl rfl (by decide) (Or.inl hl) k630 k631 k73 k632 (show _ ∧ _ ∧ Option.map (fun d => d.parameters.length) (parseMethodDescriptor yX2_goBack.desc) = some 1 from by decide +kernel) ⟨hdep, by decide⟩ hroom hsr hd hsp
def sumS (C : Nat → Nat) : Nat → Nat
  | 0 => 0
  | k + 1 => sumS C k + C (11 + 4 * k)
/-- a rule struck, or standing again -/
def strN (C : Nat → Nat) (r on : Nat) : Nat → Nat := upC C (11 + 4 * r) on
theorem VC.str {C : Nat → Nat} (hv : VC C) {r on : Nat} (hr : r < C 3) (ho : on = 0 ∨ on = 1) : VC (strN C r on) := by
  have h8 := hv.2.2.2.1
  have e : ∀ j, j ≠ 11 + 4 * r → strN C r on j = C j := fun j hj => upC_ne C on hj
  obtain ⟨h0, h1, h2, h3, h4, h5, h7, h6, hr1, hp⟩ := hv
  unfold VC
  rw [e 0 (by omega), e 1 (by omega), e 2 (by omega), e 3 (by omega), e 4 (by omega), e 5 (by omega), e 6 (by omega), e 7 (by omega)]
  refine ⟨h0, h1, h2, h3, h4, h5, h7, h6, fun k hk => ?_, fun p hp1 => ?_⟩
  · rw [e (8 + 4 * k) (by omega), e (9 + 4 * k) (by omega), e (10 + 4 * k) (by omega)]
    have q := hr1 k hk
    refine ⟨q.1, q.2.1, q.2.2.1, ?_⟩
    by_cases z : k = r
    · subst z
      show strN C k on (11 + 4 * k) = 0 ∨ _
      unfold strN
      rw [upC_at]
      exact ho
    · rw [e (11 + 4 * k) (by omega)]
      exact q.2.2.2
  · rw [e (40 + 2 * p) (by omega), e (41 + 2 * p) (by omega)]
    exact hp p hp1
theorem pc8_sum {C : Nat → Nat} {k : Nat} (h8 : C 3 ≤ 8) (h01 : ∀ r, r < C 3 → C (11 + 4 * r) = 0 ∨ C (11 + 4 * r) = 1) (hb : ∀ r, r < 8 → k.testBit r = decide (r < C 3 ∧ C (11 + 4 * r) = 1)) : pc8 k = sumS C (C 3) := by
  have t : ∀ r, r < 8 → (k.testBit r).toNat = if r < C 3 then C (11 + 4 * r) else 0 := by
    intro r hr
    rw [hb r hr]
    by_cases q : r < C 3
    · rw [if_pos q]
      rcases h01 r q with e | e
      · rw [e]; simp
      · rw [e]; simp [q]
    · rw [if_neg q]; simp [q]
  unfold pc8 pc6
  rw [t 0 (by omega), t 1 (by omega), t 2 (by omega), t 3 (by omega), t 4 (by omega), t 5 (by omega), t 6 (by omega), t 7 (by omega)]
  have key : ∀ n, n ≤ 8 → C 3 = n → (if 0 < C 3 then C (11 + 4 * 0) else 0) + (if 1 < C 3 then C (11 + 4 * 1) else 0) + (if 2 < C 3 then C (11 + 4 * 2) else 0) + (if 3 < C 3 then C (11 + 4 * 3) else 0) + (if 4 < C 3 then C (11 + 4 * 4) else 0) + (if 5 < C 3 then C (11 + 4 * 5) else 0) + (if 6 < C 3 then C (11 + 4 * 6) else 0) + (if 7 < C 3 then C (11 + 4 * 7) else 0) = sumS C (C 3) := by
    intro n hn e
    rw [e]
    rcases (by omega : n = 0 ∨ n = 1 ∨ n = 2 ∨ n = 3 ∨ n = 4 ∨ n = 5 ∨ n = 6 ∨ n = 7 ∨ n = 8) with rfl | rfl | rfl | rfl | rfl | rfl | rfl | rfl | rfl <;> simp [sumS]
  exact key (C 3) h8 rfl
abbrev e_X2_turnRule : ME := (cX2_turnRule, (RX2, (2, ((some .int), (0, (0, 3))))))
theorem dX2_turnRule_0 : decode cX2_turnRule 0 = .ok (.aload_n 0, 1) := by decide +kernel
theorem dX2_turnRule_1 : decode cX2_turnRule 1 = .ok (.getfield 21, 3) := by decide +kernel
theorem dX2_turnRule_4 : decode cX2_turnRule 4 = .ok (.dup, 1) := by decide +kernel
theorem dX2_turnRule_5 : decode cX2_turnRule 5 = .ok (.getfield 68, 3) := by decide +kernel
theorem dX2_turnRule_8 : decode cX2_turnRule 8 = .ok (.iconst 1, 1) := by decide +kernel
theorem dX2_turnRule_9 : decode cX2_turnRule 9 = .ok (.iload_n 1, 1) := by decide +kernel
theorem dX2_turnRule_10 : decode cX2_turnRule 10 = .ok (.ishl, 1) := by decide +kernel
theorem dX2_turnRule_11 : decode cX2_turnRule 11 = .ok (.ixor, 1) := by decide +kernel
theorem dX2_turnRule_12 : decode cX2_turnRule 12 = .ok (.putfield 68, 3) := by decide +kernel
theorem dX2_turnRule_15 : decode cX2_turnRule 15 = .ok (.aload_n 0, 1) := by decide +kernel
theorem dX2_turnRule_16 : decode cX2_turnRule 16 = .ok (.invokevirtual 50, 3) := by decide +kernel
theorem dX2_turnRule_19 : decode cX2_turnRule 19 = .ok (.aload_n 0, 1) := by decide +kernel
theorem dX2_turnRule_20 : decode cX2_turnRule 20 = .ok (.getfield 21, 3) := by decide +kernel
theorem dX2_turnRule_23 : decode cX2_turnRule 23 = .ok (.getfield 68, 3) := by decide +kernel
theorem dX2_turnRule_26 : decode cX2_turnRule 26 = .ok (.invokestatic 80, 3) := by decide +kernel
theorem dX2_turnRule_29 : decode cX2_turnRule 29 = .ok (.ireturn, 1) := by decide +kernel
def Sp_X2_turnRule (av : List AV) (m : AM) (Φ : Option AV → AM → Prop) : Prop := ∃ x, av = [vr 2 20, vi x] ∧ ∃ C r, BR m C ∧ x = nI r ∧ r < C 3 ∧ ∀ m2, Fr [26, 28, 29, 30] m m2 → BR m2 (strN C r (1 - C (11 + 4 * r))) → Φ (some (vi (nI (sumS (strN C r (1 - C (11 + 4 * r))) (C 3))))) m2
set_option maxRecDepth 20000 in
set_option maxHeartbeats 4000000 in
theorem S_X2_turnRule : Snd yX2_turnRule e_X2_turnRule Sp_X2_turnRule := by
  refine Snd.of (by decide +kernel) rfl ?_ ?_
  · rintro av m Φ ⟨x, rfl, _⟩; exact Nat.le_of_ble_eq_true rfl
  rintro av m Φ ⟨x, rfl, C, r, hB, rfl, hr, h⟩ hav hty
  show B e_X2_turnRule Φ 0 [some (vr 2 20), some (vi (nI r))] [] m (0, 0)
  obtain ⟨hv, hL, hS, hM, hC⟩ := hB
  have h8 := hv.2.2.2.1
  have h01 := (hv.2.2.2.2.2.2.2.2.1 r hr).2.2.2
  have hv2 := hv.str (r := r) (on := 1 - C (11 + 4 * r)) hr (by omega)
  obtain ⟨k, hk, hx, hb⟩ := hS.2.2.2.2.1
  have hk2 : k ^^^ 2 ^ r < 256 := by
    have : 2 ^ r < 2 ^ 8 := Nat.pow_lt_pow_right (by omega) (by omega)
    exact Nat.xor_lt_two_pow (n := 8) hk this
  have e3 : strN C r (1 - C (11 + 4 * r)) 3 = C 3 := upC_ne C _ (by omega)
  have eC : ∀ j, j ≠ 11 + 4 * r → strN C r (1 - C (11 + 4 * r)) j = C j := fun j hj => upC_ne C _ hj
  have hb2 : ∀ q, q < 8 → (k ^^^ 2 ^ r).testBit q = decide (q < strN C r (1 - C (11 + 4 * r)) 3 ∧ strN C r (1 - C (11 + 4 * r)) (11 + 4 * q) = 1) := by
    intro q hq
    rw [Nat.testBit_xor, Nat.testBit_two_pow, hb q hq, e3]
    by_cases z : r = q
    · subst z
      rw [show strN C r (1 - C (11 + 4 * r)) (11 + 4 * r) = 1 - C (11 + 4 * r) from upC_at C _ _]
      rcases h01 with e | e
      · rw [e]; simp [hr]
      · rw [e]; simp [hr]
    · rw [eC (11 + 4 * q) (by omega)]
      simp [z]
  have law2 : ∀ m2, (∀ a, 21 ≤ a → a ≤ 25 → m2.1 a = m.1 a) → LawR m2 21 (strN C r (1 - C (11 + 4 * r))) := by
    intro m2 q
    have hL2 : LawR m2 21 C := hL.cg (q _ (by omega) (by omega)) (q _ (by omega) (by omega)) (q _ (by omega) (by omega)) (q _ (by omega) (by omega)) (q _ (by omega) (by omega))
    unfold LawR
    rw [eC 0 (by omega), eC 2 (by omega), e3, eC 4 (by omega)]
    refine ⟨hL2.1, hL2.2.1, hL2.2.2.1, hL2.2.2.2.1, fun j hj => ?_, fun p hp => ?_⟩
    · rw [eC (8 + 4 * j) (by omega), eC (9 + 4 * j) (by omega), eC (10 + 4 * j) (by omega)]
      exact hL2.2.2.2.2.1 j hj
    · rw [eC (40 + 2 * p) (by omega)]
      exact hL2.2.2.2.2.2 p hp
  refine b_aloadN (pc := 0) 0 dX2_turnRule_0 rfl rfl ?_
  refine gf2_1 (pc := 1) 26 rfl k270 dX2_turnRule_1 ?_
  refine b_dup_r (pc := 4) dX2_turnRule_4 ?_
  refine gf8_5 (pc := 5) k249 dX2_turnRule_5 ?_
  refine b_iconst (pc := 8) (nI 1) dX2_turnRule_8 (by decide) ?_
  refine b_iloadN (pc := 9) 1 dX2_turnRule_9 rfl rfl ?_
  refine b_ishl (pc := 10) dX2_turnRule_10 ?_
  refine b_ixor (pc := 11) dX2_turnRule_11 ?_
  refine pf8_5 (pc := 12) k249 dX2_turnRule_12 ?_
  refine b_aloadN (pc := 15) 0 dX2_turnRule_15 rfl rfl ?_
  refine call_X2_gatherRules (pc := 16) k599 (by decide) ⟨Nat.le_of_ble_eq_true rfl, Nat.le_of_ble_eq_true rfl⟩ (Nat.le_of_ble_eq_true rfl) dX2_turnRule_16 ?_
  refine ⟨rfl, strN C r (1 - C (11 + 4 * r)), ?_, ?_, ?_, fun m16 fr16 md16 ca16 => ?_⟩
  rotate_left -- leaf 0: valid of X2_gatherRules at 16
  rotate_left -- leaf 1: law of X2_gatherRules at 16
  rotate_left -- leaf 2: struck of X2_gatherRules at 16
  refine b_aloadN (pc := 19) 0 dX2_turnRule_19 rfl rfl ?_
  refine gf2_1 (pc := 20) 26 rfl k270 dX2_turnRule_20 ?_
  refine gf8_5 (pc := 23) k249 dX2_turnRule_23 ?_
  refine call_J6_bitCount_0f7a4 (pc := 26) k691 (by decide) ⟨Nat.le_of_ble_eq_true rfl, Nat.le_of_ble_eq_true rfl⟩ (Nat.le_of_ble_eq_true rfl) dX2_turnRule_26 ?_
  refine ⟨_, rfl, k ^^^ 2 ^ r, ?_, ?_, ?_⟩
  rotate_left -- leaf 3: arg of J6_bitCount_0f7a4 at 26
  rotate_left -- leaf 4: bound of J6_bitCount_0f7a4 at 26
  refine b_iret (pc := 29) rfl dX2_turnRule_29 ⟨Nat.le_of_ble_eq_true rfl, Nat.le_of_ble_eq_true rfl⟩ ?_
  rotate_left -- leaf 5: return at 29
  -- leaves: 0 valid of X2_gatherRules at 16; 1 law of X2_gatherRules at 16; 2 struck of X2_gatherRules at 16; 3 arg of J6_bitCount_0f7a4 at 26; 4 bound of J6_bitCount_0f7a4 at 26; 5 return at 29
  · exact hv2
  · exact law2 _ (fun a h1 h2 => mset_ne m _ _ (by omega))
  · rw [mset_at, if_pos rfl, n_pow (by omega), hx, n_xor]
    exact ⟨_, hk2, rfl, hb2⟩
  · rw [fr16.2 26 (by decide), mset_at, if_pos rfl, n_pow (by omega), hx, n_xor]
  · exact hk2
  · rw [pc8_sum (C := strN C r (1 - C (11 + 4 * r))) (by rw [e3]; exact h8) (fun q hq => (hv2.2.2.2.2.2.2.2.2.1 q hq).2.2.2) hb2, e3]
    have f26 : m16.1 26 = _ := fr16.2 26 (by decide)
    refine h m16 (((((Fr.rf [26] m).ms (by simp)).tr fr16)).mono (by decide)) ⟨hv2, law2 _ (fun a h1 h2 => ?_), ?_, md16, ca16⟩
    · rw [fr16.2 a (by simp; omega)]
      exact mset_ne m _ _ (by omega)
    · unfold StR
      rw [f26, mset_at, mset_at, mset_at, mset_at, mset_at, if_neg (by decide), if_neg (by decide), if_neg (by decide), if_neg (by decide), if_pos rfl, n_pow (by omega), hx, n_xor]
      rw [eC 1 (by omega), eC 5 (by omega), eC 7 (by omega), eC 6 (by omega), eC 4 (by omega)]
      refine ⟨hS.1, hS.2.1, hS.2.2.1, hS.2.2.2.1, ⟨_, hk2, rfl, hb2⟩, fun p hp => ?_⟩
      rw [fr16.2 (26 + 1) (by decide), mset_ne _ _ _ (by decide), eC (41 + 2 * p) (by have := hv.2.2.2.2.1.2; omega)]
      exact hS.2.2.2.2.2 p hp
theorem call_X2_turnRule {E : ME} {Φ : Option AV → AM → Prop} {pc : Nat} {L : List (Option AV)} {st : List AV} {m : AM} {a : Nat × Nat} {idx : Nat} {x0 : AV} {i : Nat} (hl : Cond.methodLink E.2.1 idx yX2_turnRule ∈ TB) (hdep : 3 + 1 ≤ E.2.2.2.2.2.2) (hroom : a.1 + 0 ≤ E.2.2.2.2.1 ∧ a.2 + 0 ≤ E.2.2.2.2.2.1) (hsr : st.length ≤ 4) (hd : decode E.1 pc = .ok (.invokevirtual idx, 3)) (hsp : Sp_X2_turnRule [vr 2 i, x0] m (fun r m2 => B E Φ (pc + 3) L (r.toList ++ st) m2 a)) : B E Φ pc L (x0 :: vr 2 i :: st) m a := b_callV S_X2_turnRule [x0] (RX2, TX2, 5) rfl rfl (by decide) (Or.inl hl) k713 k714 k73 k715 (show _ ∧ _ ∧ Option.map (fun d => d.parameters.length) (parseMethodDescriptor yX2_turnRule.desc) = some 1 from by decide +kernel) ⟨hdep, by decide⟩ hroom hsr hd hsp
end
section
/-! resume, open, utter -/
theorem LawR.copy {m m2 : AM} {i j : Nat} {C : Nat → Nat} (hv : VC C) (h : LawR m j C) (h1 : ∀ k, 4 ≤ k → k ≤ 8 → m2.1 i k = m.1 j k) (h2 : ∀ p, p < 8 → m2.1 (i + 1) p = m.1 (j + 1) p ∧ m2.1 (i + 2) p = m.1 (j + 2) p ∧ m2.1 (i + 3) p = m.1 (j + 3) p) (h3 : ∀ p, p < 5 → m2.1 (i + 4) p = m.1 (j + 4) p) : LawR m2 i C := by
  have h8 := hv.2.2.2.1
  have h5 := hv.2.2.2.2.1.2
  unfold LawR
  rw [h1 4 (by omega) (by omega), h1 6 (by omega) (by omega), h1 7 (by omega) (by omega), h1 8 (by omega) (by omega)]
  refine ⟨h.1, h.2.1, h.2.2.1, h.2.2.2.1, fun r hr => ?_, fun p hp => ?_⟩
  · have q := h2 r (by omega)
    rw [q.1, q.2.1, q.2.2]
    exact h.2.2.2.2.1 r hr
  · rw [h3 p (by omega)]
    exact h.2.2.2.2.2 p hp
abbrev e_X2_resume : ME := (cX2_resume, (RX2, (3, (none, (0, (0, 4))))))
theorem dX2_resume_0 : decode cX2_resume 0 = .ok (.aload_n 0, 1) := by decide +kernel
theorem dX2_resume_1 : decode cX2_resume 1 = .ok (.getfield 12, 3) := by decide +kernel
theorem dX2_resume_4 : decode cX2_resume 4 = .ok (.aload_n 1, 1) := by decide +kernel
theorem dX2_resume_5 : decode cX2_resume 5 = .ok (.invokevirtual 39, 3) := by decide +kernel
theorem dX2_resume_8 : decode cX2_resume 8 = .ok (.aload_n 0, 1) := by decide +kernel
theorem dX2_resume_9 : decode cX2_resume 9 = .ok (.aload_n 2, 1) := by decide +kernel
theorem dX2_resume_10 : decode cX2_resume 10 = .ok (.invokevirtual 53, 3) := by decide +kernel
theorem dX2_resume_13 : decode cX2_resume 13 = .ok (.return_, 1) := by decide +kernel
def Sp_X2_resume (av : List AV) (m : AM) (Φ : Option AV → AM → Prop) : Prop := ∃ j k, av = [vr 2 20, vr 5 j, vr 8 k] ∧ (25 < j ∧ 30 < k) ∧ ∃ C, VC C ∧ LawR m j C ∧ StR m k C ∧ ∀ m2, Fr [21, 22, 23, 24, 25, 26, 27, 28, 29, 30] m m2 → BR m2 C → Φ none m2
set_option maxRecDepth 20000 in
set_option maxHeartbeats 4000000 in
theorem S_X2_resume : Snd yX2_resume e_X2_resume Sp_X2_resume := by
  refine Snd.of (by decide +kernel) rfl ?_ ?_
  · rintro av m Φ ⟨j, k, rfl, _⟩; exact Nat.le_of_ble_eq_true rfl
  rintro av m Φ ⟨j, k, rfl, hjk, C, hv, hL, hS, h⟩ hav hty
  show B e_X2_resume Φ 0 [some (vr 2 20), some (vr 5 j), some (vr 8 k)] [] m (0, 0)
  refine b_aloadN (pc := 0) 0 dX2_resume_0 rfl rfl ?_
  refine gf2_0 (pc := 1) 21 rfl k264 dX2_resume_1 ?_
  refine b_aloadN (pc := 4) 1 dX2_resume_4 rfl rfl ?_
  refine call_X5_become (pc := 5) k589 (by decide) ⟨Nat.le_of_ble_eq_true rfl, Nat.le_of_ble_eq_true rfl⟩ (Nat.le_of_ble_eq_true rfl) dX2_resume_5 ?_
  refine ⟨_, _, rfl, ?_, fun m5 fr5 st5 ru5 pe5 => ?_⟩
  rotate_left -- leaf 0: apart of X5_become at 5
  refine b_aloadN (pc := 8) 0 dX2_resume_8 rfl rfl ?_
  refine b_aloadN (pc := 9) 2 dX2_resume_9 rfl rfl ?_
  refine call_X2_goBack (pc := 10) k977 (by decide) ⟨Nat.le_of_ble_eq_true rfl, Nat.le_of_ble_eq_true rfl⟩ (Nat.le_of_ble_eq_true rfl) dX2_resume_10 ?_
  refine ⟨_, rfl, ?_, C, ?_, ?_, ?_, fun m10 fr10 hB10 => ?_⟩
  rotate_left -- leaf 1: apart of X2_goBack at 10
  rotate_left -- leaf 2: valid of X2_goBack at 10
  rotate_left -- leaf 3: law of X2_goBack at 10
  rotate_left -- leaf 4: standing of X2_goBack at 10
  refine b_vret (pc := 13) rfl dX2_resume_13 ⟨Nat.le_of_ble_eq_true rfl, Nat.le_of_ble_eq_true rfl⟩ ?_
  rotate_left -- leaf 5: return at 13
  -- leaves: 0 apart of X5_become at 5; 1 apart of X2_goBack at 10; 2 valid of X2_goBack at 10; 3 law of X2_goBack at 10; 4 standing of X2_goBack at 10; 5 return at 13
  · omega
  · omega
  · exact hv
  · exact hL.copy hv st5 ru5 pe5
  · exact hS.cg (fr5.2 _ (by simp; omega)) (fr5.2 _ (by simp; omega))
  · exact h m10 ((fr5.tr fr10).mono (by decide)) hB10
theorem call_X2_resume {E : ME} {Φ : Option AV → AM → Prop} {pc : Nat} {L : List (Option AV)} {st : List AV} {m : AM} {a : Nat × Nat} {idx : Nat} {x0 x1 : AV} {i : Nat} (hl : Cond.methodLink E.2.1 idx yX2_resume ∈ TB) (hdep : 4 + 1 ≤ E.2.2.2.2.2.2) (hroom : a.1 + 0 ≤ E.2.2.2.2.1 ∧ a.2 + 0 ≤ E.2.2.2.2.2.1) (hsr : st.length ≤ 4) (hd : decode E.1 pc = .ok (.invokevirtual idx, 3)) (hsp : Sp_X2_resume [vr 2 i, x0, x1] m (fun r m2 => B E Φ (pc + 3) L (r.toList ++ st) m2 a)) : B E Φ pc L (x1 :: x0 :: vr 2 i :: st) m a := b_callV S_X2_resume [x0, x1] (RX2, TX2, 5) rfl rfl (by decide) (Or.inl hl) k974 k975 k73 k976 (show _ ∧ _ ∧ Option.map (fun d => d.parameters.length) (parseMethodDescriptor yX2_resume.desc) = some 2 from by decide +kernel) ⟨hdep, by decide⟩ hroom hsr hd hsp
abbrev e_X2_open : ME := (cX2_open, (RX2, (2, (none, (0, (0, 3))))))
theorem dX2_open_0 : decode cX2_open 0 = .ok (.aload_n 0, 1) := by decide +kernel
theorem dX2_open_1 : decode cX2_open 1 = .ok (.getfield 12, 3) := by decide +kernel
theorem dX2_open_4 : decode cX2_open 4 = .ok (.aload_n 1, 1) := by decide +kernel
theorem dX2_open_5 : decode cX2_open 5 = .ok (.invokevirtual 39, 3) := by decide +kernel
theorem dX2_open_8 : decode cX2_open 8 = .ok (.aload_n 0, 1) := by decide +kernel
theorem dX2_open_9 : decode cX2_open 9 = .ok (.getfield 21, 3) := by decide +kernel
theorem dX2_open_12 : decode cX2_open 12 = .ok (.aload_n 1, 1) := by decide +kernel
theorem dX2_open_13 : decode cX2_open 13 = .ok (.getfield 43, 3) := by decide +kernel
theorem dX2_open_16 : decode cX2_open 16 = .ok (.invokevirtual 46, 3) := by decide +kernel
theorem dX2_open_19 : decode cX2_open 19 = .ok (.aload_n 0, 1) := by decide +kernel
theorem dX2_open_20 : decode cX2_open 20 = .ok (.invokevirtual 50, 3) := by decide +kernel
theorem dX2_open_23 : decode cX2_open 23 = .ok (.return_, 1) := by decide +kernel
def Sp_X2_open (av : List AV) (m : AM) (Φ : Option AV → AM → Prop) : Prop := av = [vr 2 20, vr 5 14] ∧ ∃ C, VC C ∧ LawR m 14 C ∧ m.1 14 5 = nI (C 1) ∧ (C 5 = 0 ∧ C 6 = 0 ∧ C 7 = 0) ∧ (∀ p, p < C 4 → C (41 + 2 * p) = 0) ∧ (∀ r, r < C 3 → C (11 + 4 * r) = 0) ∧ ∀ m2, Fr [21, 22, 23, 24, 25, 26, 27, 28, 29, 30] m m2 → BR m2 C → Φ none m2
set_option maxRecDepth 20000 in
set_option maxHeartbeats 4000000 in
theorem S_X2_open : Snd yX2_open e_X2_open Sp_X2_open := by
  refine Snd.of (by decide +kernel) rfl ?_ ?_
  · rintro av m Φ ⟨rfl, _⟩; exact Nat.le_of_ble_eq_true rfl
  rintro av m Φ ⟨rfl, C, hv, hL, hat, h0, hce, hsk, h⟩ hav hty
  show B e_X2_open Φ 0 [some (vr 2 20), some (vr 5 14)] [] m (0, 0)
  have stk : ∀ x : Int32, x = nI 0 → StkR x C := fun x hx => ⟨0, by omega, hx, fun r hr => by
    rw [Nat.zero_testBit]
    by_cases q : r < C 3
    · rw [hsk r q]; simp
    · simp [q]⟩
  refine b_aloadN (pc := 0) 0 dX2_open_0 rfl rfl ?_
  refine gf2_0 (pc := 1) 21 rfl k264 dX2_open_1 ?_
  refine b_aloadN (pc := 4) 1 dX2_open_4 rfl rfl ?_
  refine call_X5_become (pc := 5) k589 (by decide) ⟨Nat.le_of_ble_eq_true rfl, Nat.le_of_ble_eq_true rfl⟩ (Nat.le_of_ble_eq_true rfl) dX2_open_5 ?_
  refine ⟨_, _, rfl, ?_, fun m5 fr5 st5 ru5 pe5 => ?_⟩
  rotate_left -- leaf 0: apart of X5_become at 5
  refine b_aloadN (pc := 8) 0 dX2_open_8 rfl rfl ?_
  refine gf2_1 (pc := 9) 26 rfl k270 dX2_open_9 ?_
  refine b_aloadN (pc := 12) 1 dX2_open_12 rfl rfl ?_
  refine gf5_5 (pc := 13) k149 dX2_open_13 ?_
  refine call_X8_begin (pc := 16) k594 (by decide) ⟨Nat.le_of_ble_eq_true rfl, Nat.le_of_ble_eq_true rfl⟩ (Nat.le_of_ble_eq_true rfl) dX2_open_16 ?_
  refine ⟨_, _, rfl, fun m16 fr16 so16 st16 cl16 => ?_⟩
  refine b_aloadN (pc := 19) 0 dX2_open_19 rfl rfl ?_
  refine call_X2_gatherRules (pc := 20) k599 (by decide) ⟨Nat.le_of_ble_eq_true rfl, Nat.le_of_ble_eq_true rfl⟩ (Nat.le_of_ble_eq_true rfl) dX2_open_20 ?_
  refine ⟨rfl, C, ?_, ?_, ?_, fun m20 fr20 md20 ca20 => ?_⟩
  rotate_left -- leaf 1: valid of X2_gatherRules at 20
  rotate_left -- leaf 2: law of X2_gatherRules at 20
  rotate_left -- leaf 3: struck of X2_gatherRules at 20
  refine b_vret (pc := 23) rfl dX2_open_23 ⟨Nat.le_of_ble_eq_true rfl, Nat.le_of_ble_eq_true rfl⟩ ?_
  rotate_left -- leaf 4: return at 23
  -- leaves: 0 apart of X5_become at 5; 1 valid of X2_gatherRules at 20; 2 law of X2_gatherRules at 20; 3 struck of X2_gatherRules at 20; 4 return at 23
  · omega
  · exact hv
  · exact (hL.copy hv st5 ru5 pe5).cg (fr16.2 _ (by decide)) (fr16.2 _ (by decide)) (fr16.2 _ (by decide)) (fr16.2 _ (by decide)) (fr16.2 _ (by decide))
  · exact stk _ (st16 5 (by omega) (by omega))
  · refine h m20 (((fr5.tr fr16).tr fr20).mono (by decide)) ⟨hv, ((hL.copy hv st5 ru5 pe5).cg (fr16.2 _ (by decide)) (fr16.2 _ (by decide)) (fr16.2 _ (by decide)) (fr16.2 _ (by decide)) (fr16.2 _ (by decide))).cg (fr20.2 _ (by decide)) (fr20.2 _ (by decide)) (fr20.2 _ (by decide)) (fr20.2 _ (by decide)) (fr20.2 _ (by decide)), ?_, md20, ca20⟩
    refine StR.cg (m := m16) (fr20.2 _ (by decide)) (fr20.2 _ (by decide)) ?_
    unfold StR
    rw [so16, st16 2 (by omega) (by omega), st16 3 (by omega) (by omega), st16 4 (by omega) (by omega), fr5.2 14 (by decide), hat, h0.1, h0.2.1, h0.2.2]
    refine ⟨rfl, rfl, rfl, rfl, stk _ (st16 5 (by omega) (by omega)), fun p hp => ?_⟩
    have := hv.2.2.2.2.1.2
    rw [cl16 p (by omega), hce p hp]
theorem call_X2_open {E : ME} {Φ : Option AV → AM → Prop} {pc : Nat} {L : List (Option AV)} {st : List AV} {m : AM} {a : Nat × Nat} {idx : Nat} {x0 : AV} {i : Nat} (hl : Cond.methodLink E.2.1 idx yX2_open ∈ TB) (hdep : 3 + 1 ≤ E.2.2.2.2.2.2) (hroom : a.1 + 0 ≤ E.2.2.2.2.1 ∧ a.2 + 0 ≤ E.2.2.2.2.2.1) (hsr : st.length ≤ 4) (hd : decode E.1 pc = .ok (.invokevirtual idx, 3)) (hsp : Sp_X2_open [vr 2 i, x0] m (fun r m2 => B E Φ (pc + 3) L (r.toList ++ st) m2 a)) : B E Φ pc L (x0 :: vr 2 i :: st) m a := b_callV S_X2_open [x0] (RX2, TX2, 5) rfl rfl (by decide) (Or.inl hl) k586 k587 k73 k588 (show _ ∧ _ ∧ Option.map (fun d => d.parameters.length) (parseMethodDescriptor yX2_open.desc) = some 1 from by decide +kernel) ⟨hdep, by decide⟩ hroom hsr hd hsp
/-- the court behind a saying k of p, and the answer -/
def sayC (C : Nat → Nat) (p k : Nat) : Nat → Nat := match outN C (C (40 + 2 * p)) (C 1) (C 5) k with
  | none => upC (upC (upC C 5 (C 5 ||| 2 ^ (k / 2))) 7 (C 7 + 1)) (41 + 2 * p) (C (41 + 2 * p) + 1)
  | some v => upC (upC (upC (upC C 5 (C 5 ||| 2 ^ (k / 2))) 7 (C 7 + 1)) 6 (C 6 + C 2 * pc6 (C 1 ^^^ v))) 1 v
def sayO (C : Nat → Nat) (p k : Nat) : Int32 := oI (outN C (C (40 + 2 * p)) (C 1) (C 5) k)
theorem or_lt_pow {a b n : Nat} (ha : a < 2 ^ n) (hb : b < n) : a ||| 2 ^ b < 2 ^ n := Nat.or_lt_two_pow ha (Nat.pow_lt_pow_right (by omega) hb)
theorem VC.c1 {C : Nat → Nat} (hv : VC C) : C 1 < 64 := by
  have h : 2 ^ C 0 ≤ 2 ^ 6 := Nat.pow_le_pow_right (by omega) hv.1.2
  have := hv.2.1
  omega
theorem VC.c5 {C : Nat → Nat} (hv : VC C) : C 5 < 64 := by
  have h : 2 ^ C 0 ≤ 2 ^ 6 := Nat.pow_le_pow_right (by omega) hv.1.2
  have := hv.2.2.2.2.2.1
  omega
/-- bits below n -/
def below (n s : Nat) : Prop := ∀ i, s.testBit i = true → i < n
theorem below_lt {n s : Nat} (h : below n s) : s < 2 ^ n := by
  refine Nat.lt_pow_two_of_testBit s (fun i hi => ?_)
  cases e : s.testBit i
  · rfl
  · have := h i e; omega
theorem lt_below {n s : Nat} (h : s < 2 ^ n) : below n s := fun i hi => by
  rcases Nat.lt_or_ge i n with q | q
  · exact q
  · have := Nat.testBit_lt_two_pow (x := s) (i := i) (Nat.lt_of_lt_of_le h (Nat.pow_le_pow_right (by omega) q))
    rw [this] at hi; cases hi
theorem sub_full {n s : Nat} (h : s < 2 ^ n) : sub s (2 ^ n - 1) := fun i hi => by
  rw [Nat.testBit_two_pow_sub_one]
  exact decide_eq_true (lt_below h i hi)
theorem full_sub {n s : Nat} (h : sub s (2 ^ n - 1)) : s < 2 ^ n := below_lt fun i hi => by
  have := h i hi
  rw [Nat.testBit_two_pow_sub_one] at this
  exact of_decide_eq_true this
theorem closed_lt {C : Nat → Nat} (hv : VC C) {s : Nat} (h : s < 2 ^ C 0) : closedN C s < 2 ^ C 0 := by
  refine full_sub (clN_le (fun k hk _ _ => ?_) 6 s (sub_full h))
  rw [Nat.testBit_two_pow_sub_one]
  exact decide_eq_true (hv.2.2.2.2.2.2.2.2.1 k hk).2.2.1
theorem set_lt {C : Nat → Nat} (hv : VC C) {s v : Nat} (h : s < 2 ^ C 0) (e : setN C s = some v) : v < 2 ^ C 0 := by
  unfold setN at e
  split at e
  · cases e; exact closed_lt hv h
  · cases e
theorem with_lt {n s f b : Nat} (hs : s < 2 ^ n) (hf : f < n) : withN s f b < 2 ^ n := by
  unfold withN
  split
  · exact or_lt_pow hs hf
  · refine below_lt fun i hi => ?_
    rw [nDel_bit] at hi
    refine lt_below hs i ?_
    cases e : s.testBit i
    · rw [e] at hi; cases hi
    · rfl
theorem bel_lt {C : Nat → Nat} (hv : VC C) (q : Nat) {s : Nat} (d : Nat) {k : Nat} (hs : s < 2 ^ C 0) (hk : k < 2 * C 0) : belN C q s d k < 2 ^ C 0 := by
  have h0 := hv.1
  have hf : k / 2 < C 0 := by omega
  have hf2 : (k / 2 + 1) % C 0 < C 0 := Nat.mod_lt _ (by omega)
  unfold belN
  split
  · exact with_lt hs hf
  · exact with_lt (with_lt hs hf) hf2
  · exact with_lt hs hf
  · split
    · exact hs
    · exact with_lt hs hf
  · exact hs
theorem VC.say {C : Nat → Nat} (hv : VC C) {p k : Nat} (hp : p < C 4) (hk : k < 2 * C 0) (h7 : C 7 ≤ 998) : VC (sayC C p k) := by
  obtain ⟨v0, v1, v2, v3, v4, v5, v7, v6, vr1, vp⟩ := id hv
  have h5 : C 5 ||| 2 ^ (k / 2) < 2 ^ C 0 := or_lt_pow v5 (by omega)
  unfold sayC
  cases e : outN C (C (40 + 2 * p)) (C 1) (C 5) k with
  | none =>
    have u : ∀ j, j ≠ 5 → j ≠ 7 → j ≠ 41 + 2 * p → upC (upC (upC C 5 (C 5 ||| 2 ^ (k / 2))) 7 (C 7 + 1)) (41 + 2 * p) (C (41 + 2 * p) + 1) j = C j := fun j a b c => by rw [upC_ne _ _ c, upC_ne _ _ b, upC_ne _ _ a]
    have u5 : upC (upC (upC C 5 (C 5 ||| 2 ^ (k / 2))) 7 (C 7 + 1)) (41 + 2 * p) (C (41 + 2 * p) + 1) 5 = C 5 ||| 2 ^ (k / 2) := by rw [upC_ne _ _ (by omega), upC_ne _ _ (by omega), upC_at]
    have u7 : upC (upC (upC C 5 (C 5 ||| 2 ^ (k / 2))) 7 (C 7 + 1)) (41 + 2 * p) (C (41 + 2 * p) + 1) 7 = C 7 + 1 := by rw [upC_ne _ _ (by omega), upC_at]
    show VC (upC (upC (upC C 5 (C 5 ||| 2 ^ (k / 2))) 7 (C 7 + 1)) (41 + 2 * p) (C (41 + 2 * p) + 1))
    unfold VC
    rw [u5, u7, u 0 (by omega) (by omega) (by omega), u 1 (by omega) (by omega) (by omega), u 2 (by omega) (by omega) (by omega), u 3 (by omega) (by omega) (by omega), u 4 (by omega) (by omega) (by omega), u 6 (by omega) (by omega) (by omega)]
    refine ⟨v0, v1, v2, v3, v4, h5, by omega, by omega, fun j hj => ?_, fun j hj => ?_⟩
    · rw [u (8 + 4 * j) (by omega) (by omega) (by omega), u (9 + 4 * j) (by omega) (by omega) (by omega), u (10 + 4 * j) (by omega) (by omega) (by omega), u (11 + 4 * j) (by omega) (by omega) (by omega)]
      exact vr1 j hj
    · rw [u (40 + 2 * j) (by omega) (by omega) (by omega)]
      refine ⟨(vp j hj).1, ?_⟩
      have := (vp j hj).2
      have := (vp p hp).2
      by_cases z : j = p
      · subst z; rw [upC_at]; omega
      · rw [u (41 + 2 * j) (by omega) (by omega) (by omega)]; omega
  | some v =>
    have hvv : v < 2 ^ C 0 := set_lt hv (bel_lt hv _ _ v1 hk) e
    have hx : C 1 ^^^ v < 64 := Nat.xor_lt_two_pow (n := 6) hv.c1 (by
      have h : 2 ^ C 0 ≤ 2 ^ 6 := Nat.pow_le_pow_right (by omega) v0.2
      omega)
    have hpc := pc6_le _ hx
    have hmul : C 2 * pc6 (C 1 ^^^ v) ≤ 9 * 6 := Nat.mul_le_mul v2.2 hpc
    have u : ∀ j, j ≠ 5 → j ≠ 7 → j ≠ 6 → j ≠ 1 → upC (upC (upC (upC C 5 (C 5 ||| 2 ^ (k / 2))) 7 (C 7 + 1)) 6 (C 6 + C 2 * pc6 (C 1 ^^^ v))) 1 v j = C j := fun j a b c d => by rw [upC_ne _ _ d, upC_ne _ _ c, upC_ne _ _ b, upC_ne _ _ a]
    have u5 : upC (upC (upC (upC C 5 (C 5 ||| 2 ^ (k / 2))) 7 (C 7 + 1)) 6 (C 6 + C 2 * pc6 (C 1 ^^^ v))) 1 v 5 = C 5 ||| 2 ^ (k / 2) := by rw [upC_ne _ _ (by omega), upC_ne _ _ (by omega), upC_ne _ _ (by omega), upC_at]
    have u7 : upC (upC (upC (upC C 5 (C 5 ||| 2 ^ (k / 2))) 7 (C 7 + 1)) 6 (C 6 + C 2 * pc6 (C 1 ^^^ v))) 1 v 7 = C 7 + 1 := by rw [upC_ne _ _ (by omega), upC_ne _ _ (by omega), upC_at]
    have u6 : upC (upC (upC (upC C 5 (C 5 ||| 2 ^ (k / 2))) 7 (C 7 + 1)) 6 (C 6 + C 2 * pc6 (C 1 ^^^ v))) 1 v 6 = C 6 + C 2 * pc6 (C 1 ^^^ v) := by rw [upC_ne _ _ (by omega), upC_at]
    have u1 : upC (upC (upC (upC C 5 (C 5 ||| 2 ^ (k / 2))) 7 (C 7 + 1)) 6 (C 6 + C 2 * pc6 (C 1 ^^^ v))) 1 v 1 = v := upC_at _ _ _
    show VC (upC (upC (upC (upC C 5 (C 5 ||| 2 ^ (k / 2))) 7 (C 7 + 1)) 6 (C 6 + C 2 * pc6 (C 1 ^^^ v))) 1 v)
    unfold VC
    rw [u5, u7, u6, u1, u 0 (by omega) (by omega) (by omega) (by omega), u 2 (by omega) (by omega) (by omega) (by omega), u 3 (by omega) (by omega) (by omega) (by omega), u 4 (by omega) (by omega) (by omega) (by omega)]
    refine ⟨v0, hvv, v2, v3, v4, h5, by omega, by omega, fun j hj => ?_, fun j hj => ?_⟩
    · rw [u (8 + 4 * j) (by omega) (by omega) (by omega) (by omega), u (9 + 4 * j) (by omega) (by omega) (by omega) (by omega), u (10 + 4 * j) (by omega) (by omega) (by omega) (by omega), u (11 + 4 * j) (by omega) (by omega) (by omega) (by omega)]
      exact vr1 j hj
    · rw [u (40 + 2 * j) (by omega) (by omega) (by omega) (by omega), u (41 + 2 * j) (by omega) (by omega) (by omega) (by omega)]
      have := (vp j hj).2
      exact ⟨(vp j hj).1, by omega⟩
/-- what changes in a saying, and what stays -/
theorem sayC_same (C : Nat → Nat) (p k : Nat) : sameR C (sayC C p k) ∧ sayC C p k 0 = C 0 ∧ sayC C p k 2 = C 2 ∧ sayC C p k 4 = C 4 ∧ (∀ j, sayC C p k (40 + 2 * j) = C (40 + 2 * j)) := by
  unfold sayC
  cases outN C (C (40 + 2 * p)) (C 1) (C 5) k with
  | none =>
    have u : ∀ j, j ≠ 5 → j ≠ 7 → j ≠ 41 + 2 * p → upC (upC (upC C 5 (C 5 ||| 2 ^ (k / 2))) 7 (C 7 + 1)) (41 + 2 * p) (C (41 + 2 * p) + 1) j = C j := fun j a b c => by rw [upC_ne _ _ c, upC_ne _ _ b, upC_ne _ _ a]
    exact ⟨⟨u 3 (by omega) (by omega) (by omega), fun j h1 h2 => u j (by omega) (by omega) (by omega)⟩, u 0 (by omega) (by omega) (by omega), u 2 (by omega) (by omega) (by omega), u 4 (by omega) (by omega) (by omega), fun j => u _ (by omega) (by omega) (by omega)⟩
  | some v =>
    have u : ∀ j, j ≠ 5 → j ≠ 7 → j ≠ 6 → j ≠ 1 → upC (upC (upC (upC C 5 (C 5 ||| 2 ^ (k / 2))) 7 (C 7 + 1)) 6 (C 6 + C 2 * pc6 (C 1 ^^^ v))) 1 v j = C j := fun j a b c d => by rw [upC_ne _ _ d, upC_ne _ _ c, upC_ne _ _ b, upC_ne _ _ a]
    exact ⟨⟨u 3 (by omega) (by omega) (by omega) (by omega), fun j h1 h2 => u j (by omega) (by omega) (by omega) (by omega)⟩, u 0 (by omega) (by omega) (by omega) (by omega), u 2 (by omega) (by omega) (by omega) (by omega), u 4 (by omega) (by omega) (by omega) (by omega), fun j => u _ (by omega) (by omega) (by omega) (by omega)⟩
theorem BR.re {m m4 : AM} {C C2 : Nat → Nat} (hB : BR m C) (hs : sameR C C2) (h0 : C2 0 = C 0) (h2 : C2 2 = C 2) (h4 : C2 4 = C 4) (hk : ∀ j, C2 (40 + 2 * j) = C (40 + 2 * j)) (hv : VC C2) (hf : ∀ a, 21 ≤ a ∧ a ≤ 25 ∨ a = 28 ∨ a = 29 → m4.1 a = m.1 a) (hc : CacR m4 C) (hst : StR m4 26 C2) : BR m4 C2 := by
  obtain ⟨v, hL, hS, hM, hC⟩ := hB
  have h8 := v.2.2.2.1
  refine ⟨hv, ?_, hst, ?_, hc.cg hs h8⟩
  · have hL2 : LawR m4 21 C := hL.cg (hf _ (by omega)) (hf _ (by omega)) (hf _ (by omega)) (hf _ (by omega)) (hf _ (by omega))
    unfold LawR
    rw [h0, h2, hs.1, h4]
    refine ⟨hL2.1, hL2.2.1, hL2.2.2.1, hL2.2.2.2.1, fun r hr => ?_, fun p hp => ?_⟩
    · rw [hs.2 (8 + 4 * r) (by omega) (by omega), hs.2 (9 + 4 * r) (by omega) (by omega), hs.2 (10 + 4 * r) (by omega) (by omega)]
      exact hL2.2.2.2.2.1 r hr
    · rw [hk p]
      exact hL2.2.2.2.2.2 p hp
  · refine MadR.cg hs h8 (fun f q => ?_)
    rw [hf 28 (by omega), hf 29 (by omega)]
    exact hM f q
end
section
/-! utter; acts; images -/
abbrev e_X2_utter : ME := (cX2_utter, (RX2, (4, ((some .int), (0, (0, 4))))))
theorem dX2_utter_0 : decode cX2_utter 0 = .ok (.aload_n 0, 1) := by decide +kernel
theorem dX2_utter_1 : decode cX2_utter 1 = .ok (.aload_n 0, 1) := by decide +kernel
theorem dX2_utter_2 : decode cX2_utter 2 = .ok (.getfield 12, 3) := by decide +kernel
theorem dX2_utter_5 : decode cX2_utter 5 = .ok (.getfield 86, 3) := by decide +kernel
theorem dX2_utter_8 : decode cX2_utter 8 = .ok (.iload_n 1, 1) := by decide +kernel
theorem dX2_utter_9 : decode cX2_utter 9 = .ok (.iaload, 1) := by decide +kernel
theorem dX2_utter_10 : decode cX2_utter 10 = .ok (.iload_n 2, 1) := by decide +kernel
theorem dX2_utter_11 : decode cX2_utter 11 = .ok (.aload_n 0, 1) := by decide +kernel
theorem dX2_utter_12 : decode cX2_utter 12 = .ok (.getfield 21, 3) := by decide +kernel
theorem dX2_utter_15 : decode cX2_utter 15 = .ok (.getfield 89, 3) := by decide +kernel
theorem dX2_utter_18 : decode cX2_utter 18 = .ok (.aload_n 0, 1) := by decide +kernel
theorem dX2_utter_19 : decode cX2_utter 19 = .ok (.getfield 21, 3) := by decide +kernel
theorem dX2_utter_22 : decode cX2_utter 22 = .ok (.getfield 92, 3) := by decide +kernel
theorem dX2_utter_25 : decode cX2_utter 25 = .ok (.invokevirtual 95, 3) := by decide +kernel
theorem dX2_utter_28 : decode cX2_utter 28 = .ok (.istore_n 3, 1) := by decide +kernel
theorem dX2_utter_29 : decode cX2_utter 29 = .ok (.aload_n 0, 1) := by decide +kernel
theorem dX2_utter_30 : decode cX2_utter 30 = .ok (.getfield 21, 3) := by decide +kernel
theorem dX2_utter_33 : decode cX2_utter 33 = .ok (.dup, 1) := by decide +kernel
theorem dX2_utter_34 : decode cX2_utter 34 = .ok (.getfield 92, 3) := by decide +kernel
theorem dX2_utter_37 : decode cX2_utter 37 = .ok (.iload_n 2, 1) := by decide +kernel
theorem dX2_utter_38 : decode cX2_utter 38 = .ok (.invokestatic 99, 3) := by decide +kernel
theorem dX2_utter_41 : decode cX2_utter 41 = .ok (.ior, 1) := by decide +kernel
theorem dX2_utter_42 : decode cX2_utter 42 = .ok (.putfield 92, 3) := by decide +kernel
theorem dX2_utter_45 : decode cX2_utter 45 = .ok (.aload_n 0, 1) := by decide +kernel
theorem dX2_utter_46 : decode cX2_utter 46 = .ok (.getfield 21, 3) := by decide +kernel
theorem dX2_utter_49 : decode cX2_utter 49 = .ok (.dup, 1) := by decide +kernel
theorem dX2_utter_50 : decode cX2_utter 50 = .ok (.getfield 102, 3) := by decide +kernel
theorem dX2_utter_53 : decode cX2_utter 53 = .ok (.iconst 1, 1) := by decide +kernel
theorem dX2_utter_54 : decode cX2_utter 54 = .ok (.iadd, 1) := by decide +kernel
theorem dX2_utter_55 : decode cX2_utter 55 = .ok (.putfield 102, 3) := by decide +kernel
theorem dX2_utter_58 : decode cX2_utter 58 = .ok (.iload_n 3, 1) := by decide +kernel
theorem dX2_utter_59 : decode cX2_utter 59 = .ok (.ldc 105, 2) := by decide +kernel
theorem dX2_utter_61 : decode cX2_utter 61 = .ok (.if_icmp .ne 19, 3) := by decide +kernel
theorem dX2_utter_64 : decode cX2_utter 64 = .ok (.aload_n 0, 1) := by decide +kernel
theorem dX2_utter_65 : decode cX2_utter 65 = .ok (.getfield 21, 3) := by decide +kernel
theorem dX2_utter_68 : decode cX2_utter 68 = .ok (.getfield 106, 3) := by decide +kernel
theorem dX2_utter_71 : decode cX2_utter 71 = .ok (.iload_n 1, 1) := by decide +kernel
theorem dX2_utter_72 : decode cX2_utter 72 = .ok (.dup2, 1) := by decide +kernel
theorem dX2_utter_73 : decode cX2_utter 73 = .ok (.iaload, 1) := by decide +kernel
theorem dX2_utter_74 : decode cX2_utter 74 = .ok (.iconst 1, 1) := by decide +kernel
theorem dX2_utter_75 : decode cX2_utter 75 = .ok (.iadd, 1) := by decide +kernel
theorem dX2_utter_76 : decode cX2_utter 76 = .ok (.iastore, 1) := by decide +kernel
theorem dX2_utter_77 : decode cX2_utter 77 = .ok (.ldc 105, 2) := by decide +kernel
theorem dX2_utter_79 : decode cX2_utter 79 = .ok (.ireturn, 1) := by decide +kernel
theorem dX2_utter_80 : decode cX2_utter 80 = .ok (.aload_n 0, 1) := by decide +kernel
theorem dX2_utter_81 : decode cX2_utter 81 = .ok (.getfield 21, 3) := by decide +kernel
theorem dX2_utter_84 : decode cX2_utter 84 = .ok (.dup, 1) := by decide +kernel
theorem dX2_utter_85 : decode cX2_utter 85 = .ok (.getfield 109, 3) := by decide +kernel
theorem dX2_utter_88 : decode cX2_utter 88 = .ok (.aload_n 0, 1) := by decide +kernel
theorem dX2_utter_89 : decode cX2_utter 89 = .ok (.aload_n 0, 1) := by decide +kernel
theorem dX2_utter_90 : decode cX2_utter 90 = .ok (.getfield 21, 3) := by decide +kernel
theorem dX2_utter_93 : decode cX2_utter 93 = .ok (.getfield 89, 3) := by decide +kernel
theorem dX2_utter_96 : decode cX2_utter 96 = .ok (.iload_n 3, 1) := by decide +kernel
theorem dX2_utter_97 : decode cX2_utter 97 = .ok (.invokevirtual 112, 3) := by decide +kernel
theorem dX2_utter_100 : decode cX2_utter 100 = .ok (.iadd, 1) := by decide +kernel
theorem dX2_utter_101 : decode cX2_utter 101 = .ok (.putfield 109, 3) := by decide +kernel
theorem dX2_utter_104 : decode cX2_utter 104 = .ok (.aload_n 0, 1) := by decide +kernel
theorem dX2_utter_105 : decode cX2_utter 105 = .ok (.getfield 21, 3) := by decide +kernel
theorem dX2_utter_108 : decode cX2_utter 108 = .ok (.iload_n 3, 1) := by decide +kernel
theorem dX2_utter_109 : decode cX2_utter 109 = .ok (.putfield 89, 3) := by decide +kernel
theorem dX2_utter_112 : decode cX2_utter 112 = .ok (.iload_n 3, 1) := by decide +kernel
theorem dX2_utter_113 : decode cX2_utter 113 = .ok (.ireturn, 1) := by decide +kernel
def Sp_X2_utter (av : List AV) (m : AM) (Φ : Option AV → AM → Prop) : Prop := ∃ x y, av = [vr 2 20, vi x, vi y] ∧ ∃ C p k, BR m C ∧ x = nI p ∧ y = nI k ∧ p < C 4 ∧ k < 2 * C 0 ∧ C 7 ≤ 998 ∧ ∀ m2, Fr [26, 27, 30] m m2 → BR m2 (sayC C p k) → Φ (some (vi (sayO C p k))) m2
set_option maxRecDepth 20000 in
set_option maxHeartbeats 4000000 in
theorem S_X2_utter : Snd yX2_utter e_X2_utter Sp_X2_utter := by
  refine Snd.of (by decide +kernel) rfl ?_ ?_
  · rintro av m Φ ⟨x, y, rfl, _⟩; exact Nat.le_of_ble_eq_true rfl
  rintro av m Φ ⟨x, y, rfl, C, p, k, hB, rfl, rfl, hp, hk, h7, h⟩ hav hty
  show B e_X2_utter Φ 0 [some (vr 2 20), some (vi (nI p)), some (vi (nI k)), none] [] m (0, 0)
  obtain ⟨hv, hL, hS, hM, hC⟩ := id hB
  have h5 := hv.2.2.2.2.1.2
  have h06 := hv.1.2
  have hq := (hv.2.2.2.2.2.2.2.2.2 p hp).1
  have hsm := sayC_same C p k
  have hvs := hv.say hp hk h7
  have fin : ∀ m3, Fr [26, 30] m m3 → m3.1 26 1 = nI (C 1) → m3.1 26 2 = nI (C 5 ||| 2 ^ (k / 2)) → m3.1 26 3 = nI (C 7 + 1) → m3.1 26 4 = nI (C 6) → m3.1 26 5 = m.1 26 5 → CacR m3 C → B e_X2_utter Φ 58 [some (vr 2 20), some (vi (nI p)), some (vi (nI k)), some (vi (oI (outN C (C (40 + 2 * p)) (C 1) (C 5) k)))] [] m3 (0, 0) := by
    intro m3 hf q1 q2 q3 q4 q5 hc3
    have f27 : m3.1 27 = m.1 27 := hf.2 27 (by decide)
    have f21 : m3.1 21 = m.1 21 := hf.2 21 (by decide)
    have fof : ∀ m4 : AM, (∀ a, a ≠ 26 → a ≠ 27 → m4.1 a = m3.1 a) → ∀ a, 21 ≤ a ∧ a ≤ 25 ∨ a = 28 ∨ a = 29 → m4.1 a = m.1 a := fun m4 h1 a h2 => by
      rw [h1 a (by omega) (by omega)]
      exact hf.2 a (by simp; omega)
    cases e : outN C (C (40 + 2 * p)) (C 1) (C 5) k with
    | none =>
      have hO : sayO C p k = -1000000 := by unfold sayO; rw [e]; rfl
      have hCe : sayC C p k = upC (upC (upC C 5 (C 5 ||| 2 ^ (k / 2))) 7 (C 7 + 1)) (41 + 2 * p) (C (41 + 2 * p) + 1) := by unfold sayC; rw [e]
      refine b_iloadN (pc := 58) 3 dX2_utter_58 rfl rfl ?_
      refine b_ldc (pc := 59) k678 dX2_utter_59 ?_
      refine b_icmp_ne (pc := 61) 80 dX2_utter_61 (by decide) (fun c61 => ?_) (fun c61 => ?_)
      rotate_left -- leaf 0: at 80
      refine b_aloadN (pc := 64) 0 dX2_utter_64 rfl rfl ?_
      refine gf2_1 (pc := 65) 26 rfl k270 dX2_utter_65 ?_
      refine gf8_0 (pc := 68) 27 rfl k229 dX2_utter_68 ?_
      refine b_iloadN (pc := 71) 1 dX2_utter_71 rfl rfl ?_
      refine b_dup2 (pc := 72) dX2_utter_72 ?_
      refine b_iald (pc := 73) (by decide) ?_ dX2_utter_73 ?_
      rotate_left -- leaf 1: index at 73
      refine b_iconst (pc := 74) (nI 1) dX2_utter_74 (by decide) ?_
      refine b_iadd (pc := 75) dX2_utter_75 ?_
      refine b_iast (pc := 76) (by decide) ?_ dX2_utter_76 ?_
      rotate_left -- leaf 2: index at 76
      refine b_ldc (pc := 77) k678 dX2_utter_77 ?_
      refine b_iret (pc := 79) rfl dX2_utter_79 ⟨Nat.le_of_ble_eq_true rfl, Nat.le_of_ble_eq_true rfl⟩ ?_
      rotate_left -- leaf 3: return at 79
      -- leaves: 0 at 80; 1 index at 73; 2 index at 76; 3 return at 79
      · exact absurd rfl c61
      · exact n_in (by omega) (by omega)
      · exact n_in (by omega) (by omega)
      · rw [n_cl (by omega), f27, hS.2.2.2.2.2 p hp, n_add]
        rw [hO] at h
        refine h _ ((hf.mono (by decide)).ms (by simp)) (hB.re hsm.1 hsm.2.1 hsm.2.2.1 hsm.2.2.2.1 hsm.2.2.2.2 hvs (fof _ (fun a h1 h2 => mset_ne _ _ _ h2)) ?_ ?_)
        · intro s q; rw [mset_ne _ _ _ (by decide)]; exact hc3 s q
        · unfold StR
          rw [mset_ne _ _ _ (by decide), q1, q2, q3, q4, q5, hCe]
          refine ⟨?_, ?_, ?_, ?_, ?_, fun j hj => ?_⟩
          · rw [upC_ne _ _ (by omega), upC_ne _ _ (by omega), upC_ne _ _ (by omega)]
          · rw [upC_ne _ _ (by omega), upC_ne _ _ (by omega), upC_at]
          · rw [upC_ne _ _ (by omega), upC_at]
          · rw [upC_ne _ _ (by omega), upC_ne _ _ (by omega), upC_ne _ _ (by omega)]
          · rw [← hCe]; exact hS.2.2.2.2.1.cg hsm.1 hv.2.2.2.1
          · rw [← hCe, hsm.2.2.2.1] at hj
            rw [mset_at]
            by_cases z : j = p
            · subst z; rw [if_pos rfl, upC_at]
            · rw [if_neg z, f27, upC_ne _ _ (by omega), upC_ne _ _ (by omega), upC_ne _ _ (by omega)]
              exact hS.2.2.2.2.2 j hj
    | some v =>
      have hv2 : v < 2 ^ C 0 := set_lt hv (bel_lt hv _ _ hv.2.1 hk) e
      have hv6 : v < 64 := by
        have h : 2 ^ C 0 ≤ 2 ^ 6 := Nat.pow_le_pow_right (by omega) h06
        omega
      have hO : sayO C p k = nI v := by unfold sayO; rw [e]; rfl
      have hCe : sayC C p k = upC (upC (upC (upC C 5 (C 5 ||| 2 ^ (k / 2))) 7 (C 7 + 1)) 6 (C 6 + C 2 * pc6 (C 1 ^^^ v))) 1 v := by unfold sayC; rw [e]
      refine b_iloadN (pc := 58) 3 dX2_utter_58 rfl rfl ?_
      refine b_ldc (pc := 59) k678 dX2_utter_59 ?_
      refine b_icmp_ne (pc := 61) 80 dX2_utter_61 (by decide) (fun c61 => ?_) (fun c61 => ?_)
      refine b_aloadN (pc := 80) 0 dX2_utter_80 rfl rfl ?_
      refine gf2_1 (pc := 81) 26 rfl k270 dX2_utter_81 ?_
      refine b_dup_r (pc := 84) dX2_utter_84 ?_
      refine gf8_4 (pc := 85) k246 dX2_utter_85 ?_
      refine b_aloadN (pc := 88) 0 dX2_utter_88 rfl rfl ?_
      refine b_aloadN (pc := 89) 0 dX2_utter_89 rfl rfl ?_
      refine gf2_1 (pc := 90) 26 rfl k270 dX2_utter_90 ?_
      refine gf8_1 (pc := 93) k235 dX2_utter_93 ?_
      refine b_iloadN (pc := 96) 3 dX2_utter_96 rfl rfl ?_
      refine call_X2_price (pc := 97) k687 (by decide) ⟨Nat.le_of_ble_eq_true rfl, Nat.le_of_ble_eq_true rfl⟩ (Nat.le_of_ble_eq_true rfl) dX2_utter_97 ?_
      refine ⟨_, _, rfl, C 2, C 1, v, ?_, ?_, ?_, ?_, ?_, ?_⟩
      rotate_left -- leaf 0: price of X2_price at 97
      rotate_left -- leaf 1: before of X2_price at 97
      rotate_left -- leaf 2: after of X2_price at 97
      rotate_left -- leaf 3: b64 of X2_price at 97
      rotate_left -- leaf 4: a64 of X2_price at 97
      refine b_iadd (pc := 100) dX2_utter_100 ?_
      refine pf8_4 (pc := 101) k246 dX2_utter_101 ?_
      refine b_aloadN (pc := 104) 0 dX2_utter_104 rfl rfl ?_
      refine gf2_1 (pc := 105) 26 rfl k270 dX2_utter_105 ?_
      refine b_iloadN (pc := 108) 3 dX2_utter_108 rfl rfl ?_
      refine pf8_1 (pc := 109) k235 dX2_utter_109 ?_
      refine b_iloadN (pc := 112) 3 dX2_utter_112 rfl rfl ?_
      refine b_iret (pc := 113) rfl dX2_utter_113 ⟨Nat.le_of_ble_eq_true rfl, Nat.le_of_ble_eq_true rfl⟩ ?_
      rotate_left -- leaf 5: return at 113
      refine b_aloadN (pc := 64) 0 dX2_utter_64 rfl rfl ?_
      refine gf2_1 (pc := 65) 26 rfl k270 dX2_utter_65 ?_
      refine gf8_0 (pc := 68) 27 rfl k229 dX2_utter_68 ?_
      refine b_iloadN (pc := 71) 1 dX2_utter_71 rfl rfl ?_
      refine b_dup2 (pc := 72) dX2_utter_72 ?_
      refine b_iald (pc := 73) (by decide) ?_ dX2_utter_73 ?_
      rotate_left -- leaf 6: index at 73
      refine b_iconst (pc := 74) (nI 1) dX2_utter_74 (by decide) ?_
      refine b_iadd (pc := 75) dX2_utter_75 ?_
      refine b_iast (pc := 76) (by decide) ?_ dX2_utter_76 ?_
      rotate_left -- leaf 7: index at 76
      refine b_ldc (pc := 77) k678 dX2_utter_77 ?_
      refine b_iret (pc := 79) rfl dX2_utter_79 ⟨Nat.le_of_ble_eq_true rfl, Nat.le_of_ble_eq_true rfl⟩ ?_
      rotate_left -- leaf 8: return at 79
      -- leaves: 0 price of X2_price at 97; 1 before of X2_price at 97; 2 after of X2_price at 97; 3 b64 of X2_price at 97; 4 a64 of X2_price at 97; 5 return at 113; 6 index at 73; 7 index at 76; 8 return at 79
      · rw [f21]; exact hL.2.1
      · exact q1
      · rfl
      · exact hv.c1
      · exact hv6
      · rw [q4, n_add]
        rw [hO] at h
        refine h _ (((hf.mono (by decide)).ms (by simp)).ms (by simp)) (hB.re hsm.1 hsm.2.1 hsm.2.2.1 hsm.2.2.2.1 hsm.2.2.2.2 hvs (fof _ (fun a h1 h2 => by rw [mset_ne _ _ _ h1, mset_ne _ _ _ h1])) ?_ ?_)
        · intro s q; rw [mset_ne _ _ _ (by decide), mset_ne _ _ _ (by decide)]; exact hc3 s q
        · unfold StR
          refine ⟨?_, ?_, ?_, ?_, ?_, fun j hj => ?_⟩
          · rw [mset_at, if_pos rfl, hCe, upC_at]
            rfl
          · rw [mset_at, if_neg (by decide), mset_at, if_neg (by decide), q2, hCe, upC_ne _ _ (by omega), upC_ne _ _ (by omega), upC_ne _ _ (by omega), upC_at]
          · rw [mset_at, if_neg (by decide), mset_at, if_neg (by decide), q3, hCe, upC_ne _ _ (by omega), upC_ne _ _ (by omega), upC_at]
          · rw [mset_at, if_neg (by decide), mset_at, if_pos rfl, hCe, upC_ne _ _ (by omega), upC_at]
          · rw [mset_at, if_neg (by decide), mset_at, if_neg (by decide), q5]
            exact hS.2.2.2.2.1.cg hsm.1 hv.2.2.2.1
          · rw [hsm.2.2.2.1] at hj
            rw [mset_ne _ _ _ (by decide), mset_ne _ _ _ (by decide), f27, hCe, upC_ne _ _ (by omega), upC_ne _ _ (by omega), upC_ne _ _ (by omega), upC_ne _ _ (by omega)]
            exact hS.2.2.2.2.2 j hj
      all_goals exact absurd c61 (n_ne_none (show v < 2147483648 by omega))
  refine b_aloadN (pc := 0) 0 dX2_utter_0 rfl rfl ?_
  refine b_aloadN (pc := 1) 0 dX2_utter_1 rfl rfl ?_
  refine gf2_0 (pc := 2) 21 rfl k264 dX2_utter_2 ?_
  refine gf5_3 (pc := 5) 25 rfl k138 dX2_utter_5 ?_
  refine b_iloadN (pc := 8) 1 dX2_utter_8 rfl rfl ?_
  refine b_iald (pc := 9) (by decide) ?_ dX2_utter_9 ?_
  rotate_left -- leaf 0: index at 9
  refine b_iloadN (pc := 10) 2 dX2_utter_10 rfl rfl ?_
  refine b_aloadN (pc := 11) 0 dX2_utter_11 rfl rfl ?_
  refine gf2_1 (pc := 12) 26 rfl k270 dX2_utter_12 ?_
  refine gf8_1 (pc := 15) k235 dX2_utter_15 ?_
  refine b_aloadN (pc := 18) 0 dX2_utter_18 rfl rfl ?_
  refine gf2_1 (pc := 19) 26 rfl k270 dX2_utter_19 ?_
  refine gf8_2 (pc := 22) k239 dX2_utter_22 ?_
  refine call_X2_outcome (pc := 25) k663 (by decide) ⟨Nat.le_of_ble_eq_true rfl, Nat.le_of_ble_eq_true rfl⟩ (Nat.le_of_ble_eq_true rfl) dX2_utter_25 ?_
  refine ⟨_, _, _, _, rfl, C, C (40 + 2 * p), k, C 1, C 5, hB, ?_, rfl, ?_, ?_, ?_, ?_, ?_, ?_, fun m25 h25 => ?_⟩
  rotate_left -- leaf 1: kd of X2_outcome at 25
  rotate_left -- leaf 2: so of X2_outcome at 25
  rotate_left -- leaf 3: sd of X2_outcome at 25
  rotate_left -- leaf 4: kind of X2_outcome at 25
  rotate_left -- leaf 5: saying of X2_outcome at 25
  rotate_left -- leaf 6: so64 of X2_outcome at 25
  rotate_left -- leaf 7: sd64 of X2_outcome at 25
  refine siN3 (pc := 28) rfl notL_i (by decide) dX2_utter_28 ?_
  refine b_aloadN (pc := 29) 0 dX2_utter_29 rfl rfl ?_
  refine gf2_1 (pc := 30) 26 rfl k270 dX2_utter_30 ?_
  refine b_dup_r (pc := 33) dX2_utter_33 ?_
  refine gf8_2 (pc := 34) k239 dX2_utter_34 ?_
  refine b_iloadN (pc := 37) 2 dX2_utter_37 rfl rfl ?_
  refine call_X2_factOf (pc := 38) k671 (by decide) ⟨Nat.le_of_ble_eq_true rfl, Nat.le_of_ble_eq_true rfl⟩ (Nat.le_of_ble_eq_true rfl) dX2_utter_38 ?_
  refine ⟨_, rfl, _, rfl, ?_, ?_⟩
  rotate_left -- leaf 8: bound of X2_factOf at 38
  refine b_ior (pc := 41) dX2_utter_41 ?_
  refine pf8_2 (pc := 42) k239 dX2_utter_42 ?_
  refine b_aloadN (pc := 45) 0 dX2_utter_45 rfl rfl ?_
  refine gf2_1 (pc := 46) 26 rfl k270 dX2_utter_46 ?_
  refine b_dup_r (pc := 49) dX2_utter_49 ?_
  refine gf8_3 (pc := 50) k243 dX2_utter_50 ?_
  refine b_iconst (pc := 53) (nI 1) dX2_utter_53 (by decide) ?_
  refine b_iadd (pc := 54) dX2_utter_54 ?_
  refine pf8_3 (pc := 55) k243 dX2_utter_55 ?_
  rotate_left -- leaf 9: at 58
  -- leaves: 0 index at 9; 1 kd of X2_outcome at 25; 2 so of X2_outcome at 25; 3 sd of X2_outcome at 25; 4 kind of X2_outcome at 25; 5 saying of X2_outcome at 25; 6 so64 of X2_outcome at 25; 7 sd64 of X2_outcome at 25; 8 bound of X2_factOf at 38; 9 at 58
  · exact n_in (by omega) (by omega)
  · rw [n_cl (by omega)]; exact hL.2.2.2.2.2 p hp
  · exact hS.1
  · exact hS.2.1
  · exact hq
  · exact hk
  · exact hv.c1
  · exact hv.c5
  · omega
  · have f26 : m25.1 26 = m.1 26 := h25.ne (by decide)
    refine fin _ (((h25.fr.mono (by decide)).ms (by simp)).ms (by simp)) ?_ ?_ ?_ ?_ ?_ ?_
    · rw [mset_at, if_neg (by decide), mset_at, if_neg (by decide), f26]; exact hS.1
    · rw [mset_at, if_neg (by decide), mset_at, if_pos rfl, f26, hS.2.1, n_or]
    · rw [mset_at, if_pos rfl, mset_at, if_neg (by decide), f26, hS.2.2.1, n_add]
    · rw [mset_at, if_neg (by decide), mset_at, if_neg (by decide), f26]; exact hS.2.2.2.1
    · rw [mset_at, if_neg (by decide), mset_at, if_neg (by decide), f26]
    · intro s q; rw [mset_ne _ _ _ (by decide), mset_ne _ _ _ (by decide)]; exact (hB.cu h25).2.2.2.2 s q
theorem call_X2_utter {E : ME} {Φ : Option AV → AM → Prop} {pc : Nat} {L : List (Option AV)} {st : List AV} {m : AM} {a : Nat × Nat} {idx : Nat} {x0 x1 : AV} {i : Nat} (hl : Cond.methodLink E.2.1 idx yX2_utter ∈ TB) (hdep : 4 + 1 ≤ E.2.2.2.2.2.2) (hroom : a.1 + 0 ≤ E.2.2.2.2.1 ∧ a.2 + 0 ≤ E.2.2.2.2.2.1) (hsr : st.length ≤ 4) (hd : decode E.1 pc = .ok (.invokevirtual idx, 3)) (hsp : Sp_X2_utter [vr 2 i, x0, x1] m (fun r m2 => B E Φ (pc + 3) L (r.toList ++ st) m2 a)) : B E Φ pc L (x1 :: x0 :: vr 2 i :: st) m a := b_callV S_X2_utter [x0, x1] (RX2, TX2, 5) rfl rfl (by decide) (Or.inl hl) k660 k661 k73 k662 (show _ ∧ _ ∧ Option.map (fun d => d.parameters.length) (parseMethodDescriptor yX2_utter.desc) = some 2 from by decide +kernel) ⟨hdep, by decide⟩ hroom hsr hd hsp
end
section
/-! the ring of acts -/
def sameLaw (C C2 : Nat → Nat) : Prop := C2 0 = C 0 ∧ C2 2 = C 2 ∧ C2 3 = C 3 ∧ C2 4 = C 4 ∧ (∀ k, k < C 3 → C2 (8 + 4 * k) = C (8 + 4 * k) ∧ C2 (9 + 4 * k) = C (9 + 4 * k) ∧ C2 (10 + 4 * k) = C (10 + 4 * k)) ∧ ∀ p, p < C 4 → C2 (40 + 2 * p) = C (40 + 2 * p)
theorem sameLaw.rf (C : Nat → Nat) : sameLaw C C := ⟨rfl, rfl, rfl, rfl, fun _ _ => ⟨rfl, rfl, rfl⟩, fun _ _ => rfl⟩
theorem LawR.same {m : AM} {i : Nat} {C C2 : Nat → Nat} (h : LawR m i C) (hs : sameLaw C C2) : LawR m i C2 := by
  unfold LawR
  rw [hs.1, hs.2.1, hs.2.2.1, hs.2.2.2.1]
  refine ⟨h.1, h.2.1, h.2.2.1, h.2.2.2.1, fun r hr => ?_, fun p hp => ?_⟩
  · have q := hs.2.2.2.2.1 r hr
    rw [q.1, q.2.1, q.2.2]
    exact h.2.2.2.2.1 r hr
  · rw [hs.2.2.2.2.2 p hp]
    exact h.2.2.2.2.2 p hp
theorem sameLaw.tr {C D E : Nat → Nat} (h : sameLaw C D) (h2 : sameLaw D E) : sameLaw C E := by
  refine ⟨h2.1.trans h.1, h2.2.1.trans h.2.1, h2.2.2.1.trans h.2.2.1, h2.2.2.2.1.trans h.2.2.2.1, fun k hk => ?_, fun p hp => ?_⟩
  · have a := h.2.2.2.2.1 k hk
    have b := h2.2.2.2.2.1 k (by rw [h.2.2.1]; exact hk)
    exact ⟨b.1.trans a.1, b.2.1.trans a.2.1, b.2.2.trans a.2.2⟩
  · exact (h2.2.2.2.2.2 p (by rw [h.2.2.2.1]; exact hp)).trans (h.2.2.2.2.2 p hp)
theorem sameLaw.sy {C D : Nat → Nat} (h : sameLaw C D) : sameLaw D C := by
  refine ⟨h.1.symm, h.2.1.symm, h.2.2.1.symm, h.2.2.2.1.symm, fun k hk => ?_, fun p hp => ?_⟩
  · have a := h.2.2.2.2.1 k (by rw [← h.2.2.1]; exact hk)
    exact ⟨a.1.symm, a.2.1.symm, a.2.2.symm⟩
  · exact (h.2.2.2.2.2 p (by rw [← h.2.2.2.1]; exact hp)).symm
theorem sayC_law (C : Nat → Nat) (h8 : C 3 ≤ 8) (p k : Nat) : sameLaw C (sayC C p k) := by
  have h := sayC_same C p k
  exact ⟨h.2.1, h.2.2.1, h.1.1, h.2.2.2.1, fun j hj => ⟨h.1.2 _ (by omega) (by omega), h.1.2 _ (by omega) (by omega), h.1.2 _ (by omega) (by omega)⟩, fun j hj => h.2.2.2.2 j⟩
theorem strN_law (C : Nat → Nat) (h8 : C 3 ≤ 8) (r on : Nat) (hr : r < 8) : sameLaw C (strN C r on) := by
  have e : ∀ j, j ≠ 11 + 4 * r → strN C r on j = C j := fun j hj => upC_ne C on hj
  exact ⟨e _ (by omega), e _ (by omega), e _ (by omega), e _ (by omega), fun k hk => ⟨e _ (by omega), e _ (by omega), e _ (by omega)⟩, fun p hp => e _ (by omega)⟩
def actL : List Nat := 31 :: (List.range 48).map (fun i => i + 33)
theorem actL_in : ∀ j, j < 24 → 33 + 2 * j ∈ actL ∧ 33 + 2 * j + 1 ∈ actL := by decide +kernel
/-- the acts that can be undone: a of them, the i-th kept as W i -/
def ActR (m : AM) (C : Nat → Nat) (a nx : Nat) (W : Nat → Nat → Nat) : Prop := m.1 31 1 = nI nx ∧ nx < 24 ∧ m.1 31 2 = nI a ∧ a ≤ 24 ∧ ∀ i, i < a → StR m (33 + 2 * ((nx + 24 - a + i) % 24)) (W i) ∧ VC (W i) ∧ sameLaw C (W i)
/-- one more kept -/
def keepA (a : Nat) : Nat := if a = 24 then 24 else a + 1
def keepW (a : Nat) (W : Nat → Nat → Nat) (C : Nat → Nat) : Nat → Nat → Nat := fun i => if a = 24 then (if i = 23 then C else W (i + 1)) else (if i = a then C else W i)
theorem ActR.fr {m m2 : AM} {C : Nat → Nat} {a nx : Nat} {W : Nat → Nat → Nat} (h : ActR m C a nx W) (hf : ∀ i, i ∈ actL → m2.1 i = m.1 i) : ActR m2 C a nx W := by
  unfold ActR
  rw [hf 31 (by decide)]
  refine ⟨h.1, h.2.1, h.2.2.1, h.2.2.2.1, fun i hi => ?_⟩
  have q := h.2.2.2.2 i hi
  have z := actL_in ((nx + 24 - a + i) % 24) (Nat.mod_lt _ (by omega))
  exact ⟨q.1.cg (hf _ z.1) (hf _ z.2), q.2⟩
theorem ActR.law {m : AM} {C D : Nat → Nat} {a nx : Nat} {W : Nat → Nat → Nat} (h : ActR m C a nx W) (hs : sameLaw C D) : ActR m D a nx W :=
  ⟨h.1, h.2.1, h.2.2.1, h.2.2.2.1, fun i hi => ⟨(h.2.2.2.2 i hi).1, (h.2.2.2.2 i hi).2.1, hs.sy.tr (h.2.2.2.2 i hi).2.2⟩⟩
theorem n_rem {a d : Nat} (ha : a < 2147483648) (h0 : 0 < d) (hd : d < 2147483648) : nI a - nI a / nI d * nI d = nI (a % d) := pk_rem ha h0 hd
theorem StR.copy {m m2 : AM} {i j : Nat} {C : Nat → Nat} (h : StR m j C) (h4 : C 4 ≤ 5) (h2 : ∀ k, 1 ≤ k → k ≤ 5 → m2.1 i k = m.1 j k) (h3 : ∀ p, p < 5 → m2.1 (i + 1) p = m.1 (j + 1) p) : StR m2 i C := by
  unfold StR
  rw [h2 1 (by omega) (by omega), h2 2 (by omega) (by omega), h2 3 (by omega) (by omega), h2 4 (by omega) (by omega), h2 5 (by omega) (by omega)]
  refine ⟨h.1, h.2.1, h.2.2.1, h.2.2.2.1, h.2.2.2.2.1, fun p hp => ?_⟩
  rw [h3 p (by omega)]
  exact h.2.2.2.2.2 p hp
abbrev e_X0_keep : ME := (cX0_keep, (RX0, (2, (none, (0, (0, 2))))))
theorem dX0_keep_0 : decode cX0_keep 0 = .ok (.aload_n 0, 1) := by decide +kernel
theorem dX0_keep_1 : decode cX0_keep 1 = .ok (.getfield 11, 3) := by decide +kernel
theorem dX0_keep_4 : decode cX0_keep 4 = .ok (.aload_n 0, 1) := by decide +kernel
theorem dX0_keep_5 : decode cX0_keep 5 = .ok (.getfield 22, 3) := by decide +kernel
theorem dX0_keep_8 : decode cX0_keep 8 = .ok (.aaload, 1) := by decide +kernel
theorem dX0_keep_9 : decode cX0_keep 9 = .ok (.aload_n 1, 1) := by decide +kernel
theorem dX0_keep_10 : decode cX0_keep 10 = .ok (.invokevirtual 25, 3) := by decide +kernel
theorem dX0_keep_13 : decode cX0_keep 13 = .ok (.aload_n 0, 1) := by decide +kernel
theorem dX0_keep_14 : decode cX0_keep 14 = .ok (.aload_n 0, 1) := by decide +kernel
theorem dX0_keep_15 : decode cX0_keep 15 = .ok (.getfield 22, 3) := by decide +kernel
theorem dX0_keep_18 : decode cX0_keep 18 = .ok (.iconst 1, 1) := by decide +kernel
theorem dX0_keep_19 : decode cX0_keep 19 = .ok (.iadd, 1) := by decide +kernel
theorem dX0_keep_20 : decode cX0_keep 20 = .ok (.bipush 24, 2) := by decide +kernel
theorem dX0_keep_22 : decode cX0_keep 22 = .ok (.irem, 1) := by decide +kernel
theorem dX0_keep_23 : decode cX0_keep 23 = .ok (.putfield 22, 3) := by decide +kernel
theorem dX0_keep_26 : decode cX0_keep 26 = .ok (.aload_n 0, 1) := by decide +kernel
theorem dX0_keep_27 : decode cX0_keep 27 = .ok (.aload_n 0, 1) := by decide +kernel
theorem dX0_keep_28 : decode cX0_keep 28 = .ok (.getfield 18, 3) := by decide +kernel
theorem dX0_keep_31 : decode cX0_keep 31 = .ok (.iconst 1, 1) := by decide +kernel
theorem dX0_keep_32 : decode cX0_keep 32 = .ok (.iadd, 1) := by decide +kernel
theorem dX0_keep_33 : decode cX0_keep 33 = .ok (.bipush 24, 2) := by decide +kernel
theorem dX0_keep_35 : decode cX0_keep 35 = .ok (.invokestatic 29, 3) := by decide +kernel
theorem dX0_keep_38 : decode cX0_keep 38 = .ok (.putfield 18, 3) := by decide +kernel
theorem dX0_keep_41 : decode cX0_keep 41 = .ok (.return_, 1) := by decide +kernel
def Sp_X0_keep (av : List AV) (m : AM) (Φ : Option AV → AM → Prop) : Prop := av = [vr 0 31, vr 8 26] ∧ ∃ C a nx W, VC C ∧ StR m 26 C ∧ ActR m C a nx W ∧ ∀ m2, Fr actL m m2 → ActR m2 C (keepA a) ((nx + 1) % 24) (keepW a W C) → Φ none m2
set_option maxRecDepth 20000 in
set_option maxHeartbeats 4000000 in
theorem S_X0_keep : Snd yX0_keep e_X0_keep Sp_X0_keep := by
  refine Snd.of (by decide +kernel) rfl ?_ ?_
  · rintro av m Φ ⟨rfl, _⟩; exact Nat.le_of_ble_eq_true rfl
  rintro av m Φ ⟨rfl, C, a, nx, W, hv, hS, hA, h⟩ hav hty
  show B e_X0_keep Φ 0 [some (vr 0 31), some (vr 8 26)] [] m (0, 0)
  have hn := hA.1
  have hnl := hA.2.1
  have ha := hA.2.2.1
  have hal := hA.2.2.2.1
  refine b_aloadN (pc := 0) 0 dX0_keep_0 rfl rfl ?_
  refine gf0_0 (pc := 1) 32 rfl k299 dX0_keep_1 ?_
  refine b_aloadN (pc := 4) 0 dX0_keep_4 rfl rfl ?_
  refine gf0_1 (pc := 5) k300 dX0_keep_5 ?_
  refine b_aldR (pc := 8) (n := 24) (w := 2) (t' := 8) (Or.inl ⟨rfl, rfl, rfl, rfl⟩) ?_ dX0_keep_8 ?_
  rotate_left -- leaf 0: index at 8
  refine b_aloadN (pc := 9) 1 dX0_keep_9 rfl rfl ?_
  refine call_X8_become (pc := 10) k655 (by decide) ⟨Nat.le_of_ble_eq_true rfl, Nat.le_of_ble_eq_true rfl⟩ (Nat.le_of_ble_eq_true rfl) dX0_keep_10 ?_
  refine ⟨_, _, rfl, ?_, fun m10 fr10 st10 cl10 => ?_⟩
  rotate_left -- leaf 1: apart of X8_become at 10
  refine b_aloadN (pc := 13) 0 dX0_keep_13 rfl rfl ?_
  refine b_aloadN (pc := 14) 0 dX0_keep_14 rfl rfl ?_
  refine gf0_1 (pc := 15) k300 dX0_keep_15 ?_
  refine b_iconst (pc := 18) (nI 1) dX0_keep_18 (by decide) ?_
  refine b_iadd (pc := 19) dX0_keep_19 ?_
  refine b_bipush (pc := 20) (nI 24) dX0_keep_20 (by decide) ?_
  refine b_irem (pc := 22) dX0_keep_22 ?_ ?_
  rotate_left -- leaf 2: divisor at 22
  refine pf0_1 (pc := 23) k300 dX0_keep_23 ?_
  refine b_aloadN (pc := 26) 0 dX0_keep_26 rfl rfl ?_
  refine b_aloadN (pc := 27) 0 dX0_keep_27 rfl rfl ?_
  refine gf0_2 (pc := 28) k301 dX0_keep_28 ?_
  refine b_iconst (pc := 31) (nI 1) dX0_keep_31 (by decide) ?_
  refine b_iadd (pc := 32) dX0_keep_32 ?_
  refine b_bipush (pc := 33) (nI 24) dX0_keep_33 (by decide) ?_
  refine b_mmin (pc := 35) k656 k657 k82 k658 (by decide) (by decide) ⟨Nat.le_of_ble_eq_true rfl, Nat.le_of_ble_eq_true rfl⟩ dX0_keep_35 ?_
  refine pf0_2 (pc := 38) k301 dX0_keep_38 ?_
  refine b_vret (pc := 41) rfl dX0_keep_41 ⟨Nat.le_of_ble_eq_true rfl, Nat.le_of_ble_eq_true rfl⟩ ?_
  rotate_left -- leaf 3: return at 41
  -- leaves: 0 index at 8; 1 apart of X8_become at 10; 2 divisor at 22; 3 return at 41
  · rw [hn]; exact n_in (by omega) (by omega)
  · rw [hn, n_cl (by omega)]; omega
  · decide
  · have ei : 32 + 1 + 2 * (m.1 31 1).toNatClampNeg = 33 + 2 * nx := by rw [hn, n_cl (by omega)]
    rw [ei] at fr10 st10 cl10
    have f31 : m10.1 31 = m.1 31 := fr10.2 31 (by simp; omega)
    have hz := actL_in nx hnl
    have hX : m10.1 31 1 + nI 1 - (m10.1 31 1 + nI 1) / nI 24 * nI 24 = nI ((nx + 1) % 24) := by
      rw [f31, hn, n_add, n_rem (by omega) (by omega) (by omega)]
    have hY : (if nI 24 < m10.1 31 2 + nI 1 then nI 24 else m10.1 31 2 + nI 1) = nI (keepA a) := by
      rw [f31, ha, n_add]
      unfold keepA
      by_cases q : a = 24
      · rw [if_pos q, if_pos (by rw [n_lt (by omega) (by omega)]; omega)]
      · rw [if_neg q, if_neg (by rw [n_lt (by omega) (by omega)]; omega)]
    have hY2 : (mset m10 31 1 (nI ((nx + 1) % 24))).1 31 2 = m10.1 31 2 := by rw [mset_at, if_neg (by decide)]
    rw [hX, hY2, hY]
    have hS10 : StR m10 (33 + 2 * nx) C := hS.copy hv.2.2.2.2.1.2 st10 cl10
    refine h _ (((fr10.mono (fun q hq => ?_)).ms (by decide)).ms (by decide)) ⟨?_, Nat.mod_lt _ (by omega), ?_, ?_, fun i hi => ?_⟩
    · simp at hq
      rcases hq with e | e
      · rw [e]; exact hz.1
      · rw [e]; exact hz.2
    · rw [mset_at, if_neg (by decide), mset_at, if_pos rfl]
    · rw [mset_at, if_pos rfl]
    · unfold keepA; split <;> omega
    · have st2 : ∀ j D, StR m10 (33 + 2 * j) D → StR (mset (mset m10 31 1 (nI ((nx + 1) % 24))) 31 2 (nI (keepA a))) (33 + 2 * j) D := fun j D q => q.cg (by rw [mset_ne _ _ _ (by omega), mset_ne _ _ _ (by omega)]) (by rw [mset_ne _ _ _ (by omega), mset_ne _ _ _ (by omega)])
      have old : ∀ j D, j < 24 → j ≠ nx → StR m (33 + 2 * j) D → StR m10 (33 + 2 * j) D := fun j D h1 h2 q => q.cg (fr10.2 _ (by simp; omega)) (fr10.2 _ (by simp; omega))
      unfold keepA at hi
      unfold keepA keepW
      by_cases q : a = 24
      · rw [if_pos q] at hi
        rw [if_pos q, if_pos q]
        by_cases q2 : i = 23
        · rw [if_pos q2, show ((nx + 1) % 24 + 24 - 24 + i) % 24 = nx by omega]
          have := st2 nx C hS10
          unfold keepA at this
          rw [if_pos q] at this
          exact ⟨this, hv, sameLaw.rf C⟩
        · rw [if_neg q2]
          have w := hA.2.2.2.2 (i + 1) (by omega)
          rw [show (nx + 24 - a + (i + 1)) % 24 = ((nx + 1) % 24 + 24 - 24 + i) % 24 by omega] at w
          have := st2 _ _ (old _ _ (Nat.mod_lt _ (by omega)) (by omega) w.1)
          unfold keepA at this
          rw [if_pos q] at this
          exact ⟨this, w.2⟩
      · rw [if_neg q] at hi
        rw [if_neg q, if_neg q]
        by_cases q2 : i = a
        · rw [if_pos q2, show ((nx + 1) % 24 + 24 - (a + 1) + i) % 24 = nx by omega]
          have := st2 nx C hS10
          unfold keepA at this
          rw [if_neg q] at this
          exact ⟨this, hv, sameLaw.rf C⟩
        · rw [if_neg q2]
          have w := hA.2.2.2.2 i (by omega)
          rw [show (nx + 24 - a + i) % 24 = ((nx + 1) % 24 + 24 - (a + 1) + i) % 24 by omega] at w
          have := st2 _ _ (old _ _ (Nat.mod_lt _ (by omega)) (by omega) w.1)
          unfold keepA at this
          rw [if_neg q] at this
          exact ⟨this, w.2⟩
theorem call_X0_keep {E : ME} {Φ : Option AV → AM → Prop} {pc : Nat} {L : List (Option AV)} {st : List AV} {m : AM} {a : Nat × Nat} {idx : Nat} {x0 : AV} {i : Nat} (hl : Cond.methodLink E.2.1 idx yX0_keep ∈ TB) (hdep : 2 + 1 ≤ E.2.2.2.2.2.2) (hroom : a.1 + 0 ≤ E.2.2.2.2.1 ∧ a.2 + 0 ≤ E.2.2.2.2.2.1) (hsr : st.length ≤ 4) (hd : decode E.1 pc = .ok (.invokevirtual idx, 3)) (hsp : Sp_X0_keep [vr 0 i, x0] m (fun r m2 => B E Φ (pc + 3) L (r.toList ++ st) m2 a)) : B E Φ pc L (x0 :: vr 0 i :: st) m a := b_callV S_X0_keep [x0] (RX0, TX0, 3) rfl rfl (by decide) (Or.inl hl) k652 k653 k75 k654 (show _ ∧ _ ∧ Option.map (fun d => d.parameters.length) (parseMethodDescriptor yX0_keep.desc) = some 1 from by decide +kernel) ⟨hdep, by decide⟩ hroom hsr hd hsp
abbrev e_X0_isEmpty : ME := (cX0_isEmpty, (RX0, (1, ((some .boolean), (0, (0, 1))))))
theorem dX0_isEmpty_0 : decode cX0_isEmpty 0 = .ok (.aload_n 0, 1) := by decide +kernel
theorem dX0_isEmpty_1 : decode cX0_isEmpty 1 = .ok (.getfield 18, 3) := by decide +kernel
theorem dX0_isEmpty_4 : decode cX0_isEmpty 4 = .ok (.ifCond .ne 7, 3) := by decide +kernel
theorem dX0_isEmpty_7 : decode cX0_isEmpty 7 = .ok (.iconst 1, 1) := by decide +kernel
theorem dX0_isEmpty_8 : decode cX0_isEmpty 8 = .ok (.goto 4, 3) := by decide +kernel
theorem dX0_isEmpty_11 : decode cX0_isEmpty 11 = .ok (.iconst 0, 1) := by decide +kernel
theorem dX0_isEmpty_12 : decode cX0_isEmpty 12 = .ok (.ireturn, 1) := by decide +kernel
def Sp_X0_isEmpty (av : List AV) (m : AM) (Φ : Option AV → AM → Prop) : Prop := av = [vr 0 31] ∧ ∃ a, m.1 31 2 = nI a ∧ a ≤ 24 ∧ Φ (some (vi (nI (if a = 0 then 1 else 0)))) m
set_option maxRecDepth 20000 in
set_option maxHeartbeats 4000000 in
theorem S_X0_isEmpty : Snd yX0_isEmpty e_X0_isEmpty Sp_X0_isEmpty := by
  refine Snd.of (by decide +kernel) rfl ?_ ?_
  · rintro av m Φ ⟨rfl, _⟩; exact Nat.le_of_ble_eq_true rfl
  rintro av m Φ ⟨rfl, a, ha, hal, h⟩ hav hty
  show B e_X0_isEmpty Φ 0 [some (vr 0 31)] [] m (0, 0)
  refine b_aloadN (pc := 0) 0 dX0_isEmpty_0 rfl rfl ?_
  refine gf0_2 (pc := 1) k301 dX0_isEmpty_1 ?_
  refine b_if_ne (pc := 4) 11 dX0_isEmpty_4 (by decide) (fun c4 => ?_) (fun c4 => ?_)
  refine b_iconst (pc := 11) (nI 0) dX0_isEmpty_11 (by decide) ?_
  refine b_zret (pc := 12) rfl ?_ dX0_isEmpty_12 ⟨Nat.le_of_ble_eq_true rfl, Nat.le_of_ble_eq_true rfl⟩ ?_
  rotate_left -- leaf 0: bool at 12
  rotate_left -- leaf 1: return at 12
  refine b_iconst (pc := 7) (nI 1) dX0_isEmpty_7 (by decide) ?_
  refine b_goto (pc := 8) 12 dX0_isEmpty_8 (by decide) ?_
  refine b_zret (pc := 12) rfl ?_ dX0_isEmpty_12 ⟨Nat.le_of_ble_eq_true rfl, Nat.le_of_ble_eq_true rfl⟩ ?_
  rotate_left -- leaf 2: bool at 12
  rotate_left -- leaf 3: return at 12
  -- leaves: 0 bool at 12; 1 return at 12; 2 bool at 12; 3 return at 12
  · exact Or.inl rfl
  · rw [ha, n_eq0 (by omega)] at c4
    rw [if_neg c4] at h
    exact h
  · exact Or.inr rfl
  · rw [ha, n_eq0 (by omega)] at c4
    rw [if_pos c4] at h
    exact h
theorem call_X0_isEmpty {E : ME} {Φ : Option AV → AM → Prop} {pc : Nat} {L : List (Option AV)} {st : List AV} {m : AM} {a : Nat × Nat} {idx : Nat} {i : Nat} (hl : Cond.methodLink E.2.1 idx yX0_isEmpty ∈ TB) (hdep : 1 + 1 ≤ E.2.2.2.2.2.2) (hroom : a.1 + 0 ≤ E.2.2.2.2.1 ∧ a.2 + 0 ≤ E.2.2.2.2.2.1) (hsr : st.length ≤ 4) (hd : decode E.1 pc = .ok (.invokevirtual idx, 3)) (hsp : Sp_X0_isEmpty [vr 0 i] m (fun r m2 => B E Φ (pc + 3) L (r.toList ++ st) m2 a)) : B E Φ pc L (vr 0 i :: st) m a := b_callV S_X0_isEmpty [] (RX0, TX0, 3) rfl rfl (by decide) (Or.inl hl) k621 k622 k75 k623 (show _ ∧ _ ∧ Option.map (fun d => d.parameters.length) (parseMethodDescriptor yX0_isEmpty.desc) = some 0 from by decide +kernel) ⟨hdep, by decide⟩ hroom hsr hd hsp
abbrev e_X0_forget : ME := (cX0_forget, (RX0, (1, (none, (0, (0, 1))))))
theorem dX0_forget_0 : decode cX0_forget 0 = .ok (.aload_n 0, 1) := by decide +kernel
theorem dX0_forget_1 : decode cX0_forget 1 = .ok (.iconst 0, 1) := by decide +kernel
theorem dX0_forget_2 : decode cX0_forget 2 = .ok (.putfield 18, 3) := by decide +kernel
theorem dX0_forget_5 : decode cX0_forget 5 = .ok (.return_, 1) := by decide +kernel
def Sp_X0_forget (av : List AV) (m : AM) (Φ : Option AV → AM → Prop) : Prop := av = [vr 0 31] ∧ Φ none (mset m 31 2 (nI 0))
set_option maxRecDepth 20000 in
set_option maxHeartbeats 4000000 in
theorem S_X0_forget : Snd yX0_forget e_X0_forget Sp_X0_forget := by
  refine Snd.of (by decide +kernel) rfl ?_ ?_
  · rintro av m Φ ⟨rfl, _⟩; exact Nat.le_of_ble_eq_true rfl
  rintro av m Φ ⟨rfl, h⟩ hav hty
  show B e_X0_forget Φ 0 [some (vr 0 31)] [] m (0, 0)
  refine b_aloadN (pc := 0) 0 dX0_forget_0 rfl rfl ?_
  refine b_iconst (pc := 1) (nI 0) dX0_forget_1 (by decide) ?_
  refine pf0_2 (pc := 2) k301 dX0_forget_2 ?_
  refine b_vret (pc := 5) rfl dX0_forget_5 ⟨Nat.le_of_ble_eq_true rfl, Nat.le_of_ble_eq_true rfl⟩ ?_
  rotate_left -- leaf 0: return at 5
  -- leaves: 0 return at 5
  exact h
theorem call_X0_forget {E : ME} {Φ : Option AV → AM → Prop} {pc : Nat} {L : List (Option AV)} {st : List AV} {m : AM} {a : Nat × Nat} {idx : Nat} {i : Nat} (hl : Cond.methodLink E.2.1 idx yX0_forget ∈ TB) (hdep : 1 + 1 ≤ E.2.2.2.2.2.2) (hroom : a.1 + 0 ≤ E.2.2.2.2.1 ∧ a.2 + 0 ≤ E.2.2.2.2.2.1) (hsr : st.length ≤ 4) (hd : decode E.1 pc = .ok (.invokevirtual idx, 3)) (hsp : Sp_X0_forget [vr 0 i] m (fun r m2 => B E Φ (pc + 3) L (r.toList ++ st) m2 a)) : B E Φ pc L (vr 0 i :: st) m a := b_callV S_X0_forget [] (RX0, TX0, 3) rfl rfl (by decide) (Or.inl hl) k605 k606 k75 k607 (show _ ∧ _ ∧ Option.map (fun d => d.parameters.length) (parseMethodDescriptor yX0_forget.desc) = some 0 from by decide +kernel) ⟨hdep, by decide⟩ hroom hsr hd hsp
abbrev e_X0_takeBack : ME := (cX0_takeBack, (RX0, (2, ((some .int), (0, (0, 4))))))
theorem dX0_takeBack_0 : decode cX0_takeBack 0 = .ok (.aload_n 0, 1) := by decide +kernel
theorem dX0_takeBack_1 : decode cX0_takeBack 1 = .ok (.aload_n 0, 1) := by decide +kernel
theorem dX0_takeBack_2 : decode cX0_takeBack 2 = .ok (.getfield 22, 3) := by decide +kernel
theorem dX0_takeBack_5 : decode cX0_takeBack 5 = .ok (.bipush 24, 2) := by decide +kernel
theorem dX0_takeBack_7 : decode cX0_takeBack 7 = .ok (.iadd, 1) := by decide +kernel
theorem dX0_takeBack_8 : decode cX0_takeBack 8 = .ok (.iconst 1, 1) := by decide +kernel
theorem dX0_takeBack_9 : decode cX0_takeBack 9 = .ok (.isub, 1) := by decide +kernel
theorem dX0_takeBack_10 : decode cX0_takeBack 10 = .ok (.bipush 24, 2) := by decide +kernel
theorem dX0_takeBack_12 : decode cX0_takeBack 12 = .ok (.irem, 1) := by decide +kernel
theorem dX0_takeBack_13 : decode cX0_takeBack 13 = .ok (.putfield 22, 3) := by decide +kernel
theorem dX0_takeBack_16 : decode cX0_takeBack 16 = .ok (.aload_n 0, 1) := by decide +kernel
theorem dX0_takeBack_17 : decode cX0_takeBack 17 = .ok (.dup, 1) := by decide +kernel
theorem dX0_takeBack_18 : decode cX0_takeBack 18 = .ok (.getfield 18, 3) := by decide +kernel
theorem dX0_takeBack_21 : decode cX0_takeBack 21 = .ok (.iconst 1, 1) := by decide +kernel
theorem dX0_takeBack_22 : decode cX0_takeBack 22 = .ok (.isub, 1) := by decide +kernel
theorem dX0_takeBack_23 : decode cX0_takeBack 23 = .ok (.putfield 18, 3) := by decide +kernel
theorem dX0_takeBack_26 : decode cX0_takeBack 26 = .ok (.aload_n 1, 1) := by decide +kernel
theorem dX0_takeBack_27 : decode cX0_takeBack 27 = .ok (.aload_n 0, 1) := by decide +kernel
theorem dX0_takeBack_28 : decode cX0_takeBack 28 = .ok (.getfield 11, 3) := by decide +kernel
theorem dX0_takeBack_31 : decode cX0_takeBack 31 = .ok (.aload_n 0, 1) := by decide +kernel
theorem dX0_takeBack_32 : decode cX0_takeBack 32 = .ok (.getfield 22, 3) := by decide +kernel
theorem dX0_takeBack_35 : decode cX0_takeBack 35 = .ok (.aaload, 1) := by decide +kernel
theorem dX0_takeBack_36 : decode cX0_takeBack 36 = .ok (.invokevirtual 35, 3) := by decide +kernel
theorem dX0_takeBack_39 : decode cX0_takeBack 39 = .ok (.aload_n 0, 1) := by decide +kernel
theorem dX0_takeBack_40 : decode cX0_takeBack 40 = .ok (.getfield 18, 3) := by decide +kernel
theorem dX0_takeBack_43 : decode cX0_takeBack 43 = .ok (.ireturn, 1) := by decide +kernel
def Sp_X0_takeBack (av : List AV) (m : AM) (Φ : Option AV → AM → Prop) : Prop := av = [vr 0 31, vr 2 20] ∧ ∃ C a nx W, BR m C ∧ ActR m C (a + 1) nx W ∧ ∀ m2, Fr [26, 27, 28, 29, 30, 31] m m2 → BR m2 (W a) → ActR m2 (W a) a ((nx + 23) % 24) W → Φ (some (vi (nI a))) m2
set_option maxRecDepth 20000 in
set_option maxHeartbeats 4000000 in
theorem S_X0_takeBack : Snd yX0_takeBack e_X0_takeBack Sp_X0_takeBack := by
  refine Snd.of (by decide +kernel) rfl ?_ ?_
  · rintro av m Φ ⟨rfl, _⟩; exact Nat.le_of_ble_eq_true rfl
  rintro av m Φ ⟨rfl, C, a, nx, W, hB, hA, h⟩ hav hty
  show B e_X0_takeBack Φ 0 [some (vr 0 31), some (vr 2 20)] [] m (0, 0)
  have hn := hA.1
  have hnl := hA.2.1
  have ha := hA.2.2.1
  have hal := hA.2.2.2.1
  have hw := hA.2.2.2.2 a (by omega)
  rw [show (nx + 24 - (a + 1) + a) % 24 = (nx + 23) % 24 by omega] at hw
  have hX : m.1 31 1 + nI 24 - nI 1 - (m.1 31 1 + nI 24 - nI 1) / nI 24 * nI 24 = nI ((nx + 23) % 24) := by
    rw [hn, n_add, n_sub (by omega), n_rem (by omega) (by omega) (by omega), show nx + 24 - 1 = nx + 23 by omega]
  have hlt : (nx + 23) % 24 < 24 := Nat.mod_lt _ (by omega)
  have mid : ∀ X Y, X = nI ((nx + 23) % 24) → (mset (mset m 31 1 X) 31 2 Y).1 31 1 = nI ((nx + 23) % 24) := fun X Y q => by
    rw [mset_at, if_neg (by decide), mset_at, if_pos rfl]; exact q
  refine b_aloadN (pc := 0) 0 dX0_takeBack_0 rfl rfl ?_
  refine b_aloadN (pc := 1) 0 dX0_takeBack_1 rfl rfl ?_
  refine gf0_1 (pc := 2) k300 dX0_takeBack_2 ?_
  refine b_bipush (pc := 5) (nI 24) dX0_takeBack_5 (by decide) ?_
  refine b_iadd (pc := 7) dX0_takeBack_7 ?_
  refine b_iconst (pc := 8) (nI 1) dX0_takeBack_8 (by decide) ?_
  refine b_isub (pc := 9) dX0_takeBack_9 ?_
  refine b_bipush (pc := 10) (nI 24) dX0_takeBack_10 (by decide) ?_
  refine b_irem (pc := 12) dX0_takeBack_12 ?_ ?_
  rotate_left -- leaf 0: divisor at 12
  refine pf0_1 (pc := 13) k300 dX0_takeBack_13 ?_
  refine b_aloadN (pc := 16) 0 dX0_takeBack_16 rfl rfl ?_
  refine b_dup_r (pc := 17) dX0_takeBack_17 ?_
  refine gf0_2 (pc := 18) k301 dX0_takeBack_18 ?_
  refine b_iconst (pc := 21) (nI 1) dX0_takeBack_21 (by decide) ?_
  refine b_isub (pc := 22) dX0_takeBack_22 ?_
  refine pf0_2 (pc := 23) k301 dX0_takeBack_23 ?_
  refine b_aloadN (pc := 26) 1 dX0_takeBack_26 rfl rfl ?_
  refine b_aloadN (pc := 27) 0 dX0_takeBack_27 rfl rfl ?_
  refine gf0_0 (pc := 28) 32 rfl k299 dX0_takeBack_28 ?_
  refine b_aloadN (pc := 31) 0 dX0_takeBack_31 rfl rfl ?_
  refine gf0_1 (pc := 32) k300 dX0_takeBack_32 ?_
  refine b_aldR (pc := 35) (n := 24) (w := 2) (t' := 8) (Or.inl ⟨rfl, rfl, rfl, rfl⟩) ?_ dX0_takeBack_35 ?_
  rotate_left -- leaf 1: index at 35
  refine call_X2_goBack (pc := 36) k629 (by decide) ⟨Nat.le_of_ble_eq_true rfl, Nat.le_of_ble_eq_true rfl⟩ (Nat.le_of_ble_eq_true rfl) dX0_takeBack_36 ?_
  refine ⟨_, rfl, ?_, W a, ?_, ?_, ?_, fun m36 fr36 hB36 => ?_⟩
  rotate_left -- leaf 2: apart of X2_goBack at 36
  rotate_left -- leaf 3: valid of X2_goBack at 36
  rotate_left -- leaf 4: law of X2_goBack at 36
  rotate_left -- leaf 5: standing of X2_goBack at 36
  refine b_aloadN (pc := 39) 0 dX0_takeBack_39 rfl rfl ?_
  refine gf0_2 (pc := 40) k301 dX0_takeBack_40 ?_
  refine b_iret (pc := 43) rfl dX0_takeBack_43 ⟨Nat.le_of_ble_eq_true rfl, Nat.le_of_ble_eq_true rfl⟩ ?_
  rotate_left -- leaf 6: return at 43
  -- leaves: 0 divisor at 12; 1 index at 35; 2 apart of X2_goBack at 36; 3 valid of X2_goBack at 36; 4 law of X2_goBack at 36; 5 standing of X2_goBack at 36; 6 return at 43
  · decide
  · rw [mid _ _ hX]
    exact n_in (by omega) (by omega)
  · rw [mid _ _ hX, n_cl (by omega)]
    omega
  · exact hw.2.1
  · exact LawR.same (hB.2.1.cg (by rw [mset_ne _ _ _ (by decide), mset_ne _ _ _ (by decide)]) (by rw [mset_ne _ _ _ (by decide), mset_ne _ _ _ (by decide)]) (by rw [mset_ne _ _ _ (by decide), mset_ne _ _ _ (by decide)]) (by rw [mset_ne _ _ _ (by decide), mset_ne _ _ _ (by decide)]) (by rw [mset_ne _ _ _ (by decide), mset_ne _ _ _ (by decide)])) hw.2.2
  · rw [mid _ _ hX, n_cl (by omega)]
    exact hw.1.cg (by rw [mset_ne _ _ _ (by omega), mset_ne _ _ _ (by omega)]) (by rw [mset_ne _ _ _ (by omega), mset_ne _ _ _ (by omega)])
  · have f31 : m36.1 31 = _ := fr36.2 31 (by decide)
    have e31 : m36.1 31 2 = nI a := by
      rw [f31, mset_at, if_pos rfl, mset_at, if_neg (by decide), ha, n_sub (by omega), show a + 1 - 1 = a by omega]
    rw [e31]
    refine h m36 ((((Fr.rf [31] m).ms (by simp)).ms (by simp)).tr fr36 |>.mono (by decide)) hB36 ⟨?_, hlt, e31, by omega, fun i hi => ?_⟩
    · rw [f31, mid _ _ hX]
    · have q := hA.2.2.2.2 i (by omega)
      rw [show (nx + 24 - (a + 1) + i) % 24 = ((nx + 23) % 24 + 24 - a + i) % 24 by omega] at q
      refine ⟨q.1.cg ?_ ?_, q.2.1, hw.2.2.sy.tr q.2.2⟩
      · rw [fr36.2 _ (by simp; omega), mset_ne _ _ _ (by omega), mset_ne _ _ _ (by omega)]
      · rw [fr36.2 _ (by simp; omega), mset_ne _ _ _ (by omega), mset_ne _ _ _ (by omega)]
theorem call_X0_takeBack {E : ME} {Φ : Option AV → AM → Prop} {pc : Nat} {L : List (Option AV)} {st : List AV} {m : AM} {a : Nat × Nat} {idx : Nat} {x0 : AV} {i : Nat} (hl : Cond.methodLink E.2.1 idx yX0_takeBack ∈ TB) (hdep : 4 + 1 ≤ E.2.2.2.2.2.2) (hroom : a.1 + 0 ≤ E.2.2.2.2.1 ∧ a.2 + 0 ≤ E.2.2.2.2.2.1) (hsr : st.length ≤ 4) (hd : decode E.1 pc = .ok (.invokevirtual idx, 3)) (hsp : Sp_X0_takeBack [vr 0 i, x0] m (fun r m2 => B E Φ (pc + 3) L (r.toList ++ st) m2 a)) : B E Φ pc L (x0 :: vr 0 i :: st) m a := b_callV S_X0_takeBack [x0] (RX0, TX0, 3) rfl rfl (by decide) (Or.inl hl) k626 k627 k75 k628 (show _ ∧ _ ∧ Option.map (fun d => d.parameters.length) (parseMethodDescriptor yX0_takeBack.desc) = some 1 from by decide +kernel) ⟨hdep, by decide⟩ hroom hsr hd hsp
end
section
/-! images -/
/-- the image whose object is i -/
def ImR (m : AM) (i : Nat) (C : Nat → Nat) : Prop := VC C ∧ LawR m (i + 1) C ∧ StR m (i + 6) C
abbrev e_X4_take : ME := (cX4_take, (RX4, (2, (none, (0, (0, 2))))))
theorem dX4_take_0 : decode cX4_take 0 = .ok (.aload_n 0, 1) := by decide +kernel
theorem dX4_take_1 : decode cX4_take 1 = .ok (.getfield 10, 3) := by decide +kernel
theorem dX4_take_4 : decode cX4_take 4 = .ok (.aload_n 1, 1) := by decide +kernel
theorem dX4_take_5 : decode cX4_take 5 = .ok (.getfield 23, 3) := by decide +kernel
theorem dX4_take_8 : decode cX4_take 8 = .ok (.invokevirtual 26, 3) := by decide +kernel
theorem dX4_take_11 : decode cX4_take 11 = .ok (.aload_n 0, 1) := by decide +kernel
theorem dX4_take_12 : decode cX4_take 12 = .ok (.getfield 19, 3) := by decide +kernel
theorem dX4_take_15 : decode cX4_take 15 = .ok (.aload_n 1, 1) := by decide +kernel
theorem dX4_take_16 : decode cX4_take 16 = .ok (.getfield 30, 3) := by decide +kernel
theorem dX4_take_19 : decode cX4_take 19 = .ok (.invokevirtual 33, 3) := by decide +kernel
theorem dX4_take_22 : decode cX4_take 22 = .ok (.aload_n 0, 1) := by decide +kernel
theorem dX4_take_23 : decode cX4_take 23 = .ok (.iconst 1, 1) := by decide +kernel
theorem dX4_take_24 : decode cX4_take 24 = .ok (.putfield 36, 3) := by decide +kernel
theorem dX4_take_27 : decode cX4_take 27 = .ok (.return_, 1) := by decide +kernel
def Sp_X4_take (av : List AV) (m : AM) (Φ : Option AV → AM → Prop) : Prop := ∃ i, av = [vr 4 i, vr 2 20] ∧ (i = 82 ∨ i = 90) ∧ ∃ C, BR m C ∧ ∀ m2, Fr [i, i + 1, i + 2, i + 3, i + 4, i + 5, i + 6, i + 7] m m2 → ImR m2 i C → m2.1 i 2 = nI 1 → Φ none m2
set_option maxRecDepth 20000 in
set_option maxHeartbeats 4000000 in
theorem S_X4_take : Snd yX4_take e_X4_take Sp_X4_take := by
  refine Snd.of (by decide +kernel) rfl ?_ ?_
  · rintro av m Φ ⟨i, rfl, _⟩; exact Nat.le_of_ble_eq_true rfl
  rintro av m Φ ⟨i, rfl, hi, C, hB, h⟩ hav hty
  show B e_X4_take Φ 0 [some (vr 4 i), some (vr 2 20)] [] m (0, 0)
  obtain ⟨hv, hL, hS, hM, hC⟩ := hB
  refine b_aloadN (pc := 0) 0 dX4_take_0 rfl rfl ?_
  refine gf4_0 (pc := 1) _ rfl k402 dX4_take_1 ?_
  refine b_aloadN (pc := 4) 1 dX4_take_4 rfl rfl ?_
  refine gf2_0 (pc := 5) 21 rfl k266 dX4_take_5 ?_
  refine call_X5_become (pc := 8) k967 (by decide) ⟨Nat.le_of_ble_eq_true rfl, Nat.le_of_ble_eq_true rfl⟩ (Nat.le_of_ble_eq_true rfl) dX4_take_8 ?_
  refine ⟨_, _, rfl, ?_, fun m8 fr8 st8 ru8 pe8 => ?_⟩
  rotate_left -- leaf 0: apart of X5_become at 8
  refine b_aloadN (pc := 11) 0 dX4_take_11 rfl rfl ?_
  refine gf4_1 (pc := 12) _ rfl k404 dX4_take_12 ?_
  refine b_aloadN (pc := 15) 1 dX4_take_15 rfl rfl ?_
  refine gf2_1 (pc := 16) 26 rfl k272 dX4_take_16 ?_
  refine call_X8_become (pc := 19) k968 (by decide) ⟨Nat.le_of_ble_eq_true rfl, Nat.le_of_ble_eq_true rfl⟩ (Nat.le_of_ble_eq_true rfl) dX4_take_19 ?_
  refine ⟨_, _, rfl, ?_, fun m19 fr19 st19 cl19 => ?_⟩
  rotate_left -- leaf 1: apart of X8_become at 19
  refine b_aloadN (pc := 22) 0 dX4_take_22 rfl rfl ?_
  refine b_iconst (pc := 23) (nI 1) dX4_take_23 (by decide) ?_
  refine pf4_2 (pc := 24) k406 ?_ dX4_take_24 ?_
  rotate_left -- leaf 2: bool at 24
  refine b_vret (pc := 27) rfl dX4_take_27 ⟨Nat.le_of_ble_eq_true rfl, Nat.le_of_ble_eq_true rfl⟩ ?_
  rotate_left -- leaf 3: return at 27
  -- leaves: 0 apart of X5_become at 8; 1 apart of X8_become at 19; 2 bool at 24; 3 return at 27
  · omega
  · omega
  · exact Or.inr rfl
  · have f1 : Fr [i, i + 1, i + 2, i + 3, i + 4, i + 5, i + 6, i + 7] m m19 := (fr8.tr fr19).mono (by simp)
    have hS8 : StR m8 26 C := hS.cg (fr8.2 _ (by simp; omega)) (fr8.2 _ (by simp; omega))
    refine h _ (f1.ms (by simp)) ⟨hv, ?_, ?_⟩ (by rw [mset_at, if_pos rfl])
    · have l8 := hL.copy hv st8 ru8 pe8
      exact l8.cg (by rw [mset_ne _ _ _ (by omega), fr19.2 _ (by simp)]) (by rw [mset_ne _ _ _ (by omega), fr19.2 _ (by simp)]) (by rw [mset_ne _ _ _ (by omega), fr19.2 _ (by simp)]) (by rw [mset_ne _ _ _ (by omega), fr19.2 _ (by simp)]) (by rw [mset_ne _ _ _ (by omega), fr19.2 _ (by simp)])
    · exact (hS8.copy hv.2.2.2.2.1.2 st19 cl19).cg (by rw [mset_ne _ _ _ (by omega)]) (by rw [mset_ne _ _ _ (by omega)])
theorem call_X4_take {E : ME} {Φ : Option AV → AM → Prop} {pc : Nat} {L : List (Option AV)} {st : List AV} {m : AM} {a : Nat × Nat} {idx : Nat} {x0 : AV} {i : Nat} (hl : Cond.methodLink E.2.1 idx yX4_take ∈ TB) (hdep : 2 + 1 ≤ E.2.2.2.2.2.2) (hroom : a.1 + 0 ≤ E.2.2.2.2.1 ∧ a.2 + 0 ≤ E.2.2.2.2.2.1) (hsr : st.length ≤ 4) (hd : decode E.1 pc = .ok (.invokevirtual idx, 3)) (hsp : Sp_X4_take [vr 4 i, x0] m (fun r m2 => B E Φ (pc + 3) L (r.toList ++ st) m2 a)) : B E Φ pc L (x0 :: vr 4 i :: st) m a := b_callV S_X4_take [x0] (RX4, TX4, 3) rfl rfl (by decide) (Or.inl hl) k964 k965 k79 k966 (show _ ∧ _ ∧ Option.map (fun d => d.parameters.length) (parseMethodDescriptor yX4_take.desc) = some 1 from by decide +kernel) ⟨hdep, by decide⟩ hroom hsr hd hsp
end
section
/-! tests of numbers: within 0 .. n - 1 -/
def inB (p : Int32) (n : Nat) : Bool := decide (¬ p < 0) && decide (p < nI n)
theorem inB_iff {p : Int32} {n : Nat} (hn : n < 2147483648) : inB p n = true ↔ ∃ j, j < n ∧ p = nI j := by
  unfold inB
  rw [Bool.and_eq_true, decide_eq_true_eq, decide_eq_true_eq]
  constructor
  · rintro ⟨h1, h2⟩
    obtain ⟨j, hj, rfl⟩ := nI_of h1
    exact ⟨j, by rw [n_lt (by omega) hn] at h2; exact h2, rfl⟩
  · rintro ⟨j, hj, rfl⟩
    rw [n_lt0 (by omega), n_lt (by omega) hn]
    exact ⟨fun h => h, hj⟩
theorem inB_not {p : Int32} {n : Nat} (h : inB p n = false) : p < 0 ∨ nI n ≤ p := by
  unfold inB at h
  rcases Bool.and_eq_false_iff.mp h with q | q
  · left
    by_cases z : p < 0
    · exact z
    · rw [decide_eq_true z] at q; cases q
  · right
    have q2 : ¬ p < nI n := of_decide_eq_false q
    exact Int32.not_lt.mp q2
theorem inB_f1 {p : Int32} {n : Nat} (h : p < 0) : inB p n = false := by unfold inB; simp [h]
theorem inB_f2 {p : Int32} {n : Nat} (h : nI n ≤ p) : inB p n = false := by
  unfold inB
  rw [decide_eq_false (Int32.not_lt.mpr h), Bool.and_false]
theorem inB_t {p : Int32} {n : Nat} (h : ¬ p < 0) (h2 : ¬ nI n ≤ p) : inB p n = true := by
  unfold inB
  rw [decide_eq_true h, decide_eq_true (Int32.not_le.mp h2)]
  rfl
theorem nb0 (b : Bool) : nI (if b = true then 1 else 0) = 0 ↔ b = false := by
  cases b
  · simp [nI_0]
  · constructor
    · intro h; exact absurd h (by decide)
    · intro h; cases h
abbrev e_X5_isPerson : ME := (cX5_isPerson, (RX5, (2, ((some .boolean), (0, (0, 1))))))
theorem dX5_isPerson_0 : decode cX5_isPerson 0 = .ok (.iload_n 1, 1) := by decide +kernel
theorem dX5_isPerson_1 : decode cX5_isPerson 1 = .ok (.ifCond .lt 15, 3) := by decide +kernel
theorem dX5_isPerson_4 : decode cX5_isPerson 4 = .ok (.iload_n 1, 1) := by decide +kernel
theorem dX5_isPerson_5 : decode cX5_isPerson 5 = .ok (.aload_n 0, 1) := by decide +kernel
theorem dX5_isPerson_6 : decode cX5_isPerson 6 = .ok (.getfield 37, 3) := by decide +kernel
theorem dX5_isPerson_9 : decode cX5_isPerson 9 = .ok (.if_icmp .ge 7, 3) := by decide +kernel
theorem dX5_isPerson_12 : decode cX5_isPerson 12 = .ok (.iconst 1, 1) := by decide +kernel
theorem dX5_isPerson_13 : decode cX5_isPerson 13 = .ok (.goto 4, 3) := by decide +kernel
theorem dX5_isPerson_16 : decode cX5_isPerson 16 = .ok (.iconst 0, 1) := by decide +kernel
theorem dX5_isPerson_17 : decode cX5_isPerson 17 = .ok (.ireturn, 1) := by decide +kernel
def Sp_X5_isPerson (av : List AV) (m : AM) (Φ : Option AV → AM → Prop) : Prop := ∃ p, av = [vr 5 21, vi p] ∧ ∃ n, m.1 21 8 = nI n ∧ Φ (some (vi (nI (if inB p n = true then 1 else 0)))) m
set_option maxRecDepth 20000 in
set_option maxHeartbeats 4000000 in
theorem S_X5_isPerson : Snd yX5_isPerson e_X5_isPerson Sp_X5_isPerson := by
  refine Snd.of (by decide +kernel) rfl ?_ ?_
  · rintro av m Φ ⟨p, rfl, _⟩; exact Nat.le_of_ble_eq_true rfl
  rintro av m Φ ⟨p, rfl, n, hn, h⟩ hav hty
  show B e_X5_isPerson Φ 0 [some (vr 5 21), some (vi p)] [] m (0, 0)
  refine b_iloadN (pc := 0) 1 dX5_isPerson_0 rfl rfl ?_
  refine b_if_lt (pc := 1) 16 dX5_isPerson_1 (by decide) (fun c1 => ?_) (fun c1 => ?_)
  refine b_iconst (pc := 16) (nI 0) dX5_isPerson_16 (by decide) ?_
  refine b_zret (pc := 17) rfl ?_ dX5_isPerson_17 ⟨Nat.le_of_ble_eq_true rfl, Nat.le_of_ble_eq_true rfl⟩ ?_
  rotate_left -- leaf 0: bool at 17
  rotate_left -- leaf 1: return at 17
  refine b_iloadN (pc := 4) 1 dX5_isPerson_4 rfl rfl ?_
  refine b_aloadN (pc := 5) 0 dX5_isPerson_5 rfl rfl ?_
  refine gf5_8 (pc := 6) k160 dX5_isPerson_6 ?_
  refine b_icmp_ge (pc := 9) 16 dX5_isPerson_9 (by decide) (fun c9 => ?_) (fun c9 => ?_)
  refine b_iconst (pc := 16) (nI 0) dX5_isPerson_16 (by decide) ?_
  refine b_zret (pc := 17) rfl ?_ dX5_isPerson_17 ⟨Nat.le_of_ble_eq_true rfl, Nat.le_of_ble_eq_true rfl⟩ ?_
  rotate_left -- leaf 2: bool at 17
  rotate_left -- leaf 3: return at 17
  refine b_iconst (pc := 12) (nI 1) dX5_isPerson_12 (by decide) ?_
  refine b_goto (pc := 13) 17 dX5_isPerson_13 (by decide) ?_
  refine b_zret (pc := 17) rfl ?_ dX5_isPerson_17 ⟨Nat.le_of_ble_eq_true rfl, Nat.le_of_ble_eq_true rfl⟩ ?_
  rotate_left -- leaf 4: bool at 17
  rotate_left -- leaf 5: return at 17
  -- leaves: 0 bool at 17; 1 return at 17; 2 bool at 17; 3 return at 17; 4 bool at 17; 5 return at 17
  · exact Or.inl rfl
  · rw [inB_f1 c1] at h; exact h
  · exact Or.inl rfl
  · rw [hn] at c9; rw [inB_f2 c9] at h; exact h
  · exact Or.inr rfl
  · rw [hn] at c9; rw [inB_t c1 c9] at h; exact h
theorem call_X5_isPerson {E : ME} {Φ : Option AV → AM → Prop} {pc : Nat} {L : List (Option AV)} {st : List AV} {m : AM} {a : Nat × Nat} {idx : Nat} {x0 : AV} {i : Nat} (hl : Cond.methodLink E.2.1 idx yX5_isPerson ∈ TB) (hdep : 1 + 1 ≤ E.2.2.2.2.2.2) (hroom : a.1 + 0 ≤ E.2.2.2.2.1 ∧ a.2 + 0 ≤ E.2.2.2.2.2.1) (hsr : st.length ≤ 4) (hd : decode E.1 pc = .ok (.invokevirtual idx, 3)) (hsp : Sp_X5_isPerson [vr 5 i, x0] m (fun r m2 => B E Φ (pc + 3) L (r.toList ++ st) m2 a)) : B E Φ pc L (x0 :: vr 5 i :: st) m a := b_callV S_X5_isPerson [x0] (RX5, TX5, 9) rfl rfl (by decide) (Or.inl hl) k643 k644 k72 k645 (show _ ∧ _ ∧ Option.map (fun d => d.parameters.length) (parseMethodDescriptor yX5_isPerson.desc) = some 1 from by decide +kernel) ⟨hdep, by decide⟩ hroom hsr hd hsp
abbrev e_X5_isRule : ME := (cX5_isRule, (RX5, (2, ((some .boolean), (0, (0, 1))))))
theorem dX5_isRule_0 : decode cX5_isRule 0 = .ok (.iload_n 1, 1) := by decide +kernel
theorem dX5_isRule_1 : decode cX5_isRule 1 = .ok (.ifCond .lt 15, 3) := by decide +kernel
theorem dX5_isRule_4 : decode cX5_isRule 4 = .ok (.iload_n 1, 1) := by decide +kernel
theorem dX5_isRule_5 : decode cX5_isRule 5 = .ok (.aload_n 0, 1) := by decide +kernel
theorem dX5_isRule_6 : decode cX5_isRule 6 = .ok (.getfield 34, 3) := by decide +kernel
theorem dX5_isRule_9 : decode cX5_isRule 9 = .ok (.if_icmp .ge 7, 3) := by decide +kernel
theorem dX5_isRule_12 : decode cX5_isRule 12 = .ok (.iconst 1, 1) := by decide +kernel
theorem dX5_isRule_13 : decode cX5_isRule 13 = .ok (.goto 4, 3) := by decide +kernel
theorem dX5_isRule_16 : decode cX5_isRule 16 = .ok (.iconst 0, 1) := by decide +kernel
theorem dX5_isRule_17 : decode cX5_isRule 17 = .ok (.ireturn, 1) := by decide +kernel
def Sp_X5_isRule (av : List AV) (m : AM) (Φ : Option AV → AM → Prop) : Prop := ∃ p, av = [vr 5 21, vi p] ∧ ∃ n, m.1 21 7 = nI n ∧ Φ (some (vi (nI (if inB p n = true then 1 else 0)))) m
set_option maxRecDepth 20000 in
set_option maxHeartbeats 4000000 in
theorem S_X5_isRule : Snd yX5_isRule e_X5_isRule Sp_X5_isRule := by
  refine Snd.of (by decide +kernel) rfl ?_ ?_
  · rintro av m Φ ⟨p, rfl, _⟩; exact Nat.le_of_ble_eq_true rfl
  rintro av m Φ ⟨p, rfl, n, hn, h⟩ hav hty
  show B e_X5_isRule Φ 0 [some (vr 5 21), some (vi p)] [] m (0, 0)
  refine b_iloadN (pc := 0) 1 dX5_isRule_0 rfl rfl ?_
  refine b_if_lt (pc := 1) 16 dX5_isRule_1 (by decide) (fun c1 => ?_) (fun c1 => ?_)
  refine b_iconst (pc := 16) (nI 0) dX5_isRule_16 (by decide) ?_
  refine b_zret (pc := 17) rfl ?_ dX5_isRule_17 ⟨Nat.le_of_ble_eq_true rfl, Nat.le_of_ble_eq_true rfl⟩ ?_
  rotate_left -- leaf 0: bool at 17
  rotate_left -- leaf 1: return at 17
  refine b_iloadN (pc := 4) 1 dX5_isRule_4 rfl rfl ?_
  refine b_aloadN (pc := 5) 0 dX5_isRule_5 rfl rfl ?_
  refine gf5_7 (pc := 6) k156 dX5_isRule_6 ?_
  refine b_icmp_ge (pc := 9) 16 dX5_isRule_9 (by decide) (fun c9 => ?_) (fun c9 => ?_)
  refine b_iconst (pc := 16) (nI 0) dX5_isRule_16 (by decide) ?_
  refine b_zret (pc := 17) rfl ?_ dX5_isRule_17 ⟨Nat.le_of_ble_eq_true rfl, Nat.le_of_ble_eq_true rfl⟩ ?_
  rotate_left -- leaf 2: bool at 17
  rotate_left -- leaf 3: return at 17
  refine b_iconst (pc := 12) (nI 1) dX5_isRule_12 (by decide) ?_
  refine b_goto (pc := 13) 17 dX5_isRule_13 (by decide) ?_
  refine b_zret (pc := 17) rfl ?_ dX5_isRule_17 ⟨Nat.le_of_ble_eq_true rfl, Nat.le_of_ble_eq_true rfl⟩ ?_
  rotate_left -- leaf 4: bool at 17
  rotate_left -- leaf 5: return at 17
  -- leaves: 0 bool at 17; 1 return at 17; 2 bool at 17; 3 return at 17; 4 bool at 17; 5 return at 17
  · exact Or.inl rfl
  · rw [inB_f1 c1] at h; exact h
  · exact Or.inl rfl
  · rw [hn] at c9; rw [inB_f2 c9] at h; exact h
  · exact Or.inr rfl
  · rw [hn] at c9; rw [inB_t c1 c9] at h; exact h
theorem call_X5_isRule {E : ME} {Φ : Option AV → AM → Prop} {pc : Nat} {L : List (Option AV)} {st : List AV} {m : AM} {a : Nat × Nat} {idx : Nat} {x0 : AV} {i : Nat} (hl : Cond.methodLink E.2.1 idx yX5_isRule ∈ TB) (hdep : 1 + 1 ≤ E.2.2.2.2.2.2) (hroom : a.1 + 0 ≤ E.2.2.2.2.1 ∧ a.2 + 0 ≤ E.2.2.2.2.2.1) (hsr : st.length ≤ 4) (hd : decode E.1 pc = .ok (.invokevirtual idx, 3)) (hsp : Sp_X5_isRule [vr 5 i, x0] m (fun r m2 => B E Φ (pc + 3) L (r.toList ++ st) m2 a)) : B E Φ pc L (x0 :: vr 5 i :: st) m a := b_callV S_X5_isRule [x0] (RX5, TX5, 9) rfl rfl (by decide) (Or.inl hl) k706 k707 k72 k708 (show _ ∧ _ ∧ Option.map (fun d => d.parameters.length) (parseMethodDescriptor yX5_isRule.desc) = some 1 from by decide +kernel) ⟨hdep, by decide⟩ hroom hsr hd hsp
abbrev e_X5_isSaying : ME := (cX5_isSaying, (RX5, (2, ((some .boolean), (0, (0, 1))))))
theorem dX5_isSaying_0 : decode cX5_isSaying 0 = .ok (.iload_n 1, 1) := by decide +kernel
theorem dX5_isSaying_1 : decode cX5_isSaying 1 = .ok (.ifCond .lt 17, 3) := by decide +kernel
theorem dX5_isSaying_4 : decode cX5_isSaying 4 = .ok (.iload_n 1, 1) := by decide +kernel
theorem dX5_isSaying_5 : decode cX5_isSaying 5 = .ok (.iconst 2, 1) := by decide +kernel
theorem dX5_isSaying_6 : decode cX5_isSaying 6 = .ok (.aload_n 0, 1) := by decide +kernel
theorem dX5_isSaying_7 : decode cX5_isSaying 7 = .ok (.getfield 24, 3) := by decide +kernel
theorem dX5_isSaying_10 : decode cX5_isSaying 10 = .ok (.imul, 1) := by decide +kernel
theorem dX5_isSaying_11 : decode cX5_isSaying 11 = .ok (.if_icmp .ge 7, 3) := by decide +kernel
theorem dX5_isSaying_14 : decode cX5_isSaying 14 = .ok (.iconst 1, 1) := by decide +kernel
theorem dX5_isSaying_15 : decode cX5_isSaying 15 = .ok (.goto 4, 3) := by decide +kernel
theorem dX5_isSaying_18 : decode cX5_isSaying 18 = .ok (.iconst 0, 1) := by decide +kernel
theorem dX5_isSaying_19 : decode cX5_isSaying 19 = .ok (.ireturn, 1) := by decide +kernel
def Sp_X5_isSaying (av : List AV) (m : AM) (Φ : Option AV → AM → Prop) : Prop := ∃ p, av = [vr 5 21, vi p] ∧ ∃ n, m.1 21 4 = nI n ∧ Φ (some (vi (nI (if inB p (2 * n) = true then 1 else 0)))) m
set_option maxRecDepth 20000 in
set_option maxHeartbeats 4000000 in
theorem S_X5_isSaying : Snd yX5_isSaying e_X5_isSaying Sp_X5_isSaying := by
  refine Snd.of (by decide +kernel) rfl ?_ ?_
  · rintro av m Φ ⟨p, rfl, _⟩; exact Nat.le_of_ble_eq_true rfl
  rintro av m Φ ⟨p, rfl, n, hn, h⟩ hav hty
  show B e_X5_isSaying Φ 0 [some (vr 5 21), some (vi p)] [] m (0, 0)
  refine b_iloadN (pc := 0) 1 dX5_isSaying_0 rfl rfl ?_
  refine b_if_lt (pc := 1) 18 dX5_isSaying_1 (by decide) (fun c1 => ?_) (fun c1 => ?_)
  refine b_iconst (pc := 18) (nI 0) dX5_isSaying_18 (by decide) ?_
  refine b_zret (pc := 19) rfl ?_ dX5_isSaying_19 ⟨Nat.le_of_ble_eq_true rfl, Nat.le_of_ble_eq_true rfl⟩ ?_
  rotate_left -- leaf 0: bool at 19
  rotate_left -- leaf 1: return at 19
  refine b_iloadN (pc := 4) 1 dX5_isSaying_4 rfl rfl ?_
  refine b_iconst (pc := 5) (nI 2) dX5_isSaying_5 (by decide) ?_
  refine b_aloadN (pc := 6) 0 dX5_isSaying_6 rfl rfl ?_
  refine gf5_4 (pc := 7) k142 dX5_isSaying_7 ?_
  refine b_imul (pc := 10) dX5_isSaying_10 ?_
  refine b_icmp_ge (pc := 11) 18 dX5_isSaying_11 (by decide) (fun c11 => ?_) (fun c11 => ?_)
  refine b_iconst (pc := 18) (nI 0) dX5_isSaying_18 (by decide) ?_
  refine b_zret (pc := 19) rfl ?_ dX5_isSaying_19 ⟨Nat.le_of_ble_eq_true rfl, Nat.le_of_ble_eq_true rfl⟩ ?_
  rotate_left -- leaf 2: bool at 19
  rotate_left -- leaf 3: return at 19
  refine b_iconst (pc := 14) (nI 1) dX5_isSaying_14 (by decide) ?_
  refine b_goto (pc := 15) 19 dX5_isSaying_15 (by decide) ?_
  refine b_zret (pc := 19) rfl ?_ dX5_isSaying_19 ⟨Nat.le_of_ble_eq_true rfl, Nat.le_of_ble_eq_true rfl⟩ ?_
  rotate_left -- leaf 4: bool at 19
  rotate_left -- leaf 5: return at 19
  -- leaves: 0 bool at 19; 1 return at 19; 2 bool at 19; 3 return at 19; 4 bool at 19; 5 return at 19
  · exact Or.inl rfl
  · rw [inB_f1 c1] at h; exact h
  · exact Or.inl rfl
  · rw [hn, n_mul] at c11; rw [inB_f2 c11] at h; exact h
  · exact Or.inr rfl
  · rw [hn, n_mul] at c11; rw [inB_t c1 c11] at h; exact h
theorem call_X5_isSaying {E : ME} {Φ : Option AV → AM → Prop} {pc : Nat} {L : List (Option AV)} {st : List AV} {m : AM} {a : Nat × Nat} {idx : Nat} {x0 : AV} {i : Nat} (hl : Cond.methodLink E.2.1 idx yX5_isSaying ∈ TB) (hdep : 1 + 1 ≤ E.2.2.2.2.2.2) (hroom : a.1 + 0 ≤ E.2.2.2.2.1 ∧ a.2 + 0 ≤ E.2.2.2.2.2.1) (hsr : st.length ≤ 4) (hd : decode E.1 pc = .ok (.invokevirtual idx, 3)) (hsp : Sp_X5_isSaying [vr 5 i, x0] m (fun r m2 => B E Φ (pc + 3) L (r.toList ++ st) m2 a)) : B E Φ pc L (x0 :: vr 5 i :: st) m a := b_callV S_X5_isSaying [x0] (RX5, TX5, 9) rfl rfl (by decide) (Or.inl hl) k647 k648 k72 k649 (show _ ∧ _ ∧ Option.map (fun d => d.parameters.length) (parseMethodDescriptor yX5_isSaying.desc) = some 1 from by decide +kernel) ⟨hdep, by decide⟩ hroom hsr hd hsp
abbrev e_X5_areFacts : ME := (cX5_areFacts, (RX5, (2, ((some .boolean), (0, (0, 1))))))
theorem dX5_areFacts_0 : decode cX5_areFacts 0 = .ok (.iload_n 1, 1) := by decide +kernel
theorem dX5_areFacts_1 : decode cX5_areFacts 1 = .ok (.ifCond .lt 17, 3) := by decide +kernel
theorem dX5_areFacts_4 : decode cX5_areFacts 4 = .ok (.iload_n 1, 1) := by decide +kernel
theorem dX5_areFacts_5 : decode cX5_areFacts 5 = .ok (.iconst 1, 1) := by decide +kernel
theorem dX5_areFacts_6 : decode cX5_areFacts 6 = .ok (.aload_n 0, 1) := by decide +kernel
theorem dX5_areFacts_7 : decode cX5_areFacts 7 = .ok (.getfield 24, 3) := by decide +kernel
theorem dX5_areFacts_10 : decode cX5_areFacts 10 = .ok (.ishl, 1) := by decide +kernel
theorem dX5_areFacts_11 : decode cX5_areFacts 11 = .ok (.if_icmp .ge 7, 3) := by decide +kernel
theorem dX5_areFacts_14 : decode cX5_areFacts 14 = .ok (.iconst 1, 1) := by decide +kernel
theorem dX5_areFacts_15 : decode cX5_areFacts 15 = .ok (.goto 4, 3) := by decide +kernel
theorem dX5_areFacts_18 : decode cX5_areFacts 18 = .ok (.iconst 0, 1) := by decide +kernel
theorem dX5_areFacts_19 : decode cX5_areFacts 19 = .ok (.ireturn, 1) := by decide +kernel
def Sp_X5_areFacts (av : List AV) (m : AM) (Φ : Option AV → AM → Prop) : Prop := ∃ p, av = [vr 5 21, vi p] ∧ ∃ n, m.1 21 4 = nI n ∧ n ≤ 6 ∧ Φ (some (vi (nI (if inB p (2 ^ n) = true then 1 else 0)))) m
set_option maxRecDepth 20000 in
set_option maxHeartbeats 4000000 in
theorem S_X5_areFacts : Snd yX5_areFacts e_X5_areFacts Sp_X5_areFacts := by
  refine Snd.of (by decide +kernel) rfl ?_ ?_
  · rintro av m Φ ⟨p, rfl, _⟩; exact Nat.le_of_ble_eq_true rfl
  rintro av m Φ ⟨p, rfl, n, hn, hn6, h⟩ hav hty
  show B e_X5_areFacts Φ 0 [some (vr 5 21), some (vi p)] [] m (0, 0)
  refine b_iloadN (pc := 0) 1 dX5_areFacts_0 rfl rfl ?_
  refine b_if_lt (pc := 1) 18 dX5_areFacts_1 (by decide) (fun c1 => ?_) (fun c1 => ?_)
  refine b_iconst (pc := 18) (nI 0) dX5_areFacts_18 (by decide) ?_
  refine b_zret (pc := 19) rfl ?_ dX5_areFacts_19 ⟨Nat.le_of_ble_eq_true rfl, Nat.le_of_ble_eq_true rfl⟩ ?_
  rotate_left -- leaf 0: bool at 19
  rotate_left -- leaf 1: return at 19
  refine b_iloadN (pc := 4) 1 dX5_areFacts_4 rfl rfl ?_
  refine b_iconst (pc := 5) (nI 1) dX5_areFacts_5 (by decide) ?_
  refine b_aloadN (pc := 6) 0 dX5_areFacts_6 rfl rfl ?_
  refine gf5_4 (pc := 7) k142 dX5_areFacts_7 ?_
  refine b_ishl (pc := 10) dX5_areFacts_10 ?_
  refine b_icmp_ge (pc := 11) 18 dX5_areFacts_11 (by decide) (fun c11 => ?_) (fun c11 => ?_)
  refine b_iconst (pc := 18) (nI 0) dX5_areFacts_18 (by decide) ?_
  refine b_zret (pc := 19) rfl ?_ dX5_areFacts_19 ⟨Nat.le_of_ble_eq_true rfl, Nat.le_of_ble_eq_true rfl⟩ ?_
  rotate_left -- leaf 2: bool at 19
  rotate_left -- leaf 3: return at 19
  refine b_iconst (pc := 14) (nI 1) dX5_areFacts_14 (by decide) ?_
  refine b_goto (pc := 15) 19 dX5_areFacts_15 (by decide) ?_
  refine b_zret (pc := 19) rfl ?_ dX5_areFacts_19 ⟨Nat.le_of_ble_eq_true rfl, Nat.le_of_ble_eq_true rfl⟩ ?_
  rotate_left -- leaf 4: bool at 19
  rotate_left -- leaf 5: return at 19
  -- leaves: 0 bool at 19; 1 return at 19; 2 bool at 19; 3 return at 19; 4 bool at 19; 5 return at 19
  · exact Or.inl rfl
  · rw [inB_f1 c1] at h; exact h
  · exact Or.inl rfl
  · rw [hn, n_pow (by omega)] at c11; rw [inB_f2 c11] at h; exact h
  · exact Or.inr rfl
  · rw [hn, n_pow (by omega)] at c11; rw [inB_t c1 c11] at h; exact h
theorem call_X5_areFacts {E : ME} {Φ : Option AV → AM → Prop} {pc : Nat} {L : List (Option AV)} {st : List AV} {m : AM} {a : Nat × Nat} {idx : Nat} {x0 : AV} {i : Nat} (hl : Cond.methodLink E.2.1 idx yX5_areFacts ∈ TB) (hdep : 1 + 1 ≤ E.2.2.2.2.2.2) (hroom : a.1 + 0 ≤ E.2.2.2.2.1 ∧ a.2 + 0 ≤ E.2.2.2.2.2.1) (hsr : st.length ≤ 4) (hd : decode E.1 pc = .ok (.invokevirtual idx, 3)) (hsp : Sp_X5_areFacts [vr 5 i, x0] m (fun r m2 => B E Φ (pc + 3) L (r.toList ++ st) m2 a)) : B E Φ pc L (x0 :: vr 5 i :: st) m a := b_callV S_X5_areFacts [x0] (RX5, TX5, 9) rfl rfl (by decide) (Or.inl hl) k746 k747 k72 k748 (show _ ∧ _ ∧ Option.map (fun d => d.parameters.length) (parseMethodDescriptor yX5_areFacts.desc) = some 1 from by decide +kernel) ⟨hdep, by decide⟩ hroom hsr hd hsp
/-- a person of kind q is among the first n -/
def hasK (C : Nat → Nat) (q : Nat) : Nat → Bool
  | 0 => false
  | n + 1 => hasK C q n || decide (C (40 + 2 * n) = q)
abbrev e_X5_hasKind : ME := (cX5_hasKind, (RX5, (3, ((some .boolean), (0, (0, 1))))))
theorem dX5_hasKind_0 : decode cX5_hasKind 0 = .ok (.iconst 0, 1) := by decide +kernel
theorem dX5_hasKind_1 : decode cX5_hasKind 1 = .ok (.istore_n 2, 1) := by decide +kernel
theorem dX5_hasKind_2 : decode cX5_hasKind 2 = .ok (.iload_n 2, 1) := by decide +kernel
theorem dX5_hasKind_3 : decode cX5_hasKind 3 = .ok (.aload_n 0, 1) := by decide +kernel
theorem dX5_hasKind_4 : decode cX5_hasKind 4 = .ok (.getfield 37, 3) := by decide +kernel
theorem dX5_hasKind_7 : decode cX5_hasKind 7 = .ok (.if_icmp .ge 21, 3) := by decide +kernel
theorem dX5_hasKind_10 : decode cX5_hasKind 10 = .ok (.aload_n 0, 1) := by decide +kernel
theorem dX5_hasKind_11 : decode cX5_hasKind 11 = .ok (.getfield 21, 3) := by decide +kernel
theorem dX5_hasKind_14 : decode cX5_hasKind 14 = .ok (.iload_n 2, 1) := by decide +kernel
theorem dX5_hasKind_15 : decode cX5_hasKind 15 = .ok (.iaload, 1) := by decide +kernel
theorem dX5_hasKind_16 : decode cX5_hasKind 16 = .ok (.iload_n 1, 1) := by decide +kernel
theorem dX5_hasKind_17 : decode cX5_hasKind 17 = .ok (.if_icmp .ne 5, 3) := by decide +kernel
theorem dX5_hasKind_20 : decode cX5_hasKind 20 = .ok (.iconst 1, 1) := by decide +kernel
theorem dX5_hasKind_21 : decode cX5_hasKind 21 = .ok (.ireturn, 1) := by decide +kernel
theorem dX5_hasKind_22 : decode cX5_hasKind 22 = .ok (.iinc 2 1, 3) := by decide +kernel
theorem dX5_hasKind_25 : decode cX5_hasKind 25 = .ok (.goto (-23), 3) := by decide +kernel
theorem dX5_hasKind_28 : decode cX5_hasKind 28 = .ok (.iconst 0, 1) := by decide +kernel
theorem dX5_hasKind_29 : decode cX5_hasKind 29 = .ok (.ireturn, 1) := by decide +kernel
def Sp_X5_hasKind (av : List AV) (m : AM) (Φ : Option AV → AM → Prop) : Prop := ∃ x, av = [vr 5 21, vi x] ∧ ∃ C q, BR m C ∧ x = nI q ∧ q ≤ 5 ∧ Φ (some (vi (nI (if hasK C q (C 4) = true then 1 else 0)))) m
theorem hasK_iff (C : Nat → Nat) (q : Nat) : ∀ n, hasK C q n = true ↔ ∃ p, p < n ∧ C (40 + 2 * p) = q
  | 0 => by simp [hasK]
  | n + 1 => by
    have ih := hasK_iff C q n
    unfold hasK
    rw [Bool.or_eq_true, ih, decide_eq_true_eq]
    constructor
    · rintro (⟨p, h1, h2⟩ | h)
      · exact ⟨p, by omega, h2⟩
      · exact ⟨n, by omega, h⟩
    · rintro ⟨p, h1, h2⟩
      rcases Nat.lt_or_ge p n with z | z
      · exact Or.inl ⟨p, z, h2⟩
      · right
        rw [show n = p by omega]; exact h2
set_option maxRecDepth 20000 in
set_option maxHeartbeats 4000000 in
theorem S_X5_hasKind : Snd yX5_hasKind e_X5_hasKind Sp_X5_hasKind := by
  refine Snd.of (by decide +kernel) rfl ?_ ?_
  · rintro av m Φ ⟨x, rfl, _⟩; exact Nat.le_of_ble_eq_true rfl
  rintro av m Φ ⟨x, rfl, C, q, hB, rfl, hq, h⟩ hav hty
  show B e_X5_hasKind Φ 0 [some (vr 5 21), some (vi (nI q)), none] [] m (0, 0)
  obtain ⟨hv, hL, hS, hM, hC⟩ := hB
  have h5 := hv.2.2.2.2.1.2
  have loop : ∀ n p, C 4 + 1 ≤ p + n → p ≤ C 4 → hasK C q p = false → B e_X5_hasKind Φ 2 [some (vr 5 21), some (vi (nI q)), some (vi (nI p))] [] m (0, 0) := by
    intro n
    induction n with
    | zero => intro p h1 h2; omega
    | succ n ih =>
      intro p h1 h2 h3
      refine b_iloadN (pc := 2) 2 dX5_hasKind_2 rfl rfl ?_
      refine b_aloadN (pc := 3) 0 dX5_hasKind_3 rfl rfl ?_
      refine gf5_8 (pc := 4) k160 dX5_hasKind_4 ?_
      refine b_icmp_ge (pc := 7) 28 dX5_hasKind_7 (by decide) (fun c7 => ?_) (fun c7 => ?_)
      refine b_iconst (pc := 28) (nI 0) dX5_hasKind_28 (by decide) ?_
      refine b_zret (pc := 29) rfl ?_ dX5_hasKind_29 ⟨Nat.le_of_ble_eq_true rfl, Nat.le_of_ble_eq_true rfl⟩ ?_
      rotate_left -- leaf 0: bool at 29
      rotate_left -- leaf 1: return at 29
      refine b_aloadN (pc := 10) 0 dX5_hasKind_10 rfl rfl ?_
      refine gf5_3 (pc := 11) 25 rfl k136 dX5_hasKind_11 ?_
      refine b_iloadN (pc := 14) 2 dX5_hasKind_14 rfl rfl ?_
      refine b_iald (pc := 15) (by decide) ?_ dX5_hasKind_15 ?_
      rotate_left -- leaf 2: index at 15
      refine b_iloadN (pc := 16) 1 dX5_hasKind_16 rfl rfl ?_
      refine b_icmp_ne (pc := 17) 22 dX5_hasKind_17 (by decide) (fun c17 => ?_) (fun c17 => ?_)
      refine inc2 (pc := 22) notL_i (by decide) dX5_hasKind_22 ?_
      refine b_goto (pc := 25) 2 dX5_hasKind_25 (by decide) ?_
      rotate_left -- leaf 3: at 2
      refine b_iconst (pc := 20) (nI 1) dX5_hasKind_20 (by decide) ?_
      refine b_zret (pc := 21) rfl ?_ dX5_hasKind_21 ⟨Nat.le_of_ble_eq_true rfl, Nat.le_of_ble_eq_true rfl⟩ ?_
      rotate_left -- leaf 4: bool at 21
      rotate_left -- leaf 5: return at 21
      -- leaves: 0 bool at 29; 1 return at 29; 2 index at 15; 3 at 2; 4 bool at 21; 5 return at 21
      · exact Or.inl rfl
      · rw [hL.2.2.2.1, n_le (by omega) (by omega)] at c7
        rw [show p = C 4 by omega] at h3
        rw [h3] at h
        exact h
      · rw [hL.2.2.2.1, n_le (by omega) (by omega)] at c7
        exact n_in (by omega) (by omega)
      · rw [hL.2.2.2.1, n_le (by omega) (by omega)] at c7
        have hk := (hv.2.2.2.2.2.2.2.2.2 p (by omega)).1
        rw [n_cl (by omega), hL.2.2.2.2.2 p (by omega), n_eq (by omega) (by omega)] at c17
        rw [n_inc]
        refine ih (p + 1) (by omega) (by omega) ?_
        unfold hasK
        rw [h3, decide_eq_false c17]
        rfl
      · exact Or.inr rfl
      · rw [hL.2.2.2.1, n_le (by omega) (by omega)] at c7
        have hk := (hv.2.2.2.2.2.2.2.2.2 p (by omega)).1
        rw [n_cl (by omega), hL.2.2.2.2.2 p (by omega), n_eq (by omega) (by omega)] at c17
        rw [(hasK_iff C q (C 4)).mpr ⟨p, by omega, c17⟩] at h
        exact h
  refine b_iconst (pc := 0) (nI 0) dX5_hasKind_0 (by decide) ?_
  refine siN2 (pc := 1) rfl notL_i (by decide) dX5_hasKind_1 ?_
  rotate_left -- leaf 0: at 2
  -- leaves: 0 at 2
  exact loop (C 4 + 1) 0 (by omega) (by omega) rfl
theorem call_X5_hasKind {E : ME} {Φ : Option AV → AM → Prop} {pc : Nat} {L : List (Option AV)} {st : List AV} {m : AM} {a : Nat × Nat} {idx : Nat} {x0 : AV} {i : Nat} (hl : Cond.methodLink E.2.1 idx yX5_hasKind ∈ TB) (hdep : 1 + 1 ≤ E.2.2.2.2.2.2) (hroom : a.1 + 0 ≤ E.2.2.2.2.1 ∧ a.2 + 0 ≤ E.2.2.2.2.2.1) (hsr : st.length ≤ 4) (hd : decode E.1 pc = .ok (.invokevirtual idx, 3)) (hsp : Sp_X5_hasKind [vr 5 i, x0] m (fun r m2 => B E Φ (pc + 3) L (r.toList ++ st) m2 a)) : B E Φ pc L (x0 :: vr 5 i :: st) m a := b_callV S_X5_hasKind [x0] (RX5, TX5, 9) rfl rfl (by decide) (Or.inl hl) k762 k763 k72 k764 (show _ ∧ _ ∧ Option.map (fun d => d.parameters.length) (parseMethodDescriptor yX5_hasKind.desc) = some 1 from by decide +kernel) ⟨hdep, by decide⟩ hroom hsr hd hsp
abbrev e_X10_isNoBit : ME := (cX10_isNoBit, (RX10, (1, ((some .boolean), (0, (0, 1))))))
theorem dX10_isNoBit_0 : decode cX10_isNoBit 0 = .ok (.iload_n 0, 1) := by decide +kernel
theorem dX10_isNoBit_1 : decode cX10_isNoBit 1 = .ok (.ifCond .eq 12, 3) := by decide +kernel
theorem dX10_isNoBit_4 : decode cX10_isNoBit 4 = .ok (.iload_n 0, 1) := by decide +kernel
theorem dX10_isNoBit_5 : decode cX10_isNoBit 5 = .ok (.iconst 1, 1) := by decide +kernel
theorem dX10_isNoBit_6 : decode cX10_isNoBit 6 = .ok (.if_icmp .eq 7, 3) := by decide +kernel
theorem dX10_isNoBit_9 : decode cX10_isNoBit 9 = .ok (.iconst 1, 1) := by decide +kernel
theorem dX10_isNoBit_10 : decode cX10_isNoBit 10 = .ok (.goto 4, 3) := by decide +kernel
theorem dX10_isNoBit_13 : decode cX10_isNoBit 13 = .ok (.iconst 0, 1) := by decide +kernel
theorem dX10_isNoBit_14 : decode cX10_isNoBit 14 = .ok (.ireturn, 1) := by decide +kernel
def Sp_X10_isNoBit (av : List AV) (m : AM) (Φ : Option AV → AM → Prop) : Prop := ∃ p, av = [vi p] ∧ Φ (some (vi (nI (if inB p 2 = true then 0 else 1)))) m
theorem inB2 (p : Int32) : inB p 2 = true ↔ p = nI 0 ∨ p = nI 1 := by
  rw [inB_iff (by omega)]
  constructor
  · rintro ⟨j, hj, rfl⟩
    rcases (by omega : j = 0 ∨ j = 1) with rfl | rfl
    · exact Or.inl rfl
    · exact Or.inr rfl
  · rintro (rfl | rfl)
    · exact ⟨0, by omega, rfl⟩
    · exact ⟨1, by omega, rfl⟩
set_option maxRecDepth 20000 in
set_option maxHeartbeats 4000000 in
theorem S_X10_isNoBit : Snd yX10_isNoBit e_X10_isNoBit Sp_X10_isNoBit := by
  refine Snd.of (by decide +kernel) rfl ?_ ?_
  · rintro av m Φ ⟨p, rfl, _⟩; exact Nat.le_of_ble_eq_true rfl
  rintro av m Φ ⟨p, rfl, h⟩ hav hty
  show B e_X10_isNoBit Φ 0 [some (vi p)] [] m (0, 0)
  refine b_iloadN (pc := 0) 0 dX10_isNoBit_0 rfl rfl ?_
  refine b_if_eq (pc := 1) 13 dX10_isNoBit_1 (by decide) (fun c1 => ?_) (fun c1 => ?_)
  refine b_iconst (pc := 13) (nI 0) dX10_isNoBit_13 (by decide) ?_
  refine b_zret (pc := 14) rfl ?_ dX10_isNoBit_14 ⟨Nat.le_of_ble_eq_true rfl, Nat.le_of_ble_eq_true rfl⟩ ?_
  rotate_left -- leaf 0: bool at 14
  rotate_left -- leaf 1: return at 14
  refine b_iloadN (pc := 4) 0 dX10_isNoBit_4 rfl rfl ?_
  refine b_iconst (pc := 5) (nI 1) dX10_isNoBit_5 (by decide) ?_
  refine b_icmp_eq (pc := 6) 13 dX10_isNoBit_6 (by decide) (fun c6 => ?_) (fun c6 => ?_)
  refine b_iconst (pc := 13) (nI 0) dX10_isNoBit_13 (by decide) ?_
  refine b_zret (pc := 14) rfl ?_ dX10_isNoBit_14 ⟨Nat.le_of_ble_eq_true rfl, Nat.le_of_ble_eq_true rfl⟩ ?_
  rotate_left -- leaf 2: bool at 14
  rotate_left -- leaf 3: return at 14
  refine b_iconst (pc := 9) (nI 1) dX10_isNoBit_9 (by decide) ?_
  refine b_goto (pc := 10) 14 dX10_isNoBit_10 (by decide) ?_
  refine b_zret (pc := 14) rfl ?_ dX10_isNoBit_14 ⟨Nat.le_of_ble_eq_true rfl, Nat.le_of_ble_eq_true rfl⟩ ?_
  rotate_left -- leaf 4: bool at 14
  rotate_left -- leaf 5: return at 14
  -- leaves: 0 bool at 14; 1 return at 14; 2 bool at 14; 3 return at 14; 4 bool at 14; 5 return at 14
  all_goals first | exact Or.inl rfl | exact Or.inr rfl | skip
  · rw [if_pos ((inB2 p).mpr (Or.inl c1))] at h; exact h
  · rw [if_pos ((inB2 p).mpr (Or.inr c6))] at h; exact h
  · have e : ¬ inB p 2 = true := fun q => by
      rcases (inB2 p).mp q with z | z
      · exact c1 z
      · exact c6 z
    rw [if_neg e] at h; exact h
theorem call_X10_isNoBit {E : ME} {Φ : Option AV → AM → Prop} {pc : Nat} {L : List (Option AV)} {st : List AV} {m : AM} {a : Nat × Nat} {idx : Nat} {x0 : AV} (hl : Cond.methodLink E.2.1 idx yX10_isNoBit ∈ TB) (hdep : 1 + 1 ≤ E.2.2.2.2.2.2) (hroom : a.1 + 0 ≤ E.2.2.2.2.1 ∧ a.2 + 0 ≤ E.2.2.2.2.2.1) (hsr : st.length ≤ 4) (hd : decode E.1 pc = .ok (.invokestatic idx, 3)) (hsp : Sp_X10_isNoBit [x0] m (fun r m2 => B E Φ (pc + 3) L (r.toList ++ st) m2 a)) : B E Φ pc L (x0 :: st) m a := b_callS S_X10_isNoBit [x0] (Or.inl hl) k710 k68 k711 (show _ ∧ _ ∧ Option.map (fun d => d.parameters.length) (parseMethodDescriptor yX10_isNoBit.desc) = some 1 from by decide +kernel) ⟨hdep, by decide⟩ hroom hsr hd hsp
abbrev e_X10_isRow : ME := (cX10_isRow, (RX10, (1, ((some .boolean), (0, (0, 1))))))
theorem dX10_isRow_0 : decode cX10_isRow 0 = .ok (.iload_n 0, 1) := by decide +kernel
theorem dX10_isRow_1 : decode cX10_isRow 1 = .ok (.ifCond .lt 13, 3) := by decide +kernel
theorem dX10_isRow_4 : decode cX10_isRow 4 = .ok (.iload_n 0, 1) := by decide +kernel
theorem dX10_isRow_5 : decode cX10_isRow 5 = .ok (.bipush 8, 2) := by decide +kernel
theorem dX10_isRow_7 : decode cX10_isRow 7 = .ok (.if_icmp .ge 7, 3) := by decide +kernel
theorem dX10_isRow_10 : decode cX10_isRow 10 = .ok (.iconst 1, 1) := by decide +kernel
theorem dX10_isRow_11 : decode cX10_isRow 11 = .ok (.goto 4, 3) := by decide +kernel
theorem dX10_isRow_14 : decode cX10_isRow 14 = .ok (.iconst 0, 1) := by decide +kernel
theorem dX10_isRow_15 : decode cX10_isRow 15 = .ok (.ireturn, 1) := by decide +kernel
def Sp_X10_isRow (av : List AV) (m : AM) (Φ : Option AV → AM → Prop) : Prop := ∃ p, av = [vi p] ∧ Φ (some (vi (nI (if inB p 8 = true then 1 else 0)))) m
set_option maxRecDepth 20000 in
set_option maxHeartbeats 4000000 in
theorem S_X10_isRow : Snd yX10_isRow e_X10_isRow Sp_X10_isRow := by
  refine Snd.of (by decide +kernel) rfl ?_ ?_
  · rintro av m Φ ⟨p, rfl, _⟩; exact Nat.le_of_ble_eq_true rfl
  rintro av m Φ ⟨p, rfl, h⟩ hav hty
  show B e_X10_isRow Φ 0 [some (vi p)] [] m (0, 0)
  refine b_iloadN (pc := 0) 0 dX10_isRow_0 rfl rfl ?_
  refine b_if_lt (pc := 1) 14 dX10_isRow_1 (by decide) (fun c1 => ?_) (fun c1 => ?_)
  refine b_iconst (pc := 14) (nI 0) dX10_isRow_14 (by decide) ?_
  refine b_zret (pc := 15) rfl ?_ dX10_isRow_15 ⟨Nat.le_of_ble_eq_true rfl, Nat.le_of_ble_eq_true rfl⟩ ?_
  rotate_left -- leaf 0: bool at 15
  rotate_left -- leaf 1: return at 15
  refine b_iloadN (pc := 4) 0 dX10_isRow_4 rfl rfl ?_
  refine b_bipush (pc := 5) (nI 8) dX10_isRow_5 (by decide) ?_
  refine b_icmp_ge (pc := 7) 14 dX10_isRow_7 (by decide) (fun c7 => ?_) (fun c7 => ?_)
  refine b_iconst (pc := 14) (nI 0) dX10_isRow_14 (by decide) ?_
  refine b_zret (pc := 15) rfl ?_ dX10_isRow_15 ⟨Nat.le_of_ble_eq_true rfl, Nat.le_of_ble_eq_true rfl⟩ ?_
  rotate_left -- leaf 2: bool at 15
  rotate_left -- leaf 3: return at 15
  refine b_iconst (pc := 10) (nI 1) dX10_isRow_10 (by decide) ?_
  refine b_goto (pc := 11) 15 dX10_isRow_11 (by decide) ?_
  refine b_zret (pc := 15) rfl ?_ dX10_isRow_15 ⟨Nat.le_of_ble_eq_true rfl, Nat.le_of_ble_eq_true rfl⟩ ?_
  rotate_left -- leaf 4: bool at 15
  rotate_left -- leaf 5: return at 15
  -- leaves: 0 bool at 15; 1 return at 15; 2 bool at 15; 3 return at 15; 4 bool at 15; 5 return at 15
  · exact Or.inl rfl
  · rw [inB_f1 c1] at h; exact h
  · exact Or.inl rfl
  · rw [inB_f2 c7] at h; exact h
  · exact Or.inr rfl
  · rw [inB_t c1 c7] at h; exact h
theorem call_X10_isRow {E : ME} {Φ : Option AV → AM → Prop} {pc : Nat} {L : List (Option AV)} {st : List AV} {m : AM} {a : Nat × Nat} {idx : Nat} {x0 : AV} (hl : Cond.methodLink E.2.1 idx yX10_isRow ∈ TB) (hdep : 1 + 1 ≤ E.2.2.2.2.2.2) (hroom : a.1 + 0 ≤ E.2.2.2.2.1 ∧ a.2 + 0 ≤ E.2.2.2.2.2.1) (hsr : st.length ≤ 4) (hd : decode E.1 pc = .ok (.invokestatic idx, 3)) (hsp : Sp_X10_isRow [x0] m (fun r m2 => B E Φ (pc + 3) L (r.toList ++ st) m2 a)) : B E Φ pc L (x0 :: st) m a := b_callS S_X10_isRow [x0] (Or.inl hl) k448 k68 k449 (show _ ∧ _ ∧ Option.map (fun d => d.parameters.length) (parseMethodDescriptor yX10_isRow.desc) = some 1 from by decide +kernel) ⟨hdep, by decide⟩ hroom hsr hd hsp
abbrev e_X10_isImage : ME := (cX10_isImage, (RX10, (1, ((some .boolean), (0, (0, 1))))))
theorem dX10_isImage_0 : decode cX10_isImage 0 = .ok (.iload_n 0, 1) := by decide +kernel
theorem dX10_isImage_1 : decode cX10_isImage 1 = .ok (.ifCond .lt 12, 3) := by decide +kernel
theorem dX10_isImage_4 : decode cX10_isImage 4 = .ok (.iload_n 0, 1) := by decide +kernel
theorem dX10_isImage_5 : decode cX10_isImage 5 = .ok (.iconst 2, 1) := by decide +kernel
theorem dX10_isImage_6 : decode cX10_isImage 6 = .ok (.if_icmp .ge 7, 3) := by decide +kernel
theorem dX10_isImage_9 : decode cX10_isImage 9 = .ok (.iconst 1, 1) := by decide +kernel
theorem dX10_isImage_10 : decode cX10_isImage 10 = .ok (.goto 4, 3) := by decide +kernel
theorem dX10_isImage_13 : decode cX10_isImage 13 = .ok (.iconst 0, 1) := by decide +kernel
theorem dX10_isImage_14 : decode cX10_isImage 14 = .ok (.ireturn, 1) := by decide +kernel
def Sp_X10_isImage (av : List AV) (m : AM) (Φ : Option AV → AM → Prop) : Prop := ∃ p, av = [vi p] ∧ Φ (some (vi (nI (if inB p 2 = true then 1 else 0)))) m
set_option maxRecDepth 20000 in
set_option maxHeartbeats 4000000 in
theorem S_X10_isImage : Snd yX10_isImage e_X10_isImage Sp_X10_isImage := by
  refine Snd.of (by decide +kernel) rfl ?_ ?_
  · rintro av m Φ ⟨p, rfl, _⟩; exact Nat.le_of_ble_eq_true rfl
  rintro av m Φ ⟨p, rfl, h⟩ hav hty
  show B e_X10_isImage Φ 0 [some (vi p)] [] m (0, 0)
  refine b_iloadN (pc := 0) 0 dX10_isImage_0 rfl rfl ?_
  refine b_if_lt (pc := 1) 13 dX10_isImage_1 (by decide) (fun c1 => ?_) (fun c1 => ?_)
  refine b_iconst (pc := 13) (nI 0) dX10_isImage_13 (by decide) ?_
  refine b_zret (pc := 14) rfl ?_ dX10_isImage_14 ⟨Nat.le_of_ble_eq_true rfl, Nat.le_of_ble_eq_true rfl⟩ ?_
  rotate_left -- leaf 0: bool at 14
  rotate_left -- leaf 1: return at 14
  refine b_iloadN (pc := 4) 0 dX10_isImage_4 rfl rfl ?_
  refine b_iconst (pc := 5) (nI 2) dX10_isImage_5 (by decide) ?_
  refine b_icmp_ge (pc := 6) 13 dX10_isImage_6 (by decide) (fun c6 => ?_) (fun c6 => ?_)
  refine b_iconst (pc := 13) (nI 0) dX10_isImage_13 (by decide) ?_
  refine b_zret (pc := 14) rfl ?_ dX10_isImage_14 ⟨Nat.le_of_ble_eq_true rfl, Nat.le_of_ble_eq_true rfl⟩ ?_
  rotate_left -- leaf 2: bool at 14
  rotate_left -- leaf 3: return at 14
  refine b_iconst (pc := 9) (nI 1) dX10_isImage_9 (by decide) ?_
  refine b_goto (pc := 10) 14 dX10_isImage_10 (by decide) ?_
  refine b_zret (pc := 14) rfl ?_ dX10_isImage_14 ⟨Nat.le_of_ble_eq_true rfl, Nat.le_of_ble_eq_true rfl⟩ ?_
  rotate_left -- leaf 4: bool at 14
  rotate_left -- leaf 5: return at 14
  -- leaves: 0 bool at 14; 1 return at 14; 2 bool at 14; 3 return at 14; 4 bool at 14; 5 return at 14
  · exact Or.inl rfl
  · rw [inB_f1 c1] at h; exact h
  · exact Or.inl rfl
  · rw [inB_f2 c6] at h; exact h
  · exact Or.inr rfl
  · rw [inB_t c1 c6] at h; exact h
theorem call_X10_isImage {E : ME} {Φ : Option AV → AM → Prop} {pc : Nat} {L : List (Option AV)} {st : List AV} {m : AM} {a : Nat × Nat} {idx : Nat} {x0 : AV} (hl : Cond.methodLink E.2.1 idx yX10_isImage ∈ TB) (hdep : 1 + 1 ≤ E.2.2.2.2.2.2) (hroom : a.1 + 0 ≤ E.2.2.2.2.1 ∧ a.2 + 0 ≤ E.2.2.2.2.2.1) (hsr : st.length ≤ 4) (hd : decode E.1 pc = .ok (.invokestatic idx, 3)) (hsp : Sp_X10_isImage [x0] m (fun r m2 => B E Φ (pc + 3) L (r.toList ++ st) m2 a)) : B E Φ pc L (x0 :: st) m a := b_callS S_X10_isImage [x0] (Or.inl hl) k961 k68 k962 (show _ ∧ _ ∧ Option.map (fun d => d.parameters.length) (parseMethodDescriptor yX10_isImage.desc) = some 1 from by decide +kernel) ⟨hdep, by decide⟩ hroom hsr hd hsp
end
section
/-! THE CLASS'S METHODS over the court: what they answer -/
def NoR (m : AM) (C : Nat → Nat) : Prop := (∀ j, j < 50 → C j = 0) ∧ m.1 21 4 = nI 0 ∧ m.1 21 6 = nI 0 ∧ m.1 21 7 = nI 0 ∧ m.1 21 8 = nI 0 ∧ m.1 26 1 = nI 0
/-- the bench holds C, open or none -/
def CR (m : AM) (C : Nat → Nat) : Prop := BR m C ∨ NoR m C
theorem CR.num {m : AM} {C : Nat → Nat} (h : CR m C) : m.1 21 4 = nI (C 0) ∧ m.1 21 6 = nI (C 2) ∧ m.1 21 7 = nI (C 3) ∧ m.1 21 8 = nI (C 4) ∧ m.1 26 1 = nI (C 1) := by
  rcases h with ⟨hv, hL, hS, hM, hC⟩ | ⟨h0, h1, h2, h3, h4, h5⟩
  · exact ⟨hL.1, hL.2.1, hL.2.2.1, hL.2.2.2.1, hS.1⟩
  · rw [h0 0 (by omega), h0 1 (by omega), h0 2 (by omega), h0 3 (by omega), h0 4 (by omega)]
    exact ⟨h1, h2, h3, h4, h5⟩
theorem CR.le {m : AM} {C : Nat → Nat} (h : CR m C) : C 0 ≤ 6 ∧ C 3 ≤ 8 ∧ C 4 ≤ 5 := by
  rcases h with ⟨hv, hL, hS, hM, hC⟩ | ⟨h0, h1, h2, h3, h4, h5⟩
  · exact ⟨hv.1.2, hv.2.2.2.1, hv.2.2.2.2.1.2⟩
  · rw [h0 0 (by omega), h0 3 (by omega), h0 4 (by omega)]
    omega
theorem CR.op {m : AM} {C : Nat → Nat} (h : CR m C) (h0 : 0 < C 0 ∨ 0 < C 3 ∨ 0 < C 4) : BR m C := by
  rcases h with h | ⟨h1, -⟩
  · exact h
  · rw [h1 0 (by omega), h1 3 (by omega), h1 4 (by omega)] at h0
    omega
theorem bT {b : Bool} (h : ¬ nI (if b = true then 1 else 0) = 0) : b = true := by
  cases b
  · exact absurd ((nb0 false).mpr rfl) h
  · rfl
theorem bF {b : Bool} (h : nI (if b = true then 1 else 0) = 0) : b = false := (nb0 b).mp h
theorem dT {b : Bool} (h : nI (if b = true then 0 else 1) = 0) : b = true := by
  cases b
  · exact absurd h (by decide)
  · rfl
theorem dF {b : Bool} (h : ¬ nI (if b = true then 0 else 1) = 0) : b = false := by
  cases b
  · rfl
  · exact absurd rfl h
theorem zT {n : Nat} (h : nI (if n = 0 then 0 else 1) = 0) : n = 0 := by
  by_cases q : n = 0
  · exact q
  · rw [if_neg q] at h; exact absurd h (by decide)
theorem zF {n : Nat} (h : ¬ nI (if n = 0 then 0 else 1) = 0) : 0 < n := by
  by_cases q : n = 0
  · rw [if_pos q] at h; exact absurd rfl h
  · omega
def cellV (C : Nat → Nat) (p : Int32) : Int32 := if inB p (C 4) = true then nI (C (41 + 2 * p.toNatClampNeg)) else -1000001
def kindV (C : Nat → Nat) (p : Int32) : Int32 := if inB p (C 4) = true then nI (C (40 + 2 * p.toNatClampNeg)) else -1000001
def makesV (C : Nat → Nat) (p s : Int32) : Int32 := if (inB p (C 4) && inB s (2 * C 0)) = true then oI (outN C (C (40 + 2 * p.toNatClampNeg)) (C 1) (C 5) s.toNatClampNeg) else -1000001
def stdN (w : Nat) : Nat := if w = 0 then 1 else w + 4
def standV (C : Nat → Nat) (w : Int32) : Int32 := if C 0 = 0 then -1000002 else if inB w 4 = true then nI (C (stdN w.toNatClampNeg)) else -1000001
def ruleV (C : Nat → Nat) (r w : Int32) : Int32 := if (inB r (C 3) && inB w 4) = true then nI (C (8 + 4 * r.toNatClampNeg + w.toNatClampNeg)) else -1000001
abbrev e_X10_cell : ME := (cX10_cell, (RX10, (2, ((some .int), (0, (0, 8))))))
theorem dX10_cell_0 : decode cX10_cell 0 = .ok (.aload_n 0, 1) := by decide +kernel
theorem dX10_cell_1 : decode cX10_cell 1 = .ok (.getfield 26, 3) := by decide +kernel
theorem dX10_cell_4 : decode cX10_cell 4 = .ok (.getfield 127, 3) := by decide +kernel
theorem dX10_cell_7 : decode cX10_cell 7 = .ok (.iload_n 1, 1) := by decide +kernel
theorem dX10_cell_8 : decode cX10_cell 8 = .ok (.invokevirtual 147, 3) := by decide +kernel
theorem dX10_cell_11 : decode cX10_cell 11 = .ok (.ifCond .eq 18, 3) := by decide +kernel
theorem dX10_cell_14 : decode cX10_cell 14 = .ok (.aload_n 0, 1) := by decide +kernel
theorem dX10_cell_15 : decode cX10_cell 15 = .ok (.getfield 26, 3) := by decide +kernel
theorem dX10_cell_18 : decode cX10_cell 18 = .ok (.getfield 153, 3) := by decide +kernel
theorem dX10_cell_21 : decode cX10_cell 21 = .ok (.getfield 208, 3) := by decide +kernel
theorem dX10_cell_24 : decode cX10_cell 24 = .ok (.iload_n 1, 1) := by decide +kernel
theorem dX10_cell_25 : decode cX10_cell 25 = .ok (.iaload, 1) := by decide +kernel
theorem dX10_cell_26 : decode cX10_cell 26 = .ok (.goto 5, 3) := by decide +kernel
theorem dX10_cell_29 : decode cX10_cell 29 = .ok (.ldc 69, 2) := by decide +kernel
theorem dX10_cell_31 : decode cX10_cell 31 = .ok (.ireturn, 1) := by decide +kernel
def Sp_X10_cell (av : List AV) (m : AM) (Φ : Option AV → AM → Prop) : Prop := ∃ p, av = [vr 10 0, vi p] ∧ ∃ C, CR m C ∧ Φ (some (vi (cellV C p))) m
set_option maxRecDepth 20000 in
set_option maxHeartbeats 4000000 in
theorem S_X10_cell : Snd yX10_cell e_X10_cell Sp_X10_cell := by
  refine Snd.of (by decide +kernel) rfl ?_ ?_
  · rintro av m Φ ⟨p, rfl, _⟩; exact Nat.le_of_ble_eq_true rfl
  rintro av m Φ ⟨p, rfl, C, hC, h⟩ hav hty
  show B e_X10_cell Φ 0 [some (vr 10 0), some (vi p)] [] m (0, 0)
  unfold cellV at h
  have hle := hC.le
  refine b_aloadN (pc := 0) 0 dX10_cell_0 rfl rfl ?_
  refine gf10_2 (pc := 1) 20 rfl k417 dX10_cell_1 ?_
  refine gf2_0 (pc := 4) 21 rfl k269 dX10_cell_4 ?_
  refine b_iloadN (pc := 7) 1 dX10_cell_7 rfl rfl ?_
  refine call_X5_isPerson (pc := 8) k642 (by decide) ⟨Nat.le_of_ble_eq_true rfl, Nat.le_of_ble_eq_true rfl⟩ (Nat.le_of_ble_eq_true rfl) dX10_cell_8 ?_
  refine ⟨_, rfl, _, hC.num.2.2.2.1, ?_⟩
  refine b_if_eq (pc := 11) 29 dX10_cell_11 (by decide) (fun c11 => ?_) (fun c11 => ?_)
  refine b_ldc (pc := 29) k450 dX10_cell_29 ?_
  refine b_iret (pc := 31) rfl dX10_cell_31 ⟨Nat.le_of_ble_eq_true rfl, Nat.le_of_ble_eq_true rfl⟩ ?_
  rotate_left -- leaf 0: return at 31
  refine b_aloadN (pc := 14) 0 dX10_cell_14 rfl rfl ?_
  refine gf10_2 (pc := 15) 20 rfl k417 dX10_cell_15 ?_
  refine gf2_1 (pc := 18) 26 rfl k275 dX10_cell_18 ?_
  refine gf8_0 (pc := 21) 27 rfl k230 dX10_cell_21 ?_
  refine b_iloadN (pc := 24) 1 dX10_cell_24 rfl rfl ?_
  refine b_iald (pc := 25) (by decide) ?_ dX10_cell_25 ?_
  rotate_left -- leaf 1: index at 25
  refine b_goto (pc := 26) 31 dX10_cell_26 (by decide) ?_
  refine b_iret (pc := 31) rfl dX10_cell_31 ⟨Nat.le_of_ble_eq_true rfl, Nat.le_of_ble_eq_true rfl⟩ ?_
  rotate_left -- leaf 2: return at 31
  -- leaves: 0 return at 31; 1 index at 25; 2 return at 31
  · rw [bF c11] at h; exact h
  · obtain ⟨j, hj, rfl⟩ := (inB_iff (by omega)).mp (bT c11)
    exact n_in (by omega) (by omega)
  · rw [if_pos (bT c11)] at h
    obtain ⟨j, hj, rfl⟩ := (inB_iff (by omega)).mp (bT c11)
    rw [n_cl (by omega)] at h ⊢
    rw [(hC.op (Or.inr (Or.inr (by omega)))).2.2.1.2.2.2.2.2 j hj]
    exact h
theorem call_X10_cell {E : ME} {Φ : Option AV → AM → Prop} {pc : Nat} {L : List (Option AV)} {st : List AV} {m : AM} {a : Nat × Nat} {idx : Nat} {x0 : AV} {i : Nat} (hl : Cond.methodLink E.2.1 idx yX10_cell ∈ TB) (hdep : 8 + 1 ≤ E.2.2.2.2.2.2) (hroom : a.1 + 0 ≤ E.2.2.2.2.1 ∧ a.2 + 0 ≤ E.2.2.2.2.2.1) (hsr : st.length ≤ 4) (hd : decode E.1 pc = .ok (.invokevirtual idx, 3)) (hsp : Sp_X10_cell [vr 10 i, x0] m (fun r m2 => B E Φ (pc + 3) L (r.toList ++ st) m2 a)) : B E Φ pc L (x0 :: vr 10 i :: st) m a := b_callV S_X10_cell [x0] (RX10, TX10, 9) rfl rfl (by decide) (Or.inl hl) k729 k730 k68 k731 (show _ ∧ _ ∧ Option.map (fun d => d.parameters.length) (parseMethodDescriptor yX10_cell.desc) = some 1 from by decide +kernel) ⟨hdep, by decide⟩ hroom hsr hd hsp
abbrev e_X10_kind : ME := (cX10_kind, (RX10, (2, ((some .int), (0, (0, 8))))))
theorem dX10_kind_0 : decode cX10_kind 0 = .ok (.aload_n 0, 1) := by decide +kernel
theorem dX10_kind_1 : decode cX10_kind 1 = .ok (.getfield 26, 3) := by decide +kernel
theorem dX10_kind_4 : decode cX10_kind 4 = .ok (.getfield 127, 3) := by decide +kernel
theorem dX10_kind_7 : decode cX10_kind 7 = .ok (.iload_n 1, 1) := by decide +kernel
theorem dX10_kind_8 : decode cX10_kind 8 = .ok (.invokevirtual 147, 3) := by decide +kernel
theorem dX10_kind_11 : decode cX10_kind 11 = .ok (.ifCond .eq 18, 3) := by decide +kernel
theorem dX10_kind_14 : decode cX10_kind 14 = .ok (.aload_n 0, 1) := by decide +kernel
theorem dX10_kind_15 : decode cX10_kind 15 = .ok (.getfield 26, 3) := by decide +kernel
theorem dX10_kind_18 : decode cX10_kind 18 = .ok (.getfield 127, 3) := by decide +kernel
theorem dX10_kind_21 : decode cX10_kind 21 = .ok (.getfield 211, 3) := by decide +kernel
theorem dX10_kind_24 : decode cX10_kind 24 = .ok (.iload_n 1, 1) := by decide +kernel
theorem dX10_kind_25 : decode cX10_kind 25 = .ok (.iaload, 1) := by decide +kernel
theorem dX10_kind_26 : decode cX10_kind 26 = .ok (.goto 5, 3) := by decide +kernel
theorem dX10_kind_29 : decode cX10_kind 29 = .ok (.ldc 69, 2) := by decide +kernel
theorem dX10_kind_31 : decode cX10_kind 31 = .ok (.ireturn, 1) := by decide +kernel
def Sp_X10_kind (av : List AV) (m : AM) (Φ : Option AV → AM → Prop) : Prop := ∃ p, av = [vr 10 0, vi p] ∧ ∃ C, CR m C ∧ Φ (some (vi (kindV C p))) m
set_option maxRecDepth 20000 in
set_option maxHeartbeats 4000000 in
theorem S_X10_kind : Snd yX10_kind e_X10_kind Sp_X10_kind := by
  refine Snd.of (by decide +kernel) rfl ?_ ?_
  · rintro av m Φ ⟨p, rfl, _⟩; exact Nat.le_of_ble_eq_true rfl
  rintro av m Φ ⟨p, rfl, C, hC, h⟩ hav hty
  show B e_X10_kind Φ 0 [some (vr 10 0), some (vi p)] [] m (0, 0)
  unfold kindV at h
  have hle := hC.le
  refine b_aloadN (pc := 0) 0 dX10_kind_0 rfl rfl ?_
  refine gf10_2 (pc := 1) 20 rfl k417 dX10_kind_1 ?_
  refine gf2_0 (pc := 4) 21 rfl k269 dX10_kind_4 ?_
  refine b_iloadN (pc := 7) 1 dX10_kind_7 rfl rfl ?_
  refine call_X5_isPerson (pc := 8) k642 (by decide) ⟨Nat.le_of_ble_eq_true rfl, Nat.le_of_ble_eq_true rfl⟩ (Nat.le_of_ble_eq_true rfl) dX10_kind_8 ?_
  refine ⟨_, rfl, _, hC.num.2.2.2.1, ?_⟩
  refine b_if_eq (pc := 11) 29 dX10_kind_11 (by decide) (fun c11 => ?_) (fun c11 => ?_)
  refine b_ldc (pc := 29) k450 dX10_kind_29 ?_
  refine b_iret (pc := 31) rfl dX10_kind_31 ⟨Nat.le_of_ble_eq_true rfl, Nat.le_of_ble_eq_true rfl⟩ ?_
  rotate_left -- leaf 0: return at 31
  refine b_aloadN (pc := 14) 0 dX10_kind_14 rfl rfl ?_
  refine gf10_2 (pc := 15) 20 rfl k417 dX10_kind_15 ?_
  refine gf2_0 (pc := 18) 21 rfl k269 dX10_kind_18 ?_
  refine gf5_3 (pc := 21) 25 rfl k141 dX10_kind_21 ?_
  refine b_iloadN (pc := 24) 1 dX10_kind_24 rfl rfl ?_
  refine b_iald (pc := 25) (by decide) ?_ dX10_kind_25 ?_
  rotate_left -- leaf 1: index at 25
  refine b_goto (pc := 26) 31 dX10_kind_26 (by decide) ?_
  refine b_iret (pc := 31) rfl dX10_kind_31 ⟨Nat.le_of_ble_eq_true rfl, Nat.le_of_ble_eq_true rfl⟩ ?_
  rotate_left -- leaf 2: return at 31
  -- leaves: 0 return at 31; 1 index at 25; 2 return at 31
  · rw [bF c11] at h; exact h
  · obtain ⟨j, hj, rfl⟩ := (inB_iff (by omega)).mp (bT c11)
    exact n_in (by omega) (by omega)
  · rw [if_pos (bT c11)] at h
    obtain ⟨j, hj, rfl⟩ := (inB_iff (by omega)).mp (bT c11)
    rw [n_cl (by omega)] at h ⊢
    rw [(hC.op (Or.inr (Or.inr (by omega)))).2.1.2.2.2.2.2 j hj]
    exact h
theorem call_X10_kind {E : ME} {Φ : Option AV → AM → Prop} {pc : Nat} {L : List (Option AV)} {st : List AV} {m : AM} {a : Nat × Nat} {idx : Nat} {x0 : AV} {i : Nat} (hl : Cond.methodLink E.2.1 idx yX10_kind ∈ TB) (hdep : 8 + 1 ≤ E.2.2.2.2.2.2) (hroom : a.1 + 0 ≤ E.2.2.2.2.1 ∧ a.2 + 0 ≤ E.2.2.2.2.2.1) (hsr : st.length ≤ 4) (hd : decode E.1 pc = .ok (.invokevirtual idx, 3)) (hsp : Sp_X10_kind [vr 10 i, x0] m (fun r m2 => B E Φ (pc + 3) L (r.toList ++ st) m2 a)) : B E Φ pc L (x0 :: vr 10 i :: st) m a := b_callV S_X10_kind [x0] (RX10, TX10, 9) rfl rfl (by decide) (Or.inl hl) k979 k980 k68 k981 (show _ ∧ _ ∧ Option.map (fun d => d.parameters.length) (parseMethodDescriptor yX10_kind.desc) = some 1 from by decide +kernel) ⟨hdep, by decide⟩ hroom hsr hd hsp
abbrev e_X10_makes : ME := (cX10_makes, (RX10, (3, ((some .int), (0, (0, 8))))))
theorem dX10_makes_0 : decode cX10_makes 0 = .ok (.aload_n 0, 1) := by decide +kernel
theorem dX10_makes_1 : decode cX10_makes 1 = .ok (.getfield 26, 3) := by decide +kernel
theorem dX10_makes_4 : decode cX10_makes 4 = .ok (.getfield 127, 3) := by decide +kernel
theorem dX10_makes_7 : decode cX10_makes 7 = .ok (.iload_n 1, 1) := by decide +kernel
theorem dX10_makes_8 : decode cX10_makes 8 = .ok (.invokevirtual 147, 3) := by decide +kernel
theorem dX10_makes_11 : decode cX10_makes 11 = .ok (.ifCond .eq 17, 3) := by decide +kernel
theorem dX10_makes_14 : decode cX10_makes 14 = .ok (.aload_n 0, 1) := by decide +kernel
theorem dX10_makes_15 : decode cX10_makes 15 = .ok (.getfield 26, 3) := by decide +kernel
theorem dX10_makes_18 : decode cX10_makes 18 = .ok (.getfield 127, 3) := by decide +kernel
theorem dX10_makes_21 : decode cX10_makes 21 = .ok (.iload_n 2, 1) := by decide +kernel
theorem dX10_makes_22 : decode cX10_makes 22 = .ok (.invokevirtual 150, 3) := by decide +kernel
theorem dX10_makes_25 : decode cX10_makes 25 = .ok (.ifCond .ne 6, 3) := by decide +kernel
theorem dX10_makes_28 : decode cX10_makes 28 = .ok (.ldc 69, 2) := by decide +kernel
theorem dX10_makes_30 : decode cX10_makes 30 = .ok (.ireturn, 1) := by decide +kernel
theorem dX10_makes_31 : decode cX10_makes 31 = .ok (.aload_n 0, 1) := by decide +kernel
theorem dX10_makes_32 : decode cX10_makes 32 = .ok (.getfield 26, 3) := by decide +kernel
theorem dX10_makes_35 : decode cX10_makes 35 = .ok (.aload_n 0, 1) := by decide +kernel
theorem dX10_makes_36 : decode cX10_makes 36 = .ok (.getfield 26, 3) := by decide +kernel
theorem dX10_makes_39 : decode cX10_makes 39 = .ok (.getfield 127, 3) := by decide +kernel
theorem dX10_makes_42 : decode cX10_makes 42 = .ok (.getfield 211, 3) := by decide +kernel
theorem dX10_makes_45 : decode cX10_makes 45 = .ok (.iload_n 1, 1) := by decide +kernel
theorem dX10_makes_46 : decode cX10_makes 46 = .ok (.iaload, 1) := by decide +kernel
theorem dX10_makes_47 : decode cX10_makes 47 = .ok (.iload_n 2, 1) := by decide +kernel
theorem dX10_makes_48 : decode cX10_makes 48 = .ok (.aload_n 0, 1) := by decide +kernel
theorem dX10_makes_49 : decode cX10_makes 49 = .ok (.getfield 26, 3) := by decide +kernel
theorem dX10_makes_52 : decode cX10_makes 52 = .ok (.getfield 153, 3) := by decide +kernel
theorem dX10_makes_55 : decode cX10_makes 55 = .ok (.getfield 192, 3) := by decide +kernel
theorem dX10_makes_58 : decode cX10_makes 58 = .ok (.aload_n 0, 1) := by decide +kernel
theorem dX10_makes_59 : decode cX10_makes 59 = .ok (.getfield 26, 3) := by decide +kernel
theorem dX10_makes_62 : decode cX10_makes 62 = .ok (.getfield 153, 3) := by decide +kernel
theorem dX10_makes_65 : decode cX10_makes 65 = .ok (.getfield 174, 3) := by decide +kernel
theorem dX10_makes_68 : decode cX10_makes 68 = .ok (.invokevirtual 214, 3) := by decide +kernel
theorem dX10_makes_71 : decode cX10_makes 71 = .ok (.ireturn, 1) := by decide +kernel
def Sp_X10_makes (av : List AV) (m : AM) (Φ : Option AV → AM → Prop) : Prop := ∃ p s, av = [vr 10 0, vi p, vi s] ∧ ∃ C, CR m C ∧ ∀ m2, CU C m m2 → Φ (some (vi (makesV C p s))) m2
set_option maxRecDepth 20000 in
set_option maxHeartbeats 4000000 in
theorem S_X10_makes : Snd yX10_makes e_X10_makes Sp_X10_makes := by
  refine Snd.of (by decide +kernel) rfl ?_ ?_
  · rintro av m Φ ⟨p, s, rfl, _⟩; exact Nat.le_of_ble_eq_true rfl
  rintro av m Φ ⟨p, s, rfl, C, hC, h⟩ hav hty
  show B e_X10_makes Φ 0 [some (vr 10 0), some (vi p), some (vi s)] [] m (0, 0)
  unfold makesV at h
  have hle := hC.le
  refine b_aloadN (pc := 0) 0 dX10_makes_0 rfl rfl ?_
  refine gf10_2 (pc := 1) 20 rfl k417 dX10_makes_1 ?_
  refine gf2_0 (pc := 4) 21 rfl k269 dX10_makes_4 ?_
  refine b_iloadN (pc := 7) 1 dX10_makes_7 rfl rfl ?_
  refine call_X5_isPerson (pc := 8) k642 (by decide) ⟨Nat.le_of_ble_eq_true rfl, Nat.le_of_ble_eq_true rfl⟩ (Nat.le_of_ble_eq_true rfl) dX10_makes_8 ?_
  refine ⟨_, rfl, _, hC.num.2.2.2.1, ?_⟩
  refine b_if_eq (pc := 11) 28 dX10_makes_11 (by decide) (fun c11 => ?_) (fun c11 => ?_)
  refine b_ldc (pc := 28) k450 dX10_makes_28 ?_
  refine b_iret (pc := 30) rfl dX10_makes_30 ⟨Nat.le_of_ble_eq_true rfl, Nat.le_of_ble_eq_true rfl⟩ ?_
  rotate_left -- leaf 0: return at 30
  refine b_aloadN (pc := 14) 0 dX10_makes_14 rfl rfl ?_
  refine gf10_2 (pc := 15) 20 rfl k417 dX10_makes_15 ?_
  refine gf2_0 (pc := 18) 21 rfl k269 dX10_makes_18 ?_
  refine b_iloadN (pc := 21) 2 dX10_makes_21 rfl rfl ?_
  refine call_X5_isSaying (pc := 22) k646 (by decide) ⟨Nat.le_of_ble_eq_true rfl, Nat.le_of_ble_eq_true rfl⟩ (Nat.le_of_ble_eq_true rfl) dX10_makes_22 ?_
  refine ⟨_, rfl, _, hC.num.1, ?_⟩
  refine b_if_ne (pc := 25) 31 dX10_makes_25 (by decide) (fun c25 => ?_) (fun c25 => ?_)
  refine b_aloadN (pc := 31) 0 dX10_makes_31 rfl rfl ?_
  refine gf10_2 (pc := 32) 20 rfl k417 dX10_makes_32 ?_
  refine b_aloadN (pc := 35) 0 dX10_makes_35 rfl rfl ?_
  refine gf10_2 (pc := 36) 20 rfl k417 dX10_makes_36 ?_
  refine gf2_0 (pc := 39) 21 rfl k269 dX10_makes_39 ?_
  refine gf5_3 (pc := 42) 25 rfl k141 dX10_makes_42 ?_
  refine b_iloadN (pc := 45) 1 dX10_makes_45 rfl rfl ?_
  refine b_iald (pc := 46) (by decide) ?_ dX10_makes_46 ?_
  rotate_left -- leaf 1: index at 46
  refine b_iloadN (pc := 47) 2 dX10_makes_47 rfl rfl ?_
  refine b_aloadN (pc := 48) 0 dX10_makes_48 rfl rfl ?_
  refine gf10_2 (pc := 49) 20 rfl k417 dX10_makes_49 ?_
  refine gf2_1 (pc := 52) 26 rfl k275 dX10_makes_52 ?_
  refine gf8_1 (pc := 55) k236 dX10_makes_55 ?_
  refine b_aloadN (pc := 58) 0 dX10_makes_58 rfl rfl ?_
  refine gf10_2 (pc := 59) 20 rfl k417 dX10_makes_59 ?_
  refine gf2_1 (pc := 62) 26 rfl k275 dX10_makes_62 ?_
  refine gf8_2 (pc := 65) k241 dX10_makes_65 ?_
  refine call_X2_outcome (pc := 68) k736 (by decide) ⟨Nat.le_of_ble_eq_true rfl, Nat.le_of_ble_eq_true rfl⟩ (Nat.le_of_ble_eq_true rfl) dX10_makes_68 ?_
  refine ⟨_, _, _, _, rfl, C, C (40 + 2 * p.toNatClampNeg), s.toNatClampNeg, C 1, C 5, ?_, ?_, ?_, ?_, ?_, ?_, ?_, ?_, ?_, fun m68 h68 => ?_⟩
  rotate_left -- leaf 2: bench of X2_outcome at 68
  rotate_left -- leaf 3: kd of X2_outcome at 68
  rotate_left -- leaf 4: sy of X2_outcome at 68
  rotate_left -- leaf 5: so of X2_outcome at 68
  rotate_left -- leaf 6: sd of X2_outcome at 68
  rotate_left -- leaf 7: kind of X2_outcome at 68
  rotate_left -- leaf 8: saying of X2_outcome at 68
  rotate_left -- leaf 9: so64 of X2_outcome at 68
  rotate_left -- leaf 10: sd64 of X2_outcome at 68
  refine b_iret (pc := 71) rfl dX10_makes_71 ⟨Nat.le_of_ble_eq_true rfl, Nat.le_of_ble_eq_true rfl⟩ ?_
  rotate_left -- leaf 11: return at 71
  refine b_ldc (pc := 28) k450 dX10_makes_28 ?_
  refine b_iret (pc := 30) rfl dX10_makes_30 ⟨Nat.le_of_ble_eq_true rfl, Nat.le_of_ble_eq_true rfl⟩ ?_
  rotate_left -- leaf 12: return at 30
  -- leaves: 0 return at 30; 1 index at 46; 2 bench of X2_outcome at 68; 3 kd of X2_outcome at 68; 4 sy of X2_outcome at 68; 5 so of X2_outcome at 68; 6 sd of X2_outcome at 68; 7 kind of X2_outcome at 68; 8 saying of X2_outcome at 68; 9 so64 of X2_outcome at 68; 10 sd64 of X2_outcome at 68; 11 return at 71; 12 return at 30
  · rw [bF c11, Bool.false_and] at h; exact h m (CU.rf C m)
  all_goals first
    | (rw [bF c25, Bool.and_false] at h; exact h m (CU.rf C m))
    | skip
  all_goals obtain ⟨j, hj, rfl⟩ := (inB_iff (by omega)).mp (bT c11)
  all_goals obtain ⟨k, hk, rfl⟩ := (inB_iff (by omega)).mp (bT c25)
  all_goals rw [n_cl (show j < 2147483648 by omega), n_cl (show k < 2147483648 by omega)] at h
  all_goals have hB := hC.op (Or.inr (Or.inr (by omega)))
  all_goals have hv := hB.1
  all_goals try rw [n_cl (show j < 2147483648 by omega)]
  · exact n_in (by omega) (by omega)
  · exact hB
  · exact hB.2.1.2.2.2.2.2 j hj
  · rw [n_cl (by omega)]
  · exact hB.2.2.1.1
  · exact hB.2.2.1.2.1
  · exact (hv.2.2.2.2.2.2.2.2.2 j hj).1
  · rw [n_cl (by omega)]; exact hk
  · exact hv.c1
  · exact hv.c5
  · rw [if_pos (by rw [bT c11, bT c25]; rfl)] at h
    rw [n_cl (show k < 2147483648 by omega)]
    exact h m68 h68
theorem call_X10_makes {E : ME} {Φ : Option AV → AM → Prop} {pc : Nat} {L : List (Option AV)} {st : List AV} {m : AM} {a : Nat × Nat} {idx : Nat} {x0 x1 : AV} {i : Nat} (hl : Cond.methodLink E.2.1 idx yX10_makes ∈ TB) (hdep : 8 + 1 ≤ E.2.2.2.2.2.2) (hroom : a.1 + 0 ≤ E.2.2.2.2.1 ∧ a.2 + 0 ≤ E.2.2.2.2.2.1) (hsr : st.length ≤ 4) (hd : decode E.1 pc = .ok (.invokevirtual idx, 3)) (hsp : Sp_X10_makes [vr 10 i, x0, x1] m (fun r m2 => B E Φ (pc + 3) L (r.toList ++ st) m2 a)) : B E Φ pc L (x1 :: x0 :: vr 10 i :: st) m a := b_callV S_X10_makes [x0, x1] (RX10, TX10, 9) rfl rfl (by decide) (Or.inl hl) k733 k734 k68 k735 (show _ ∧ _ ∧ Option.map (fun d => d.parameters.length) (parseMethodDescriptor yX10_makes.desc) = some 2 from by decide +kernel) ⟨hdep, by decide⟩ hroom hsr hd hsp
abbrev e_X10_stand : ME := (cX10_stand, (RX10, (2, ((some .int), (0, (0, 8))))))
theorem dX10_stand_0 : decode cX10_stand 0 = .ok (.aload_n 0, 1) := by decide +kernel
theorem dX10_stand_1 : decode cX10_stand 1 = .ok (.getfield 26, 3) := by decide +kernel
theorem dX10_stand_4 : decode cX10_stand 4 = .ok (.invokevirtual 189, 3) := by decide +kernel
theorem dX10_stand_7 : decode cX10_stand 7 = .ok (.ifCond .ne 6, 3) := by decide +kernel
theorem dX10_stand_10 : decode cX10_stand 10 = .ok (.ldc 142, 2) := by decide +kernel
theorem dX10_stand_12 : decode cX10_stand 12 = .ok (.ireturn, 1) := by decide +kernel
theorem dX10_stand_13 : decode cX10_stand 13 = .ok (.iload_n 1, 1) := by decide +kernel
theorem dX10_stand_14 : decode cX10_stand 14 = .ok (.tableswitch 74 0 3 #[30, 41, 52, 63], 30) := by decide +kernel
theorem dX10_stand_44 : decode cX10_stand 44 = .ok (.aload_n 0, 1) := by decide +kernel
theorem dX10_stand_45 : decode cX10_stand 45 = .ok (.getfield 26, 3) := by decide +kernel
theorem dX10_stand_48 : decode cX10_stand 48 = .ok (.getfield 153, 3) := by decide +kernel
theorem dX10_stand_51 : decode cX10_stand 51 = .ok (.getfield 192, 3) := by decide +kernel
theorem dX10_stand_54 : decode cX10_stand 54 = .ok (.ireturn, 1) := by decide +kernel
theorem dX10_stand_55 : decode cX10_stand 55 = .ok (.aload_n 0, 1) := by decide +kernel
theorem dX10_stand_56 : decode cX10_stand 56 = .ok (.getfield 26, 3) := by decide +kernel
theorem dX10_stand_59 : decode cX10_stand 59 = .ok (.getfield 153, 3) := by decide +kernel
theorem dX10_stand_62 : decode cX10_stand 62 = .ok (.getfield 174, 3) := by decide +kernel
theorem dX10_stand_65 : decode cX10_stand 65 = .ok (.ireturn, 1) := by decide +kernel
theorem dX10_stand_66 : decode cX10_stand 66 = .ok (.aload_n 0, 1) := by decide +kernel
theorem dX10_stand_67 : decode cX10_stand 67 = .ok (.getfield 26, 3) := by decide +kernel
theorem dX10_stand_70 : decode cX10_stand 70 = .ok (.getfield 153, 3) := by decide +kernel
theorem dX10_stand_73 : decode cX10_stand 73 = .ok (.getfield 195, 3) := by decide +kernel
theorem dX10_stand_76 : decode cX10_stand 76 = .ok (.ireturn, 1) := by decide +kernel
theorem dX10_stand_77 : decode cX10_stand 77 = .ok (.aload_n 0, 1) := by decide +kernel
theorem dX10_stand_78 : decode cX10_stand 78 = .ok (.getfield 26, 3) := by decide +kernel
theorem dX10_stand_81 : decode cX10_stand 81 = .ok (.getfield 153, 3) := by decide +kernel
theorem dX10_stand_84 : decode cX10_stand 84 = .ok (.getfield 157, 3) := by decide +kernel
theorem dX10_stand_87 : decode cX10_stand 87 = .ok (.ireturn, 1) := by decide +kernel
theorem dX10_stand_88 : decode cX10_stand 88 = .ok (.ldc 69, 2) := by decide +kernel
theorem dX10_stand_90 : decode cX10_stand 90 = .ok (.ireturn, 1) := by decide +kernel
def Sp_X10_stand (av : List AV) (m : AM) (Φ : Option AV → AM → Prop) : Prop := ∃ w, av = [vr 10 0, vi w] ∧ ∃ C, CR m C ∧ Φ (some (vi (standV C w))) m
set_option maxRecDepth 20000 in
set_option maxHeartbeats 4000000 in
theorem S_X10_stand : Snd yX10_stand e_X10_stand Sp_X10_stand := by
  refine Snd.of (by decide +kernel) rfl ?_ ?_
  · rintro av m Φ ⟨w, rfl, _⟩; exact Nat.le_of_ble_eq_true rfl
  rintro av m Φ ⟨w, rfl, C, hC, h⟩ hav hty
  show B e_X10_stand Φ 0 [some (vr 10 0), some (vi w)] [] m (0, 0)
  unfold standV at h
  have st : 0 < C 0 → B e_X10_stand Φ 13 [some (vr 10 0), some (vi w)] [] m (0, 0) := by
    intro h0
    have hB := hC.op (Or.inl h0)
    have hS := hB.2.2.1
    rw [if_neg (by omega)] at h
    refine b_iloadN (pc := 13) 1 dX10_stand_13 rfl rfl ?_
    cases q : inB w 4 with
    | false =>
      rw [q] at h
      refine b_tableOut (pc := 14) 88 dX10_stand_14 ?_ (by decide) ?_
      · rcases inB_not q with z | z
        · left; exact Int32.lt_iff_toInt_lt.mp z
        · right
          have := Int32.le_iff_toInt_le.mp z
          rw [nI_toInt (by omega)] at this
          omega
      refine b_ldc (pc := 88) k450 dX10_stand_88 ?_
      refine b_iret (pc := 90) rfl dX10_stand_90 ⟨Nat.le_of_ble_eq_true rfl, Nat.le_of_ble_eq_true rfl⟩ ?_
      rotate_left -- leaf 0: return at 90
      -- leaves: 0 return at 90
      exact h
    | true =>
      rw [q, if_pos rfl] at h
      obtain ⟨j, hj, rfl⟩ := (inB_iff (by omega)).mp q
      rw [n_cl (by omega)] at h
      rcases (by omega : j = 0 ∨ j = 1 ∨ j = 2 ∨ j = 3) with rfl | rfl | rfl | rfl
      · refine b_tableIn (pc := 14) (off := 30) 44 dX10_stand_14 (by decide) (by decide) (by decide) (by decide) ?_
        refine b_aloadN (pc := 44) 0 dX10_stand_44 rfl rfl ?_
        refine gf10_2 (pc := 45) 20 rfl k417 dX10_stand_45 ?_
        refine gf2_1 (pc := 48) 26 rfl k275 dX10_stand_48 ?_
        refine gf8_1 (pc := 51) k236 dX10_stand_51 ?_
        refine b_iret (pc := 54) rfl dX10_stand_54 ⟨Nat.le_of_ble_eq_true rfl, Nat.le_of_ble_eq_true rfl⟩ ?_
        rotate_left -- leaf 0: return at 54
        -- leaves: 0 return at 54
        rw [hS.1]; exact h
      · refine b_tableIn (pc := 14) (off := 41) 55 dX10_stand_14 (by decide) (by decide) (by decide) (by decide) ?_
        refine b_aloadN (pc := 55) 0 dX10_stand_55 rfl rfl ?_
        refine gf10_2 (pc := 56) 20 rfl k417 dX10_stand_56 ?_
        refine gf2_1 (pc := 59) 26 rfl k275 dX10_stand_59 ?_
        refine gf8_2 (pc := 62) k241 dX10_stand_62 ?_
        refine b_iret (pc := 65) rfl dX10_stand_65 ⟨Nat.le_of_ble_eq_true rfl, Nat.le_of_ble_eq_true rfl⟩ ?_
        rotate_left -- leaf 0: return at 65
        -- leaves: 0 return at 65
        rw [hS.2.1]; exact h
      · refine b_tableIn (pc := 14) (off := 52) 66 dX10_stand_14 (by decide) (by decide) (by decide) (by decide) ?_
        refine b_aloadN (pc := 66) 0 dX10_stand_66 rfl rfl ?_
        refine gf10_2 (pc := 67) 20 rfl k417 dX10_stand_67 ?_
        refine gf2_1 (pc := 70) 26 rfl k275 dX10_stand_70 ?_
        refine gf8_4 (pc := 73) k247 dX10_stand_73 ?_
        refine b_iret (pc := 76) rfl dX10_stand_76 ⟨Nat.le_of_ble_eq_true rfl, Nat.le_of_ble_eq_true rfl⟩ ?_
        rotate_left -- leaf 0: return at 76
        -- leaves: 0 return at 76
        rw [hS.2.2.2.1]; exact h
      · refine b_tableIn (pc := 14) (off := 63) 77 dX10_stand_14 (by decide) (by decide) (by decide) (by decide) ?_
        refine b_aloadN (pc := 77) 0 dX10_stand_77 rfl rfl ?_
        refine gf10_2 (pc := 78) 20 rfl k417 dX10_stand_78 ?_
        refine gf2_1 (pc := 81) 26 rfl k275 dX10_stand_81 ?_
        refine gf8_3 (pc := 84) k244 dX10_stand_84 ?_
        refine b_iret (pc := 87) rfl dX10_stand_87 ⟨Nat.le_of_ble_eq_true rfl, Nat.le_of_ble_eq_true rfl⟩ ?_
        rotate_left -- leaf 0: return at 87
        -- leaves: 0 return at 87
        rw [hS.2.2.1]; exact h
  refine b_aloadN (pc := 0) 0 dX10_stand_0 rfl rfl ?_
  refine gf10_2 (pc := 1) 20 rfl k417 dX10_stand_1 ?_
  refine call_X2_isOpen (pc := 4) k720 (by decide) ⟨Nat.le_of_ble_eq_true rfl, Nat.le_of_ble_eq_true rfl⟩ (Nat.le_of_ble_eq_true rfl) dX10_stand_4 ?_
  refine ⟨rfl, _, hC.num.1, hC.le.1, ?_⟩
  refine b_if_ne (pc := 7) 13 dX10_stand_7 (by decide) (fun c7 => ?_) (fun c7 => ?_)
  rotate_left -- leaf 0: at 13
  refine b_ldc (pc := 10) k624 dX10_stand_10 ?_
  refine b_iret (pc := 12) rfl dX10_stand_12 ⟨Nat.le_of_ble_eq_true rfl, Nat.le_of_ble_eq_true rfl⟩ ?_
  rotate_left -- leaf 1: return at 12
  -- leaves: 0 at 13; 1 return at 12
  · exact st (zF c7)
  · rw [if_pos (zT c7)] at h; exact h
theorem call_X10_stand {E : ME} {Φ : Option AV → AM → Prop} {pc : Nat} {L : List (Option AV)} {st : List AV} {m : AM} {a : Nat × Nat} {idx : Nat} {x0 : AV} {i : Nat} (hl : Cond.methodLink E.2.1 idx yX10_stand ∈ TB) (hdep : 8 + 1 ≤ E.2.2.2.2.2.2) (hroom : a.1 + 0 ≤ E.2.2.2.2.1 ∧ a.2 + 0 ≤ E.2.2.2.2.2.1) (hsr : st.length ≤ 4) (hd : decode E.1 pc = .ok (.invokevirtual idx, 3)) (hsp : Sp_X10_stand [vr 10 i, x0] m (fun r m2 => B E Φ (pc + 3) L (r.toList ++ st) m2 a)) : B E Φ pc L (x0 :: vr 10 i :: st) m a := b_callV S_X10_stand [x0] (RX10, TX10, 9) rfl rfl (by decide) (Or.inl hl) k717 k718 k68 k719 (show _ ∧ _ ∧ Option.map (fun d => d.parameters.length) (parseMethodDescriptor yX10_stand.desc) = some 1 from by decide +kernel) ⟨hdep, by decide⟩ hroom hsr hd hsp
abbrev e_X10_rule : ME := (cX10_rule, (RX10, (3, ((some .int), (0, (0, 8))))))
theorem dX10_rule_0 : decode cX10_rule 0 = .ok (.aload_n 0, 1) := by decide +kernel
theorem dX10_rule_1 : decode cX10_rule 1 = .ok (.getfield 26, 3) := by decide +kernel
theorem dX10_rule_4 : decode cX10_rule 4 = .ok (.getfield 127, 3) := by decide +kernel
theorem dX10_rule_7 : decode cX10_rule 7 = .ok (.iload_n 1, 1) := by decide +kernel
theorem dX10_rule_8 : decode cX10_rule 8 = .ok (.invokevirtual 177, 3) := by decide +kernel
theorem dX10_rule_11 : decode cX10_rule 11 = .ok (.ifCond .ne 6, 3) := by decide +kernel
theorem dX10_rule_14 : decode cX10_rule 14 = .ok (.ldc 69, 2) := by decide +kernel
theorem dX10_rule_16 : decode cX10_rule 16 = .ok (.ireturn, 1) := by decide +kernel
theorem dX10_rule_17 : decode cX10_rule 17 = .ok (.iload_n 2, 1) := by decide +kernel
theorem dX10_rule_18 : decode cX10_rule 18 = .ok (.tableswitch 84 0 3 #[30, 43, 56, 69], 30) := by decide +kernel
theorem dX10_rule_48 : decode cX10_rule 48 = .ok (.aload_n 0, 1) := by decide +kernel
theorem dX10_rule_49 : decode cX10_rule 49 = .ok (.getfield 26, 3) := by decide +kernel
theorem dX10_rule_52 : decode cX10_rule 52 = .ok (.getfield 127, 3) := by decide +kernel
theorem dX10_rule_55 : decode cX10_rule 55 = .ok (.getfield 198, 3) := by decide +kernel
theorem dX10_rule_58 : decode cX10_rule 58 = .ok (.iload_n 1, 1) := by decide +kernel
theorem dX10_rule_59 : decode cX10_rule 59 = .ok (.iaload, 1) := by decide +kernel
theorem dX10_rule_60 : decode cX10_rule 60 = .ok (.ireturn, 1) := by decide +kernel
theorem dX10_rule_61 : decode cX10_rule 61 = .ok (.aload_n 0, 1) := by decide +kernel
theorem dX10_rule_62 : decode cX10_rule 62 = .ok (.getfield 26, 3) := by decide +kernel
theorem dX10_rule_65 : decode cX10_rule 65 = .ok (.getfield 127, 3) := by decide +kernel
theorem dX10_rule_68 : decode cX10_rule 68 = .ok (.getfield 202, 3) := by decide +kernel
theorem dX10_rule_71 : decode cX10_rule 71 = .ok (.iload_n 1, 1) := by decide +kernel
theorem dX10_rule_72 : decode cX10_rule 72 = .ok (.iaload, 1) := by decide +kernel
theorem dX10_rule_73 : decode cX10_rule 73 = .ok (.ireturn, 1) := by decide +kernel
theorem dX10_rule_74 : decode cX10_rule 74 = .ok (.aload_n 0, 1) := by decide +kernel
theorem dX10_rule_75 : decode cX10_rule 75 = .ok (.getfield 26, 3) := by decide +kernel
theorem dX10_rule_78 : decode cX10_rule 78 = .ok (.getfield 127, 3) := by decide +kernel
theorem dX10_rule_81 : decode cX10_rule 81 = .ok (.getfield 205, 3) := by decide +kernel
theorem dX10_rule_84 : decode cX10_rule 84 = .ok (.iload_n 1, 1) := by decide +kernel
theorem dX10_rule_85 : decode cX10_rule 85 = .ok (.iaload, 1) := by decide +kernel
theorem dX10_rule_86 : decode cX10_rule 86 = .ok (.ireturn, 1) := by decide +kernel
theorem dX10_rule_87 : decode cX10_rule 87 = .ok (.aload_n 0, 1) := by decide +kernel
theorem dX10_rule_88 : decode cX10_rule 88 = .ok (.getfield 26, 3) := by decide +kernel
theorem dX10_rule_91 : decode cX10_rule 91 = .ok (.getfield 153, 3) := by decide +kernel
theorem dX10_rule_94 : decode cX10_rule 94 = .ok (.getfield 183, 3) := by decide +kernel
theorem dX10_rule_97 : decode cX10_rule 97 = .ok (.iload_n 1, 1) := by decide +kernel
theorem dX10_rule_98 : decode cX10_rule 98 = .ok (.ishr, 1) := by decide +kernel
theorem dX10_rule_99 : decode cX10_rule 99 = .ok (.iconst 1, 1) := by decide +kernel
theorem dX10_rule_100 : decode cX10_rule 100 = .ok (.iand, 1) := by decide +kernel
theorem dX10_rule_101 : decode cX10_rule 101 = .ok (.ireturn, 1) := by decide +kernel
theorem dX10_rule_102 : decode cX10_rule 102 = .ok (.ldc 69, 2) := by decide +kernel
theorem dX10_rule_104 : decode cX10_rule 104 = .ok (.ireturn, 1) := by decide +kernel
def Sp_X10_rule (av : List AV) (m : AM) (Φ : Option AV → AM → Prop) : Prop := ∃ r w, av = [vr 10 0, vi r, vi w] ∧ ∃ C, CR m C ∧ Φ (some (vi (ruleV C r w))) m
set_option maxRecDepth 20000 in
set_option maxHeartbeats 4000000 in
theorem S_X10_rule : Snd yX10_rule e_X10_rule Sp_X10_rule := by
  refine Snd.of (by decide +kernel) rfl ?_ ?_
  · rintro av m Φ ⟨r, w, rfl, _⟩; exact Nat.le_of_ble_eq_true rfl
  rintro av m Φ ⟨r, w, rfl, C, hC, h⟩ hav hty
  show B e_X10_rule Φ 0 [some (vr 10 0), some (vi r), some (vi w)] [] m (0, 0)
  unfold ruleV at h
  have hle := hC.le
  have st : inB r (C 3) = true → B e_X10_rule Φ 17 [some (vr 10 0), some (vi r), some (vi w)] [] m (0, 0) := by
    intro hr
    rw [hr, Bool.true_and] at h
    obtain ⟨k, hk, rfl⟩ := (inB_iff (by omega)).mp hr
    rw [n_cl (by omega)] at h
    have hB := hC.op (Or.inr (Or.inl (by omega)))
    have hL := hB.2.1.2.2.2.2.1 k hk
    refine b_iloadN (pc := 17) 2 dX10_rule_17 rfl rfl ?_
    cases q : inB w 4 with
    | false =>
      rw [q] at h
      refine b_tableOut (pc := 18) 102 dX10_rule_18 ?_ (by decide) ?_
      · rcases inB_not q with z | z
        · left; exact Int32.lt_iff_toInt_lt.mp z
        · right
          have := Int32.le_iff_toInt_le.mp z
          rw [nI_toInt (by omega)] at this
          omega
      refine b_ldc (pc := 102) k450 dX10_rule_102 ?_
      refine b_iret (pc := 104) rfl dX10_rule_104 ⟨Nat.le_of_ble_eq_true rfl, Nat.le_of_ble_eq_true rfl⟩ ?_
      rotate_left -- leaf 0: return at 104
      -- leaves: 0 return at 104
      exact h
    | true =>
      rw [q, if_pos rfl] at h
      obtain ⟨j, hj, rfl⟩ := (inB_iff (by omega)).mp q
      rw [n_cl (by omega)] at h
      rcases (by omega : j = 0 ∨ j = 1 ∨ j = 2 ∨ j = 3) with rfl | rfl | rfl | rfl
      · refine b_tableIn (pc := 18) (off := 30) 48 dX10_rule_18 (by decide) (by decide) (by decide) (by decide) ?_
        refine b_aloadN (pc := 48) 0 dX10_rule_48 rfl rfl ?_
        refine gf10_2 (pc := 49) 20 rfl k417 dX10_rule_49 ?_
        refine gf2_0 (pc := 52) 21 rfl k269 dX10_rule_52 ?_
        refine gf5_0 (pc := 55) 22 rfl k129 dX10_rule_55 ?_
        refine b_iloadN (pc := 58) 1 dX10_rule_58 rfl rfl ?_
        refine b_iald (pc := 59) (by decide) ?_ dX10_rule_59 ?_
        rotate_left -- leaf 0: index at 59
        refine b_iret (pc := 60) rfl dX10_rule_60 ⟨Nat.le_of_ble_eq_true rfl, Nat.le_of_ble_eq_true rfl⟩ ?_
        rotate_left -- leaf 1: return at 60
        -- leaves: 0 index at 59; 1 return at 60
        · exact n_in (by omega) (by omega)
        · rw [n_cl (by omega), hL.1]; exact h
      · refine b_tableIn (pc := 18) (off := 43) 61 dX10_rule_18 (by decide) (by decide) (by decide) (by decide) ?_
        refine b_aloadN (pc := 61) 0 dX10_rule_61 rfl rfl ?_
        refine gf10_2 (pc := 62) 20 rfl k417 dX10_rule_62 ?_
        refine gf2_0 (pc := 65) 21 rfl k269 dX10_rule_65 ?_
        refine gf5_1 (pc := 68) 23 rfl k132 dX10_rule_68 ?_
        refine b_iloadN (pc := 71) 1 dX10_rule_71 rfl rfl ?_
        refine b_iald (pc := 72) (by decide) ?_ dX10_rule_72 ?_
        rotate_left -- leaf 0: index at 72
        refine b_iret (pc := 73) rfl dX10_rule_73 ⟨Nat.le_of_ble_eq_true rfl, Nat.le_of_ble_eq_true rfl⟩ ?_
        rotate_left -- leaf 1: return at 73
        -- leaves: 0 index at 72; 1 return at 73
        · exact n_in (by omega) (by omega)
        · rw [n_cl (by omega), hL.2.1, show 9 + 4 * k = 8 + 4 * k + 1 by omega]; exact h
      · refine b_tableIn (pc := 18) (off := 56) 74 dX10_rule_18 (by decide) (by decide) (by decide) (by decide) ?_
        refine b_aloadN (pc := 74) 0 dX10_rule_74 rfl rfl ?_
        refine gf10_2 (pc := 75) 20 rfl k417 dX10_rule_75 ?_
        refine gf2_0 (pc := 78) 21 rfl k269 dX10_rule_78 ?_
        refine gf5_2 (pc := 81) 24 rfl k135 dX10_rule_81 ?_
        refine b_iloadN (pc := 84) 1 dX10_rule_84 rfl rfl ?_
        refine b_iald (pc := 85) (by decide) ?_ dX10_rule_85 ?_
        rotate_left -- leaf 0: index at 85
        refine b_iret (pc := 86) rfl dX10_rule_86 ⟨Nat.le_of_ble_eq_true rfl, Nat.le_of_ble_eq_true rfl⟩ ?_
        rotate_left -- leaf 1: return at 86
        -- leaves: 0 index at 85; 1 return at 86
        · exact n_in (by omega) (by omega)
        · rw [n_cl (by omega), hL.2.2, show 10 + 4 * k = 8 + 4 * k + 2 by omega]; exact h
      · refine b_tableIn (pc := 18) (off := 69) 87 dX10_rule_18 (by decide) (by decide) (by decide) (by decide) ?_
        refine b_aloadN (pc := 87) 0 dX10_rule_87 rfl rfl ?_
        refine gf10_2 (pc := 88) 20 rfl k417 dX10_rule_88 ?_
        refine gf2_1 (pc := 91) 26 rfl k275 dX10_rule_91 ?_
        refine gf8_5 (pc := 94) k250 dX10_rule_94 ?_
        refine b_iloadN (pc := 97) 1 dX10_rule_97 rfl rfl ?_
        refine b_ishr (pc := 98) dX10_rule_98 ?_
        refine b_iconst (pc := 99) (nI 1) dX10_rule_99 (by decide) ?_
        refine b_iand (pc := 100) dX10_rule_100 ?_
        refine b_iret (pc := 101) rfl dX10_rule_101 ⟨Nat.le_of_ble_eq_true rfl, Nat.le_of_ble_eq_true rfl⟩ ?_
        rotate_left -- leaf 0: return at 101
        -- leaves: 0 return at 101
        rw [hB.2.2.1.2.2.2.2.1.bit (by omega)]
        have h01 := (hB.1.2.2.2.2.2.2.2.2.1 k hk).2.2.2
        have e : (if k < C 3 ∧ C (11 + 4 * k) = 1 then 1 else 0) = C (8 + 4 * k + 3) := by
          rw [show 8 + 4 * k + 3 = 11 + 4 * k by omega]
          rcases h01 with z | z
          · rw [z]; simp
          · rw [z]; simp [hk]
        rw [e]; exact h
  refine b_aloadN (pc := 0) 0 dX10_rule_0 rfl rfl ?_
  refine gf10_2 (pc := 1) 20 rfl k417 dX10_rule_1 ?_
  refine gf2_0 (pc := 4) 21 rfl k269 dX10_rule_4 ?_
  refine b_iloadN (pc := 7) 1 dX10_rule_7 rfl rfl ?_
  refine call_X5_isRule (pc := 8) k705 (by decide) ⟨Nat.le_of_ble_eq_true rfl, Nat.le_of_ble_eq_true rfl⟩ (Nat.le_of_ble_eq_true rfl) dX10_rule_8 ?_
  refine ⟨_, rfl, _, hC.num.2.2.1, ?_⟩
  refine b_if_ne (pc := 11) 17 dX10_rule_11 (by decide) (fun c11 => ?_) (fun c11 => ?_)
  rotate_left -- leaf 0: at 17
  refine b_ldc (pc := 14) k450 dX10_rule_14 ?_
  refine b_iret (pc := 16) rfl dX10_rule_16 ⟨Nat.le_of_ble_eq_true rfl, Nat.le_of_ble_eq_true rfl⟩ ?_
  rotate_left -- leaf 1: return at 16
  -- leaves: 0 at 17; 1 return at 16
  · exact st (bT c11)
  · rw [bF c11, Bool.false_and] at h; exact h
theorem call_X10_rule {E : ME} {Φ : Option AV → AM → Prop} {pc : Nat} {L : List (Option AV)} {st : List AV} {m : AM} {a : Nat × Nat} {idx : Nat} {x0 x1 : AV} {i : Nat} (hl : Cond.methodLink E.2.1 idx yX10_rule ∈ TB) (hdep : 8 + 1 ≤ E.2.2.2.2.2.2) (hroom : a.1 + 0 ≤ E.2.2.2.2.1 ∧ a.2 + 0 ≤ E.2.2.2.2.2.1) (hsr : st.length ≤ 4) (hd : decode E.1 pc = .ok (.invokevirtual idx, 3)) (hsp : Sp_X10_rule [vr 10 i, x0, x1] m (fun r m2 => B E Φ (pc + 3) L (r.toList ++ st) m2 a)) : B E Φ pc L (x1 :: x0 :: vr 10 i :: st) m a := b_callV S_X10_rule [x0, x1] (RX10, TX10, 9) rfl rfl (by decide) (Or.inl hl) k725 k726 k68 k727 (show _ ∧ _ ∧ Option.map (fun d => d.parameters.length) (parseMethodDescriptor yX10_rule.desc) = some 2 from by decide +kernel) ⟨hdep, by decide⟩ hroom hsr hd hsp
end
section
/-! say, pardon, strike, undo, image, restore -/
theorem BR.fr {m m2 : AM} {C : Nat → Nat} (hB : BR m C) (hf : ∀ a, 21 ≤ a → a ≤ 30 → m2.1 a = m.1 a) : BR m2 C := by
  obtain ⟨hv, hL, hS, hM, hC⟩ := hB
  refine ⟨hv, hL.cg (hf _ (by omega) (by omega)) (hf _ (by omega) (by omega)) (hf _ (by omega) (by omega)) (hf _ (by omega) (by omega)) (hf _ (by omega) (by omega)), hS.cg (hf _ (by omega) (by omega)) (hf _ (by omega) (by omega)), ?_, ?_⟩
  · intro f q
    rw [hf 28 (by omega) (by omega), hf 29 (by omega) (by omega)]
    exact hM f q
  · intro s q
    rw [hf 30 (by omega) (by omega)]
    exact hC s q
theorem CR.fr {m m2 : AM} {C : Nat → Nat} (h : CR m C) (hf : ∀ a, 21 ≤ a → a ≤ 30 → m2.1 a = m.1 a) : CR m2 C := by
  rcases h with h | ⟨h0, h1, h2, h3, h4, h5⟩
  · exact Or.inl (h.fr hf)
  · right
    refine ⟨h0, ?_⟩
    rw [hf 21 (by omega) (by omega), hf 26 (by omega) (by omega)]
    exact ⟨h1, h2, h3, h4, h5⟩
theorem actL_out : ∀ a, 21 ≤ a → a ≤ 30 → a ∉ actL := fun a h1 h2 => by
  simp [actL]
  refine ⟨by omega, fun x hx => by omega⟩
theorem Fr.bench {m m2 : AM} (h : Fr actL m m2) : ∀ a, 21 ≤ a → a ≤ 30 → m2.1 a = m.1 a := fun a h1 h2 => h.2 a (actL_out a h1 h2)
theorem actL_out2 : ∀ a, a ∈ [26, 27, 28, 29, 30] → a ∉ actL := fun a h => actL_out a (by simp at h; omega) (by simp at h; omega)
abbrev e_X10_say : ME := (cX10_say, (RX10, (3, ((some .int), (0, (0, 8))))))
theorem dX10_say_0 : decode cX10_say 0 = .ok (.aload_n 0, 1) := by decide +kernel
theorem dX10_say_1 : decode cX10_say 1 = .ok (.getfield 26, 3) := by decide +kernel
theorem dX10_say_4 : decode cX10_say 4 = .ok (.getfield 127, 3) := by decide +kernel
theorem dX10_say_7 : decode cX10_say 7 = .ok (.iload_n 1, 1) := by decide +kernel
theorem dX10_say_8 : decode cX10_say 8 = .ok (.invokevirtual 147, 3) := by decide +kernel
theorem dX10_say_11 : decode cX10_say 11 = .ok (.ifCond .eq 17, 3) := by decide +kernel
theorem dX10_say_14 : decode cX10_say 14 = .ok (.aload_n 0, 1) := by decide +kernel
theorem dX10_say_15 : decode cX10_say 15 = .ok (.getfield 26, 3) := by decide +kernel
theorem dX10_say_18 : decode cX10_say 18 = .ok (.getfield 127, 3) := by decide +kernel
theorem dX10_say_21 : decode cX10_say 21 = .ok (.iload_n 2, 1) := by decide +kernel
theorem dX10_say_22 : decode cX10_say 22 = .ok (.invokevirtual 150, 3) := by decide +kernel
theorem dX10_say_25 : decode cX10_say 25 = .ok (.ifCond .ne 6, 3) := by decide +kernel
theorem dX10_say_28 : decode cX10_say 28 = .ok (.ldc 69, 2) := by decide +kernel
theorem dX10_say_30 : decode cX10_say 30 = .ok (.ireturn, 1) := by decide +kernel
theorem dX10_say_31 : decode cX10_say 31 = .ok (.aload_n 0, 1) := by decide +kernel
theorem dX10_say_32 : decode cX10_say 32 = .ok (.getfield 26, 3) := by decide +kernel
theorem dX10_say_35 : decode cX10_say 35 = .ok (.getfield 153, 3) := by decide +kernel
theorem dX10_say_38 : decode cX10_say 38 = .ok (.getfield 157, 3) := by decide +kernel
theorem dX10_say_41 : decode cX10_say 41 = .ok (.sipush 999, 3) := by decide +kernel
theorem dX10_say_44 : decode cX10_say 44 = .ok (.if_icmp .lt 6, 3) := by decide +kernel
theorem dX10_say_47 : decode cX10_say 47 = .ok (.ldc 162, 2) := by decide +kernel
theorem dX10_say_49 : decode cX10_say 49 = .ok (.ireturn, 1) := by decide +kernel
theorem dX10_say_50 : decode cX10_say 50 = .ok (.aload_n 0, 1) := by decide +kernel
theorem dX10_say_51 : decode cX10_say 51 = .ok (.getfield 33, 3) := by decide +kernel
theorem dX10_say_54 : decode cX10_say 54 = .ok (.aload_n 0, 1) := by decide +kernel
theorem dX10_say_55 : decode cX10_say 55 = .ok (.getfield 26, 3) := by decide +kernel
theorem dX10_say_58 : decode cX10_say 58 = .ok (.getfield 153, 3) := by decide +kernel
theorem dX10_say_61 : decode cX10_say 61 = .ok (.invokevirtual 163, 3) := by decide +kernel
theorem dX10_say_64 : decode cX10_say 64 = .ok (.aload_n 0, 1) := by decide +kernel
theorem dX10_say_65 : decode cX10_say 65 = .ok (.getfield 26, 3) := by decide +kernel
theorem dX10_say_68 : decode cX10_say 68 = .ok (.iload_n 1, 1) := by decide +kernel
theorem dX10_say_69 : decode cX10_say 69 = .ok (.iload_n 2, 1) := by decide +kernel
theorem dX10_say_70 : decode cX10_say 70 = .ok (.invokevirtual 167, 3) := by decide +kernel
theorem dX10_say_73 : decode cX10_say 73 = .ok (.ireturn, 1) := by decide +kernel
def Sp_X10_say (av : List AV) (m : AM) (Φ : Option AV → AM → Prop) : Prop := ∃ p s, av = [vr 10 0, vi p, vi s] ∧ ∃ C a nx W, CR m C ∧ ActR m C a nx W ∧ ((inB p (C 4) && inB s (2 * C 0)) = false → Φ (some (vi (-1000001))) m) ∧ ((inB p (C 4) && inB s (2 * C 0)) = true → 999 ≤ C 7 → Φ (some (vi (-1000003))) m) ∧ ((inB p (C 4) && inB s (2 * C 0)) = true → C 7 ≤ 998 → ∀ m2, Fr ([26, 27, 30] ++ actL) m m2 → BR m2 (sayC C p.toNatClampNeg s.toNatClampNeg) → ActR m2 (sayC C p.toNatClampNeg s.toNatClampNeg) (keepA a) ((nx + 1) % 24) (keepW a W C) → Φ (some (vi (sayO C p.toNatClampNeg s.toNatClampNeg))) m2)
set_option maxRecDepth 20000 in
set_option maxHeartbeats 4000000 in
theorem S_X10_say : Snd yX10_say e_X10_say Sp_X10_say := by
  refine Snd.of (by decide +kernel) rfl ?_ ?_
  · rintro av m Φ ⟨p, s, rfl, _⟩; exact Nat.le_of_ble_eq_true rfl
  rintro av m Φ ⟨p, s, rfl, C, a, nx, W, hC, hA, h1, h2, h3⟩ hav hty
  show B e_X10_say Φ 0 [some (vr 10 0), some (vi p), some (vi s)] [] m (0, 0)
  have hle := hC.le
  have op : ∀ {b : Bool}, inB p (C 4) = true → BR m C := fun {b} q => by
    obtain ⟨j, hj, rfl⟩ := (inB_iff (by omega)).mp q
    exact hC.op (Or.inr (Or.inr (by omega)))
  have hs7 : inB p (C 4) = true → m.1 26 3 = nI (C 7) ∧ C 7 ≤ 999 := fun q => ⟨(op (b := true) q).2.2.1.2.2.1, (op (b := true) q).1.2.2.2.2.2.2.1⟩
  refine b_aloadN (pc := 0) 0 dX10_say_0 rfl rfl ?_
  refine gf10_2 (pc := 1) 20 rfl k417 dX10_say_1 ?_
  refine gf2_0 (pc := 4) 21 rfl k269 dX10_say_4 ?_
  refine b_iloadN (pc := 7) 1 dX10_say_7 rfl rfl ?_
  refine call_X5_isPerson (pc := 8) k642 (by decide) ⟨Nat.le_of_ble_eq_true rfl, Nat.le_of_ble_eq_true rfl⟩ (Nat.le_of_ble_eq_true rfl) dX10_say_8 ?_
  refine ⟨_, rfl, _, hC.num.2.2.2.1, ?_⟩
  refine b_if_eq (pc := 11) 28 dX10_say_11 (by decide) (fun c11 => ?_) (fun c11 => ?_)
  refine b_ldc (pc := 28) k450 dX10_say_28 ?_
  refine b_iret (pc := 30) rfl dX10_say_30 ⟨Nat.le_of_ble_eq_true rfl, Nat.le_of_ble_eq_true rfl⟩ ?_
  rotate_left -- leaf 0: return at 30
  refine b_aloadN (pc := 14) 0 dX10_say_14 rfl rfl ?_
  refine gf10_2 (pc := 15) 20 rfl k417 dX10_say_15 ?_
  refine gf2_0 (pc := 18) 21 rfl k269 dX10_say_18 ?_
  refine b_iloadN (pc := 21) 2 dX10_say_21 rfl rfl ?_
  refine call_X5_isSaying (pc := 22) k646 (by decide) ⟨Nat.le_of_ble_eq_true rfl, Nat.le_of_ble_eq_true rfl⟩ (Nat.le_of_ble_eq_true rfl) dX10_say_22 ?_
  refine ⟨_, rfl, _, hC.num.1, ?_⟩
  refine b_if_ne (pc := 25) 31 dX10_say_25 (by decide) (fun c25 => ?_) (fun c25 => ?_)
  refine b_aloadN (pc := 31) 0 dX10_say_31 rfl rfl ?_
  refine gf10_2 (pc := 32) 20 rfl k417 dX10_say_32 ?_
  refine gf2_1 (pc := 35) 26 rfl k275 dX10_say_35 ?_
  refine gf8_3 (pc := 38) k244 dX10_say_38 ?_
  refine b_sipush (pc := 41) (nI 999) dX10_say_41 (by decide) ?_
  refine b_icmp_lt (pc := 44) 50 dX10_say_44 (by decide) (fun c44 => ?_) (fun c44 => ?_)
  refine b_aloadN (pc := 50) 0 dX10_say_50 rfl rfl ?_
  refine gf10_3 (pc := 51) 31 rfl k418 dX10_say_51 ?_
  refine b_aloadN (pc := 54) 0 dX10_say_54 rfl rfl ?_
  refine gf10_2 (pc := 55) 20 rfl k417 dX10_say_55 ?_
  refine gf2_1 (pc := 58) 26 rfl k275 dX10_say_58 ?_
  refine call_X0_keep (pc := 61) k651 (by decide) ⟨Nat.le_of_ble_eq_true rfl, Nat.le_of_ble_eq_true rfl⟩ (Nat.le_of_ble_eq_true rfl) dX10_say_61 ?_
  refine ⟨rfl, C, a, nx, W, ?_, ?_, ?_, fun m61 fr61 ac61 => ?_⟩
  rotate_left -- leaf 1: valid of X0_keep at 61
  rotate_left -- leaf 2: standing of X0_keep at 61
  rotate_left -- leaf 3: acts of X0_keep at 61
  refine b_aloadN (pc := 64) 0 dX10_say_64 rfl rfl ?_
  refine gf10_2 (pc := 65) 20 rfl k417 dX10_say_65 ?_
  refine b_iloadN (pc := 68) 1 dX10_say_68 rfl rfl ?_
  refine b_iloadN (pc := 69) 2 dX10_say_69 rfl rfl ?_
  refine call_X2_utter (pc := 70) k659 (by decide) ⟨Nat.le_of_ble_eq_true rfl, Nat.le_of_ble_eq_true rfl⟩ (Nat.le_of_ble_eq_true rfl) dX10_say_70 ?_
  refine ⟨_, _, rfl, C, p.toNatClampNeg, s.toNatClampNeg, ?_, ?_, ?_, ?_, ?_, ?_, fun m70 fr70 hB70 => ?_⟩
  rotate_left -- leaf 4: bench of X2_utter at 70
  rotate_left -- leaf 5: x of X2_utter at 70
  rotate_left -- leaf 6: y of X2_utter at 70
  rotate_left -- leaf 7: person of X2_utter at 70
  rotate_left -- leaf 8: saying of X2_utter at 70
  rotate_left -- leaf 9: room of X2_utter at 70
  refine b_iret (pc := 73) rfl dX10_say_73 ⟨Nat.le_of_ble_eq_true rfl, Nat.le_of_ble_eq_true rfl⟩ ?_
  rotate_left -- leaf 10: return at 73
  refine b_ldc (pc := 47) k650 dX10_say_47 ?_
  refine b_iret (pc := 49) rfl dX10_say_49 ⟨Nat.le_of_ble_eq_true rfl, Nat.le_of_ble_eq_true rfl⟩ ?_
  rotate_left -- leaf 11: return at 49
  refine b_ldc (pc := 28) k450 dX10_say_28 ?_
  refine b_iret (pc := 30) rfl dX10_say_30 ⟨Nat.le_of_ble_eq_true rfl, Nat.le_of_ble_eq_true rfl⟩ ?_
  rotate_left -- leaf 12: return at 30
  -- leaves: 0 return at 30; 1 valid of X0_keep at 61; 2 standing of X0_keep at 61; 3 acts of X0_keep at 61; 4 bench of X2_utter at 70; 5 x of X2_utter at 70; 6 y of X2_utter at 70; 7 person of X2_utter at 70; 8 saying of X2_utter at 70; 9 room of X2_utter at 70; 10 return at 73; 11 return at 49; 12 return at 30
  · exact h1 (by rw [bF c11]; rfl)
  · exact (op (b := true) (bT c11)).1
  · exact (op (b := true) (bT c11)).2.2.1
  · exact hA
  · exact (op (b := true) (bT c11)).fr fr61.bench
  · obtain ⟨j, hj, rfl⟩ := (inB_iff (by omega)).mp (bT c11)
    rw [n_cl (by omega)]
  · obtain ⟨j, hj, rfl⟩ := (inB_iff (by omega)).mp (bT c25)
    rw [n_cl (by omega)]
  · obtain ⟨j, hj, rfl⟩ := (inB_iff (by omega)).mp (bT c11)
    rw [n_cl (by omega)]; exact hj
  · obtain ⟨j, hj, rfl⟩ := (inB_iff (by omega)).mp (bT c25)
    rw [n_cl (by omega)]; exact hj
  · have q := hs7 (bT c11)
    rw [q.1, n_lt (by omega) (by omega)] at c44
    omega
  · have q := hs7 (bT c11)
    rw [q.1, n_lt (by omega) (by omega)] at c44
    refine h3 (by rw [bT c11, bT c25]; rfl) (by omega) m70 ((fr61.tr fr70).mono (fun z hz => ?_)) hB70 ?_
    · rcases List.mem_append.mp hz with e | e
      · exact List.mem_append_right _ e
      · exact List.mem_append_left _ e
    · refine (ac61.fr (fun i hi => fr70.2 i (fun z => ?_))).law (sayC_law C hle.2.1 _ _)
      exact actL_out2 i (by simp at z ⊢; omega) hi
  · have q := hs7 (bT c11)
    rw [q.1, n_lt (by omega) (by omega)] at c44
    exact h2 (by rw [bT c11, bT c25]; rfl) (by omega)
  · exact h1 (by rw [bF c25, Bool.and_false])
theorem call_X10_say {E : ME} {Φ : Option AV → AM → Prop} {pc : Nat} {L : List (Option AV)} {st : List AV} {m : AM} {a : Nat × Nat} {idx : Nat} {x0 x1 : AV} {i : Nat} (hl : Cond.methodLink E.2.1 idx yX10_say ∈ TB) (hdep : 8 + 1 ≤ E.2.2.2.2.2.2) (hroom : a.1 + 0 ≤ E.2.2.2.2.1 ∧ a.2 + 0 ≤ E.2.2.2.2.2.1) (hsr : st.length ≤ 4) (hd : decode E.1 pc = .ok (.invokevirtual idx, 3)) (hsp : Sp_X10_say [vr 10 i, x0, x1] m (fun r m2 => B E Φ (pc + 3) L (r.toList ++ st) m2 a)) : B E Φ pc L (x1 :: x0 :: vr 10 i :: st) m a := b_callV S_X10_say [x0, x1] (RX10, TX10, 9) rfl rfl (by decide) (Or.inl hl) k639 k640 k68 k641 (show _ ∧ _ ∧ Option.map (fun d => d.parameters.length) (parseMethodDescriptor yX10_say.desc) = some 2 from by decide +kernel) ⟨hdep, by decide⟩ hroom hsr hd hsp
def parN (C : Nat → Nat) (f : Nat) : Nat → Nat := upC C 5 (nDel (C 5) (2 ^ f))
theorem VC.par {C : Nat → Nat} (hv : VC C) (f : Nat) : VC (parN C f) := by
  have e : ∀ j, j ≠ 5 → parN C f j = C j := fun j hj => upC_ne C _ hj
  have e5 : parN C f 5 = nDel (C 5) (2 ^ f) := upC_at C _ _
  obtain ⟨h0, h1, h2, h3, h4, h5, h7, h6, hr1, hp⟩ := hv
  unfold VC
  rw [e5, e 0 (by omega), e 1 (by omega), e 2 (by omega), e 3 (by omega), e 4 (by omega), e 6 (by omega), e 7 (by omega)]
  refine ⟨h0, h1, h2, h3, h4, below_lt (fun i hi => ?_), h7, h6, fun k hk => ?_, fun p hp1 => ?_⟩
  · rw [nDel_bit] at hi
    refine lt_below h5 i ?_
    cases q : (C 5).testBit i
    · rw [q] at hi; cases hi
    · rfl
  · rw [e (8 + 4 * k) (by omega), e (9 + 4 * k) (by omega), e (10 + 4 * k) (by omega), e (11 + 4 * k) (by omega)]
    exact hr1 k hk
  · rw [e (40 + 2 * p) (by omega), e (41 + 2 * p) (by omega)]
    exact hp p hp1
theorem parN_same (C : Nat → Nat) (f : Nat) : sameR C (parN C f) ∧ parN C f 0 = C 0 ∧ parN C f 2 = C 2 ∧ parN C f 4 = C 4 ∧ ∀ j, parN C f (40 + 2 * j) = C (40 + 2 * j) := by
  have e : ∀ j, j ≠ 5 → parN C f j = C j := fun j hj => upC_ne C _ hj
  exact ⟨⟨e _ (by omega), fun j h1 h2 => e _ (by omega)⟩, e _ (by omega), e _ (by omega), e _ (by omega), fun j => e _ (by omega)⟩
abbrev e_X10_pardon : ME := (cX10_pardon, (RX10, (2, ((some .int), (0, (0, 8))))))
theorem dX10_pardon_0 : decode cX10_pardon 0 = .ok (.iload_n 1, 1) := by decide +kernel
theorem dX10_pardon_1 : decode cX10_pardon 1 = .ok (.ifCond .lt 17, 3) := by decide +kernel
theorem dX10_pardon_4 : decode cX10_pardon 4 = .ok (.iload_n 1, 1) := by decide +kernel
theorem dX10_pardon_5 : decode cX10_pardon 5 = .ok (.aload_n 0, 1) := by decide +kernel
theorem dX10_pardon_6 : decode cX10_pardon 6 = .ok (.getfield 26, 3) := by decide +kernel
theorem dX10_pardon_9 : decode cX10_pardon 9 = .ok (.getfield 127, 3) := by decide +kernel
theorem dX10_pardon_12 : decode cX10_pardon 12 = .ok (.getfield 171, 3) := by decide +kernel
theorem dX10_pardon_15 : decode cX10_pardon 15 = .ok (.if_icmp .lt 6, 3) := by decide +kernel
theorem dX10_pardon_18 : decode cX10_pardon 18 = .ok (.ldc 69, 2) := by decide +kernel
theorem dX10_pardon_20 : decode cX10_pardon 20 = .ok (.ireturn, 1) := by decide +kernel
theorem dX10_pardon_21 : decode cX10_pardon 21 = .ok (.aload_n 0, 1) := by decide +kernel
theorem dX10_pardon_22 : decode cX10_pardon 22 = .ok (.getfield 26, 3) := by decide +kernel
theorem dX10_pardon_25 : decode cX10_pardon 25 = .ok (.getfield 153, 3) := by decide +kernel
theorem dX10_pardon_28 : decode cX10_pardon 28 = .ok (.getfield 174, 3) := by decide +kernel
theorem dX10_pardon_31 : decode cX10_pardon 31 = .ok (.iload_n 1, 1) := by decide +kernel
theorem dX10_pardon_32 : decode cX10_pardon 32 = .ok (.ishr, 1) := by decide +kernel
theorem dX10_pardon_33 : decode cX10_pardon 33 = .ok (.iconst 1, 1) := by decide +kernel
theorem dX10_pardon_34 : decode cX10_pardon 34 = .ok (.iand, 1) := by decide +kernel
theorem dX10_pardon_35 : decode cX10_pardon 35 = .ok (.ifCond .ne 6, 3) := by decide +kernel
theorem dX10_pardon_38 : decode cX10_pardon 38 = .ok (.ldc 142, 2) := by decide +kernel
theorem dX10_pardon_40 : decode cX10_pardon 40 = .ok (.ireturn, 1) := by decide +kernel
theorem dX10_pardon_41 : decode cX10_pardon 41 = .ok (.aload_n 0, 1) := by decide +kernel
theorem dX10_pardon_42 : decode cX10_pardon 42 = .ok (.getfield 33, 3) := by decide +kernel
theorem dX10_pardon_45 : decode cX10_pardon 45 = .ok (.aload_n 0, 1) := by decide +kernel
theorem dX10_pardon_46 : decode cX10_pardon 46 = .ok (.getfield 26, 3) := by decide +kernel
theorem dX10_pardon_49 : decode cX10_pardon 49 = .ok (.getfield 153, 3) := by decide +kernel
theorem dX10_pardon_52 : decode cX10_pardon 52 = .ok (.invokevirtual 163, 3) := by decide +kernel
theorem dX10_pardon_55 : decode cX10_pardon 55 = .ok (.aload_n 0, 1) := by decide +kernel
theorem dX10_pardon_56 : decode cX10_pardon 56 = .ok (.getfield 26, 3) := by decide +kernel
theorem dX10_pardon_59 : decode cX10_pardon 59 = .ok (.getfield 153, 3) := by decide +kernel
theorem dX10_pardon_62 : decode cX10_pardon 62 = .ok (.dup, 1) := by decide +kernel
theorem dX10_pardon_63 : decode cX10_pardon 63 = .ok (.getfield 174, 3) := by decide +kernel
theorem dX10_pardon_66 : decode cX10_pardon 66 = .ok (.iconst 1, 1) := by decide +kernel
theorem dX10_pardon_67 : decode cX10_pardon 67 = .ok (.iload_n 1, 1) := by decide +kernel
theorem dX10_pardon_68 : decode cX10_pardon 68 = .ok (.ishl, 1) := by decide +kernel
theorem dX10_pardon_69 : decode cX10_pardon 69 = .ok (.iconst (-1), 1) := by decide +kernel
theorem dX10_pardon_70 : decode cX10_pardon 70 = .ok (.ixor, 1) := by decide +kernel
theorem dX10_pardon_71 : decode cX10_pardon 71 = .ok (.iand, 1) := by decide +kernel
theorem dX10_pardon_72 : decode cX10_pardon 72 = .ok (.putfield 174, 3) := by decide +kernel
theorem dX10_pardon_75 : decode cX10_pardon 75 = .ok (.aload_n 0, 1) := by decide +kernel
theorem dX10_pardon_76 : decode cX10_pardon 76 = .ok (.getfield 26, 3) := by decide +kernel
theorem dX10_pardon_79 : decode cX10_pardon 79 = .ok (.getfield 153, 3) := by decide +kernel
theorem dX10_pardon_82 : decode cX10_pardon 82 = .ok (.getfield 174, 3) := by decide +kernel
theorem dX10_pardon_85 : decode cX10_pardon 85 = .ok (.ireturn, 1) := by decide +kernel
def Sp_X10_pardon (av : List AV) (m : AM) (Φ : Option AV → AM → Prop) : Prop := ∃ f, av = [vr 10 0, vi f] ∧ ∃ C a nx W, CR m C ∧ ActR m C a nx W ∧ (inB f (C 0) = false → Φ (some (vi (-1000001))) m) ∧ (inB f (C 0) = true → (C 5).testBit f.toNatClampNeg = false → Φ (some (vi (-1000002))) m) ∧ (inB f (C 0) = true → (C 5).testBit f.toNatClampNeg = true → ∀ m2, Fr ([26] ++ actL) m m2 → BR m2 (parN C f.toNatClampNeg) → ActR m2 (parN C f.toNatClampNeg) (keepA a) ((nx + 1) % 24) (keepW a W C) → Φ (some (vi (nI (parN C f.toNatClampNeg 5)))) m2)
set_option maxRecDepth 20000 in
set_option maxHeartbeats 4000000 in
theorem S_X10_pardon : Snd yX10_pardon e_X10_pardon Sp_X10_pardon := by
  refine Snd.of (by decide +kernel) rfl ?_ ?_
  · rintro av m Φ ⟨f, rfl, _⟩; exact Nat.le_of_ble_eq_true rfl
  rintro av m Φ ⟨f, rfl, C, a, nx, W, hC, hA, h1, h2, h3⟩ hav hty
  show B e_X10_pardon Φ 0 [some (vr 10 0), some (vi f)] [] m (0, 0)
  have hle := hC.le
  have op : inB f (C 0) = true → BR m C := fun q => by
    obtain ⟨j, hj, rfl⟩ := (inB_iff (by omega)).mp q
    exact hC.op (Or.inl (by omega))
  have hin : ¬ f < 0 → f < m.1 21 4 → inB f (C 0) = true := fun a b => by
    rw [hC.num.1] at b
    unfold inB
    rw [decide_eq_true a, decide_eq_true b]; rfl
  have bit : inB f (C 0) = true → (m.1 26 2 >>> (f &&& 31)) &&& nI 1 = nI (if (C 5).testBit f.toNatClampNeg = true then 1 else 0) := fun q => by
    have hB := op q
    obtain ⟨j, hj, rfl⟩ := (inB_iff (by omega)).mp q
    have := hB.1.c5
    rw [hB.2.2.1.2.1, n_cl (by omega), tbit_and1 _ _ (by omega) (by omega)]
  refine b_iloadN (pc := 0) 1 dX10_pardon_0 rfl rfl ?_
  refine b_if_lt (pc := 1) 18 dX10_pardon_1 (by decide) (fun c1 => ?_) (fun c1 => ?_)
  refine b_ldc (pc := 18) k450 dX10_pardon_18 ?_
  refine b_iret (pc := 20) rfl dX10_pardon_20 ⟨Nat.le_of_ble_eq_true rfl, Nat.le_of_ble_eq_true rfl⟩ ?_
  rotate_left -- leaf 0: return at 20
  refine b_iloadN (pc := 4) 1 dX10_pardon_4 rfl rfl ?_
  refine b_aloadN (pc := 5) 0 dX10_pardon_5 rfl rfl ?_
  refine gf10_2 (pc := 6) 20 rfl k417 dX10_pardon_6 ?_
  refine gf2_0 (pc := 9) 21 rfl k269 dX10_pardon_9 ?_
  refine gf5_4 (pc := 12) k147 dX10_pardon_12 ?_
  refine b_icmp_lt (pc := 15) 21 dX10_pardon_15 (by decide) (fun c15 => ?_) (fun c15 => ?_)
  refine b_aloadN (pc := 21) 0 dX10_pardon_21 rfl rfl ?_
  refine gf10_2 (pc := 22) 20 rfl k417 dX10_pardon_22 ?_
  refine gf2_1 (pc := 25) 26 rfl k275 dX10_pardon_25 ?_
  refine gf8_2 (pc := 28) k241 dX10_pardon_28 ?_
  refine b_iloadN (pc := 31) 1 dX10_pardon_31 rfl rfl ?_
  refine b_ishr (pc := 32) dX10_pardon_32 ?_
  refine b_iconst (pc := 33) (nI 1) dX10_pardon_33 (by decide) ?_
  refine b_iand (pc := 34) dX10_pardon_34 ?_
  refine b_if_ne (pc := 35) 41 dX10_pardon_35 (by decide) (fun c35 => ?_) (fun c35 => ?_)
  refine b_aloadN (pc := 41) 0 dX10_pardon_41 rfl rfl ?_
  refine gf10_3 (pc := 42) 31 rfl k418 dX10_pardon_42 ?_
  refine b_aloadN (pc := 45) 0 dX10_pardon_45 rfl rfl ?_
  refine gf10_2 (pc := 46) 20 rfl k417 dX10_pardon_46 ?_
  refine gf2_1 (pc := 49) 26 rfl k275 dX10_pardon_49 ?_
  refine call_X0_keep (pc := 52) k651 (by decide) ⟨Nat.le_of_ble_eq_true rfl, Nat.le_of_ble_eq_true rfl⟩ (Nat.le_of_ble_eq_true rfl) dX10_pardon_52 ?_
  refine ⟨rfl, C, a, nx, W, ?_, ?_, ?_, fun m52 fr52 ac52 => ?_⟩
  rotate_left -- leaf 1: valid of X0_keep at 52
  rotate_left -- leaf 2: standing of X0_keep at 52
  rotate_left -- leaf 3: acts of X0_keep at 52
  refine b_aloadN (pc := 55) 0 dX10_pardon_55 rfl rfl ?_
  refine gf10_2 (pc := 56) 20 rfl k417 dX10_pardon_56 ?_
  refine gf2_1 (pc := 59) 26 rfl k275 dX10_pardon_59 ?_
  refine b_dup_r (pc := 62) dX10_pardon_62 ?_
  refine gf8_2 (pc := 63) k241 dX10_pardon_63 ?_
  refine b_iconst (pc := 66) (nI 1) dX10_pardon_66 (by decide) ?_
  refine b_iloadN (pc := 67) 1 dX10_pardon_67 rfl rfl ?_
  refine b_ishl (pc := 68) dX10_pardon_68 ?_
  refine b_iconst (pc := 69) (-1) dX10_pardon_69 (by decide) ?_
  refine b_ixor (pc := 70) dX10_pardon_70 ?_
  refine b_iand (pc := 71) dX10_pardon_71 ?_
  refine pf8_2 (pc := 72) k241 dX10_pardon_72 ?_
  refine b_aloadN (pc := 75) 0 dX10_pardon_75 rfl rfl ?_
  refine gf10_2 (pc := 76) 20 rfl k417 dX10_pardon_76 ?_
  refine gf2_1 (pc := 79) 26 rfl k275 dX10_pardon_79 ?_
  refine gf8_2 (pc := 82) k241 dX10_pardon_82 ?_
  refine b_iret (pc := 85) rfl dX10_pardon_85 ⟨Nat.le_of_ble_eq_true rfl, Nat.le_of_ble_eq_true rfl⟩ ?_
  rotate_left -- leaf 4: return at 85
  refine b_ldc (pc := 38) k624 dX10_pardon_38 ?_
  refine b_iret (pc := 40) rfl dX10_pardon_40 ⟨Nat.le_of_ble_eq_true rfl, Nat.le_of_ble_eq_true rfl⟩ ?_
  rotate_left -- leaf 5: return at 40
  refine b_ldc (pc := 18) k450 dX10_pardon_18 ?_
  refine b_iret (pc := 20) rfl dX10_pardon_20 ⟨Nat.le_of_ble_eq_true rfl, Nat.le_of_ble_eq_true rfl⟩ ?_
  rotate_left -- leaf 6: return at 20
  -- leaves: 0 return at 20; 1 valid of X0_keep at 52; 2 standing of X0_keep at 52; 3 acts of X0_keep at 52; 4 return at 85; 5 return at 40; 6 return at 20
  · exact h1 (inB_f1 c1)
  · exact (op (hin c1 c15)).1
  · exact (op (hin c1 c15)).2.2.1
  · exact hA
  · have q := hin c1 c15
    have hB := op q
    have c35 := c35
    rw [bit q] at c35
    have tb := bT c35
    have h5 := hB.1.c5
    obtain ⟨j, hj, rfl⟩ := (inB_iff (by omega)).mp q
    rw [n_cl (show j < 2147483648 by omega)] at h3 tb
    have f26 : m52.1 26 = m.1 26 := fr52.bench 26 (by omega) (by omega)
    have e5 : parN C j 5 = nDel (C 5) (2 ^ j) := upC_at C _ _
    rw [mset_at, if_pos rfl, f26, hB.2.2.1.2.1, n_pow (by omega), n_del, ← e5]
    have hp := parN_same C j
    refine h3 q tb _ ((fr52.mono (fun z hz => List.mem_append_right _ hz)).ms (by simp)) ?_ ?_
    · refine hB.re hp.1 hp.2.1 hp.2.2.1 hp.2.2.2.1 hp.2.2.2.2 (hB.1.par j) (fun z hz => ?_) ?_ ?_
      · rw [mset_ne _ _ _ (by omega)]; exact fr52.bench z (by omega) (by omega)
      · intro z hz; rw [mset_ne _ _ _ (by decide), fr52.bench 30 (by omega) (by omega)]; exact hB.2.2.2.2 z hz
      · have e : ∀ j2, j2 ≠ 5 → parN C j j2 = C j2 := fun j2 hj2 => upC_ne C _ hj2
        have hS := hB.2.2.1
        have h45 := hB.1.2.2.2.2.1.2
        unfold StR
        rw [mset_at, if_neg (by decide), mset_at, if_pos rfl, mset_at, if_neg (by decide), mset_at, if_neg (by decide), mset_at, if_neg (by decide), f26, e 1 (by omega), e 7 (by omega), e 6 (by omega), e 4 (by omega)]
        refine ⟨hS.1, rfl, hS.2.2.1, hS.2.2.2.1, hS.2.2.2.2.1.cg hp.1 hle.2.1, fun p hp1 => ?_⟩
        rw [mset_ne _ _ _ (by decide), fr52.bench 27 (by omega) (by omega), e _ (by omega)]
        exact hS.2.2.2.2.2 p hp1
    · refine (ac52.fr (fun i hi => mset_ne _ _ _ (fun z => ?_))).law ⟨hp.2.1, hp.2.2.1, hp.1.1, hp.2.2.2.1, fun k hk => ⟨hp.1.2 _ (by omega) (by omega), hp.1.2 _ (by omega) (by omega), hp.1.2 _ (by omega) (by omega)⟩, fun p hp1 => hp.2.2.2.2 p⟩
      rw [z] at hi
      exact absurd hi (by decide)
  · have q := hin c1 c15
    have c35 := c35
    rw [bit q] at c35
    exact h2 q (bF c35)
  · refine h1 (inB_f2 ?_)
    rw [hC.num.1] at c15
    exact Int32.not_lt.mp c15
theorem call_X10_pardon {E : ME} {Φ : Option AV → AM → Prop} {pc : Nat} {L : List (Option AV)} {st : List AV} {m : AM} {a : Nat × Nat} {idx : Nat} {x0 : AV} {i : Nat} (hl : Cond.methodLink E.2.1 idx yX10_pardon ∈ TB) (hdep : 8 + 1 ≤ E.2.2.2.2.2.2) (hroom : a.1 + 0 ≤ E.2.2.2.2.1 ∧ a.2 + 0 ≤ E.2.2.2.2.2.1) (hsr : st.length ≤ 4) (hd : decode E.1 pc = .ok (.invokevirtual idx, 3)) (hsp : Sp_X10_pardon [vr 10 i, x0] m (fun r m2 => B E Φ (pc + 3) L (r.toList ++ st) m2 a)) : B E Φ pc L (x0 :: vr 10 i :: st) m a := b_callV S_X10_pardon [x0] (RX10, TX10, 9) rfl rfl (by decide) (Or.inl hl) k698 k699 k68 k700 (show _ ∧ _ ∧ Option.map (fun d => d.parameters.length) (parseMethodDescriptor yX10_pardon.desc) = some 1 from by decide +kernel) ⟨hdep, by decide⟩ hroom hsr hd hsp
end
section
/-! strike, undo, image, restore, feed, found, fine, fault, status -/
abbrev e_X10_strike : ME := (cX10_strike, (RX10, (3, ((some .int), (0, (0, 8))))))
theorem dX10_strike_0 : decode cX10_strike 0 = .ok (.aload_n 0, 1) := by decide +kernel
theorem dX10_strike_1 : decode cX10_strike 1 = .ok (.getfield 26, 3) := by decide +kernel
theorem dX10_strike_4 : decode cX10_strike 4 = .ok (.getfield 127, 3) := by decide +kernel
theorem dX10_strike_7 : decode cX10_strike 7 = .ok (.iload_n 1, 1) := by decide +kernel
theorem dX10_strike_8 : decode cX10_strike 8 = .ok (.invokevirtual 177, 3) := by decide +kernel
theorem dX10_strike_11 : decode cX10_strike 11 = .ok (.ifCond .eq 10, 3) := by decide +kernel
theorem dX10_strike_14 : decode cX10_strike 14 = .ok (.iload_n 2, 1) := by decide +kernel
theorem dX10_strike_15 : decode cX10_strike 15 = .ok (.invokestatic 180, 3) := by decide +kernel
theorem dX10_strike_18 : decode cX10_strike 18 = .ok (.ifCond .eq 6, 3) := by decide +kernel
theorem dX10_strike_21 : decode cX10_strike 21 = .ok (.ldc 69, 2) := by decide +kernel
theorem dX10_strike_23 : decode cX10_strike 23 = .ok (.ireturn, 1) := by decide +kernel
theorem dX10_strike_24 : decode cX10_strike 24 = .ok (.aload_n 0, 1) := by decide +kernel
theorem dX10_strike_25 : decode cX10_strike 25 = .ok (.getfield 26, 3) := by decide +kernel
theorem dX10_strike_28 : decode cX10_strike 28 = .ok (.getfield 153, 3) := by decide +kernel
theorem dX10_strike_31 : decode cX10_strike 31 = .ok (.getfield 183, 3) := by decide +kernel
theorem dX10_strike_34 : decode cX10_strike 34 = .ok (.iload_n 1, 1) := by decide +kernel
theorem dX10_strike_35 : decode cX10_strike 35 = .ok (.ishr, 1) := by decide +kernel
theorem dX10_strike_36 : decode cX10_strike 36 = .ok (.iconst 1, 1) := by decide +kernel
theorem dX10_strike_37 : decode cX10_strike 37 = .ok (.iand, 1) := by decide +kernel
theorem dX10_strike_38 : decode cX10_strike 38 = .ok (.iload_n 2, 1) := by decide +kernel
theorem dX10_strike_39 : decode cX10_strike 39 = .ok (.if_icmp .ne 6, 3) := by decide +kernel
theorem dX10_strike_42 : decode cX10_strike 42 = .ok (.ldc 142, 2) := by decide +kernel
theorem dX10_strike_44 : decode cX10_strike 44 = .ok (.ireturn, 1) := by decide +kernel
theorem dX10_strike_45 : decode cX10_strike 45 = .ok (.aload_n 0, 1) := by decide +kernel
theorem dX10_strike_46 : decode cX10_strike 46 = .ok (.getfield 33, 3) := by decide +kernel
theorem dX10_strike_49 : decode cX10_strike 49 = .ok (.aload_n 0, 1) := by decide +kernel
theorem dX10_strike_50 : decode cX10_strike 50 = .ok (.getfield 26, 3) := by decide +kernel
theorem dX10_strike_53 : decode cX10_strike 53 = .ok (.getfield 153, 3) := by decide +kernel
theorem dX10_strike_56 : decode cX10_strike 56 = .ok (.invokevirtual 163, 3) := by decide +kernel
theorem dX10_strike_59 : decode cX10_strike 59 = .ok (.aload_n 0, 1) := by decide +kernel
theorem dX10_strike_60 : decode cX10_strike 60 = .ok (.getfield 26, 3) := by decide +kernel
theorem dX10_strike_63 : decode cX10_strike 63 = .ok (.iload_n 1, 1) := by decide +kernel
theorem dX10_strike_64 : decode cX10_strike 64 = .ok (.invokevirtual 186, 3) := by decide +kernel
theorem dX10_strike_67 : decode cX10_strike 67 = .ok (.ireturn, 1) := by decide +kernel
def Sp_X10_strike (av : List AV) (m : AM) (Φ : Option AV → AM → Prop) : Prop := ∃ r o, av = [vr 10 0, vi r, vi o] ∧ ∃ C a nx W, CR m C ∧ ActR m C a nx W ∧ ((inB r (C 3) && inB o 2) = false → Φ (some (vi (-1000001))) m) ∧ ((inB r (C 3) && inB o 2) = true → nI (C (11 + 4 * r.toNatClampNeg)) = o → Φ (some (vi (-1000002))) m) ∧ ((inB r (C 3) && inB o 2) = true → ¬ nI (C (11 + 4 * r.toNatClampNeg)) = o → ∀ m2, Fr ([26, 28, 29, 30] ++ actL) m m2 → BR m2 (strN C r.toNatClampNeg o.toNatClampNeg) → ActR m2 (strN C r.toNatClampNeg o.toNatClampNeg) (keepA a) ((nx + 1) % 24) (keepW a W C) → Φ (some (vi (nI (sumS (strN C r.toNatClampNeg o.toNatClampNeg) (C 3))))) m2)
set_option maxRecDepth 20000 in
set_option maxHeartbeats 4000000 in
theorem S_X10_strike : Snd yX10_strike e_X10_strike Sp_X10_strike := by
  refine Snd.of (by decide +kernel) rfl ?_ ?_
  · rintro av m Φ ⟨r, o, rfl, _⟩; exact Nat.le_of_ble_eq_true rfl
  rintro av m Φ ⟨r, o, rfl, C, a, nx, W, hC, hA, h1, h2, h3⟩ hav hty
  show B e_X10_strike Φ 0 [some (vr 10 0), some (vi r), some (vi o)] [] m (0, 0)
  have hle := hC.le
  have op : inB r (C 3) = true → BR m C := fun q => by
    obtain ⟨j, hj, rfl⟩ := (inB_iff (by omega)).mp q
    exact hC.op (Or.inr (Or.inl (by omega)))
  have bit : inB r (C 3) = true → (m.1 26 5 >>> (r &&& 31)) &&& nI 1 = nI (C (11 + 4 * r.toNatClampNeg)) := fun q => by
    have hB := op q
    obtain ⟨j, hj, rfl⟩ := (inB_iff (by omega)).mp q
    have h01 := (hB.1.2.2.2.2.2.2.2.2.1 j hj).2.2.2
    rw [hB.2.2.1.2.2.2.2.1.bit (by omega), n_cl (by omega)]
    rcases h01 with z | z
    · rw [z]; simp
    · rw [z]; simp [hj]
  refine b_aloadN (pc := 0) 0 dX10_strike_0 rfl rfl ?_
  refine gf10_2 (pc := 1) 20 rfl k417 dX10_strike_1 ?_
  refine gf2_0 (pc := 4) 21 rfl k269 dX10_strike_4 ?_
  refine b_iloadN (pc := 7) 1 dX10_strike_7 rfl rfl ?_
  refine call_X5_isRule (pc := 8) k705 (by decide) ⟨Nat.le_of_ble_eq_true rfl, Nat.le_of_ble_eq_true rfl⟩ (Nat.le_of_ble_eq_true rfl) dX10_strike_8 ?_
  refine ⟨_, rfl, _, hC.num.2.2.1, ?_⟩
  refine b_if_eq (pc := 11) 21 dX10_strike_11 (by decide) (fun c11 => ?_) (fun c11 => ?_)
  refine b_ldc (pc := 21) k450 dX10_strike_21 ?_
  refine b_iret (pc := 23) rfl dX10_strike_23 ⟨Nat.le_of_ble_eq_true rfl, Nat.le_of_ble_eq_true rfl⟩ ?_
  rotate_left -- leaf 0: return at 23
  refine b_iloadN (pc := 14) 2 dX10_strike_14 rfl rfl ?_
  refine call_X10_isNoBit (pc := 15) k709 (by decide) ⟨Nat.le_of_ble_eq_true rfl, Nat.le_of_ble_eq_true rfl⟩ (Nat.le_of_ble_eq_true rfl) dX10_strike_15 ?_
  refine ⟨_, rfl, ?_⟩
  refine b_if_eq (pc := 18) 24 dX10_strike_18 (by decide) (fun c18 => ?_) (fun c18 => ?_)
  refine b_aloadN (pc := 24) 0 dX10_strike_24 rfl rfl ?_
  refine gf10_2 (pc := 25) 20 rfl k417 dX10_strike_25 ?_
  refine gf2_1 (pc := 28) 26 rfl k275 dX10_strike_28 ?_
  refine gf8_5 (pc := 31) k250 dX10_strike_31 ?_
  refine b_iloadN (pc := 34) 1 dX10_strike_34 rfl rfl ?_
  refine b_ishr (pc := 35) dX10_strike_35 ?_
  refine b_iconst (pc := 36) (nI 1) dX10_strike_36 (by decide) ?_
  refine b_iand (pc := 37) dX10_strike_37 ?_
  refine b_iloadN (pc := 38) 2 dX10_strike_38 rfl rfl ?_
  refine b_icmp_ne (pc := 39) 45 dX10_strike_39 (by decide) (fun c39 => ?_) (fun c39 => ?_)
  refine b_aloadN (pc := 45) 0 dX10_strike_45 rfl rfl ?_
  refine gf10_3 (pc := 46) 31 rfl k418 dX10_strike_46 ?_
  refine b_aloadN (pc := 49) 0 dX10_strike_49 rfl rfl ?_
  refine gf10_2 (pc := 50) 20 rfl k417 dX10_strike_50 ?_
  refine gf2_1 (pc := 53) 26 rfl k275 dX10_strike_53 ?_
  refine call_X0_keep (pc := 56) k651 (by decide) ⟨Nat.le_of_ble_eq_true rfl, Nat.le_of_ble_eq_true rfl⟩ (Nat.le_of_ble_eq_true rfl) dX10_strike_56 ?_
  refine ⟨rfl, C, a, nx, W, ?_, ?_, ?_, fun m56 fr56 ac56 => ?_⟩
  rotate_left -- leaf 1: valid of X0_keep at 56
  rotate_left -- leaf 2: standing of X0_keep at 56
  rotate_left -- leaf 3: acts of X0_keep at 56
  refine b_aloadN (pc := 59) 0 dX10_strike_59 rfl rfl ?_
  refine gf10_2 (pc := 60) 20 rfl k417 dX10_strike_60 ?_
  refine b_iloadN (pc := 63) 1 dX10_strike_63 rfl rfl ?_
  refine call_X2_turnRule (pc := 64) k712 (by decide) ⟨Nat.le_of_ble_eq_true rfl, Nat.le_of_ble_eq_true rfl⟩ (Nat.le_of_ble_eq_true rfl) dX10_strike_64 ?_
  refine ⟨_, rfl, C, r.toNatClampNeg, ?_, ?_, ?_, fun m64 fr64 hB64 => ?_⟩
  rotate_left -- leaf 4: bench of X2_turnRule at 64
  rotate_left -- leaf 5: x of X2_turnRule at 64
  rotate_left -- leaf 6: rule of X2_turnRule at 64
  refine b_iret (pc := 67) rfl dX10_strike_67 ⟨Nat.le_of_ble_eq_true rfl, Nat.le_of_ble_eq_true rfl⟩ ?_
  rotate_left -- leaf 7: return at 67
  refine b_ldc (pc := 42) k624 dX10_strike_42 ?_
  refine b_iret (pc := 44) rfl dX10_strike_44 ⟨Nat.le_of_ble_eq_true rfl, Nat.le_of_ble_eq_true rfl⟩ ?_
  rotate_left -- leaf 8: return at 44
  refine b_ldc (pc := 21) k450 dX10_strike_21 ?_
  refine b_iret (pc := 23) rfl dX10_strike_23 ⟨Nat.le_of_ble_eq_true rfl, Nat.le_of_ble_eq_true rfl⟩ ?_
  rotate_left -- leaf 9: return at 23
  -- leaves: 0 return at 23; 1 valid of X0_keep at 56; 2 standing of X0_keep at 56; 3 acts of X0_keep at 56; 4 bench of X2_turnRule at 64; 5 x of X2_turnRule at 64; 6 rule of X2_turnRule at 64; 7 return at 67; 8 return at 44; 9 return at 23
  · exact h1 (by rw [bF c11]; rfl)
  · exact (op (bT c11)).1
  · exact (op (bT c11)).2.2.1
  · exact hA
  · exact (op (bT c11)).fr fr56.bench
  · obtain ⟨j, hj, rfl⟩ := (inB_iff (by omega)).mp (bT c11)
    rw [n_cl (by omega)]
  · obtain ⟨j, hj, rfl⟩ := (inB_iff (by omega)).mp (bT c11)
    rw [n_cl (by omega)]; exact hj
  · have c39 := c39
    rw [bit (bT c11)] at c39
    have hB := op (bT c11)
    have e : 1 - C (11 + 4 * r.toNatClampNeg) = o.toNatClampNeg := by
      obtain ⟨j, hj, rfl⟩ := (inB_iff (by omega)).mp (bT c11)
      rw [n_cl (by omega)] at c39 ⊢
      have h01 := (hB.1.2.2.2.2.2.2.2.2.1 j hj).2.2.2
      rcases (inB2 o).mp (dT c18) with rfl | rfl
      · rw [n_cl (by omega)]
        rcases h01 with z | z
        · rw [z] at c39; exact absurd rfl c39
        · omega
      · rw [n_cl (by omega)]
        rcases h01 with z | z
        · omega
        · rw [z] at c39; exact absurd rfl c39
    rw [e] at hB64 ⊢
    refine h3 (by rw [bT c11, dT c18]; rfl) c39 m64 ((fr56.tr fr64).mono (fun z hz => ?_)) hB64 ?_
    · rcases List.mem_append.mp hz with e | e
      · exact List.mem_append_right _ e
      · exact List.mem_append_left _ e
    · refine (ac56.fr (fun i hi => fr64.2 i (fun z => ?_))).law (strN_law C hle.2.1 _ _ ?_)
      · exact actL_out2 i (by simp at z ⊢; omega) hi
      · obtain ⟨j, hj, rfl⟩ := (inB_iff (by omega)).mp (bT c11)
        rw [n_cl (by omega)]; omega
  · have c39 := c39
    rw [bit (bT c11)] at c39
    exact h2 (by rw [bT c11, dT c18]; rfl) c39
  · exact h1 (by rw [dF c18, Bool.and_false])
theorem call_X10_strike {E : ME} {Φ : Option AV → AM → Prop} {pc : Nat} {L : List (Option AV)} {st : List AV} {m : AM} {a : Nat × Nat} {idx : Nat} {x0 x1 : AV} {i : Nat} (hl : Cond.methodLink E.2.1 idx yX10_strike ∈ TB) (hdep : 8 + 1 ≤ E.2.2.2.2.2.2) (hroom : a.1 + 0 ≤ E.2.2.2.2.1 ∧ a.2 + 0 ≤ E.2.2.2.2.2.1) (hsr : st.length ≤ 4) (hd : decode E.1 pc = .ok (.invokevirtual idx, 3)) (hsp : Sp_X10_strike [vr 10 i, x0, x1] m (fun r m2 => B E Φ (pc + 3) L (r.toList ++ st) m2 a)) : B E Φ pc L (x1 :: x0 :: vr 10 i :: st) m a := b_callV S_X10_strike [x0, x1] (RX10, TX10, 9) rfl rfl (by decide) (Or.inl hl) k702 k703 k68 k704 (show _ ∧ _ ∧ Option.map (fun d => d.parameters.length) (parseMethodDescriptor yX10_strike.desc) = some 2 from by decide +kernel) ⟨hdep, by decide⟩ hroom hsr hd hsp
theorem ActR.op {m : AM} {C : Nat → Nat} {a nx : Nat} {W : Nat → Nat → Nat} (hC : CR m C) (h : ActR m C a nx W) (ha : 0 < a) : BR m C := by
  have q := (h.2.2.2.2 0 ha).2
  have := q.1.1.1
  have := q.2.1
  exact hC.op (Or.inl (by omega))
abbrev e_X10_undo : ME := (cX10_undo, (RX10, (1, ((some .int), (0, (0, 8))))))
theorem dX10_undo_0 : decode cX10_undo 0 = .ok (.aload_n 0, 1) := by decide +kernel
theorem dX10_undo_1 : decode cX10_undo 1 = .ok (.getfield 33, 3) := by decide +kernel
theorem dX10_undo_4 : decode cX10_undo 4 = .ok (.invokevirtual 139, 3) := by decide +kernel
theorem dX10_undo_7 : decode cX10_undo 7 = .ok (.ifCond .eq 8, 3) := by decide +kernel
theorem dX10_undo_10 : decode cX10_undo 10 = .ok (.ldc 142, 2) := by decide +kernel
theorem dX10_undo_12 : decode cX10_undo 12 = .ok (.goto 14, 3) := by decide +kernel
theorem dX10_undo_15 : decode cX10_undo 15 = .ok (.aload_n 0, 1) := by decide +kernel
theorem dX10_undo_16 : decode cX10_undo 16 = .ok (.getfield 33, 3) := by decide +kernel
theorem dX10_undo_19 : decode cX10_undo 19 = .ok (.aload_n 0, 1) := by decide +kernel
theorem dX10_undo_20 : decode cX10_undo 20 = .ok (.getfield 26, 3) := by decide +kernel
theorem dX10_undo_23 : decode cX10_undo 23 = .ok (.invokevirtual 143, 3) := by decide +kernel
theorem dX10_undo_26 : decode cX10_undo 26 = .ok (.ireturn, 1) := by decide +kernel
def Sp_X10_undo (av : List AV) (m : AM) (Φ : Option AV → AM → Prop) : Prop := av = [vr 10 0] ∧ ∃ C a nx W, CR m C ∧ ActR m C a nx W ∧ (a = 0 → Φ (some (vi (-1000002))) m) ∧ (0 < a → ∀ m2, Fr [26, 27, 28, 29, 30, 31] m m2 → BR m2 (W (a - 1)) → ActR m2 (W (a - 1)) (a - 1) ((nx + 23) % 24) W → Φ (some (vi (nI (a - 1)))) m2)
set_option maxRecDepth 20000 in
set_option maxHeartbeats 4000000 in
theorem S_X10_undo : Snd yX10_undo e_X10_undo Sp_X10_undo := by
  refine Snd.of (by decide +kernel) rfl ?_ ?_
  · rintro av m Φ ⟨rfl, _⟩; exact Nat.le_of_ble_eq_true rfl
  rintro av m Φ ⟨rfl, C, a, nx, W, hC, hA, h1, h2⟩ hav hty
  show B e_X10_undo Φ 0 [some (vr 10 0)] [] m (0, 0)
  have q1 : nI (if a = 0 then 1 else 0) = 0 → 0 < a := fun z => by
    by_cases q : a = 0
    · rw [if_pos q] at z; exact absurd z (by decide)
    · omega
  refine b_aloadN (pc := 0) 0 dX10_undo_0 rfl rfl ?_
  refine gf10_3 (pc := 1) 31 rfl k418 dX10_undo_1 ?_
  refine call_X0_isEmpty (pc := 4) k620 (by decide) ⟨Nat.le_of_ble_eq_true rfl, Nat.le_of_ble_eq_true rfl⟩ (Nat.le_of_ble_eq_true rfl) dX10_undo_4 ?_
  refine ⟨rfl, a, hA.2.2.1, hA.2.2.2.1, ?_⟩
  refine b_if_eq (pc := 7) 15 dX10_undo_7 (by decide) (fun c7 => ?_) (fun c7 => ?_)
  refine b_aloadN (pc := 15) 0 dX10_undo_15 rfl rfl ?_
  refine gf10_3 (pc := 16) 31 rfl k418 dX10_undo_16 ?_
  refine b_aloadN (pc := 19) 0 dX10_undo_19 rfl rfl ?_
  refine gf10_2 (pc := 20) 20 rfl k417 dX10_undo_20 ?_
  refine call_X0_takeBack (pc := 23) k625 (by decide) ⟨Nat.le_of_ble_eq_true rfl, Nat.le_of_ble_eq_true rfl⟩ (Nat.le_of_ble_eq_true rfl) dX10_undo_23 ?_
  refine ⟨rfl, C, a - 1, nx, W, ?_, ?_, fun m23 fr23 hB23 ac23 => ?_⟩
  rotate_left -- leaf 0: bench of X0_takeBack at 23
  rotate_left -- leaf 1: acts of X0_takeBack at 23
  refine b_iret (pc := 26) rfl dX10_undo_26 ⟨Nat.le_of_ble_eq_true rfl, Nat.le_of_ble_eq_true rfl⟩ ?_
  rotate_left -- leaf 2: return at 26
  refine b_ldc (pc := 10) k624 dX10_undo_10 ?_
  refine b_goto (pc := 12) 26 dX10_undo_12 (by decide) ?_
  refine b_iret (pc := 26) rfl dX10_undo_26 ⟨Nat.le_of_ble_eq_true rfl, Nat.le_of_ble_eq_true rfl⟩ ?_
  rotate_left -- leaf 3: return at 26
  -- leaves: 0 bench of X0_takeBack at 23; 1 acts of X0_takeBack at 23; 2 return at 26; 3 return at 26
  · exact ActR.op hC hA (q1 c7)
  · rw [show a - 1 + 1 = a by have := q1 c7; omega]; exact hA
  · exact h2 (q1 c7) m23 fr23 hB23 ac23
  · refine h1 ?_
    by_cases q : a = 0
    · exact q
    · rw [if_neg q] at c7; exact absurd rfl c7
theorem call_X10_undo {E : ME} {Φ : Option AV → AM → Prop} {pc : Nat} {L : List (Option AV)} {st : List AV} {m : AM} {a : Nat × Nat} {idx : Nat} {i : Nat} (hl : Cond.methodLink E.2.1 idx yX10_undo ∈ TB) (hdep : 8 + 1 ≤ E.2.2.2.2.2.2) (hroom : a.1 + 0 ≤ E.2.2.2.2.1 ∧ a.2 + 0 ≤ E.2.2.2.2.2.1) (hsr : st.length ≤ 4) (hd : decode E.1 pc = .ok (.invokevirtual idx, 3)) (hsp : Sp_X10_undo [vr 10 i] m (fun r m2 => B E Φ (pc + 3) L (r.toList ++ st) m2 a)) : B E Φ pc L (vr 10 i :: st) m a := b_callV S_X10_undo [] (RX10, TX10, 9) rfl rfl (by decide) (Or.inl hl) k617 k618 k68 k619 (show _ ∧ _ ∧ Option.map (fun d => d.parameters.length) (parseMethodDescriptor yX10_undo.desc) = some 0 from by decide +kernel) ⟨hdep, by decide⟩ hroom hsr hd hsp
abbrev e_X10_image : ME := (cX10_image, (RX10, (2, ((some .int), (0, (0, 8))))))
theorem dX10_image_0 : decode cX10_image 0 = .ok (.iload_n 1, 1) := by decide +kernel
theorem dX10_image_1 : decode cX10_image 1 = .ok (.invokestatic 283, 3) := by decide +kernel
theorem dX10_image_4 : decode cX10_image 4 = .ok (.ifCond .ne 6, 3) := by decide +kernel
theorem dX10_image_7 : decode cX10_image 7 = .ok (.ldc 69, 2) := by decide +kernel
theorem dX10_image_9 : decode cX10_image 9 = .ok (.ireturn, 1) := by decide +kernel
theorem dX10_image_10 : decode cX10_image 10 = .ok (.aload_n 0, 1) := by decide +kernel
theorem dX10_image_11 : decode cX10_image 11 = .ok (.getfield 26, 3) := by decide +kernel
theorem dX10_image_14 : decode cX10_image 14 = .ok (.invokevirtual 189, 3) := by decide +kernel
theorem dX10_image_17 : decode cX10_image 17 = .ok (.ifCond .ne 6, 3) := by decide +kernel
theorem dX10_image_20 : decode cX10_image 20 = .ok (.ldc 142, 2) := by decide +kernel
theorem dX10_image_22 : decode cX10_image 22 = .ok (.ireturn, 1) := by decide +kernel
theorem dX10_image_23 : decode cX10_image 23 = .ok (.aload_n 0, 1) := by decide +kernel
theorem dX10_image_24 : decode cX10_image 24 = .ok (.getfield 39, 3) := by decide +kernel
theorem dX10_image_27 : decode cX10_image 27 = .ok (.iload_n 1, 1) := by decide +kernel
theorem dX10_image_28 : decode cX10_image 28 = .ok (.aaload, 1) := by decide +kernel
theorem dX10_image_29 : decode cX10_image 29 = .ok (.aload_n 0, 1) := by decide +kernel
theorem dX10_image_30 : decode cX10_image 30 = .ok (.getfield 26, 3) := by decide +kernel
theorem dX10_image_33 : decode cX10_image 33 = .ok (.invokevirtual 286, 3) := by decide +kernel
theorem dX10_image_36 : decode cX10_image 36 = .ok (.iconst 1, 1) := by decide +kernel
theorem dX10_image_37 : decode cX10_image 37 = .ok (.ireturn, 1) := by decide +kernel
def Sp_X10_image (av : List AV) (m : AM) (Φ : Option AV → AM → Prop) : Prop := ∃ k, av = [vr 10 0, vi k] ∧ ∃ C, CR m C ∧ (inB k 2 = false → Φ (some (vi (-1000001))) m) ∧ (inB k 2 = true → C 0 = 0 → Φ (some (vi (-1000002))) m) ∧ (inB k 2 = true → 0 < C 0 → ∀ i m2, i = 82 + 8 * k.toNatClampNeg → Fr [i, i + 1, i + 2, i + 3, i + 4, i + 5, i + 6, i + 7] m m2 → ImR m2 i C → m2.1 i 2 = nI 1 → Φ (some (vi (nI 1))) m2)
set_option maxRecDepth 20000 in
set_option maxHeartbeats 4000000 in
theorem S_X10_image : Snd yX10_image e_X10_image Sp_X10_image := by
  refine Snd.of (by decide +kernel) rfl ?_ ?_
  · rintro av m Φ ⟨k, rfl, _⟩; exact Nat.le_of_ble_eq_true rfl
  rintro av m Φ ⟨k, rfl, C, hC, h1, h2, h3⟩ hav hty
  show B e_X10_image Φ 0 [some (vr 10 0), some (vi k)] [] m (0, 0)
  refine b_iloadN (pc := 0) 1 dX10_image_0 rfl rfl ?_
  refine call_X10_isImage (pc := 1) k960 (by decide) ⟨Nat.le_of_ble_eq_true rfl, Nat.le_of_ble_eq_true rfl⟩ (Nat.le_of_ble_eq_true rfl) dX10_image_1 ?_
  refine ⟨_, rfl, ?_⟩
  refine b_if_ne (pc := 4) 10 dX10_image_4 (by decide) (fun c4 => ?_) (fun c4 => ?_)
  refine b_aloadN (pc := 10) 0 dX10_image_10 rfl rfl ?_
  refine gf10_2 (pc := 11) 20 rfl k417 dX10_image_11 ?_
  refine call_X2_isOpen (pc := 14) k720 (by decide) ⟨Nat.le_of_ble_eq_true rfl, Nat.le_of_ble_eq_true rfl⟩ (Nat.le_of_ble_eq_true rfl) dX10_image_14 ?_
  refine ⟨rfl, _, hC.num.1, hC.le.1, ?_⟩
  refine b_if_ne (pc := 17) 23 dX10_image_17 (by decide) (fun c17 => ?_) (fun c17 => ?_)
  refine b_aloadN (pc := 23) 0 dX10_image_23 rfl rfl ?_
  refine gf10_4 (pc := 24) 81 rfl k419 dX10_image_24 ?_
  refine b_iloadN (pc := 27) 1 dX10_image_27 rfl rfl ?_
  refine b_aldR (pc := 28) (n := 2) (w := 8) (t' := 4) (Or.inr ⟨rfl, rfl, rfl, rfl⟩) ?_ dX10_image_28 ?_
  rotate_left -- leaf 0: index at 28
  refine b_aloadN (pc := 29) 0 dX10_image_29 rfl rfl ?_
  refine gf10_2 (pc := 30) 20 rfl k417 dX10_image_30 ?_
  refine call_X4_take (pc := 33) k963 (by decide) ⟨Nat.le_of_ble_eq_true rfl, Nat.le_of_ble_eq_true rfl⟩ (Nat.le_of_ble_eq_true rfl) dX10_image_33 ?_
  refine ⟨_, rfl, ?_, C, ?_, fun m33 fr33 im33 kp33 => ?_⟩
  rotate_left -- leaf 1: image of X4_take at 33
  rotate_left -- leaf 2: bench of X4_take at 33
  refine b_iconst (pc := 36) (nI 1) dX10_image_36 (by decide) ?_
  refine b_iret (pc := 37) rfl dX10_image_37 ⟨Nat.le_of_ble_eq_true rfl, Nat.le_of_ble_eq_true rfl⟩ ?_
  rotate_left -- leaf 3: return at 37
  refine b_ldc (pc := 20) k624 dX10_image_20 ?_
  refine b_iret (pc := 22) rfl dX10_image_22 ⟨Nat.le_of_ble_eq_true rfl, Nat.le_of_ble_eq_true rfl⟩ ?_
  rotate_left -- leaf 4: return at 22
  refine b_ldc (pc := 7) k450 dX10_image_7 ?_
  refine b_iret (pc := 9) rfl dX10_image_9 ⟨Nat.le_of_ble_eq_true rfl, Nat.le_of_ble_eq_true rfl⟩ ?_
  rotate_left -- leaf 5: return at 9
  -- leaves: 0 index at 28; 1 image of X4_take at 33; 2 bench of X4_take at 33; 3 return at 37; 4 return at 22; 5 return at 9
  · obtain ⟨j, hj, rfl⟩ := (inB_iff (by omega)).mp (bT c4)
    exact n_in (by omega) (by omega)
  · obtain ⟨j, hj, rfl⟩ := (inB_iff (by omega)).mp (bT c4)
    rw [n_cl (by omega)]; omega
  · exact hC.op (Or.inl (zF c17))
  · refine h3 (bT c4) (zF c17) (81 + 1 + 8 * k.toNatClampNeg) m33 rfl fr33 im33 kp33
  · exact h2 (bT c4) (zT c17)
  · exact h1 (bF c4)
theorem call_X10_image {E : ME} {Φ : Option AV → AM → Prop} {pc : Nat} {L : List (Option AV)} {st : List AV} {m : AM} {a : Nat × Nat} {idx : Nat} {x0 : AV} {i : Nat} (hl : Cond.methodLink E.2.1 idx yX10_image ∈ TB) (hdep : 8 + 1 ≤ E.2.2.2.2.2.2) (hroom : a.1 + 0 ≤ E.2.2.2.2.1 ∧ a.2 + 0 ≤ E.2.2.2.2.2.1) (hsr : st.length ≤ 4) (hd : decode E.1 pc = .ok (.invokevirtual idx, 3)) (hsp : Sp_X10_image [vr 10 i, x0] m (fun r m2 => B E Φ (pc + 3) L (r.toList ++ st) m2 a)) : B E Φ pc L (x0 :: vr 10 i :: st) m a := b_callV S_X10_image [x0] (RX10, TX10, 9) rfl rfl (by decide) (Or.inl hl) k957 k958 k68 k959 (show _ ∧ _ ∧ Option.map (fun d => d.parameters.length) (parseMethodDescriptor yX10_image.desc) = some 1 from by decide +kernel) ⟨hdep, by decide⟩ hroom hsr hd hsp
abbrev e_X10_restore : ME := (cX10_restore, (RX10, (2, ((some .int), (0, (0, 8))))))
theorem dX10_restore_0 : decode cX10_restore 0 = .ok (.iload_n 1, 1) := by decide +kernel
theorem dX10_restore_1 : decode cX10_restore 1 = .ok (.invokestatic 283, 3) := by decide +kernel
theorem dX10_restore_4 : decode cX10_restore 4 = .ok (.ifCond .ne 6, 3) := by decide +kernel
theorem dX10_restore_7 : decode cX10_restore 7 = .ok (.ldc 69, 2) := by decide +kernel
theorem dX10_restore_9 : decode cX10_restore 9 = .ok (.ireturn, 1) := by decide +kernel
theorem dX10_restore_10 : decode cX10_restore 10 = .ok (.aload_n 0, 1) := by decide +kernel
theorem dX10_restore_11 : decode cX10_restore 11 = .ok (.getfield 39, 3) := by decide +kernel
theorem dX10_restore_14 : decode cX10_restore 14 = .ok (.iload_n 1, 1) := by decide +kernel
theorem dX10_restore_15 : decode cX10_restore 15 = .ok (.aaload, 1) := by decide +kernel
theorem dX10_restore_16 : decode cX10_restore 16 = .ok (.getfield 290, 3) := by decide +kernel
theorem dX10_restore_19 : decode cX10_restore 19 = .ok (.ifCond .ne 6, 3) := by decide +kernel
theorem dX10_restore_22 : decode cX10_restore 22 = .ok (.ldc 142, 2) := by decide +kernel
theorem dX10_restore_24 : decode cX10_restore 24 = .ok (.ireturn, 1) := by decide +kernel
theorem dX10_restore_25 : decode cX10_restore 25 = .ok (.aload_n 0, 1) := by decide +kernel
theorem dX10_restore_26 : decode cX10_restore 26 = .ok (.getfield 26, 3) := by decide +kernel
theorem dX10_restore_29 : decode cX10_restore 29 = .ok (.aload_n 0, 1) := by decide +kernel
theorem dX10_restore_30 : decode cX10_restore 30 = .ok (.getfield 39, 3) := by decide +kernel
theorem dX10_restore_33 : decode cX10_restore 33 = .ok (.iload_n 1, 1) := by decide +kernel
theorem dX10_restore_34 : decode cX10_restore 34 = .ok (.aaload, 1) := by decide +kernel
theorem dX10_restore_35 : decode cX10_restore 35 = .ok (.getfield 294, 3) := by decide +kernel
theorem dX10_restore_38 : decode cX10_restore 38 = .ok (.aload_n 0, 1) := by decide +kernel
theorem dX10_restore_39 : decode cX10_restore 39 = .ok (.getfield 39, 3) := by decide +kernel
theorem dX10_restore_42 : decode cX10_restore 42 = .ok (.iload_n 1, 1) := by decide +kernel
theorem dX10_restore_43 : decode cX10_restore 43 = .ok (.aaload, 1) := by decide +kernel
theorem dX10_restore_44 : decode cX10_restore 44 = .ok (.getfield 295, 3) := by decide +kernel
theorem dX10_restore_47 : decode cX10_restore 47 = .ok (.invokevirtual 298, 3) := by decide +kernel
theorem dX10_restore_50 : decode cX10_restore 50 = .ok (.aload_n 0, 1) := by decide +kernel
theorem dX10_restore_51 : decode cX10_restore 51 = .ok (.getfield 33, 3) := by decide +kernel
theorem dX10_restore_54 : decode cX10_restore 54 = .ok (.invokevirtual 124, 3) := by decide +kernel
theorem dX10_restore_57 : decode cX10_restore 57 = .ok (.iconst 1, 1) := by decide +kernel
theorem dX10_restore_58 : decode cX10_restore 58 = .ok (.ireturn, 1) := by decide +kernel
def Sp_X10_restore (av : List AV) (m : AM) (Φ : Option AV → AM → Prop) : Prop := ∃ k, av = [vr 10 0, vi k] ∧ ∃ K fl nx W, m.1 31 1 = nI nx ∧ nx < 24 ∧ (inB k 2 = false → Φ (some (vi (-1000001))) m) ∧ (inB k 2 = true → m.1 (82 + 8 * k.toNatClampNeg) 2 = nI fl ∧ fl ≤ 1 ∧ (fl = 1 → ImR m (82 + 8 * k.toNatClampNeg) K)) ∧ (inB k 2 = true → fl = 0 → Φ (some (vi (-1000002))) m) ∧ (inB k 2 = true → fl = 1 → ∀ m2, Fr [21, 22, 23, 24, 25, 26, 27, 28, 29, 30, 31] m m2 → BR m2 K → ActR m2 K 0 nx W → Φ (some (vi (nI 1))) m2)
set_option maxRecDepth 20000 in
set_option maxHeartbeats 4000000 in
theorem S_X10_restore : Snd yX10_restore e_X10_restore Sp_X10_restore := by
  refine Snd.of (by decide +kernel) rfl ?_ ?_
  · rintro av m Φ ⟨k, rfl, _⟩; exact Nat.le_of_ble_eq_true rfl
  rintro av m Φ ⟨k, rfl, K, fl, nx, W, hn, hnl, h1, hk, h2, h3⟩ hav hty
  show B e_X10_restore Φ 0 [some (vr 10 0), some (vi k)] [] m (0, 0)
  have fl1 : inB k 2 = true → ¬ m.1 (81 + 1 + 8 * k.toNatClampNeg) 2 = 0 → fl = 1 := fun q z => by
    have w := hk q
    rw [show 81 + 1 + 8 * k.toNatClampNeg = 82 + 8 * k.toNatClampNeg from rfl, w.1, n_eq0 (by omega)] at z
    omega
  refine b_iloadN (pc := 0) 1 dX10_restore_0 rfl rfl ?_
  refine call_X10_isImage (pc := 1) k960 (by decide) ⟨Nat.le_of_ble_eq_true rfl, Nat.le_of_ble_eq_true rfl⟩ (Nat.le_of_ble_eq_true rfl) dX10_restore_1 ?_
  refine ⟨_, rfl, ?_⟩
  refine b_if_ne (pc := 4) 10 dX10_restore_4 (by decide) (fun c4 => ?_) (fun c4 => ?_)
  refine b_aloadN (pc := 10) 0 dX10_restore_10 rfl rfl ?_
  refine gf10_4 (pc := 11) 81 rfl k419 dX10_restore_11 ?_
  refine b_iloadN (pc := 14) 1 dX10_restore_14 rfl rfl ?_
  refine b_aldR (pc := 15) (n := 2) (w := 8) (t' := 4) (Or.inr ⟨rfl, rfl, rfl, rfl⟩) ?_ dX10_restore_15 ?_
  rotate_left -- leaf 0: index at 15
  refine gf4_2 (pc := 16) k407 dX10_restore_16 ?_
  refine b_if_ne (pc := 19) 25 dX10_restore_19 (by decide) (fun c19 => ?_) (fun c19 => ?_)
  refine b_aloadN (pc := 25) 0 dX10_restore_25 rfl rfl ?_
  refine gf10_2 (pc := 26) 20 rfl k417 dX10_restore_26 ?_
  refine b_aloadN (pc := 29) 0 dX10_restore_29 rfl rfl ?_
  refine gf10_4 (pc := 30) 81 rfl k419 dX10_restore_30 ?_
  refine b_iloadN (pc := 33) 1 dX10_restore_33 rfl rfl ?_
  refine b_aldR (pc := 34) (n := 2) (w := 8) (t' := 4) (Or.inr ⟨rfl, rfl, rfl, rfl⟩) ?_ dX10_restore_34 ?_
  rotate_left -- leaf 1: index at 34
  refine gf4_0 (pc := 35) _ rfl k403 dX10_restore_35 ?_
  refine b_aloadN (pc := 38) 0 dX10_restore_38 rfl rfl ?_
  refine gf10_4 (pc := 39) 81 rfl k419 dX10_restore_39 ?_
  refine b_iloadN (pc := 42) 1 dX10_restore_42 rfl rfl ?_
  refine b_aldR (pc := 43) (n := 2) (w := 8) (t' := 4) (Or.inr ⟨rfl, rfl, rfl, rfl⟩) ?_ dX10_restore_43 ?_
  rotate_left -- leaf 2: index at 43
  refine gf4_1 (pc := 44) _ rfl k405 dX10_restore_44 ?_
  refine call_X2_resume (pc := 47) k973 (by decide) ⟨Nat.le_of_ble_eq_true rfl, Nat.le_of_ble_eq_true rfl⟩ (Nat.le_of_ble_eq_true rfl) dX10_restore_47 ?_
  refine ⟨_, _, rfl, ?_, K, ?_, ?_, ?_, fun m47 fr47 hB47 => ?_⟩
  rotate_left -- leaf 3: apart of X2_resume at 47
  rotate_left -- leaf 4: valid of X2_resume at 47
  rotate_left -- leaf 5: law of X2_resume at 47
  rotate_left -- leaf 6: standing of X2_resume at 47
  refine b_aloadN (pc := 50) 0 dX10_restore_50 rfl rfl ?_
  refine gf10_3 (pc := 51) 31 rfl k418 dX10_restore_51 ?_
  refine call_X0_forget (pc := 54) k604 (by decide) ⟨Nat.le_of_ble_eq_true rfl, Nat.le_of_ble_eq_true rfl⟩ (Nat.le_of_ble_eq_true rfl) dX10_restore_54 ?_
  refine ⟨rfl, ?_⟩
  refine b_iconst (pc := 57) (nI 1) dX10_restore_57 (by decide) ?_
  refine b_iret (pc := 58) rfl dX10_restore_58 ⟨Nat.le_of_ble_eq_true rfl, Nat.le_of_ble_eq_true rfl⟩ ?_
  rotate_left -- leaf 7: return at 58
  refine b_ldc (pc := 22) k624 dX10_restore_22 ?_
  refine b_iret (pc := 24) rfl dX10_restore_24 ⟨Nat.le_of_ble_eq_true rfl, Nat.le_of_ble_eq_true rfl⟩ ?_
  rotate_left -- leaf 8: return at 24
  refine b_ldc (pc := 7) k450 dX10_restore_7 ?_
  refine b_iret (pc := 9) rfl dX10_restore_9 ⟨Nat.le_of_ble_eq_true rfl, Nat.le_of_ble_eq_true rfl⟩ ?_
  rotate_left -- leaf 9: return at 9
  -- leaves: 0 index at 15; 1 index at 34; 2 index at 43; 3 apart of X2_resume at 47; 4 valid of X2_resume at 47; 5 law of X2_resume at 47; 6 standing of X2_resume at 47; 7 return at 58; 8 return at 24; 9 return at 9
  · obtain ⟨j, hj, rfl⟩ := (inB_iff (by omega)).mp (bT c4)
    exact n_in (by omega) (by omega)
  · obtain ⟨j, hj, rfl⟩ := (inB_iff (by omega)).mp (bT c4)
    exact n_in (by omega) (by omega)
  · obtain ⟨j, hj, rfl⟩ := (inB_iff (by omega)).mp (bT c4)
    exact n_in (by omega) (by omega)
  · omega
  · exact ((hk (bT c4)).2.2 (fl1 (bT c4) c19)).1
  · exact ((hk (bT c4)).2.2 (fl1 (bT c4) c19)).2.1
  · exact ((hk (bT c4)).2.2 (fl1 (bT c4) c19)).2.2
  · refine h3 (bT c4) (fl1 (bT c4) c19) _ ((fr47.mono (fun z hz => ?_)).ms (by simp)) (hB47.fr (fun z z1 z2 => mset_ne _ _ _ (by omega))) ⟨?_, hnl, ?_, by omega, fun i hi => absurd hi (Nat.not_lt_zero i)⟩
    · simp at hz ⊢; omega
    · rw [mset_at, if_neg (by decide), fr47.2 31 (by decide)]; exact hn
    · rw [mset_at, if_pos rfl]
  · refine h2 (bT c4) ?_
    have w := hk (bT c4)
    rw [show 81 + 1 + 8 * k.toNatClampNeg = 82 + 8 * k.toNatClampNeg from rfl, w.1, n_eq0 (by omega)] at c19
    exact c19
  · exact h1 (bF c4)
theorem call_X10_restore {E : ME} {Φ : Option AV → AM → Prop} {pc : Nat} {L : List (Option AV)} {st : List AV} {m : AM} {a : Nat × Nat} {idx : Nat} {x0 : AV} {i : Nat} (hl : Cond.methodLink E.2.1 idx yX10_restore ∈ TB) (hdep : 8 + 1 ≤ E.2.2.2.2.2.2) (hroom : a.1 + 0 ≤ E.2.2.2.2.1 ∧ a.2 + 0 ≤ E.2.2.2.2.2.1) (hsr : st.length ≤ 4) (hd : decode E.1 pc = .ok (.invokevirtual idx, 3)) (hsp : Sp_X10_restore [vr 10 i, x0] m (fun r m2 => B E Φ (pc + 3) L (r.toList ++ st) m2 a)) : B E Φ pc L (x0 :: vr 10 i :: st) m a := b_callV S_X10_restore [x0] (RX10, TX10, 9) rfl rfl (by decide) (Or.inl hl) k970 k971 k68 k972 (show _ ∧ _ ∧ Option.map (fun d => d.parameters.length) (parseMethodDescriptor yX10_restore.desc) = some 1 from by decide +kernel) ⟨hdep, by decide⟩ hroom hsr hd hsp
abbrev e_X10_found : ME := (cX10_found, (RX10, (2, ((some .int), (0, (0, 1))))))
theorem dX10_found_0 : decode cX10_found 0 = .ok (.aload_n 0, 1) := by decide +kernel
theorem dX10_found_1 : decode cX10_found 1 = .ok (.iload_n 1, 1) := by decide +kernel
theorem dX10_found_2 : decode cX10_found 2 = .ok (.putfield 272, 3) := by decide +kernel
theorem dX10_found_5 : decode cX10_found 5 = .ok (.ldc_w 326, 3) := by decide +kernel
theorem dX10_found_8 : decode cX10_found 8 = .ok (.iload_n 1, 1) := by decide +kernel
theorem dX10_found_9 : decode cX10_found 9 = .ok (.isub, 1) := by decide +kernel
theorem dX10_found_10 : decode cX10_found 10 = .ok (.ireturn, 1) := by decide +kernel
def Sp_X10_found (av : List AV) (m : AM) (Φ : Option AV → AM → Prop) : Prop := ∃ n, av = [vr 10 0, vi n] ∧ Φ (some (vi (-1000010 - n))) (mset m 0 8 n)
set_option maxRecDepth 20000 in
set_option maxHeartbeats 4000000 in
theorem S_X10_found : Snd yX10_found e_X10_found Sp_X10_found := by
  refine Snd.of (by decide +kernel) rfl ?_ ?_
  · rintro av m Φ ⟨n, rfl, _⟩; exact Nat.le_of_ble_eq_true rfl
  rintro av m Φ ⟨n, rfl, h⟩ hav hty
  show B e_X10_found Φ 0 [some (vr 10 0), some (vi n)] [] m (0, 0)
  refine b_aloadN (pc := 0) 0 dX10_found_0 rfl rfl ?_
  refine b_iloadN (pc := 1) 1 dX10_found_1 rfl rfl ?_
  refine pf10_8 (pc := 2) k423 dX10_found_2 ?_
  refine b_ldcw (pc := 5) k455 dX10_found_5 ?_
  refine b_iloadN (pc := 8) 1 dX10_found_8 rfl rfl ?_
  refine b_isub (pc := 9) dX10_found_9 ?_
  refine b_iret (pc := 10) rfl dX10_found_10 ⟨Nat.le_of_ble_eq_true rfl, Nat.le_of_ble_eq_true rfl⟩ ?_
  rotate_left -- leaf 0: return at 10
  -- leaves: 0 return at 10
  exact h
theorem call_X10_found {E : ME} {Φ : Option AV → AM → Prop} {pc : Nat} {L : List (Option AV)} {st : List AV} {m : AM} {a : Nat × Nat} {idx : Nat} {x0 : AV} {i : Nat} (hl : Cond.methodLink E.2.1 idx yX10_found ∈ TB) (hdep : 1 + 1 ≤ E.2.2.2.2.2.2) (hroom : a.1 + 0 ≤ E.2.2.2.2.1 ∧ a.2 + 0 ≤ E.2.2.2.2.2.1) (hsr : st.length ≤ 4) (hd : decode E.1 pc = .ok (.invokevirtual idx, 3)) (hsp : Sp_X10_found [vr 10 i, x0] m (fun r m2 => B E Φ (pc + 3) L (r.toList ++ st) m2 a)) : B E Φ pc L (x0 :: vr 10 i :: st) m a := b_callV S_X10_found [x0] (RX10, TX10, 9) rfl rfl (by decide) (Or.inl hl) k453 k0 k68 k454 (show _ ∧ _ ∧ Option.map (fun d => d.parameters.length) (parseMethodDescriptor yX10_found.desc) = some 1 from by decide +kernel) ⟨hdep, by decide⟩ hroom hsr hd hsp
abbrev e_X10_fine : ME := (cX10_fine, (RX10, (2, ((some .int), (0, (0, 1))))))
theorem dX10_fine_0 : decode cX10_fine 0 = .ok (.aload_n 0, 1) := by decide +kernel
theorem dX10_fine_1 : decode cX10_fine 1 = .ok (.iconst 0, 1) := by decide +kernel
theorem dX10_fine_2 : decode cX10_fine 2 = .ok (.putfield 272, 3) := by decide +kernel
theorem dX10_fine_5 : decode cX10_fine 5 = .ok (.iload_n 1, 1) := by decide +kernel
theorem dX10_fine_6 : decode cX10_fine 6 = .ok (.ireturn, 1) := by decide +kernel
def Sp_X10_fine (av : List AV) (m : AM) (Φ : Option AV → AM → Prop) : Prop := ∃ n, av = [vr 10 0, vi n] ∧ Φ (some (vi n)) (mset m 0 8 (nI 0))
set_option maxRecDepth 20000 in
set_option maxHeartbeats 4000000 in
theorem S_X10_fine : Snd yX10_fine e_X10_fine Sp_X10_fine := by
  refine Snd.of (by decide +kernel) rfl ?_ ?_
  · rintro av m Φ ⟨n, rfl, _⟩; exact Nat.le_of_ble_eq_true rfl
  rintro av m Φ ⟨n, rfl, h⟩ hav hty
  show B e_X10_fine Φ 0 [some (vr 10 0), some (vi n)] [] m (0, 0)
  refine b_aloadN (pc := 0) 0 dX10_fine_0 rfl rfl ?_
  refine b_iconst (pc := 1) (nI 0) dX10_fine_1 (by decide) ?_
  refine pf10_8 (pc := 2) k423 dX10_fine_2 ?_
  refine b_iloadN (pc := 5) 1 dX10_fine_5 rfl rfl ?_
  refine b_iret (pc := 6) rfl dX10_fine_6 ⟨Nat.le_of_ble_eq_true rfl, Nat.le_of_ble_eq_true rfl⟩ ?_
  rotate_left -- leaf 0: return at 6
  -- leaves: 0 return at 6
  exact h
theorem call_X10_fine {E : ME} {Φ : Option AV → AM → Prop} {pc : Nat} {L : List (Option AV)} {st : List AV} {m : AM} {a : Nat × Nat} {idx : Nat} {x0 : AV} {i : Nat} (hl : Cond.methodLink E.2.1 idx yX10_fine ∈ TB) (hdep : 1 + 1 ≤ E.2.2.2.2.2.2) (hroom : a.1 + 0 ≤ E.2.2.2.2.1 ∧ a.2 + 0 ≤ E.2.2.2.2.2.1) (hsr : st.length ≤ 4) (hd : decode E.1 pc = .ok (.invokevirtual idx, 3)) (hsp : Sp_X10_fine [vr 10 i, x0] m (fun r m2 => B E Φ (pc + 3) L (r.toList ++ st) m2 a)) : B E Φ pc L (x0 :: vr 10 i :: st) m a := b_callV S_X10_fine [x0] (RX10, TX10, 9) rfl rfl (by decide) (Or.inl hl) k462 k1 k68 k463 (show _ ∧ _ ∧ Option.map (fun d => d.parameters.length) (parseMethodDescriptor yX10_fine.desc) = some 1 from by decide +kernel) ⟨hdep, by decide⟩ hroom hsr hd hsp
abbrev e_X10_status : ME := (cX10_status, (RX10, (1, ((some .int), (0, (0, 8))))))
theorem dX10_status_0 : decode cX10_status 0 = .ok (.aload_n 0, 1) := by decide +kernel
theorem dX10_status_1 : decode cX10_status 1 = .ok (.getfield 272, 3) := by decide +kernel
theorem dX10_status_4 : decode cX10_status 4 = .ok (.ireturn, 1) := by decide +kernel
def Sp_X10_status (av : List AV) (m : AM) (Φ : Option AV → AM → Prop) : Prop := av = [vr 10 0] ∧ Φ (some (vi (m.1 0 8))) m
set_option maxRecDepth 20000 in
set_option maxHeartbeats 4000000 in
theorem S_X10_status : Snd yX10_status e_X10_status Sp_X10_status := by
  refine Snd.of (by decide +kernel) rfl ?_ ?_
  · rintro av m Φ ⟨rfl, _⟩; exact Nat.le_of_ble_eq_true rfl
  rintro av m Φ ⟨rfl, h⟩ hav hty
  show B e_X10_status Φ 0 [some (vr 10 0)] [] m (0, 0)
  refine b_aloadN (pc := 0) 0 dX10_status_0 rfl rfl ?_
  refine gf10_8 (pc := 1) k423 dX10_status_1 ?_
  refine b_iret (pc := 4) rfl dX10_status_4 ⟨Nat.le_of_ble_eq_true rfl, Nat.le_of_ble_eq_true rfl⟩ ?_
  rotate_left -- leaf 0: return at 4
  -- leaves: 0 return at 4
  exact h
theorem call_X10_status {E : ME} {Φ : Option AV → AM → Prop} {pc : Nat} {L : List (Option AV)} {st : List AV} {m : AM} {a : Nat × Nat} {idx : Nat} {i : Nat} (hl : Cond.methodLink E.2.1 idx yX10_status ∈ TB) (hdep : 8 + 1 ≤ E.2.2.2.2.2.2) (hroom : a.1 + 0 ≤ E.2.2.2.2.1 ∧ a.2 + 0 ≤ E.2.2.2.2.2.1) (hsr : st.length ≤ 4) (hd : decode E.1 pc = .ok (.invokevirtual idx, 3)) (hsp : Sp_X10_status [vr 10 i] m (fun r m2 => B E Φ (pc + 3) L (r.toList ++ st) m2 a)) : B E Φ pc L (vr 10 i :: st) m a := b_callV S_X10_status [] (RX10, TX10, 9) rfl rfl (by decide) (Or.inl hl) k1033 k1034 k68 k1035 (show _ ∧ _ ∧ Option.map (fun d => d.parameters.length) (parseMethodDescriptor yX10_status.desc) = some 0 from by decide +kernel) ⟨hdep, by decide⟩ hroom hsr hd hsp
abbrev e_X9_faultNumber : ME := (cX9_faultNumber, (RX9, (1, ((some .int), (0, (0, 1))))))
theorem dX9_faultNumber_0 : decode cX9_faultNumber 0 = .ok (.aload_n 0, 1) := by decide +kernel
theorem dX9_faultNumber_1 : decode cX9_faultNumber 1 = .ok (.getfield 27, 3) := by decide +kernel
theorem dX9_faultNumber_4 : decode cX9_faultNumber 4 = .ok (.ireturn, 1) := by decide +kernel
def Sp_X9_faultNumber (av : List AV) (m : AM) (Φ : Option AV → AM → Prop) : Prop := av = [vr 9 13] ∧ Φ (some (vi (m.1 13 7))) m
set_option maxRecDepth 20000 in
set_option maxHeartbeats 4000000 in
theorem S_X9_faultNumber : Snd yX9_faultNumber e_X9_faultNumber Sp_X9_faultNumber := by
  refine Snd.of (by decide +kernel) rfl ?_ ?_
  · rintro av m Φ ⟨rfl, _⟩; exact Nat.le_of_ble_eq_true rfl
  rintro av m Φ ⟨rfl, h⟩ hav hty
  show B e_X9_faultNumber Φ 0 [some (vr 9 13)] [] m (0, 0)
  refine b_aloadN (pc := 0) 0 dX9_faultNumber_0 rfl rfl ?_
  refine gf9_7 (pc := 1) k192 dX9_faultNumber_1 ?_
  refine b_iret (pc := 4) rfl dX9_faultNumber_4 ⟨Nat.le_of_ble_eq_true rfl, Nat.le_of_ble_eq_true rfl⟩ ?_
  rotate_left -- leaf 0: return at 4
  -- leaves: 0 return at 4
  exact h
theorem call_X9_faultNumber {E : ME} {Φ : Option AV → AM → Prop} {pc : Nat} {L : List (Option AV)} {st : List AV} {m : AM} {a : Nat × Nat} {idx : Nat} {i : Nat} (hl : Cond.methodLink E.2.1 idx yX9_faultNumber ∈ TB) (hdep : 1 + 1 ≤ E.2.2.2.2.2.2) (hroom : a.1 + 0 ≤ E.2.2.2.2.1 ∧ a.2 + 0 ≤ E.2.2.2.2.2.1) (hsr : st.length ≤ 4) (hd : decode E.1 pc = .ok (.invokevirtual idx, 3)) (hsp : Sp_X9_faultNumber [vr 9 i] m (fun r m2 => B E Φ (pc + 3) L (r.toList ++ st) m2 a)) : B E Φ pc L (vr 9 i :: st) m a := b_callV S_X9_faultNumber [] (RX9, TX9, 9) rfl rfl (by decide) (Or.inl hl) k613 k614 k71 k615 (show _ ∧ _ ∧ Option.map (fun d => d.parameters.length) (parseMethodDescriptor yX9_faultNumber.desc) = some 0 from by decide +kernel) ⟨hdep, by decide⟩ hroom hsr hd hsp
abbrev e_X9_faultPlace : ME := (cX9_faultPlace, (RX9, (1, ((some .int), (0, (0, 1))))))
theorem dX9_faultPlace_0 : decode cX9_faultPlace 0 = .ok (.aload_n 0, 1) := by decide +kernel
theorem dX9_faultPlace_1 : decode cX9_faultPlace 1 = .ok (.getfield 30, 3) := by decide +kernel
theorem dX9_faultPlace_4 : decode cX9_faultPlace 4 = .ok (.ireturn, 1) := by decide +kernel
def Sp_X9_faultPlace (av : List AV) (m : AM) (Φ : Option AV → AM → Prop) : Prop := av = [vr 9 13] ∧ Φ (some (vi (m.1 13 8))) m
set_option maxRecDepth 20000 in
set_option maxHeartbeats 4000000 in
theorem S_X9_faultPlace : Snd yX9_faultPlace e_X9_faultPlace Sp_X9_faultPlace := by
  refine Snd.of (by decide +kernel) rfl ?_ ?_
  · rintro av m Φ ⟨rfl, _⟩; exact Nat.le_of_ble_eq_true rfl
  rintro av m Φ ⟨rfl, h⟩ hav hty
  show B e_X9_faultPlace Φ 0 [some (vr 9 13)] [] m (0, 0)
  refine b_aloadN (pc := 0) 0 dX9_faultPlace_0 rfl rfl ?_
  refine gf9_8 (pc := 1) k193 dX9_faultPlace_1 ?_
  refine b_iret (pc := 4) rfl dX9_faultPlace_4 ⟨Nat.le_of_ble_eq_true rfl, Nat.le_of_ble_eq_true rfl⟩ ?_
  rotate_left -- leaf 0: return at 4
  -- leaves: 0 return at 4
  exact h
theorem call_X9_faultPlace {E : ME} {Φ : Option AV → AM → Prop} {pc : Nat} {L : List (Option AV)} {st : List AV} {m : AM} {a : Nat × Nat} {idx : Nat} {i : Nat} (hl : Cond.methodLink E.2.1 idx yX9_faultPlace ∈ TB) (hdep : 1 + 1 ≤ E.2.2.2.2.2.2) (hroom : a.1 + 0 ≤ E.2.2.2.2.1 ∧ a.2 + 0 ≤ E.2.2.2.2.2.1) (hsr : st.length ≤ 4) (hd : decode E.1 pc = .ok (.invokevirtual idx, 3)) (hsp : Sp_X9_faultPlace [vr 9 i] m (fun r m2 => B E Φ (pc + 3) L (r.toList ++ st) m2 a)) : B E Φ pc L (vr 9 i :: st) m a := b_callV S_X9_faultPlace [] (RX9, TX9, 9) rfl rfl (by decide) (Or.inl hl) k582 k583 k71 k584 (show _ ∧ _ ∧ Option.map (fun d => d.parameters.length) (parseMethodDescriptor yX9_faultPlace.desc) = some 0 from by decide +kernel) ⟨hdep, by decide⟩ hroom hsr hd hsp
abbrev e_X10_fault : ME := (cX10_fault, (RX10, (1, ((some .int), (0, (0, 8))))))
theorem dX10_fault_0 : decode cX10_fault 0 = .ok (.aload_n 0, 1) := by decide +kernel
theorem dX10_fault_1 : decode cX10_fault 1 = .ok (.getfield 19, 3) := by decide +kernel
theorem dX10_fault_4 : decode cX10_fault 4 = .ok (.invokevirtual 136, 3) := by decide +kernel
theorem dX10_fault_7 : decode cX10_fault 7 = .ok (.ireturn, 1) := by decide +kernel
def Sp_X10_fault (av : List AV) (m : AM) (Φ : Option AV → AM → Prop) : Prop := av = [vr 10 0] ∧ Φ (some (vi (m.1 13 7))) m
set_option maxRecDepth 20000 in
set_option maxHeartbeats 4000000 in
theorem S_X10_fault : Snd yX10_fault e_X10_fault Sp_X10_fault := by
  refine Snd.of (by decide +kernel) rfl ?_ ?_
  · rintro av m Φ ⟨rfl, _⟩; exact Nat.le_of_ble_eq_true rfl
  rintro av m Φ ⟨rfl, h⟩ hav hty
  show B e_X10_fault Φ 0 [some (vr 10 0)] [] m (0, 0)
  refine b_aloadN (pc := 0) 0 dX10_fault_0 rfl rfl ?_
  refine gf10_1 (pc := 1) 13 rfl k416 dX10_fault_1 ?_
  refine call_X9_faultNumber (pc := 4) k612 (by decide) ⟨Nat.le_of_ble_eq_true rfl, Nat.le_of_ble_eq_true rfl⟩ (Nat.le_of_ble_eq_true rfl) dX10_fault_4 ?_
  refine ⟨rfl, ?_⟩
  refine b_iret (pc := 7) rfl dX10_fault_7 ⟨Nat.le_of_ble_eq_true rfl, Nat.le_of_ble_eq_true rfl⟩ ?_
  rotate_left -- leaf 0: return at 7
  -- leaves: 0 return at 7
  exact h
theorem call_X10_fault {E : ME} {Φ : Option AV → AM → Prop} {pc : Nat} {L : List (Option AV)} {st : List AV} {m : AM} {a : Nat × Nat} {idx : Nat} {i : Nat} (hl : Cond.methodLink E.2.1 idx yX10_fault ∈ TB) (hdep : 8 + 1 ≤ E.2.2.2.2.2.2) (hroom : a.1 + 0 ≤ E.2.2.2.2.1 ∧ a.2 + 0 ≤ E.2.2.2.2.2.1) (hsr : st.length ≤ 4) (hd : decode E.1 pc = .ok (.invokevirtual idx, 3)) (hsp : Sp_X10_fault [vr 10 i] m (fun r m2 => B E Φ (pc + 3) L (r.toList ++ st) m2 a)) : B E Φ pc L (vr 10 i :: st) m a := b_callV S_X10_fault [] (RX10, TX10, 9) rfl rfl (by decide) (Or.inl hl) k609 k610 k68 k611 (show _ ∧ _ ∧ Option.map (fun d => d.parameters.length) (parseMethodDescriptor yX10_fault.desc) = some 0 from by decide +kernel) ⟨hdep, by decide⟩ hroom hsr hd hsp
abbrev e_X9_wipe : ME := (cX9_wipe, (RX9, (1, (none, (0, (0, 1))))))
theorem dX9_wipe_0 : decode cX9_wipe 0 = .ok (.aload_n 0, 1) := by decide +kernel
theorem dX9_wipe_1 : decode cX9_wipe 1 = .ok (.iconst 0, 1) := by decide +kernel
theorem dX9_wipe_2 : decode cX9_wipe 2 = .ok (.putfield 22, 3) := by decide +kernel
theorem dX9_wipe_5 : decode cX9_wipe 5 = .ok (.return_, 1) := by decide +kernel
def Sp_X9_wipe (av : List AV) (m : AM) (Φ : Option AV → AM → Prop) : Prop := av = [vr 9 13] ∧ Φ none (mset m 13 2 (nI 0))
set_option maxRecDepth 20000 in
set_option maxHeartbeats 4000000 in
theorem S_X9_wipe : Snd yX9_wipe e_X9_wipe Sp_X9_wipe := by
  refine Snd.of (by decide +kernel) rfl ?_ ?_
  · rintro av m Φ ⟨rfl, _⟩; exact Nat.le_of_ble_eq_true rfl
  rintro av m Φ ⟨rfl, h⟩ hav hty
  show B e_X9_wipe Φ 0 [some (vr 9 13)] [] m (0, 0)
  refine b_aloadN (pc := 0) 0 dX9_wipe_0 rfl rfl ?_
  refine b_iconst (pc := 1) (nI 0) dX9_wipe_1 (by decide) ?_
  refine pf9_2 (pc := 2) k186 dX9_wipe_2 ?_
  refine b_vret (pc := 5) rfl dX9_wipe_5 ⟨Nat.le_of_ble_eq_true rfl, Nat.le_of_ble_eq_true rfl⟩ ?_
  rotate_left -- leaf 0: return at 5
  -- leaves: 0 return at 5
  exact h
theorem call_X9_wipe {E : ME} {Φ : Option AV → AM → Prop} {pc : Nat} {L : List (Option AV)} {st : List AV} {m : AM} {a : Nat × Nat} {idx : Nat} {i : Nat} (hl : Cond.methodLink E.2.1 idx yX9_wipe ∈ TB) (hdep : 1 + 1 ≤ E.2.2.2.2.2.2) (hroom : a.1 + 0 ≤ E.2.2.2.2.1 ∧ a.2 + 0 ≤ E.2.2.2.2.2.1) (hsr : st.length ≤ 4) (hd : decode E.1 pc = .ok (.invokevirtual idx, 3)) (hsp : Sp_X9_wipe [vr 9 i] m (fun r m2 => B E Φ (pc + 3) L (r.toList ++ st) m2 a)) : B E Φ pc L (vr 9 i :: st) m a := b_callV S_X9_wipe [] (RX9, TX9, 9) rfl rfl (by decide) (Or.inl hl) k577 k578 k71 k579 (show _ ∧ _ ∧ Option.map (fun d => d.parameters.length) (parseMethodDescriptor yX9_wipe.desc) = some 0 from by decide +kernel) ⟨hdep, by decide⟩ hroom hsr hd hsp
abbrev e_X9_add : ME := (cX9_add, (RX9, (2, ((some .int), (0, (0, 1))))))
theorem dX9_add_0 : decode cX9_add 0 = .ok (.aload_n 0, 1) := by decide +kernel
theorem dX9_add_1 : decode cX9_add 1 = .ok (.getfield 22, 3) := by decide +kernel
theorem dX9_add_4 : decode cX9_add 4 = .ok (.bipush 120, 2) := by decide +kernel
theorem dX9_add_6 : decode cX9_add 6 = .ok (.if_icmp .lt 6, 3) := by decide +kernel
theorem dX9_add_9 : decode cX9_add 9 = .ok (.ldc 26, 2) := by decide +kernel
theorem dX9_add_11 : decode cX9_add 11 = .ok (.ireturn, 1) := by decide +kernel
theorem dX9_add_12 : decode cX9_add 12 = .ok (.aload_n 0, 1) := by decide +kernel
theorem dX9_add_13 : decode cX9_add 13 = .ok (.getfield 18, 3) := by decide +kernel
theorem dX9_add_16 : decode cX9_add 16 = .ok (.aload_n 0, 1) := by decide +kernel
theorem dX9_add_17 : decode cX9_add 17 = .ok (.getfield 22, 3) := by decide +kernel
theorem dX9_add_20 : decode cX9_add 20 = .ok (.iload_n 1, 1) := by decide +kernel
theorem dX9_add_21 : decode cX9_add 21 = .ok (.iastore, 1) := by decide +kernel
theorem dX9_add_22 : decode cX9_add 22 = .ok (.aload_n 0, 1) := by decide +kernel
theorem dX9_add_23 : decode cX9_add 23 = .ok (.dup, 1) := by decide +kernel
theorem dX9_add_24 : decode cX9_add 24 = .ok (.getfield 22, 3) := by decide +kernel
theorem dX9_add_27 : decode cX9_add 27 = .ok (.iconst 1, 1) := by decide +kernel
theorem dX9_add_28 : decode cX9_add 28 = .ok (.iadd, 1) := by decide +kernel
theorem dX9_add_29 : decode cX9_add 29 = .ok (.putfield 22, 3) := by decide +kernel
theorem dX9_add_32 : decode cX9_add 32 = .ok (.aload_n 0, 1) := by decide +kernel
theorem dX9_add_33 : decode cX9_add 33 = .ok (.getfield 22, 3) := by decide +kernel
theorem dX9_add_36 : decode cX9_add 36 = .ok (.ireturn, 1) := by decide +kernel
def Sp_X9_add (av : List AV) (m : AM) (Φ : Option AV → AM → Prop) : Prop := ∃ x, av = [vr 9 13, vi x] ∧ ∃ n, m.1 13 2 = nI n ∧ n ≤ 120 ∧ (n = 120 → Φ (some (vi (-1000003))) m) ∧ (n < 120 → Φ (some (vi (nI (n + 1)))) (mset (mset m 19 n x) 13 2 (nI (n + 1))))
set_option maxRecDepth 20000 in
set_option maxHeartbeats 4000000 in
theorem S_X9_add : Snd yX9_add e_X9_add Sp_X9_add := by
  refine Snd.of (by decide +kernel) rfl ?_ ?_
  · rintro av m Φ ⟨x, rfl, _⟩; exact Nat.le_of_ble_eq_true rfl
  rintro av m Φ ⟨x, rfl, n, hn, hl, h1, h2⟩ hav hty
  show B e_X9_add Φ 0 [some (vr 9 13), some (vi x)] [] m (0, 0)
  refine b_aloadN (pc := 0) 0 dX9_add_0 rfl rfl ?_
  refine gf9_2 (pc := 1) k186 dX9_add_1 ?_
  refine b_bipush (pc := 4) (nI 120) dX9_add_4 (by decide) ?_
  refine b_icmp_lt (pc := 6) 12 dX9_add_6 (by decide) (fun c6 => ?_) (fun c6 => ?_)
  refine b_aloadN (pc := 12) 0 dX9_add_12 rfl rfl ?_
  refine gf9_1 (pc := 13) 19 rfl k185 dX9_add_13 ?_
  refine b_aloadN (pc := 16) 0 dX9_add_16 rfl rfl ?_
  refine gf9_2 (pc := 17) k186 dX9_add_17 ?_
  refine b_iloadN (pc := 20) 1 dX9_add_20 rfl rfl ?_
  refine b_iast (pc := 21) (by decide) ?_ dX9_add_21 ?_
  rotate_left -- leaf 0: index at 21
  refine b_aloadN (pc := 22) 0 dX9_add_22 rfl rfl ?_
  refine b_dup_r (pc := 23) dX9_add_23 ?_
  refine gf9_2 (pc := 24) k186 dX9_add_24 ?_
  refine b_iconst (pc := 27) (nI 1) dX9_add_27 (by decide) ?_
  refine b_iadd (pc := 28) dX9_add_28 ?_
  refine pf9_2 (pc := 29) k186 dX9_add_29 ?_
  refine b_aloadN (pc := 32) 0 dX9_add_32 rfl rfl ?_
  refine gf9_2 (pc := 33) k186 dX9_add_33 ?_
  refine b_iret (pc := 36) rfl dX9_add_36 ⟨Nat.le_of_ble_eq_true rfl, Nat.le_of_ble_eq_true rfl⟩ ?_
  rotate_left -- leaf 1: return at 36
  refine b_ldc (pc := 9) k512 dX9_add_9 ?_
  refine b_iret (pc := 11) rfl dX9_add_11 ⟨Nat.le_of_ble_eq_true rfl, Nat.le_of_ble_eq_true rfl⟩ ?_
  rotate_left -- leaf 2: return at 11
  -- leaves: 0 index at 21; 1 return at 36; 2 return at 11
  · rw [hn, n_lt (by omega) (by omega)] at c6
    rw [hn]; exact n_in (by omega) (by omega)
  · rw [hn, n_lt (by omega) (by omega)] at c6
    rw [mset_at, if_pos rfl, mset_ne _ _ _ (by decide), hn, n_cl (by omega), n_add]
    exact h2 c6
  · rw [hn, n_lt (by omega) (by omega)] at c6
    exact h1 (by omega)
theorem call_X9_add {E : ME} {Φ : Option AV → AM → Prop} {pc : Nat} {L : List (Option AV)} {st : List AV} {m : AM} {a : Nat × Nat} {idx : Nat} {x0 : AV} {i : Nat} (hl : Cond.methodLink E.2.1 idx yX9_add ∈ TB) (hdep : 1 + 1 ≤ E.2.2.2.2.2.2) (hroom : a.1 + 0 ≤ E.2.2.2.2.1 ∧ a.2 + 0 ≤ E.2.2.2.2.2.1) (hsr : st.length ≤ 4) (hd : decode E.1 pc = .ok (.invokevirtual idx, 3)) (hsp : Sp_X9_add [vr 9 i, x0] m (fun r m2 => B E Φ (pc + 3) L (r.toList ++ st) m2 a)) : B E Φ pc L (x0 :: vr 9 i :: st) m a := b_callV S_X9_add [x0] (RX9, TX9, 9) rfl rfl (by decide) (Or.inl hl) k509 k510 k71 k511 (show _ ∧ _ ∧ Option.map (fun d => d.parameters.length) (parseMethodDescriptor yX9_add.desc) = some 1 from by decide +kernel) ⟨hdep, by decide⟩ hroom hsr hd hsp
abbrev e_X10_feed : ME := (cX10_feed, (RX10, (2, ((some .int), (0, (0, 8))))))
theorem dX10_feed_0 : decode cX10_feed 0 = .ok (.iload_n 1, 1) := by decide +kernel
theorem dX10_feed_1 : decode cX10_feed 1 = .ok (.ifCond .lt 10, 3) := by decide +kernel
theorem dX10_feed_4 : decode cX10_feed 4 = .ok (.iload_n 1, 1) := by decide +kernel
theorem dX10_feed_5 : decode cX10_feed 5 = .ok (.sipush 255, 3) := by decide +kernel
theorem dX10_feed_8 : decode cX10_feed 8 = .ok (.if_icmp .le 6, 3) := by decide +kernel
theorem dX10_feed_11 : decode cX10_feed 11 = .ok (.ldc 69, 2) := by decide +kernel
theorem dX10_feed_13 : decode cX10_feed 13 = .ok (.ireturn, 1) := by decide +kernel
theorem dX10_feed_14 : decode cX10_feed 14 = .ok (.aload_n 0, 1) := by decide +kernel
theorem dX10_feed_15 : decode cX10_feed 15 = .ok (.getfield 19, 3) := by decide +kernel
theorem dX10_feed_18 : decode cX10_feed 18 = .ok (.iload_n 1, 1) := by decide +kernel
theorem dX10_feed_19 : decode cX10_feed 19 = .ok (.invokevirtual 101, 3) := by decide +kernel
theorem dX10_feed_22 : decode cX10_feed 22 = .ok (.ireturn, 1) := by decide +kernel
def Sp_X10_feed (av : List AV) (m : AM) (Φ : Option AV → AM → Prop) : Prop := ∃ x, av = [vr 10 0, vi x] ∧ ∃ n, m.1 13 2 = nI n ∧ n ≤ 120 ∧ (inB x 256 = false → Φ (some (vi (-1000001))) m) ∧ (inB x 256 = true → n = 120 → Φ (some (vi (-1000003))) m) ∧ (inB x 256 = true → n < 120 → Φ (some (vi (nI (n + 1)))) (mset (mset m 19 n x) 13 2 (nI (n + 1))))
set_option maxRecDepth 20000 in
set_option maxHeartbeats 4000000 in
theorem S_X10_feed : Snd yX10_feed e_X10_feed Sp_X10_feed := by
  refine Snd.of (by decide +kernel) rfl ?_ ?_
  · rintro av m Φ ⟨x, rfl, _⟩; exact Nat.le_of_ble_eq_true rfl
  rintro av m Φ ⟨x, rfl, n, hn, hl, h1, h2, h3⟩ hav hty
  show B e_X10_feed Φ 0 [some (vr 10 0), some (vi x)] [] m (0, 0)
  have le : ¬ x < 0 → x ≤ nI 255 → inB x 256 = true := fun a b => by
    refine inB_t a (fun c => ?_)
    obtain ⟨j, hj, rfl⟩ := nI_of a
    rw [n_le (by omega) (by omega)] at b c
    omega
  have gt : ¬ x < 0 → ¬ x ≤ nI 255 → inB x 256 = false := fun a b => by
    refine inB_f2 ?_
    obtain ⟨j, hj, rfl⟩ := nI_of a
    rw [n_le (by omega) (by omega)] at b ⊢
    omega
  refine b_iloadN (pc := 0) 1 dX10_feed_0 rfl rfl ?_
  refine b_if_lt (pc := 1) 11 dX10_feed_1 (by decide) (fun c1 => ?_) (fun c1 => ?_)
  refine b_ldc (pc := 11) k450 dX10_feed_11 ?_
  refine b_iret (pc := 13) rfl dX10_feed_13 ⟨Nat.le_of_ble_eq_true rfl, Nat.le_of_ble_eq_true rfl⟩ ?_
  rotate_left -- leaf 0: return at 13
  refine b_iloadN (pc := 4) 1 dX10_feed_4 rfl rfl ?_
  refine b_sipush (pc := 5) (nI 255) dX10_feed_5 (by decide) ?_
  refine b_icmp_le (pc := 8) 14 dX10_feed_8 (by decide) (fun c8 => ?_) (fun c8 => ?_)
  refine b_aloadN (pc := 14) 0 dX10_feed_14 rfl rfl ?_
  refine gf10_1 (pc := 15) 13 rfl k416 dX10_feed_15 ?_
  refine b_iloadN (pc := 18) 1 dX10_feed_18 rfl rfl ?_
  rotate_left -- leaf 1: at 19
  refine b_ldc (pc := 11) k450 dX10_feed_11 ?_
  refine b_iret (pc := 13) rfl dX10_feed_13 ⟨Nat.le_of_ble_eq_true rfl, Nat.le_of_ble_eq_true rfl⟩ ?_
  rotate_left -- leaf 2: return at 13
  -- leaves: 0 return at 13; 1 at 19; 2 return at 13
  · exact h1 (inB_f1 c1)
  · refine call_X9_add (pc := 19) k508 (by decide) ⟨Nat.le_of_ble_eq_true rfl, Nat.le_of_ble_eq_true rfl⟩ (Nat.le_of_ble_eq_true rfl) dX10_feed_19 ?_
    refine ⟨_, rfl, n, hn, hl, fun e => ?_, fun e => ?_⟩
    · refine b_iret (pc := 22) rfl dX10_feed_22 ⟨Nat.le_of_ble_eq_true rfl, Nat.le_of_ble_eq_true rfl⟩ ?_
      exact h2 (le c1 c8) e
    · refine b_iret (pc := 22) rfl dX10_feed_22 ⟨Nat.le_of_ble_eq_true rfl, Nat.le_of_ble_eq_true rfl⟩ ?_
      exact h3 (le c1 c8) e
  · exact h1 (gt c1 c8)
theorem call_X10_feed {E : ME} {Φ : Option AV → AM → Prop} {pc : Nat} {L : List (Option AV)} {st : List AV} {m : AM} {a : Nat × Nat} {idx : Nat} {x0 : AV} {i : Nat} (hl : Cond.methodLink E.2.1 idx yX10_feed ∈ TB) (hdep : 8 + 1 ≤ E.2.2.2.2.2.2) (hroom : a.1 + 0 ≤ E.2.2.2.2.1 ∧ a.2 + 0 ≤ E.2.2.2.2.2.1) (hsr : st.length ≤ 4) (hd : decode E.1 pc = .ok (.invokevirtual idx, 3)) (hsp : Sp_X10_feed [vr 10 i, x0] m (fun r m2 => B E Φ (pc + 3) L (r.toList ++ st) m2 a)) : B E Φ pc L (x0 :: vr 10 i :: st) m a := b_callV S_X10_feed [x0] (RX10, TX10, 9) rfl rfl (by decide) (Or.inl hl) k505 k506 k68 k507 (show _ ∧ _ ∧ Option.map (fun d => d.parameters.length) (parseMethodDescriptor yX10_feed.desc) = some 1 from by decide +kernel) ⟨hdep, by decide⟩ hroom hsr hd hsp
end
section
/-! ROWS: La r is 0 where a row is missing, else its lane and 1; Ma r its length; It r its items -/
theorem i_rng (x : Int32) : -2147483648 ≤ x.toInt ∧ x.toInt < 2147483648 := by
  have h1 := Int32.le_toInt x
  have h2 := Int32.toInt_lt x
  omega
theorem i_bmod {z : Int} (h1 : -2147483648 ≤ z) (h2 : z < 2147483648) : z.bmod (2 ^ 32) = z := by
  rw [Int.bmod_eq_of_le (by omega) (by omega)]
theorem i_sub {x y : Int32} (h1 : -2147483648 ≤ x.toInt - y.toInt) (h2 : x.toInt - y.toInt < 2147483648) : (x - y).toInt = x.toInt - y.toInt := by
  rw [Int32.toInt_sub, i_bmod h1 h2]
theorem i_add {x y : Int32} (h1 : -2147483648 ≤ x.toInt + y.toInt) (h2 : x.toInt + y.toInt < 2147483648) : (x + y).toInt = x.toInt + y.toInt := by
  rw [Int32.toInt_add, i_bmod h1 h2]
theorem i_lt {a b : Int32} : a < b ↔ a.toInt < b.toInt := Int32.lt_iff_toInt_lt
theorem i_le {a b : Int32} : a ≤ b ↔ a.toInt ≤ b.toInt := Int32.le_iff_toInt_le
theorem i_0 : (0 : Int32).toInt = 0 := rfl
def RowR (m : AM) (La Ma : Nat → Nat) (It : Nat → Nat → Int32) : Prop := ∀ r, r < 8 → (La r = 0 → m.1 12 r = -1) ∧ (0 < La r → La r ≤ 3 ∧ m.1 11 r = nI (La r - 1) ∧ m.1 12 r = nI (Ma r) ∧ Ma r ≤ 40 ∧ ∀ j, j < 40 → m.1 (3 + r) j = It r j)
def rowL : List Nat := [3, 4, 5, 6, 7, 8, 9, 10, 11, 12]
theorem rowL_in : ∀ r, r < 8 → 3 + r ∈ rowL := by decide
/-- n items from i on lie within the first L -/
def fitB (i n : Int32) (L : Nat) : Bool := decide (0 ≤ i.toInt) && (decide (0 ≤ n.toInt) && decide (i.toInt + n.toInt ≤ L))
def lackN (La Ma : Nat → Nat) (r : Nat) (i n : Int32) : Nat := if La r = 0 then 1 else if fitB i n (Ma r) = true then 0 else 2
abbrev e_X6_isMissing : ME := (cX6_isMissing, (RX6, (2, ((some .boolean), (0, (0, 1))))))
theorem dX6_isMissing_0 : decode cX6_isMissing 0 = .ok (.aload_n 0, 1) := by decide +kernel
theorem dX6_isMissing_1 : decode cX6_isMissing 1 = .ok (.getfield 20, 3) := by decide +kernel
theorem dX6_isMissing_4 : decode cX6_isMissing 4 = .ok (.iload_n 1, 1) := by decide +kernel
theorem dX6_isMissing_5 : decode cX6_isMissing 5 = .ok (.iaload, 1) := by decide +kernel
theorem dX6_isMissing_6 : decode cX6_isMissing 6 = .ok (.iconst (-1), 1) := by decide +kernel
theorem dX6_isMissing_7 : decode cX6_isMissing 7 = .ok (.if_icmp .ne 7, 3) := by decide +kernel
theorem dX6_isMissing_10 : decode cX6_isMissing 10 = .ok (.iconst 1, 1) := by decide +kernel
theorem dX6_isMissing_11 : decode cX6_isMissing 11 = .ok (.goto 4, 3) := by decide +kernel
theorem dX6_isMissing_14 : decode cX6_isMissing 14 = .ok (.iconst 0, 1) := by decide +kernel
theorem dX6_isMissing_15 : decode cX6_isMissing 15 = .ok (.ireturn, 1) := by decide +kernel
def Sp_X6_isMissing (av : List AV) (m : AM) (Φ : Option AV → AM → Prop) : Prop := ∃ x, av = [vr 6 1, vi x] ∧ ∃ La Ma It r, RowR m La Ma It ∧ x = nI r ∧ r < 8 ∧ Φ (some (vi (nI (if La r = 0 then 1 else 0)))) m
set_option maxRecDepth 20000 in
set_option maxHeartbeats 4000000 in
theorem S_X6_isMissing : Snd yX6_isMissing e_X6_isMissing Sp_X6_isMissing := by
  refine Snd.of (by decide +kernel) rfl ?_ ?_
  · rintro av m Φ ⟨x, rfl, _⟩; exact Nat.le_of_ble_eq_true rfl
  rintro av m Φ ⟨x, rfl, La, Ma, It, r, hR, rfl, hr, h⟩ hav hty
  show B e_X6_isMissing Φ 0 [some (vr 6 1), some (vi (nI r))] [] m (0, 0)
  have q := hR r hr
  refine b_aloadN (pc := 0) 0 dX6_isMissing_0 rfl rfl ?_
  refine gf6_2 (pc := 1) 12 rfl k106 dX6_isMissing_1 ?_
  refine b_iloadN (pc := 4) 1 dX6_isMissing_4 rfl rfl ?_
  refine b_iald (pc := 5) (by decide) ?_ dX6_isMissing_5 ?_
  rotate_left -- leaf 0: index at 5
  refine b_iconst (pc := 6) (-1) dX6_isMissing_6 (by decide) ?_
  refine b_icmp_ne (pc := 7) 14 dX6_isMissing_7 (by decide) (fun c7 => ?_) (fun c7 => ?_)
  refine b_iconst (pc := 14) (nI 0) dX6_isMissing_14 (by decide) ?_
  refine b_zret (pc := 15) rfl ?_ dX6_isMissing_15 ⟨Nat.le_of_ble_eq_true rfl, Nat.le_of_ble_eq_true rfl⟩ ?_
  rotate_left -- leaf 1: bool at 15
  rotate_left -- leaf 2: return at 15
  refine b_iconst (pc := 10) (nI 1) dX6_isMissing_10 (by decide) ?_
  refine b_goto (pc := 11) 15 dX6_isMissing_11 (by decide) ?_
  refine b_zret (pc := 15) rfl ?_ dX6_isMissing_15 ⟨Nat.le_of_ble_eq_true rfl, Nat.le_of_ble_eq_true rfl⟩ ?_
  rotate_left -- leaf 3: bool at 15
  rotate_left -- leaf 4: return at 15
  -- leaves: 0 index at 5; 1 bool at 15; 2 return at 15; 3 bool at 15; 4 return at 15
  · exact n_in (by omega) (by omega)
  · exact Or.inl rfl
  · rw [n_cl (by omega)] at c7
    by_cases z : La r = 0
    · exact absurd (q.1 z) c7
    · rw [if_neg z] at h; exact h
  · exact Or.inr rfl
  · rw [n_cl (by omega)] at c7
    by_cases z : La r = 0
    · rw [if_pos z] at h; exact h
    · have w := q.2 (by omega)
      rw [w.2.2.1] at c7
      exact absurd c7 (n_ne_m1 (by omega))
theorem call_X6_isMissing {E : ME} {Φ : Option AV → AM → Prop} {pc : Nat} {L : List (Option AV)} {st : List AV} {m : AM} {a : Nat × Nat} {idx : Nat} {x0 : AV} {i : Nat} (hl : Cond.methodLink E.2.1 idx yX6_isMissing ∈ TB) (hdep : 1 + 1 ≤ E.2.2.2.2.2.2) (hroom : a.1 + 0 ≤ E.2.2.2.2.1 ∧ a.2 + 0 ≤ E.2.2.2.2.2.1) (hsr : st.length ≤ 4) (hd : decode E.1 pc = .ok (.invokevirtual idx, 3)) (hsp : Sp_X6_isMissing [vr 6 i, x0] m (fun r m2 => B E Φ (pc + 3) L (r.toList ++ st) m2 a)) : B E Φ pc L (x0 :: vr 6 i :: st) m a := b_callV S_X6_isMissing [x0] (RX6, TX6, 3) rfl rfl (by decide) (Or.inl hl) k473 k474 k69 k475 (show _ ∧ _ ∧ Option.map (fun d => d.parameters.length) (parseMethodDescriptor yX6_isMissing.desc) = some 1 from by decide +kernel) ⟨hdep, by decide⟩ hroom hsr hd hsp
abbrev e_X6_laneOf : ME := (cX6_laneOf, (RX6, (2, ((some .int), (0, (0, 1))))))
theorem dX6_laneOf_0 : decode cX6_laneOf 0 = .ok (.aload_n 0, 1) := by decide +kernel
theorem dX6_laneOf_1 : decode cX6_laneOf 1 = .ok (.getfield 16, 3) := by decide +kernel
theorem dX6_laneOf_4 : decode cX6_laneOf 4 = .ok (.iload_n 1, 1) := by decide +kernel
theorem dX6_laneOf_5 : decode cX6_laneOf 5 = .ok (.iaload, 1) := by decide +kernel
theorem dX6_laneOf_6 : decode cX6_laneOf 6 = .ok (.ireturn, 1) := by decide +kernel
def Sp_X6_laneOf (av : List AV) (m : AM) (Φ : Option AV → AM → Prop) : Prop := ∃ x, av = [vr 6 1, vi x] ∧ ∃ La Ma It r, RowR m La Ma It ∧ x = nI r ∧ r < 8 ∧ 0 < La r ∧ Φ (some (vi (nI (La r - 1)))) m
set_option maxRecDepth 20000 in
set_option maxHeartbeats 4000000 in
theorem S_X6_laneOf : Snd yX6_laneOf e_X6_laneOf Sp_X6_laneOf := by
  refine Snd.of (by decide +kernel) rfl ?_ ?_
  · rintro av m Φ ⟨x, rfl, _⟩; exact Nat.le_of_ble_eq_true rfl
  rintro av m Φ ⟨x, rfl, La, Ma, It, r, hR, rfl, hr, hl, h⟩ hav hty
  show B e_X6_laneOf Φ 0 [some (vr 6 1), some (vi (nI r))] [] m (0, 0)
  have q := (hR r hr).2 hl
  refine b_aloadN (pc := 0) 0 dX6_laneOf_0 rfl rfl ?_
  refine gf6_1 (pc := 1) 11 rfl k105 dX6_laneOf_1 ?_
  refine b_iloadN (pc := 4) 1 dX6_laneOf_4 rfl rfl ?_
  refine b_iald (pc := 5) (by decide) ?_ dX6_laneOf_5 ?_
  rotate_left -- leaf 0: index at 5
  refine b_iret (pc := 6) rfl dX6_laneOf_6 ⟨Nat.le_of_ble_eq_true rfl, Nat.le_of_ble_eq_true rfl⟩ ?_
  rotate_left -- leaf 1: return at 6
  -- leaves: 0 index at 5; 1 return at 6
  · exact n_in (by omega) (by omega)
  · rw [n_cl (by omega), q.2.1]; exact h
theorem call_X6_laneOf {E : ME} {Φ : Option AV → AM → Prop} {pc : Nat} {L : List (Option AV)} {st : List AV} {m : AM} {a : Nat × Nat} {idx : Nat} {x0 : AV} {i : Nat} (hl : Cond.methodLink E.2.1 idx yX6_laneOf ∈ TB) (hdep : 1 + 1 ≤ E.2.2.2.2.2.2) (hroom : a.1 + 0 ≤ E.2.2.2.2.1 ∧ a.2 + 0 ≤ E.2.2.2.2.2.1) (hsr : st.length ≤ 4) (hd : decode E.1 pc = .ok (.invokevirtual idx, 3)) (hsp : Sp_X6_laneOf [vr 6 i, x0] m (fun r m2 => B E Φ (pc + 3) L (r.toList ++ st) m2 a)) : B E Φ pc L (x0 :: vr 6 i :: st) m a := b_callV S_X6_laneOf [x0] (RX6, TX6, 3) rfl rfl (by decide) (Or.inl hl) k486 k487 k69 k488 (show _ ∧ _ ∧ Option.map (fun d => d.parameters.length) (parseMethodDescriptor yX6_laneOf.desc) = some 1 from by decide +kernel) ⟨hdep, by decide⟩ hroom hsr hd hsp
abbrev e_X6_lack : ME := (cX6_lack, (RX6, (4, ((some .int), (0, (0, 2))))))
theorem dX6_lack_0 : decode cX6_lack 0 = .ok (.aload_n 0, 1) := by decide +kernel
theorem dX6_lack_1 : decode cX6_lack 1 = .ok (.iload_n 1, 1) := by decide +kernel
theorem dX6_lack_2 : decode cX6_lack 2 = .ok (.invokevirtual 29, 3) := by decide +kernel
theorem dX6_lack_5 : decode cX6_lack 5 = .ok (.ifCond .eq 5, 3) := by decide +kernel
theorem dX6_lack_8 : decode cX6_lack 8 = .ok (.iconst 1, 1) := by decide +kernel
theorem dX6_lack_9 : decode cX6_lack 9 = .ok (.ireturn, 1) := by decide +kernel
theorem dX6_lack_10 : decode cX6_lack 10 = .ok (.iload_n 2, 1) := by decide +kernel
theorem dX6_lack_11 : decode cX6_lack 11 = .ok (.ifCond .lt 19, 3) := by decide +kernel
theorem dX6_lack_14 : decode cX6_lack 14 = .ok (.iload_n 3, 1) := by decide +kernel
theorem dX6_lack_15 : decode cX6_lack 15 = .ok (.ifCond .lt 15, 3) := by decide +kernel
theorem dX6_lack_18 : decode cX6_lack 18 = .ok (.iload_n 2, 1) := by decide +kernel
theorem dX6_lack_19 : decode cX6_lack 19 = .ok (.aload_n 0, 1) := by decide +kernel
theorem dX6_lack_20 : decode cX6_lack 20 = .ok (.getfield 20, 3) := by decide +kernel
theorem dX6_lack_23 : decode cX6_lack 23 = .ok (.iload_n 1, 1) := by decide +kernel
theorem dX6_lack_24 : decode cX6_lack 24 = .ok (.iaload, 1) := by decide +kernel
theorem dX6_lack_25 : decode cX6_lack 25 = .ok (.iload_n 3, 1) := by decide +kernel
theorem dX6_lack_26 : decode cX6_lack 26 = .ok (.isub, 1) := by decide +kernel
theorem dX6_lack_27 : decode cX6_lack 27 = .ok (.if_icmp .le 7, 3) := by decide +kernel
theorem dX6_lack_30 : decode cX6_lack 30 = .ok (.iconst 2, 1) := by decide +kernel
theorem dX6_lack_31 : decode cX6_lack 31 = .ok (.goto 4, 3) := by decide +kernel
theorem dX6_lack_34 : decode cX6_lack 34 = .ok (.iconst 0, 1) := by decide +kernel
theorem dX6_lack_35 : decode cX6_lack 35 = .ok (.ireturn, 1) := by decide +kernel
def Sp_X6_lack (av : List AV) (m : AM) (Φ : Option AV → AM → Prop) : Prop := ∃ x i n, av = [vr 6 1, vi x, vi i, vi n] ∧ ∃ La Ma It r, RowR m La Ma It ∧ x = nI r ∧ r < 8 ∧ Φ (some (vi (nI (lackN La Ma r i n)))) m
set_option maxRecDepth 20000 in
set_option maxHeartbeats 4000000 in
theorem S_X6_lack : Snd yX6_lack e_X6_lack Sp_X6_lack := by
  refine Snd.of (by decide +kernel) rfl ?_ ?_
  · rintro av m Φ ⟨x, i, n, rfl, _⟩; exact Nat.le_of_ble_eq_true rfl
  rintro av m Φ ⟨x, i, n, rfl, La, Ma, It, r, hR, rfl, hr, h⟩ hav hty
  show B e_X6_lack Φ 0 [some (vr 6 1), some (vi (nI r)), some (vi i), some (vi n)] [] m (0, 0)
  have q := hR r hr
  have miss : ∀ {z : Nat}, La r = z → (¬ nI (if La r = 0 then 1 else 0) = 0 ↔ La r = 0) := fun {z} _ => by
    by_cases w : La r = 0
    · rw [if_pos w]; exact ⟨fun _ => w, fun _ => by decide⟩
    · rw [if_neg w]; exact ⟨fun c => absurd rfl c, fun c => absurd c w⟩
  unfold lackN at h
  have no : La r ≠ 0 → fitB i n (Ma r) = false → Φ (some (vi (nI 2))) m := fun a b => by
    rw [if_neg a, b] at h; exact h
  have hir := i_rng i
  have hnr := i_rng n
  refine b_aloadN (pc := 0) 0 dX6_lack_0 rfl rfl ?_
  refine b_iloadN (pc := 1) 1 dX6_lack_1 rfl rfl ?_
  refine call_X6_isMissing (pc := 2) k472 (by decide) ⟨Nat.le_of_ble_eq_true rfl, Nat.le_of_ble_eq_true rfl⟩ (Nat.le_of_ble_eq_true rfl) dX6_lack_2 ?_
  refine ⟨_, rfl, La, Ma, It, _, hR, rfl, ?_, ?_⟩
  rotate_left -- leaf 0: row of X6_isMissing at 2
  refine b_if_eq (pc := 5) 10 dX6_lack_5 (by decide) (fun c5 => ?_) (fun c5 => ?_)
  refine b_iloadN (pc := 10) 2 dX6_lack_10 rfl rfl ?_
  refine b_if_lt (pc := 11) 30 dX6_lack_11 (by decide) (fun c11 => ?_) (fun c11 => ?_)
  refine b_iconst (pc := 30) (nI 2) dX6_lack_30 (by decide) ?_
  refine b_goto (pc := 31) 35 dX6_lack_31 (by decide) ?_
  refine b_iret (pc := 35) rfl dX6_lack_35 ⟨Nat.le_of_ble_eq_true rfl, Nat.le_of_ble_eq_true rfl⟩ ?_
  rotate_left -- leaf 1: return at 35
  refine b_iloadN (pc := 14) 3 dX6_lack_14 rfl rfl ?_
  refine b_if_lt (pc := 15) 30 dX6_lack_15 (by decide) (fun c15 => ?_) (fun c15 => ?_)
  refine b_iconst (pc := 30) (nI 2) dX6_lack_30 (by decide) ?_
  refine b_goto (pc := 31) 35 dX6_lack_31 (by decide) ?_
  refine b_iret (pc := 35) rfl dX6_lack_35 ⟨Nat.le_of_ble_eq_true rfl, Nat.le_of_ble_eq_true rfl⟩ ?_
  rotate_left -- leaf 2: return at 35
  refine b_iloadN (pc := 18) 2 dX6_lack_18 rfl rfl ?_
  refine b_aloadN (pc := 19) 0 dX6_lack_19 rfl rfl ?_
  refine gf6_2 (pc := 20) 12 rfl k106 dX6_lack_20 ?_
  refine b_iloadN (pc := 23) 1 dX6_lack_23 rfl rfl ?_
  refine b_iald (pc := 24) (by decide) ?_ dX6_lack_24 ?_
  rotate_left -- leaf 3: index at 24
  refine b_iloadN (pc := 25) 3 dX6_lack_25 rfl rfl ?_
  refine b_isub (pc := 26) dX6_lack_26 ?_
  refine b_icmp_le (pc := 27) 34 dX6_lack_27 (by decide) (fun c27 => ?_) (fun c27 => ?_)
  refine b_iconst (pc := 34) (nI 0) dX6_lack_34 (by decide) ?_
  refine b_iret (pc := 35) rfl dX6_lack_35 ⟨Nat.le_of_ble_eq_true rfl, Nat.le_of_ble_eq_true rfl⟩ ?_
  rotate_left -- leaf 4: return at 35
  refine b_iconst (pc := 30) (nI 2) dX6_lack_30 (by decide) ?_
  refine b_goto (pc := 31) 35 dX6_lack_31 (by decide) ?_
  refine b_iret (pc := 35) rfl dX6_lack_35 ⟨Nat.le_of_ble_eq_true rfl, Nat.le_of_ble_eq_true rfl⟩ ?_
  rotate_left -- leaf 5: return at 35
  refine b_iconst (pc := 8) (nI 1) dX6_lack_8 (by decide) ?_
  refine b_iret (pc := 9) rfl dX6_lack_9 ⟨Nat.le_of_ble_eq_true rfl, Nat.le_of_ble_eq_true rfl⟩ ?_
  rotate_left -- leaf 6: return at 9
  -- leaves: 0 row of X6_isMissing at 2; 1 return at 35; 2 return at 35; 3 index at 24; 4 return at 35; 5 return at 35; 6 return at 9
  · exact hr
  · have w : La r ≠ 0 := fun z => ((miss rfl).mpr z) c5
    refine no w ?_
    unfold fitB
    rw [i_lt, i_0] at c11
    rw [decide_eq_false (by omega)]; rfl
  · have w : La r ≠ 0 := fun z => ((miss rfl).mpr z) c5
    refine no w ?_
    unfold fitB
    rw [i_lt, i_0] at c15
    rw [decide_eq_false (show ¬ 0 ≤ n.toInt by omega), Bool.false_and, Bool.and_false]
  · exact n_in (by omega) (by omega)
  · have w : La r ≠ 0 := fun z => ((miss rfl).mpr z) c5
    have hq := q.2 (by omega)
    rw [i_lt, i_0] at c11 c15
    rw [n_cl (by omega), hq.2.2.1, i_le, i_sub (by rw [nI_toInt (by omega)]; omega) (by rw [nI_toInt (by omega)]; omega), nI_toInt (by omega)] at c27
    have e : fitB i n (Ma r) = true := by
      unfold fitB
      rw [decide_eq_true (show 0 ≤ i.toInt by omega), decide_eq_true (show 0 ≤ n.toInt by omega), decide_eq_true (show i.toInt + n.toInt ≤ Ma r by omega)]; rfl
    rw [if_neg w, if_pos e] at h
    exact h
  · have w : La r ≠ 0 := fun z => ((miss rfl).mpr z) c5
    have hq := q.2 (by omega)
    rw [i_lt, i_0] at c11 c15
    rw [n_cl (by omega), hq.2.2.1, i_le, i_sub (by rw [nI_toInt (by omega)]; omega) (by rw [nI_toInt (by omega)]; omega), nI_toInt (by omega)] at c27
    refine no w ?_
    unfold fitB
    rw [decide_eq_false (show ¬ i.toInt + n.toInt ≤ Ma r by omega), Bool.and_false, Bool.and_false]
  · have w := (miss rfl).mp c5
    rw [if_pos w] at h
    exact h
theorem call_X6_lack {E : ME} {Φ : Option AV → AM → Prop} {pc : Nat} {L : List (Option AV)} {st : List AV} {m : AM} {a : Nat × Nat} {idx : Nat} {x0 x1 x2 : AV} {i : Nat} (hl : Cond.methodLink E.2.1 idx yX6_lack ∈ TB) (hdep : 2 + 1 ≤ E.2.2.2.2.2.2) (hroom : a.1 + 0 ≤ E.2.2.2.2.1 ∧ a.2 + 0 ≤ E.2.2.2.2.2.1) (hsr : st.length ≤ 4) (hd : decode E.1 pc = .ok (.invokevirtual idx, 3)) (hsp : Sp_X6_lack [vr 6 i, x0, x1, x2] m (fun r m2 => B E Φ (pc + 3) L (r.toList ++ st) m2 a)) : B E Φ pc L (x2 :: x1 :: x0 :: vr 6 i :: st) m a := b_callV S_X6_lack [x0, x1, x2] (RX6, TX6, 3) rfl rfl (by decide) (Or.inl hl) k469 k470 k69 k471 (show _ ∧ _ ∧ Option.map (fun d => d.parameters.length) (parseMethodDescriptor yX6_lack.desc) = some 3 from by decide +kernel) ⟨hdep, by decide⟩ hroom hsr hd hsp
def layI (It : Nat → Nat → Int32) (r : Nat) : Nat → Nat → Int32 := fun a b => if a = r then nI 0 else It a b
abbrev e_X6_lay : ME := (cX6_lay, (RX6, (4, (none, (0, (0, 2))))))
theorem dX6_lay_0 : decode cX6_lay 0 = .ok (.aload_n 0, 1) := by decide +kernel
theorem dX6_lay_1 : decode cX6_lay 1 = .ok (.getfield 11, 3) := by decide +kernel
theorem dX6_lay_4 : decode cX6_lay 4 = .ok (.iload_n 1, 1) := by decide +kernel
theorem dX6_lay_5 : decode cX6_lay 5 = .ok (.aaload, 1) := by decide +kernel
theorem dX6_lay_6 : decode cX6_lay 6 = .ok (.iconst 0, 1) := by decide +kernel
theorem dX6_lay_7 : decode cX6_lay 7 = .ok (.invokestatic 23, 3) := by decide +kernel
theorem dX6_lay_10 : decode cX6_lay 10 = .ok (.aload_n 0, 1) := by decide +kernel
theorem dX6_lay_11 : decode cX6_lay 11 = .ok (.getfield 16, 3) := by decide +kernel
theorem dX6_lay_14 : decode cX6_lay 14 = .ok (.iload_n 1, 1) := by decide +kernel
theorem dX6_lay_15 : decode cX6_lay 15 = .ok (.iload_n 2, 1) := by decide +kernel
theorem dX6_lay_16 : decode cX6_lay 16 = .ok (.iastore, 1) := by decide +kernel
theorem dX6_lay_17 : decode cX6_lay 17 = .ok (.aload_n 0, 1) := by decide +kernel
theorem dX6_lay_18 : decode cX6_lay 18 = .ok (.getfield 20, 3) := by decide +kernel
theorem dX6_lay_21 : decode cX6_lay 21 = .ok (.iload_n 1, 1) := by decide +kernel
theorem dX6_lay_22 : decode cX6_lay 22 = .ok (.iload_n 3, 1) := by decide +kernel
theorem dX6_lay_23 : decode cX6_lay 23 = .ok (.iastore, 1) := by decide +kernel
theorem dX6_lay_24 : decode cX6_lay 24 = .ok (.return_, 1) := by decide +kernel
def Sp_X6_lay (av : List AV) (m : AM) (Φ : Option AV → AM → Prop) : Prop := ∃ x l n, av = [vr 6 1, vi x, vi l, vi n] ∧ ∃ La Ma It r q k, RowR m La Ma It ∧ x = nI r ∧ r < 8 ∧ l = nI q ∧ q ≤ 2 ∧ n = nI k ∧ k ≤ 40 ∧ ∀ m2, Fr rowL m m2 → RowR m2 (upC La r (q + 1)) (upC Ma r k) (layI It r) → Φ none m2
set_option maxRecDepth 20000 in
set_option maxHeartbeats 4000000 in
theorem S_X6_lay : Snd yX6_lay e_X6_lay Sp_X6_lay := by
  refine Snd.of (by decide +kernel) rfl ?_ ?_
  · rintro av m Φ ⟨x, l, n, rfl, _⟩; exact Nat.le_of_ble_eq_true rfl
  rintro av m Φ ⟨x, l, n, rfl, La, Ma, It, r, q, k, hR, rfl, hr, rfl, hq, rfl, hk, h⟩ hav hty
  show B e_X6_lay Φ 0 [some (vr 6 1), some (vi (nI r)), some (vi (nI q)), some (vi (nI k))] [] m (0, 0)
  refine b_aloadN (pc := 0) 0 dX6_lay_0 rfl rfl ?_
  refine gf6_0 (pc := 1) 2 rfl k104 dX6_lay_1 ?_
  refine b_iloadN (pc := 4) 1 dX6_lay_4 rfl rfl ?_
  refine b_aldI (pc := 5) ?_ dX6_lay_5 ?_
  rotate_left -- leaf 0: index at 5
  refine b_iconst (pc := 6) (nI 0) dX6_lay_6 (by decide) ?_
  refine call_J7_fill_53178 (pc := 7) k101 (by decide) ⟨Nat.le_of_ble_eq_true rfl, Nat.le_of_ble_eq_true rfl⟩ (Nat.le_of_ble_eq_true rfl) dX6_lay_7 ?_
  refine ⟨_, _, _, rfl, ?_, ?_, ?_⟩
  exact Or.inr ⟨by decide, by decide⟩
  exact (Nat.le_of_ble_eq_true rfl)
  refine b_aloadN (pc := 10) 0 dX6_lay_10 rfl rfl ?_
  refine gf6_1 (pc := 11) 11 rfl k105 dX6_lay_11 ?_
  refine b_iloadN (pc := 14) 1 dX6_lay_14 rfl rfl ?_
  refine b_iloadN (pc := 15) 2 dX6_lay_15 rfl rfl ?_
  refine b_iast (pc := 16) (by decide) ?_ dX6_lay_16 ?_
  rotate_left -- leaf 1: index at 16
  refine b_aloadN (pc := 17) 0 dX6_lay_17 rfl rfl ?_
  refine gf6_2 (pc := 18) 12 rfl k106 dX6_lay_18 ?_
  refine b_iloadN (pc := 21) 1 dX6_lay_21 rfl rfl ?_
  refine b_iloadN (pc := 22) 3 dX6_lay_22 rfl rfl ?_
  refine b_iast (pc := 23) (by decide) ?_ dX6_lay_23 ?_
  rotate_left -- leaf 2: index at 23
  refine b_vret (pc := 24) rfl dX6_lay_24 ⟨Nat.le_of_ble_eq_true rfl, Nat.le_of_ble_eq_true rfl⟩ ?_
  rotate_left -- leaf 3: return at 24
  -- leaves: 0 index at 5; 1 index at 16; 2 index at 23; 3 return at 24
  · exact n_in (by omega) (by omega)
  · exact n_in (by omega) (by omega)
  · exact n_in (by omega) (by omega)
  · rw [n_cl (by omega)]
    have e3 : 2 + 1 + r = 3 + r := by omega
    rw [e3]
    refine h _ ((((Fr.rf rowL m).as (rowL_in r hr)).ms (by decide)).ms (by decide)) (fun a ha => ⟨fun z => ?_, fun z => ?_⟩)
    · have hne : a ≠ r := fun e => by rw [e, upC_at] at z; omega
      rw [upC_ne _ _ hne] at z
      rw [mset_at, if_neg hne, mset_ne _ _ _ (by decide), aset_ne _ _ (by omega)]
      exact (hR a ha).1 z
    · by_cases e : a = r
      · subst e
        rw [upC_at, upC_at, mset_ne _ _ _ (show 11 ≠ 12 by decide), mset_at, if_pos rfl, mset_at, if_pos rfl]
        refine ⟨by omega, by rw [Nat.add_sub_cancel], rfl, hk, fun j hj => ?_⟩
        rw [mset_ne _ _ _ (by omega), mset_ne _ _ _ (by omega), aset_at]
        unfold layI
        rw [if_pos rfl]
        show (if j < 40 then nI 0 else _) = _
        rw [if_pos hj]
      · rw [upC_ne _ _ e] at z ⊢
        rw [upC_ne _ _ e]
        have w := (hR a ha).2 z
        rw [mset_ne _ _ _ (show 11 ≠ 12 by decide), mset_at, if_neg e, mset_at, if_neg e, mset_ne _ _ _ (show 12 ≠ 11 by decide), aset_ne _ _ (show 11 ≠ 3 + r by omega), aset_ne _ _ (show 12 ≠ 3 + r by omega)]
        refine ⟨w.1, w.2.1, w.2.2.1, w.2.2.2.1, fun j hj => ?_⟩
        rw [mset_ne _ _ _ (by omega), mset_ne _ _ _ (by omega), aset_ne _ _ (by omega)]
        unfold layI
        rw [if_neg e]
        exact w.2.2.2.2 j hj
theorem call_X6_lay {E : ME} {Φ : Option AV → AM → Prop} {pc : Nat} {L : List (Option AV)} {st : List AV} {m : AM} {a : Nat × Nat} {idx : Nat} {x0 x1 x2 : AV} {i : Nat} (hl : Cond.methodLink E.2.1 idx yX6_lay ∈ TB) (hdep : 2 + 1 ≤ E.2.2.2.2.2.2) (hroom : a.1 + 0 ≤ E.2.2.2.2.1 ∧ a.2 + 0 ≤ E.2.2.2.2.2.1) (hsr : st.length ≤ 4) (hd : decode E.1 pc = .ok (.invokevirtual idx, 3)) (hsp : Sp_X6_lay [vr 6 i, x0, x1, x2] m (fun r m2 => B E Φ (pc + 3) L (r.toList ++ st) m2 a)) : B E Φ pc L (x2 :: x1 :: x0 :: vr 6 i :: st) m a := b_callV S_X6_lay [x0, x1, x2] (RX6, TX6, 3) rfl rfl (by decide) (Or.inl hl) k457 k458 k69 k459 (show _ ∧ _ ∧ Option.map (fun d => d.parameters.length) (parseMethodDescriptor yX6_lay.desc) = some 3 from by decide +kernel) ⟨hdep, by decide⟩ hroom hsr hd hsp
abbrev e_X6_remove : ME := (cX6_remove, (RX6, (3, ((some .int), (0, (0, 1))))))
theorem dX6_remove_0 : decode cX6_remove 0 = .ok (.aload_n 0, 1) := by decide +kernel
theorem dX6_remove_1 : decode cX6_remove 1 = .ok (.getfield 20, 3) := by decide +kernel
theorem dX6_remove_4 : decode cX6_remove 4 = .ok (.iload_n 1, 1) := by decide +kernel
theorem dX6_remove_5 : decode cX6_remove 5 = .ok (.iaload, 1) := by decide +kernel
theorem dX6_remove_6 : decode cX6_remove 6 = .ok (.istore_n 2, 1) := by decide +kernel
theorem dX6_remove_7 : decode cX6_remove 7 = .ok (.aload_n 0, 1) := by decide +kernel
theorem dX6_remove_8 : decode cX6_remove 8 = .ok (.getfield 20, 3) := by decide +kernel
theorem dX6_remove_11 : decode cX6_remove 11 = .ok (.iload_n 1, 1) := by decide +kernel
theorem dX6_remove_12 : decode cX6_remove 12 = .ok (.iconst (-1), 1) := by decide +kernel
theorem dX6_remove_13 : decode cX6_remove 13 = .ok (.iastore, 1) := by decide +kernel
theorem dX6_remove_14 : decode cX6_remove 14 = .ok (.iload_n 2, 1) := by decide +kernel
theorem dX6_remove_15 : decode cX6_remove 15 = .ok (.ireturn, 1) := by decide +kernel
def Sp_X6_remove (av : List AV) (m : AM) (Φ : Option AV → AM → Prop) : Prop := ∃ x, av = [vr 6 1, vi x] ∧ ∃ La Ma It r, RowR m La Ma It ∧ x = nI r ∧ r < 8 ∧ 0 < La r ∧ ∀ m2, Fr rowL m m2 → RowR m2 (upC La r 0) Ma It → Φ (some (vi (nI (Ma r)))) m2
set_option maxRecDepth 20000 in
set_option maxHeartbeats 4000000 in
theorem S_X6_remove : Snd yX6_remove e_X6_remove Sp_X6_remove := by
  refine Snd.of (by decide +kernel) rfl ?_ ?_
  · rintro av m Φ ⟨x, rfl, _⟩; exact Nat.le_of_ble_eq_true rfl
  rintro av m Φ ⟨x, rfl, La, Ma, It, r, hR, rfl, hr, hl, h⟩ hav hty
  show B e_X6_remove Φ 0 [some (vr 6 1), some (vi (nI r)), none] [] m (0, 0)
  have q := (hR r hr).2 hl
  refine b_aloadN (pc := 0) 0 dX6_remove_0 rfl rfl ?_
  refine gf6_2 (pc := 1) 12 rfl k106 dX6_remove_1 ?_
  refine b_iloadN (pc := 4) 1 dX6_remove_4 rfl rfl ?_
  refine b_iald (pc := 5) (by decide) ?_ dX6_remove_5 ?_
  rotate_left -- leaf 0: index at 5
  refine siN2 (pc := 6) rfl notL_i (by decide) dX6_remove_6 ?_
  refine b_aloadN (pc := 7) 0 dX6_remove_7 rfl rfl ?_
  refine gf6_2 (pc := 8) 12 rfl k106 dX6_remove_8 ?_
  refine b_iloadN (pc := 11) 1 dX6_remove_11 rfl rfl ?_
  refine b_iconst (pc := 12) (-1) dX6_remove_12 (by decide) ?_
  refine b_iast (pc := 13) (by decide) ?_ dX6_remove_13 ?_
  rotate_left -- leaf 1: index at 13
  refine b_iloadN (pc := 14) 2 dX6_remove_14 rfl rfl ?_
  refine b_iret (pc := 15) rfl dX6_remove_15 ⟨Nat.le_of_ble_eq_true rfl, Nat.le_of_ble_eq_true rfl⟩ ?_
  rotate_left -- leaf 2: return at 15
  -- leaves: 0 index at 5; 1 index at 13; 2 return at 15
  · exact n_in (by omega) (by omega)
  · exact n_in (by omega) (by omega)
  · rw [n_cl (by omega), q.2.2.1]
    refine h _ ((Fr.rf rowL m).ms (by decide)) (fun a ha => ⟨fun z => ?_, fun z => ?_⟩)
    · by_cases e : a = r
      · subst e; rw [mset_at, if_pos rfl]
      · rw [upC_ne _ _ e] at z
        rw [mset_at, if_neg e]
        exact (hR a ha).1 z
    · have e : a ≠ r := fun e => by rw [e, upC_at] at z; omega
      rw [upC_ne _ _ e] at z ⊢
      have w := (hR a ha).2 z
      rw [mset_ne _ _ _ (by decide), mset_at, if_neg e]
      refine ⟨w.1, w.2.1, w.2.2.1, w.2.2.2.1, fun j hj => ?_⟩
      rw [mset_ne _ _ _ (by omega)]
      exact w.2.2.2.2 j hj
theorem call_X6_remove {E : ME} {Φ : Option AV → AM → Prop} {pc : Nat} {L : List (Option AV)} {st : List AV} {m : AM} {a : Nat × Nat} {idx : Nat} {x0 : AV} {i : Nat} (hl : Cond.methodLink E.2.1 idx yX6_remove ∈ TB) (hdep : 1 + 1 ≤ E.2.2.2.2.2.2) (hroom : a.1 + 0 ≤ E.2.2.2.2.1 ∧ a.2 + 0 ≤ E.2.2.2.2.2.1) (hsr : st.length ≤ 4) (hd : decode E.1 pc = .ok (.invokevirtual idx, 3)) (hsp : Sp_X6_remove [vr 6 i, x0] m (fun r m2 => B E Φ (pc + 3) L (r.toList ++ st) m2 a)) : B E Φ pc L (x0 :: vr 6 i :: st) m a := b_callV S_X6_remove [x0] (RX6, TX6, 3) rfl rfl (by decide) (Or.inl hl) k501 k502 k69 k503 (show _ ∧ _ ∧ Option.map (fun d => d.parameters.length) (parseMethodDescriptor yX6_remove.desc) = some 1 from by decide +kernel) ⟨hdep, by decide⟩ hroom hsr hd hsp
def narV (l : Nat) (v : Int32) : Int32 := if l = 0 then v.toInt8.toInt32 else if l = 1 then v.toInt16.toInt32 else v
def upI (It : Nat → Nat → Int32) (r j : Nat) (v : Int32) : Nat → Nat → Int32 := fun a b => if a = r then (if b = j then v else It a b) else It a b
abbrev e_X6_put : ME := (cX6_put, (RX6, (4, ((some .int), (0, (0, 2))))))
theorem dX6_put_0 : decode cX6_put 0 = .ok (.aload_n 0, 1) := by decide +kernel
theorem dX6_put_1 : decode cX6_put 1 = .ok (.getfield 11, 3) := by decide +kernel
theorem dX6_put_4 : decode cX6_put 4 = .ok (.iload_n 1, 1) := by decide +kernel
theorem dX6_put_5 : decode cX6_put 5 = .ok (.aaload, 1) := by decide +kernel
theorem dX6_put_6 : decode cX6_put 6 = .ok (.iload_n 2, 1) := by decide +kernel
theorem dX6_put_7 : decode cX6_put 7 = .ok (.aload_n 0, 1) := by decide +kernel
theorem dX6_put_8 : decode cX6_put 8 = .ok (.getfield 16, 3) := by decide +kernel
theorem dX6_put_11 : decode cX6_put 11 = .ok (.iload_n 1, 1) := by decide +kernel
theorem dX6_put_12 : decode cX6_put 12 = .ok (.iaload, 1) := by decide +kernel
theorem dX6_put_13 : decode cX6_put 13 = .ok (.ifCond .ne 8, 3) := by decide +kernel
theorem dX6_put_16 : decode cX6_put 16 = .ok (.iload_n 3, 1) := by decide +kernel
theorem dX6_put_17 : decode cX6_put 17 = .ok (.i2b, 1) := by decide +kernel
theorem dX6_put_18 : decode cX6_put 18 = .ok (.goto 19, 3) := by decide +kernel
theorem dX6_put_21 : decode cX6_put 21 = .ok (.aload_n 0, 1) := by decide +kernel
theorem dX6_put_22 : decode cX6_put 22 = .ok (.getfield 16, 3) := by decide +kernel
theorem dX6_put_25 : decode cX6_put 25 = .ok (.iload_n 1, 1) := by decide +kernel
theorem dX6_put_26 : decode cX6_put 26 = .ok (.iaload, 1) := by decide +kernel
theorem dX6_put_27 : decode cX6_put 27 = .ok (.iconst 1, 1) := by decide +kernel
theorem dX6_put_28 : decode cX6_put 28 = .ok (.if_icmp .ne 8, 3) := by decide +kernel
theorem dX6_put_31 : decode cX6_put 31 = .ok (.iload_n 3, 1) := by decide +kernel
theorem dX6_put_32 : decode cX6_put 32 = .ok (.i2s, 1) := by decide +kernel
theorem dX6_put_33 : decode cX6_put 33 = .ok (.goto 4, 3) := by decide +kernel
theorem dX6_put_36 : decode cX6_put 36 = .ok (.iload_n 3, 1) := by decide +kernel
theorem dX6_put_37 : decode cX6_put 37 = .ok (.iastore, 1) := by decide +kernel
theorem dX6_put_38 : decode cX6_put 38 = .ok (.aload_n 0, 1) := by decide +kernel
theorem dX6_put_39 : decode cX6_put 39 = .ok (.getfield 11, 3) := by decide +kernel
theorem dX6_put_42 : decode cX6_put 42 = .ok (.iload_n 1, 1) := by decide +kernel
theorem dX6_put_43 : decode cX6_put 43 = .ok (.aaload, 1) := by decide +kernel
theorem dX6_put_44 : decode cX6_put 44 = .ok (.iload_n 2, 1) := by decide +kernel
theorem dX6_put_45 : decode cX6_put 45 = .ok (.iaload, 1) := by decide +kernel
theorem dX6_put_46 : decode cX6_put 46 = .ok (.ireturn, 1) := by decide +kernel
def Sp_X6_put (av : List AV) (m : AM) (Φ : Option AV → AM → Prop) : Prop := ∃ x i v, av = [vr 6 1, vi x, vi i, vi v] ∧ ∃ La Ma It r j, RowR m La Ma It ∧ x = nI r ∧ r < 8 ∧ i = nI j ∧ j < 40 ∧ 0 < La r ∧ ∀ m2, Fr rowL m m2 → RowR m2 La Ma (upI It r j (narV (La r - 1) v)) → Φ (some (vi (narV (La r - 1) v))) m2
set_option maxRecDepth 20000 in
set_option maxHeartbeats 4000000 in
theorem S_X6_put : Snd yX6_put e_X6_put Sp_X6_put := by
  refine Snd.of (by decide +kernel) rfl ?_ ?_
  · rintro av m Φ ⟨x, i, v, rfl, _⟩; exact Nat.le_of_ble_eq_true rfl
  rintro av m Φ ⟨x, i, v, rfl, La, Ma, It, r, j, hR, rfl, hr, rfl, hj, hl, h⟩ hav hty
  show B e_X6_put Φ 0 [some (vr 6 1), some (vi (nI r)), some (vi (nI j)), some (vi v)] [] m (0, 0)
  have q := (hR r hr).2 hl
  have e3 : 2 + 1 + r = 3 + r := by omega
  have fin : ∀ w, w = narV (La r - 1) v → B e_X6_put Φ 37 [some (vr 6 1), some (vi (nI r)), some (vi (nI j)), some (vi v)] [vi w, vi (nI j), vr 140 (3 + r)] m (0, 0) := by
    intro w hw
    refine b_iast (pc := 37) (by decide) ?_ dX6_put_37 ?_
    rotate_left -- leaf 0: index at 37
    refine b_aloadN (pc := 38) 0 dX6_put_38 rfl rfl ?_
    refine gf6_0 (pc := 39) 2 rfl k104 dX6_put_39 ?_
    refine b_iloadN (pc := 42) 1 dX6_put_42 rfl rfl ?_
    refine b_aldI (pc := 43) ?_ dX6_put_43 ?_
    rotate_left -- leaf 1: index at 43
    refine b_iloadN (pc := 44) 2 dX6_put_44 rfl rfl ?_
    refine b_iald (pc := 45) (by decide) ?_ dX6_put_45 ?_
    rotate_left -- leaf 2: index at 45
    refine b_iret (pc := 46) rfl dX6_put_46 ⟨Nat.le_of_ble_eq_true rfl, Nat.le_of_ble_eq_true rfl⟩ ?_
    rotate_left -- leaf 3: return at 46
    -- leaves: 0 index at 37; 1 index at 43; 2 index at 45; 3 return at 46
    · exact n_in (by omega) (by omega)
    · exact n_in (by omega) (by omega)
    · exact n_in (by omega) (by omega)
    · rw [n_cl (by omega), n_cl (by omega), e3, mset_at, if_pos rfl]
      subst hw
      refine h _ ((Fr.rf rowL m).ms (rowL_in r hr)) (fun a ha => ⟨fun z => ?_, fun z => ?_⟩)
      · rw [mset_ne _ _ _ (by omega)]; exact (hR a ha).1 z
      · have w := (hR a ha).2 z
        rw [mset_ne _ _ _ (show 11 ≠ 3 + r by omega), mset_ne _ _ _ (show 12 ≠ 3 + r by omega)]
        refine ⟨w.1, w.2.1, w.2.2.1, w.2.2.2.1, fun b hb => ?_⟩
        unfold upI
        by_cases e : a = r
        · subst e
          rw [if_pos rfl, mset_at, w.2.2.2.2 b hb]
        · rw [if_neg e, mset_ne _ _ _ (by omega)]
          exact w.2.2.2.2 b hb
  refine b_aloadN (pc := 0) 0 dX6_put_0 rfl rfl ?_
  refine gf6_0 (pc := 1) 2 rfl k104 dX6_put_1 ?_
  refine b_iloadN (pc := 4) 1 dX6_put_4 rfl rfl ?_
  refine b_aldI (pc := 5) ?_ dX6_put_5 ?_
  rotate_left -- leaf 0: index at 5
  refine b_iloadN (pc := 6) 2 dX6_put_6 rfl rfl ?_
  refine b_aloadN (pc := 7) 0 dX6_put_7 rfl rfl ?_
  refine gf6_1 (pc := 8) 11 rfl k105 dX6_put_8 ?_
  refine b_iloadN (pc := 11) 1 dX6_put_11 rfl rfl ?_
  refine b_iald (pc := 12) (by decide) ?_ dX6_put_12 ?_
  rotate_left -- leaf 1: index at 12
  refine b_if_ne (pc := 13) 21 dX6_put_13 (by decide) (fun c13 => ?_) (fun c13 => ?_)
  refine b_aloadN (pc := 21) 0 dX6_put_21 rfl rfl ?_
  refine gf6_1 (pc := 22) 11 rfl k105 dX6_put_22 ?_
  refine b_iloadN (pc := 25) 1 dX6_put_25 rfl rfl ?_
  refine b_iald (pc := 26) (by decide) ?_ dX6_put_26 ?_
  rotate_left -- leaf 2: index at 26
  refine b_iconst (pc := 27) (nI 1) dX6_put_27 (by decide) ?_
  refine b_icmp_ne (pc := 28) 36 dX6_put_28 (by decide) (fun c28 => ?_) (fun c28 => ?_)
  refine b_iloadN (pc := 36) 3 dX6_put_36 rfl rfl ?_
  rotate_left -- leaf 3: at 37
  refine b_iloadN (pc := 31) 3 dX6_put_31 rfl rfl ?_
  refine b_i2s (pc := 32) dX6_put_32 ?_
  refine b_goto (pc := 33) 37 dX6_put_33 (by decide) ?_
  rotate_left -- leaf 4: at 37
  refine b_iloadN (pc := 16) 3 dX6_put_16 rfl rfl ?_
  refine b_i2b (pc := 17) dX6_put_17 ?_
  refine b_goto (pc := 18) 37 dX6_put_18 (by decide) ?_
  rotate_left -- leaf 5: at 37
  -- leaves: 0 index at 5; 1 index at 12; 2 index at 26; 3 at 37; 4 at 37; 5 at 37
  · exact n_in (by omega) (by omega)
  · exact n_in (by omega) (by omega)
  · exact n_in (by omega) (by omega)
  · rw [n_cl (by omega), e3]
    rw [n_cl (by omega), q.2.1, n_eq0 (by omega)] at c13
    rw [n_cl (by omega), q.2.1, n_eq (by omega) (by omega)] at c28
    exact fin _ (by unfold narV; rw [if_neg c13, if_neg c28])
  · rw [n_cl (by omega), e3]
    rw [n_cl (by omega), q.2.1, n_eq0 (by omega)] at c13
    rw [n_cl (by omega), q.2.1, n_eq (by omega) (by omega)] at c28
    exact fin _ (by unfold narV; rw [if_neg c13, if_pos c28])
  · rw [n_cl (by omega), e3]
    rw [n_cl (by omega), q.2.1, n_eq0 (by omega)] at c13
    exact fin _ (by unfold narV; rw [if_pos c13])
theorem call_X6_put {E : ME} {Φ : Option AV → AM → Prop} {pc : Nat} {L : List (Option AV)} {st : List AV} {m : AM} {a : Nat × Nat} {idx : Nat} {x0 x1 x2 : AV} {i : Nat} (hl : Cond.methodLink E.2.1 idx yX6_put ∈ TB) (hdep : 2 + 1 ≤ E.2.2.2.2.2.2) (hroom : a.1 + 0 ≤ E.2.2.2.2.1 ∧ a.2 + 0 ≤ E.2.2.2.2.2.1) (hsr : st.length ≤ 4) (hd : decode E.1 pc = .ok (.invokevirtual idx, 3)) (hsp : Sp_X6_put [vr 6 i, x0, x1, x2] m (fun r m2 => B E Φ (pc + 3) L (r.toList ++ st) m2 a)) : B E Φ pc L (x2 :: x1 :: x0 :: vr 6 i :: st) m a := b_callV S_X6_put [x0, x1, x2] (RX6, TX6, 3) rfl rfl (by decide) (Or.inl hl) k477 k478 k69 k479 (show _ ∧ _ ∧ Option.map (fun d => d.parameters.length) (parseMethodDescriptor yX6_put.desc) = some 3 from by decide +kernel) ⟨hdep, by decide⟩ hroom hsr hd hsp
end
section
/-! row, set, drop, count's rows -/
abbrev e_X6_present : ME := (cX6_present, (RX6, (3, ((some .int), (0, (0, 2))))))
theorem dX6_present_0 : decode cX6_present 0 = .ok (.iconst 0, 1) := by decide +kernel
theorem dX6_present_1 : decode cX6_present 1 = .ok (.istore_n 1, 1) := by decide +kernel
theorem dX6_present_2 : decode cX6_present 2 = .ok (.iconst 0, 1) := by decide +kernel
theorem dX6_present_3 : decode cX6_present 3 = .ok (.istore_n 2, 1) := by decide +kernel
theorem dX6_present_4 : decode cX6_present 4 = .ok (.iload_n 2, 1) := by decide +kernel
theorem dX6_present_5 : decode cX6_present 5 = .ok (.bipush 8, 2) := by decide +kernel
theorem dX6_present_7 : decode cX6_present 7 = .ok (.if_icmp .ge 25, 3) := by decide +kernel
theorem dX6_present_10 : decode cX6_present 10 = .ok (.iload_n 1, 1) := by decide +kernel
theorem dX6_present_11 : decode cX6_present 11 = .ok (.aload_n 0, 1) := by decide +kernel
theorem dX6_present_12 : decode cX6_present 12 = .ok (.iload_n 2, 1) := by decide +kernel
theorem dX6_present_13 : decode cX6_present 13 = .ok (.invokevirtual 29, 3) := by decide +kernel
theorem dX6_present_16 : decode cX6_present 16 = .ok (.ifCond .eq 7, 3) := by decide +kernel
theorem dX6_present_19 : decode cX6_present 19 = .ok (.iconst 0, 1) := by decide +kernel
theorem dX6_present_20 : decode cX6_present 20 = .ok (.goto 4, 3) := by decide +kernel
theorem dX6_present_23 : decode cX6_present 23 = .ok (.iconst 1, 1) := by decide +kernel
theorem dX6_present_24 : decode cX6_present 24 = .ok (.iadd, 1) := by decide +kernel
theorem dX6_present_25 : decode cX6_present 25 = .ok (.istore_n 1, 1) := by decide +kernel
theorem dX6_present_26 : decode cX6_present 26 = .ok (.iinc 2 1, 3) := by decide +kernel
theorem dX6_present_29 : decode cX6_present 29 = .ok (.goto (-25), 3) := by decide +kernel
theorem dX6_present_32 : decode cX6_present 32 = .ok (.iload_n 1, 1) := by decide +kernel
theorem dX6_present_33 : decode cX6_present 33 = .ok (.ireturn, 1) := by decide +kernel
def rowsN (La : Nat → Nat) : Nat → Nat
  | 0 => 0
  | r + 1 => rowsN La r + if La r = 0 then 0 else 1
theorem rowsN_le (La : Nat → Nat) : ∀ r, rowsN La r ≤ r
  | 0 => Nat.le_refl 0
  | r + 1 => by
    have := rowsN_le La r
    unfold rowsN
    split <;> omega
def Sp_X6_present (av : List AV) (m : AM) (Φ : Option AV → AM → Prop) : Prop := av = [vr 6 1] ∧ ∃ La Ma It, RowR m La Ma It ∧ Φ (some (vi (nI (rowsN La 8)))) m
set_option maxRecDepth 20000 in
set_option maxHeartbeats 4000000 in
theorem S_X6_present : Snd yX6_present e_X6_present Sp_X6_present := by
  refine Snd.of (by decide +kernel) rfl ?_ ?_
  · rintro av m Φ ⟨rfl, _⟩; exact Nat.le_of_ble_eq_true rfl
  rintro av m Φ ⟨rfl, La, Ma, It, hR, h⟩ hav hty
  show B e_X6_present Φ 0 [some (vr 6 1), none, none] [] m (0, 0)
  have loop : ∀ n r, 9 ≤ r + n → r ≤ 8 → B e_X6_present Φ 4 [some (vr 6 1), some (vi (nI (rowsN La r))), some (vi (nI r))] [] m (0, 0) := by
    intro n
    induction n with
    | zero => intro r h1 h2; omega
    | succ n ih =>
      intro r h1 h2
      have hle := rowsN_le La r
      refine b_iloadN (pc := 4) 2 dX6_present_4 rfl rfl ?_
      refine b_bipush (pc := 5) (nI 8) dX6_present_5 (by decide) ?_
      refine b_icmp_ge (pc := 7) 32 dX6_present_7 (by decide) (fun c7 => ?_) (fun c7 => ?_)
      refine b_iloadN (pc := 32) 1 dX6_present_32 rfl rfl ?_
      refine b_iret (pc := 33) rfl dX6_present_33 ⟨Nat.le_of_ble_eq_true rfl, Nat.le_of_ble_eq_true rfl⟩ ?_
      rotate_left -- leaf 0: return at 33
      refine b_iloadN (pc := 10) 1 dX6_present_10 rfl rfl ?_
      refine b_aloadN (pc := 11) 0 dX6_present_11 rfl rfl ?_
      refine b_iloadN (pc := 12) 2 dX6_present_12 rfl rfl ?_
      refine call_X6_isMissing (pc := 13) k472 (by decide) ⟨Nat.le_of_ble_eq_true rfl, Nat.le_of_ble_eq_true rfl⟩ (Nat.le_of_ble_eq_true rfl) dX6_present_13 ?_
      refine ⟨_, rfl, La, Ma, It, _, hR, rfl, ?_, ?_⟩
      rotate_left -- leaf 1: row of X6_isMissing at 13
      refine b_if_eq (pc := 16) 23 dX6_present_16 (by decide) (fun c16 => ?_) (fun c16 => ?_)
      refine b_iconst (pc := 23) (nI 1) dX6_present_23 (by decide) ?_
      refine b_iadd (pc := 24) dX6_present_24 ?_
      refine siN1 (pc := 25) rfl notL_r (by decide) dX6_present_25 ?_
      refine inc2 (pc := 26) notL_i (by decide) dX6_present_26 ?_
      refine b_goto (pc := 29) 4 dX6_present_29 (by decide) ?_
      rotate_left -- leaf 2: at 4
      refine b_iconst (pc := 19) (nI 0) dX6_present_19 (by decide) ?_
      refine b_goto (pc := 20) 24 dX6_present_20 (by decide) ?_
      refine b_iadd (pc := 24) dX6_present_24 ?_
      refine siN1 (pc := 25) rfl notL_r (by decide) dX6_present_25 ?_
      refine inc2 (pc := 26) notL_i (by decide) dX6_present_26 ?_
      refine b_goto (pc := 29) 4 dX6_present_29 (by decide) ?_
      rotate_left -- leaf 3: at 4
      -- leaves: 0 return at 33; 1 row of X6_isMissing at 13; 2 at 4; 3 at 4
      · rw [n_le (by omega) (by omega)] at c7
        rw [show r = 8 by omega]; exact h
      · rw [n_le (by omega) (by omega)] at c7
        omega
      · have w : ¬ La r = 0 := fun z => by rw [if_pos z] at c16; exact absurd c16 (by decide)
        have := ih (r + 1) (by omega)
        rw [n_le (by omega) (by omega)] at c7
        unfold rowsN at this
        rw [if_neg w] at this
        rw [n_add, n_inc]
        exact this (by omega)
      · have w : La r = 0 := by
          by_cases z : La r = 0
          · exact z
          · rw [if_neg z] at c16; exact absurd rfl c16
        have := ih (r + 1) (by omega)
        rw [n_le (by omega) (by omega)] at c7
        unfold rowsN at this
        rw [if_pos w] at this
        rw [n_add, n_inc]
        exact this (by omega)
  refine b_iconst (pc := 0) (nI 0) dX6_present_0 (by decide) ?_
  refine siN1 (pc := 1) rfl notL_r (by decide) dX6_present_1 ?_
  refine b_iconst (pc := 2) (nI 0) dX6_present_2 (by decide) ?_
  refine siN2 (pc := 3) rfl notL_i (by decide) dX6_present_3 ?_
  rotate_left -- leaf 0: at 4
  -- leaves: 0 at 4
  exact loop 9 0 (by omega) (by omega)
theorem call_X6_present {E : ME} {Φ : Option AV → AM → Prop} {pc : Nat} {L : List (Option AV)} {st : List AV} {m : AM} {a : Nat × Nat} {idx : Nat} {i : Nat} (hl : Cond.methodLink E.2.1 idx yX6_present ∈ TB) (hdep : 2 + 1 ≤ E.2.2.2.2.2.2) (hroom : a.1 + 0 ≤ E.2.2.2.2.1 ∧ a.2 + 0 ≤ E.2.2.2.2.2.1) (hsr : st.length ≤ 4) (hd : decode E.1 pc = .ok (.invokevirtual idx, 3)) (hsp : Sp_X6_present [vr 6 i] m (fun r m2 => B E Φ (pc + 3) L (r.toList ++ st) m2 a)) : B E Φ pc L (vr 6 i :: st) m a := b_callV S_X6_present [] (RX6, TX6, 3) rfl rfl (by decide) (Or.inl hl) k1029 k1030 k69 k1031 (show _ ∧ _ ∧ Option.map (fun d => d.parameters.length) (parseMethodDescriptor yX6_present.desc) = some 0 from by decide +kernel) ⟨hdep, by decide⟩ hroom hsr hd hsp
/-- what stays of rows where another cell is written -/
theorem RowR.fr {m m2 : AM} {La Ma : Nat → Nat} {It : Nat → Nat → Int32} (h : RowR m La Ma It) (hf : ∀ a, a ∈ rowL → m2.1 a = m.1 a) : RowR m2 La Ma It := fun r hr => by
  rw [hf 11 (by decide), hf 12 (by decide), hf (3 + r) (rowL_in r hr)]
  exact h r hr
abbrev e_X10_row : ME := (cX10_row, (RX10, (4, ((some .int), (0, (0, 8))))))
theorem dX10_row_0 : decode cX10_row 0 = .ok (.iload_n 1, 1) := by decide +kernel
theorem dX10_row_1 : decode cX10_row 1 = .ok (.invokestatic 65, 3) := by decide +kernel
theorem dX10_row_4 : decode cX10_row 4 = .ok (.ifCond .eq 18, 3) := by decide +kernel
theorem dX10_row_7 : decode cX10_row 7 = .ok (.iload_n 2, 1) := by decide +kernel
theorem dX10_row_8 : decode cX10_row 8 = .ok (.ifCond .lt 14, 3) := by decide +kernel
theorem dX10_row_11 : decode cX10_row 11 = .ok (.iload_n 2, 1) := by decide +kernel
theorem dX10_row_12 : decode cX10_row 12 = .ok (.iconst 2, 1) := by decide +kernel
theorem dX10_row_13 : decode cX10_row 13 = .ok (.if_icmp .gt 9, 3) := by decide +kernel
theorem dX10_row_16 : decode cX10_row 16 = .ok (.iload_n 3, 1) := by decide +kernel
theorem dX10_row_17 : decode cX10_row 17 = .ok (.bipush 40, 2) := by decide +kernel
theorem dX10_row_19 : decode cX10_row 19 = .ok (.if_icmp .le 6, 3) := by decide +kernel
theorem dX10_row_22 : decode cX10_row 22 = .ok (.ldc 69, 2) := by decide +kernel
theorem dX10_row_24 : decode cX10_row 24 = .ok (.ireturn, 1) := by decide +kernel
theorem dX10_row_25 : decode cX10_row 25 = .ok (.iload_n 3, 1) := by decide +kernel
theorem dX10_row_26 : decode cX10_row 26 = .ok (.ifCond .ge 9, 3) := by decide +kernel
theorem dX10_row_29 : decode cX10_row 29 = .ok (.aload_n 0, 1) := by decide +kernel
theorem dX10_row_30 : decode cX10_row 30 = .ok (.iconst 4, 1) := by decide +kernel
theorem dX10_row_31 : decode cX10_row 31 = .ok (.invokevirtual 70, 3) := by decide +kernel
theorem dX10_row_34 : decode cX10_row 34 = .ok (.ireturn, 1) := by decide +kernel
theorem dX10_row_35 : decode cX10_row 35 = .ok (.aload_n 0, 1) := by decide +kernel
theorem dX10_row_36 : decode cX10_row 36 = .ok (.getfield 10, 3) := by decide +kernel
theorem dX10_row_39 : decode cX10_row 39 = .ok (.iload_n 1, 1) := by decide +kernel
theorem dX10_row_40 : decode cX10_row 40 = .ok (.iload_n 2, 1) := by decide +kernel
theorem dX10_row_41 : decode cX10_row 41 = .ok (.iload_n 3, 1) := by decide +kernel
theorem dX10_row_42 : decode cX10_row 42 = .ok (.invokevirtual 74, 3) := by decide +kernel
theorem dX10_row_45 : decode cX10_row 45 = .ok (.aload_n 0, 1) := by decide +kernel
theorem dX10_row_46 : decode cX10_row 46 = .ok (.iload_n 3, 1) := by decide +kernel
theorem dX10_row_47 : decode cX10_row 47 = .ok (.invokevirtual 78, 3) := by decide +kernel
theorem dX10_row_50 : decode cX10_row 50 = .ok (.ireturn, 1) := by decide +kernel
def Sp_X10_row (av : List AV) (m : AM) (Φ : Option AV → AM → Prop) : Prop := ∃ x l n, av = [vr 10 0, vi x, vi l, vi n] ∧ ∃ La Ma It, RowR m La Ma It ∧ ((inB x 8 = false ∨ inB l 3 = false ∨ nI 40 < n) → Φ (some (vi (-1000001))) m) ∧ (inB x 8 = true → inB l 3 = true → n < 0 → ∀ m2, Fr (0 :: rowL) m m2 → RowR m2 La Ma It → m2.1 0 8 = nI 4 → Φ (some (vi (-1000010 - nI 4))) m2) ∧ (inB x 8 = true → inB l 3 = true → inB n 41 = true → ∀ m2, Fr (0 :: rowL) m m2 → RowR m2 (upC La x.toNatClampNeg (l.toNatClampNeg + 1)) (upC Ma x.toNatClampNeg n.toNatClampNeg) (layI It x.toNatClampNeg) → m2.1 0 8 = nI 0 → Φ (some (vi n)) m2)
set_option maxRecDepth 20000 in
set_option maxHeartbeats 4000000 in
theorem S_X10_row : Snd yX10_row e_X10_row Sp_X10_row := by
  refine Snd.of (by decide +kernel) rfl ?_ ?_
  · rintro av m Φ ⟨x, l, n, rfl, _⟩; exact Nat.le_of_ble_eq_true rfl
  rintro av m Φ ⟨x, l, n, rfl, La, Ma, It, hR, h1, h2, h3⟩ hav hty
  show B e_X10_row Φ 0 [some (vr 10 0), some (vi x), some (vi l), some (vi n)] [] m (0, 0)
  have lane : ¬ l < 0 → ¬ nI 2 < l → inB l 3 = true := fun a b => by
    obtain ⟨j, hj, rfl⟩ := nI_of a
    rw [n_lt (by omega) (by omega)] at b
    exact (inB_iff (by omega)).mpr ⟨j, by omega, rfl⟩
  have laneF : ¬ l < 0 → nI 2 < l → inB l 3 = false := fun a b => by
    obtain ⟨j, hj, rfl⟩ := nI_of a
    rw [n_lt (by omega) (by omega)] at b
    refine inB_f2 ?_
    rw [n_le (by omega) (by omega)]; omega
  have len : n ≤ nI 40 → 0 ≤ n → inB n 41 = true := fun a b => by
    have b2 : ¬ n < 0 := fun c => by
      rw [i_lt, i_0] at c
      rw [i_le, i_0] at b
      omega
    obtain ⟨j, hj, rfl⟩ := nI_of b2
    rw [n_le (by omega) (by omega)] at a
    exact (inB_iff (by omega)).mpr ⟨j, by omega, rfl⟩
  have cl : ∀ {z : Int32} {k : Nat}, inB z k = true → k < 1000 → z = nI z.toNatClampNeg ∧ z.toNatClampNeg < k := fun {z k} a b => by
    obtain ⟨j, hj, rfl⟩ := (inB_iff (by omega)).mp a
    rw [n_cl (by omega)]
    exact ⟨rfl, hj⟩
  have r0 : ∀ {m2 : AM} {L2 M2 : Nat → Nat} {I2 : Nat → Nat → Int32} {y : Int32}, RowR m2 L2 M2 I2 → RowR (mset m2 0 8 y) L2 M2 I2 := fun {m2 L2 M2 I2 y} q => q.fr (fun a ha => mset_ne _ _ _ (fun e => by rw [e] at ha; exact absurd ha (by decide)))
  refine b_iloadN (pc := 0) 1 dX10_row_0 rfl rfl ?_
  refine call_X10_isRow (pc := 1) k447 (by decide) ⟨Nat.le_of_ble_eq_true rfl, Nat.le_of_ble_eq_true rfl⟩ (Nat.le_of_ble_eq_true rfl) dX10_row_1 ?_
  refine ⟨_, rfl, ?_⟩
  refine b_if_eq (pc := 4) 22 dX10_row_4 (by decide) (fun c4 => ?_) (fun c4 => ?_)
  refine b_ldc (pc := 22) k450 dX10_row_22 ?_
  refine b_iret (pc := 24) rfl dX10_row_24 ⟨Nat.le_of_ble_eq_true rfl, Nat.le_of_ble_eq_true rfl⟩ ?_
  rotate_left -- leaf 0: return at 24
  refine b_iloadN (pc := 7) 2 dX10_row_7 rfl rfl ?_
  refine b_if_lt (pc := 8) 22 dX10_row_8 (by decide) (fun c8 => ?_) (fun c8 => ?_)
  refine b_ldc (pc := 22) k450 dX10_row_22 ?_
  refine b_iret (pc := 24) rfl dX10_row_24 ⟨Nat.le_of_ble_eq_true rfl, Nat.le_of_ble_eq_true rfl⟩ ?_
  rotate_left -- leaf 1: return at 24
  refine b_iloadN (pc := 11) 2 dX10_row_11 rfl rfl ?_
  refine b_iconst (pc := 12) (nI 2) dX10_row_12 (by decide) ?_
  refine b_icmp_gt (pc := 13) 22 dX10_row_13 (by decide) (fun c13 => ?_) (fun c13 => ?_)
  refine b_ldc (pc := 22) k450 dX10_row_22 ?_
  refine b_iret (pc := 24) rfl dX10_row_24 ⟨Nat.le_of_ble_eq_true rfl, Nat.le_of_ble_eq_true rfl⟩ ?_
  rotate_left -- leaf 2: return at 24
  refine b_iloadN (pc := 16) 3 dX10_row_16 rfl rfl ?_
  refine b_bipush (pc := 17) (nI 40) dX10_row_17 (by decide) ?_
  refine b_icmp_le (pc := 19) 25 dX10_row_19 (by decide) (fun c19 => ?_) (fun c19 => ?_)
  refine b_iloadN (pc := 25) 3 dX10_row_25 rfl rfl ?_
  refine b_if_ge (pc := 26) 35 dX10_row_26 (by decide) (fun c26 => ?_) (fun c26 => ?_)
  refine b_aloadN (pc := 35) 0 dX10_row_35 rfl rfl ?_
  refine gf10_0 (pc := 36) 1 rfl k415 dX10_row_36 ?_
  refine b_iloadN (pc := 39) 1 dX10_row_39 rfl rfl ?_
  refine b_iloadN (pc := 40) 2 dX10_row_40 rfl rfl ?_
  refine b_iloadN (pc := 41) 3 dX10_row_41 rfl rfl ?_
  refine call_X6_lay (pc := 42) k456 (by decide) ⟨Nat.le_of_ble_eq_true rfl, Nat.le_of_ble_eq_true rfl⟩ (Nat.le_of_ble_eq_true rfl) dX10_row_42 ?_
  refine ⟨_, _, _, rfl, La, Ma, It, x.toNatClampNeg, l.toNatClampNeg, n.toNatClampNeg, hR, ?_, ?_, ?_, ?_, ?_, ?_, fun m42 fr42 ro42 => ?_⟩
  rotate_left -- leaf 3: x of X6_lay at 42
  rotate_left -- leaf 4: row of X6_lay at 42
  rotate_left -- leaf 5: l of X6_lay at 42
  rotate_left -- leaf 6: lane of X6_lay at 42
  rotate_left -- leaf 7: n of X6_lay at 42
  rotate_left -- leaf 8: len of X6_lay at 42
  refine b_aloadN (pc := 45) 0 dX10_row_45 rfl rfl ?_
  refine b_iloadN (pc := 46) 3 dX10_row_46 rfl rfl ?_
  refine call_X10_fine (pc := 47) k460 (by decide) ⟨Nat.le_of_ble_eq_true rfl, Nat.le_of_ble_eq_true rfl⟩ (Nat.le_of_ble_eq_true rfl) dX10_row_47 ?_
  refine ⟨_, rfl, ?_⟩
  refine b_iret (pc := 50) rfl dX10_row_50 ⟨Nat.le_of_ble_eq_true rfl, Nat.le_of_ble_eq_true rfl⟩ ?_
  rotate_left -- leaf 9: return at 50
  refine b_aloadN (pc := 29) 0 dX10_row_29 rfl rfl ?_
  refine b_iconst (pc := 30) (nI 4) dX10_row_30 (by decide) ?_
  refine call_X10_found (pc := 31) k451 (by decide) ⟨Nat.le_of_ble_eq_true rfl, Nat.le_of_ble_eq_true rfl⟩ (Nat.le_of_ble_eq_true rfl) dX10_row_31 ?_
  refine ⟨_, rfl, ?_⟩
  refine b_iret (pc := 34) rfl dX10_row_34 ⟨Nat.le_of_ble_eq_true rfl, Nat.le_of_ble_eq_true rfl⟩ ?_
  rotate_left -- leaf 10: return at 34
  refine b_ldc (pc := 22) k450 dX10_row_22 ?_
  refine b_iret (pc := 24) rfl dX10_row_24 ⟨Nat.le_of_ble_eq_true rfl, Nat.le_of_ble_eq_true rfl⟩ ?_
  rotate_left -- leaf 11: return at 24
  -- leaves: 0 return at 24; 1 return at 24; 2 return at 24; 3 x of X6_lay at 42; 4 row of X6_lay at 42; 5 l of X6_lay at 42; 6 lane of X6_lay at 42; 7 n of X6_lay at 42; 8 len of X6_lay at 42; 9 return at 50; 10 return at 34; 11 return at 24
  · exact h1 (Or.inl (bF c4))
  · exact h1 (Or.inr (Or.inl (inB_f1 c8)))
  · exact h1 (Or.inr (Or.inl (laneF c8 c13)))
  · exact (cl (bT c4) (by omega)).1
  · exact (cl (bT c4) (by omega)).2
  · exact (cl (lane c8 c13) (by omega)).1
  · have := (cl (lane c8 c13) (by omega)).2
    omega
  · exact (cl (len c19 c26) (by omega)).1
  · have := (cl (len c19 c26) (by omega)).2
    omega
  · exact h3 (bT c4) (lane c8 c13) (len c19 c26) _ ((fr42.mono (fun a ha => List.mem_cons_of_mem _ ha)).ms (by simp)) (r0 ro42) (by rw [mset_at, if_pos rfl])
  · refine h2 (bT c4) (lane c8 c13) ?_ _ ((Fr.rf _ m).ms (by simp)) (r0 hR) (by rw [mset_at, if_pos rfl])
    rw [i_le, i_0] at c26
    rw [i_lt, i_0]
    omega
  · refine h1 (Or.inr (Or.inr ?_))
    exact Int32.not_le.mp c19
theorem call_X10_row {E : ME} {Φ : Option AV → AM → Prop} {pc : Nat} {L : List (Option AV)} {st : List AV} {m : AM} {a : Nat × Nat} {idx : Nat} {x0 x1 x2 : AV} {i : Nat} (hl : Cond.methodLink E.2.1 idx yX10_row ∈ TB) (hdep : 8 + 1 ≤ E.2.2.2.2.2.2) (hroom : a.1 + 0 ≤ E.2.2.2.2.1 ∧ a.2 + 0 ≤ E.2.2.2.2.2.1) (hsr : st.length ≤ 4) (hd : decode E.1 pc = .ok (.invokevirtual idx, 3)) (hsp : Sp_X10_row [vr 10 i, x0, x1, x2] m (fun r m2 => B E Φ (pc + 3) L (r.toList ++ st) m2 a)) : B E Φ pc L (x2 :: x1 :: x0 :: vr 10 i :: st) m a := b_callV S_X10_row [x0, x1, x2] (RX10, TX10, 9) rfl rfl (by decide) (Or.inl hl) k444 k445 k68 k446 (show _ ∧ _ ∧ Option.map (fun d => d.parameters.length) (parseMethodDescriptor yX10_row.desc) = some 3 from by decide +kernel) ⟨hdep, by decide⟩ hroom hsr hd hsp
abbrev e_X10_drop : ME := (cX10_drop, (RX10, (2, ((some .int), (0, (0, 8))))))
theorem dX10_drop_0 : decode cX10_drop 0 = .ok (.iload_n 1, 1) := by decide +kernel
theorem dX10_drop_1 : decode cX10_drop 1 = .ok (.invokestatic 65, 3) := by decide +kernel
theorem dX10_drop_4 : decode cX10_drop 4 = .ok (.ifCond .ne 6, 3) := by decide +kernel
theorem dX10_drop_7 : decode cX10_drop 7 = .ok (.ldc 69, 2) := by decide +kernel
theorem dX10_drop_9 : decode cX10_drop 9 = .ok (.ireturn, 1) := by decide +kernel
theorem dX10_drop_10 : decode cX10_drop 10 = .ok (.aload_n 0, 1) := by decide +kernel
theorem dX10_drop_11 : decode cX10_drop 11 = .ok (.getfield 10, 3) := by decide +kernel
theorem dX10_drop_14 : decode cX10_drop 14 = .ok (.iload_n 1, 1) := by decide +kernel
theorem dX10_drop_15 : decode cX10_drop 15 = .ok (.invokevirtual 88, 3) := by decide +kernel
theorem dX10_drop_18 : decode cX10_drop 18 = .ok (.ifCond .eq 9, 3) := by decide +kernel
theorem dX10_drop_21 : decode cX10_drop 21 = .ok (.aload_n 0, 1) := by decide +kernel
theorem dX10_drop_22 : decode cX10_drop 22 = .ok (.iconst 1, 1) := by decide +kernel
theorem dX10_drop_23 : decode cX10_drop 23 = .ok (.invokevirtual 70, 3) := by decide +kernel
theorem dX10_drop_26 : decode cX10_drop 26 = .ok (.ireturn, 1) := by decide +kernel
theorem dX10_drop_27 : decode cX10_drop 27 = .ok (.aload_n 0, 1) := by decide +kernel
theorem dX10_drop_28 : decode cX10_drop 28 = .ok (.aload_n 0, 1) := by decide +kernel
theorem dX10_drop_29 : decode cX10_drop 29 = .ok (.getfield 10, 3) := by decide +kernel
theorem dX10_drop_32 : decode cX10_drop 32 = .ok (.iload_n 1, 1) := by decide +kernel
theorem dX10_drop_33 : decode cX10_drop 33 = .ok (.invokevirtual 98, 3) := by decide +kernel
theorem dX10_drop_36 : decode cX10_drop 36 = .ok (.invokevirtual 78, 3) := by decide +kernel
theorem dX10_drop_39 : decode cX10_drop 39 = .ok (.ireturn, 1) := by decide +kernel
def Sp_X10_drop (av : List AV) (m : AM) (Φ : Option AV → AM → Prop) : Prop := ∃ x, av = [vr 10 0, vi x] ∧ ∃ La Ma It, RowR m La Ma It ∧ (inB x 8 = false → Φ (some (vi (-1000001))) m) ∧ (inB x 8 = true → La x.toNatClampNeg = 0 → ∀ m2, Fr (0 :: rowL) m m2 → RowR m2 La Ma It → m2.1 0 8 = nI 1 → Φ (some (vi (-1000010 - nI 1))) m2) ∧ (inB x 8 = true → 0 < La x.toNatClampNeg → ∀ m2, Fr (0 :: rowL) m m2 → RowR m2 (upC La x.toNatClampNeg 0) Ma It → m2.1 0 8 = nI 0 → Φ (some (vi (nI (Ma x.toNatClampNeg)))) m2)
set_option maxRecDepth 20000 in
set_option maxHeartbeats 4000000 in
theorem S_X10_drop : Snd yX10_drop e_X10_drop Sp_X10_drop := by
  refine Snd.of (by decide +kernel) rfl ?_ ?_
  · rintro av m Φ ⟨x, rfl, _⟩; exact Nat.le_of_ble_eq_true rfl
  rintro av m Φ ⟨x, rfl, La, Ma, It, hR, h1, h2, h3⟩ hav hty
  show B e_X10_drop Φ 0 [some (vr 10 0), some (vi x)] [] m (0, 0)
  have cl : ∀ {z : Int32} {k : Nat}, inB z k = true → k < 1000 → z = nI z.toNatClampNeg ∧ z.toNatClampNeg < k := fun {z k} a b => by
    obtain ⟨j, hj, rfl⟩ := (inB_iff (by omega)).mp a
    rw [n_cl (by omega)]
    exact ⟨rfl, hj⟩
  have r0 : ∀ {m2 : AM} {L2 M2 : Nat → Nat} {I2 : Nat → Nat → Int32} {y : Int32}, RowR m2 L2 M2 I2 → RowR (mset m2 0 8 y) L2 M2 I2 := fun {m2 L2 M2 I2 y} q => q.fr (fun a ha => mset_ne _ _ _ (fun e => by rw [e] at ha; exact absurd ha (by decide)))
  have mz : ∀ {k : Nat}, nI (if k = 0 then 1 else 0) = 0 → 0 < k := fun {k} z => by
    by_cases w : k = 0
    · rw [if_pos w] at z; exact absurd z (by decide)
    · omega
  have mn : ∀ {k : Nat}, ¬ nI (if k = 0 then 1 else 0) = 0 → k = 0 := fun {k} z => by
    by_cases w : k = 0
    · exact w
    · rw [if_neg w] at z; exact absurd rfl z
  refine b_iloadN (pc := 0) 1 dX10_drop_0 rfl rfl ?_
  refine call_X10_isRow (pc := 1) k447 (by decide) ⟨Nat.le_of_ble_eq_true rfl, Nat.le_of_ble_eq_true rfl⟩ (Nat.le_of_ble_eq_true rfl) dX10_drop_1 ?_
  refine ⟨_, rfl, ?_⟩
  refine b_if_ne (pc := 4) 10 dX10_drop_4 (by decide) (fun c4 => ?_) (fun c4 => ?_)
  refine b_aloadN (pc := 10) 0 dX10_drop_10 rfl rfl ?_
  refine gf10_0 (pc := 11) 1 rfl k415 dX10_drop_11 ?_
  refine b_iloadN (pc := 14) 1 dX10_drop_14 rfl rfl ?_
  refine call_X6_isMissing (pc := 15) k484 (by decide) ⟨Nat.le_of_ble_eq_true rfl, Nat.le_of_ble_eq_true rfl⟩ (Nat.le_of_ble_eq_true rfl) dX10_drop_15 ?_
  refine ⟨_, rfl, La, Ma, It, x.toNatClampNeg, hR, ?_, ?_, ?_⟩
  rotate_left -- leaf 0: x of X6_isMissing at 15
  rotate_left -- leaf 1: row of X6_isMissing at 15
  refine b_if_eq (pc := 18) 27 dX10_drop_18 (by decide) (fun c18 => ?_) (fun c18 => ?_)
  refine b_aloadN (pc := 27) 0 dX10_drop_27 rfl rfl ?_
  refine b_aloadN (pc := 28) 0 dX10_drop_28 rfl rfl ?_
  refine gf10_0 (pc := 29) 1 rfl k415 dX10_drop_29 ?_
  refine b_iloadN (pc := 32) 1 dX10_drop_32 rfl rfl ?_
  refine call_X6_remove (pc := 33) k500 (by decide) ⟨Nat.le_of_ble_eq_true rfl, Nat.le_of_ble_eq_true rfl⟩ (Nat.le_of_ble_eq_true rfl) dX10_drop_33 ?_
  refine ⟨_, rfl, La, Ma, It, x.toNatClampNeg, hR, ?_, ?_, ?_, fun m33 fr33 ro33 => ?_⟩
  rotate_left -- leaf 2: x of X6_remove at 33
  rotate_left -- leaf 3: row of X6_remove at 33
  rotate_left -- leaf 4: there of X6_remove at 33
  refine call_X10_fine (pc := 36) k460 (by decide) ⟨Nat.le_of_ble_eq_true rfl, Nat.le_of_ble_eq_true rfl⟩ (Nat.le_of_ble_eq_true rfl) dX10_drop_36 ?_
  refine ⟨_, rfl, ?_⟩
  refine b_iret (pc := 39) rfl dX10_drop_39 ⟨Nat.le_of_ble_eq_true rfl, Nat.le_of_ble_eq_true rfl⟩ ?_
  rotate_left -- leaf 5: return at 39
  refine b_aloadN (pc := 21) 0 dX10_drop_21 rfl rfl ?_
  refine b_iconst (pc := 22) (nI 1) dX10_drop_22 (by decide) ?_
  refine call_X10_found (pc := 23) k451 (by decide) ⟨Nat.le_of_ble_eq_true rfl, Nat.le_of_ble_eq_true rfl⟩ (Nat.le_of_ble_eq_true rfl) dX10_drop_23 ?_
  refine ⟨_, rfl, ?_⟩
  refine b_iret (pc := 26) rfl dX10_drop_26 ⟨Nat.le_of_ble_eq_true rfl, Nat.le_of_ble_eq_true rfl⟩ ?_
  rotate_left -- leaf 6: return at 26
  refine b_ldc (pc := 7) k450 dX10_drop_7 ?_
  refine b_iret (pc := 9) rfl dX10_drop_9 ⟨Nat.le_of_ble_eq_true rfl, Nat.le_of_ble_eq_true rfl⟩ ?_
  rotate_left -- leaf 7: return at 9
  -- leaves: 0 x of X6_isMissing at 15; 1 row of X6_isMissing at 15; 2 x of X6_remove at 33; 3 row of X6_remove at 33; 4 there of X6_remove at 33; 5 return at 39; 6 return at 26; 7 return at 9
  · exact (cl (bT c4) (by omega)).1
  · exact (cl (bT c4) (by omega)).2
  · exact (cl (bT c4) (by omega)).1
  · exact (cl (bT c4) (by omega)).2
  · exact mz c18
  · exact h3 (bT c4) (mz c18) _ ((fr33.mono (fun a ha => List.mem_cons_of_mem _ ha)).ms (by simp)) (r0 ro33) (by rw [mset_at, if_pos rfl])
  · exact h2 (bT c4) (mn c18) _ ((Fr.rf _ m).ms (by simp)) (r0 hR) (by rw [mset_at, if_pos rfl])
  · exact h1 (bF c4)
theorem call_X10_drop {E : ME} {Φ : Option AV → AM → Prop} {pc : Nat} {L : List (Option AV)} {st : List AV} {m : AM} {a : Nat × Nat} {idx : Nat} {x0 : AV} {i : Nat} (hl : Cond.methodLink E.2.1 idx yX10_drop ∈ TB) (hdep : 8 + 1 ≤ E.2.2.2.2.2.2) (hroom : a.1 + 0 ≤ E.2.2.2.2.1 ∧ a.2 + 0 ≤ E.2.2.2.2.2.1) (hsr : st.length ≤ 4) (hd : decode E.1 pc = .ok (.invokevirtual idx, 3)) (hsp : Sp_X10_drop [vr 10 i, x0] m (fun r m2 => B E Φ (pc + 3) L (r.toList ++ st) m2 a)) : B E Φ pc L (x0 :: vr 10 i :: st) m a := b_callV S_X10_drop [x0] (RX10, TX10, 9) rfl rfl (by decide) (Or.inl hl) k497 k498 k68 k499 (show _ ∧ _ ∧ Option.map (fun d => d.parameters.length) (parseMethodDescriptor yX10_drop.desc) = some 1 from by decide +kernel) ⟨hdep, by decide⟩ hroom hsr hd hsp
end
