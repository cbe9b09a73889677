/-! the tables' words that are used, each by its place -/
theorem tb1 {w : Cond} (i : Nat) (h : tables_1_1[i]? = some w) (g : goodWord w = true) : w ∈ TB := List.mem_filter.mpr ⟨List.mem_append_right _ (List.mem_append_left _ (List.mem_of_getElem? h)), g⟩
theorem tb2 {w : Cond} (i : Nat) (h : tables_1_2[i]? = some w) (g : goodWord w = true) : w ∈ TB := List.mem_filter.mpr ⟨List.mem_append_right _ (List.mem_append_right _ (List.mem_append_left _ (List.mem_of_getElem? h))), g⟩
theorem tb3 {w : Cond} (i : Nat) (h : tables_1_3[i]? = some w) (g : goodWord w = true) : w ∈ TB := List.mem_filter.mpr ⟨List.mem_append_right _ (List.mem_append_right _ (List.mem_append_right _ (List.mem_append_left _ (List.mem_of_getElem? h)))), g⟩
theorem tb4 {w : Cond} (i : Nat) (h : tables_1_4[i]? = some w) (g : goodWord w = true) : w ∈ TB := List.mem_filter.mpr ⟨List.mem_append_right _ (List.mem_append_right _ (List.mem_append_right _ (List.mem_append_right _ (List.mem_append_left _ (List.mem_of_getElem? h))))), g⟩
theorem tb5 {w : Cond} (i : Nat) (h : tables_1_5[i]? = some w) (g : goodWord w = true) : w ∈ TB := List.mem_filter.mpr ⟨List.mem_append_right _ (List.mem_append_right _ (List.mem_append_right _ (List.mem_append_right _ (List.mem_append_right _ (List.mem_append_left _ (List.mem_of_getElem? h)))))), g⟩
theorem tb6 {w : Cond} (i : Nat) (h : tables_1_6[i]? = some w) (g : goodWord w = true) : w ∈ TB := List.mem_filter.mpr ⟨List.mem_append_right _ (List.mem_append_right _ (List.mem_append_right _ (List.mem_append_right _ (List.mem_append_right _ (List.mem_append_right _ (List.mem_of_getElem? h)))))), g⟩
theorem k0 : (Jvm.Cond.selects "BelievedWords" ({ cls := "BelievedWords", name := "found", desc := "(I)I" } : Jvm.MethodName) ({ cls := "BelievedWords", name := "found", desc := "(I)I" } : Jvm.MethodName)) ∈ TB := tb_of 0 rfl rfl
theorem k1 : (Jvm.Cond.selects "BelievedWords" ({ cls := "BelievedWords", name := "fine", desc := "(I)I" } : Jvm.MethodName) ({ cls := "BelievedWords", name := "fine", desc := "(I)I" } : Jvm.MethodName)) ∈ TB := tb_of 1 rfl rfl
theorem k2 : (Jvm.Cond.selects "BelievedWords$Tape" ({ cls := "BelievedWords$Tape", name := "readLaw", desc := "()Z" } : Jvm.MethodName) ({ cls := "BelievedWords$Tape", name := "readLaw", desc := "()Z" } : Jvm.MethodName)) ∈ TB := tb_of 2 rfl rfl
theorem k3 : (Jvm.Cond.selects "BelievedWords$Tape" ({ cls := "BelievedWords$Tape", name := "takes", desc := "(I)Z" } : Jvm.MethodName) ({ cls := "BelievedWords$Tape", name := "takes", desc := "(I)Z" } : Jvm.MethodName)) ∈ TB := tb_of 3 rfl rfl
theorem k4 : (Jvm.Cond.selects "BelievedWords$Tape" ({ cls := "BelievedWords$Tape", name := "step", desc := "()V" } : Jvm.MethodName) ({ cls := "BelievedWords$Tape", name := "step", desc := "()V" } : Jvm.MethodName)) ∈ TB := tb_of 4 rfl rfl
theorem k5 : (Jvm.Cond.selects "BelievedWords$Tape" ({ cls := "BelievedWords$Tape", name := "stepOverFigures", desc := "()V" } : Jvm.MethodName) ({ cls := "BelievedWords$Tape", name := "stepOverFigures", desc := "()V" } : Jvm.MethodName)) ∈ TB := tb_of 5 rfl rfl
theorem k6 : (Jvm.Cond.selects "BelievedWords$Tape" ({ cls := "BelievedWords$Tape", name := "fails", desc := "(I)Z" } : Jvm.MethodName) ({ cls := "BelievedWords$Tape", name := "fails", desc := "(I)Z" } : Jvm.MethodName)) ∈ TB := tb_of 6 rfl rfl
theorem k7 : (Jvm.Cond.selects "BelievedWords$Tape" ({ cls := "BelievedWords$Tape", name := "takesNumber", desc := "(II)Z" } : Jvm.MethodName) ({ cls := "BelievedWords$Tape", name := "takesNumber", desc := "(II)Z" } : Jvm.MethodName)) ∈ TB := tb_of 7 rfl rfl
theorem k8 : (Jvm.Cond.selects "BelievedWords$Tape" ({ cls := "BelievedWords$Tape", name := "readRules", desc := "()Z" } : Jvm.MethodName) ({ cls := "BelievedWords$Tape", name := "readRules", desc := "()Z" } : Jvm.MethodName)) ∈ TB := tb_of 8 rfl rfl
theorem k9 : (Jvm.Cond.selects "BelievedWords$Tape" ({ cls := "BelievedWords$Tape", name := "readRule", desc := "(I)Z" } : Jvm.MethodName) ({ cls := "BelievedWords$Tape", name := "readRule", desc := "(I)Z" } : Jvm.MethodName)) ∈ TB := tb_of 9 rfl rfl
theorem k10 : (Jvm.Cond.selects "BelievedWords$Tape" ({ cls := "BelievedWords$Tape", name := "readPeople", desc := "()Z" } : Jvm.MethodName) ({ cls := "BelievedWords$Tape", name := "readPeople", desc := "()Z" } : Jvm.MethodName)) ∈ TB := tb_of 10 rfl rfl
theorem k11 : (Jvm.Cond.selects "BelievedWords$Court" ({ cls := "BelievedWords$Court", name := "gatherRules", desc := "()V" } : Jvm.MethodName) ({ cls := "BelievedWords$Court", name := "gatherRules", desc := "()V" } : Jvm.MethodName)) ∈ TB := tb_of 11 rfl rfl
theorem k12 : (Jvm.Cond.selects "BelievedWords$Court" ({ cls := "BelievedWords$Court", name := "believed", desc := "(IIII)I" } : Jvm.MethodName) ({ cls := "BelievedWords$Court", name := "believed", desc := "(IIII)I" } : Jvm.MethodName)) ∈ TB := tb_of 12 rfl rfl
theorem k13 : (Jvm.Cond.selects "BelievedWords$Court" ({ cls := "BelievedWords$Court", name := "grow", desc := "(I)I" } : Jvm.MethodName) ({ cls := "BelievedWords$Court", name := "grow", desc := "(I)I" } : Jvm.MethodName)) ∈ TB := tb_of 13 rfl rfl
theorem k14 : (Jvm.Cond.selects "BelievedWords$Court" ({ cls := "BelievedWords$Court", name := "isBarred", desc := "(I)Z" } : Jvm.MethodName) ({ cls := "BelievedWords$Court", name := "isBarred", desc := "(I)Z" } : Jvm.MethodName)) ∈ TB := tb_of 14 rfl rfl
theorem k15 : (Jvm.Cond.selects "BelievedWords" ({ cls := "BelievedWords", name := "refusalOfGoal", desc := "(III)I" } : Jvm.MethodName) ({ cls := "BelievedWords", name := "refusalOfGoal", desc := "(III)I" } : Jvm.MethodName)) ∈ TB := tb_of 15 rfl rfl
theorem k16 : (Jvm.Cond.selects "BelievedWords$Search" ({ cls := "BelievedWords$Search", name := "begin", desc := "(LBelievedWords$Law;IIZ)V" } : Jvm.MethodName) ({ cls := "BelievedWords$Search", name := "begin", desc := "(LBelievedWords$Law;IIZ)V" } : Jvm.MethodName)) ∈ TB := tb_of 16 rfl rfl
theorem k17 : (Jvm.Cond.selects "BelievedWords$Search" ({ cls := "BelievedWords$Search", name := "gatherMovers", desc := "(LBelievedWords$Law;)V" } : Jvm.MethodName) ({ cls := "BelievedWords$Search", name := "gatherMovers", desc := "(LBelievedWords$Law;)V" } : Jvm.MethodName)) ∈ TB := tb_of 17 rfl rfl
theorem k18 : (Jvm.Cond.selects "BelievedWords$Search" ({ cls := "BelievedWords$Search", name := "isMet", desc := "(I)Z" } : Jvm.MethodName) ({ cls := "BelievedWords$Search", name := "isMet", desc := "(I)Z" } : Jvm.MethodName)) ∈ TB := tb_of 18 rfl rfl
theorem k19 : (Jvm.Cond.selects "BelievedWords$Search" ({ cls := "BelievedWords$Search", name := "explore", desc := "(LBelievedWords$Court;)I" } : Jvm.MethodName) ({ cls := "BelievedWords$Search", name := "explore", desc := "(LBelievedWords$Court;)I" } : Jvm.MethodName)) ∈ TB := tb_of 19 rfl rfl
theorem k20 : (Jvm.Cond.selects "BelievedWords$Search" ({ cls := "BelievedWords$Search", name := "sayFirst", desc := "(LBelievedWords$Court;)V" } : Jvm.MethodName) ({ cls := "BelievedWords$Search", name := "sayFirst", desc := "(LBelievedWords$Court;)V" } : Jvm.MethodName)) ∈ TB := tb_of 20 rfl rfl
theorem k21 : (Jvm.Cond.selects "BelievedWords$Search" ({ cls := "BelievedWords$Search", name := "stepOf", desc := "(II)I" } : Jvm.MethodName) ({ cls := "BelievedWords$Search", name := "stepOf", desc := "(II)I" } : Jvm.MethodName)) ∈ TB := tb_of 21 rfl rfl
theorem k22 : (Jvm.Cond.selects "BelievedWords$Search" ({ cls := "BelievedWords$Search", name := "enter", desc := "(IIII)V" } : Jvm.MethodName) ({ cls := "BelievedWords$Search", name := "enter", desc := "(IIII)V" } : Jvm.MethodName)) ∈ TB := tb_of 22 rfl rfl
theorem k23 : (Jvm.Cond.selects "BelievedWords$Search" ({ cls := "BelievedWords$Search", name := "soOf", desc := "(I)I" } : Jvm.MethodName) ({ cls := "BelievedWords$Search", name := "soOf", desc := "(I)I" } : Jvm.MethodName)) ∈ TB := tb_of 23 rfl rfl
theorem k24 : (Jvm.Cond.selects "BelievedWords$Search" ({ cls := "BelievedWords$Search", name := "lead", desc := "(LBelievedWords$Court;I)V" } : Jvm.MethodName) ({ cls := "BelievedWords$Search", name := "lead", desc := "(LBelievedWords$Court;I)V" } : Jvm.MethodName)) ∈ TB := tb_of 24 rfl rfl
theorem k25 : (Jvm.Cond.selects "BelievedWords$Foresight" ({ cls := "BelievedWords$Foresight", name := "tellSaying", desc := "(LBelievedWords$Court;IIIIZ)V" } : Jvm.MethodName) ({ cls := "BelievedWords$Foresight", name := "tellSaying", desc := "(LBelievedWords$Court;IIIIZ)V" } : Jvm.MethodName)) ∈ TB := tb_of 25 rfl rfl
theorem k26 : (Jvm.Cond.selects "BelievedWords$Foresight" ({ cls := "BelievedWords$Foresight", name := "turnOver", desc := "()V" } : Jvm.MethodName) ({ cls := "BelievedWords$Foresight", name := "turnOver", desc := "()V" } : Jvm.MethodName)) ∈ TB := tb_of 26 rfl rfl
theorem k27 : (Jvm.Cond.selects "BelievedWords$Asks" ({ cls := "BelievedWords$Asks", name := "askedOf", desc := "(LBelievedWords$Court;III)I" } : Jvm.MethodName) ({ cls := "BelievedWords$Asks", name := "askedOf", desc := "(LBelievedWords$Court;III)I" } : Jvm.MethodName)) ∈ TB := tb_of 27 rfl rfl
theorem k28 : (Jvm.Cond.selects "BelievedWords$Asks" ({ cls := "BelievedWords$Asks", name := "body", desc := "(LBelievedWords$Court;III)I" } : Jvm.MethodName) ({ cls := "BelievedWords$Asks", name := "body", desc := "(LBelievedWords$Court;III)I" } : Jvm.MethodName)) ∈ TB := tb_of 28 rfl rfl
theorem k29 : (Jvm.Cond.selects "BelievedWords$Asks" ({ cls := "BelievedWords$Asks", name := "leave", desc := "(I)V" } : Jvm.MethodName) ({ cls := "BelievedWords$Asks", name := "leave", desc := "(I)V" } : Jvm.MethodName)) ∈ TB := tb_of 29 rfl rfl
theorem k30 : (Jvm.Cond.selects "BelievedWordsModel" ({ cls := "BelievedWordsModel", name := "finding", desc := "(I)I" } : Jvm.MethodName) ({ cls := "BelievedWordsModel", name := "finding", desc := "(I)I" } : Jvm.MethodName)) ∈ TB := tb_of 30 rfl rfl
theorem k31 : (Jvm.Cond.selects "BelievedWordsModel" ({ cls := "BelievedWordsModel", name := "begin", desc := "()V" } : Jvm.MethodName) ({ cls := "BelievedWordsModel", name := "begin", desc := "()V" } : Jvm.MethodName)) ∈ TB := tb_of 31 rfl rfl
theorem k32 : (Jvm.Cond.selects "BelievedWordsModel" ({ cls := "BelievedWordsModel", name := "nextToken", desc := "()V" } : Jvm.MethodName) ({ cls := "BelievedWordsModel", name := "nextToken", desc := "()V" } : Jvm.MethodName)) ∈ TB := tb_of 32 rfl rfl
theorem k33 : (Jvm.Cond.selects "BelievedWordsModel" ({ cls := "BelievedWordsModel", name := "isLetter", desc := "(I)Z" } : Jvm.MethodName) ({ cls := "BelievedWordsModel", name := "isLetter", desc := "(I)Z" } : Jvm.MethodName)) ∈ TB := tb_of 33 rfl rfl
theorem k34 : (Jvm.Cond.selects "BelievedWordsModel" ({ cls := "BelievedWordsModel", name := "must", desc := "(Z)V" } : Jvm.MethodName) ({ cls := "BelievedWordsModel", name := "must", desc := "(Z)V" } : Jvm.MethodName)) ∈ TB := tb_of 34 rfl rfl
theorem k35 : (Jvm.Cond.selects "BelievedWordsModel" ({ cls := "BelievedWordsModel", name := "bad", desc := "(I)V" } : Jvm.MethodName) ({ cls := "BelievedWordsModel", name := "bad", desc := "(I)V" } : Jvm.MethodName)) ∈ TB := tb_of 35 rfl rfl
theorem k36 : (Jvm.Cond.selects "BelievedWordsModel" ({ cls := "BelievedWordsModel", name := "number", desc := "(II)I" } : Jvm.MethodName) ({ cls := "BelievedWordsModel", name := "number", desc := "(II)I" } : Jvm.MethodName)) ∈ TB := tb_of 36 rfl rfl
theorem k37 : (Jvm.Cond.selects "BelievedWordsModel" ({ cls := "BelievedWordsModel", name := "mustSign", desc := "(I)V" } : Jvm.MethodName) ({ cls := "BelievedWordsModel", name := "mustSign", desc := "(I)V" } : Jvm.MethodName)) ∈ TB := tb_of 37 rfl rfl
theorem k38 : (Jvm.Cond.selects "BelievedWordsModel" ({ cls := "BelievedWordsModel", name := "readRule", desc := "()V" } : Jvm.MethodName) ({ cls := "BelievedWordsModel", name := "readRule", desc := "()V" } : Jvm.MethodName)) ∈ TB := tb_of 38 rfl rfl
theorem k39 : (Jvm.Cond.selects "BelievedWordsModel" ({ cls := "BelievedWordsModel", name := "isTold", desc := "(IIJ)Z" } : Jvm.MethodName) ({ cls := "BelievedWordsModel", name := "isTold", desc := "(IIJ)Z" } : Jvm.MethodName)) ∈ TB := tb_of 39 rfl rfl
theorem k40 : (Jvm.Cond.selects "BelievedWordsModel" ({ cls := "BelievedWordsModel", name := "isSort", desc := "()Z" } : Jvm.MethodName) ({ cls := "BelievedWordsModel", name := "isSort", desc := "()Z" } : Jvm.MethodName)) ∈ TB := tb_of 40 rfl rfl
theorem k41 : (Jvm.Cond.selects "BelievedWordsModel" ({ cls := "BelievedWordsModel", name := "failed", desc := "()Z" } : Jvm.MethodName) ({ cls := "BelievedWordsModel", name := "failed", desc := "()Z" } : Jvm.MethodName)) ∈ TB := tb_of 41 rfl rfl
theorem k42 : (Jvm.Cond.selects "BelievedWordsModel" ({ cls := "BelievedWordsModel", name := "isPerson", desc := "(I)Z" } : Jvm.MethodName) ({ cls := "BelievedWordsModel", name := "isPerson", desc := "(I)Z" } : Jvm.MethodName)) ∈ TB := tb_of 42 rfl rfl
theorem k43 : (Jvm.Cond.selects "BelievedWordsModel" ({ cls := "BelievedWordsModel", name := "isSaying", desc := "(J)Z" } : Jvm.MethodName) ({ cls := "BelievedWordsModel", name := "isSaying", desc := "(J)Z" } : Jvm.MethodName)) ∈ TB := tb_of 43 rfl rfl
theorem k44 : (Jvm.Cond.selects "BelievedWordsModel" ({ cls := "BelievedWordsModel", name := "keep", desc := "()V" } : Jvm.MethodName) ({ cls := "BelievedWordsModel", name := "keep", desc := "()V" } : Jvm.MethodName)) ∈ TB := tb_of 44 rfl rfl
theorem k45 : (Jvm.Cond.selects "BelievedWordsModel" ({ cls := "BelievedWordsModel", name := "after", desc := "(IIII)I" } : Jvm.MethodName) ({ cls := "BelievedWordsModel", name := "after", desc := "(IIII)I" } : Jvm.MethodName)) ∈ TB := tb_of 45 rfl rfl
theorem k46 : (Jvm.Cond.selects "BelievedWordsModel" ({ cls := "BelievedWordsModel", name := "kindOf", desc := "(I)I" } : Jvm.MethodName) ({ cls := "BelievedWordsModel", name := "kindOf", desc := "(I)I" } : Jvm.MethodName)) ∈ TB := tb_of 46 rfl rfl
theorem k47 : (Jvm.Cond.selects "BelievedWordsModel" ({ cls := "BelievedWordsModel", name := "afterBy", desc := "(IIII)I" } : Jvm.MethodName) ({ cls := "BelievedWordsModel", name := "afterBy", desc := "(IIII)I" } : Jvm.MethodName)) ∈ TB := tb_of 47 rfl rfl
theorem k48 : (Jvm.Cond.selects "BelievedWordsModel" ({ cls := "BelievedWordsModel", name := "closed", desc := "(I)I" } : Jvm.MethodName) ({ cls := "BelievedWordsModel", name := "closed", desc := "(I)I" } : Jvm.MethodName)) ∈ TB := tb_of 48 rfl rfl
theorem k49 : (Jvm.Cond.selects "BelievedWordsModel" ({ cls := "BelievedWordsModel", name := "canBe", desc := "(I)Z" } : Jvm.MethodName) ({ cls := "BelievedWordsModel", name := "canBe", desc := "(I)Z" } : Jvm.MethodName)) ∈ TB := tb_of 49 rfl rfl
theorem k50 : (Jvm.Cond.selects "BelievedWordsModel" ({ cls := "BelievedWordsModel", name := "isFact", desc := "(I)Z" } : Jvm.MethodName) ({ cls := "BelievedWordsModel", name := "isFact", desc := "(I)Z" } : Jvm.MethodName)) ∈ TB := tb_of 50 rfl rfl
theorem k51 : (Jvm.Cond.selects "BelievedWordsModel" ({ cls := "BelievedWordsModel", name := "isRule", desc := "(I)Z" } : Jvm.MethodName) ({ cls := "BelievedWordsModel", name := "isRule", desc := "(I)Z" } : Jvm.MethodName)) ∈ TB := tb_of 51 rfl rfl
theorem k52 : (Jvm.Cond.selects "BelievedWordsModel" ({ cls := "BelievedWordsModel", name := "isThere", desc := "()Z" } : Jvm.MethodName) ({ cls := "BelievedWordsModel", name := "isThere", desc := "()Z" } : Jvm.MethodName)) ∈ TB := tb_of 52 rfl rfl
theorem k53 : (Jvm.Cond.selects "BelievedWordsModel" ({ cls := "BelievedWordsModel", name := "areTold", desc := "(II)Z" } : Jvm.MethodName) ({ cls := "BelievedWordsModel", name := "areTold", desc := "(II)Z" } : Jvm.MethodName)) ∈ TB := tb_of 53 rfl rfl
theorem k54 : (Jvm.Cond.selects "BelievedWordsModel" ({ cls := "BelievedWordsModel", name := "areFacts", desc := "(I)Z" } : Jvm.MethodName) ({ cls := "BelievedWordsModel", name := "areFacts", desc := "(I)Z" } : Jvm.MethodName)) ∈ TB := tb_of 54 rfl rfl
theorem k55 : (Jvm.Cond.selects "BelievedWordsModel" ({ cls := "BelievedWordsModel", name := "isSoNow", desc := "(II)Z" } : Jvm.MethodName) ({ cls := "BelievedWordsModel", name := "isSoNow", desc := "(II)Z" } : Jvm.MethodName)) ∈ TB := tb_of 55 rfl rfl
theorem k56 : (Jvm.Cond.selects "BelievedWordsModel" ({ cls := "BelievedWordsModel", name := "spread", desc := "(Z)V" } : Jvm.MethodName) ({ cls := "BelievedWordsModel", name := "spread", desc := "(Z)V" } : Jvm.MethodName)) ∈ TB := tb_of 56 rfl rfl
theorem k57 : (Jvm.Cond.selects "BelievedWordsModel" ({ cls := "BelievedWordsModel", name := "clearStates", desc := "()V" } : Jvm.MethodName) ({ cls := "BelievedWordsModel", name := "clearStates", desc := "()V" } : Jvm.MethodName)) ∈ TB := tb_of 57 rfl rfl
theorem k58 : (Jvm.Cond.selects "BelievedWordsModel" ({ cls := "BelievedWordsModel", name := "goOn", desc := "(IIIZ)V" } : Jvm.MethodName) ({ cls := "BelievedWordsModel", name := "goOn", desc := "(IIIZ)V" } : Jvm.MethodName)) ∈ TB := tb_of 58 rfl rfl
theorem k59 : (Jvm.Cond.selects "BelievedWordsModel" ({ cls := "BelievedWordsModel", name := "bestOf", desc := "(III)I" } : Jvm.MethodName) ({ cls := "BelievedWordsModel", name := "bestOf", desc := "(III)I" } : Jvm.MethodName)) ∈ TB := tb_of 59 rfl rfl
theorem k60 : (Jvm.Cond.selects "BelievedWordsModel" ({ cls := "BelievedWordsModel", name := "madeBy", desc := "(I)I" } : Jvm.MethodName) ({ cls := "BelievedWordsModel", name := "madeBy", desc := "(I)I" } : Jvm.MethodName)) ∈ TB := tb_of 60 rfl rfl
theorem k61 : (Jvm.Cond.selects "BelievedWordsModel" ({ cls := "BelievedWordsModel", name := "afterAll", desc := "(III)I" } : Jvm.MethodName) ({ cls := "BelievedWordsModel", name := "afterAll", desc := "(III)I" } : Jvm.MethodName)) ∈ TB := tb_of 61 rfl rfl
theorem k62 : (Jvm.Cond.selects "BelievedWordsModel" ({ cls := "BelievedWordsModel", name := "sizeOf", desc := "(I)I" } : Jvm.MethodName) ({ cls := "BelievedWordsModel", name := "sizeOf", desc := "(I)I" } : Jvm.MethodName)) ∈ TB := tb_of 62 rfl rfl
theorem k63 : (Jvm.Cond.selects "BelievedWordsModel" ({ cls := "BelievedWordsModel", name := "quietSize", desc := "(I)I" } : Jvm.MethodName) ({ cls := "BelievedWordsModel", name := "quietSize", desc := "(I)I" } : Jvm.MethodName)) ∈ TB := tb_of 63 rfl rfl
theorem k64 : (Jvm.Cond.selects "BelievedWordsModel" ({ cls := "BelievedWordsModel", name := "began", desc := "(I)V" } : Jvm.MethodName) ({ cls := "BelievedWordsModel", name := "began", desc := "(I)V" } : Jvm.MethodName)) ∈ TB := tb_of 64 rfl rfl
theorem k65 : (Jvm.Cond.selects "BelievedWordsModel" ({ cls := "BelievedWordsModel", name := "plainSize", desc := "(I)I" } : Jvm.MethodName) ({ cls := "BelievedWordsModel", name := "plainSize", desc := "(I)I" } : Jvm.MethodName)) ∈ TB := tb_of 65 rfl rfl
theorem k66 : (Jvm.Cond.selects "BelievedWordsModel" ({ cls := "BelievedWordsModel", name := "markOf", desc := "(I)I" } : Jvm.MethodName) ({ cls := "BelievedWordsModel", name := "markOf", desc := "(I)I" } : Jvm.MethodName)) ∈ TB := tb_of 66 rfl rfl
theorem k67 : (Jvm.Cond.initialized "BelievedWordsLaw") ∈ TB := tb1 0 rfl rfl
theorem k68 : (Jvm.Cond.initialized "BelievedWords") ∈ TB := tb1 1 rfl rfl
theorem k69 : (Jvm.Cond.initialized "BelievedWords$Rows") ∈ TB := tb1 2 rfl rfl
theorem k70 : (Jvm.Cond.initialized "java/util/Arrays") ∈ TB := tb1 3 rfl rfl
theorem k71 : (Jvm.Cond.initialized "BelievedWords$Tape") ∈ TB := tb1 4 rfl rfl
theorem k72 : (Jvm.Cond.initialized "BelievedWords$Law") ∈ TB := tb1 5 rfl rfl
theorem k73 : (Jvm.Cond.initialized "BelievedWords$Court") ∈ TB := tb1 6 rfl rfl
theorem k74 : (Jvm.Cond.initialized "BelievedWords$Standing") ∈ TB := tb1 7 rfl rfl
theorem k75 : (Jvm.Cond.initialized "BelievedWords$Acts") ∈ TB := tb1 8 rfl rfl
theorem k76 : (Jvm.Cond.initialized "BelievedWords$Search") ∈ TB := tb1 9 rfl rfl
theorem k77 : (Jvm.Cond.initialized "BelievedWords$Foresight") ∈ TB := tb1 10 rfl rfl
theorem k78 : (Jvm.Cond.initialized "BelievedWords$Asks") ∈ TB := tb1 11 rfl rfl
theorem k79 : (Jvm.Cond.initialized "BelievedWords$Image") ∈ TB := tb1 12 rfl rfl
theorem k80 : (Jvm.Cond.initialized "BelievedWordsModel") ∈ TB := tb1 13 rfl rfl
theorem k81 : (Jvm.Cond.initialized "java/lang/System") ∈ TB := tb1 14 rfl rfl
theorem k82 : (Jvm.Cond.initialized "java/lang/Math") ∈ TB := tb1 15 rfl rfl
theorem k83 : (Jvm.Cond.initialized "java/lang/Integer") ∈ TB := tb1 16 rfl rfl
theorem k84 : (Jvm.Cond.initialized "java/lang/Long") ∈ TB := tb1 17 rfl rfl
theorem k87 : (Jvm.Cond.methodLink "BelievedWordsLaw" (9 : Nat) ({ cls := "BelievedWords", name := "<init>", desc := "()V" } : Jvm.MethodName)) ∈ TB := tb1 20 rfl rfl
theorem k88 : (Jvm.Cond.instanceMethod ({ cls := "BelievedWords", name := "<init>", desc := "()V" } : Jvm.MethodName)) ∈ TB := tb1 21 rfl rfl
theorem k89 : (Jvm.Cond.code ({ cls := "BelievedWords", name := "<init>", desc := "()V" } : Jvm.MethodName) prog_1_method_1_code (2 : Nat) (Option.none : Option Jvm.ClassFile.FieldType)) ∈ TB := tb1 22 rfl rfl
theorem k90 : (Jvm.Cond.methodLink "BelievedWords" (1 : Nat) ({ cls := "java/lang/Object", name := "<init>", desc := "()V" } : Jvm.MethodName)) ∈ TB := tb1 23 rfl rfl
theorem k91 : (Jvm.Cond.instanceMethod ({ cls := "java/lang/Object", name := "<init>", desc := "()V" } : Jvm.MethodName)) ∈ TB := tb1 24 rfl rfl
theorem k92 : (Jvm.Cond.code ({ cls := "java/lang/Object", name := "<init>", desc := "()V" } : Jvm.MethodName) object_method_1_code (1 : Nat) (Option.none : Option Jvm.ClassFile.FieldType)) ∈ TB := tb1 25 rfl rfl
theorem k95 : (Jvm.Cond.methodLink "BelievedWords" (9 : Nat) ({ cls := "BelievedWords$Rows", name := "<init>", desc := "()V" } : Jvm.MethodName)) ∈ TB := tb1 28 rfl rfl
theorem k96 : (Jvm.Cond.instanceMethod ({ cls := "BelievedWords$Rows", name := "<init>", desc := "()V" } : Jvm.MethodName)) ∈ TB := tb1 29 rfl rfl
theorem k97 : (Jvm.Cond.code ({ cls := "BelievedWords$Rows", name := "<init>", desc := "()V" } : Jvm.MethodName) prog_8_method_1_code (1 : Nat) (Option.none : Option Jvm.ClassFile.FieldType)) ∈ TB := tb1 30 rfl rfl
theorem k98 : (Jvm.Cond.methodLink "BelievedWords$Rows" (3 : Nat) ({ cls := "java/lang/Object", name := "<init>", desc := "()V" } : Jvm.MethodName)) ∈ TB := tb1 31 rfl rfl
theorem k101 : (Jvm.Cond.methodLink "BelievedWords$Rows" (23 : Nat) ({ cls := "java/util/Arrays", name := "fill", desc := "([II)V" } : Jvm.MethodName)) ∈ TB := tb1 34 rfl rfl
theorem k102 : (Jvm.Cond.static ({ cls := "java/util/Arrays", name := "fill", desc := "([II)V" } : Jvm.MethodName)) ∈ TB := tb1 35 rfl rfl
theorem k103 : (Jvm.Cond.code ({ cls := "java/util/Arrays", name := "fill", desc := "([II)V" } : Jvm.MethodName) prog_19_method_103_code (4 : Nat) (Option.none : Option Jvm.ClassFile.FieldType)) ∈ TB := tb1 36 rfl rfl
theorem k104 : (Jvm.Cond.fieldLink "BelievedWords$Rows" (11 : Nat) "BelievedWords$Rows" "items" "[[I") ∈ TB := tb1 37 rfl rfl
theorem k105 : (Jvm.Cond.fieldLink "BelievedWords$Rows" (16 : Nat) "BelievedWords$Rows" "lanes" "[I") ∈ TB := tb1 38 rfl rfl
theorem k106 : (Jvm.Cond.fieldLink "BelievedWords$Rows" (20 : Nat) "BelievedWords$Rows" "lengths" "[I") ∈ TB := tb1 39 rfl rfl
theorem k107 : (Jvm.Cond.laysFinal "BelievedWords$Rows" "BelievedWords$Rows" "items" "[[I") ∈ TB := tb1 40 rfl rfl
theorem k109 : (Jvm.Cond.laysFinal "BelievedWords$Rows" "BelievedWords$Rows" "lanes" "[I") ∈ TB := tb1 42 rfl rfl
theorem k111 : (Jvm.Cond.laysFinal "BelievedWords$Rows" "BelievedWords$Rows" "lengths" "[I") ∈ TB := tb1 44 rfl rfl
theorem k114 : (Jvm.Cond.arrayClass Jvm.ClassFile.FieldType.int) ∈ TB := tb1 47 rfl rfl
theorem k118 : (Jvm.Cond.instanceMethod ({ cls := "BelievedWords$Tape", name := "<init>", desc := "()V" } : Jvm.MethodName)) ∈ TB := tb1 51 rfl rfl
theorem k119 : (Jvm.Cond.code ({ cls := "BelievedWords$Tape", name := "<init>", desc := "()V" } : Jvm.MethodName) prog_11_method_1_code (1 : Nat) (Option.none : Option Jvm.ClassFile.FieldType)) ∈ TB := tb1 52 rfl rfl
theorem k120 : (Jvm.Cond.methodLink "BelievedWords$Tape" (3 : Nat) ({ cls := "java/lang/Object", name := "<init>", desc := "()V" } : Jvm.MethodName)) ∈ TB := tb1 53 rfl rfl
theorem k124 : (Jvm.Cond.instanceMethod ({ cls := "BelievedWords$Law", name := "<init>", desc := "()V" } : Jvm.MethodName)) ∈ TB := tb1 57 rfl rfl
theorem k125 : (Jvm.Cond.code ({ cls := "BelievedWords$Law", name := "<init>", desc := "()V" } : Jvm.MethodName) prog_7_method_1_code (1 : Nat) (Option.none : Option Jvm.ClassFile.FieldType)) ∈ TB := tb1 58 rfl rfl
theorem k126 : (Jvm.Cond.methodLink "BelievedWords$Law" (3 : Nat) ({ cls := "java/lang/Object", name := "<init>", desc := "()V" } : Jvm.MethodName)) ∈ TB := tb1 59 rfl rfl
theorem k127 : (Jvm.Cond.fieldLink "BelievedWords$Law" (9 : Nat) "BelievedWords$Law" "sorts" "[I") ∈ TB := tb1 60 rfl rfl
theorem k128 : (Jvm.Cond.fieldLink "BelievedWords$Court" (71 : Nat) "BelievedWords$Law" "sorts" "[I") ∈ TB := tb1 61 rfl rfl
theorem k129 : (Jvm.Cond.fieldLink "BelievedWords" (198 : Nat) "BelievedWords$Law" "sorts" "[I") ∈ TB := tb1 62 rfl rfl
theorem k130 : (Jvm.Cond.fieldLink "BelievedWords$Law" (15 : Nat) "BelievedWords$Law" "ones" "[I") ∈ TB := tb1 63 rfl rfl
theorem k131 : (Jvm.Cond.fieldLink "BelievedWords$Court" (74 : Nat) "BelievedWords$Law" "ones" "[I") ∈ TB := tb1 64 rfl rfl
theorem k132 : (Jvm.Cond.fieldLink "BelievedWords" (202 : Nat) "BelievedWords$Law" "ones" "[I") ∈ TB := tb1 65 rfl rfl
theorem k133 : (Jvm.Cond.fieldLink "BelievedWords$Law" (18 : Nat) "BelievedWords$Law" "others" "[I") ∈ TB := tb1 66 rfl rfl
theorem k134 : (Jvm.Cond.fieldLink "BelievedWords$Court" (77 : Nat) "BelievedWords$Law" "others" "[I") ∈ TB := tb1 67 rfl rfl
theorem k135 : (Jvm.Cond.fieldLink "BelievedWords" (205 : Nat) "BelievedWords$Law" "others" "[I") ∈ TB := tb1 68 rfl rfl
theorem k136 : (Jvm.Cond.fieldLink "BelievedWords$Law" (21 : Nat) "BelievedWords$Law" "kinds" "[I") ∈ TB := tb1 69 rfl rfl
theorem k137 : (Jvm.Cond.fieldLink "BelievedWords$Asks" (33 : Nat) "BelievedWords$Law" "kinds" "[I") ∈ TB := tb1 70 rfl rfl
theorem k138 : (Jvm.Cond.fieldLink "BelievedWords$Court" (86 : Nat) "BelievedWords$Law" "kinds" "[I") ∈ TB := tb1 71 rfl rfl
theorem k139 : (Jvm.Cond.fieldLink "BelievedWords$Search" (121 : Nat) "BelievedWords$Law" "kinds" "[I") ∈ TB := tb1 72 rfl rfl
theorem k140 : (Jvm.Cond.fieldLink "BelievedWords$Foresight" (109 : Nat) "BelievedWords$Law" "kinds" "[I") ∈ TB := tb1 73 rfl rfl
theorem k141 : (Jvm.Cond.fieldLink "BelievedWords" (211 : Nat) "BelievedWords$Law" "kinds" "[I") ∈ TB := tb1 74 rfl rfl
theorem k142 : (Jvm.Cond.fieldLink "BelievedWords$Law" (24 : Nat) "BelievedWords$Law" "facts" "I") ∈ TB := tb1 75 rfl rfl
theorem k143 : (Jvm.Cond.fieldLink "BelievedWords$Court" (35 : Nat) "BelievedWords$Law" "facts" "I") ∈ TB := tb1 76 rfl rfl
theorem k144 : (Jvm.Cond.fieldLink "BelievedWords$Foresight" (30 : Nat) "BelievedWords$Law" "facts" "I") ∈ TB := tb1 77 rfl rfl
theorem k145 : (Jvm.Cond.fieldLink "BelievedWords$Search" (77 : Nat) "BelievedWords$Law" "facts" "I") ∈ TB := tb1 78 rfl rfl
theorem k146 : (Jvm.Cond.fieldLink "BelievedWords$Tape" (60 : Nat) "BelievedWords$Law" "facts" "I") ∈ TB := tb1 79 rfl rfl
theorem k147 : (Jvm.Cond.fieldLink "BelievedWords" (171 : Nat) "BelievedWords$Law" "facts" "I") ∈ TB := tb1 80 rfl rfl
theorem k148 : (Jvm.Cond.fieldLink "BelievedWords$Law" (28 : Nat) "BelievedWords$Law" "atFirst" "I") ∈ TB := tb1 81 rfl rfl
theorem k149 : (Jvm.Cond.fieldLink "BelievedWords$Court" (43 : Nat) "BelievedWords$Law" "atFirst" "I") ∈ TB := tb1 82 rfl rfl
theorem k150 : (Jvm.Cond.fieldLink "BelievedWords$Tape" (63 : Nat) "BelievedWords$Law" "atFirst" "I") ∈ TB := tb1 83 rfl rfl
theorem k151 : (Jvm.Cond.fieldLink "BelievedWords$Law" (31 : Nat) "BelievedWords$Law" "price" "I") ∈ TB := tb1 84 rfl rfl
theorem k152 : (Jvm.Cond.fieldLink "BelievedWords$Search" (56 : Nat) "BelievedWords$Law" "price" "I") ∈ TB := tb1 85 rfl rfl
theorem k153 : (Jvm.Cond.fieldLink "BelievedWords$Tape" (66 : Nat) "BelievedWords$Law" "price" "I") ∈ TB := tb1 86 rfl rfl
theorem k154 : (Jvm.Cond.fieldLink "BelievedWords$Court" (116 : Nat) "BelievedWords$Law" "price" "I") ∈ TB := tb1 87 rfl rfl
theorem k155 : (Jvm.Cond.fieldLink "BelievedWords" (318 : Nat) "BelievedWords$Law" "price" "I") ∈ TB := tb1 88 rfl rfl
theorem k156 : (Jvm.Cond.fieldLink "BelievedWords$Law" (34 : Nat) "BelievedWords$Law" "rules" "I") ∈ TB := tb1 89 rfl rfl
theorem k157 : (Jvm.Cond.fieldLink "BelievedWords$Court" (65 : Nat) "BelievedWords$Law" "rules" "I") ∈ TB := tb1 90 rfl rfl
theorem k158 : (Jvm.Cond.fieldLink "BelievedWords$Tape" (75 : Nat) "BelievedWords$Law" "rules" "I") ∈ TB := tb1 91 rfl rfl
theorem k159 : (Jvm.Cond.fieldLink "BelievedWords" (315 : Nat) "BelievedWords$Law" "rules" "I") ∈ TB := tb1 92 rfl rfl
theorem k160 : (Jvm.Cond.fieldLink "BelievedWords$Law" (37 : Nat) "BelievedWords$Law" "people" "I") ∈ TB := tb1 93 rfl rfl
theorem k161 : (Jvm.Cond.fieldLink "BelievedWords" (130 : Nat) "BelievedWords$Law" "people" "I") ∈ TB := tb1 94 rfl rfl
theorem k162 : (Jvm.Cond.fieldLink "BelievedWords$Search" (118 : Nat) "BelievedWords$Law" "people" "I") ∈ TB := tb1 95 rfl rfl
theorem k163 : (Jvm.Cond.fieldLink "BelievedWords$Foresight" (116 : Nat) "BelievedWords$Law" "people" "I") ∈ TB := tb1 96 rfl rfl
theorem k164 : (Jvm.Cond.laysFinal "BelievedWords$Law" "BelievedWords$Law" "sorts" "[I") ∈ TB := tb1 97 rfl rfl
theorem k166 : (Jvm.Cond.laysFinal "BelievedWords$Law" "BelievedWords$Law" "ones" "[I") ∈ TB := tb1 99 rfl rfl
theorem k168 : (Jvm.Cond.laysFinal "BelievedWords$Law" "BelievedWords$Law" "others" "[I") ∈ TB := tb1 101 rfl rfl
theorem k170 : (Jvm.Cond.laysFinal "BelievedWords$Law" "BelievedWords$Law" "kinds" "[I") ∈ TB := tb1 103 rfl rfl
theorem k172 : (Jvm.Cond.lays "BelievedWords$Law" "BelievedWords$Law" "facts" "I") ∈ TB := tb1 105 rfl rfl
theorem k174 : (Jvm.Cond.lays "BelievedWords$Law" "BelievedWords$Law" "atFirst" "I") ∈ TB := tb1 107 rfl rfl
theorem k176 : (Jvm.Cond.lays "BelievedWords$Law" "BelievedWords$Law" "price" "I") ∈ TB := tb1 109 rfl rfl
theorem k178 : (Jvm.Cond.lays "BelievedWords$Law" "BelievedWords$Law" "rules" "I") ∈ TB := tb1 111 rfl rfl
theorem k180 : (Jvm.Cond.lays "BelievedWords$Law" "BelievedWords$Law" "people" "I") ∈ TB := tb1 113 rfl rfl
theorem k183 : (Jvm.Cond.fieldLink "BelievedWords$Tape" (12 : Nat) "BelievedWords$Tape" "told" "LBelievedWords$Law;") ∈ TB := tb1 116 rfl rfl
theorem k184 : (Jvm.Cond.fieldLink "BelievedWords" (116 : Nat) "BelievedWords$Tape" "told" "LBelievedWords$Law;") ∈ TB := tb1 117 rfl rfl
theorem k185 : (Jvm.Cond.fieldLink "BelievedWords$Tape" (18 : Nat) "BelievedWords$Tape" "bytes" "[I") ∈ TB := tb1 118 rfl rfl
theorem k186 : (Jvm.Cond.fieldLink "BelievedWords$Tape" (22 : Nat) "BelievedWords$Tape" "length" "I") ∈ TB := tb1 119 rfl rfl
theorem k188 : (Jvm.Cond.fieldLink "BelievedWords$Tape" (100 : Nat) "BelievedWords$Tape" "at" "I") ∈ TB := tb1 121 rfl rfl
theorem k189 : (Jvm.Cond.fieldLink "BelievedWords$Tape" (36 : Nat) "BelievedWords$Tape" "behind" "I") ∈ TB := tb1 122 rfl rfl
theorem k190 : (Jvm.Cond.fieldLink "BelievedWords$Tape" (72 : Nat) "BelievedWords$Tape" "letter" "I") ∈ TB := tb1 123 rfl rfl
theorem k191 : (Jvm.Cond.fieldLink "BelievedWords$Tape" (57 : Nat) "BelievedWords$Tape" "number" "I") ∈ TB := tb1 124 rfl rfl
theorem k192 : (Jvm.Cond.fieldLink "BelievedWords$Tape" (27 : Nat) "BelievedWords$Tape" "fault" "I") ∈ TB := tb1 125 rfl rfl
theorem k193 : (Jvm.Cond.fieldLink "BelievedWords$Tape" (30 : Nat) "BelievedWords$Tape" "place" "I") ∈ TB := tb1 126 rfl rfl
theorem k194 : (Jvm.Cond.laysFinal "BelievedWords$Tape" "BelievedWords$Tape" "told" "LBelievedWords$Law;") ∈ TB := tb1 127 rfl rfl
theorem k196 : (Jvm.Cond.laysFinal "BelievedWords$Tape" "BelievedWords$Tape" "bytes" "[I") ∈ TB := tb1 129 rfl rfl
theorem k198 : (Jvm.Cond.lays "BelievedWords$Tape" "BelievedWords$Tape" "length" "I") ∈ TB := tb1 131 rfl rfl
theorem k200 : (Jvm.Cond.lays "BelievedWords$Tape" "BelievedWords$Tape" "at" "I") ∈ TB := tb1 133 rfl rfl
theorem k202 : (Jvm.Cond.lays "BelievedWords$Tape" "BelievedWords$Tape" "behind" "I") ∈ TB := tb1 135 rfl rfl
theorem k204 : (Jvm.Cond.lays "BelievedWords$Tape" "BelievedWords$Tape" "letter" "I") ∈ TB := tb1 137 rfl rfl
theorem k206 : (Jvm.Cond.lays "BelievedWords$Tape" "BelievedWords$Tape" "number" "I") ∈ TB := tb1 139 rfl rfl
theorem k208 : (Jvm.Cond.lays "BelievedWords$Tape" "BelievedWords$Tape" "fault" "I") ∈ TB := tb1 141 rfl rfl
theorem k210 : (Jvm.Cond.lays "BelievedWords$Tape" "BelievedWords$Tape" "place" "I") ∈ TB := tb1 143 rfl rfl
theorem k216 : (Jvm.Cond.instanceMethod ({ cls := "BelievedWords$Court", name := "<init>", desc := "()V" } : Jvm.MethodName)) ∈ TB := tb1 149 rfl rfl
theorem k217 : (Jvm.Cond.code ({ cls := "BelievedWords$Court", name := "<init>", desc := "()V" } : Jvm.MethodName) prog_4_method_1_code (1 : Nat) (Option.none : Option Jvm.ClassFile.FieldType)) ∈ TB := tb1 150 rfl rfl
theorem k218 : (Jvm.Cond.methodLink "BelievedWords$Court" (3 : Nat) ({ cls := "java/lang/Object", name := "<init>", desc := "()V" } : Jvm.MethodName)) ∈ TB := tb1 151 rfl rfl
theorem k224 : (Jvm.Cond.instanceMethod ({ cls := "BelievedWords$Standing", name := "<init>", desc := "()V" } : Jvm.MethodName)) ∈ TB := tb1 157 rfl rfl
theorem k225 : (Jvm.Cond.code ({ cls := "BelievedWords$Standing", name := "<init>", desc := "()V" } : Jvm.MethodName) prog_10_method_1_code (1 : Nat) (Option.none : Option Jvm.ClassFile.FieldType)) ∈ TB := tb1 158 rfl rfl
theorem k226 : (Jvm.Cond.methodLink "BelievedWords$Standing" (3 : Nat) ({ cls := "java/lang/Object", name := "<init>", desc := "()V" } : Jvm.MethodName)) ∈ TB := tb1 159 rfl rfl
theorem k227 : (Jvm.Cond.fieldLink "BelievedWords$Standing" (9 : Nat) "BelievedWords$Standing" "cells" "[I") ∈ TB := tb1 160 rfl rfl
theorem k228 : (Jvm.Cond.fieldLink "BelievedWords$Asks" (55 : Nat) "BelievedWords$Standing" "cells" "[I") ∈ TB := tb1 161 rfl rfl
theorem k229 : (Jvm.Cond.fieldLink "BelievedWords$Court" (106 : Nat) "BelievedWords$Standing" "cells" "[I") ∈ TB := tb1 162 rfl rfl
theorem k230 : (Jvm.Cond.fieldLink "BelievedWords" (208 : Nat) "BelievedWords$Standing" "cells" "[I") ∈ TB := tb1 163 rfl rfl
theorem k231 : (Jvm.Cond.fieldLink "BelievedWords$Standing" (21 : Nat) "BelievedWords$Standing" "so" "I") ∈ TB := tb1 164 rfl rfl
theorem k232 : (Jvm.Cond.fieldLink "BelievedWords$Search" (38 : Nat) "BelievedWords$Standing" "so" "I") ∈ TB := tb1 165 rfl rfl
theorem k233 : (Jvm.Cond.fieldLink "BelievedWords$Foresight" (40 : Nat) "BelievedWords$Standing" "so" "I") ∈ TB := tb1 166 rfl rfl
theorem k234 : (Jvm.Cond.fieldLink "BelievedWords$Asks" (60 : Nat) "BelievedWords$Standing" "so" "I") ∈ TB := tb1 167 rfl rfl
theorem k235 : (Jvm.Cond.fieldLink "BelievedWords$Court" (89 : Nat) "BelievedWords$Standing" "so" "I") ∈ TB := tb1 168 rfl rfl
theorem k236 : (Jvm.Cond.fieldLink "BelievedWords" (192 : Nat) "BelievedWords$Standing" "so" "I") ∈ TB := tb1 169 rfl rfl
theorem k237 : (Jvm.Cond.fieldLink "BelievedWords$Standing" (25 : Nat) "BelievedWords$Standing" "saidOf" "I") ∈ TB := tb1 170 rfl rfl
theorem k238 : (Jvm.Cond.fieldLink "BelievedWords$Foresight" (45 : Nat) "BelievedWords$Standing" "saidOf" "I") ∈ TB := tb1 171 rfl rfl
theorem k239 : (Jvm.Cond.fieldLink "BelievedWords$Court" (92 : Nat) "BelievedWords$Standing" "saidOf" "I") ∈ TB := tb1 172 rfl rfl
theorem k240 : (Jvm.Cond.fieldLink "BelievedWords$Search" (115 : Nat) "BelievedWords$Standing" "saidOf" "I") ∈ TB := tb1 173 rfl rfl
theorem k241 : (Jvm.Cond.fieldLink "BelievedWords" (174 : Nat) "BelievedWords$Standing" "saidOf" "I") ∈ TB := tb1 174 rfl rfl
theorem k242 : (Jvm.Cond.fieldLink "BelievedWords$Standing" (28 : Nat) "BelievedWords$Standing" "sayings" "I") ∈ TB := tb1 175 rfl rfl
theorem k243 : (Jvm.Cond.fieldLink "BelievedWords$Court" (102 : Nat) "BelievedWords$Standing" "sayings" "I") ∈ TB := tb1 176 rfl rfl
theorem k244 : (Jvm.Cond.fieldLink "BelievedWords" (157 : Nat) "BelievedWords$Standing" "sayings" "I") ∈ TB := tb1 177 rfl rfl
theorem k245 : (Jvm.Cond.fieldLink "BelievedWords$Standing" (31 : Nat) "BelievedWords$Standing" "cost" "I") ∈ TB := tb1 178 rfl rfl
theorem k246 : (Jvm.Cond.fieldLink "BelievedWords$Court" (109 : Nat) "BelievedWords$Standing" "cost" "I") ∈ TB := tb1 179 rfl rfl
theorem k247 : (Jvm.Cond.fieldLink "BelievedWords" (195 : Nat) "BelievedWords$Standing" "cost" "I") ∈ TB := tb1 180 rfl rfl
theorem k248 : (Jvm.Cond.fieldLink "BelievedWords$Standing" (34 : Nat) "BelievedWords$Standing" "struck" "I") ∈ TB := tb1 181 rfl rfl
theorem k249 : (Jvm.Cond.fieldLink "BelievedWords$Court" (68 : Nat) "BelievedWords$Standing" "struck" "I") ∈ TB := tb1 182 rfl rfl
theorem k250 : (Jvm.Cond.fieldLink "BelievedWords" (183 : Nat) "BelievedWords$Standing" "struck" "I") ∈ TB := tb1 183 rfl rfl
theorem k251 : (Jvm.Cond.laysFinal "BelievedWords$Standing" "BelievedWords$Standing" "cells" "[I") ∈ TB := tb1 184 rfl rfl
theorem k253 : (Jvm.Cond.lays "BelievedWords$Standing" "BelievedWords$Standing" "so" "I") ∈ TB := tb1 186 rfl rfl
theorem k255 : (Jvm.Cond.lays "BelievedWords$Standing" "BelievedWords$Standing" "saidOf" "I") ∈ TB := tb1 188 rfl rfl
theorem k257 : (Jvm.Cond.lays "BelievedWords$Standing" "BelievedWords$Standing" "sayings" "I") ∈ TB := tb1 190 rfl rfl
theorem k259 : (Jvm.Cond.lays "BelievedWords$Standing" "BelievedWords$Standing" "cost" "I") ∈ TB := tb1 192 rfl rfl
theorem k261 : (Jvm.Cond.lays "BelievedWords$Standing" "BelievedWords$Standing" "struck" "I") ∈ TB := tb1 194 rfl rfl
theorem k264 : (Jvm.Cond.fieldLink "BelievedWords$Court" (12 : Nat) "BelievedWords$Court" "law" "LBelievedWords$Law;") ∈ TB := tb1 197 rfl rfl
theorem k265 : (Jvm.Cond.fieldLink "BelievedWords$Search" (24 : Nat) "BelievedWords$Court" "law" "LBelievedWords$Law;") ∈ TB := tb1 198 rfl rfl
theorem k266 : (Jvm.Cond.fieldLink "BelievedWords$Image" (23 : Nat) "BelievedWords$Court" "law" "LBelievedWords$Law;") ∈ TB := tb1 199 rfl rfl
theorem k267 : (Jvm.Cond.fieldLink "BelievedWords$Foresight" (24 : Nat) "BelievedWords$Court" "law" "LBelievedWords$Law;") ∈ TB := tb1 200 rfl rfl
theorem k268 : (Jvm.Cond.fieldLink "BelievedWords$Asks" (27 : Nat) "BelievedWords$Court" "law" "LBelievedWords$Law;") ∈ TB := tb1 201 rfl rfl
theorem k269 : (Jvm.Cond.fieldLink "BelievedWords" (127 : Nat) "BelievedWords$Court" "law" "LBelievedWords$Law;") ∈ TB := tb1 202 rfl rfl
theorem k270 : (Jvm.Cond.fieldLink "BelievedWords$Court" (21 : Nat) "BelievedWords$Court" "now" "LBelievedWords$Standing;") ∈ TB := tb1 203 rfl rfl
theorem k271 : (Jvm.Cond.fieldLink "BelievedWords$Search" (34 : Nat) "BelievedWords$Court" "now" "LBelievedWords$Standing;") ∈ TB := tb1 204 rfl rfl
theorem k272 : (Jvm.Cond.fieldLink "BelievedWords$Image" (30 : Nat) "BelievedWords$Court" "now" "LBelievedWords$Standing;") ∈ TB := tb1 205 rfl rfl
theorem k273 : (Jvm.Cond.fieldLink "BelievedWords$Foresight" (36 : Nat) "BelievedWords$Court" "now" "LBelievedWords$Standing;") ∈ TB := tb1 206 rfl rfl
theorem k274 : (Jvm.Cond.fieldLink "BelievedWords$Asks" (51 : Nat) "BelievedWords$Court" "now" "LBelievedWords$Standing;") ∈ TB := tb1 207 rfl rfl
theorem k275 : (Jvm.Cond.fieldLink "BelievedWords" (153 : Nat) "BelievedWords$Court" "now" "LBelievedWords$Standing;") ∈ TB := tb1 208 rfl rfl
theorem k276 : (Jvm.Cond.fieldLink "BelievedWords$Court" (25 : Nat) "BelievedWords$Court" "made" "[I") ∈ TB := tb1 209 rfl rfl
theorem k277 : (Jvm.Cond.fieldLink "BelievedWords$Court" (29 : Nat) "BelievedWords$Court" "barred" "[I") ∈ TB := tb1 210 rfl rfl
theorem k278 : (Jvm.Cond.fieldLink "BelievedWords$Court" (32 : Nat) "BelievedWords$Court" "settled" "[I") ∈ TB := tb1 211 rfl rfl
theorem k279 : (Jvm.Cond.laysFinal "BelievedWords$Court" "BelievedWords$Court" "law" "LBelievedWords$Law;") ∈ TB := tb1 212 rfl rfl
theorem k281 : (Jvm.Cond.laysFinal "BelievedWords$Court" "BelievedWords$Court" "now" "LBelievedWords$Standing;") ∈ TB := tb1 214 rfl rfl
theorem k283 : (Jvm.Cond.laysFinal "BelievedWords$Court" "BelievedWords$Court" "made" "[I") ∈ TB := tb1 216 rfl rfl
theorem k285 : (Jvm.Cond.laysFinal "BelievedWords$Court" "BelievedWords$Court" "barred" "[I") ∈ TB := tb1 218 rfl rfl
theorem k287 : (Jvm.Cond.laysFinal "BelievedWords$Court" "BelievedWords$Court" "settled" "[I") ∈ TB := tb1 220 rfl rfl
theorem k292 : (Jvm.Cond.methodLink "BelievedWords" (32 : Nat) ({ cls := "BelievedWords$Acts", name := "<init>", desc := "()V" } : Jvm.MethodName)) ∈ TB := tb1 225 rfl rfl
theorem k293 : (Jvm.Cond.instanceMethod ({ cls := "BelievedWords$Acts", name := "<init>", desc := "()V" } : Jvm.MethodName)) ∈ TB := tb1 226 rfl rfl
theorem k294 : (Jvm.Cond.code ({ cls := "BelievedWords$Acts", name := "<init>", desc := "()V" } : Jvm.MethodName) prog_2_method_1_code (2 : Nat) (Option.none : Option Jvm.ClassFile.FieldType)) ∈ TB := tb1 227 rfl rfl
theorem k295 : (Jvm.Cond.methodLink "BelievedWords$Acts" (3 : Nat) ({ cls := "java/lang/Object", name := "<init>", desc := "()V" } : Jvm.MethodName)) ∈ TB := tb1 228 rfl rfl
theorem k299 : (Jvm.Cond.fieldLink "BelievedWords$Acts" (11 : Nat) "BelievedWords$Acts" "before" "[LBelievedWords$Standing;") ∈ TB := tb1 232 rfl rfl
theorem k300 : (Jvm.Cond.fieldLink "BelievedWords$Acts" (22 : Nat) "BelievedWords$Acts" "next" "I") ∈ TB := tb1 233 rfl rfl
theorem k301 : (Jvm.Cond.fieldLink "BelievedWords$Acts" (18 : Nat) "BelievedWords$Acts" "kept" "I") ∈ TB := tb1 234 rfl rfl
theorem k302 : (Jvm.Cond.fieldLink "BelievedWords" (321 : Nat) "BelievedWords$Acts" "kept" "I") ∈ TB := tb1 235 rfl rfl
theorem k303 : (Jvm.Cond.laysFinal "BelievedWords$Acts" "BelievedWords$Acts" "before" "[LBelievedWords$Standing;") ∈ TB := tb1 236 rfl rfl
theorem k305 : (Jvm.Cond.lays "BelievedWords$Acts" "BelievedWords$Acts" "next" "I") ∈ TB := tb1 238 rfl rfl
theorem k307 : (Jvm.Cond.lays "BelievedWords$Acts" "BelievedWords$Acts" "kept" "I") ∈ TB := tb2 0 rfl rfl
theorem k315 : (Jvm.Cond.instanceMethod ({ cls := "BelievedWords$Search", name := "<init>", desc := "()V" } : Jvm.MethodName)) ∈ TB := tb2 8 rfl rfl
theorem k316 : (Jvm.Cond.code ({ cls := "BelievedWords$Search", name := "<init>", desc := "()V" } : Jvm.MethodName) prog_9_method_1_code (1 : Nat) (Option.none : Option Jvm.ClassFile.FieldType)) ∈ TB := tb2 9 rfl rfl
theorem k317 : (Jvm.Cond.methodLink "BelievedWords$Search" (3 : Nat) ({ cls := "java/lang/Object", name := "<init>", desc := "()V" } : Jvm.MethodName)) ∈ TB := tb2 10 rfl rfl
theorem k318 : (Jvm.Cond.fieldLink "BelievedWords$Search" (9 : Nat) "BelievedWords$Search" "movers" "[I") ∈ TB := tb2 11 rfl rfl
theorem k319 : (Jvm.Cond.fieldLink "BelievedWords$Search" (15 : Nat) "BelievedWords$Search" "walks" "[I") ∈ TB := tb2 12 rfl rfl
theorem k320 : (Jvm.Cond.fieldLink "BelievedWords$Search" (18 : Nat) "BelievedWords$Search" "costs" "[I") ∈ TB := tb2 13 rfl rfl
theorem k321 : (Jvm.Cond.fieldLink "BelievedWords$Search" (21 : Nat) "BelievedWords$Search" "firsts" "[I") ∈ TB := tb2 14 rfl rfl
theorem k322 : (Jvm.Cond.fieldLink "BelievedWords$Search" (104 : Nat) "BelievedWords$Search" "moving" "I") ∈ TB := tb2 15 rfl rfl
theorem k323 : (Jvm.Cond.fieldLink "BelievedWords$Search" (80 : Nat) "BelievedWords$Search" "facts" "I") ∈ TB := tb2 16 rfl rfl
theorem k324 : (Jvm.Cond.fieldLink "BelievedWords$Search" (61 : Nat) "BelievedWords$Search" "nodes" "I") ∈ TB := tb2 17 rfl rfl
theorem k325 : (Jvm.Cond.fieldLink "BelievedWords$Search" (85 : Nat) "BelievedWords$Search" "minding" "Z") ∈ TB := tb2 18 rfl rfl
theorem k326 : (Jvm.Cond.fieldLink "BelievedWords$Search" (98 : Nat) "BelievedWords$Search" "byCost" "Z") ∈ TB := tb2 19 rfl rfl
theorem k327 : (Jvm.Cond.fieldLink "BelievedWords$Search" (64 : Nat) "BelievedWords$Search" "walk" "I") ∈ TB := tb2 20 rfl rfl
theorem k328 : (Jvm.Cond.fieldLink "BelievedWords$Search" (89 : Nat) "BelievedWords$Search" "farthest" "I") ∈ TB := tb2 21 rfl rfl
theorem k329 : (Jvm.Cond.fieldLink "BelievedWords$Search" (92 : Nat) "BelievedWords$Search" "wantedSo" "I") ∈ TB := tb2 22 rfl rfl
theorem k330 : (Jvm.Cond.fieldLink "BelievedWords$Search" (95 : Nat) "BelievedWords$Search" "wantedNot" "I") ∈ TB := tb2 23 rfl rfl
theorem k331 : (Jvm.Cond.fieldLink "BelievedWords$Search" (53 : Nat) "BelievedWords$Search" "first" "I") ∈ TB := tb2 24 rfl rfl
theorem k332 : (Jvm.Cond.laysFinal "BelievedWords$Search" "BelievedWords$Search" "movers" "[I") ∈ TB := tb2 25 rfl rfl
theorem k334 : (Jvm.Cond.lays "BelievedWords$Search" "BelievedWords$Search" "walks" "[I") ∈ TB := tb2 27 rfl rfl
theorem k336 : (Jvm.Cond.lays "BelievedWords$Search" "BelievedWords$Search" "costs" "[I") ∈ TB := tb2 29 rfl rfl
theorem k338 : (Jvm.Cond.lays "BelievedWords$Search" "BelievedWords$Search" "firsts" "[I") ∈ TB := tb2 31 rfl rfl
theorem k340 : (Jvm.Cond.lays "BelievedWords$Search" "BelievedWords$Search" "moving" "I") ∈ TB := tb2 33 rfl rfl
theorem k342 : (Jvm.Cond.lays "BelievedWords$Search" "BelievedWords$Search" "facts" "I") ∈ TB := tb2 35 rfl rfl
theorem k344 : (Jvm.Cond.lays "BelievedWords$Search" "BelievedWords$Search" "nodes" "I") ∈ TB := tb2 37 rfl rfl
theorem k346 : (Jvm.Cond.lays "BelievedWords$Search" "BelievedWords$Search" "minding" "Z") ∈ TB := tb2 39 rfl rfl
theorem k348 : (Jvm.Cond.lays "BelievedWords$Search" "BelievedWords$Search" "byCost" "Z") ∈ TB := tb2 41 rfl rfl
theorem k350 : (Jvm.Cond.lays "BelievedWords$Search" "BelievedWords$Search" "walk" "I") ∈ TB := tb2 43 rfl rfl
theorem k352 : (Jvm.Cond.lays "BelievedWords$Search" "BelievedWords$Search" "farthest" "I") ∈ TB := tb2 45 rfl rfl
theorem k354 : (Jvm.Cond.lays "BelievedWords$Search" "BelievedWords$Search" "wantedSo" "I") ∈ TB := tb2 47 rfl rfl
theorem k356 : (Jvm.Cond.lays "BelievedWords$Search" "BelievedWords$Search" "wantedNot" "I") ∈ TB := tb2 49 rfl rfl
theorem k358 : (Jvm.Cond.lays "BelievedWords$Search" "BelievedWords$Search" "first" "I") ∈ TB := tb2 51 rfl rfl
theorem k364 : (Jvm.Cond.instanceMethod ({ cls := "BelievedWords$Foresight", name := "<init>", desc := "()V" } : Jvm.MethodName)) ∈ TB := tb2 57 rfl rfl
theorem k365 : (Jvm.Cond.code ({ cls := "BelievedWords$Foresight", name := "<init>", desc := "()V" } : Jvm.MethodName) prog_5_method_1_code (1 : Nat) (Option.none : Option Jvm.ClassFile.FieldType)) ∈ TB := tb2 58 rfl rfl
theorem k366 : (Jvm.Cond.methodLink "BelievedWords$Foresight" (3 : Nat) ({ cls := "java/lang/Object", name := "<init>", desc := "()V" } : Jvm.MethodName)) ∈ TB := tb2 59 rfl rfl
theorem k367 : (Jvm.Cond.fieldLink "BelievedWords$Foresight" (11 : Nat) "BelievedWords$Foresight" "ways" "[I") ∈ TB := tb2 60 rfl rfl
theorem k368 : (Jvm.Cond.fieldLink "BelievedWords$Foresight" (15 : Nat) "BelievedWords$Foresight" "firsts" "[I") ∈ TB := tb2 61 rfl rfl
theorem k369 : (Jvm.Cond.fieldLink "BelievedWords$Foresight" (18 : Nat) "BelievedWords$Foresight" "nextWays" "[I") ∈ TB := tb2 62 rfl rfl
theorem k370 : (Jvm.Cond.fieldLink "BelievedWords$Foresight" (21 : Nat) "BelievedWords$Foresight" "nextFirsts" "[I") ∈ TB := tb2 63 rfl rfl
theorem k371 : (Jvm.Cond.lays "BelievedWords$Foresight" "BelievedWords$Foresight" "ways" "[I") ∈ TB := tb2 64 rfl rfl
theorem k373 : (Jvm.Cond.lays "BelievedWords$Foresight" "BelievedWords$Foresight" "firsts" "[I") ∈ TB := tb2 66 rfl rfl
theorem k375 : (Jvm.Cond.lays "BelievedWords$Foresight" "BelievedWords$Foresight" "nextWays" "[I") ∈ TB := tb2 68 rfl rfl
theorem k377 : (Jvm.Cond.lays "BelievedWords$Foresight" "BelievedWords$Foresight" "nextFirsts" "[I") ∈ TB := tb2 70 rfl rfl
theorem k383 : (Jvm.Cond.instanceMethod ({ cls := "BelievedWords$Asks", name := "<init>", desc := "()V" } : Jvm.MethodName)) ∈ TB := tb2 76 rfl rfl
theorem k384 : (Jvm.Cond.code ({ cls := "BelievedWords$Asks", name := "<init>", desc := "()V" } : Jvm.MethodName) prog_3_method_1_code (1 : Nat) (Option.none : Option Jvm.ClassFile.FieldType)) ∈ TB := tb2 77 rfl rfl
theorem k385 : (Jvm.Cond.methodLink "BelievedWords$Asks" (3 : Nat) ({ cls := "java/lang/Object", name := "<init>", desc := "()V" } : Jvm.MethodName)) ∈ TB := tb2 78 rfl rfl
theorem k386 : (Jvm.Cond.fieldLink "BelievedWords$Asks" (9 : Nat) "BelievedWords$Asks" "trace" "[I") ∈ TB := tb2 79 rfl rfl
theorem k387 : (Jvm.Cond.fieldLink "BelievedWords$Asks" (18 : Nat) "BelievedWords$Asks" "left" "I") ∈ TB := tb2 80 rfl rfl
theorem k388 : (Jvm.Cond.laysFinal "BelievedWords$Asks" "BelievedWords$Asks" "trace" "[I") ∈ TB := tb2 81 rfl rfl
theorem k390 : (Jvm.Cond.lays "BelievedWords$Asks" "BelievedWords$Asks" "left" "I") ∈ TB := tb2 83 rfl rfl
theorem k395 : (Jvm.Cond.instanceMethod ({ cls := "BelievedWords$Image", name := "<init>", desc := "()V" } : Jvm.MethodName)) ∈ TB := tb2 88 rfl rfl
theorem k396 : (Jvm.Cond.code ({ cls := "BelievedWords$Image", name := "<init>", desc := "()V" } : Jvm.MethodName) prog_6_method_1_code (1 : Nat) (Option.none : Option Jvm.ClassFile.FieldType)) ∈ TB := tb2 89 rfl rfl
theorem k397 : (Jvm.Cond.methodLink "BelievedWords$Image" (1 : Nat) ({ cls := "java/lang/Object", name := "<init>", desc := "()V" } : Jvm.MethodName)) ∈ TB := tb2 90 rfl rfl
theorem k402 : (Jvm.Cond.fieldLink "BelievedWords$Image" (10 : Nat) "BelievedWords$Image" "law" "LBelievedWords$Law;") ∈ TB := tb2 95 rfl rfl
theorem k403 : (Jvm.Cond.fieldLink "BelievedWords" (294 : Nat) "BelievedWords$Image" "law" "LBelievedWords$Law;") ∈ TB := tb2 96 rfl rfl
theorem k404 : (Jvm.Cond.fieldLink "BelievedWords$Image" (19 : Nat) "BelievedWords$Image" "standing" "LBelievedWords$Standing;") ∈ TB := tb2 97 rfl rfl
theorem k405 : (Jvm.Cond.fieldLink "BelievedWords" (295 : Nat) "BelievedWords$Image" "standing" "LBelievedWords$Standing;") ∈ TB := tb2 98 rfl rfl
theorem k406 : (Jvm.Cond.fieldLink "BelievedWords$Image" (36 : Nat) "BelievedWords$Image" "kept" "Z") ∈ TB := tb2 99 rfl rfl
theorem k407 : (Jvm.Cond.fieldLink "BelievedWords" (290 : Nat) "BelievedWords$Image" "kept" "Z") ∈ TB := tb2 100 rfl rfl
theorem k408 : (Jvm.Cond.laysFinal "BelievedWords$Image" "BelievedWords$Image" "law" "LBelievedWords$Law;") ∈ TB := tb2 101 rfl rfl
theorem k410 : (Jvm.Cond.laysFinal "BelievedWords$Image" "BelievedWords$Image" "standing" "LBelievedWords$Standing;") ∈ TB := tb2 103 rfl rfl
theorem k412 : (Jvm.Cond.lays "BelievedWords$Image" "BelievedWords$Image" "kept" "Z") ∈ TB := tb2 105 rfl rfl
theorem k415 : (Jvm.Cond.fieldLink "BelievedWords" (10 : Nat) "BelievedWords" "rows" "LBelievedWords$Rows;") ∈ TB := tb2 108 rfl rfl
theorem k416 : (Jvm.Cond.fieldLink "BelievedWords" (19 : Nat) "BelievedWords" "tape" "LBelievedWords$Tape;") ∈ TB := tb2 109 rfl rfl
theorem k417 : (Jvm.Cond.fieldLink "BelievedWords" (26 : Nat) "BelievedWords" "bench" "LBelievedWords$Court;") ∈ TB := tb2 110 rfl rfl
theorem k418 : (Jvm.Cond.fieldLink "BelievedWords" (33 : Nat) "BelievedWords" "acts" "LBelievedWords$Acts;") ∈ TB := tb2 111 rfl rfl
theorem k419 : (Jvm.Cond.fieldLink "BelievedWords" (39 : Nat) "BelievedWords" "images" "[LBelievedWords$Image;") ∈ TB := tb2 112 rfl rfl
theorem k420 : (Jvm.Cond.fieldLink "BelievedWords" (46 : Nat) "BelievedWords" "search" "LBelievedWords$Search;") ∈ TB := tb2 113 rfl rfl
theorem k421 : (Jvm.Cond.fieldLink "BelievedWords" (53 : Nat) "BelievedWords" "foresight" "LBelievedWords$Foresight;") ∈ TB := tb2 114 rfl rfl
theorem k422 : (Jvm.Cond.fieldLink "BelievedWords" (60 : Nat) "BelievedWords" "asks" "LBelievedWords$Asks;") ∈ TB := tb2 115 rfl rfl
theorem k423 : (Jvm.Cond.fieldLink "BelievedWords" (272 : Nat) "BelievedWords" "finding" "I") ∈ TB := tb2 116 rfl rfl
theorem k424 : (Jvm.Cond.laysFinal "BelievedWords" "BelievedWords" "rows" "LBelievedWords$Rows;") ∈ TB := tb2 117 rfl rfl
theorem k426 : (Jvm.Cond.laysFinal "BelievedWords" "BelievedWords" "tape" "LBelievedWords$Tape;") ∈ TB := tb2 119 rfl rfl
theorem k428 : (Jvm.Cond.laysFinal "BelievedWords" "BelievedWords" "bench" "LBelievedWords$Court;") ∈ TB := tb2 121 rfl rfl
theorem k430 : (Jvm.Cond.laysFinal "BelievedWords" "BelievedWords" "acts" "LBelievedWords$Acts;") ∈ TB := tb2 123 rfl rfl
theorem k432 : (Jvm.Cond.laysFinal "BelievedWords" "BelievedWords" "images" "[LBelievedWords$Image;") ∈ TB := tb2 125 rfl rfl
theorem k434 : (Jvm.Cond.laysFinal "BelievedWords" "BelievedWords" "search" "LBelievedWords$Search;") ∈ TB := tb2 127 rfl rfl
theorem k436 : (Jvm.Cond.laysFinal "BelievedWords" "BelievedWords" "foresight" "LBelievedWords$Foresight;") ∈ TB := tb2 129 rfl rfl
theorem k438 : (Jvm.Cond.laysFinal "BelievedWords" "BelievedWords" "asks" "LBelievedWords$Asks;") ∈ TB := tb2 131 rfl rfl
theorem k440 : (Jvm.Cond.lays "BelievedWords" "BelievedWords" "finding" "I") ∈ TB := tb2 133 rfl rfl
theorem k443 : (Jvm.Cond.methodLink "BelievedWordsLaw" (13 : Nat) ({ cls := "BelievedWords", name := "row", desc := "(III)I" } : Jvm.MethodName)) ∈ TB := tb2 136 rfl rfl
theorem k444 : (Jvm.Cond.instanceMethod ({ cls := "BelievedWords", name := "row", desc := "(III)I" } : Jvm.MethodName)) ∈ TB := tb2 137 rfl rfl
theorem k445 : (Jvm.Cond.selects "BelievedWords" ({ cls := "BelievedWords", name := "row", desc := "(III)I" } : Jvm.MethodName) ({ cls := "BelievedWords", name := "row", desc := "(III)I" } : Jvm.MethodName)) ∈ TB := tb2 138 rfl rfl
theorem k446 : (Jvm.Cond.code ({ cls := "BelievedWords", name := "row", desc := "(III)I" } : Jvm.MethodName) prog_1_method_2_code (4 : Nat) (Option.some Jvm.ClassFile.FieldType.int)) ∈ TB := tb2 139 rfl rfl
theorem k447 : (Jvm.Cond.methodLink "BelievedWords" (65 : Nat) ({ cls := "BelievedWords", name := "isRow", desc := "(I)Z" } : Jvm.MethodName)) ∈ TB := tb2 140 rfl rfl
theorem k448 : (Jvm.Cond.static ({ cls := "BelievedWords", name := "isRow", desc := "(I)Z" } : Jvm.MethodName)) ∈ TB := tb2 141 rfl rfl
theorem k449 : (Jvm.Cond.code ({ cls := "BelievedWords", name := "isRow", desc := "(I)Z" } : Jvm.MethodName) prog_1_method_38_code (1 : Nat) (Option.some Jvm.ClassFile.FieldType.boolean)) ∈ TB := tb2 142 rfl rfl
theorem k450 : (Jvm.Cond.constant "BelievedWords" (69 : Nat) (-1000001 : Int32)) ∈ TB := tb2 143 rfl rfl
theorem k451 : (Jvm.Cond.methodLink "BelievedWords" (70 : Nat) ({ cls := "BelievedWords", name := "found", desc := "(I)I" } : Jvm.MethodName)) ∈ TB := tb2 144 rfl rfl
theorem k453 : (Jvm.Cond.instanceMethod ({ cls := "BelievedWords", name := "found", desc := "(I)I" } : Jvm.MethodName)) ∈ TB := tb2 146 rfl rfl
theorem k454 : (Jvm.Cond.code ({ cls := "BelievedWords", name := "found", desc := "(I)I" } : Jvm.MethodName) prog_1_method_35_code (2 : Nat) (Option.some Jvm.ClassFile.FieldType.int)) ∈ TB := tb2 147 rfl rfl
theorem k455 : (Jvm.Cond.constant "BelievedWords" (326 : Nat) (-1000010 : Int32)) ∈ TB := tb2 148 rfl rfl
theorem k456 : (Jvm.Cond.methodLink "BelievedWords" (74 : Nat) ({ cls := "BelievedWords$Rows", name := "lay", desc := "(III)V" } : Jvm.MethodName)) ∈ TB := tb2 149 rfl rfl
theorem k457 : (Jvm.Cond.instanceMethod ({ cls := "BelievedWords$Rows", name := "lay", desc := "(III)V" } : Jvm.MethodName)) ∈ TB := tb2 150 rfl rfl
theorem k458 : (Jvm.Cond.selects "BelievedWords$Rows" ({ cls := "BelievedWords$Rows", name := "lay", desc := "(III)V" } : Jvm.MethodName) ({ cls := "BelievedWords$Rows", name := "lay", desc := "(III)V" } : Jvm.MethodName)) ∈ TB := tb2 151 rfl rfl
theorem k459 : (Jvm.Cond.code ({ cls := "BelievedWords$Rows", name := "lay", desc := "(III)V" } : Jvm.MethodName) prog_8_method_5_code (4 : Nat) (Option.none : Option Jvm.ClassFile.FieldType)) ∈ TB := tb2 152 rfl rfl
theorem k460 : (Jvm.Cond.methodLink "BelievedWords" (78 : Nat) ({ cls := "BelievedWords", name := "fine", desc := "(I)I" } : Jvm.MethodName)) ∈ TB := tb2 153 rfl rfl
theorem k462 : (Jvm.Cond.instanceMethod ({ cls := "BelievedWords", name := "fine", desc := "(I)I" } : Jvm.MethodName)) ∈ TB := tb2 155 rfl rfl
theorem k463 : (Jvm.Cond.code ({ cls := "BelievedWords", name := "fine", desc := "(I)I" } : Jvm.MethodName) prog_1_method_36_code (2 : Nat) (Option.some Jvm.ClassFile.FieldType.int)) ∈ TB := tb2 156 rfl rfl
theorem k464 : (Jvm.Cond.methodLink "BelievedWordsLaw" (18 : Nat) ({ cls := "BelievedWords", name := "set", desc := "(III)I" } : Jvm.MethodName)) ∈ TB := tb2 157 rfl rfl
theorem k465 : (Jvm.Cond.instanceMethod ({ cls := "BelievedWords", name := "set", desc := "(III)I" } : Jvm.MethodName)) ∈ TB := tb2 158 rfl rfl
theorem k466 : (Jvm.Cond.selects "BelievedWords" ({ cls := "BelievedWords", name := "set", desc := "(III)I" } : Jvm.MethodName) ({ cls := "BelievedWords", name := "set", desc := "(III)I" } : Jvm.MethodName)) ∈ TB := tb2 159 rfl rfl
theorem k467 : (Jvm.Cond.code ({ cls := "BelievedWords", name := "set", desc := "(III)I" } : Jvm.MethodName) prog_1_method_3_code (5 : Nat) (Option.some Jvm.ClassFile.FieldType.int)) ∈ TB := tb2 160 rfl rfl
theorem k468 : (Jvm.Cond.methodLink "BelievedWords" (81 : Nat) ({ cls := "BelievedWords$Rows", name := "lack", desc := "(III)I" } : Jvm.MethodName)) ∈ TB := tb2 161 rfl rfl
theorem k469 : (Jvm.Cond.instanceMethod ({ cls := "BelievedWords$Rows", name := "lack", desc := "(III)I" } : Jvm.MethodName)) ∈ TB := tb2 162 rfl rfl
theorem k470 : (Jvm.Cond.selects "BelievedWords$Rows" ({ cls := "BelievedWords$Rows", name := "lack", desc := "(III)I" } : Jvm.MethodName) ({ cls := "BelievedWords$Rows", name := "lack", desc := "(III)I" } : Jvm.MethodName)) ∈ TB := tb2 163 rfl rfl
theorem k471 : (Jvm.Cond.code ({ cls := "BelievedWords$Rows", name := "lack", desc := "(III)I" } : Jvm.MethodName) prog_8_method_4_code (4 : Nat) (Option.some Jvm.ClassFile.FieldType.int)) ∈ TB := tb2 164 rfl rfl
theorem k472 : (Jvm.Cond.methodLink "BelievedWords$Rows" (29 : Nat) ({ cls := "BelievedWords$Rows", name := "isMissing", desc := "(I)Z" } : Jvm.MethodName)) ∈ TB := tb2 165 rfl rfl
theorem k473 : (Jvm.Cond.instanceMethod ({ cls := "BelievedWords$Rows", name := "isMissing", desc := "(I)Z" } : Jvm.MethodName)) ∈ TB := tb2 166 rfl rfl
theorem k474 : (Jvm.Cond.selects "BelievedWords$Rows" ({ cls := "BelievedWords$Rows", name := "isMissing", desc := "(I)Z" } : Jvm.MethodName) ({ cls := "BelievedWords$Rows", name := "isMissing", desc := "(I)Z" } : Jvm.MethodName)) ∈ TB := tb2 167 rfl rfl
theorem k475 : (Jvm.Cond.code ({ cls := "BelievedWords$Rows", name := "isMissing", desc := "(I)Z" } : Jvm.MethodName) prog_8_method_2_code (2 : Nat) (Option.some Jvm.ClassFile.FieldType.boolean)) ∈ TB := tb2 168 rfl rfl
theorem k476 : (Jvm.Cond.methodLink "BelievedWords" (85 : Nat) ({ cls := "BelievedWords$Rows", name := "put", desc := "(III)I" } : Jvm.MethodName)) ∈ TB := tb2 169 rfl rfl
theorem k477 : (Jvm.Cond.instanceMethod ({ cls := "BelievedWords$Rows", name := "put", desc := "(III)I" } : Jvm.MethodName)) ∈ TB := tb2 170 rfl rfl
theorem k478 : (Jvm.Cond.selects "BelievedWords$Rows" ({ cls := "BelievedWords$Rows", name := "put", desc := "(III)I" } : Jvm.MethodName) ({ cls := "BelievedWords$Rows", name := "put", desc := "(III)I" } : Jvm.MethodName)) ∈ TB := tb2 171 rfl rfl
theorem k479 : (Jvm.Cond.code ({ cls := "BelievedWords$Rows", name := "put", desc := "(III)I" } : Jvm.MethodName) prog_8_method_6_code (4 : Nat) (Option.some Jvm.ClassFile.FieldType.int)) ∈ TB := tb2 172 rfl rfl
theorem k480 : (Jvm.Cond.methodLink "BelievedWordsLaw" (22 : Nat) ({ cls := "BelievedWords", name := "copy", desc := "(IIIII)I" } : Jvm.MethodName)) ∈ TB := tb2 173 rfl rfl
theorem k481 : (Jvm.Cond.instanceMethod ({ cls := "BelievedWords", name := "copy", desc := "(IIIII)I" } : Jvm.MethodName)) ∈ TB := tb2 174 rfl rfl
theorem k482 : (Jvm.Cond.selects "BelievedWords" ({ cls := "BelievedWords", name := "copy", desc := "(IIIII)I" } : Jvm.MethodName) ({ cls := "BelievedWords", name := "copy", desc := "(IIIII)I" } : Jvm.MethodName)) ∈ TB := tb2 175 rfl rfl
theorem k483 : (Jvm.Cond.code ({ cls := "BelievedWords", name := "copy", desc := "(IIIII)I" } : Jvm.MethodName) prog_1_method_4_code (6 : Nat) (Option.some Jvm.ClassFile.FieldType.int)) ∈ TB := tb2 176 rfl rfl
theorem k484 : (Jvm.Cond.methodLink "BelievedWords" (88 : Nat) ({ cls := "BelievedWords$Rows", name := "isMissing", desc := "(I)Z" } : Jvm.MethodName)) ∈ TB := tb2 177 rfl rfl
theorem k485 : (Jvm.Cond.methodLink "BelievedWords" (91 : Nat) ({ cls := "BelievedWords$Rows", name := "laneOf", desc := "(I)I" } : Jvm.MethodName)) ∈ TB := tb2 178 rfl rfl
theorem k486 : (Jvm.Cond.instanceMethod ({ cls := "BelievedWords$Rows", name := "laneOf", desc := "(I)I" } : Jvm.MethodName)) ∈ TB := tb2 179 rfl rfl
theorem k487 : (Jvm.Cond.selects "BelievedWords$Rows" ({ cls := "BelievedWords$Rows", name := "laneOf", desc := "(I)I" } : Jvm.MethodName) ({ cls := "BelievedWords$Rows", name := "laneOf", desc := "(I)I" } : Jvm.MethodName)) ∈ TB := tb2 180 rfl rfl
theorem k488 : (Jvm.Cond.code ({ cls := "BelievedWords$Rows", name := "laneOf", desc := "(I)I" } : Jvm.MethodName) prog_8_method_3_code (2 : Nat) (Option.some Jvm.ClassFile.FieldType.int)) ∈ TB := tb2 181 rfl rfl
theorem k489 : (Jvm.Cond.methodLink "BelievedWords" (94 : Nat) ({ cls := "BelievedWords$Rows", name := "carry", desc := "(IIIII)V" } : Jvm.MethodName)) ∈ TB := tb2 182 rfl rfl
theorem k490 : (Jvm.Cond.instanceMethod ({ cls := "BelievedWords$Rows", name := "carry", desc := "(IIIII)V" } : Jvm.MethodName)) ∈ TB := tb2 183 rfl rfl
theorem k491 : (Jvm.Cond.selects "BelievedWords$Rows" ({ cls := "BelievedWords$Rows", name := "carry", desc := "(IIIII)V" } : Jvm.MethodName) ({ cls := "BelievedWords$Rows", name := "carry", desc := "(IIIII)V" } : Jvm.MethodName)) ∈ TB := tb2 184 rfl rfl
theorem k492 : (Jvm.Cond.code ({ cls := "BelievedWords$Rows", name := "carry", desc := "(IIIII)V" } : Jvm.MethodName) prog_8_method_7_code (6 : Nat) (Option.none : Option Jvm.ClassFile.FieldType)) ∈ TB := tb2 185 rfl rfl
theorem k493 : (Jvm.Cond.methodLink "BelievedWords$Rows" (33 : Nat) ({ cls := "java/lang/System", name := "arraycopy", desc := "(Ljava/lang/Object;ILjava/lang/Object;II)V" } : Jvm.MethodName)) ∈ TB := tb2 186 rfl rfl
theorem k494 : (Jvm.Cond.static ({ cls := "java/lang/System", name := "arraycopy", desc := "(Ljava/lang/Object;ILjava/lang/Object;II)V" } : Jvm.MethodName)) ∈ TB := tb2 187 rfl rfl
theorem k495 : (Jvm.Cond.native ({ cls := "java/lang/System", name := "arraycopy", desc := "(Ljava/lang/Object;ILjava/lang/Object;II)V" } : Jvm.MethodName)) ∈ TB := tb2 188 rfl rfl
theorem k496 : (Jvm.Cond.methodLink "BelievedWordsLaw" (27 : Nat) ({ cls := "BelievedWords", name := "drop", desc := "(I)I" } : Jvm.MethodName)) ∈ TB := tb2 189 rfl rfl
theorem k497 : (Jvm.Cond.instanceMethod ({ cls := "BelievedWords", name := "drop", desc := "(I)I" } : Jvm.MethodName)) ∈ TB := tb2 190 rfl rfl
theorem k498 : (Jvm.Cond.selects "BelievedWords" ({ cls := "BelievedWords", name := "drop", desc := "(I)I" } : Jvm.MethodName) ({ cls := "BelievedWords", name := "drop", desc := "(I)I" } : Jvm.MethodName)) ∈ TB := tb2 191 rfl rfl
theorem k499 : (Jvm.Cond.code ({ cls := "BelievedWords", name := "drop", desc := "(I)I" } : Jvm.MethodName) prog_1_method_5_code (2 : Nat) (Option.some Jvm.ClassFile.FieldType.int)) ∈ TB := tb2 192 rfl rfl
theorem k500 : (Jvm.Cond.methodLink "BelievedWords" (98 : Nat) ({ cls := "BelievedWords$Rows", name := "remove", desc := "(I)I" } : Jvm.MethodName)) ∈ TB := tb2 193 rfl rfl
theorem k501 : (Jvm.Cond.instanceMethod ({ cls := "BelievedWords$Rows", name := "remove", desc := "(I)I" } : Jvm.MethodName)) ∈ TB := tb2 194 rfl rfl
theorem k502 : (Jvm.Cond.selects "BelievedWords$Rows" ({ cls := "BelievedWords$Rows", name := "remove", desc := "(I)I" } : Jvm.MethodName) ({ cls := "BelievedWords$Rows", name := "remove", desc := "(I)I" } : Jvm.MethodName)) ∈ TB := tb2 195 rfl rfl
theorem k503 : (Jvm.Cond.code ({ cls := "BelievedWords$Rows", name := "remove", desc := "(I)I" } : Jvm.MethodName) prog_8_method_8_code (3 : Nat) (Option.some Jvm.ClassFile.FieldType.int)) ∈ TB := tb2 196 rfl rfl
theorem k504 : (Jvm.Cond.methodLink "BelievedWordsLaw" (32 : Nat) ({ cls := "BelievedWords", name := "feed", desc := "(I)I" } : Jvm.MethodName)) ∈ TB := tb2 197 rfl rfl
theorem k505 : (Jvm.Cond.instanceMethod ({ cls := "BelievedWords", name := "feed", desc := "(I)I" } : Jvm.MethodName)) ∈ TB := tb2 198 rfl rfl
theorem k506 : (Jvm.Cond.selects "BelievedWords" ({ cls := "BelievedWords", name := "feed", desc := "(I)I" } : Jvm.MethodName) ({ cls := "BelievedWords", name := "feed", desc := "(I)I" } : Jvm.MethodName)) ∈ TB := tb2 199 rfl rfl
theorem k507 : (Jvm.Cond.code ({ cls := "BelievedWords", name := "feed", desc := "(I)I" } : Jvm.MethodName) prog_1_method_6_code (2 : Nat) (Option.some Jvm.ClassFile.FieldType.int)) ∈ TB := tb2 200 rfl rfl
theorem k508 : (Jvm.Cond.methodLink "BelievedWords" (101 : Nat) ({ cls := "BelievedWords$Tape", name := "add", desc := "(I)I" } : Jvm.MethodName)) ∈ TB := tb2 201 rfl rfl
theorem k509 : (Jvm.Cond.instanceMethod ({ cls := "BelievedWords$Tape", name := "add", desc := "(I)I" } : Jvm.MethodName)) ∈ TB := tb2 202 rfl rfl
theorem k510 : (Jvm.Cond.selects "BelievedWords$Tape" ({ cls := "BelievedWords$Tape", name := "add", desc := "(I)I" } : Jvm.MethodName) ({ cls := "BelievedWords$Tape", name := "add", desc := "(I)I" } : Jvm.MethodName)) ∈ TB := tb2 203 rfl rfl
theorem k511 : (Jvm.Cond.code ({ cls := "BelievedWords$Tape", name := "add", desc := "(I)I" } : Jvm.MethodName) prog_11_method_2_code (2 : Nat) (Option.some Jvm.ClassFile.FieldType.int)) ∈ TB := tb2 204 rfl rfl
theorem k512 : (Jvm.Cond.constant "BelievedWords$Tape" (26 : Nat) (-1000003 : Int32)) ∈ TB := tb2 205 rfl rfl
theorem k513 : (Jvm.Cond.methodLink "BelievedWordsLaw" (36 : Nat) ({ cls := "BelievedWords", name := "court", desc := "()I" } : Jvm.MethodName)) ∈ TB := tb2 206 rfl rfl
theorem k514 : (Jvm.Cond.instanceMethod ({ cls := "BelievedWords", name := "court", desc := "()I" } : Jvm.MethodName)) ∈ TB := tb2 207 rfl rfl
theorem k515 : (Jvm.Cond.selects "BelievedWords" ({ cls := "BelievedWords", name := "court", desc := "()I" } : Jvm.MethodName) ({ cls := "BelievedWords", name := "court", desc := "()I" } : Jvm.MethodName)) ∈ TB := tb2 208 rfl rfl
theorem k516 : (Jvm.Cond.code ({ cls := "BelievedWords", name := "court", desc := "()I" } : Jvm.MethodName) prog_1_method_7_code (2 : Nat) (Option.some Jvm.ClassFile.FieldType.int)) ∈ TB := tb2 209 rfl rfl
theorem k517 : (Jvm.Cond.methodLink "BelievedWords" (104 : Nat) ({ cls := "BelievedWords$Tape", name := "read", desc := "()Z" } : Jvm.MethodName)) ∈ TB := tb2 210 rfl rfl
theorem k518 : (Jvm.Cond.instanceMethod ({ cls := "BelievedWords$Tape", name := "read", desc := "()Z" } : Jvm.MethodName)) ∈ TB := tb2 211 rfl rfl
theorem k519 : (Jvm.Cond.selects "BelievedWords$Tape" ({ cls := "BelievedWords$Tape", name := "read", desc := "()Z" } : Jvm.MethodName) ({ cls := "BelievedWords$Tape", name := "read", desc := "()Z" } : Jvm.MethodName)) ∈ TB := tb2 212 rfl rfl
theorem k520 : (Jvm.Cond.code ({ cls := "BelievedWords$Tape", name := "read", desc := "()Z" } : Jvm.MethodName) prog_11_method_6_code (1 : Nat) (Option.some Jvm.ClassFile.FieldType.boolean)) ∈ TB := tb2 213 rfl rfl
theorem k521 : (Jvm.Cond.methodLink "BelievedWords$Tape" (33 : Nat) ({ cls := "BelievedWords$Law", name := "clear", desc := "()V" } : Jvm.MethodName)) ∈ TB := tb2 214 rfl rfl
theorem k522 : (Jvm.Cond.instanceMethod ({ cls := "BelievedWords$Law", name := "clear", desc := "()V" } : Jvm.MethodName)) ∈ TB := tb2 215 rfl rfl
theorem k523 : (Jvm.Cond.selects "BelievedWords$Law" ({ cls := "BelievedWords$Law", name := "clear", desc := "()V" } : Jvm.MethodName) ({ cls := "BelievedWords$Law", name := "clear", desc := "()V" } : Jvm.MethodName)) ∈ TB := tb2 216 rfl rfl
theorem k524 : (Jvm.Cond.code ({ cls := "BelievedWords$Law", name := "clear", desc := "()V" } : Jvm.MethodName) prog_7_method_2_code (1 : Nat) (Option.none : Option Jvm.ClassFile.FieldType)) ∈ TB := tb2 217 rfl rfl
theorem k525 : (Jvm.Cond.methodLink "BelievedWords$Tape" (39 : Nat) ({ cls := "BelievedWords$Tape", name := "readLaw", desc := "()Z" } : Jvm.MethodName)) ∈ TB := tb2 218 rfl rfl
theorem k527 : (Jvm.Cond.instanceMethod ({ cls := "BelievedWords$Tape", name := "readLaw", desc := "()Z" } : Jvm.MethodName)) ∈ TB := tb2 220 rfl rfl
theorem k528 : (Jvm.Cond.code ({ cls := "BelievedWords$Tape", name := "readLaw", desc := "()Z" } : Jvm.MethodName) prog_11_method_7_code (1 : Nat) (Option.some Jvm.ClassFile.FieldType.boolean)) ∈ TB := tb2 221 rfl rfl
theorem k529 : (Jvm.Cond.methodLink "BelievedWords$Tape" (49 : Nat) ({ cls := "BelievedWords$Tape", name := "takes", desc := "(I)Z" } : Jvm.MethodName)) ∈ TB := tb2 222 rfl rfl
theorem k531 : (Jvm.Cond.instanceMethod ({ cls := "BelievedWords$Tape", name := "takes", desc := "(I)Z" } : Jvm.MethodName)) ∈ TB := tb2 224 rfl rfl
theorem k532 : (Jvm.Cond.code ({ cls := "BelievedWords$Tape", name := "takes", desc := "(I)Z" } : Jvm.MethodName) prog_11_method_12_code (2 : Nat) (Option.some Jvm.ClassFile.FieldType.boolean)) ∈ TB := tb2 225 rfl rfl
theorem k533 : (Jvm.Cond.methodLink "BelievedWords$Tape" (69 : Nat) ({ cls := "BelievedWords$Tape", name := "step", desc := "()V" } : Jvm.MethodName)) ∈ TB := tb2 226 rfl rfl
theorem k535 : (Jvm.Cond.instanceMethod ({ cls := "BelievedWords$Tape", name := "step", desc := "()V" } : Jvm.MethodName)) ∈ TB := tb2 228 rfl rfl
theorem k536 : (Jvm.Cond.code ({ cls := "BelievedWords$Tape", name := "step", desc := "()V" } : Jvm.MethodName) prog_11_method_15_code (2 : Nat) (Option.none : Option Jvm.ClassFile.FieldType)) ∈ TB := tb2 229 rfl rfl
theorem k537 : (Jvm.Cond.methodLink "BelievedWords$Tape" (103 : Nat) ({ cls := "BelievedWords$Tape", name := "stepOverFigures", desc := "()V" } : Jvm.MethodName)) ∈ TB := tb2 230 rfl rfl
theorem k539 : (Jvm.Cond.instanceMethod ({ cls := "BelievedWords$Tape", name := "stepOverFigures", desc := "()V" } : Jvm.MethodName)) ∈ TB := tb2 232 rfl rfl
theorem k540 : (Jvm.Cond.code ({ cls := "BelievedWords$Tape", name := "stepOverFigures", desc := "()V" } : Jvm.MethodName) prog_11_method_16_code (3 : Nat) (Option.none : Option Jvm.ClassFile.FieldType)) ∈ TB := tb2 233 rfl rfl
theorem k541 : (Jvm.Cond.methodLink "BelievedWords$Tape" (78 : Nat) ({ cls := "BelievedWords$Tape", name := "fails", desc := "(I)Z" } : Jvm.MethodName)) ∈ TB := tb2 234 rfl rfl
theorem k543 : (Jvm.Cond.instanceMethod ({ cls := "BelievedWords$Tape", name := "fails", desc := "(I)Z" } : Jvm.MethodName)) ∈ TB := tb2 236 rfl rfl
theorem k544 : (Jvm.Cond.code ({ cls := "BelievedWords$Tape", name := "fails", desc := "(I)Z" } : Jvm.MethodName) prog_11_method_14_code (2 : Nat) (Option.some Jvm.ClassFile.FieldType.boolean)) ∈ TB := tb2 237 rfl rfl
theorem k545 : (Jvm.Cond.methodLink "BelievedWords$Tape" (53 : Nat) ({ cls := "BelievedWords$Tape", name := "takesNumber", desc := "(II)Z" } : Jvm.MethodName)) ∈ TB := tb2 238 rfl rfl
theorem k547 : (Jvm.Cond.instanceMethod ({ cls := "BelievedWords$Tape", name := "takesNumber", desc := "(II)Z" } : Jvm.MethodName)) ∈ TB := tb3 0 rfl rfl
theorem k548 : (Jvm.Cond.code ({ cls := "BelievedWords$Tape", name := "takesNumber", desc := "(II)Z" } : Jvm.MethodName) prog_11_method_13_code (3 : Nat) (Option.some Jvm.ClassFile.FieldType.boolean)) ∈ TB := tb3 1 rfl rfl
theorem k549 : (Jvm.Cond.methodLink "BelievedWords$Tape" (43 : Nat) ({ cls := "BelievedWords$Tape", name := "readRules", desc := "()Z" } : Jvm.MethodName)) ∈ TB := tb3 2 rfl rfl
theorem k551 : (Jvm.Cond.instanceMethod ({ cls := "BelievedWords$Tape", name := "readRules", desc := "()Z" } : Jvm.MethodName)) ∈ TB := tb3 4 rfl rfl
theorem k552 : (Jvm.Cond.code ({ cls := "BelievedWords$Tape", name := "readRules", desc := "()Z" } : Jvm.MethodName) prog_11_method_8_code (2 : Nat) (Option.some Jvm.ClassFile.FieldType.boolean)) ∈ TB := tb3 5 rfl rfl
theorem k553 : (Jvm.Cond.methodLink "BelievedWords$Tape" (81 : Nat) ({ cls := "BelievedWords$Tape", name := "readRule", desc := "(I)Z" } : Jvm.MethodName)) ∈ TB := tb3 6 rfl rfl
theorem k555 : (Jvm.Cond.instanceMethod ({ cls := "BelievedWords$Tape", name := "readRule", desc := "(I)Z" } : Jvm.MethodName)) ∈ TB := tb3 8 rfl rfl
theorem k556 : (Jvm.Cond.code ({ cls := "BelievedWords$Tape", name := "readRule", desc := "(I)Z" } : Jvm.MethodName) prog_11_method_9_code (3 : Nat) (Option.some Jvm.ClassFile.FieldType.boolean)) ∈ TB := tb3 9 rfl rfl
theorem k557 : (Jvm.Cond.methodLink "BelievedWords$Tape" (84 : Nat) ({ cls := "BelievedWords$Law", name := "hasRule", desc := "(III)Z" } : Jvm.MethodName)) ∈ TB := tb3 10 rfl rfl
theorem k558 : (Jvm.Cond.instanceMethod ({ cls := "BelievedWords$Law", name := "hasRule", desc := "(III)Z" } : Jvm.MethodName)) ∈ TB := tb3 11 rfl rfl
theorem k559 : (Jvm.Cond.selects "BelievedWords$Law" ({ cls := "BelievedWords$Law", name := "hasRule", desc := "(III)Z" } : Jvm.MethodName) ({ cls := "BelievedWords$Law", name := "hasRule", desc := "(III)Z" } : Jvm.MethodName)) ∈ TB := tb3 12 rfl rfl
theorem k560 : (Jvm.Cond.code ({ cls := "BelievedWords$Law", name := "hasRule", desc := "(III)Z" } : Jvm.MethodName) prog_7_method_4_code (5 : Nat) (Option.some Jvm.ClassFile.FieldType.boolean)) ∈ TB := tb3 13 rfl rfl
theorem k561 : (Jvm.Cond.methodLink "BelievedWords$Tape" (88 : Nat) ({ cls := "BelievedWords$Law", name := "addRule", desc := "(III)V" } : Jvm.MethodName)) ∈ TB := tb3 14 rfl rfl
theorem k562 : (Jvm.Cond.instanceMethod ({ cls := "BelievedWords$Law", name := "addRule", desc := "(III)V" } : Jvm.MethodName)) ∈ TB := tb3 15 rfl rfl
theorem k563 : (Jvm.Cond.selects "BelievedWords$Law" ({ cls := "BelievedWords$Law", name := "addRule", desc := "(III)V" } : Jvm.MethodName) ({ cls := "BelievedWords$Law", name := "addRule", desc := "(III)V" } : Jvm.MethodName)) ∈ TB := tb3 16 rfl rfl
theorem k564 : (Jvm.Cond.code ({ cls := "BelievedWords$Law", name := "addRule", desc := "(III)V" } : Jvm.MethodName) prog_7_method_5_code (4 : Nat) (Option.none : Option Jvm.ClassFile.FieldType)) ∈ TB := tb3 17 rfl rfl
theorem k565 : (Jvm.Cond.methodLink "BelievedWords$Tape" (46 : Nat) ({ cls := "BelievedWords$Tape", name := "readPeople", desc := "()Z" } : Jvm.MethodName)) ∈ TB := tb3 18 rfl rfl
theorem k567 : (Jvm.Cond.instanceMethod ({ cls := "BelievedWords$Tape", name := "readPeople", desc := "()Z" } : Jvm.MethodName)) ∈ TB := tb3 20 rfl rfl
theorem k568 : (Jvm.Cond.code ({ cls := "BelievedWords$Tape", name := "readPeople", desc := "()Z" } : Jvm.MethodName) prog_11_method_10_code (3 : Nat) (Option.some Jvm.ClassFile.FieldType.boolean)) ∈ TB := tb3 21 rfl rfl
theorem k569 : (Jvm.Cond.methodLink "BelievedWords$Tape" (92 : Nat) ({ cls := "BelievedWords$Tape", name := "kindBy", desc := "(I)I" } : Jvm.MethodName)) ∈ TB := tb3 22 rfl rfl
theorem k570 : (Jvm.Cond.static ({ cls := "BelievedWords$Tape", name := "kindBy", desc := "(I)I" } : Jvm.MethodName)) ∈ TB := tb3 23 rfl rfl
theorem k571 : (Jvm.Cond.code ({ cls := "BelievedWords$Tape", name := "kindBy", desc := "(I)I" } : Jvm.MethodName) prog_11_method_11_code (1 : Nat) (Option.some Jvm.ClassFile.FieldType.int)) ∈ TB := tb3 24 rfl rfl
theorem k572 : (Jvm.Cond.methodLink "BelievedWords$Tape" (96 : Nat) ({ cls := "BelievedWords$Law", name := "addPerson", desc := "(I)V" } : Jvm.MethodName)) ∈ TB := tb3 25 rfl rfl
theorem k573 : (Jvm.Cond.instanceMethod ({ cls := "BelievedWords$Law", name := "addPerson", desc := "(I)V" } : Jvm.MethodName)) ∈ TB := tb3 26 rfl rfl
theorem k574 : (Jvm.Cond.selects "BelievedWords$Law" ({ cls := "BelievedWords$Law", name := "addPerson", desc := "(I)V" } : Jvm.MethodName) ({ cls := "BelievedWords$Law", name := "addPerson", desc := "(I)V" } : Jvm.MethodName)) ∈ TB := tb3 27 rfl rfl
theorem k575 : (Jvm.Cond.code ({ cls := "BelievedWords$Law", name := "addPerson", desc := "(I)V" } : Jvm.MethodName) prog_7_method_6_code (2 : Nat) (Option.none : Option Jvm.ClassFile.FieldType)) ∈ TB := tb3 28 rfl rfl
theorem k576 : (Jvm.Cond.methodLink "BelievedWords" (108 : Nat) ({ cls := "BelievedWords$Tape", name := "wipe", desc := "()V" } : Jvm.MethodName)) ∈ TB := tb3 29 rfl rfl
theorem k577 : (Jvm.Cond.instanceMethod ({ cls := "BelievedWords$Tape", name := "wipe", desc := "()V" } : Jvm.MethodName)) ∈ TB := tb3 30 rfl rfl
theorem k578 : (Jvm.Cond.selects "BelievedWords$Tape" ({ cls := "BelievedWords$Tape", name := "wipe", desc := "()V" } : Jvm.MethodName) ({ cls := "BelievedWords$Tape", name := "wipe", desc := "()V" } : Jvm.MethodName)) ∈ TB := tb3 31 rfl rfl
theorem k579 : (Jvm.Cond.code ({ cls := "BelievedWords$Tape", name := "wipe", desc := "()V" } : Jvm.MethodName) prog_11_method_3_code (1 : Nat) (Option.none : Option Jvm.ClassFile.FieldType)) ∈ TB := tb3 32 rfl rfl
theorem k580 : (Jvm.Cond.constant "BelievedWords" (111 : Nat) (-1000100 : Int32)) ∈ TB := tb3 33 rfl rfl
theorem k581 : (Jvm.Cond.methodLink "BelievedWords" (112 : Nat) ({ cls := "BelievedWords$Tape", name := "faultPlace", desc := "()I" } : Jvm.MethodName)) ∈ TB := tb3 34 rfl rfl
theorem k582 : (Jvm.Cond.instanceMethod ({ cls := "BelievedWords$Tape", name := "faultPlace", desc := "()I" } : Jvm.MethodName)) ∈ TB := tb3 35 rfl rfl
theorem k583 : (Jvm.Cond.selects "BelievedWords$Tape" ({ cls := "BelievedWords$Tape", name := "faultPlace", desc := "()I" } : Jvm.MethodName) ({ cls := "BelievedWords$Tape", name := "faultPlace", desc := "()I" } : Jvm.MethodName)) ∈ TB := tb3 36 rfl rfl
theorem k584 : (Jvm.Cond.code ({ cls := "BelievedWords$Tape", name := "faultPlace", desc := "()I" } : Jvm.MethodName) prog_11_method_5_code (1 : Nat) (Option.some Jvm.ClassFile.FieldType.int)) ∈ TB := tb3 37 rfl rfl
theorem k585 : (Jvm.Cond.methodLink "BelievedWords" (120 : Nat) ({ cls := "BelievedWords$Court", name := "open", desc := "(LBelievedWords$Law;)V" } : Jvm.MethodName)) ∈ TB := tb3 38 rfl rfl
theorem k586 : (Jvm.Cond.instanceMethod ({ cls := "BelievedWords$Court", name := "open", desc := "(LBelievedWords$Law;)V" } : Jvm.MethodName)) ∈ TB := tb3 39 rfl rfl
theorem k587 : (Jvm.Cond.selects "BelievedWords$Court" ({ cls := "BelievedWords$Court", name := "open", desc := "(LBelievedWords$Law;)V" } : Jvm.MethodName) ({ cls := "BelievedWords$Court", name := "open", desc := "(LBelievedWords$Law;)V" } : Jvm.MethodName)) ∈ TB := tb3 40 rfl rfl
theorem k588 : (Jvm.Cond.code ({ cls := "BelievedWords$Court", name := "open", desc := "(LBelievedWords$Law;)V" } : Jvm.MethodName) prog_4_method_3_code (2 : Nat) (Option.none : Option Jvm.ClassFile.FieldType)) ∈ TB := tb3 41 rfl rfl
theorem k589 : (Jvm.Cond.methodLink "BelievedWords$Court" (39 : Nat) ({ cls := "BelievedWords$Law", name := "become", desc := "(LBelievedWords$Law;)V" } : Jvm.MethodName)) ∈ TB := tb3 42 rfl rfl
theorem k590 : (Jvm.Cond.instanceMethod ({ cls := "BelievedWords$Law", name := "become", desc := "(LBelievedWords$Law;)V" } : Jvm.MethodName)) ∈ TB := tb3 43 rfl rfl
theorem k591 : (Jvm.Cond.selects "BelievedWords$Law" ({ cls := "BelievedWords$Law", name := "become", desc := "(LBelievedWords$Law;)V" } : Jvm.MethodName) ({ cls := "BelievedWords$Law", name := "become", desc := "(LBelievedWords$Law;)V" } : Jvm.MethodName)) ∈ TB := tb3 44 rfl rfl
theorem k592 : (Jvm.Cond.code ({ cls := "BelievedWords$Law", name := "become", desc := "(LBelievedWords$Law;)V" } : Jvm.MethodName) prog_7_method_3_code (2 : Nat) (Option.none : Option Jvm.ClassFile.FieldType)) ∈ TB := tb3 45 rfl rfl
theorem k593 : (Jvm.Cond.methodLink "BelievedWords$Law" (40 : Nat) ({ cls := "java/lang/System", name := "arraycopy", desc := "(Ljava/lang/Object;ILjava/lang/Object;II)V" } : Jvm.MethodName)) ∈ TB := tb3 46 rfl rfl
theorem k594 : (Jvm.Cond.methodLink "BelievedWords$Court" (46 : Nat) ({ cls := "BelievedWords$Standing", name := "begin", desc := "(I)V" } : Jvm.MethodName)) ∈ TB := tb3 47 rfl rfl
theorem k595 : (Jvm.Cond.instanceMethod ({ cls := "BelievedWords$Standing", name := "begin", desc := "(I)V" } : Jvm.MethodName)) ∈ TB := tb3 48 rfl rfl
theorem k596 : (Jvm.Cond.selects "BelievedWords$Standing" ({ cls := "BelievedWords$Standing", name := "begin", desc := "(I)V" } : Jvm.MethodName) ({ cls := "BelievedWords$Standing", name := "begin", desc := "(I)V" } : Jvm.MethodName)) ∈ TB := tb3 49 rfl rfl
theorem k597 : (Jvm.Cond.code ({ cls := "BelievedWords$Standing", name := "begin", desc := "(I)V" } : Jvm.MethodName) prog_10_method_2_code (2 : Nat) (Option.none : Option Jvm.ClassFile.FieldType)) ∈ TB := tb3 50 rfl rfl
theorem k598 : (Jvm.Cond.methodLink "BelievedWords$Standing" (15 : Nat) ({ cls := "java/util/Arrays", name := "fill", desc := "([II)V" } : Jvm.MethodName)) ∈ TB := tb3 51 rfl rfl
theorem k599 : (Jvm.Cond.methodLink "BelievedWords$Court" (50 : Nat) ({ cls := "BelievedWords$Court", name := "gatherRules", desc := "()V" } : Jvm.MethodName)) ∈ TB := tb3 52 rfl rfl
theorem k601 : (Jvm.Cond.instanceMethod ({ cls := "BelievedWords$Court", name := "gatherRules", desc := "()V" } : Jvm.MethodName)) ∈ TB := tb3 54 rfl rfl
theorem k602 : (Jvm.Cond.code ({ cls := "BelievedWords$Court", name := "gatherRules", desc := "()V" } : Jvm.MethodName) prog_4_method_6_code (3 : Nat) (Option.none : Option Jvm.ClassFile.FieldType)) ∈ TB := tb3 55 rfl rfl
theorem k603 : (Jvm.Cond.methodLink "BelievedWords$Court" (59 : Nat) ({ cls := "java/util/Arrays", name := "fill", desc := "([II)V" } : Jvm.MethodName)) ∈ TB := tb3 56 rfl rfl
theorem k604 : (Jvm.Cond.methodLink "BelievedWords" (124 : Nat) ({ cls := "BelievedWords$Acts", name := "forget", desc := "()V" } : Jvm.MethodName)) ∈ TB := tb3 57 rfl rfl
theorem k605 : (Jvm.Cond.instanceMethod ({ cls := "BelievedWords$Acts", name := "forget", desc := "()V" } : Jvm.MethodName)) ∈ TB := tb3 58 rfl rfl
theorem k606 : (Jvm.Cond.selects "BelievedWords$Acts" ({ cls := "BelievedWords$Acts", name := "forget", desc := "()V" } : Jvm.MethodName) ({ cls := "BelievedWords$Acts", name := "forget", desc := "()V" } : Jvm.MethodName)) ∈ TB := tb3 59 rfl rfl
theorem k607 : (Jvm.Cond.code ({ cls := "BelievedWords$Acts", name := "forget", desc := "()V" } : Jvm.MethodName) prog_2_method_3_code (1 : Nat) (Option.none : Option Jvm.ClassFile.FieldType)) ∈ TB := tb3 60 rfl rfl
theorem k608 : (Jvm.Cond.methodLink "BelievedWordsLaw" (41 : Nat) ({ cls := "BelievedWords", name := "fault", desc := "()I" } : Jvm.MethodName)) ∈ TB := tb3 61 rfl rfl
theorem k609 : (Jvm.Cond.instanceMethod ({ cls := "BelievedWords", name := "fault", desc := "()I" } : Jvm.MethodName)) ∈ TB := tb3 62 rfl rfl
theorem k610 : (Jvm.Cond.selects "BelievedWords" ({ cls := "BelievedWords", name := "fault", desc := "()I" } : Jvm.MethodName) ({ cls := "BelievedWords", name := "fault", desc := "()I" } : Jvm.MethodName)) ∈ TB := tb3 63 rfl rfl
theorem k611 : (Jvm.Cond.code ({ cls := "BelievedWords", name := "fault", desc := "()I" } : Jvm.MethodName) prog_1_method_8_code (1 : Nat) (Option.some Jvm.ClassFile.FieldType.int)) ∈ TB := tb3 64 rfl rfl
theorem k612 : (Jvm.Cond.methodLink "BelievedWords" (136 : Nat) ({ cls := "BelievedWords$Tape", name := "faultNumber", desc := "()I" } : Jvm.MethodName)) ∈ TB := tb3 65 rfl rfl
theorem k613 : (Jvm.Cond.instanceMethod ({ cls := "BelievedWords$Tape", name := "faultNumber", desc := "()I" } : Jvm.MethodName)) ∈ TB := tb3 66 rfl rfl
theorem k614 : (Jvm.Cond.selects "BelievedWords$Tape" ({ cls := "BelievedWords$Tape", name := "faultNumber", desc := "()I" } : Jvm.MethodName) ({ cls := "BelievedWords$Tape", name := "faultNumber", desc := "()I" } : Jvm.MethodName)) ∈ TB := tb3 67 rfl rfl
theorem k615 : (Jvm.Cond.code ({ cls := "BelievedWords$Tape", name := "faultNumber", desc := "()I" } : Jvm.MethodName) prog_11_method_4_code (1 : Nat) (Option.some Jvm.ClassFile.FieldType.int)) ∈ TB := tb3 68 rfl rfl
theorem k616 : (Jvm.Cond.methodLink "BelievedWordsLaw" (45 : Nat) ({ cls := "BelievedWords", name := "undo", desc := "()I" } : Jvm.MethodName)) ∈ TB := tb3 69 rfl rfl
theorem k617 : (Jvm.Cond.instanceMethod ({ cls := "BelievedWords", name := "undo", desc := "()I" } : Jvm.MethodName)) ∈ TB := tb3 70 rfl rfl
theorem k618 : (Jvm.Cond.selects "BelievedWords" ({ cls := "BelievedWords", name := "undo", desc := "()I" } : Jvm.MethodName) ({ cls := "BelievedWords", name := "undo", desc := "()I" } : Jvm.MethodName)) ∈ TB := tb3 71 rfl rfl
theorem k619 : (Jvm.Cond.code ({ cls := "BelievedWords", name := "undo", desc := "()I" } : Jvm.MethodName) prog_1_method_9_code (1 : Nat) (Option.some Jvm.ClassFile.FieldType.int)) ∈ TB := tb3 72 rfl rfl
theorem k620 : (Jvm.Cond.methodLink "BelievedWords" (139 : Nat) ({ cls := "BelievedWords$Acts", name := "isEmpty", desc := "()Z" } : Jvm.MethodName)) ∈ TB := tb3 73 rfl rfl
theorem k621 : (Jvm.Cond.instanceMethod ({ cls := "BelievedWords$Acts", name := "isEmpty", desc := "()Z" } : Jvm.MethodName)) ∈ TB := tb3 74 rfl rfl
theorem k622 : (Jvm.Cond.selects "BelievedWords$Acts" ({ cls := "BelievedWords$Acts", name := "isEmpty", desc := "()Z" } : Jvm.MethodName) ({ cls := "BelievedWords$Acts", name := "isEmpty", desc := "()Z" } : Jvm.MethodName)) ∈ TB := tb3 75 rfl rfl
theorem k623 : (Jvm.Cond.code ({ cls := "BelievedWords$Acts", name := "isEmpty", desc := "()Z" } : Jvm.MethodName) prog_2_method_2_code (1 : Nat) (Option.some Jvm.ClassFile.FieldType.boolean)) ∈ TB := tb3 76 rfl rfl
theorem k624 : (Jvm.Cond.constant "BelievedWords" (142 : Nat) (-1000002 : Int32)) ∈ TB := tb3 77 rfl rfl
theorem k625 : (Jvm.Cond.methodLink "BelievedWords" (143 : Nat) ({ cls := "BelievedWords$Acts", name := "takeBack", desc := "(LBelievedWords$Court;)I" } : Jvm.MethodName)) ∈ TB := tb3 78 rfl rfl
theorem k626 : (Jvm.Cond.instanceMethod ({ cls := "BelievedWords$Acts", name := "takeBack", desc := "(LBelievedWords$Court;)I" } : Jvm.MethodName)) ∈ TB := tb3 79 rfl rfl
theorem k627 : (Jvm.Cond.selects "BelievedWords$Acts" ({ cls := "BelievedWords$Acts", name := "takeBack", desc := "(LBelievedWords$Court;)I" } : Jvm.MethodName) ({ cls := "BelievedWords$Acts", name := "takeBack", desc := "(LBelievedWords$Court;)I" } : Jvm.MethodName)) ∈ TB := tb3 80 rfl rfl
theorem k628 : (Jvm.Cond.code ({ cls := "BelievedWords$Acts", name := "takeBack", desc := "(LBelievedWords$Court;)I" } : Jvm.MethodName) prog_2_method_5_code (2 : Nat) (Option.some Jvm.ClassFile.FieldType.int)) ∈ TB := tb3 81 rfl rfl
theorem k629 : (Jvm.Cond.methodLink "BelievedWords$Acts" (35 : Nat) ({ cls := "BelievedWords$Court", name := "goBack", desc := "(LBelievedWords$Standing;)V" } : Jvm.MethodName)) ∈ TB := tb3 82 rfl rfl
theorem k630 : (Jvm.Cond.instanceMethod ({ cls := "BelievedWords$Court", name := "goBack", desc := "(LBelievedWords$Standing;)V" } : Jvm.MethodName)) ∈ TB := tb3 83 rfl rfl
theorem k631 : (Jvm.Cond.selects "BelievedWords$Court" ({ cls := "BelievedWords$Court", name := "goBack", desc := "(LBelievedWords$Standing;)V" } : Jvm.MethodName) ({ cls := "BelievedWords$Court", name := "goBack", desc := "(LBelievedWords$Standing;)V" } : Jvm.MethodName)) ∈ TB := tb3 84 rfl rfl
theorem k632 : (Jvm.Cond.code ({ cls := "BelievedWords$Court", name := "goBack", desc := "(LBelievedWords$Standing;)V" } : Jvm.MethodName) prog_4_method_5_code (2 : Nat) (Option.none : Option Jvm.ClassFile.FieldType)) ∈ TB := tb3 85 rfl rfl
theorem k633 : (Jvm.Cond.methodLink "BelievedWords$Court" (57 : Nat) ({ cls := "BelievedWords$Standing", name := "become", desc := "(LBelievedWords$Standing;)V" } : Jvm.MethodName)) ∈ TB := tb3 86 rfl rfl
theorem k634 : (Jvm.Cond.instanceMethod ({ cls := "BelievedWords$Standing", name := "become", desc := "(LBelievedWords$Standing;)V" } : Jvm.MethodName)) ∈ TB := tb3 87 rfl rfl
theorem k635 : (Jvm.Cond.selects "BelievedWords$Standing" ({ cls := "BelievedWords$Standing", name := "become", desc := "(LBelievedWords$Standing;)V" } : Jvm.MethodName) ({ cls := "BelievedWords$Standing", name := "become", desc := "(LBelievedWords$Standing;)V" } : Jvm.MethodName)) ∈ TB := tb3 88 rfl rfl
theorem k636 : (Jvm.Cond.code ({ cls := "BelievedWords$Standing", name := "become", desc := "(LBelievedWords$Standing;)V" } : Jvm.MethodName) prog_10_method_3_code (2 : Nat) (Option.none : Option Jvm.ClassFile.FieldType)) ∈ TB := tb3 89 rfl rfl
theorem k637 : (Jvm.Cond.methodLink "BelievedWords$Standing" (37 : Nat) ({ cls := "java/lang/System", name := "arraycopy", desc := "(Ljava/lang/Object;ILjava/lang/Object;II)V" } : Jvm.MethodName)) ∈ TB := tb3 90 rfl rfl
theorem k638 : (Jvm.Cond.methodLink "BelievedWordsLaw" (49 : Nat) ({ cls := "BelievedWords", name := "say", desc := "(II)I" } : Jvm.MethodName)) ∈ TB := tb3 91 rfl rfl
theorem k639 : (Jvm.Cond.instanceMethod ({ cls := "BelievedWords", name := "say", desc := "(II)I" } : Jvm.MethodName)) ∈ TB := tb3 92 rfl rfl
theorem k640 : (Jvm.Cond.selects "BelievedWords" ({ cls := "BelievedWords", name := "say", desc := "(II)I" } : Jvm.MethodName) ({ cls := "BelievedWords", name := "say", desc := "(II)I" } : Jvm.MethodName)) ∈ TB := tb3 93 rfl rfl
theorem k641 : (Jvm.Cond.code ({ cls := "BelievedWords", name := "say", desc := "(II)I" } : Jvm.MethodName) prog_1_method_10_code (3 : Nat) (Option.some Jvm.ClassFile.FieldType.int)) ∈ TB := tb3 94 rfl rfl
theorem k642 : (Jvm.Cond.methodLink "BelievedWords" (147 : Nat) ({ cls := "BelievedWords$Law", name := "isPerson", desc := "(I)Z" } : Jvm.MethodName)) ∈ TB := tb3 95 rfl rfl
theorem k643 : (Jvm.Cond.instanceMethod ({ cls := "BelievedWords$Law", name := "isPerson", desc := "(I)Z" } : Jvm.MethodName)) ∈ TB := tb3 96 rfl rfl
theorem k644 : (Jvm.Cond.selects "BelievedWords$Law" ({ cls := "BelievedWords$Law", name := "isPerson", desc := "(I)Z" } : Jvm.MethodName) ({ cls := "BelievedWords$Law", name := "isPerson", desc := "(I)Z" } : Jvm.MethodName)) ∈ TB := tb3 97 rfl rfl
theorem k645 : (Jvm.Cond.code ({ cls := "BelievedWords$Law", name := "isPerson", desc := "(I)Z" } : Jvm.MethodName) prog_7_method_9_code (2 : Nat) (Option.some Jvm.ClassFile.FieldType.boolean)) ∈ TB := tb3 98 rfl rfl
theorem k646 : (Jvm.Cond.methodLink "BelievedWords" (150 : Nat) ({ cls := "BelievedWords$Law", name := "isSaying", desc := "(I)Z" } : Jvm.MethodName)) ∈ TB := tb3 99 rfl rfl
theorem k647 : (Jvm.Cond.instanceMethod ({ cls := "BelievedWords$Law", name := "isSaying", desc := "(I)Z" } : Jvm.MethodName)) ∈ TB := tb3 100 rfl rfl
theorem k648 : (Jvm.Cond.selects "BelievedWords$Law" ({ cls := "BelievedWords$Law", name := "isSaying", desc := "(I)Z" } : Jvm.MethodName) ({ cls := "BelievedWords$Law", name := "isSaying", desc := "(I)Z" } : Jvm.MethodName)) ∈ TB := tb3 101 rfl rfl
theorem k649 : (Jvm.Cond.code ({ cls := "BelievedWords$Law", name := "isSaying", desc := "(I)Z" } : Jvm.MethodName) prog_7_method_10_code (2 : Nat) (Option.some Jvm.ClassFile.FieldType.boolean)) ∈ TB := tb3 102 rfl rfl
theorem k650 : (Jvm.Cond.constant "BelievedWords" (162 : Nat) (-1000003 : Int32)) ∈ TB := tb3 103 rfl rfl
theorem k651 : (Jvm.Cond.methodLink "BelievedWords" (163 : Nat) ({ cls := "BelievedWords$Acts", name := "keep", desc := "(LBelievedWords$Standing;)V" } : Jvm.MethodName)) ∈ TB := tb3 104 rfl rfl
theorem k652 : (Jvm.Cond.instanceMethod ({ cls := "BelievedWords$Acts", name := "keep", desc := "(LBelievedWords$Standing;)V" } : Jvm.MethodName)) ∈ TB := tb3 105 rfl rfl
theorem k653 : (Jvm.Cond.selects "BelievedWords$Acts" ({ cls := "BelievedWords$Acts", name := "keep", desc := "(LBelievedWords$Standing;)V" } : Jvm.MethodName) ({ cls := "BelievedWords$Acts", name := "keep", desc := "(LBelievedWords$Standing;)V" } : Jvm.MethodName)) ∈ TB := tb3 106 rfl rfl
theorem k654 : (Jvm.Cond.code ({ cls := "BelievedWords$Acts", name := "keep", desc := "(LBelievedWords$Standing;)V" } : Jvm.MethodName) prog_2_method_4_code (2 : Nat) (Option.none : Option Jvm.ClassFile.FieldType)) ∈ TB := tb3 107 rfl rfl
theorem k655 : (Jvm.Cond.methodLink "BelievedWords$Acts" (25 : Nat) ({ cls := "BelievedWords$Standing", name := "become", desc := "(LBelievedWords$Standing;)V" } : Jvm.MethodName)) ∈ TB := tb3 108 rfl rfl
theorem k656 : (Jvm.Cond.methodLink "BelievedWords$Acts" (29 : Nat) ({ cls := "java/lang/Math", name := "min", desc := "(II)I" } : Jvm.MethodName)) ∈ TB := tb3 109 rfl rfl
theorem k657 : (Jvm.Cond.static ({ cls := "java/lang/Math", name := "min", desc := "(II)I" } : Jvm.MethodName)) ∈ TB := tb3 110 rfl rfl
theorem k658 : (Jvm.Cond.code ({ cls := "java/lang/Math", name := "min", desc := "(II)I" } : Jvm.MethodName) prog_17_method_69_code (2 : Nat) (Option.some Jvm.ClassFile.FieldType.int)) ∈ TB := tb3 111 rfl rfl
theorem k659 : (Jvm.Cond.methodLink "BelievedWords" (167 : Nat) ({ cls := "BelievedWords$Court", name := "utter", desc := "(II)I" } : Jvm.MethodName)) ∈ TB := tb3 112 rfl rfl
theorem k660 : (Jvm.Cond.instanceMethod ({ cls := "BelievedWords$Court", name := "utter", desc := "(II)I" } : Jvm.MethodName)) ∈ TB := tb3 113 rfl rfl
theorem k661 : (Jvm.Cond.selects "BelievedWords$Court" ({ cls := "BelievedWords$Court", name := "utter", desc := "(II)I" } : Jvm.MethodName) ({ cls := "BelievedWords$Court", name := "utter", desc := "(II)I" } : Jvm.MethodName)) ∈ TB := tb3 114 rfl rfl
theorem k662 : (Jvm.Cond.code ({ cls := "BelievedWords$Court", name := "utter", desc := "(II)I" } : Jvm.MethodName) prog_4_method_8_code (4 : Nat) (Option.some Jvm.ClassFile.FieldType.int)) ∈ TB := tb3 115 rfl rfl
theorem k663 : (Jvm.Cond.methodLink "BelievedWords$Court" (95 : Nat) ({ cls := "BelievedWords$Court", name := "outcome", desc := "(IIII)I" } : Jvm.MethodName)) ∈ TB := tb3 116 rfl rfl
theorem k664 : (Jvm.Cond.instanceMethod ({ cls := "BelievedWords$Court", name := "outcome", desc := "(IIII)I" } : Jvm.MethodName)) ∈ TB := tb3 117 rfl rfl
theorem k665 : (Jvm.Cond.selects "BelievedWords$Court" ({ cls := "BelievedWords$Court", name := "outcome", desc := "(IIII)I" } : Jvm.MethodName) ({ cls := "BelievedWords$Court", name := "outcome", desc := "(IIII)I" } : Jvm.MethodName)) ∈ TB := tb3 118 rfl rfl
theorem k666 : (Jvm.Cond.code ({ cls := "BelievedWords$Court", name := "outcome", desc := "(IIII)I" } : Jvm.MethodName) prog_4_method_10_code (5 : Nat) (Option.some Jvm.ClassFile.FieldType.int)) ∈ TB := tb3 119 rfl rfl
theorem k667 : (Jvm.Cond.methodLink "BelievedWords$Court" (118 : Nat) ({ cls := "BelievedWords$Court", name := "believed", desc := "(IIII)I" } : Jvm.MethodName)) ∈ TB := tb3 120 rfl rfl
theorem k669 : (Jvm.Cond.instanceMethod ({ cls := "BelievedWords$Court", name := "believed", desc := "(IIII)I" } : Jvm.MethodName)) ∈ TB := tb3 122 rfl rfl
theorem k670 : (Jvm.Cond.code ({ cls := "BelievedWords$Court", name := "believed", desc := "(IIII)I" } : Jvm.MethodName) prog_4_method_12_code (7 : Nat) (Option.some Jvm.ClassFile.FieldType.int)) ∈ TB := tb3 123 rfl rfl
theorem k671 : (Jvm.Cond.methodLink "BelievedWords$Court" (99 : Nat) ({ cls := "BelievedWords$Court", name := "factOf", desc := "(I)I" } : Jvm.MethodName)) ∈ TB := tb3 124 rfl rfl
theorem k672 : (Jvm.Cond.static ({ cls := "BelievedWords$Court", name := "factOf", desc := "(I)I" } : Jvm.MethodName)) ∈ TB := tb3 125 rfl rfl
theorem k673 : (Jvm.Cond.code ({ cls := "BelievedWords$Court", name := "factOf", desc := "(I)I" } : Jvm.MethodName) prog_4_method_17_code (1 : Nat) (Option.some Jvm.ClassFile.FieldType.int)) ∈ TB := tb3 126 rfl rfl
theorem k674 : (Jvm.Cond.methodLink "BelievedWords$Court" (121 : Nat) ({ cls := "BelievedWords$Court", name := "settle", desc := "(I)I" } : Jvm.MethodName)) ∈ TB := tb3 127 rfl rfl
theorem k675 : (Jvm.Cond.instanceMethod ({ cls := "BelievedWords$Court", name := "settle", desc := "(I)I" } : Jvm.MethodName)) ∈ TB := tb3 128 rfl rfl
theorem k676 : (Jvm.Cond.selects "BelievedWords$Court" ({ cls := "BelievedWords$Court", name := "settle", desc := "(I)I" } : Jvm.MethodName) ({ cls := "BelievedWords$Court", name := "settle", desc := "(I)I" } : Jvm.MethodName)) ∈ TB := tb3 129 rfl rfl
theorem k677 : (Jvm.Cond.code ({ cls := "BelievedWords$Court", name := "settle", desc := "(I)I" } : Jvm.MethodName) prog_4_method_13_code (3 : Nat) (Option.some Jvm.ClassFile.FieldType.int)) ∈ TB := tb3 130 rfl rfl
theorem k678 : (Jvm.Cond.constant "BelievedWords$Court" (105 : Nat) (-1000000 : Int32)) ∈ TB := tb3 131 rfl rfl
theorem k679 : (Jvm.Cond.methodLink "BelievedWords$Court" (124 : Nat) ({ cls := "BelievedWords$Court", name := "grow", desc := "(I)I" } : Jvm.MethodName)) ∈ TB := tb3 132 rfl rfl
theorem k681 : (Jvm.Cond.instanceMethod ({ cls := "BelievedWords$Court", name := "grow", desc := "(I)I" } : Jvm.MethodName)) ∈ TB := tb3 134 rfl rfl
theorem k682 : (Jvm.Cond.code ({ cls := "BelievedWords$Court", name := "grow", desc := "(I)I" } : Jvm.MethodName) prog_4_method_14_code (6 : Nat) (Option.some Jvm.ClassFile.FieldType.int)) ∈ TB := tb3 135 rfl rfl
theorem k683 : (Jvm.Cond.methodLink "BelievedWords$Court" (127 : Nat) ({ cls := "BelievedWords$Court", name := "isBarred", desc := "(I)Z" } : Jvm.MethodName)) ∈ TB := tb3 136 rfl rfl
theorem k685 : (Jvm.Cond.instanceMethod ({ cls := "BelievedWords$Court", name := "isBarred", desc := "(I)Z" } : Jvm.MethodName)) ∈ TB := tb3 138 rfl rfl
theorem k686 : (Jvm.Cond.code ({ cls := "BelievedWords$Court", name := "isBarred", desc := "(I)Z" } : Jvm.MethodName) prog_4_method_15_code (3 : Nat) (Option.some Jvm.ClassFile.FieldType.boolean)) ∈ TB := tb3 139 rfl rfl
theorem k687 : (Jvm.Cond.methodLink "BelievedWords$Court" (112 : Nat) ({ cls := "BelievedWords$Court", name := "price", desc := "(II)I" } : Jvm.MethodName)) ∈ TB := tb3 140 rfl rfl
theorem k688 : (Jvm.Cond.instanceMethod ({ cls := "BelievedWords$Court", name := "price", desc := "(II)I" } : Jvm.MethodName)) ∈ TB := tb3 141 rfl rfl
theorem k689 : (Jvm.Cond.selects "BelievedWords$Court" ({ cls := "BelievedWords$Court", name := "price", desc := "(II)I" } : Jvm.MethodName) ({ cls := "BelievedWords$Court", name := "price", desc := "(II)I" } : Jvm.MethodName)) ∈ TB := tb3 142 rfl rfl
theorem k690 : (Jvm.Cond.code ({ cls := "BelievedWords$Court", name := "price", desc := "(II)I" } : Jvm.MethodName) prog_4_method_9_code (3 : Nat) (Option.some Jvm.ClassFile.FieldType.int)) ∈ TB := tb3 143 rfl rfl
theorem k691 : (Jvm.Cond.methodLink "BelievedWords$Court" (80 : Nat) ({ cls := "java/lang/Integer", name := "bitCount", desc := "(I)I" } : Jvm.MethodName)) ∈ TB := tb3 144 rfl rfl
theorem k692 : (Jvm.Cond.static ({ cls := "java/lang/Integer", name := "bitCount", desc := "(I)I" } : Jvm.MethodName)) ∈ TB := tb3 145 rfl rfl
theorem k693 : (Jvm.Cond.code ({ cls := "java/lang/Integer", name := "bitCount", desc := "(I)I" } : Jvm.MethodName) prog_15_method_49_code (1 : Nat) (Option.some Jvm.ClassFile.FieldType.int)) ∈ TB := tb3 146 rfl rfl
theorem k694 : (Jvm.Cond.constant "java/lang/Integer" (265 : Nat) (1431655765 : Int32)) ∈ TB := tb3 147 rfl rfl
theorem k695 : (Jvm.Cond.constant "java/lang/Integer" (266 : Nat) (858993459 : Int32)) ∈ TB := tb3 148 rfl rfl
theorem k696 : (Jvm.Cond.constant "java/lang/Integer" (267 : Nat) (252645135 : Int32)) ∈ TB := tb3 149 rfl rfl
theorem k697 : (Jvm.Cond.methodLink "BelievedWordsLaw" (54 : Nat) ({ cls := "BelievedWords", name := "pardon", desc := "(I)I" } : Jvm.MethodName)) ∈ TB := tb3 150 rfl rfl
theorem k698 : (Jvm.Cond.instanceMethod ({ cls := "BelievedWords", name := "pardon", desc := "(I)I" } : Jvm.MethodName)) ∈ TB := tb3 151 rfl rfl
theorem k699 : (Jvm.Cond.selects "BelievedWords" ({ cls := "BelievedWords", name := "pardon", desc := "(I)I" } : Jvm.MethodName) ({ cls := "BelievedWords", name := "pardon", desc := "(I)I" } : Jvm.MethodName)) ∈ TB := tb3 152 rfl rfl
theorem k700 : (Jvm.Cond.code ({ cls := "BelievedWords", name := "pardon", desc := "(I)I" } : Jvm.MethodName) prog_1_method_11_code (2 : Nat) (Option.some Jvm.ClassFile.FieldType.int)) ∈ TB := tb3 153 rfl rfl
theorem k701 : (Jvm.Cond.methodLink "BelievedWordsLaw" (58 : Nat) ({ cls := "BelievedWords", name := "strike", desc := "(II)I" } : Jvm.MethodName)) ∈ TB := tb3 154 rfl rfl
theorem k702 : (Jvm.Cond.instanceMethod ({ cls := "BelievedWords", name := "strike", desc := "(II)I" } : Jvm.MethodName)) ∈ TB := tb3 155 rfl rfl
theorem k703 : (Jvm.Cond.selects "BelievedWords" ({ cls := "BelievedWords", name := "strike", desc := "(II)I" } : Jvm.MethodName) ({ cls := "BelievedWords", name := "strike", desc := "(II)I" } : Jvm.MethodName)) ∈ TB := tb3 156 rfl rfl
theorem k704 : (Jvm.Cond.code ({ cls := "BelievedWords", name := "strike", desc := "(II)I" } : Jvm.MethodName) prog_1_method_12_code (3 : Nat) (Option.some Jvm.ClassFile.FieldType.int)) ∈ TB := tb3 157 rfl rfl
theorem k705 : (Jvm.Cond.methodLink "BelievedWords" (177 : Nat) ({ cls := "BelievedWords$Law", name := "isRule", desc := "(I)Z" } : Jvm.MethodName)) ∈ TB := tb3 158 rfl rfl
theorem k706 : (Jvm.Cond.instanceMethod ({ cls := "BelievedWords$Law", name := "isRule", desc := "(I)Z" } : Jvm.MethodName)) ∈ TB := tb3 159 rfl rfl
theorem k707 : (Jvm.Cond.selects "BelievedWords$Law" ({ cls := "BelievedWords$Law", name := "isRule", desc := "(I)Z" } : Jvm.MethodName) ({ cls := "BelievedWords$Law", name := "isRule", desc := "(I)Z" } : Jvm.MethodName)) ∈ TB := tb3 160 rfl rfl
theorem k708 : (Jvm.Cond.code ({ cls := "BelievedWords$Law", name := "isRule", desc := "(I)Z" } : Jvm.MethodName) prog_7_method_8_code (2 : Nat) (Option.some Jvm.ClassFile.FieldType.boolean)) ∈ TB := tb3 161 rfl rfl
theorem k709 : (Jvm.Cond.methodLink "BelievedWords" (180 : Nat) ({ cls := "BelievedWords", name := "isNoBit", desc := "(I)Z" } : Jvm.MethodName)) ∈ TB := tb3 162 rfl rfl
theorem k710 : (Jvm.Cond.static ({ cls := "BelievedWords", name := "isNoBit", desc := "(I)Z" } : Jvm.MethodName)) ∈ TB := tb3 163 rfl rfl
theorem k711 : (Jvm.Cond.code ({ cls := "BelievedWords", name := "isNoBit", desc := "(I)Z" } : Jvm.MethodName) prog_1_method_40_code (1 : Nat) (Option.some Jvm.ClassFile.FieldType.boolean)) ∈ TB := tb3 164 rfl rfl
theorem k712 : (Jvm.Cond.methodLink "BelievedWords" (186 : Nat) ({ cls := "BelievedWords$Court", name := "turnRule", desc := "(I)I" } : Jvm.MethodName)) ∈ TB := tb3 165 rfl rfl
theorem k713 : (Jvm.Cond.instanceMethod ({ cls := "BelievedWords$Court", name := "turnRule", desc := "(I)I" } : Jvm.MethodName)) ∈ TB := tb3 166 rfl rfl
theorem k714 : (Jvm.Cond.selects "BelievedWords$Court" ({ cls := "BelievedWords$Court", name := "turnRule", desc := "(I)I" } : Jvm.MethodName) ({ cls := "BelievedWords$Court", name := "turnRule", desc := "(I)I" } : Jvm.MethodName)) ∈ TB := tb3 167 rfl rfl
theorem k715 : (Jvm.Cond.code ({ cls := "BelievedWords$Court", name := "turnRule", desc := "(I)I" } : Jvm.MethodName) prog_4_method_7_code (2 : Nat) (Option.some Jvm.ClassFile.FieldType.int)) ∈ TB := tb3 168 rfl rfl
theorem k716 : (Jvm.Cond.methodLink "BelievedWordsLaw" (62 : Nat) ({ cls := "BelievedWords", name := "stand", desc := "(I)I" } : Jvm.MethodName)) ∈ TB := tb3 169 rfl rfl
theorem k717 : (Jvm.Cond.instanceMethod ({ cls := "BelievedWords", name := "stand", desc := "(I)I" } : Jvm.MethodName)) ∈ TB := tb3 170 rfl rfl
theorem k718 : (Jvm.Cond.selects "BelievedWords" ({ cls := "BelievedWords", name := "stand", desc := "(I)I" } : Jvm.MethodName) ({ cls := "BelievedWords", name := "stand", desc := "(I)I" } : Jvm.MethodName)) ∈ TB := tb3 171 rfl rfl
theorem k719 : (Jvm.Cond.code ({ cls := "BelievedWords", name := "stand", desc := "(I)I" } : Jvm.MethodName) prog_1_method_13_code (2 : Nat) (Option.some Jvm.ClassFile.FieldType.int)) ∈ TB := tb3 172 rfl rfl
theorem k720 : (Jvm.Cond.methodLink "BelievedWords" (189 : Nat) ({ cls := "BelievedWords$Court", name := "isOpen", desc := "()Z" } : Jvm.MethodName)) ∈ TB := tb3 173 rfl rfl
theorem k721 : (Jvm.Cond.instanceMethod ({ cls := "BelievedWords$Court", name := "isOpen", desc := "()Z" } : Jvm.MethodName)) ∈ TB := tb3 174 rfl rfl
theorem k722 : (Jvm.Cond.selects "BelievedWords$Court" ({ cls := "BelievedWords$Court", name := "isOpen", desc := "()Z" } : Jvm.MethodName) ({ cls := "BelievedWords$Court", name := "isOpen", desc := "()Z" } : Jvm.MethodName)) ∈ TB := tb3 175 rfl rfl
theorem k723 : (Jvm.Cond.code ({ cls := "BelievedWords$Court", name := "isOpen", desc := "()Z" } : Jvm.MethodName) prog_4_method_2_code (1 : Nat) (Option.some Jvm.ClassFile.FieldType.boolean)) ∈ TB := tb3 176 rfl rfl
theorem k724 : (Jvm.Cond.methodLink "BelievedWordsLaw" (66 : Nat) ({ cls := "BelievedWords", name := "rule", desc := "(II)I" } : Jvm.MethodName)) ∈ TB := tb3 177 rfl rfl
theorem k725 : (Jvm.Cond.instanceMethod ({ cls := "BelievedWords", name := "rule", desc := "(II)I" } : Jvm.MethodName)) ∈ TB := tb3 178 rfl rfl
theorem k726 : (Jvm.Cond.selects "BelievedWords" ({ cls := "BelievedWords", name := "rule", desc := "(II)I" } : Jvm.MethodName) ({ cls := "BelievedWords", name := "rule", desc := "(II)I" } : Jvm.MethodName)) ∈ TB := tb3 179 rfl rfl
theorem k727 : (Jvm.Cond.code ({ cls := "BelievedWords", name := "rule", desc := "(II)I" } : Jvm.MethodName) prog_1_method_14_code (3 : Nat) (Option.some Jvm.ClassFile.FieldType.int)) ∈ TB := tb3 180 rfl rfl
theorem k728 : (Jvm.Cond.methodLink "BelievedWordsLaw" (70 : Nat) ({ cls := "BelievedWords", name := "cell", desc := "(I)I" } : Jvm.MethodName)) ∈ TB := tb3 181 rfl rfl
theorem k729 : (Jvm.Cond.instanceMethod ({ cls := "BelievedWords", name := "cell", desc := "(I)I" } : Jvm.MethodName)) ∈ TB := tb3 182 rfl rfl
theorem k730 : (Jvm.Cond.selects "BelievedWords" ({ cls := "BelievedWords", name := "cell", desc := "(I)I" } : Jvm.MethodName) ({ cls := "BelievedWords", name := "cell", desc := "(I)I" } : Jvm.MethodName)) ∈ TB := tb3 183 rfl rfl
theorem k731 : (Jvm.Cond.code ({ cls := "BelievedWords", name := "cell", desc := "(I)I" } : Jvm.MethodName) prog_1_method_15_code (2 : Nat) (Option.some Jvm.ClassFile.FieldType.int)) ∈ TB := tb3 184 rfl rfl
theorem k732 : (Jvm.Cond.methodLink "BelievedWordsLaw" (74 : Nat) ({ cls := "BelievedWords", name := "makes", desc := "(II)I" } : Jvm.MethodName)) ∈ TB := tb3 185 rfl rfl
theorem k733 : (Jvm.Cond.instanceMethod ({ cls := "BelievedWords", name := "makes", desc := "(II)I" } : Jvm.MethodName)) ∈ TB := tb3 186 rfl rfl
theorem k734 : (Jvm.Cond.selects "BelievedWords" ({ cls := "BelievedWords", name := "makes", desc := "(II)I" } : Jvm.MethodName) ({ cls := "BelievedWords", name := "makes", desc := "(II)I" } : Jvm.MethodName)) ∈ TB := tb3 187 rfl rfl
theorem k735 : (Jvm.Cond.code ({ cls := "BelievedWords", name := "makes", desc := "(II)I" } : Jvm.MethodName) prog_1_method_16_code (3 : Nat) (Option.some Jvm.ClassFile.FieldType.int)) ∈ TB := tb3 188 rfl rfl
theorem k736 : (Jvm.Cond.methodLink "BelievedWords" (214 : Nat) ({ cls := "BelievedWords$Court", name := "outcome", desc := "(IIII)I" } : Jvm.MethodName)) ∈ TB := tb3 189 rfl rfl
theorem k737 : (Jvm.Cond.methodLink "BelievedWordsLaw" (78 : Nat) ({ cls := "BelievedWords", name := "shortest", desc := "(III)I" } : Jvm.MethodName)) ∈ TB := tb3 190 rfl rfl
theorem k738 : (Jvm.Cond.instanceMethod ({ cls := "BelievedWords", name := "shortest", desc := "(III)I" } : Jvm.MethodName)) ∈ TB := tb3 191 rfl rfl
theorem k739 : (Jvm.Cond.selects "BelievedWords" ({ cls := "BelievedWords", name := "shortest", desc := "(III)I" } : Jvm.MethodName) ({ cls := "BelievedWords", name := "shortest", desc := "(III)I" } : Jvm.MethodName)) ∈ TB := tb3 192 rfl rfl
theorem k740 : (Jvm.Cond.code ({ cls := "BelievedWords", name := "shortest", desc := "(III)I" } : Jvm.MethodName) prog_1_method_17_code (5 : Nat) (Option.some Jvm.ClassFile.FieldType.int)) ∈ TB := tb3 193 rfl rfl
theorem k741 : (Jvm.Cond.methodLink "BelievedWords" (218 : Nat) ({ cls := "BelievedWords", name := "refusalOfGoal", desc := "(III)I" } : Jvm.MethodName)) ∈ TB := tb3 194 rfl rfl
theorem k743 : (Jvm.Cond.instanceMethod ({ cls := "BelievedWords", name := "refusalOfGoal", desc := "(III)I" } : Jvm.MethodName)) ∈ TB := tb3 196 rfl rfl
theorem k744 : (Jvm.Cond.code ({ cls := "BelievedWords", name := "refusalOfGoal", desc := "(III)I" } : Jvm.MethodName) prog_1_method_37_code (5 : Nat) (Option.some Jvm.ClassFile.FieldType.int)) ∈ TB := tb3 197 rfl rfl
theorem k745 : (Jvm.Cond.methodLink "BelievedWords" (232 : Nat) ({ cls := "BelievedWords$Law", name := "areFacts", desc := "(I)Z" } : Jvm.MethodName)) ∈ TB := tb3 198 rfl rfl
