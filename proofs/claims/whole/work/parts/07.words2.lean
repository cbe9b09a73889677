theorem k746 : (Jvm.Cond.instanceMethod ({ cls := "BelievedWords$Law", name := "areFacts", desc := "(I)Z" } : Jvm.MethodName)) ∈ TB := tb3 199 rfl rfl
theorem k747 : (Jvm.Cond.selects "BelievedWords$Law" ({ cls := "BelievedWords$Law", name := "areFacts", desc := "(I)Z" } : Jvm.MethodName) ({ cls := "BelievedWords$Law", name := "areFacts", desc := "(I)Z" } : Jvm.MethodName)) ∈ TB := tb3 200 rfl rfl
theorem k748 : (Jvm.Cond.code ({ cls := "BelievedWords$Law", name := "areFacts", desc := "(I)Z" } : Jvm.MethodName) prog_7_method_11_code (2 : Nat) (Option.some Jvm.ClassFile.FieldType.boolean)) ∈ TB := tb3 201 rfl rfl
theorem k749 : (Jvm.Cond.methodLink "BelievedWords" (221 : Nat) ({ cls := "BelievedWords$Search", name := "fewest", desc := "(LBelievedWords$Court;III)I" } : Jvm.MethodName)) ∈ TB := tb3 202 rfl rfl
theorem k750 : (Jvm.Cond.instanceMethod ({ cls := "BelievedWords$Search", name := "fewest", desc := "(LBelievedWords$Court;III)I" } : Jvm.MethodName)) ∈ TB := tb3 203 rfl rfl
theorem k751 : (Jvm.Cond.selects "BelievedWords$Search" ({ cls := "BelievedWords$Search", name := "fewest", desc := "(LBelievedWords$Court;III)I" } : Jvm.MethodName) ({ cls := "BelievedWords$Search", name := "fewest", desc := "(LBelievedWords$Court;III)I" } : Jvm.MethodName)) ∈ TB := tb3 204 rfl rfl
theorem k752 : (Jvm.Cond.code ({ cls := "BelievedWords$Search", name := "fewest", desc := "(LBelievedWords$Court;III)I" } : Jvm.MethodName) prog_9_method_2_code (6 : Nat) (Option.some Jvm.ClassFile.FieldType.int)) ∈ TB := tb3 205 rfl rfl
theorem k753 : (Jvm.Cond.methodLink "BelievedWords$Search" (30 : Nat) ({ cls := "BelievedWords$Search", name := "begin", desc := "(LBelievedWords$Law;IIZ)V" } : Jvm.MethodName)) ∈ TB := tb3 206 rfl rfl
theorem k755 : (Jvm.Cond.instanceMethod ({ cls := "BelievedWords$Search", name := "begin", desc := "(LBelievedWords$Law;IIZ)V" } : Jvm.MethodName)) ∈ TB := tb3 208 rfl rfl
theorem k756 : (Jvm.Cond.code ({ cls := "BelievedWords$Search", name := "begin", desc := "(LBelievedWords$Law;IIZ)V" } : Jvm.MethodName) prog_9_method_5_code (5 : Nat) (Option.none : Option Jvm.ClassFile.FieldType)) ∈ TB := tb3 209 rfl rfl
theorem k757 : (Jvm.Cond.methodLink "BelievedWords$Search" (81 : Nat) ({ cls := "BelievedWords$Search", name := "gatherMovers", desc := "(LBelievedWords$Law;)V" } : Jvm.MethodName)) ∈ TB := tb3 210 rfl rfl
theorem k759 : (Jvm.Cond.instanceMethod ({ cls := "BelievedWords$Search", name := "gatherMovers", desc := "(LBelievedWords$Law;)V" } : Jvm.MethodName)) ∈ TB := tb3 212 rfl rfl
theorem k760 : (Jvm.Cond.code ({ cls := "BelievedWords$Search", name := "gatherMovers", desc := "(LBelievedWords$Law;)V" } : Jvm.MethodName) prog_9_method_6_code (3 : Nat) (Option.none : Option Jvm.ClassFile.FieldType)) ∈ TB := tb3 213 rfl rfl
theorem k761 : (Jvm.Cond.methodLink "BelievedWords$Search" (101 : Nat) ({ cls := "BelievedWords$Law", name := "hasKind", desc := "(I)Z" } : Jvm.MethodName)) ∈ TB := tb3 214 rfl rfl
theorem k762 : (Jvm.Cond.instanceMethod ({ cls := "BelievedWords$Law", name := "hasKind", desc := "(I)Z" } : Jvm.MethodName)) ∈ TB := tb3 215 rfl rfl
theorem k763 : (Jvm.Cond.selects "BelievedWords$Law" ({ cls := "BelievedWords$Law", name := "hasKind", desc := "(I)Z" } : Jvm.MethodName) ({ cls := "BelievedWords$Law", name := "hasKind", desc := "(I)Z" } : Jvm.MethodName)) ∈ TB := tb3 216 rfl rfl
theorem k764 : (Jvm.Cond.code ({ cls := "BelievedWords$Law", name := "hasKind", desc := "(I)Z" } : Jvm.MethodName) prog_7_method_7_code (3 : Nat) (Option.some Jvm.ClassFile.FieldType.boolean)) ∈ TB := tb3 217 rfl rfl
theorem k765 : (Jvm.Cond.constant "BelievedWords$Search" (48 : Nat) (-1000000 : Int32)) ∈ TB := tb3 218 rfl rfl
theorem k766 : (Jvm.Cond.methodLink "BelievedWords$Search" (44 : Nat) ({ cls := "BelievedWords$Search", name := "isMet", desc := "(I)Z" } : Jvm.MethodName)) ∈ TB := tb3 219 rfl rfl
theorem k768 : (Jvm.Cond.instanceMethod ({ cls := "BelievedWords$Search", name := "isMet", desc := "(I)Z" } : Jvm.MethodName)) ∈ TB := tb3 221 rfl rfl
theorem k769 : (Jvm.Cond.code ({ cls := "BelievedWords$Search", name := "isMet", desc := "(I)Z" } : Jvm.MethodName) prog_9_method_8_code (2 : Nat) (Option.some Jvm.ClassFile.FieldType.boolean)) ∈ TB := tb3 222 rfl rfl
theorem k770 : (Jvm.Cond.methodLink "BelievedWords$Search" (49 : Nat) ({ cls := "BelievedWords$Search", name := "explore", desc := "(LBelievedWords$Court;)I" } : Jvm.MethodName)) ∈ TB := tb3 223 rfl rfl
theorem k772 : (Jvm.Cond.instanceMethod ({ cls := "BelievedWords$Search", name := "explore", desc := "(LBelievedWords$Court;)I" } : Jvm.MethodName)) ∈ TB := tb3 225 rfl rfl
theorem k773 : (Jvm.Cond.code ({ cls := "BelievedWords$Search", name := "explore", desc := "(LBelievedWords$Court;)I" } : Jvm.MethodName) prog_9_method_7_code (4 : Nat) (Option.some Jvm.ClassFile.FieldType.int)) ∈ TB := tb3 226 rfl rfl
theorem k774 : (Jvm.Cond.methodLink "BelievedWords$Search" (107 : Nat) ({ cls := "BelievedWords$Search", name := "sayFirst", desc := "(LBelievedWords$Court;)V" } : Jvm.MethodName)) ∈ TB := tb3 227 rfl rfl
theorem k776 : (Jvm.Cond.instanceMethod ({ cls := "BelievedWords$Search", name := "sayFirst", desc := "(LBelievedWords$Court;)V" } : Jvm.MethodName)) ∈ TB := tb3 229 rfl rfl
theorem k777 : (Jvm.Cond.code ({ cls := "BelievedWords$Search", name := "sayFirst", desc := "(LBelievedWords$Court;)V" } : Jvm.MethodName) prog_9_method_10_code (7 : Nat) (Option.none : Option Jvm.ClassFile.FieldType)) ∈ TB := tb3 230 rfl rfl
theorem k778 : (Jvm.Cond.methodLink "BelievedWords$Search" (124 : Nat) ({ cls := "BelievedWords$Court", name := "outcome", desc := "(IIII)I" } : Jvm.MethodName)) ∈ TB := tb3 231 rfl rfl
theorem k779 : (Jvm.Cond.methodLink "BelievedWords$Search" (128 : Nat) ({ cls := "BelievedWords$Court", name := "factOf", desc := "(I)I" } : Jvm.MethodName)) ∈ TB := tb3 232 rfl rfl
theorem k780 : (Jvm.Cond.methodLink "BelievedWords$Search" (131 : Nat) ({ cls := "BelievedWords$Search", name := "stepOf", desc := "(II)I" } : Jvm.MethodName)) ∈ TB := tb3 233 rfl rfl
theorem k782 : (Jvm.Cond.instanceMethod ({ cls := "BelievedWords$Search", name := "stepOf", desc := "(II)I" } : Jvm.MethodName)) ∈ TB := tb3 235 rfl rfl
theorem k783 : (Jvm.Cond.code ({ cls := "BelievedWords$Search", name := "stepOf", desc := "(II)I" } : Jvm.MethodName) prog_9_method_12_code (3 : Nat) (Option.some Jvm.ClassFile.FieldType.int)) ∈ TB := tb3 236 rfl rfl
theorem k784 : (Jvm.Cond.methodLink "BelievedWords$Search" (139 : Nat) ({ cls := "java/lang/Integer", name := "bitCount", desc := "(I)I" } : Jvm.MethodName)) ∈ TB := tb3 237 rfl rfl
theorem k785 : (Jvm.Cond.methodLink "BelievedWords$Search" (135 : Nat) ({ cls := "BelievedWords$Search", name := "enter", desc := "(IIII)V" } : Jvm.MethodName)) ∈ TB := tb3 238 rfl rfl
theorem k787 : (Jvm.Cond.instanceMethod ({ cls := "BelievedWords$Search", name := "enter", desc := "(IIII)V" } : Jvm.MethodName)) ∈ TB := tb4 0 rfl rfl
theorem k788 : (Jvm.Cond.code ({ cls := "BelievedWords$Search", name := "enter", desc := "(IIII)V" } : Jvm.MethodName) prog_9_method_13_code (6 : Nat) (Option.none : Option Jvm.ClassFile.FieldType)) ∈ TB := tb4 1 rfl rfl
theorem k789 : (Jvm.Cond.methodLink "BelievedWords$Search" (143 : Nat) ({ cls := "java/lang/Math", name := "max", desc := "(II)I" } : Jvm.MethodName)) ∈ TB := tb4 2 rfl rfl
theorem k790 : (Jvm.Cond.static ({ cls := "java/lang/Math", name := "max", desc := "(II)I" } : Jvm.MethodName)) ∈ TB := tb4 3 rfl rfl
theorem k791 : (Jvm.Cond.code ({ cls := "java/lang/Math", name := "max", desc := "(II)I" } : Jvm.MethodName) prog_17_method_65_code (2 : Nat) (Option.some Jvm.ClassFile.FieldType.int)) ∈ TB := tb4 4 rfl rfl
theorem k792 : (Jvm.Cond.methodLink "BelievedWords$Search" (67 : Nat) ({ cls := "BelievedWords$Search", name := "soOf", desc := "(I)I" } : Jvm.MethodName)) ∈ TB := tb4 5 rfl rfl
theorem k794 : (Jvm.Cond.instanceMethod ({ cls := "BelievedWords$Search", name := "soOf", desc := "(I)I" } : Jvm.MethodName)) ∈ TB := tb4 7 rfl rfl
theorem k795 : (Jvm.Cond.code ({ cls := "BelievedWords$Search", name := "soOf", desc := "(I)I" } : Jvm.MethodName) prog_9_method_9_code (2 : Nat) (Option.some Jvm.ClassFile.FieldType.int)) ∈ TB := tb4 8 rfl rfl
theorem k796 : (Jvm.Cond.methodLink "BelievedWords$Search" (111 : Nat) ({ cls := "BelievedWords$Search", name := "lead", desc := "(LBelievedWords$Court;I)V" } : Jvm.MethodName)) ∈ TB := tb4 9 rfl rfl
theorem k798 : (Jvm.Cond.instanceMethod ({ cls := "BelievedWords$Search", name := "lead", desc := "(LBelievedWords$Court;I)V" } : Jvm.MethodName)) ∈ TB := tb4 11 rfl rfl
theorem k799 : (Jvm.Cond.code ({ cls := "BelievedWords$Search", name := "lead", desc := "(LBelievedWords$Court;I)V" } : Jvm.MethodName) prog_9_method_11_code (8 : Nat) (Option.none : Option Jvm.ClassFile.FieldType)) ∈ TB := tb4 12 rfl rfl
theorem k800 : (Jvm.Cond.methodLink "BelievedWordsLaw" (82 : Nat) ({ cls := "BelievedWords", name := "cheapest", desc := "(III)I" } : Jvm.MethodName)) ∈ TB := tb4 13 rfl rfl
theorem k801 : (Jvm.Cond.instanceMethod ({ cls := "BelievedWords", name := "cheapest", desc := "(III)I" } : Jvm.MethodName)) ∈ TB := tb4 14 rfl rfl
theorem k802 : (Jvm.Cond.selects "BelievedWords" ({ cls := "BelievedWords", name := "cheapest", desc := "(III)I" } : Jvm.MethodName) ({ cls := "BelievedWords", name := "cheapest", desc := "(III)I" } : Jvm.MethodName)) ∈ TB := tb4 15 rfl rfl
theorem k803 : (Jvm.Cond.code ({ cls := "BelievedWords", name := "cheapest", desc := "(III)I" } : Jvm.MethodName) prog_1_method_18_code (5 : Nat) (Option.some Jvm.ClassFile.FieldType.int)) ∈ TB := tb4 16 rfl rfl
theorem k804 : (Jvm.Cond.methodLink "BelievedWords" (225 : Nat) ({ cls := "BelievedWords$Search", name := "leastCost", desc := "(LBelievedWords$Court;III)I" } : Jvm.MethodName)) ∈ TB := tb4 17 rfl rfl
theorem k805 : (Jvm.Cond.instanceMethod ({ cls := "BelievedWords$Search", name := "leastCost", desc := "(LBelievedWords$Court;III)I" } : Jvm.MethodName)) ∈ TB := tb4 18 rfl rfl
theorem k806 : (Jvm.Cond.selects "BelievedWords$Search" ({ cls := "BelievedWords$Search", name := "leastCost", desc := "(LBelievedWords$Court;III)I" } : Jvm.MethodName) ({ cls := "BelievedWords$Search", name := "leastCost", desc := "(LBelievedWords$Court;III)I" } : Jvm.MethodName)) ∈ TB := tb4 19 rfl rfl
theorem k807 : (Jvm.Cond.code ({ cls := "BelievedWords$Search", name := "leastCost", desc := "(LBelievedWords$Court;III)I" } : Jvm.MethodName) prog_9_method_3_code (6 : Nat) (Option.some Jvm.ClassFile.FieldType.int)) ∈ TB := tb4 20 rfl rfl
theorem k808 : (Jvm.Cond.methodLink "BelievedWordsLaw" (86 : Nat) ({ cls := "BelievedWords", name := "idle", desc := "(I)I" } : Jvm.MethodName)) ∈ TB := tb4 21 rfl rfl
theorem k809 : (Jvm.Cond.instanceMethod ({ cls := "BelievedWords", name := "idle", desc := "(I)I" } : Jvm.MethodName)) ∈ TB := tb4 22 rfl rfl
theorem k810 : (Jvm.Cond.selects "BelievedWords" ({ cls := "BelievedWords", name := "idle", desc := "(I)I" } : Jvm.MethodName) ({ cls := "BelievedWords", name := "idle", desc := "(I)I" } : Jvm.MethodName)) ∈ TB := tb4 23 rfl rfl
theorem k811 : (Jvm.Cond.code ({ cls := "BelievedWords", name := "idle", desc := "(I)I" } : Jvm.MethodName) prog_1_method_19_code (2 : Nat) (Option.some Jvm.ClassFile.FieldType.int)) ∈ TB := tb4 24 rfl rfl
theorem k812 : (Jvm.Cond.methodLink "BelievedWords" (228 : Nat) ({ cls := "BelievedWords$Foresight", name := "idleSayings", desc := "(LBelievedWords$Court;I)I" } : Jvm.MethodName)) ∈ TB := tb4 25 rfl rfl
theorem k813 : (Jvm.Cond.instanceMethod ({ cls := "BelievedWords$Foresight", name := "idleSayings", desc := "(LBelievedWords$Court;I)I" } : Jvm.MethodName)) ∈ TB := tb4 26 rfl rfl
theorem k814 : (Jvm.Cond.selects "BelievedWords$Foresight" ({ cls := "BelievedWords$Foresight", name := "idleSayings", desc := "(LBelievedWords$Court;I)I" } : Jvm.MethodName) ({ cls := "BelievedWords$Foresight", name := "idleSayings", desc := "(LBelievedWords$Court;I)I" } : Jvm.MethodName)) ∈ TB := tb4 27 rfl rfl
theorem k815 : (Jvm.Cond.code ({ cls := "BelievedWords$Foresight", name := "idleSayings", desc := "(LBelievedWords$Court;I)I" } : Jvm.MethodName) prog_5_method_2_code (5 : Nat) (Option.some Jvm.ClassFile.FieldType.int)) ∈ TB := tb4 28 rfl rfl
theorem k816 : (Jvm.Cond.methodLink "BelievedWords$Foresight" (48 : Nat) ({ cls := "BelievedWords$Court", name := "outcome", desc := "(IIII)I" } : Jvm.MethodName)) ∈ TB := tb4 29 rfl rfl
theorem k817 : (Jvm.Cond.methodLink "BelievedWordsLaw" (90 : Nat) ({ cls := "BelievedWords", name := "giveUp", desc := "(II)I" } : Jvm.MethodName)) ∈ TB := tb4 30 rfl rfl
theorem k818 : (Jvm.Cond.instanceMethod ({ cls := "BelievedWords", name := "giveUp", desc := "(II)I" } : Jvm.MethodName)) ∈ TB := tb4 31 rfl rfl
theorem k819 : (Jvm.Cond.selects "BelievedWords" ({ cls := "BelievedWords", name := "giveUp", desc := "(II)I" } : Jvm.MethodName) ({ cls := "BelievedWords", name := "giveUp", desc := "(II)I" } : Jvm.MethodName)) ∈ TB := tb4 32 rfl rfl
theorem k820 : (Jvm.Cond.code ({ cls := "BelievedWords", name := "giveUp", desc := "(II)I" } : Jvm.MethodName) prog_1_method_20_code (4 : Nat) (Option.some Jvm.ClassFile.FieldType.int)) ∈ TB := tb4 33 rfl rfl
theorem k821 : (Jvm.Cond.methodLink "BelievedWords" (235 : Nat) ({ cls := "BelievedWords$Foresight", name := "leftOut", desc := "(LBelievedWords$Court;I)I" } : Jvm.MethodName)) ∈ TB := tb4 34 rfl rfl
theorem k822 : (Jvm.Cond.instanceMethod ({ cls := "BelievedWords$Foresight", name := "leftOut", desc := "(LBelievedWords$Court;I)I" } : Jvm.MethodName)) ∈ TB := tb4 35 rfl rfl
theorem k823 : (Jvm.Cond.selects "BelievedWords$Foresight" ({ cls := "BelievedWords$Foresight", name := "leftOut", desc := "(LBelievedWords$Court;I)I" } : Jvm.MethodName) ({ cls := "BelievedWords$Foresight", name := "leftOut", desc := "(LBelievedWords$Court;I)I" } : Jvm.MethodName)) ∈ TB := tb4 36 rfl rfl
theorem k824 : (Jvm.Cond.code ({ cls := "BelievedWords$Foresight", name := "leftOut", desc := "(LBelievedWords$Court;I)I" } : Jvm.MethodName) prog_5_method_3_code (6 : Nat) (Option.some Jvm.ClassFile.FieldType.int)) ∈ TB := tb4 37 rfl rfl
theorem k825 : (Jvm.Cond.methodLink "BelievedWords$Foresight" (52 : Nat) ({ cls := "java/lang/Integer", name := "bitCount", desc := "(I)I" } : Jvm.MethodName)) ∈ TB := tb4 38 rfl rfl
theorem k826 : (Jvm.Cond.methodLink "BelievedWords$Foresight" (58 : Nat) ({ cls := "BelievedWords$Court", name := "settle", desc := "(I)I" } : Jvm.MethodName)) ∈ TB := tb4 39 rfl rfl
theorem k827 : (Jvm.Cond.constant "BelievedWords$Foresight" (61 : Nat) (-1000000 : Int32)) ∈ TB := tb4 40 rfl rfl
theorem k828 : (Jvm.Cond.methodLink "BelievedWords" (238 : Nat) ({ cls := "java/lang/Integer", name := "bitCount", desc := "(I)I" } : Jvm.MethodName)) ∈ TB := tb4 41 rfl rfl
theorem k829 : (Jvm.Cond.methodLink "BelievedWordsLaw" (94 : Nat) ({ cls := "BelievedWords", name := "order", desc := "(II)I" } : Jvm.MethodName)) ∈ TB := tb4 42 rfl rfl
theorem k830 : (Jvm.Cond.instanceMethod ({ cls := "BelievedWords", name := "order", desc := "(II)I" } : Jvm.MethodName)) ∈ TB := tb4 43 rfl rfl
theorem k831 : (Jvm.Cond.selects "BelievedWords" ({ cls := "BelievedWords", name := "order", desc := "(II)I" } : Jvm.MethodName) ({ cls := "BelievedWords", name := "order", desc := "(II)I" } : Jvm.MethodName)) ∈ TB := tb4 44 rfl rfl
theorem k832 : (Jvm.Cond.code ({ cls := "BelievedWords", name := "order", desc := "(II)I" } : Jvm.MethodName) prog_1_method_21_code (3 : Nat) (Option.some Jvm.ClassFile.FieldType.int)) ∈ TB := tb4 45 rfl rfl
theorem k833 : (Jvm.Cond.methodLink "BelievedWords" (243 : Nat) ({ cls := "BelievedWords$Foresight", name := "inOrder", desc := "(LBelievedWords$Court;II)I" } : Jvm.MethodName)) ∈ TB := tb4 46 rfl rfl
theorem k834 : (Jvm.Cond.instanceMethod ({ cls := "BelievedWords$Foresight", name := "inOrder", desc := "(LBelievedWords$Court;II)I" } : Jvm.MethodName)) ∈ TB := tb4 47 rfl rfl
theorem k835 : (Jvm.Cond.selects "BelievedWords$Foresight" ({ cls := "BelievedWords$Foresight", name := "inOrder", desc := "(LBelievedWords$Court;II)I" } : Jvm.MethodName) ({ cls := "BelievedWords$Foresight", name := "inOrder", desc := "(LBelievedWords$Court;II)I" } : Jvm.MethodName)) ∈ TB := tb4 48 rfl rfl
theorem k836 : (Jvm.Cond.code ({ cls := "BelievedWords$Foresight", name := "inOrder", desc := "(LBelievedWords$Court;II)I" } : Jvm.MethodName) prog_5_method_4_code (8 : Nat) (Option.some Jvm.ClassFile.FieldType.int)) ∈ TB := tb4 49 rfl rfl
theorem k837 : (Jvm.Cond.methodLink "BelievedWords$Foresight" (62 : Nat) ({ cls := "BelievedWords$Foresight", name := "firstFree", desc := "(LBelievedWords$Court;I)I" } : Jvm.MethodName)) ∈ TB := tb4 50 rfl rfl
theorem k838 : (Jvm.Cond.static ({ cls := "BelievedWords$Foresight", name := "firstFree", desc := "(LBelievedWords$Court;I)I" } : Jvm.MethodName)) ∈ TB := tb4 51 rfl rfl
theorem k839 : (Jvm.Cond.code ({ cls := "BelievedWords$Foresight", name := "firstFree", desc := "(LBelievedWords$Court;I)I" } : Jvm.MethodName) prog_5_method_5_code (3 : Nat) (Option.some Jvm.ClassFile.FieldType.int)) ∈ TB := tb4 52 rfl rfl
theorem k840 : (Jvm.Cond.methodLink "BelievedWords$Foresight" (66 : Nat) ({ cls := "BelievedWords$Court", name := "makesAny", desc := "(II)Z" } : Jvm.MethodName)) ∈ TB := tb4 53 rfl rfl
theorem k841 : (Jvm.Cond.instanceMethod ({ cls := "BelievedWords$Court", name := "makesAny", desc := "(II)Z" } : Jvm.MethodName)) ∈ TB := tb4 54 rfl rfl
theorem k842 : (Jvm.Cond.selects "BelievedWords$Court" ({ cls := "BelievedWords$Court", name := "makesAny", desc := "(II)Z" } : Jvm.MethodName) ({ cls := "BelievedWords$Court", name := "makesAny", desc := "(II)Z" } : Jvm.MethodName)) ∈ TB := tb4 55 rfl rfl
theorem k843 : (Jvm.Cond.code ({ cls := "BelievedWords$Court", name := "makesAny", desc := "(II)Z" } : Jvm.MethodName) prog_4_method_16_code (3 : Nat) (Option.some Jvm.ClassFile.FieldType.boolean)) ∈ TB := tb4 56 rfl rfl
theorem k844 : (Jvm.Cond.methodLink "BelievedWordsLaw" (98 : Nat) ({ cls := "BelievedWords", name := "ever", desc := "(I)I" } : Jvm.MethodName)) ∈ TB := tb4 57 rfl rfl
theorem k845 : (Jvm.Cond.instanceMethod ({ cls := "BelievedWords", name := "ever", desc := "(I)I" } : Jvm.MethodName)) ∈ TB := tb4 58 rfl rfl
theorem k846 : (Jvm.Cond.selects "BelievedWords" ({ cls := "BelievedWords", name := "ever", desc := "(I)I" } : Jvm.MethodName) ({ cls := "BelievedWords", name := "ever", desc := "(I)I" } : Jvm.MethodName)) ∈ TB := tb4 59 rfl rfl
theorem k847 : (Jvm.Cond.code ({ cls := "BelievedWords", name := "ever", desc := "(I)I" } : Jvm.MethodName) prog_1_method_22_code (2 : Nat) (Option.some Jvm.ClassFile.FieldType.int)) ∈ TB := tb4 60 rfl rfl
theorem k848 : (Jvm.Cond.methodLink "BelievedWords" (247 : Nat) ({ cls := "BelievedWords$Search", name := "reachable", desc := "(LBelievedWords$Court;I)I" } : Jvm.MethodName)) ∈ TB := tb4 61 rfl rfl
theorem k849 : (Jvm.Cond.instanceMethod ({ cls := "BelievedWords$Search", name := "reachable", desc := "(LBelievedWords$Court;I)I" } : Jvm.MethodName)) ∈ TB := tb4 62 rfl rfl
theorem k850 : (Jvm.Cond.selects "BelievedWords$Search" ({ cls := "BelievedWords$Search", name := "reachable", desc := "(LBelievedWords$Court;I)I" } : Jvm.MethodName) ({ cls := "BelievedWords$Search", name := "reachable", desc := "(LBelievedWords$Court;I)I" } : Jvm.MethodName)) ∈ TB := tb4 63 rfl rfl
theorem k851 : (Jvm.Cond.code ({ cls := "BelievedWords$Search", name := "reachable", desc := "(LBelievedWords$Court;I)I" } : Jvm.MethodName) prog_9_method_4_code (7 : Nat) (Option.some Jvm.ClassFile.FieldType.int)) ∈ TB := tb4 64 rfl rfl
theorem k852 : (Jvm.Cond.methodLink "BelievedWords$Search" (71 : Nat) ({ cls := "java/lang/Long", name := "bitCount", desc := "(J)I" } : Jvm.MethodName)) ∈ TB := tb4 65 rfl rfl
theorem k853 : (Jvm.Cond.static ({ cls := "java/lang/Long", name := "bitCount", desc := "(J)I" } : Jvm.MethodName)) ∈ TB := tb4 66 rfl rfl
theorem k854 : (Jvm.Cond.code ({ cls := "java/lang/Long", name := "bitCount", desc := "(J)I" } : Jvm.MethodName) prog_16_method_50_code (2 : Nat) (Option.some Jvm.ClassFile.FieldType.int)) ∈ TB := tb4 67 rfl rfl
theorem k855 : (Jvm.Cond.constantLong "java/lang/Long" (314 : Nat) (6148914691236517205 : Int64)) ∈ TB := tb4 68 rfl rfl
theorem k856 : (Jvm.Cond.constantLong "java/lang/Long" (316 : Nat) (3689348814741910323 : Int64)) ∈ TB := tb4 69 rfl rfl
theorem k857 : (Jvm.Cond.constantLong "java/lang/Long" (318 : Nat) (1085102592571150095 : Int64)) ∈ TB := tb4 70 rfl rfl
theorem k858 : (Jvm.Cond.methodLink "BelievedWordsLaw" (102 : Nat) ({ cls := "BelievedWords", name := "said", desc := "(IIIII)I" } : Jvm.MethodName)) ∈ TB := tb4 71 rfl rfl
theorem k859 : (Jvm.Cond.instanceMethod ({ cls := "BelievedWords", name := "said", desc := "(IIIII)I" } : Jvm.MethodName)) ∈ TB := tb4 72 rfl rfl
theorem k860 : (Jvm.Cond.selects "BelievedWords" ({ cls := "BelievedWords", name := "said", desc := "(IIIII)I" } : Jvm.MethodName) ({ cls := "BelievedWords", name := "said", desc := "(IIIII)I" } : Jvm.MethodName)) ∈ TB := tb4 73 rfl rfl
theorem k861 : (Jvm.Cond.code ({ cls := "BelievedWords", name := "said", desc := "(IIIII)I" } : Jvm.MethodName) prog_1_method_23_code (7 : Nat) (Option.some Jvm.ClassFile.FieldType.int)) ∈ TB := tb4 74 rfl rfl
theorem k862 : (Jvm.Cond.methodLink "BelievedWords" (250 : Nat) ({ cls := "BelievedWords$Rows", name := "itemsFrom", desc := "(III)[I" } : Jvm.MethodName)) ∈ TB := tb4 75 rfl rfl
theorem k863 : (Jvm.Cond.instanceMethod ({ cls := "BelievedWords$Rows", name := "itemsFrom", desc := "(III)[I" } : Jvm.MethodName)) ∈ TB := tb4 76 rfl rfl
theorem k864 : (Jvm.Cond.selects "BelievedWords$Rows" ({ cls := "BelievedWords$Rows", name := "itemsFrom", desc := "(III)[I" } : Jvm.MethodName) ({ cls := "BelievedWords$Rows", name := "itemsFrom", desc := "(III)[I" } : Jvm.MethodName)) ∈ TB := tb4 77 rfl rfl
theorem k865 : (Jvm.Cond.code ({ cls := "BelievedWords$Rows", name := "itemsFrom", desc := "(III)[I" } : Jvm.MethodName) prog_8_method_9_code (4 : Nat) (Option.some (Jvm.ClassFile.FieldType.array Jvm.ClassFile.FieldType.int))) ∈ TB := tb4 78 rfl rfl
theorem k866 : (Jvm.Cond.methodLink "BelievedWords$Rows" (39 : Nat) ({ cls := "java/util/Arrays", name := "copyOfRange", desc := "([III)[I" } : Jvm.MethodName)) ∈ TB := tb4 79 rfl rfl
theorem k867 : (Jvm.Cond.static ({ cls := "java/util/Arrays", name := "copyOfRange", desc := "([III)[I" } : Jvm.MethodName)) ∈ TB := tb4 80 rfl rfl
theorem k868 : (Jvm.Cond.code ({ cls := "java/util/Arrays", name := "copyOfRange", desc := "([III)[I" } : Jvm.MethodName) prog_19_method_136_code (3 : Nat) (Option.some (Jvm.ClassFile.FieldType.array Jvm.ClassFile.FieldType.int))) ∈ TB := tb4 81 rfl rfl
theorem k869 : (Jvm.Cond.methodLink "java/util/Arrays" (351 : Nat) ({ cls := "java/util/Arrays", name := "copyOfRangeInt", desc := "([III)[I" } : Jvm.MethodName)) ∈ TB := tb4 82 rfl rfl
theorem k870 : (Jvm.Cond.static ({ cls := "java/util/Arrays", name := "copyOfRangeInt", desc := "([III)[I" } : Jvm.MethodName)) ∈ TB := tb4 83 rfl rfl
theorem k871 : (Jvm.Cond.code ({ cls := "java/util/Arrays", name := "copyOfRangeInt", desc := "([III)[I" } : Jvm.MethodName) prog_19_method_137_code (5 : Nat) (Option.some (Jvm.ClassFile.FieldType.array Jvm.ClassFile.FieldType.int))) ∈ TB := tb4 84 rfl rfl
theorem k872 : (Jvm.Cond.methodLink "java/util/Arrays" (343 : Nat) ({ cls := "java/util/Arrays", name := "checkLength", desc := "(II)V" } : Jvm.MethodName)) ∈ TB := tb4 85 rfl rfl
theorem k873 : (Jvm.Cond.static ({ cls := "java/util/Arrays", name := "checkLength", desc := "(II)V" } : Jvm.MethodName)) ∈ TB := tb4 86 rfl rfl
theorem k874 : (Jvm.Cond.code ({ cls := "java/util/Arrays", name := "checkLength", desc := "(II)V" } : Jvm.MethodName) prog_19_method_131_code (2 : Nat) (Option.none : Option Jvm.ClassFile.FieldType)) ∈ TB := tb4 87 rfl rfl
theorem k875 : (Jvm.Cond.methodLink "java/util/Arrays" (304 : Nat) ({ cls := "java/lang/Math", name := "min", desc := "(II)I" } : Jvm.MethodName)) ∈ TB := tb4 88 rfl rfl
theorem k876 : (Jvm.Cond.methodLink "java/util/Arrays" (150 : Nat) ({ cls := "java/lang/System", name := "arraycopy", desc := "(Ljava/lang/Object;ILjava/lang/Object;II)V" } : Jvm.MethodName)) ∈ TB := tb4 89 rfl rfl
theorem k877 : (Jvm.Cond.methodLink "java/util/Arrays" (316 : Nat) ({ cls := "[I", name := "clone", desc := "()Ljava/lang/Object;" } : Jvm.MethodName)) ∈ TB := tb4 90 rfl rfl
theorem k879 : (Jvm.Cond.native ({ cls := "java/lang/Object", name := "clone", desc := "()Ljava/lang/Object;" } : Jvm.MethodName)) ∈ TB := tb4 92 rfl rfl
theorem k880 : (Jvm.Cond.instanceMethod ({ cls := "java/lang/Object", name := "clone", desc := "()Ljava/lang/Object;" } : Jvm.MethodName)) ∈ TB := tb4 93 rfl rfl
theorem k881 : (Jvm.Cond.selects "[I" ({ cls := "[I", name := "clone", desc := "()Ljava/lang/Object;" } : Jvm.MethodName) ({ cls := "java/lang/Object", name := "clone", desc := "()Ljava/lang/Object;" } : Jvm.MethodName)) ∈ TB := tb4 94 rfl rfl
theorem k884 : (Jvm.Cond.methodLink "BelievedWords" (254 : Nat) ({ cls := "BelievedWords$Foresight", name := "tellRows", desc := "(LBelievedWords$Court;I[I)V" } : Jvm.MethodName)) ∈ TB := tb4 97 rfl rfl
theorem k885 : (Jvm.Cond.instanceMethod ({ cls := "BelievedWords$Foresight", name := "tellRows", desc := "(LBelievedWords$Court;I[I)V" } : Jvm.MethodName)) ∈ TB := tb4 98 rfl rfl
theorem k886 : (Jvm.Cond.selects "BelievedWords$Foresight" ({ cls := "BelievedWords$Foresight", name := "tellRows", desc := "(LBelievedWords$Court;I[I)V" } : Jvm.MethodName) ({ cls := "BelievedWords$Foresight", name := "tellRows", desc := "(LBelievedWords$Court;I[I)V" } : Jvm.MethodName)) ∈ TB := tb4 99 rfl rfl
theorem k887 : (Jvm.Cond.code ({ cls := "BelievedWords$Foresight", name := "tellRows", desc := "(LBelievedWords$Court;I[I)V" } : Jvm.MethodName) prog_5_method_6_code (7 : Nat) (Option.none : Option Jvm.ClassFile.FieldType)) ∈ TB := tb4 100 rfl rfl
theorem k888 : (Jvm.Cond.methodLink "BelievedWords$Foresight" (70 : Nat) ({ cls := "java/util/Arrays", name := "fill", desc := "([II)V" } : Jvm.MethodName)) ∈ TB := tb4 101 rfl rfl
theorem k889 : (Jvm.Cond.methodLink "BelievedWords$Foresight" (76 : Nat) ({ cls := "BelievedWords$Foresight", name := "tellSaying", desc := "(LBelievedWords$Court;IIIIZ)V" } : Jvm.MethodName)) ∈ TB := tb4 102 rfl rfl
theorem k891 : (Jvm.Cond.instanceMethod ({ cls := "BelievedWords$Foresight", name := "tellSaying", desc := "(LBelievedWords$Court;IIIIZ)V" } : Jvm.MethodName)) ∈ TB := tb4 104 rfl rfl
theorem k892 : (Jvm.Cond.code ({ cls := "BelievedWords$Foresight", name := "tellSaying", desc := "(LBelievedWords$Court;IIIIZ)V" } : Jvm.MethodName) prog_5_method_7_code (11 : Nat) (Option.none : Option Jvm.ClassFile.FieldType)) ∈ TB := tb4 105 rfl rfl
theorem k893 : (Jvm.Cond.methodLink "BelievedWords$Foresight" (83 : Nat) ({ cls := "BelievedWords$Court", name := "factOf", desc := "(I)I" } : Jvm.MethodName)) ∈ TB := tb4 106 rfl rfl
theorem k894 : (Jvm.Cond.methodLink "BelievedWords$Foresight" (80 : Nat) ({ cls := "BelievedWords$Foresight", name := "turnOver", desc := "()V" } : Jvm.MethodName)) ∈ TB := tb4 107 rfl rfl
theorem k896 : (Jvm.Cond.instanceMethod ({ cls := "BelievedWords$Foresight", name := "turnOver", desc := "()V" } : Jvm.MethodName)) ∈ TB := tb4 109 rfl rfl
theorem k897 : (Jvm.Cond.code ({ cls := "BelievedWords$Foresight", name := "turnOver", desc := "()V" } : Jvm.MethodName) prog_5_method_8_code (3 : Nat) (Option.none : Option Jvm.ClassFile.FieldType)) ∈ TB := tb4 110 rfl rfl
theorem k898 : (Jvm.Cond.methodLink "BelievedWords" (258 : Nat) ({ cls := "BelievedWords$Foresight", name := "waysInAll", desc := "()I" } : Jvm.MethodName)) ∈ TB := tb4 111 rfl rfl
theorem k899 : (Jvm.Cond.instanceMethod ({ cls := "BelievedWords$Foresight", name := "waysInAll", desc := "()I" } : Jvm.MethodName)) ∈ TB := tb4 112 rfl rfl
theorem k900 : (Jvm.Cond.selects "BelievedWords$Foresight" ({ cls := "BelievedWords$Foresight", name := "waysInAll", desc := "()I" } : Jvm.MethodName) ({ cls := "BelievedWords$Foresight", name := "waysInAll", desc := "()I" } : Jvm.MethodName)) ∈ TB := tb4 113 rfl rfl
theorem k901 : (Jvm.Cond.code ({ cls := "BelievedWords$Foresight", name := "waysInAll", desc := "()I" } : Jvm.MethodName) prog_5_method_9_code (3 : Nat) (Option.some Jvm.ClassFile.FieldType.int)) ∈ TB := tb4 114 rfl rfl
theorem k902 : (Jvm.Cond.methodLink "BelievedWords" (261 : Nat) ({ cls := "BelievedWords$Foresight", name := "firstOfAll", desc := "()I" } : Jvm.MethodName)) ∈ TB := tb4 115 rfl rfl
theorem k903 : (Jvm.Cond.instanceMethod ({ cls := "BelievedWords$Foresight", name := "firstOfAll", desc := "()I" } : Jvm.MethodName)) ∈ TB := tb4 116 rfl rfl
theorem k904 : (Jvm.Cond.selects "BelievedWords$Foresight" ({ cls := "BelievedWords$Foresight", name := "firstOfAll", desc := "()I" } : Jvm.MethodName) ({ cls := "BelievedWords$Foresight", name := "firstOfAll", desc := "()I" } : Jvm.MethodName)) ∈ TB := tb4 117 rfl rfl
theorem k905 : (Jvm.Cond.code ({ cls := "BelievedWords$Foresight", name := "firstOfAll", desc := "()I" } : Jvm.MethodName) prog_5_method_10_code (3 : Nat) (Option.some Jvm.ClassFile.FieldType.int)) ∈ TB := tb4 118 rfl rfl
theorem k906 : (Jvm.Cond.methodLink "BelievedWordsLaw" (106 : Nat) ({ cls := "BelievedWords", name := "who", desc := "(IIII)I" } : Jvm.MethodName)) ∈ TB := tb4 119 rfl rfl
theorem k907 : (Jvm.Cond.instanceMethod ({ cls := "BelievedWords", name := "who", desc := "(IIII)I" } : Jvm.MethodName)) ∈ TB := tb4 120 rfl rfl
theorem k908 : (Jvm.Cond.selects "BelievedWords" ({ cls := "BelievedWords", name := "who", desc := "(IIII)I" } : Jvm.MethodName) ({ cls := "BelievedWords", name := "who", desc := "(IIII)I" } : Jvm.MethodName)) ∈ TB := tb4 121 rfl rfl
theorem k909 : (Jvm.Cond.code ({ cls := "BelievedWords", name := "who", desc := "(IIII)I" } : Jvm.MethodName) prog_1_method_24_code (8 : Nat) (Option.some Jvm.ClassFile.FieldType.int)) ∈ TB := tb4 122 rfl rfl
theorem k910 : (Jvm.Cond.methodLink "BelievedWords" (264 : Nat) ({ cls := "BelievedWords$Foresight", name := "fittingKinds", desc := "(LBelievedWords$Court;[I)I" } : Jvm.MethodName)) ∈ TB := tb4 123 rfl rfl
theorem k911 : (Jvm.Cond.instanceMethod ({ cls := "BelievedWords$Foresight", name := "fittingKinds", desc := "(LBelievedWords$Court;[I)I" } : Jvm.MethodName)) ∈ TB := tb4 124 rfl rfl
theorem k912 : (Jvm.Cond.selects "BelievedWords$Foresight" ({ cls := "BelievedWords$Foresight", name := "fittingKinds", desc := "(LBelievedWords$Court;[I)I" } : Jvm.MethodName) ({ cls := "BelievedWords$Foresight", name := "fittingKinds", desc := "(LBelievedWords$Court;[I)I" } : Jvm.MethodName)) ∈ TB := tb4 125 rfl rfl
theorem k913 : (Jvm.Cond.code ({ cls := "BelievedWords$Foresight", name := "fittingKinds", desc := "(LBelievedWords$Court;[I)I" } : Jvm.MethodName) prog_5_method_11_code (5 : Nat) (Option.some Jvm.ClassFile.FieldType.int)) ∈ TB := tb4 126 rfl rfl
theorem k914 : (Jvm.Cond.methodLink "BelievedWords$Foresight" (86 : Nat) ({ cls := "BelievedWords$Foresight", name := "fits", desc := "(LBelievedWords$Court;I[I)Z" } : Jvm.MethodName)) ∈ TB := tb4 127 rfl rfl
theorem k915 : (Jvm.Cond.static ({ cls := "BelievedWords$Foresight", name := "fits", desc := "(LBelievedWords$Court;I[I)Z" } : Jvm.MethodName)) ∈ TB := tb4 128 rfl rfl
theorem k916 : (Jvm.Cond.code ({ cls := "BelievedWords$Foresight", name := "fits", desc := "(LBelievedWords$Court;I[I)Z" } : Jvm.MethodName) prog_5_method_12_code (6 : Nat) (Option.some Jvm.ClassFile.FieldType.boolean)) ∈ TB := tb4 129 rfl rfl
theorem k917 : (Jvm.Cond.methodLink "BelievedWords$Foresight" (90 : Nat) ({ cls := "BelievedWords$Court", name := "soBehind", desc := "(IIII)I" } : Jvm.MethodName)) ∈ TB := tb4 130 rfl rfl
theorem k918 : (Jvm.Cond.instanceMethod ({ cls := "BelievedWords$Court", name := "soBehind", desc := "(IIII)I" } : Jvm.MethodName)) ∈ TB := tb4 131 rfl rfl
theorem k919 : (Jvm.Cond.selects "BelievedWords$Court" ({ cls := "BelievedWords$Court", name := "soBehind", desc := "(IIII)I" } : Jvm.MethodName) ({ cls := "BelievedWords$Court", name := "soBehind", desc := "(IIII)I" } : Jvm.MethodName)) ∈ TB := tb4 132 rfl rfl
theorem k920 : (Jvm.Cond.code ({ cls := "BelievedWords$Court", name := "soBehind", desc := "(IIII)I" } : Jvm.MethodName) prog_4_method_11_code (6 : Nat) (Option.some Jvm.ClassFile.FieldType.int)) ∈ TB := tb4 133 rfl rfl
theorem k921 : (Jvm.Cond.methodLink "BelievedWordsLaw" (111 : Nat) ({ cls := "BelievedWords", name := "temper", desc := "(IIIIII)J" } : Jvm.MethodName)) ∈ TB := tb4 134 rfl rfl
theorem k922 : (Jvm.Cond.instanceMethod ({ cls := "BelievedWords", name := "temper", desc := "(IIIIII)J" } : Jvm.MethodName)) ∈ TB := tb4 135 rfl rfl
theorem k923 : (Jvm.Cond.selects "BelievedWords" ({ cls := "BelievedWords", name := "temper", desc := "(IIIIII)J" } : Jvm.MethodName) ({ cls := "BelievedWords", name := "temper", desc := "(IIIIII)J" } : Jvm.MethodName)) ∈ TB := tb4 136 rfl rfl
theorem k924 : (Jvm.Cond.code ({ cls := "BelievedWords", name := "temper", desc := "(IIIIII)J" } : Jvm.MethodName) prog_1_method_25_code (10 : Nat) (Option.some Jvm.ClassFile.FieldType.long)) ∈ TB := tb4 137 rfl rfl
theorem k925 : (Jvm.Cond.constantLong "BelievedWords" (268 : Nat) (-1000002 : Int64)) ∈ TB := tb4 138 rfl rfl
theorem k926 : (Jvm.Cond.constantLong "BelievedWords" (270 : Nat) (-1000001 : Int64)) ∈ TB := tb4 139 rfl rfl
theorem k927 : (Jvm.Cond.methodLink "BelievedWords" (275 : Nat) ({ cls := "BelievedWords$Foresight", name := "likelihood", desc := "(LBelievedWords$Court;II[II)J" } : Jvm.MethodName)) ∈ TB := tb4 140 rfl rfl
theorem k928 : (Jvm.Cond.instanceMethod ({ cls := "BelievedWords$Foresight", name := "likelihood", desc := "(LBelievedWords$Court;II[II)J" } : Jvm.MethodName)) ∈ TB := tb4 141 rfl rfl
theorem k929 : (Jvm.Cond.selects "BelievedWords$Foresight" ({ cls := "BelievedWords$Foresight", name := "likelihood", desc := "(LBelievedWords$Court;II[II)J" } : Jvm.MethodName) ({ cls := "BelievedWords$Foresight", name := "likelihood", desc := "(LBelievedWords$Court;II[II)J" } : Jvm.MethodName)) ∈ TB := tb4 142 rfl rfl
theorem k930 : (Jvm.Cond.code ({ cls := "BelievedWords$Foresight", name := "likelihood", desc := "(LBelievedWords$Court;II[II)J" } : Jvm.MethodName) prog_5_method_13_code (14 : Nat) (Option.some Jvm.ClassFile.FieldType.long)) ∈ TB := tb4 143 rfl rfl
theorem k931 : (Jvm.Cond.constantLong "BelievedWords$Foresight" (93 : Nat) (10 : Int64)) ∈ TB := tb4 144 rfl rfl
theorem k932 : (Jvm.Cond.methodLink "BelievedWords$Foresight" (95 : Nat) ({ cls := "BelievedWords$Foresight", name := "cases", desc := "(III)J" } : Jvm.MethodName)) ∈ TB := tb4 145 rfl rfl
theorem k933 : (Jvm.Cond.static ({ cls := "BelievedWords$Foresight", name := "cases", desc := "(III)J" } : Jvm.MethodName)) ∈ TB := tb4 146 rfl rfl
theorem k934 : (Jvm.Cond.code ({ cls := "BelievedWords$Foresight", name := "cases", desc := "(III)J" } : Jvm.MethodName) prog_5_method_14_code (6 : Nat) (Option.some Jvm.ClassFile.FieldType.long)) ∈ TB := tb4 147 rfl rfl
theorem k935 : (Jvm.Cond.methodLink "BelievedWords$Foresight" (99 : Nat) ({ cls := "BelievedWords$Foresight", name := "soByPlan", desc := "(LBelievedWords$Court;[II)I" } : Jvm.MethodName)) ∈ TB := tb4 148 rfl rfl
theorem k936 : (Jvm.Cond.static ({ cls := "BelievedWords$Foresight", name := "soByPlan", desc := "(LBelievedWords$Court;[II)I" } : Jvm.MethodName)) ∈ TB := tb4 149 rfl rfl
theorem k937 : (Jvm.Cond.code ({ cls := "BelievedWords$Foresight", name := "soByPlan", desc := "(LBelievedWords$Court;[II)I" } : Jvm.MethodName) prog_5_method_15_code (7 : Nat) (Option.some Jvm.ClassFile.FieldType.int)) ∈ TB := tb4 150 rfl rfl
theorem k938 : (Jvm.Cond.methodLink "BelievedWords$Foresight" (103 : Nat) ({ cls := "BelievedWords$Foresight", name := "commonDivisor", desc := "(JJ)J" } : Jvm.MethodName)) ∈ TB := tb4 151 rfl rfl
theorem k939 : (Jvm.Cond.static ({ cls := "BelievedWords$Foresight", name := "commonDivisor", desc := "(JJ)J" } : Jvm.MethodName)) ∈ TB := tb4 152 rfl rfl
theorem k940 : (Jvm.Cond.code ({ cls := "BelievedWords$Foresight", name := "commonDivisor", desc := "(JJ)J" } : Jvm.MethodName) prog_5_method_16_code (11 : Nat) (Option.some Jvm.ClassFile.FieldType.long)) ∈ TB := tb4 153 rfl rfl
theorem k941 : (Jvm.Cond.constantLong "BelievedWords$Foresight" (107 : Nat) (-1000000 : Int64)) ∈ TB := tb4 154 rfl rfl
theorem k942 : (Jvm.Cond.methodLink "BelievedWordsLaw" (116 : Nat) ({ cls := "BelievedWords", name := "drawn", desc := "(III)I" } : Jvm.MethodName)) ∈ TB := tb4 155 rfl rfl
theorem k943 : (Jvm.Cond.instanceMethod ({ cls := "BelievedWords", name := "drawn", desc := "(III)I" } : Jvm.MethodName)) ∈ TB := tb4 156 rfl rfl
theorem k944 : (Jvm.Cond.selects "BelievedWords" ({ cls := "BelievedWords", name := "drawn", desc := "(III)I" } : Jvm.MethodName) ({ cls := "BelievedWords", name := "drawn", desc := "(III)I" } : Jvm.MethodName)) ∈ TB := tb4 157 rfl rfl
theorem k945 : (Jvm.Cond.code ({ cls := "BelievedWords", name := "drawn", desc := "(III)I" } : Jvm.MethodName) prog_1_method_26_code (4 : Nat) (Option.some Jvm.ClassFile.FieldType.int)) ∈ TB := tb4 158 rfl rfl
theorem k946 : (Jvm.Cond.constant "BelievedWords" (279 : Nat) (999999 : Int32)) ∈ TB := tb4 159 rfl rfl
theorem k947 : (Jvm.Cond.methodLink "BelievedWords" (280 : Nat) ({ cls := "BelievedWords$Foresight", name := "talk", desc := "(LBelievedWords$Court;III)I" } : Jvm.MethodName)) ∈ TB := tb4 160 rfl rfl
theorem k948 : (Jvm.Cond.instanceMethod ({ cls := "BelievedWords$Foresight", name := "talk", desc := "(LBelievedWords$Court;III)I" } : Jvm.MethodName)) ∈ TB := tb4 161 rfl rfl
theorem k949 : (Jvm.Cond.selects "BelievedWords$Foresight" ({ cls := "BelievedWords$Foresight", name := "talk", desc := "(LBelievedWords$Court;III)I" } : Jvm.MethodName) ({ cls := "BelievedWords$Foresight", name := "talk", desc := "(LBelievedWords$Court;III)I" } : Jvm.MethodName)) ∈ TB := tb4 162 rfl rfl
theorem k950 : (Jvm.Cond.code ({ cls := "BelievedWords$Foresight", name := "talk", desc := "(LBelievedWords$Court;III)I" } : Jvm.MethodName) prog_5_method_17_code (14 : Nat) (Option.some Jvm.ClassFile.FieldType.int)) ∈ TB := tb4 163 rfl rfl
theorem k951 : (Jvm.Cond.methodLink "BelievedWords$Foresight" (112 : Nat) ({ cls := "BelievedWords$Court", name := "isOpen", desc := "()Z" } : Jvm.MethodName)) ∈ TB := tb4 164 rfl rfl
theorem k952 : (Jvm.Cond.constant "BelievedWords$Foresight" (119 : Nat) (-1000002 : Int32)) ∈ TB := tb4 165 rfl rfl
theorem k953 : (Jvm.Cond.constantLong "BelievedWords$Foresight" (120 : Nat) (16807 : Int64)) ∈ TB := tb4 166 rfl rfl
theorem k954 : (Jvm.Cond.constantLong "BelievedWords$Foresight" (122 : Nat) (2147483647 : Int64)) ∈ TB := tb4 167 rfl rfl
theorem k955 : (Jvm.Cond.methodLink "BelievedWords$Foresight" (124 : Nat) ({ cls := "BelievedWords$Court", name := "price", desc := "(II)I" } : Jvm.MethodName)) ∈ TB := tb4 168 rfl rfl
theorem k956 : (Jvm.Cond.methodLink "BelievedWordsLaw" (120 : Nat) ({ cls := "BelievedWords", name := "image", desc := "(I)I" } : Jvm.MethodName)) ∈ TB := tb4 169 rfl rfl
theorem k957 : (Jvm.Cond.instanceMethod ({ cls := "BelievedWords", name := "image", desc := "(I)I" } : Jvm.MethodName)) ∈ TB := tb4 170 rfl rfl
theorem k958 : (Jvm.Cond.selects "BelievedWords" ({ cls := "BelievedWords", name := "image", desc := "(I)I" } : Jvm.MethodName) ({ cls := "BelievedWords", name := "image", desc := "(I)I" } : Jvm.MethodName)) ∈ TB := tb4 171 rfl rfl
theorem k959 : (Jvm.Cond.code ({ cls := "BelievedWords", name := "image", desc := "(I)I" } : Jvm.MethodName) prog_1_method_27_code (2 : Nat) (Option.some Jvm.ClassFile.FieldType.int)) ∈ TB := tb4 172 rfl rfl
theorem k960 : (Jvm.Cond.methodLink "BelievedWords" (283 : Nat) ({ cls := "BelievedWords", name := "isImage", desc := "(I)Z" } : Jvm.MethodName)) ∈ TB := tb4 173 rfl rfl
theorem k961 : (Jvm.Cond.static ({ cls := "BelievedWords", name := "isImage", desc := "(I)Z" } : Jvm.MethodName)) ∈ TB := tb4 174 rfl rfl
theorem k962 : (Jvm.Cond.code ({ cls := "BelievedWords", name := "isImage", desc := "(I)Z" } : Jvm.MethodName) prog_1_method_39_code (1 : Nat) (Option.some Jvm.ClassFile.FieldType.boolean)) ∈ TB := tb4 175 rfl rfl
theorem k963 : (Jvm.Cond.methodLink "BelievedWords" (286 : Nat) ({ cls := "BelievedWords$Image", name := "take", desc := "(LBelievedWords$Court;)V" } : Jvm.MethodName)) ∈ TB := tb4 176 rfl rfl
theorem k964 : (Jvm.Cond.instanceMethod ({ cls := "BelievedWords$Image", name := "take", desc := "(LBelievedWords$Court;)V" } : Jvm.MethodName)) ∈ TB := tb4 177 rfl rfl
theorem k965 : (Jvm.Cond.selects "BelievedWords$Image" ({ cls := "BelievedWords$Image", name := "take", desc := "(LBelievedWords$Court;)V" } : Jvm.MethodName) ({ cls := "BelievedWords$Image", name := "take", desc := "(LBelievedWords$Court;)V" } : Jvm.MethodName)) ∈ TB := tb4 178 rfl rfl
theorem k966 : (Jvm.Cond.code ({ cls := "BelievedWords$Image", name := "take", desc := "(LBelievedWords$Court;)V" } : Jvm.MethodName) prog_6_method_2_code (2 : Nat) (Option.none : Option Jvm.ClassFile.FieldType)) ∈ TB := tb4 179 rfl rfl
theorem k967 : (Jvm.Cond.methodLink "BelievedWords$Image" (26 : Nat) ({ cls := "BelievedWords$Law", name := "become", desc := "(LBelievedWords$Law;)V" } : Jvm.MethodName)) ∈ TB := tb4 180 rfl rfl
theorem k968 : (Jvm.Cond.methodLink "BelievedWords$Image" (33 : Nat) ({ cls := "BelievedWords$Standing", name := "become", desc := "(LBelievedWords$Standing;)V" } : Jvm.MethodName)) ∈ TB := tb4 181 rfl rfl
theorem k969 : (Jvm.Cond.methodLink "BelievedWordsLaw" (124 : Nat) ({ cls := "BelievedWords", name := "restore", desc := "(I)I" } : Jvm.MethodName)) ∈ TB := tb4 182 rfl rfl
theorem k970 : (Jvm.Cond.instanceMethod ({ cls := "BelievedWords", name := "restore", desc := "(I)I" } : Jvm.MethodName)) ∈ TB := tb4 183 rfl rfl
theorem k971 : (Jvm.Cond.selects "BelievedWords" ({ cls := "BelievedWords", name := "restore", desc := "(I)I" } : Jvm.MethodName) ({ cls := "BelievedWords", name := "restore", desc := "(I)I" } : Jvm.MethodName)) ∈ TB := tb4 184 rfl rfl
theorem k972 : (Jvm.Cond.code ({ cls := "BelievedWords", name := "restore", desc := "(I)I" } : Jvm.MethodName) prog_1_method_28_code (2 : Nat) (Option.some Jvm.ClassFile.FieldType.int)) ∈ TB := tb4 185 rfl rfl
theorem k973 : (Jvm.Cond.methodLink "BelievedWords" (298 : Nat) ({ cls := "BelievedWords$Court", name := "resume", desc := "(LBelievedWords$Law;LBelievedWords$Standing;)V" } : Jvm.MethodName)) ∈ TB := tb4 186 rfl rfl
theorem k974 : (Jvm.Cond.instanceMethod ({ cls := "BelievedWords$Court", name := "resume", desc := "(LBelievedWords$Law;LBelievedWords$Standing;)V" } : Jvm.MethodName)) ∈ TB := tb4 187 rfl rfl
theorem k975 : (Jvm.Cond.selects "BelievedWords$Court" ({ cls := "BelievedWords$Court", name := "resume", desc := "(LBelievedWords$Law;LBelievedWords$Standing;)V" } : Jvm.MethodName) ({ cls := "BelievedWords$Court", name := "resume", desc := "(LBelievedWords$Law;LBelievedWords$Standing;)V" } : Jvm.MethodName)) ∈ TB := tb4 188 rfl rfl
theorem k976 : (Jvm.Cond.code ({ cls := "BelievedWords$Court", name := "resume", desc := "(LBelievedWords$Law;LBelievedWords$Standing;)V" } : Jvm.MethodName) prog_4_method_4_code (3 : Nat) (Option.none : Option Jvm.ClassFile.FieldType)) ∈ TB := tb4 189 rfl rfl
theorem k977 : (Jvm.Cond.methodLink "BelievedWords$Court" (53 : Nat) ({ cls := "BelievedWords$Court", name := "goBack", desc := "(LBelievedWords$Standing;)V" } : Jvm.MethodName)) ∈ TB := tb4 190 rfl rfl
theorem k978 : (Jvm.Cond.methodLink "BelievedWordsLaw" (128 : Nat) ({ cls := "BelievedWords", name := "kind", desc := "(I)I" } : Jvm.MethodName)) ∈ TB := tb4 191 rfl rfl
theorem k979 : (Jvm.Cond.instanceMethod ({ cls := "BelievedWords", name := "kind", desc := "(I)I" } : Jvm.MethodName)) ∈ TB := tb4 192 rfl rfl
theorem k980 : (Jvm.Cond.selects "BelievedWords" ({ cls := "BelievedWords", name := "kind", desc := "(I)I" } : Jvm.MethodName) ({ cls := "BelievedWords", name := "kind", desc := "(I)I" } : Jvm.MethodName)) ∈ TB := tb4 193 rfl rfl
theorem k981 : (Jvm.Cond.code ({ cls := "BelievedWords", name := "kind", desc := "(I)I" } : Jvm.MethodName) prog_1_method_29_code (2 : Nat) (Option.some Jvm.ClassFile.FieldType.int)) ∈ TB := tb4 194 rfl rfl
theorem k982 : (Jvm.Cond.methodLink "BelievedWordsLaw" (132 : Nat) ({ cls := "BelievedWords", name := "as", desc := "(II)I" } : Jvm.MethodName)) ∈ TB := tb4 195 rfl rfl
theorem k983 : (Jvm.Cond.instanceMethod ({ cls := "BelievedWords", name := "as", desc := "(II)I" } : Jvm.MethodName)) ∈ TB := tb4 196 rfl rfl
theorem k984 : (Jvm.Cond.selects "BelievedWords" ({ cls := "BelievedWords", name := "as", desc := "(II)I" } : Jvm.MethodName) ({ cls := "BelievedWords", name := "as", desc := "(II)I" } : Jvm.MethodName)) ∈ TB := tb4 197 rfl rfl
theorem k985 : (Jvm.Cond.code ({ cls := "BelievedWords", name := "as", desc := "(II)I" } : Jvm.MethodName) prog_1_method_30_code (3 : Nat) (Option.some Jvm.ClassFile.FieldType.int)) ∈ TB := tb4 198 rfl rfl
theorem k986 : (Jvm.Cond.methodLink "BelievedWords" (302 : Nat) ({ cls := "BelievedWords$Asks", name := "isOfKind", desc := "(II)Z" } : Jvm.MethodName)) ∈ TB := tb4 199 rfl rfl
theorem k987 : (Jvm.Cond.static ({ cls := "BelievedWords$Asks", name := "isOfKind", desc := "(II)Z" } : Jvm.MethodName)) ∈ TB := tb4 200 rfl rfl
theorem k988 : (Jvm.Cond.code ({ cls := "BelievedWords$Asks", name := "isOfKind", desc := "(II)Z" } : Jvm.MethodName) prog_3_method_2_code (4 : Nat) (Option.some Jvm.ClassFile.FieldType.boolean)) ∈ TB := tb4 201 rfl rfl
theorem k989 : (Jvm.Cond.fieldLink "BelievedWords$Asks" (15 : Nat) "BelievedWords$Asks" "PARENTS" "[I") ∈ TB := tb4 202 rfl rfl
theorem k991 : (Jvm.Cond.methodLink "BelievedWordsLaw" (136 : Nat) ({ cls := "BelievedWords", name := "ask", desc := "(II)I" } : Jvm.MethodName)) ∈ TB := tb4 204 rfl rfl
theorem k992 : (Jvm.Cond.instanceMethod ({ cls := "BelievedWords", name := "ask", desc := "(II)I" } : Jvm.MethodName)) ∈ TB := tb4 205 rfl rfl
theorem k993 : (Jvm.Cond.selects "BelievedWords" ({ cls := "BelievedWords", name := "ask", desc := "(II)I" } : Jvm.MethodName) ({ cls := "BelievedWords", name := "ask", desc := "(II)I" } : Jvm.MethodName)) ∈ TB := tb4 206 rfl rfl
theorem k994 : (Jvm.Cond.code ({ cls := "BelievedWords", name := "ask", desc := "(II)I" } : Jvm.MethodName) prog_1_method_31_code (3 : Nat) (Option.some Jvm.ClassFile.FieldType.int)) ∈ TB := tb4 207 rfl rfl
theorem k995 : (Jvm.Cond.methodLink "BelievedWords" (306 : Nat) ({ cls := "BelievedWords$Asks", name := "answer", desc := "(LBelievedWords$Court;II)I" } : Jvm.MethodName)) ∈ TB := tb4 208 rfl rfl
theorem k996 : (Jvm.Cond.instanceMethod ({ cls := "BelievedWords$Asks", name := "answer", desc := "(LBelievedWords$Court;II)I" } : Jvm.MethodName)) ∈ TB := tb4 209 rfl rfl
theorem k997 : (Jvm.Cond.selects "BelievedWords$Asks" ({ cls := "BelievedWords$Asks", name := "answer", desc := "(LBelievedWords$Court;II)I" } : Jvm.MethodName) ({ cls := "BelievedWords$Asks", name := "answer", desc := "(LBelievedWords$Court;II)I" } : Jvm.MethodName)) ∈ TB := tb4 210 rfl rfl
theorem k998 : (Jvm.Cond.code ({ cls := "BelievedWords$Asks", name := "answer", desc := "(LBelievedWords$Court;II)I" } : Jvm.MethodName) prog_3_method_4_code (4 : Nat) (Option.some Jvm.ClassFile.FieldType.int)) ∈ TB := tb4 211 rfl rfl
theorem k999 : (Jvm.Cond.methodLink "BelievedWords$Asks" (23 : Nat) ({ cls := "BelievedWords$Asks", name := "askedOf", desc := "(LBelievedWords$Court;III)I" } : Jvm.MethodName)) ∈ TB := tb4 212 rfl rfl
theorem k1001 : (Jvm.Cond.instanceMethod ({ cls := "BelievedWords$Asks", name := "askedOf", desc := "(LBelievedWords$Court;III)I" } : Jvm.MethodName)) ∈ TB := tb4 214 rfl rfl
theorem k1002 : (Jvm.Cond.code ({ cls := "BelievedWords$Asks", name := "askedOf", desc := "(LBelievedWords$Court;III)I" } : Jvm.MethodName) prog_3_method_5_code (6 : Nat) (Option.some Jvm.ClassFile.FieldType.int)) ∈ TB := tb4 215 rfl rfl
theorem k1003 : (Jvm.Cond.fieldLink "BelievedWords$Asks" (38 : Nat) "BelievedWords$Asks" "SIZES" "[I") ∈ TB := tb4 216 rfl rfl
theorem k1005 : (Jvm.Cond.fieldLink "BelievedWords$Asks" (41 : Nat) "BelievedWords$Asks" "MARKS" "[I") ∈ TB := tb4 218 rfl rfl
theorem k1007 : (Jvm.Cond.methodLink "BelievedWords$Asks" (44 : Nat) ({ cls := "BelievedWords$Asks", name := "body", desc := "(LBelievedWords$Court;III)I" } : Jvm.MethodName)) ∈ TB := tb4 220 rfl rfl
theorem k1009 : (Jvm.Cond.instanceMethod ({ cls := "BelievedWords$Asks", name := "body", desc := "(LBelievedWords$Court;III)I" } : Jvm.MethodName)) ∈ TB := tb4 222 rfl rfl
theorem k1010 : (Jvm.Cond.code ({ cls := "BelievedWords$Asks", name := "body", desc := "(LBelievedWords$Court;III)I" } : Jvm.MethodName) prog_3_method_6_code (6 : Nat) (Option.some Jvm.ClassFile.FieldType.int)) ∈ TB := tb4 223 rfl rfl
theorem k1011 : (Jvm.Cond.methodLink "BelievedWords$Asks" (47 : Nat) ({ cls := "BelievedWords$Asks", name := "leave", desc := "(I)V" } : Jvm.MethodName)) ∈ TB := tb4 224 rfl rfl
theorem k1013 : (Jvm.Cond.instanceMethod ({ cls := "BelievedWords$Asks", name := "leave", desc := "(I)V" } : Jvm.MethodName)) ∈ TB := tb4 226 rfl rfl
theorem k1014 : (Jvm.Cond.code ({ cls := "BelievedWords$Asks", name := "leave", desc := "(I)V" } : Jvm.MethodName) prog_3_method_7_code (2 : Nat) (Option.none : Option Jvm.ClassFile.FieldType)) ∈ TB := tb4 227 rfl rfl
theorem k1015 : (Jvm.Cond.methodLink "BelievedWordsLaw" (140 : Nat) ({ cls := "BelievedWords", name := "trace", desc := "(I)I" } : Jvm.MethodName)) ∈ TB := tb4 228 rfl rfl
theorem k1016 : (Jvm.Cond.instanceMethod ({ cls := "BelievedWords", name := "trace", desc := "(I)I" } : Jvm.MethodName)) ∈ TB := tb4 229 rfl rfl
theorem k1017 : (Jvm.Cond.selects "BelievedWords" ({ cls := "BelievedWords", name := "trace", desc := "(I)I" } : Jvm.MethodName) ({ cls := "BelievedWords", name := "trace", desc := "(I)I" } : Jvm.MethodName)) ∈ TB := tb4 230 rfl rfl
theorem k1018 : (Jvm.Cond.code ({ cls := "BelievedWords", name := "trace", desc := "(I)I" } : Jvm.MethodName) prog_1_method_32_code (2 : Nat) (Option.some Jvm.ClassFile.FieldType.int)) ∈ TB := tb4 231 rfl rfl
theorem k1019 : (Jvm.Cond.methodLink "BelievedWords" (309 : Nat) ({ cls := "BelievedWords$Asks", name := "traced", desc := "(I)I" } : Jvm.MethodName)) ∈ TB := tb4 232 rfl rfl
theorem k1020 : (Jvm.Cond.instanceMethod ({ cls := "BelievedWords$Asks", name := "traced", desc := "(I)I" } : Jvm.MethodName)) ∈ TB := tb4 233 rfl rfl
theorem k1021 : (Jvm.Cond.selects "BelievedWords$Asks" ({ cls := "BelievedWords$Asks", name := "traced", desc := "(I)I" } : Jvm.MethodName) ({ cls := "BelievedWords$Asks", name := "traced", desc := "(I)I" } : Jvm.MethodName)) ∈ TB := tb4 234 rfl rfl
theorem k1022 : (Jvm.Cond.code ({ cls := "BelievedWords$Asks", name := "traced", desc := "(I)I" } : Jvm.MethodName) prog_3_method_3_code (2 : Nat) (Option.some Jvm.ClassFile.FieldType.int)) ∈ TB := tb4 235 rfl rfl
theorem k1023 : (Jvm.Cond.constant "BelievedWords$Asks" (22 : Nat) (-1000000 : Int32)) ∈ TB := tb4 236 rfl rfl
theorem k1024 : (Jvm.Cond.methodLink "BelievedWordsLaw" (144 : Nat) ({ cls := "BelievedWords", name := "count", desc := "(I)I" } : Jvm.MethodName)) ∈ TB := tb4 237 rfl rfl
theorem k1025 : (Jvm.Cond.instanceMethod ({ cls := "BelievedWords", name := "count", desc := "(I)I" } : Jvm.MethodName)) ∈ TB := tb4 238 rfl rfl
theorem k1026 : (Jvm.Cond.selects "BelievedWords" ({ cls := "BelievedWords", name := "count", desc := "(I)I" } : Jvm.MethodName) ({ cls := "BelievedWords", name := "count", desc := "(I)I" } : Jvm.MethodName)) ∈ TB := tb4 239 rfl rfl
theorem k1027 : (Jvm.Cond.code ({ cls := "BelievedWords", name := "count", desc := "(I)I" } : Jvm.MethodName) prog_1_method_33_code (2 : Nat) (Option.some Jvm.ClassFile.FieldType.int)) ∈ TB := tb5 0 rfl rfl
theorem k1028 : (Jvm.Cond.methodLink "BelievedWords" (312 : Nat) ({ cls := "BelievedWords$Rows", name := "present", desc := "()I" } : Jvm.MethodName)) ∈ TB := tb5 1 rfl rfl
theorem k1029 : (Jvm.Cond.instanceMethod ({ cls := "BelievedWords$Rows", name := "present", desc := "()I" } : Jvm.MethodName)) ∈ TB := tb5 2 rfl rfl
theorem k1030 : (Jvm.Cond.selects "BelievedWords$Rows" ({ cls := "BelievedWords$Rows", name := "present", desc := "()I" } : Jvm.MethodName) ({ cls := "BelievedWords$Rows", name := "present", desc := "()I" } : Jvm.MethodName)) ∈ TB := tb5 3 rfl rfl
theorem k1031 : (Jvm.Cond.code ({ cls := "BelievedWords$Rows", name := "present", desc := "()I" } : Jvm.MethodName) prog_8_method_10_code (3 : Nat) (Option.some Jvm.ClassFile.FieldType.int)) ∈ TB := tb5 4 rfl rfl
theorem k1032 : (Jvm.Cond.methodLink "BelievedWordsLaw" (148 : Nat) ({ cls := "BelievedWords", name := "status", desc := "()I" } : Jvm.MethodName)) ∈ TB := tb5 5 rfl rfl
theorem k1033 : (Jvm.Cond.instanceMethod ({ cls := "BelievedWords", name := "status", desc := "()I" } : Jvm.MethodName)) ∈ TB := tb5 6 rfl rfl
theorem k1034 : (Jvm.Cond.selects "BelievedWords" ({ cls := "BelievedWords", name := "status", desc := "()I" } : Jvm.MethodName) ({ cls := "BelievedWords", name := "status", desc := "()I" } : Jvm.MethodName)) ∈ TB := tb5 7 rfl rfl
theorem k1035 : (Jvm.Cond.code ({ cls := "BelievedWords", name := "status", desc := "()I" } : Jvm.MethodName) prog_1_method_34_code (1 : Nat) (Option.some Jvm.ClassFile.FieldType.int)) ∈ TB := tb5 8 rfl rfl
theorem k1038 : (Jvm.Cond.methodLink "BelievedWordsLaw" (12 : Nat) ({ cls := "BelievedWordsModel", name := "<init>", desc := "()V" } : Jvm.MethodName)) ∈ TB := tb5 11 rfl rfl
theorem k1039 : (Jvm.Cond.instanceMethod ({ cls := "BelievedWordsModel", name := "<init>", desc := "()V" } : Jvm.MethodName)) ∈ TB := tb5 12 rfl rfl
theorem k1040 : (Jvm.Cond.code ({ cls := "BelievedWordsModel", name := "<init>", desc := "()V" } : Jvm.MethodName) prog_13_method_1_code (1 : Nat) (Option.none : Option Jvm.ClassFile.FieldType)) ∈ TB := tb5 13 rfl rfl
theorem k1041 : (Jvm.Cond.methodLink "BelievedWordsModel" (1 : Nat) ({ cls := "java/lang/Object", name := "<init>", desc := "()V" } : Jvm.MethodName)) ∈ TB := tb5 14 rfl rfl
theorem k1042 : (Jvm.Cond.fieldLink "BelievedWordsModel" (53 : Nat) "BelievedWordsModel" "thrown" "I") ∈ TB := tb5 15 rfl rfl
theorem k1043 : (Jvm.Cond.fieldLink "BelievedWordsModel" (57 : Nat) "BelievedWordsModel" "status" "I") ∈ TB := tb5 16 rfl rfl
theorem k1044 : (Jvm.Cond.fieldLink "BelievedWordsModel" (7 : Nat) "BelievedWordsModel" "lane" "[I") ∈ TB := tb5 17 rfl rfl
theorem k1045 : (Jvm.Cond.fieldLink "BelievedWordsModel" (13 : Nat) "BelievedWordsModel" "many" "[I") ∈ TB := tb5 18 rfl rfl
theorem k1046 : (Jvm.Cond.fieldLink "BelievedWordsModel" (16 : Nat) "BelievedWordsModel" "item" "[I") ∈ TB := tb5 19 rfl rfl
theorem k1047 : (Jvm.Cond.fieldLink "BelievedWordsModel" (19 : Nat) "BelievedWordsModel" "court" "[I") ∈ TB := tb5 20 rfl rfl
theorem k1048 : (Jvm.Cond.fieldLink "BelievedWordsModel" (22 : Nat) "BelievedWordsModel" "fresh" "[I") ∈ TB := tb5 21 rfl rfl
theorem k1049 : (Jvm.Cond.fieldLink "BelievedWordsModel" (25 : Nat) "BelievedWordsModel" "was" "[I") ∈ TB := tb5 22 rfl rfl
theorem k1050 : (Jvm.Cond.fieldLink "BelievedWordsModel" (156 : Nat) "BelievedWordsModel" "acts" "I") ∈ TB := tb5 23 rfl rfl
theorem k1051 : (Jvm.Cond.fieldLink "BelievedWordsModel" (28 : Nat) "BelievedWordsModel" "tape" "[I") ∈ TB := tb5 24 rfl rfl
theorem k1052 : (Jvm.Cond.fieldLink "BelievedWordsModel" (80 : Nat) "BelievedWordsModel" "taped" "I") ∈ TB := tb5 25 rfl rfl
theorem k1053 : (Jvm.Cond.fieldLink "BelievedWordsModel" (93 : Nat) "BelievedWordsModel" "cursor" "I") ∈ TB := tb5 26 rfl rfl
theorem k1054 : (Jvm.Cond.fieldLink "BelievedWordsModel" (87 : Nat) "BelievedWordsModel" "start" "I") ∈ TB := tb5 27 rfl rfl
theorem k1055 : (Jvm.Cond.fieldLink "BelievedWordsModel" (108 : Nat) "BelievedWordsModel" "token" "I") ∈ TB := tb5 28 rfl rfl
theorem k1056 : (Jvm.Cond.fieldLink "BelievedWordsModel" (97 : Nat) "BelievedWordsModel" "value" "I") ∈ TB := tb5 29 rfl rfl
theorem k1057 : (Jvm.Cond.fieldLink "BelievedWordsModel" (84 : Nat) "BelievedWordsModel" "fault" "I") ∈ TB := tb5 30 rfl rfl
theorem k1058 : (Jvm.Cond.fieldLink "BelievedWordsModel" (90 : Nat) "BelievedWordsModel" "faultAt" "I") ∈ TB := tb5 31 rfl rfl
theorem k1059 : (Jvm.Cond.fieldLink "BelievedWordsModel" (122 : Nat) "BelievedWordsModel" "latest" "I") ∈ TB := tb5 32 rfl rfl
theorem k1060 : (Jvm.Cond.fieldLink "BelievedWordsModel" (31 : Nat) "BelievedWordsModel" "far" "[I") ∈ TB := tb5 33 rfl rfl
theorem k1061 : (Jvm.Cond.fieldLink "BelievedWordsModel" (34 : Nat) "BelievedWordsModel" "first" "[I") ∈ TB := tb5 34 rfl rfl
theorem k1062 : (Jvm.Cond.fieldLink "BelievedWordsModel" (37 : Nat) "BelievedWordsModel" "waits" "[Z") ∈ TB := tb5 35 rfl rfl
theorem k1063 : (Jvm.Cond.fieldLink "BelievedWordsModel" (41 : Nat) "BelievedWordsModel" "line" "[I") ∈ TB := tb5 36 rfl rfl
theorem k1064 : (Jvm.Cond.fieldLink "BelievedWordsModel" (210 : Nat) "BelievedWordsModel" "lineFrom" "I") ∈ TB := tb5 37 rfl rfl
theorem k1065 : (Jvm.Cond.fieldLink "BelievedWordsModel" (204 : Nat) "BelievedWordsModel" "lineTo" "I") ∈ TB := tb5 38 rfl rfl
theorem k1066 : (Jvm.Cond.fieldLink "BelievedWordsModel" (44 : Nat) "BelievedWordsModel" "isKept" "[Z") ∈ TB := tb5 39 rfl rfl
theorem k1067 : (Jvm.Cond.fieldLink "BelievedWordsModel" (47 : Nat) "BelievedWordsModel" "kept" "[I") ∈ TB := tb5 40 rfl rfl
theorem k1068 : (Jvm.Cond.fieldLink "BelievedWordsModel" (50 : Nat) "BelievedWordsModel" "trace" "[I") ∈ TB := tb5 41 rfl rfl
theorem k1069 : (Jvm.Cond.fieldLink "BelievedWordsModel" (264 : Nat) "BelievedWordsModel" "traced" "I") ∈ TB := tb5 42 rfl rfl
theorem k1070 : (Jvm.Cond.lays "BelievedWordsModel" "BelievedWordsModel" "thrown" "I") ∈ TB := tb5 43 rfl rfl
theorem k1072 : (Jvm.Cond.lays "BelievedWordsModel" "BelievedWordsModel" "status" "I") ∈ TB := tb5 45 rfl rfl
theorem k1074 : (Jvm.Cond.laysFinal "BelievedWordsModel" "BelievedWordsModel" "lane" "[I") ∈ TB := tb5 47 rfl rfl
theorem k1076 : (Jvm.Cond.laysFinal "BelievedWordsModel" "BelievedWordsModel" "many" "[I") ∈ TB := tb5 49 rfl rfl
theorem k1078 : (Jvm.Cond.laysFinal "BelievedWordsModel" "BelievedWordsModel" "item" "[I") ∈ TB := tb5 51 rfl rfl
theorem k1080 : (Jvm.Cond.laysFinal "BelievedWordsModel" "BelievedWordsModel" "court" "[I") ∈ TB := tb5 53 rfl rfl
theorem k1082 : (Jvm.Cond.laysFinal "BelievedWordsModel" "BelievedWordsModel" "fresh" "[I") ∈ TB := tb5 55 rfl rfl
theorem k1084 : (Jvm.Cond.laysFinal "BelievedWordsModel" "BelievedWordsModel" "was" "[I") ∈ TB := tb5 57 rfl rfl
theorem k1086 : (Jvm.Cond.lays "BelievedWordsModel" "BelievedWordsModel" "acts" "I") ∈ TB := tb5 59 rfl rfl
theorem k1088 : (Jvm.Cond.laysFinal "BelievedWordsModel" "BelievedWordsModel" "tape" "[I") ∈ TB := tb5 61 rfl rfl
theorem k1090 : (Jvm.Cond.lays "BelievedWordsModel" "BelievedWordsModel" "taped" "I") ∈ TB := tb5 63 rfl rfl
theorem k1092 : (Jvm.Cond.lays "BelievedWordsModel" "BelievedWordsModel" "cursor" "I") ∈ TB := tb5 65 rfl rfl
theorem k1094 : (Jvm.Cond.lays "BelievedWordsModel" "BelievedWordsModel" "start" "I") ∈ TB := tb5 67 rfl rfl
theorem k1096 : (Jvm.Cond.lays "BelievedWordsModel" "BelievedWordsModel" "token" "I") ∈ TB := tb5 69 rfl rfl
theorem k1098 : (Jvm.Cond.lays "BelievedWordsModel" "BelievedWordsModel" "value" "I") ∈ TB := tb5 71 rfl rfl
theorem k1100 : (Jvm.Cond.lays "BelievedWordsModel" "BelievedWordsModel" "fault" "I") ∈ TB := tb5 73 rfl rfl
theorem k1102 : (Jvm.Cond.lays "BelievedWordsModel" "BelievedWordsModel" "faultAt" "I") ∈ TB := tb5 75 rfl rfl
theorem k1104 : (Jvm.Cond.lays "BelievedWordsModel" "BelievedWordsModel" "latest" "I") ∈ TB := tb5 77 rfl rfl
theorem k1106 : (Jvm.Cond.laysFinal "BelievedWordsModel" "BelievedWordsModel" "far" "[I") ∈ TB := tb5 79 rfl rfl
theorem k1108 : (Jvm.Cond.laysFinal "BelievedWordsModel" "BelievedWordsModel" "first" "[I") ∈ TB := tb5 81 rfl rfl
theorem k1110 : (Jvm.Cond.laysFinal "BelievedWordsModel" "BelievedWordsModel" "waits" "[Z") ∈ TB := tb5 83 rfl rfl
theorem k1112 : (Jvm.Cond.laysFinal "BelievedWordsModel" "BelievedWordsModel" "line" "[I") ∈ TB := tb5 85 rfl rfl
theorem k1114 : (Jvm.Cond.lays "BelievedWordsModel" "BelievedWordsModel" "lineFrom" "I") ∈ TB := tb5 87 rfl rfl
theorem k1116 : (Jvm.Cond.lays "BelievedWordsModel" "BelievedWordsModel" "lineTo" "I") ∈ TB := tb5 89 rfl rfl
theorem k1118 : (Jvm.Cond.laysFinal "BelievedWordsModel" "BelievedWordsModel" "isKept" "[Z") ∈ TB := tb5 91 rfl rfl
theorem k1120 : (Jvm.Cond.laysFinal "BelievedWordsModel" "BelievedWordsModel" "kept" "[I") ∈ TB := tb5 93 rfl rfl
theorem k1122 : (Jvm.Cond.laysFinal "BelievedWordsModel" "BelievedWordsModel" "trace" "[I") ∈ TB := tb5 95 rfl rfl
theorem k1124 : (Jvm.Cond.lays "BelievedWordsModel" "BelievedWordsModel" "traced" "I") ∈ TB := tb5 97 rfl rfl
theorem k1127 : (Jvm.Cond.arrayClass Jvm.ClassFile.FieldType.boolean) ∈ TB := tb5 100 rfl rfl
theorem k1128 : (Jvm.Cond.methodLink "BelievedWordsLaw" (17 : Nat) ({ cls := "BelievedWordsModel", name := "row", desc := "(III)I" } : Jvm.MethodName)) ∈ TB := tb5 101 rfl rfl
theorem k1129 : (Jvm.Cond.instanceMethod ({ cls := "BelievedWordsModel", name := "row", desc := "(III)I" } : Jvm.MethodName)) ∈ TB := tb5 102 rfl rfl
theorem k1130 : (Jvm.Cond.selects "BelievedWordsModel" ({ cls := "BelievedWordsModel", name := "row", desc := "(III)I" } : Jvm.MethodName) ({ cls := "BelievedWordsModel", name := "row", desc := "(III)I" } : Jvm.MethodName)) ∈ TB := tb5 103 rfl rfl
theorem k1131 : (Jvm.Cond.code ({ cls := "BelievedWordsModel", name := "row", desc := "(III)I" } : Jvm.MethodName) prog_13_method_6_code (5 : Nat) (Option.some Jvm.ClassFile.FieldType.int)) ∈ TB := tb5 104 rfl rfl
theorem k1132 : (Jvm.Cond.methodLink "BelievedWordsModel" (67 : Nat) ({ cls := "BelievedWordsModel", name := "isRow", desc := "(I)Z" } : Jvm.MethodName)) ∈ TB := tb5 105 rfl rfl
theorem k1133 : (Jvm.Cond.static ({ cls := "BelievedWordsModel", name := "isRow", desc := "(I)Z" } : Jvm.MethodName)) ∈ TB := tb5 106 rfl rfl
theorem k1134 : (Jvm.Cond.code ({ cls := "BelievedWordsModel", name := "isRow", desc := "(I)Z" } : Jvm.MethodName) prog_13_method_5_code (1 : Nat) (Option.some Jvm.ClassFile.FieldType.boolean)) ∈ TB := tb5 107 rfl rfl
theorem k1135 : (Jvm.Cond.constantLong "BelievedWordsModel" (61 : Nat) (7 : Int64)) ∈ TB := tb5 108 rfl rfl
theorem k1136 : (Jvm.Cond.methodLink "BelievedWordsModel" (63 : Nat) ({ cls := "BelievedWordsModel", name := "in", desc := "(JJJ)Z" } : Jvm.MethodName)) ∈ TB := tb5 109 rfl rfl
theorem k1137 : (Jvm.Cond.static ({ cls := "BelievedWordsModel", name := "in", desc := "(JJJ)Z" } : Jvm.MethodName)) ∈ TB := tb5 110 rfl rfl
theorem k1138 : (Jvm.Cond.code ({ cls := "BelievedWordsModel", name := "in", desc := "(JJJ)Z" } : Jvm.MethodName) prog_13_method_3_code (6 : Nat) (Option.some Jvm.ClassFile.FieldType.boolean)) ∈ TB := tb5 111 rfl rfl
theorem k1139 : (Jvm.Cond.constantLong "BelievedWordsModel" (71 : Nat) (2 : Int64)) ∈ TB := tb5 112 rfl rfl
theorem k1140 : (Jvm.Cond.constant "BelievedWordsModel" (73 : Nat) (-1000001 : Int32)) ∈ TB := tb5 113 rfl rfl
theorem k1141 : (Jvm.Cond.methodLink "BelievedWordsModel" (74 : Nat) ({ cls := "BelievedWordsModel", name := "finding", desc := "(I)I" } : Jvm.MethodName)) ∈ TB := tb5 114 rfl rfl
theorem k1143 : (Jvm.Cond.instanceMethod ({ cls := "BelievedWordsModel", name := "finding", desc := "(I)I" } : Jvm.MethodName)) ∈ TB := tb5 116 rfl rfl
theorem k1144 : (Jvm.Cond.code ({ cls := "BelievedWordsModel", name := "finding", desc := "(I)I" } : Jvm.MethodName) prog_13_method_4_code (2 : Nat) (Option.some Jvm.ClassFile.FieldType.int)) ∈ TB := tb5 117 rfl rfl
theorem k1145 : (Jvm.Cond.constant "BelievedWordsModel" (60 : Nat) (-1000010 : Int32)) ∈ TB := tb5 118 rfl rfl
theorem k1146 : (Jvm.Cond.methodLink "BelievedWordsLaw" (21 : Nat) ({ cls := "BelievedWordsModel", name := "set", desc := "(III)I" } : Jvm.MethodName)) ∈ TB := tb5 119 rfl rfl
theorem k1147 : (Jvm.Cond.instanceMethod ({ cls := "BelievedWordsModel", name := "set", desc := "(III)I" } : Jvm.MethodName)) ∈ TB := tb5 120 rfl rfl
theorem k1148 : (Jvm.Cond.selects "BelievedWordsModel" ({ cls := "BelievedWordsModel", name := "set", desc := "(III)I" } : Jvm.MethodName) ({ cls := "BelievedWordsModel", name := "set", desc := "(III)I" } : Jvm.MethodName)) ∈ TB := tb5 121 rfl rfl
theorem k1149 : (Jvm.Cond.code ({ cls := "BelievedWordsModel", name := "set", desc := "(III)I" } : Jvm.MethodName) prog_13_method_7_code (4 : Nat) (Option.some Jvm.ClassFile.FieldType.int)) ∈ TB := tb5 122 rfl rfl
theorem k1150 : (Jvm.Cond.methodLink "BelievedWordsLaw" (26 : Nat) ({ cls := "BelievedWordsModel", name := "copy", desc := "(IIIII)I" } : Jvm.MethodName)) ∈ TB := tb5 123 rfl rfl
theorem k1151 : (Jvm.Cond.instanceMethod ({ cls := "BelievedWordsModel", name := "copy", desc := "(IIIII)I" } : Jvm.MethodName)) ∈ TB := tb5 124 rfl rfl
theorem k1152 : (Jvm.Cond.selects "BelievedWordsModel" ({ cls := "BelievedWordsModel", name := "copy", desc := "(IIIII)I" } : Jvm.MethodName) ({ cls := "BelievedWordsModel", name := "copy", desc := "(IIIII)I" } : Jvm.MethodName)) ∈ TB := tb5 125 rfl rfl
theorem k1153 : (Jvm.Cond.code ({ cls := "BelievedWordsModel", name := "copy", desc := "(IIIII)I" } : Jvm.MethodName) prog_13_method_8_code (9 : Nat) (Option.some Jvm.ClassFile.FieldType.int)) ∈ TB := tb5 126 rfl rfl
theorem k1154 : (Jvm.Cond.methodLink "BelievedWordsLaw" (31 : Nat) ({ cls := "BelievedWordsModel", name := "drop", desc := "(I)I" } : Jvm.MethodName)) ∈ TB := tb5 127 rfl rfl
theorem k1155 : (Jvm.Cond.instanceMethod ({ cls := "BelievedWordsModel", name := "drop", desc := "(I)I" } : Jvm.MethodName)) ∈ TB := tb5 128 rfl rfl
theorem k1156 : (Jvm.Cond.selects "BelievedWordsModel" ({ cls := "BelievedWordsModel", name := "drop", desc := "(I)I" } : Jvm.MethodName) ({ cls := "BelievedWordsModel", name := "drop", desc := "(I)I" } : Jvm.MethodName)) ∈ TB := tb5 129 rfl rfl
theorem k1157 : (Jvm.Cond.code ({ cls := "BelievedWordsModel", name := "drop", desc := "(I)I" } : Jvm.MethodName) prog_13_method_9_code (2 : Nat) (Option.some Jvm.ClassFile.FieldType.int)) ∈ TB := tb5 130 rfl rfl
theorem k1158 : (Jvm.Cond.methodLink "BelievedWordsLaw" (35 : Nat) ({ cls := "BelievedWordsModel", name := "feed", desc := "(I)I" } : Jvm.MethodName)) ∈ TB := tb5 131 rfl rfl
theorem k1159 : (Jvm.Cond.instanceMethod ({ cls := "BelievedWordsModel", name := "feed", desc := "(I)I" } : Jvm.MethodName)) ∈ TB := tb5 132 rfl rfl
theorem k1160 : (Jvm.Cond.selects "BelievedWordsModel" ({ cls := "BelievedWordsModel", name := "feed", desc := "(I)I" } : Jvm.MethodName) ({ cls := "BelievedWordsModel", name := "feed", desc := "(I)I" } : Jvm.MethodName)) ∈ TB := tb5 133 rfl rfl
theorem k1161 : (Jvm.Cond.code ({ cls := "BelievedWordsModel", name := "feed", desc := "(I)I" } : Jvm.MethodName) prog_13_method_10_code (2 : Nat) (Option.some Jvm.ClassFile.FieldType.int)) ∈ TB := tb5 134 rfl rfl
theorem k1162 : (Jvm.Cond.constantLong "BelievedWordsModel" (78 : Nat) (255 : Int64)) ∈ TB := tb5 135 rfl rfl
theorem k1163 : (Jvm.Cond.constant "BelievedWordsModel" (83 : Nat) (-1000003 : Int32)) ∈ TB := tb5 136 rfl rfl
theorem k1164 : (Jvm.Cond.methodLink "BelievedWordsLaw" (44 : Nat) ({ cls := "BelievedWordsModel", name := "fault", desc := "()I" } : Jvm.MethodName)) ∈ TB := tb5 137 rfl rfl
theorem k1165 : (Jvm.Cond.instanceMethod ({ cls := "BelievedWordsModel", name := "fault", desc := "()I" } : Jvm.MethodName)) ∈ TB := tb5 138 rfl rfl
theorem k1166 : (Jvm.Cond.selects "BelievedWordsModel" ({ cls := "BelievedWordsModel", name := "fault", desc := "()I" } : Jvm.MethodName) ({ cls := "BelievedWordsModel", name := "fault", desc := "()I" } : Jvm.MethodName)) ∈ TB := tb5 139 rfl rfl
theorem k1167 : (Jvm.Cond.code ({ cls := "BelievedWordsModel", name := "fault", desc := "()I" } : Jvm.MethodName) prog_13_method_19_code (1 : Nat) (Option.some Jvm.ClassFile.FieldType.int)) ∈ TB := tb5 140 rfl rfl
theorem k1168 : (Jvm.Cond.methodLink "BelievedWordsLaw" (40 : Nat) ({ cls := "BelievedWordsModel", name := "court", desc := "()I" } : Jvm.MethodName)) ∈ TB := tb5 141 rfl rfl
theorem k1169 : (Jvm.Cond.instanceMethod ({ cls := "BelievedWordsModel", name := "court", desc := "()I" } : Jvm.MethodName)) ∈ TB := tb5 142 rfl rfl
theorem k1170 : (Jvm.Cond.selects "BelievedWordsModel" ({ cls := "BelievedWordsModel", name := "court", desc := "()I" } : Jvm.MethodName) ({ cls := "BelievedWordsModel", name := "court", desc := "()I" } : Jvm.MethodName)) ∈ TB := tb5 143 rfl rfl
theorem k1171 : (Jvm.Cond.code ({ cls := "BelievedWordsModel", name := "court", desc := "()I" } : Jvm.MethodName) prog_13_method_24_code (2 : Nat) (Option.some Jvm.ClassFile.FieldType.int)) ∈ TB := tb5 144 rfl rfl
theorem k1172 : (Jvm.Cond.methodLink "BelievedWordsModel" (139 : Nat) ({ cls := "BelievedWordsModel", name := "begin", desc := "()V" } : Jvm.MethodName)) ∈ TB := tb5 145 rfl rfl
theorem k1174 : (Jvm.Cond.instanceMethod ({ cls := "BelievedWordsModel", name := "begin", desc := "()V" } : Jvm.MethodName)) ∈ TB := tb5 147 rfl rfl
theorem k1175 : (Jvm.Cond.code ({ cls := "BelievedWordsModel", name := "begin", desc := "()V" } : Jvm.MethodName) prog_13_method_17_code (1 : Nat) (Option.none : Option Jvm.ClassFile.FieldType)) ∈ TB := tb5 148 rfl rfl
theorem k1176 : (Jvm.Cond.methodLink "BelievedWordsModel" (115 : Nat) ({ cls := "BelievedWordsModel", name := "nextToken", desc := "()V" } : Jvm.MethodName)) ∈ TB := tb5 149 rfl rfl
theorem k1178 : (Jvm.Cond.instanceMethod ({ cls := "BelievedWordsModel", name := "nextToken", desc := "()V" } : Jvm.MethodName)) ∈ TB := tb5 151 rfl rfl
theorem k1179 : (Jvm.Cond.code ({ cls := "BelievedWordsModel", name := "nextToken", desc := "()V" } : Jvm.MethodName) prog_13_method_12_code (1 : Nat) (Option.none : Option Jvm.ClassFile.FieldType)) ∈ TB := tb5 152 rfl rfl
theorem k1180 : (Jvm.Cond.constant "BelievedWordsModel" (96 : Nat) (-1000000 : Int32)) ∈ TB := tb5 153 rfl rfl
theorem k1181 : (Jvm.Cond.constantLong "BelievedWordsModel" (100 : Nat) (97 : Int64)) ∈ TB := tb5 154 rfl rfl
theorem k1182 : (Jvm.Cond.constantLong "BelievedWordsModel" (102 : Nat) (122 : Int64)) ∈ TB := tb5 155 rfl rfl
theorem k1183 : (Jvm.Cond.constantLong "BelievedWordsModel" (104 : Nat) (48 : Int64)) ∈ TB := tb5 156 rfl rfl
theorem k1184 : (Jvm.Cond.constantLong "BelievedWordsModel" (106 : Nat) (57 : Int64)) ∈ TB := tb5 157 rfl rfl
theorem k1185 : (Jvm.Cond.methodLink "BelievedWordsModel" (142 : Nat) ({ cls := "BelievedWordsModel", name := "isLetter", desc := "(I)Z" } : Jvm.MethodName)) ∈ TB := tb5 158 rfl rfl
theorem k1187 : (Jvm.Cond.instanceMethod ({ cls := "BelievedWordsModel", name := "isLetter", desc := "(I)Z" } : Jvm.MethodName)) ∈ TB := tb5 160 rfl rfl
theorem k1188 : (Jvm.Cond.code ({ cls := "BelievedWordsModel", name := "isLetter", desc := "(I)Z" } : Jvm.MethodName) prog_13_method_14_code (2 : Nat) (Option.some Jvm.ClassFile.FieldType.boolean)) ∈ TB := tb5 161 rfl rfl
theorem k1189 : (Jvm.Cond.methodLink "BelievedWordsModel" (118 : Nat) ({ cls := "BelievedWordsModel", name := "must", desc := "(Z)V" } : Jvm.MethodName)) ∈ TB := tb5 162 rfl rfl
theorem k1191 : (Jvm.Cond.instanceMethod ({ cls := "BelievedWordsModel", name := "must", desc := "(Z)V" } : Jvm.MethodName)) ∈ TB := tb5 164 rfl rfl
theorem k1192 : (Jvm.Cond.code ({ cls := "BelievedWordsModel", name := "must", desc := "(Z)V" } : Jvm.MethodName) prog_13_method_13_code (2 : Nat) (Option.none : Option Jvm.ClassFile.FieldType)) ∈ TB := tb5 165 rfl rfl
theorem k1193 : (Jvm.Cond.methodLink "BelievedWordsModel" (111 : Nat) ({ cls := "BelievedWordsModel", name := "bad", desc := "(I)V" } : Jvm.MethodName)) ∈ TB := tb5 166 rfl rfl
theorem k1195 : (Jvm.Cond.instanceMethod ({ cls := "BelievedWordsModel", name := "bad", desc := "(I)V" } : Jvm.MethodName)) ∈ TB := tb5 168 rfl rfl
theorem k1196 : (Jvm.Cond.code ({ cls := "BelievedWordsModel", name := "bad", desc := "(I)V" } : Jvm.MethodName) prog_13_method_11_code (2 : Nat) (Option.none : Option Jvm.ClassFile.FieldType)) ∈ TB := tb5 169 rfl rfl
theorem k1197 : (Jvm.Cond.methodLink "BelievedWordsModel" (128 : Nat) ({ cls := "BelievedWordsModel", name := "number", desc := "(II)I" } : Jvm.MethodName)) ∈ TB := tb5 170 rfl rfl
theorem k1199 : (Jvm.Cond.instanceMethod ({ cls := "BelievedWordsModel", name := "number", desc := "(II)I" } : Jvm.MethodName)) ∈ TB := tb5 172 rfl rfl
theorem k1200 : (Jvm.Cond.code ({ cls := "BelievedWordsModel", name := "number", desc := "(II)I" } : Jvm.MethodName) prog_13_method_15_code (4 : Nat) (Option.some Jvm.ClassFile.FieldType.int)) ∈ TB := tb5 173 rfl rfl
theorem k1201 : (Jvm.Cond.methodLink "BelievedWordsModel" (132 : Nat) ({ cls := "BelievedWordsModel", name := "mustSign", desc := "(I)V" } : Jvm.MethodName)) ∈ TB := tb5 174 rfl rfl
theorem k1203 : (Jvm.Cond.instanceMethod ({ cls := "BelievedWordsModel", name := "mustSign", desc := "(I)V" } : Jvm.MethodName)) ∈ TB := tb5 176 rfl rfl
theorem k1204 : (Jvm.Cond.code ({ cls := "BelievedWordsModel", name := "mustSign", desc := "(I)V" } : Jvm.MethodName) prog_13_method_16_code (2 : Nat) (Option.none : Option Jvm.ClassFile.FieldType)) ∈ TB := tb5 177 rfl rfl
theorem k1205 : (Jvm.Cond.methodLink "BelievedWordsModel" (145 : Nat) ({ cls := "BelievedWordsModel", name := "readRule", desc := "()V" } : Jvm.MethodName)) ∈ TB := tb5 178 rfl rfl
theorem k1207 : (Jvm.Cond.instanceMethod ({ cls := "BelievedWordsModel", name := "readRule", desc := "()V" } : Jvm.MethodName)) ∈ TB := tb5 180 rfl rfl
theorem k1208 : (Jvm.Cond.code ({ cls := "BelievedWordsModel", name := "readRule", desc := "()V" } : Jvm.MethodName) prog_13_method_23_code (5 : Nat) (Option.none : Option Jvm.ClassFile.FieldType)) ∈ TB := tb5 181 rfl rfl
theorem k1209 : (Jvm.Cond.methodLink "BelievedWordsModel" (135 : Nat) ({ cls := "BelievedWordsModel", name := "isTold", desc := "(IIJ)Z" } : Jvm.MethodName)) ∈ TB := tb5 182 rfl rfl
theorem k1211 : (Jvm.Cond.instanceMethod ({ cls := "BelievedWordsModel", name := "isTold", desc := "(IIJ)Z" } : Jvm.MethodName)) ∈ TB := tb5 184 rfl rfl
theorem k1212 : (Jvm.Cond.code ({ cls := "BelievedWordsModel", name := "isTold", desc := "(IIJ)Z" } : Jvm.MethodName) prog_13_method_22_code (8 : Nat) (Option.some Jvm.ClassFile.FieldType.boolean)) ∈ TB := tb5 185 rfl rfl
theorem k1213 : (Jvm.Cond.methodLink "BelievedWordsModel" (148 : Nat) ({ cls := "BelievedWordsModel", name := "isSort", desc := "()Z" } : Jvm.MethodName)) ∈ TB := tb5 186 rfl rfl
theorem k1215 : (Jvm.Cond.instanceMethod ({ cls := "BelievedWordsModel", name := "isSort", desc := "()Z" } : Jvm.MethodName)) ∈ TB := tb5 188 rfl rfl
theorem k1216 : (Jvm.Cond.code ({ cls := "BelievedWordsModel", name := "isSort", desc := "()Z" } : Jvm.MethodName) prog_13_method_21_code (1 : Nat) (Option.some Jvm.ClassFile.FieldType.boolean)) ∈ TB := tb5 189 rfl rfl
theorem k1217 : (Jvm.Cond.methodLink "BelievedWordsModel" (125 : Nat) ({ cls := "BelievedWordsModel", name := "kindBy", desc := "(I)I" } : Jvm.MethodName)) ∈ TB := tb5 190 rfl rfl
theorem k1218 : (Jvm.Cond.static ({ cls := "BelievedWordsModel", name := "kindBy", desc := "(I)I" } : Jvm.MethodName)) ∈ TB := tb5 191 rfl rfl
theorem k1219 : (Jvm.Cond.code ({ cls := "BelievedWordsModel", name := "kindBy", desc := "(I)I" } : Jvm.MethodName) prog_13_method_20_code (1 : Nat) (Option.some Jvm.ClassFile.FieldType.int)) ∈ TB := tb5 192 rfl rfl
theorem k1220 : (Jvm.Cond.methodLink "BelievedWordsModel" (152 : Nat) ({ cls := "BelievedWordsModel", name := "failed", desc := "()Z" } : Jvm.MethodName)) ∈ TB := tb5 193 rfl rfl
theorem k1222 : (Jvm.Cond.instanceMethod ({ cls := "BelievedWordsModel", name := "failed", desc := "()Z" } : Jvm.MethodName)) ∈ TB := tb5 195 rfl rfl
theorem k1223 : (Jvm.Cond.code ({ cls := "BelievedWordsModel", name := "failed", desc := "()Z" } : Jvm.MethodName) prog_13_method_18_code (1 : Nat) (Option.some Jvm.ClassFile.FieldType.boolean)) ∈ TB := tb5 196 rfl rfl
theorem k1224 : (Jvm.Cond.constant "BelievedWordsModel" (155 : Nat) (-1000100 : Int32)) ∈ TB := tb5 197 rfl rfl
theorem k1225 : (Jvm.Cond.methodLink "BelievedWordsLaw" (53 : Nat) ({ cls := "BelievedWordsModel", name := "say", desc := "(II)I" } : Jvm.MethodName)) ∈ TB := tb5 198 rfl rfl
theorem k1226 : (Jvm.Cond.instanceMethod ({ cls := "BelievedWordsModel", name := "say", desc := "(II)I" } : Jvm.MethodName)) ∈ TB := tb5 199 rfl rfl
theorem k1227 : (Jvm.Cond.selects "BelievedWordsModel" ({ cls := "BelievedWordsModel", name := "say", desc := "(II)I" } : Jvm.MethodName) ({ cls := "BelievedWordsModel", name := "say", desc := "(II)I" } : Jvm.MethodName)) ∈ TB := tb5 200 rfl rfl
theorem k1228 : (Jvm.Cond.code ({ cls := "BelievedWordsModel", name := "say", desc := "(II)I" } : Jvm.MethodName) prog_13_method_39_code (4 : Nat) (Option.some Jvm.ClassFile.FieldType.int)) ∈ TB := tb5 201 rfl rfl
theorem k1229 : (Jvm.Cond.methodLink "BelievedWordsModel" (176 : Nat) ({ cls := "BelievedWordsModel", name := "isPerson", desc := "(I)Z" } : Jvm.MethodName)) ∈ TB := tb5 202 rfl rfl
theorem k1231 : (Jvm.Cond.instanceMethod ({ cls := "BelievedWordsModel", name := "isPerson", desc := "(I)Z" } : Jvm.MethodName)) ∈ TB := tb5 204 rfl rfl
theorem k1232 : (Jvm.Cond.code ({ cls := "BelievedWordsModel", name := "isPerson", desc := "(I)Z" } : Jvm.MethodName) prog_13_method_27_code (2 : Nat) (Option.some Jvm.ClassFile.FieldType.boolean)) ∈ TB := tb5 205 rfl rfl
theorem k1233 : (Jvm.Cond.methodLink "BelievedWordsModel" (179 : Nat) ({ cls := "BelievedWordsModel", name := "isSaying", desc := "(J)Z" } : Jvm.MethodName)) ∈ TB := tb5 206 rfl rfl
theorem k1235 : (Jvm.Cond.instanceMethod ({ cls := "BelievedWordsModel", name := "isSaying", desc := "(J)Z" } : Jvm.MethodName)) ∈ TB := tb5 208 rfl rfl
theorem k1236 : (Jvm.Cond.code ({ cls := "BelievedWordsModel", name := "isSaying", desc := "(J)Z" } : Jvm.MethodName) prog_13_method_29_code (3 : Nat) (Option.some Jvm.ClassFile.FieldType.boolean)) ∈ TB := tb5 209 rfl rfl
theorem k1237 : (Jvm.Cond.methodLink "BelievedWordsModel" (183 : Nat) ({ cls := "BelievedWordsModel", name := "keep", desc := "()V" } : Jvm.MethodName)) ∈ TB := tb5 210 rfl rfl
theorem k1239 : (Jvm.Cond.instanceMethod ({ cls := "BelievedWordsModel", name := "keep", desc := "()V" } : Jvm.MethodName)) ∈ TB := tb5 212 rfl rfl
theorem k1240 : (Jvm.Cond.code ({ cls := "BelievedWordsModel", name := "keep", desc := "()V" } : Jvm.MethodName) prog_13_method_38_code (2 : Nat) (Option.none : Option Jvm.ClassFile.FieldType)) ∈ TB := tb5 213 rfl rfl
theorem k1241 : (Jvm.Cond.methodLink "BelievedWordsModel" (186 : Nat) ({ cls := "BelievedWordsModel", name := "after", desc := "(IIII)I" } : Jvm.MethodName)) ∈ TB := tb5 214 rfl rfl
theorem k1243 : (Jvm.Cond.instanceMethod ({ cls := "BelievedWordsModel", name := "after", desc := "(IIII)I" } : Jvm.MethodName)) ∈ TB := tb5 216 rfl rfl
theorem k1244 : (Jvm.Cond.code ({ cls := "BelievedWordsModel", name := "after", desc := "(IIII)I" } : Jvm.MethodName) prog_13_method_37_code (5 : Nat) (Option.some Jvm.ClassFile.FieldType.int)) ∈ TB := tb5 217 rfl rfl
theorem k1245 : (Jvm.Cond.methodLink "BelievedWordsModel" (169 : Nat) ({ cls := "BelievedWordsModel", name := "kindOf", desc := "(I)I" } : Jvm.MethodName)) ∈ TB := tb5 218 rfl rfl
theorem k1247 : (Jvm.Cond.instanceMethod ({ cls := "BelievedWordsModel", name := "kindOf", desc := "(I)I" } : Jvm.MethodName)) ∈ TB := tb5 220 rfl rfl
theorem k1248 : (Jvm.Cond.code ({ cls := "BelievedWordsModel", name := "kindOf", desc := "(I)I" } : Jvm.MethodName) prog_13_method_31_code (2 : Nat) (Option.some Jvm.ClassFile.FieldType.int)) ∈ TB := tb5 221 rfl rfl
theorem k1249 : (Jvm.Cond.methodLink "BelievedWordsModel" (172 : Nat) ({ cls := "BelievedWordsModel", name := "afterBy", desc := "(IIII)I" } : Jvm.MethodName)) ∈ TB := tb5 222 rfl rfl
theorem k1251 : (Jvm.Cond.instanceMethod ({ cls := "BelievedWordsModel", name := "afterBy", desc := "(IIII)I" } : Jvm.MethodName)) ∈ TB := tb5 224 rfl rfl
theorem k1252 : (Jvm.Cond.code ({ cls := "BelievedWordsModel", name := "afterBy", desc := "(IIII)I" } : Jvm.MethodName) prog_13_method_36_code (8 : Nat) (Option.some Jvm.ClassFile.FieldType.int)) ∈ TB := tb5 225 rfl rfl
theorem k1253 : (Jvm.Cond.methodLink "BelievedWordsModel" (159 : Nat) ({ cls := "BelievedWordsModel", name := "with", desc := "(III)I" } : Jvm.MethodName)) ∈ TB := tb5 226 rfl rfl
theorem k1254 : (Jvm.Cond.static ({ cls := "BelievedWordsModel", name := "with", desc := "(III)I" } : Jvm.MethodName)) ∈ TB := tb5 227 rfl rfl
theorem k1255 : (Jvm.Cond.code ({ cls := "BelievedWordsModel", name := "with", desc := "(III)I" } : Jvm.MethodName) prog_13_method_35_code (3 : Nat) (Option.some Jvm.ClassFile.FieldType.int)) ∈ TB := tb5 228 rfl rfl
theorem k1256 : (Jvm.Cond.methodLink "BelievedWordsModel" (163 : Nat) ({ cls := "BelievedWordsModel", name := "closed", desc := "(I)I" } : Jvm.MethodName)) ∈ TB := tb5 229 rfl rfl
theorem k1258 : (Jvm.Cond.instanceMethod ({ cls := "BelievedWordsModel", name := "closed", desc := "(I)I" } : Jvm.MethodName)) ∈ TB := tb5 231 rfl rfl
theorem k1259 : (Jvm.Cond.code ({ cls := "BelievedWordsModel", name := "closed", desc := "(I)I" } : Jvm.MethodName) prog_13_method_33_code (7 : Nat) (Option.some Jvm.ClassFile.FieldType.int)) ∈ TB := tb5 232 rfl rfl
theorem k1260 : (Jvm.Cond.methodLink "BelievedWordsModel" (166 : Nat) ({ cls := "BelievedWordsModel", name := "canBe", desc := "(I)Z" } : Jvm.MethodName)) ∈ TB := tb5 233 rfl rfl
theorem k1262 : (Jvm.Cond.instanceMethod ({ cls := "BelievedWordsModel", name := "canBe", desc := "(I)Z" } : Jvm.MethodName)) ∈ TB := tb5 235 rfl rfl
theorem k1263 : (Jvm.Cond.code ({ cls := "BelievedWordsModel", name := "canBe", desc := "(I)Z" } : Jvm.MethodName) prog_13_method_34_code (5 : Nat) (Option.some Jvm.ClassFile.FieldType.boolean)) ∈ TB := tb5 236 rfl rfl
theorem k1264 : (Jvm.Cond.methodLink "BelievedWordsModel" (189 : Nat) ({ cls := "BelievedWordsModel", name := "bits", desc := "(I)I" } : Jvm.MethodName)) ∈ TB := tb5 237 rfl rfl
theorem k1265 : (Jvm.Cond.static ({ cls := "BelievedWordsModel", name := "bits", desc := "(I)I" } : Jvm.MethodName)) ∈ TB := tb5 238 rfl rfl
theorem k1266 : (Jvm.Cond.code ({ cls := "BelievedWordsModel", name := "bits", desc := "(I)I" } : Jvm.MethodName) prog_13_method_32_code (3 : Nat) (Option.some Jvm.ClassFile.FieldType.int)) ∈ TB := tb5 239 rfl rfl
theorem k1267 : (Jvm.Cond.methodLink "BelievedWordsLaw" (57 : Nat) ({ cls := "BelievedWordsModel", name := "pardon", desc := "(I)I" } : Jvm.MethodName)) ∈ TB := tb6 0 rfl rfl
theorem k1268 : (Jvm.Cond.instanceMethod ({ cls := "BelievedWordsModel", name := "pardon", desc := "(I)I" } : Jvm.MethodName)) ∈ TB := tb6 1 rfl rfl
theorem k1269 : (Jvm.Cond.selects "BelievedWordsModel" ({ cls := "BelievedWordsModel", name := "pardon", desc := "(I)I" } : Jvm.MethodName) ({ cls := "BelievedWordsModel", name := "pardon", desc := "(I)I" } : Jvm.MethodName)) ∈ TB := tb6 2 rfl rfl
theorem k1270 : (Jvm.Cond.code ({ cls := "BelievedWordsModel", name := "pardon", desc := "(I)I" } : Jvm.MethodName) prog_13_method_40_code (2 : Nat) (Option.some Jvm.ClassFile.FieldType.int)) ∈ TB := tb6 3 rfl rfl
theorem k1271 : (Jvm.Cond.methodLink "BelievedWordsModel" (192 : Nat) ({ cls := "BelievedWordsModel", name := "isFact", desc := "(I)Z" } : Jvm.MethodName)) ∈ TB := tb6 4 rfl rfl
theorem k1273 : (Jvm.Cond.instanceMethod ({ cls := "BelievedWordsModel", name := "isFact", desc := "(I)Z" } : Jvm.MethodName)) ∈ TB := tb6 6 rfl rfl
theorem k1274 : (Jvm.Cond.code ({ cls := "BelievedWordsModel", name := "isFact", desc := "(I)Z" } : Jvm.MethodName) prog_13_method_26_code (2 : Nat) (Option.some Jvm.ClassFile.FieldType.boolean)) ∈ TB := tb6 7 rfl rfl
theorem k1275 : (Jvm.Cond.constant "BelievedWordsModel" (195 : Nat) (-1000002 : Int32)) ∈ TB := tb6 8 rfl rfl
theorem k1276 : (Jvm.Cond.methodLink "BelievedWordsLaw" (61 : Nat) ({ cls := "BelievedWordsModel", name := "strike", desc := "(II)I" } : Jvm.MethodName)) ∈ TB := tb6 9 rfl rfl
theorem k1277 : (Jvm.Cond.instanceMethod ({ cls := "BelievedWordsModel", name := "strike", desc := "(II)I" } : Jvm.MethodName)) ∈ TB := tb6 10 rfl rfl
theorem k1278 : (Jvm.Cond.selects "BelievedWordsModel" ({ cls := "BelievedWordsModel", name := "strike", desc := "(II)I" } : Jvm.MethodName) ({ cls := "BelievedWordsModel", name := "strike", desc := "(II)I" } : Jvm.MethodName)) ∈ TB := tb6 11 rfl rfl
theorem k1279 : (Jvm.Cond.code ({ cls := "BelievedWordsModel", name := "strike", desc := "(II)I" } : Jvm.MethodName) prog_13_method_41_code (5 : Nat) (Option.some Jvm.ClassFile.FieldType.int)) ∈ TB := tb6 12 rfl rfl
theorem k1280 : (Jvm.Cond.methodLink "BelievedWordsModel" (196 : Nat) ({ cls := "BelievedWordsModel", name := "isRule", desc := "(I)Z" } : Jvm.MethodName)) ∈ TB := tb6 13 rfl rfl
theorem k1282 : (Jvm.Cond.instanceMethod ({ cls := "BelievedWordsModel", name := "isRule", desc := "(I)Z" } : Jvm.MethodName)) ∈ TB := tb6 15 rfl rfl
theorem k1283 : (Jvm.Cond.code ({ cls := "BelievedWordsModel", name := "isRule", desc := "(I)Z" } : Jvm.MethodName) prog_13_method_28_code (2 : Nat) (Option.some Jvm.ClassFile.FieldType.boolean)) ∈ TB := tb6 16 rfl rfl
theorem k1284 : (Jvm.Cond.methodLink "BelievedWordsLaw" (48 : Nat) ({ cls := "BelievedWordsModel", name := "undo", desc := "()I" } : Jvm.MethodName)) ∈ TB := tb6 17 rfl rfl
theorem k1285 : (Jvm.Cond.instanceMethod ({ cls := "BelievedWordsModel", name := "undo", desc := "()I" } : Jvm.MethodName)) ∈ TB := tb6 18 rfl rfl
theorem k1286 : (Jvm.Cond.selects "BelievedWordsModel" ({ cls := "BelievedWordsModel", name := "undo", desc := "()I" } : Jvm.MethodName) ({ cls := "BelievedWordsModel", name := "undo", desc := "()I" } : Jvm.MethodName)) ∈ TB := tb6 19 rfl rfl
theorem k1287 : (Jvm.Cond.code ({ cls := "BelievedWordsModel", name := "undo", desc := "()I" } : Jvm.MethodName) prog_13_method_42_code (2 : Nat) (Option.some Jvm.ClassFile.FieldType.int)) ∈ TB := tb6 20 rfl rfl
theorem k1288 : (Jvm.Cond.methodLink "BelievedWordsLaw" (65 : Nat) ({ cls := "BelievedWordsModel", name := "stand", desc := "(I)I" } : Jvm.MethodName)) ∈ TB := tb6 21 rfl rfl
theorem k1289 : (Jvm.Cond.instanceMethod ({ cls := "BelievedWordsModel", name := "stand", desc := "(I)I" } : Jvm.MethodName)) ∈ TB := tb6 22 rfl rfl
theorem k1290 : (Jvm.Cond.selects "BelievedWordsModel" ({ cls := "BelievedWordsModel", name := "stand", desc := "(I)I" } : Jvm.MethodName) ({ cls := "BelievedWordsModel", name := "stand", desc := "(I)I" } : Jvm.MethodName)) ∈ TB := tb6 23 rfl rfl
theorem k1291 : (Jvm.Cond.code ({ cls := "BelievedWordsModel", name := "stand", desc := "(I)I" } : Jvm.MethodName) prog_13_method_43_code (2 : Nat) (Option.some Jvm.ClassFile.FieldType.int)) ∈ TB := tb6 24 rfl rfl
theorem k1292 : (Jvm.Cond.methodLink "BelievedWordsModel" (199 : Nat) ({ cls := "BelievedWordsModel", name := "isThere", desc := "()Z" } : Jvm.MethodName)) ∈ TB := tb6 25 rfl rfl
theorem k1294 : (Jvm.Cond.instanceMethod ({ cls := "BelievedWordsModel", name := "isThere", desc := "()Z" } : Jvm.MethodName)) ∈ TB := tb6 27 rfl rfl
theorem k1295 : (Jvm.Cond.code ({ cls := "BelievedWordsModel", name := "isThere", desc := "()Z" } : Jvm.MethodName) prog_13_method_25_code (1 : Nat) (Option.some Jvm.ClassFile.FieldType.boolean)) ∈ TB := tb6 28 rfl rfl
theorem k1296 : (Jvm.Cond.methodLink "BelievedWordsLaw" (69 : Nat) ({ cls := "BelievedWordsModel", name := "rule", desc := "(II)I" } : Jvm.MethodName)) ∈ TB := tb6 29 rfl rfl
theorem k1297 : (Jvm.Cond.instanceMethod ({ cls := "BelievedWordsModel", name := "rule", desc := "(II)I" } : Jvm.MethodName)) ∈ TB := tb6 30 rfl rfl
theorem k1298 : (Jvm.Cond.selects "BelievedWordsModel" ({ cls := "BelievedWordsModel", name := "rule", desc := "(II)I" } : Jvm.MethodName) ({ cls := "BelievedWordsModel", name := "rule", desc := "(II)I" } : Jvm.MethodName)) ∈ TB := tb6 31 rfl rfl
theorem k1299 : (Jvm.Cond.code ({ cls := "BelievedWordsModel", name := "rule", desc := "(II)I" } : Jvm.MethodName) prog_13_method_44_code (3 : Nat) (Option.some Jvm.ClassFile.FieldType.int)) ∈ TB := tb6 32 rfl rfl
theorem k1300 : (Jvm.Cond.constantLong "BelievedWordsModel" (202 : Nat) (3 : Int64)) ∈ TB := tb6 33 rfl rfl
theorem k1301 : (Jvm.Cond.methodLink "BelievedWordsLaw" (73 : Nat) ({ cls := "BelievedWordsModel", name := "cell", desc := "(I)I" } : Jvm.MethodName)) ∈ TB := tb6 34 rfl rfl
theorem k1302 : (Jvm.Cond.instanceMethod ({ cls := "BelievedWordsModel", name := "cell", desc := "(I)I" } : Jvm.MethodName)) ∈ TB := tb6 35 rfl rfl
theorem k1303 : (Jvm.Cond.selects "BelievedWordsModel" ({ cls := "BelievedWordsModel", name := "cell", desc := "(I)I" } : Jvm.MethodName) ({ cls := "BelievedWordsModel", name := "cell", desc := "(I)I" } : Jvm.MethodName)) ∈ TB := tb6 36 rfl rfl
theorem k1304 : (Jvm.Cond.code ({ cls := "BelievedWordsModel", name := "cell", desc := "(I)I" } : Jvm.MethodName) prog_13_method_45_code (2 : Nat) (Option.some Jvm.ClassFile.FieldType.int)) ∈ TB := tb6 37 rfl rfl
theorem k1305 : (Jvm.Cond.methodLink "BelievedWordsLaw" (77 : Nat) ({ cls := "BelievedWordsModel", name := "makes", desc := "(II)I" } : Jvm.MethodName)) ∈ TB := tb6 38 rfl rfl
theorem k1306 : (Jvm.Cond.instanceMethod ({ cls := "BelievedWordsModel", name := "makes", desc := "(II)I" } : Jvm.MethodName)) ∈ TB := tb6 39 rfl rfl
theorem k1307 : (Jvm.Cond.selects "BelievedWordsModel" ({ cls := "BelievedWordsModel", name := "makes", desc := "(II)I" } : Jvm.MethodName) ({ cls := "BelievedWordsModel", name := "makes", desc := "(II)I" } : Jvm.MethodName)) ∈ TB := tb6 40 rfl rfl
theorem k1308 : (Jvm.Cond.code ({ cls := "BelievedWordsModel", name := "makes", desc := "(II)I" } : Jvm.MethodName) prog_13_method_46_code (3 : Nat) (Option.some Jvm.ClassFile.FieldType.int)) ∈ TB := tb6 41 rfl rfl
theorem k1309 : (Jvm.Cond.methodLink "BelievedWordsLaw" (81 : Nat) ({ cls := "BelievedWordsModel", name := "shortest", desc := "(III)I" } : Jvm.MethodName)) ∈ TB := tb6 42 rfl rfl
theorem k1310 : (Jvm.Cond.instanceMethod ({ cls := "BelievedWordsModel", name := "shortest", desc := "(III)I" } : Jvm.MethodName)) ∈ TB := tb6 43 rfl rfl
theorem k1311 : (Jvm.Cond.selects "BelievedWordsModel" ({ cls := "BelievedWordsModel", name := "shortest", desc := "(III)I" } : Jvm.MethodName) ({ cls := "BelievedWordsModel", name := "shortest", desc := "(III)I" } : Jvm.MethodName)) ∈ TB := tb6 44 rfl rfl
theorem k1312 : (Jvm.Cond.code ({ cls := "BelievedWordsModel", name := "shortest", desc := "(III)I" } : Jvm.MethodName) prog_13_method_53_code (4 : Nat) (Option.some Jvm.ClassFile.FieldType.int)) ∈ TB := tb6 45 rfl rfl
theorem k1313 : (Jvm.Cond.methodLink "BelievedWordsModel" (220 : Nat) ({ cls := "BelievedWordsModel", name := "areTold", desc := "(II)Z" } : Jvm.MethodName)) ∈ TB := tb6 46 rfl rfl
theorem k1315 : (Jvm.Cond.instanceMethod ({ cls := "BelievedWordsModel", name := "areTold", desc := "(II)Z" } : Jvm.MethodName)) ∈ TB := tb6 48 rfl rfl
theorem k1316 : (Jvm.Cond.code ({ cls := "BelievedWordsModel", name := "areTold", desc := "(II)Z" } : Jvm.MethodName) prog_13_method_51_code (3 : Nat) (Option.some Jvm.ClassFile.FieldType.boolean)) ∈ TB := tb6 49 rfl rfl
theorem k1317 : (Jvm.Cond.methodLink "BelievedWordsModel" (217 : Nat) ({ cls := "BelievedWordsModel", name := "areFacts", desc := "(I)Z" } : Jvm.MethodName)) ∈ TB := tb6 50 rfl rfl
theorem k1319 : (Jvm.Cond.instanceMethod ({ cls := "BelievedWordsModel", name := "areFacts", desc := "(I)Z" } : Jvm.MethodName)) ∈ TB := tb6 52 rfl rfl
theorem k1320 : (Jvm.Cond.code ({ cls := "BelievedWordsModel", name := "areFacts", desc := "(I)Z" } : Jvm.MethodName) prog_13_method_30_code (2 : Nat) (Option.some Jvm.ClassFile.FieldType.boolean)) ∈ TB := tb6 53 rfl rfl
theorem k1321 : (Jvm.Cond.methodLink "BelievedWordsModel" (224 : Nat) ({ cls := "BelievedWordsModel", name := "isSoNow", desc := "(II)Z" } : Jvm.MethodName)) ∈ TB := tb6 54 rfl rfl
theorem k1323 : (Jvm.Cond.instanceMethod ({ cls := "BelievedWordsModel", name := "isSoNow", desc := "(II)Z" } : Jvm.MethodName)) ∈ TB := tb6 56 rfl rfl
theorem k1324 : (Jvm.Cond.code ({ cls := "BelievedWordsModel", name := "isSoNow", desc := "(II)Z" } : Jvm.MethodName) prog_13_method_50_code (3 : Nat) (Option.some Jvm.ClassFile.FieldType.boolean)) ∈ TB := tb6 57 rfl rfl
theorem k1325 : (Jvm.Cond.methodLink "BelievedWordsModel" (227 : Nat) ({ cls := "BelievedWordsModel", name := "spread", desc := "(Z)V" } : Jvm.MethodName)) ∈ TB := tb6 58 rfl rfl
theorem k1327 : (Jvm.Cond.instanceMethod ({ cls := "BelievedWordsModel", name := "spread", desc := "(Z)V" } : Jvm.MethodName)) ∈ TB := tb6 60 rfl rfl
theorem k1328 : (Jvm.Cond.code ({ cls := "BelievedWordsModel", name := "spread", desc := "(Z)V" } : Jvm.MethodName) prog_13_method_49_code (3 : Nat) (Option.none : Option Jvm.ClassFile.FieldType)) ∈ TB := tb6 61 rfl rfl
theorem k1329 : (Jvm.Cond.methodLink "BelievedWordsModel" (207 : Nat) ({ cls := "BelievedWordsModel", name := "clearStates", desc := "()V" } : Jvm.MethodName)) ∈ TB := tb6 62 rfl rfl
theorem k1331 : (Jvm.Cond.instanceMethod ({ cls := "BelievedWordsModel", name := "clearStates", desc := "()V" } : Jvm.MethodName)) ∈ TB := tb6 64 rfl rfl
theorem k1332 : (Jvm.Cond.code ({ cls := "BelievedWordsModel", name := "clearStates", desc := "()V" } : Jvm.MethodName) prog_13_method_47_code (2 : Nat) (Option.none : Option Jvm.ClassFile.FieldType)) ∈ TB := tb6 65 rfl rfl
theorem k1333 : (Jvm.Cond.methodLink "BelievedWordsModel" (213 : Nat) ({ cls := "BelievedWordsModel", name := "goOn", desc := "(IIIZ)V" } : Jvm.MethodName)) ∈ TB := tb6 66 rfl rfl
theorem k1335 : (Jvm.Cond.instanceMethod ({ cls := "BelievedWordsModel", name := "goOn", desc := "(IIIZ)V" } : Jvm.MethodName)) ∈ TB := tb6 68 rfl rfl
theorem k1336 : (Jvm.Cond.code ({ cls := "BelievedWordsModel", name := "goOn", desc := "(IIIZ)V" } : Jvm.MethodName) prog_13_method_48_code (11 : Nat) (Option.none : Option Jvm.ClassFile.FieldType)) ∈ TB := tb6 69 rfl rfl
theorem k1337 : (Jvm.Cond.methodLink "BelievedWordsModel" (230 : Nat) ({ cls := "BelievedWordsModel", name := "bestOf", desc := "(III)I" } : Jvm.MethodName)) ∈ TB := tb6 70 rfl rfl
theorem k1339 : (Jvm.Cond.instanceMethod ({ cls := "BelievedWordsModel", name := "bestOf", desc := "(III)I" } : Jvm.MethodName)) ∈ TB := tb6 72 rfl rfl
theorem k1340 : (Jvm.Cond.code ({ cls := "BelievedWordsModel", name := "bestOf", desc := "(III)I" } : Jvm.MethodName) prog_13_method_52_code (8 : Nat) (Option.some Jvm.ClassFile.FieldType.int)) ∈ TB := tb6 73 rfl rfl
theorem k1341 : (Jvm.Cond.methodLink "BelievedWordsLaw" (85 : Nat) ({ cls := "BelievedWordsModel", name := "cheapest", desc := "(III)I" } : Jvm.MethodName)) ∈ TB := tb6 74 rfl rfl
theorem k1342 : (Jvm.Cond.instanceMethod ({ cls := "BelievedWordsModel", name := "cheapest", desc := "(III)I" } : Jvm.MethodName)) ∈ TB := tb6 75 rfl rfl
theorem k1343 : (Jvm.Cond.selects "BelievedWordsModel" ({ cls := "BelievedWordsModel", name := "cheapest", desc := "(III)I" } : Jvm.MethodName) ({ cls := "BelievedWordsModel", name := "cheapest", desc := "(III)I" } : Jvm.MethodName)) ∈ TB := tb6 76 rfl rfl
theorem k1344 : (Jvm.Cond.code ({ cls := "BelievedWordsModel", name := "cheapest", desc := "(III)I" } : Jvm.MethodName) prog_13_method_54_code (4 : Nat) (Option.some Jvm.ClassFile.FieldType.int)) ∈ TB := tb6 77 rfl rfl
theorem k1345 : (Jvm.Cond.methodLink "BelievedWordsLaw" (89 : Nat) ({ cls := "BelievedWordsModel", name := "idle", desc := "(I)I" } : Jvm.MethodName)) ∈ TB := tb6 78 rfl rfl
theorem k1346 : (Jvm.Cond.instanceMethod ({ cls := "BelievedWordsModel", name := "idle", desc := "(I)I" } : Jvm.MethodName)) ∈ TB := tb6 79 rfl rfl
theorem k1347 : (Jvm.Cond.selects "BelievedWordsModel" ({ cls := "BelievedWordsModel", name := "idle", desc := "(I)I" } : Jvm.MethodName) ({ cls := "BelievedWordsModel", name := "idle", desc := "(I)I" } : Jvm.MethodName)) ∈ TB := tb6 80 rfl rfl
theorem k1348 : (Jvm.Cond.code ({ cls := "BelievedWordsModel", name := "idle", desc := "(I)I" } : Jvm.MethodName) prog_13_method_55_code (4 : Nat) (Option.some Jvm.ClassFile.FieldType.int)) ∈ TB := tb6 81 rfl rfl
theorem k1349 : (Jvm.Cond.methodLink "BelievedWordsLaw" (93 : Nat) ({ cls := "BelievedWordsModel", name := "giveUp", desc := "(II)I" } : Jvm.MethodName)) ∈ TB := tb6 82 rfl rfl
theorem k1350 : (Jvm.Cond.instanceMethod ({ cls := "BelievedWordsModel", name := "giveUp", desc := "(II)I" } : Jvm.MethodName)) ∈ TB := tb6 83 rfl rfl
theorem k1351 : (Jvm.Cond.selects "BelievedWordsModel" ({ cls := "BelievedWordsModel", name := "giveUp", desc := "(II)I" } : Jvm.MethodName) ({ cls := "BelievedWordsModel", name := "giveUp", desc := "(II)I" } : Jvm.MethodName)) ∈ TB := tb6 84 rfl rfl
theorem k1352 : (Jvm.Cond.code ({ cls := "BelievedWordsModel", name := "giveUp", desc := "(II)I" } : Jvm.MethodName) prog_13_method_56_code (6 : Nat) (Option.some Jvm.ClassFile.FieldType.int)) ∈ TB := tb6 85 rfl rfl
theorem k1353 : (Jvm.Cond.methodLink "BelievedWordsLaw" (97 : Nat) ({ cls := "BelievedWordsModel", name := "order", desc := "(II)I" } : Jvm.MethodName)) ∈ TB := tb6 86 rfl rfl
theorem k1354 : (Jvm.Cond.instanceMethod ({ cls := "BelievedWordsModel", name := "order", desc := "(II)I" } : Jvm.MethodName)) ∈ TB := tb6 87 rfl rfl
theorem k1355 : (Jvm.Cond.selects "BelievedWordsModel" ({ cls := "BelievedWordsModel", name := "order", desc := "(II)I" } : Jvm.MethodName) ({ cls := "BelievedWordsModel", name := "order", desc := "(II)I" } : Jvm.MethodName)) ∈ TB := tb6 88 rfl rfl
theorem k1356 : (Jvm.Cond.code ({ cls := "BelievedWordsModel", name := "order", desc := "(II)I" } : Jvm.MethodName) prog_13_method_58_code (8 : Nat) (Option.some Jvm.ClassFile.FieldType.int)) ∈ TB := tb6 89 rfl rfl
theorem k1357 : (Jvm.Cond.methodLink "BelievedWordsModel" (233 : Nat) ({ cls := "BelievedWordsModel", name := "madeBy", desc := "(I)I" } : Jvm.MethodName)) ∈ TB := tb6 90 rfl rfl
theorem k1359 : (Jvm.Cond.instanceMethod ({ cls := "BelievedWordsModel", name := "madeBy", desc := "(I)I" } : Jvm.MethodName)) ∈ TB := tb6 92 rfl rfl
theorem k1360 : (Jvm.Cond.code ({ cls := "BelievedWordsModel", name := "madeBy", desc := "(I)I" } : Jvm.MethodName) prog_13_method_57_code (5 : Nat) (Option.some Jvm.ClassFile.FieldType.int)) ∈ TB := tb6 93 rfl rfl
theorem k1361 : (Jvm.Cond.methodLink "BelievedWordsLaw" (101 : Nat) ({ cls := "BelievedWordsModel", name := "ever", desc := "(I)I" } : Jvm.MethodName)) ∈ TB := tb6 94 rfl rfl
theorem k1362 : (Jvm.Cond.instanceMethod ({ cls := "BelievedWordsModel", name := "ever", desc := "(I)I" } : Jvm.MethodName)) ∈ TB := tb6 95 rfl rfl
theorem k1363 : (Jvm.Cond.selects "BelievedWordsModel" ({ cls := "BelievedWordsModel", name := "ever", desc := "(I)I" } : Jvm.MethodName) ({ cls := "BelievedWordsModel", name := "ever", desc := "(I)I" } : Jvm.MethodName)) ∈ TB := tb6 96 rfl rfl
theorem k1364 : (Jvm.Cond.code ({ cls := "BelievedWordsModel", name := "ever", desc := "(I)I" } : Jvm.MethodName) prog_13_method_59_code (7 : Nat) (Option.some Jvm.ClassFile.FieldType.int)) ∈ TB := tb6 97 rfl rfl
theorem k1365 : (Jvm.Cond.methodLink "BelievedWordsLaw" (105 : Nat) ({ cls := "BelievedWordsModel", name := "said", desc := "(IIIII)I" } : Jvm.MethodName)) ∈ TB := tb6 98 rfl rfl
theorem k1366 : (Jvm.Cond.instanceMethod ({ cls := "BelievedWordsModel", name := "said", desc := "(IIIII)I" } : Jvm.MethodName)) ∈ TB := tb6 99 rfl rfl
theorem k1367 : (Jvm.Cond.selects "BelievedWordsModel" ({ cls := "BelievedWordsModel", name := "said", desc := "(IIIII)I" } : Jvm.MethodName) ({ cls := "BelievedWordsModel", name := "said", desc := "(IIIII)I" } : Jvm.MethodName)) ∈ TB := tb6 100 rfl rfl
theorem k1368 : (Jvm.Cond.code ({ cls := "BelievedWordsModel", name := "said", desc := "(IIIII)I" } : Jvm.MethodName) prog_13_method_60_code (17 : Nat) (Option.some Jvm.ClassFile.FieldType.int)) ∈ TB := tb6 101 rfl rfl
theorem k1369 : (Jvm.Cond.constantLong "BelievedWordsModel" (236 : Nat) (4 : Int64)) ∈ TB := tb6 102 rfl rfl
theorem k1370 : (Jvm.Cond.methodLink "BelievedWordsLaw" (110 : Nat) ({ cls := "BelievedWordsModel", name := "who", desc := "(IIII)I" } : Jvm.MethodName)) ∈ TB := tb6 103 rfl rfl
theorem k1371 : (Jvm.Cond.instanceMethod ({ cls := "BelievedWordsModel", name := "who", desc := "(IIII)I" } : Jvm.MethodName)) ∈ TB := tb6 104 rfl rfl
theorem k1372 : (Jvm.Cond.selects "BelievedWordsModel" ({ cls := "BelievedWordsModel", name := "who", desc := "(IIII)I" } : Jvm.MethodName) ({ cls := "BelievedWordsModel", name := "who", desc := "(IIII)I" } : Jvm.MethodName)) ∈ TB := tb6 105 rfl rfl
theorem k1373 : (Jvm.Cond.code ({ cls := "BelievedWordsModel", name := "who", desc := "(IIII)I" } : Jvm.MethodName) prog_13_method_61_code (13 : Nat) (Option.some Jvm.ClassFile.FieldType.int)) ∈ TB := tb6 106 rfl rfl
theorem k1374 : (Jvm.Cond.constantLong "BelievedWordsModel" (238 : Nat) (12 : Int64)) ∈ TB := tb6 107 rfl rfl
theorem k1375 : (Jvm.Cond.methodLink "BelievedWordsLaw" (115 : Nat) ({ cls := "BelievedWordsModel", name := "temper", desc := "(IIIIII)J" } : Jvm.MethodName)) ∈ TB := tb6 108 rfl rfl
theorem k1376 : (Jvm.Cond.instanceMethod ({ cls := "BelievedWordsModel", name := "temper", desc := "(IIIIII)J" } : Jvm.MethodName)) ∈ TB := tb6 109 rfl rfl
theorem k1377 : (Jvm.Cond.selects "BelievedWordsModel" ({ cls := "BelievedWordsModel", name := "temper", desc := "(IIIIII)J" } : Jvm.MethodName) ({ cls := "BelievedWordsModel", name := "temper", desc := "(IIIIII)J" } : Jvm.MethodName)) ∈ TB := tb6 110 rfl rfl
theorem k1378 : (Jvm.Cond.code ({ cls := "BelievedWordsModel", name := "temper", desc := "(IIIIII)J" } : Jvm.MethodName) prog_13_method_63_code (18 : Nat) (Option.some Jvm.ClassFile.FieldType.long)) ∈ TB := tb6 111 rfl rfl
theorem k1379 : (Jvm.Cond.constantLong "BelievedWordsModel" (240 : Nat) (-1000002 : Int64)) ∈ TB := tb6 112 rfl rfl
theorem k1380 : (Jvm.Cond.constantLong "BelievedWordsModel" (242 : Nat) (10 : Int64)) ∈ TB := tb6 113 rfl rfl
theorem k1381 : (Jvm.Cond.constantLong "BelievedWordsModel" (244 : Nat) (6 : Int64)) ∈ TB := tb6 114 rfl rfl
theorem k1382 : (Jvm.Cond.constantLong "BelievedWordsModel" (246 : Nat) (-1000001 : Int64)) ∈ TB := tb6 115 rfl rfl
theorem k1383 : (Jvm.Cond.methodLink "BelievedWordsModel" (248 : Nat) ({ cls := "BelievedWordsModel", name := "afterAll", desc := "(III)I" } : Jvm.MethodName)) ∈ TB := tb6 116 rfl rfl
theorem k1385 : (Jvm.Cond.instanceMethod ({ cls := "BelievedWordsModel", name := "afterAll", desc := "(III)I" } : Jvm.MethodName)) ∈ TB := tb6 118 rfl rfl
theorem k1386 : (Jvm.Cond.code ({ cls := "BelievedWordsModel", name := "afterAll", desc := "(III)I" } : Jvm.MethodName) prog_13_method_62_code (9 : Nat) (Option.some Jvm.ClassFile.FieldType.int)) ∈ TB := tb6 119 rfl rfl
theorem k1387 : (Jvm.Cond.methodLink "BelievedWordsLaw" (119 : Nat) ({ cls := "BelievedWordsModel", name := "drawn", desc := "(III)I" } : Jvm.MethodName)) ∈ TB := tb6 120 rfl rfl
theorem k1388 : (Jvm.Cond.instanceMethod ({ cls := "BelievedWordsModel", name := "drawn", desc := "(III)I" } : Jvm.MethodName)) ∈ TB := tb6 121 rfl rfl
theorem k1389 : (Jvm.Cond.selects "BelievedWordsModel" ({ cls := "BelievedWordsModel", name := "drawn", desc := "(III)I" } : Jvm.MethodName) ({ cls := "BelievedWordsModel", name := "drawn", desc := "(III)I" } : Jvm.MethodName)) ∈ TB := tb6 122 rfl rfl
theorem k1390 : (Jvm.Cond.code ({ cls := "BelievedWordsModel", name := "drawn", desc := "(III)I" } : Jvm.MethodName) prog_13_method_64_code (12 : Nat) (Option.some Jvm.ClassFile.FieldType.int)) ∈ TB := tb6 123 rfl rfl
theorem k1391 : (Jvm.Cond.constantLong "BelievedWordsModel" (251 : Nat) (60 : Int64)) ∈ TB := tb6 124 rfl rfl
theorem k1392 : (Jvm.Cond.constantLong "BelievedWordsModel" (253 : Nat) (999999 : Int64)) ∈ TB := tb6 125 rfl rfl
theorem k1393 : (Jvm.Cond.constantLong "BelievedWordsModel" (255 : Nat) (16807 : Int64)) ∈ TB := tb6 126 rfl rfl
theorem k1394 : (Jvm.Cond.constantLong "BelievedWordsModel" (257 : Nat) (2147483647 : Int64)) ∈ TB := tb6 127 rfl rfl
theorem k1395 : (Jvm.Cond.methodLink "BelievedWordsLaw" (123 : Nat) ({ cls := "BelievedWordsModel", name := "image", desc := "(I)I" } : Jvm.MethodName)) ∈ TB := tb6 128 rfl rfl
theorem k1396 : (Jvm.Cond.instanceMethod ({ cls := "BelievedWordsModel", name := "image", desc := "(I)I" } : Jvm.MethodName)) ∈ TB := tb6 129 rfl rfl
theorem k1397 : (Jvm.Cond.selects "BelievedWordsModel" ({ cls := "BelievedWordsModel", name := "image", desc := "(I)I" } : Jvm.MethodName) ({ cls := "BelievedWordsModel", name := "image", desc := "(I)I" } : Jvm.MethodName)) ∈ TB := tb6 130 rfl rfl
theorem k1398 : (Jvm.Cond.code ({ cls := "BelievedWordsModel", name := "image", desc := "(I)I" } : Jvm.MethodName) prog_13_method_65_code (3 : Nat) (Option.some Jvm.ClassFile.FieldType.int)) ∈ TB := tb6 131 rfl rfl
theorem k1399 : (Jvm.Cond.methodLink "BelievedWordsLaw" (127 : Nat) ({ cls := "BelievedWordsModel", name := "restore", desc := "(I)I" } : Jvm.MethodName)) ∈ TB := tb6 132 rfl rfl
theorem k1400 : (Jvm.Cond.instanceMethod ({ cls := "BelievedWordsModel", name := "restore", desc := "(I)I" } : Jvm.MethodName)) ∈ TB := tb6 133 rfl rfl
theorem k1401 : (Jvm.Cond.selects "BelievedWordsModel" ({ cls := "BelievedWordsModel", name := "restore", desc := "(I)I" } : Jvm.MethodName) ({ cls := "BelievedWordsModel", name := "restore", desc := "(I)I" } : Jvm.MethodName)) ∈ TB := tb6 134 rfl rfl
theorem k1402 : (Jvm.Cond.code ({ cls := "BelievedWordsModel", name := "restore", desc := "(I)I" } : Jvm.MethodName) prog_13_method_66_code (3 : Nat) (Option.some Jvm.ClassFile.FieldType.int)) ∈ TB := tb6 135 rfl rfl
theorem k1403 : (Jvm.Cond.methodLink "BelievedWordsLaw" (131 : Nat) ({ cls := "BelievedWordsModel", name := "kind", desc := "(I)I" } : Jvm.MethodName)) ∈ TB := tb6 136 rfl rfl
theorem k1404 : (Jvm.Cond.instanceMethod ({ cls := "BelievedWordsModel", name := "kind", desc := "(I)I" } : Jvm.MethodName)) ∈ TB := tb6 137 rfl rfl
theorem k1405 : (Jvm.Cond.selects "BelievedWordsModel" ({ cls := "BelievedWordsModel", name := "kind", desc := "(I)I" } : Jvm.MethodName) ({ cls := "BelievedWordsModel", name := "kind", desc := "(I)I" } : Jvm.MethodName)) ∈ TB := tb6 138 rfl rfl
theorem k1406 : (Jvm.Cond.code ({ cls := "BelievedWordsModel", name := "kind", desc := "(I)I" } : Jvm.MethodName) prog_13_method_68_code (2 : Nat) (Option.some Jvm.ClassFile.FieldType.int)) ∈ TB := tb6 139 rfl rfl
theorem k1407 : (Jvm.Cond.methodLink "BelievedWordsLaw" (135 : Nat) ({ cls := "BelievedWordsModel", name := "as", desc := "(II)I" } : Jvm.MethodName)) ∈ TB := tb6 140 rfl rfl
theorem k1408 : (Jvm.Cond.instanceMethod ({ cls := "BelievedWordsModel", name := "as", desc := "(II)I" } : Jvm.MethodName)) ∈ TB := tb6 141 rfl rfl
theorem k1409 : (Jvm.Cond.selects "BelievedWordsModel" ({ cls := "BelievedWordsModel", name := "as", desc := "(II)I" } : Jvm.MethodName) ({ cls := "BelievedWordsModel", name := "as", desc := "(II)I" } : Jvm.MethodName)) ∈ TB := tb6 142 rfl rfl
theorem k1410 : (Jvm.Cond.code ({ cls := "BelievedWordsModel", name := "as", desc := "(II)I" } : Jvm.MethodName) prog_13_method_69_code (3 : Nat) (Option.some Jvm.ClassFile.FieldType.int)) ∈ TB := tb6 143 rfl rfl
theorem k1411 : (Jvm.Cond.constantLong "BelievedWordsModel" (259 : Nat) (5 : Int64)) ∈ TB := tb6 144 rfl rfl
theorem k1412 : (Jvm.Cond.methodLink "BelievedWordsModel" (261 : Nat) ({ cls := "BelievedWordsModel", name := "isOf", desc := "(II)Z" } : Jvm.MethodName)) ∈ TB := tb6 145 rfl rfl
theorem k1413 : (Jvm.Cond.static ({ cls := "BelievedWordsModel", name := "isOf", desc := "(II)Z" } : Jvm.MethodName)) ∈ TB := tb6 146 rfl rfl
theorem k1414 : (Jvm.Cond.code ({ cls := "BelievedWordsModel", name := "isOf", desc := "(II)Z" } : Jvm.MethodName) prog_13_method_67_code (2 : Nat) (Option.some Jvm.ClassFile.FieldType.boolean)) ∈ TB := tb6 147 rfl rfl
theorem k1415 : (Jvm.Cond.methodLink "BelievedWordsLaw" (139 : Nat) ({ cls := "BelievedWordsModel", name := "ask", desc := "(II)I" } : Jvm.MethodName)) ∈ TB := tb6 148 rfl rfl
theorem k1416 : (Jvm.Cond.instanceMethod ({ cls := "BelievedWordsModel", name := "ask", desc := "(II)I" } : Jvm.MethodName)) ∈ TB := tb6 149 rfl rfl
theorem k1417 : (Jvm.Cond.selects "BelievedWordsModel" ({ cls := "BelievedWordsModel", name := "ask", desc := "(II)I" } : Jvm.MethodName) ({ cls := "BelievedWordsModel", name := "ask", desc := "(II)I" } : Jvm.MethodName)) ∈ TB := tb6 150 rfl rfl
theorem k1418 : (Jvm.Cond.code ({ cls := "BelievedWordsModel", name := "ask", desc := "(II)I" } : Jvm.MethodName) prog_13_method_75_code (3 : Nat) (Option.some Jvm.ClassFile.FieldType.int)) ∈ TB := tb6 151 rfl rfl
theorem k1419 : (Jvm.Cond.methodLink "BelievedWordsModel" (279 : Nat) ({ cls := "BelievedWordsModel", name := "sizeOf", desc := "(I)I" } : Jvm.MethodName)) ∈ TB := tb6 152 rfl rfl
theorem k1421 : (Jvm.Cond.instanceMethod ({ cls := "BelievedWordsModel", name := "sizeOf", desc := "(I)I" } : Jvm.MethodName)) ∈ TB := tb6 154 rfl rfl
theorem k1422 : (Jvm.Cond.code ({ cls := "BelievedWordsModel", name := "sizeOf", desc := "(I)I" } : Jvm.MethodName) prog_13_method_74_code (4 : Nat) (Option.some Jvm.ClassFile.FieldType.int)) ∈ TB := tb6 155 rfl rfl
theorem k1423 : (Jvm.Cond.methodLink "BelievedWordsModel" (273 : Nat) ({ cls := "BelievedWordsModel", name := "quietSize", desc := "(I)I" } : Jvm.MethodName)) ∈ TB := tb6 156 rfl rfl
theorem k1425 : (Jvm.Cond.instanceMethod ({ cls := "BelievedWordsModel", name := "quietSize", desc := "(I)I" } : Jvm.MethodName)) ∈ TB := tb6 158 rfl rfl
theorem k1426 : (Jvm.Cond.code ({ cls := "BelievedWordsModel", name := "quietSize", desc := "(I)I" } : Jvm.MethodName) prog_13_method_72_code (4 : Nat) (Option.some Jvm.ClassFile.FieldType.int)) ∈ TB := tb6 159 rfl rfl
theorem k1427 : (Jvm.Cond.methodLink "BelievedWordsModel" (267 : Nat) ({ cls := "BelievedWordsModel", name := "began", desc := "(I)V" } : Jvm.MethodName)) ∈ TB := tb6 160 rfl rfl
theorem k1429 : (Jvm.Cond.instanceMethod ({ cls := "BelievedWordsModel", name := "began", desc := "(I)V" } : Jvm.MethodName)) ∈ TB := tb6 162 rfl rfl
theorem k1430 : (Jvm.Cond.code ({ cls := "BelievedWordsModel", name := "began", desc := "(I)V" } : Jvm.MethodName) prog_13_method_70_code (2 : Nat) (Option.none : Option Jvm.ClassFile.FieldType)) ∈ TB := tb6 163 rfl rfl
theorem k1431 : (Jvm.Cond.methodLink "BelievedWordsModel" (270 : Nat) ({ cls := "BelievedWordsModel", name := "plainSize", desc := "(I)I" } : Jvm.MethodName)) ∈ TB := tb6 164 rfl rfl
theorem k1433 : (Jvm.Cond.instanceMethod ({ cls := "BelievedWordsModel", name := "plainSize", desc := "(I)I" } : Jvm.MethodName)) ∈ TB := tb6 166 rfl rfl
theorem k1434 : (Jvm.Cond.code ({ cls := "BelievedWordsModel", name := "plainSize", desc := "(I)I" } : Jvm.MethodName) prog_13_method_71_code (2 : Nat) (Option.some Jvm.ClassFile.FieldType.int)) ∈ TB := tb6 167 rfl rfl
theorem k1435 : (Jvm.Cond.methodLink "BelievedWordsModel" (276 : Nat) ({ cls := "BelievedWordsModel", name := "markOf", desc := "(I)I" } : Jvm.MethodName)) ∈ TB := tb6 168 rfl rfl
theorem k1437 : (Jvm.Cond.instanceMethod ({ cls := "BelievedWordsModel", name := "markOf", desc := "(I)I" } : Jvm.MethodName)) ∈ TB := tb6 170 rfl rfl
theorem k1438 : (Jvm.Cond.code ({ cls := "BelievedWordsModel", name := "markOf", desc := "(I)I" } : Jvm.MethodName) prog_13_method_73_code (4 : Nat) (Option.some Jvm.ClassFile.FieldType.int)) ∈ TB := tb6 171 rfl rfl
theorem k1439 : (Jvm.Cond.methodLink "BelievedWordsLaw" (143 : Nat) ({ cls := "BelievedWordsModel", name := "trace", desc := "(I)I" } : Jvm.MethodName)) ∈ TB := tb6 172 rfl rfl
theorem k1440 : (Jvm.Cond.instanceMethod ({ cls := "BelievedWordsModel", name := "trace", desc := "(I)I" } : Jvm.MethodName)) ∈ TB := tb6 173 rfl rfl
theorem k1441 : (Jvm.Cond.selects "BelievedWordsModel" ({ cls := "BelievedWordsModel", name := "trace", desc := "(I)I" } : Jvm.MethodName) ({ cls := "BelievedWordsModel", name := "trace", desc := "(I)I" } : Jvm.MethodName)) ∈ TB := tb6 174 rfl rfl
theorem k1442 : (Jvm.Cond.code ({ cls := "BelievedWordsModel", name := "trace", desc := "(I)I" } : Jvm.MethodName) prog_13_method_76_code (2 : Nat) (Option.some Jvm.ClassFile.FieldType.int)) ∈ TB := tb6 175 rfl rfl
theorem k1443 : (Jvm.Cond.methodLink "BelievedWordsLaw" (147 : Nat) ({ cls := "BelievedWordsModel", name := "count", desc := "(I)I" } : Jvm.MethodName)) ∈ TB := tb6 176 rfl rfl
theorem k1444 : (Jvm.Cond.instanceMethod ({ cls := "BelievedWordsModel", name := "count", desc := "(I)I" } : Jvm.MethodName)) ∈ TB := tb6 177 rfl rfl
theorem k1445 : (Jvm.Cond.selects "BelievedWordsModel" ({ cls := "BelievedWordsModel", name := "count", desc := "(I)I" } : Jvm.MethodName) ({ cls := "BelievedWordsModel", name := "count", desc := "(I)I" } : Jvm.MethodName)) ∈ TB := tb6 178 rfl rfl
theorem k1446 : (Jvm.Cond.code ({ cls := "BelievedWordsModel", name := "count", desc := "(I)I" } : Jvm.MethodName) prog_13_method_77_code (4 : Nat) (Option.some Jvm.ClassFile.FieldType.int)) ∈ TB := tb6 179 rfl rfl
theorem k1447 : (Jvm.Cond.methodLink "BelievedWordsLaw" (151 : Nat) ({ cls := "BelievedWordsModel", name := "status", desc := "()I" } : Jvm.MethodName)) ∈ TB := tb6 180 rfl rfl
theorem k1448 : (Jvm.Cond.instanceMethod ({ cls := "BelievedWordsModel", name := "status", desc := "()I" } : Jvm.MethodName)) ∈ TB := tb6 181 rfl rfl
theorem k1449 : (Jvm.Cond.selects "BelievedWordsModel" ({ cls := "BelievedWordsModel", name := "status", desc := "()I" } : Jvm.MethodName) ({ cls := "BelievedWordsModel", name := "status", desc := "()I" } : Jvm.MethodName)) ∈ TB := tb6 182 rfl rfl
theorem k1450 : (Jvm.Cond.code ({ cls := "BelievedWordsModel", name := "status", desc := "()I" } : Jvm.MethodName) prog_13_method_78_code (1 : Nat) (Option.some Jvm.ClassFile.FieldType.int)) ∈ TB := tb6 183 rfl rfl
