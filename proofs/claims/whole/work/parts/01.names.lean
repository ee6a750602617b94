-- ===== PART A: goes FIRST, ahead of the names: the tables' words, and 'selects' of the private methods out of them =====
/-- a private method of a class that the tables say can be made, by its rows of tables_1 -/
def lw_okq (q : MethodName × Nat) : Prop := (q.1.cls ≠ "java/lang/invoke/MethodHandle" ∧ q.1.cls ≠ "java/lang/invoke/VarHandle") ∧ Cond.instantiable q.1.cls q.2 ∈ tables_1 ∧ Cond.privateMethod q.1 ∈ tables_1 ∧ Cond.instanceMethod q.1 ∈ tables_1
theorem lw_p0 : lw_okq (⟨"MiddleOfCourt$Tape", "next", "()V"⟩, 8) := ⟨⟨by decide +kernel, by decide +kernel⟩, List.mem_of_getElem? (i := 32) (by decide +kernel), List.mem_of_getElem? (i := 162) (by decide +kernel), List.mem_of_getElem? (i := 163) (by decide +kernel)⟩
theorem lw_p1 : lw_okq (⟨"MiddleOfCourt$Tape", "letterAt", "(I)I"⟩, 8) := ⟨⟨by decide +kernel, by decide +kernel⟩, List.mem_of_getElem? (i := 32) (by decide +kernel), List.mem_of_getElem? (i := 166) (by decide +kernel), List.mem_of_getElem? (i := 167) (by decide +kernel)⟩
theorem lw_p2 : lw_okq (⟨"MiddleOfCourt$Tape", "nextWord", "()V"⟩, 8) := ⟨⟨by decide +kernel, by decide +kernel⟩, List.mem_of_getElem? (i := 32) (by decide +kernel), List.mem_of_getElem? (i := 173) (by decide +kernel), List.mem_of_getElem? (i := 174) (by decide +kernel)⟩
theorem lw_p3 : lw_okq (⟨"MiddleOfCourt$Tape", "nameOfWord", "()I"⟩, 8) := ⟨⟨by decide +kernel, by decide +kernel⟩, List.mem_of_getElem? (i := 32) (by decide +kernel), List.mem_of_getElem? (i := 177) (by decide +kernel), List.mem_of_getElem? (i := 178) (by decide +kernel)⟩
theorem lw_p4 : lw_okq (⟨"MiddleOfCourt$Tape", "isWord", "(Ljava/lang/String;)Z"⟩, 8) := ⟨⟨by decide +kernel, by decide +kernel⟩, List.mem_of_getElem? (i := 32) (by decide +kernel), List.mem_of_getElem? (i := 182) (by decide +kernel), List.mem_of_getElem? (i := 183) (by decide +kernel)⟩
theorem lw_p5 : lw_okq (⟨"MiddleOfCourt$Tape", "keyOfWord", "()I"⟩, 8) := ⟨⟨by decide +kernel, by decide +kernel⟩, List.mem_of_getElem? (i := 32) (by decide +kernel), List.mem_of_getElem? (i := 191) (by decide +kernel), List.mem_of_getElem? (i := 192) (by decide +kernel)⟩
theorem lw_p6 : lw_okq (⟨"MiddleOfCourt$Tape", "nextNumber", "()V"⟩, 8) := ⟨⟨by decide +kernel, by decide +kernel⟩, List.mem_of_getElem? (i := 32) (by decide +kernel), List.mem_of_getElem? (i := 204) (by decide +kernel), List.mem_of_getElem? (i := 205) (by decide +kernel)⟩
theorem lw_p7 : lw_okq (⟨"MiddleOfCourt$Tape", "expect", "(I)V"⟩, 8) := ⟨⟨by decide +kernel, by decide +kernel⟩, List.mem_of_getElem? (i := 32) (by decide +kernel), List.mem_of_getElem? (i := 211) (by decide +kernel), List.mem_of_getElem? (i := 212) (by decide +kernel)⟩
theorem lw_p8 : lw_okq (⟨"MiddleOfCourt$Tape", "fail", "()V"⟩, 8) := ⟨⟨by decide +kernel, by decide +kernel⟩, List.mem_of_getElem? (i := 32) (by decide +kernel), List.mem_of_getElem? (i := 215) (by decide +kernel), List.mem_of_getElem? (i := 216) (by decide +kernel)⟩
theorem lw_p9 : lw_okq (⟨"MiddleOfCourt$Tape", "readEither", "(I)V"⟩, 8) := ⟨⟨by decide +kernel, by decide +kernel⟩, List.mem_of_getElem? (i := 32) (by decide +kernel), List.mem_of_getElem? (i := 219) (by decide +kernel), List.mem_of_getElem? (i := 220) (by decide +kernel)⟩
theorem lw_p10 : lw_okq (⟨"MiddleOfCourt$Tape", "readBoth", "(I)V"⟩, 8) := ⟨⟨by decide +kernel, by decide +kernel⟩, List.mem_of_getElem? (i := 32) (by decide +kernel), List.mem_of_getElem? (i := 223) (by decide +kernel), List.mem_of_getElem? (i := 224) (by decide +kernel)⟩
theorem lw_p11 : lw_okq (⟨"MiddleOfCourt$Tape", "readNot", "(I)V"⟩, 8) := ⟨⟨by decide +kernel, by decide +kernel⟩, List.mem_of_getElem? (i := 32) (by decide +kernel), List.mem_of_getElem? (i := 227) (by decide +kernel), List.mem_of_getElem? (i := 228) (by decide +kernel)⟩
theorem lw_p12 : lw_okq (⟨"MiddleOfCourt$Tape", "opens", "(I)Z"⟩, 8) := ⟨⟨by decide +kernel, by decide +kernel⟩, List.mem_of_getElem? (i := 32) (by decide +kernel), List.mem_of_getElem? (i := 231) (by decide +kernel), List.mem_of_getElem? (i := 232) (by decide +kernel)⟩
theorem lw_p13 : lw_okq (⟨"MiddleOfCourt$Tape", "emit", "(I)V"⟩, 8) := ⟨⟨by decide +kernel, by decide +kernel⟩, List.mem_of_getElem? (i := 32) (by decide +kernel), List.mem_of_getElem? (i := 235) (by decide +kernel), List.mem_of_getElem? (i := 236) (by decide +kernel)⟩
theorem lw_p14 : lw_okq (⟨"MiddleOfCourt$Tape", "readSum", "(I)V"⟩, 8) := ⟨⟨by decide +kernel, by decide +kernel⟩, List.mem_of_getElem? (i := 32) (by decide +kernel), List.mem_of_getElem? (i := 243) (by decide +kernel), List.mem_of_getElem? (i := 244) (by decide +kernel)⟩
theorem lw_p15 : lw_okq (⟨"MiddleOfCourt$Tape", "readTerm", "(I)V"⟩, 8) := ⟨⟨by decide +kernel, by decide +kernel⟩, List.mem_of_getElem? (i := 32) (by decide +kernel), List.mem_of_getElem? (i := 247) (by decide +kernel), List.mem_of_getElem? (i := 248) (by decide +kernel)⟩
def lw_privs_1 : List (MethodName × Nat) := [(⟨"MiddleOfCourt$Tape", "next", "()V"⟩, 8), (⟨"MiddleOfCourt$Tape", "letterAt", "(I)I"⟩, 8), (⟨"MiddleOfCourt$Tape", "nextWord", "()V"⟩, 8), (⟨"MiddleOfCourt$Tape", "nameOfWord", "()I"⟩, 8), (⟨"MiddleOfCourt$Tape", "isWord", "(Ljava/lang/String;)Z"⟩, 8), (⟨"MiddleOfCourt$Tape", "keyOfWord", "()I"⟩, 8), (⟨"MiddleOfCourt$Tape", "nextNumber", "()V"⟩, 8), (⟨"MiddleOfCourt$Tape", "expect", "(I)V"⟩, 8), (⟨"MiddleOfCourt$Tape", "fail", "()V"⟩, 8), (⟨"MiddleOfCourt$Tape", "readEither", "(I)V"⟩, 8), (⟨"MiddleOfCourt$Tape", "readBoth", "(I)V"⟩, 8), (⟨"MiddleOfCourt$Tape", "readNot", "(I)V"⟩, 8), (⟨"MiddleOfCourt$Tape", "opens", "(I)Z"⟩, 8), (⟨"MiddleOfCourt$Tape", "emit", "(I)V"⟩, 8), (⟨"MiddleOfCourt$Tape", "readSum", "(I)V"⟩, 8), (⟨"MiddleOfCourt$Tape", "readTerm", "(I)V"⟩, 8)]
theorem lw_r1 : ∀ q ∈ lw_privs_1, lw_okq q := List.forall_mem_cons.mpr ⟨lw_p0, List.forall_mem_cons.mpr ⟨lw_p1, List.forall_mem_cons.mpr ⟨lw_p2, List.forall_mem_cons.mpr ⟨lw_p3, List.forall_mem_cons.mpr ⟨lw_p4, List.forall_mem_cons.mpr ⟨lw_p5, List.forall_mem_cons.mpr ⟨lw_p6, List.forall_mem_cons.mpr ⟨lw_p7, List.forall_mem_cons.mpr ⟨lw_p8, List.forall_mem_cons.mpr ⟨lw_p9, List.forall_mem_cons.mpr ⟨lw_p10, List.forall_mem_cons.mpr ⟨lw_p11, List.forall_mem_cons.mpr ⟨lw_p12, List.forall_mem_cons.mpr ⟨lw_p13, List.forall_mem_cons.mpr ⟨lw_p14, List.forall_mem_cons.mpr ⟨lw_p15, fun _ h => absurd h List.not_mem_nil⟩⟩⟩⟩⟩⟩⟩⟩⟩⟩⟩⟩⟩⟩⟩⟩
theorem lw_p16 : lw_okq (⟨"MiddleOfCourt$Tape", "readOne", "(I)V"⟩, 8) := ⟨⟨by decide +kernel, by decide +kernel⟩, List.mem_of_getElem? (i := 32) (by decide +kernel), List.mem_of_getElem? (i := 251) (by decide +kernel), List.mem_of_getElem? (i := 252) (by decide +kernel)⟩
theorem lw_p17 : lw_okq (⟨"MiddleOfCourt", "strokeAt", "(I)LMiddleOfCourt$Stroke;"⟩, 19) := ⟨⟨by decide +kernel, by decide +kernel⟩, List.mem_of_getElem? (i := 22) (by decide +kernel), List.mem_of_getElem? (i := 409) (by decide +kernel), List.mem_of_getElem? (i := 410) (by decide +kernel)⟩
theorem lw_p18 : lw_okq (⟨"MiddleOfCourt$Text", "work", "(II)I"⟩, 6) := ⟨⟨by decide +kernel, by decide +kernel⟩, List.mem_of_getElem? (i := 71) (by decide +kernel), List.mem_of_getElem? (i := 579) (by decide +kernel), List.mem_of_getElem? (i := 580) (by decide +kernel)⟩
theorem lw_p19 : lw_okq (⟨"MiddleOfCourt", "refusalOfRally", "(I)I"⟩, 19) := ⟨⟨by decide +kernel, by decide +kernel⟩, List.mem_of_getElem? (i := 22) (by decide +kernel), List.mem_of_getElem? (i := 667) (by decide +kernel), List.mem_of_getElem? (i := 668) (by decide +kernel)⟩
theorem lw_p20 : lw_okq (⟨"MiddleOfCourt", "sheetAt", "(I)LMiddleOfCourt$Sheet;"⟩, 19) := ⟨⟨by decide +kernel, by decide +kernel⟩, List.mem_of_getElem? (i := 22) (by decide +kernel), List.mem_of_getElem? (i := 671) (by decide +kernel), List.mem_of_getElem? (i := 672) (by decide +kernel)⟩
theorem lw_p21 : lw_okq (⟨"MiddleOfCourt", "playInThought", "(I)I"⟩, 19) := ⟨⟨by decide +kernel, by decide +kernel⟩, List.mem_of_getElem? (i := 22) (by decide +kernel), List.mem_of_getElem? (i := 683) (by decide +kernel), List.mem_of_getElem? (i := 684) (by decide +kernel)⟩
theorem lw_p22 : lw_okq (⟨"MiddleOfCourt", "playOut", "(LMiddleOfCourt$Court;LMiddleOfCourt$Sheet;)I"⟩, 19) := ⟨⟨by decide +kernel, by decide +kernel⟩, List.mem_of_getElem? (i := 22) (by decide +kernel), List.mem_of_getElem? (i := 695) (by decide +kernel), List.mem_of_getElem? (i := 696) (by decide +kernel)⟩
theorem lw_p23 : lw_okq (⟨"MiddleOfCourt", "valueFor", "(LMiddleOfCourt$Court;III)I"⟩, 19) := ⟨⟨by decide +kernel, by decide +kernel⟩, List.mem_of_getElem? (i := 22) (by decide +kernel), List.mem_of_getElem? (i := 740) (by decide +kernel), List.mem_of_getElem? (i := 741) (by decide +kernel)⟩
theorem lw_p24 : lw_okq (⟨"MiddleOfCourt", "valueBy", "(LMiddleOfCourt$Court;ILMiddleOfCourt$Stroke;II)I"⟩, 19) := ⟨⟨by decide +kernel, by decide +kernel⟩, List.mem_of_getElem? (i := 22) (by decide +kernel), List.mem_of_getElem? (i := 744) (by decide +kernel), List.mem_of_getElem? (i := 745) (by decide +kernel)⟩
theorem lw_p25 : lw_okq (⟨"MiddleOfCourt", "badness", "(II)I"⟩, 19) := ⟨⟨by decide +kernel, by decide +kernel⟩, List.mem_of_getElem? (i := 22) (by decide +kernel), List.mem_of_getElem? (i := 761) (by decide +kernel), List.mem_of_getElem? (i := 762) (by decide +kernel)⟩
theorem lw_p26 : lw_okq (⟨"MiddleOfCourt", "rowsBy", "(LMiddleOfCourt$Court;LMiddleOfCourt$Sheet;II)I"⟩, 19) := ⟨⟨by decide +kernel, by decide +kernel⟩, List.mem_of_getElem? (i := 22) (by decide +kernel), List.mem_of_getElem? (i := 777) (by decide +kernel), List.mem_of_getElem? (i := 778) (by decide +kernel)⟩
theorem lw_p27 : lw_okq (⟨"MiddleOfCourt", "rulesBy", "(LMiddleOfCourt$Sheet;I)I"⟩, 19) := ⟨⟨by decide +kernel, by decide +kernel⟩, List.mem_of_getElem? (i := 22) (by decide +kernel), List.mem_of_getElem? (i := 785) (by decide +kernel), List.mem_of_getElem? (i := 786) (by decide +kernel)⟩
theorem lw_p28 : lw_okq (⟨"MiddleOfCourt", "quicksBy", "(LMiddleOfCourt$Sheet;II)I"⟩, 19) := ⟨⟨by decide +kernel, by decide +kernel⟩, List.mem_of_getElem? (i := 22) (by decide +kernel), List.mem_of_getElem? (i := 789) (by decide +kernel), List.mem_of_getElem? (i := 790) (by decide +kernel)⟩
theorem lw_p29 : lw_okq (⟨"MiddleOfCourtModel", "spell", "(IIIIIIIII)V"⟩, 51) := ⟨⟨by decide +kernel, by decide +kernel⟩, List.mem_of_getElem? (i := 859) (by decide +kernel), List.mem_of_getElem? (i := 865) (by decide +kernel), List.mem_of_getElem? (i := 866) (by decide +kernel)⟩
theorem lw_p30 : lw_okq (⟨"MiddleOfCourtModel", "isStroke", "(I)Z"⟩, 51) := ⟨⟨by decide +kernel, by decide +kernel⟩, List.mem_of_getElem? (i := 859) (by decide +kernel), List.mem_of_getElem? (i := 1036) (by decide +kernel), List.mem_of_getElem? (i := 1037) (by decide +kernel)⟩
theorem lw_p31 : lw_okq (⟨"MiddleOfCourtModel", "read", "(II)I"⟩, 51) := ⟨⟨by decide +kernel, by decide +kernel⟩, List.mem_of_getElem? (i := 859) (by decide +kernel), List.mem_of_getElem? (i := 1066) (by decide +kernel), List.mem_of_getElem? (i := 1067) (by decide +kernel)⟩
def lw_privs_2 : List (MethodName × Nat) := [(⟨"MiddleOfCourt$Tape", "readOne", "(I)V"⟩, 8), (⟨"MiddleOfCourt", "strokeAt", "(I)LMiddleOfCourt$Stroke;"⟩, 19), (⟨"MiddleOfCourt$Text", "work", "(II)I"⟩, 6), (⟨"MiddleOfCourt", "refusalOfRally", "(I)I"⟩, 19), (⟨"MiddleOfCourt", "sheetAt", "(I)LMiddleOfCourt$Sheet;"⟩, 19), (⟨"MiddleOfCourt", "playInThought", "(I)I"⟩, 19), (⟨"MiddleOfCourt", "playOut", "(LMiddleOfCourt$Court;LMiddleOfCourt$Sheet;)I"⟩, 19), (⟨"MiddleOfCourt", "valueFor", "(LMiddleOfCourt$Court;III)I"⟩, 19), (⟨"MiddleOfCourt", "valueBy", "(LMiddleOfCourt$Court;ILMiddleOfCourt$Stroke;II)I"⟩, 19), (⟨"MiddleOfCourt", "badness", "(II)I"⟩, 19), (⟨"MiddleOfCourt", "rowsBy", "(LMiddleOfCourt$Court;LMiddleOfCourt$Sheet;II)I"⟩, 19), (⟨"MiddleOfCourt", "rulesBy", "(LMiddleOfCourt$Sheet;I)I"⟩, 19), (⟨"MiddleOfCourt", "quicksBy", "(LMiddleOfCourt$Sheet;II)I"⟩, 19), (⟨"MiddleOfCourtModel", "spell", "(IIIIIIIII)V"⟩, 51), (⟨"MiddleOfCourtModel", "isStroke", "(I)Z"⟩, 51), (⟨"MiddleOfCourtModel", "read", "(II)I"⟩, 51)]
theorem lw_r2 : ∀ q ∈ lw_privs_2, lw_okq q := List.forall_mem_cons.mpr ⟨lw_p16, List.forall_mem_cons.mpr ⟨lw_p17, List.forall_mem_cons.mpr ⟨lw_p18, List.forall_mem_cons.mpr ⟨lw_p19, List.forall_mem_cons.mpr ⟨lw_p20, List.forall_mem_cons.mpr ⟨lw_p21, List.forall_mem_cons.mpr ⟨lw_p22, List.forall_mem_cons.mpr ⟨lw_p23, List.forall_mem_cons.mpr ⟨lw_p24, List.forall_mem_cons.mpr ⟨lw_p25, List.forall_mem_cons.mpr ⟨lw_p26, List.forall_mem_cons.mpr ⟨lw_p27, List.forall_mem_cons.mpr ⟨lw_p28, List.forall_mem_cons.mpr ⟨lw_p29, List.forall_mem_cons.mpr ⟨lw_p30, List.forall_mem_cons.mpr ⟨lw_p31, fun _ h => absurd h List.not_mem_nil⟩⟩⟩⟩⟩⟩⟩⟩⟩⟩⟩⟩⟩⟩⟩⟩
theorem lw_p32 : lw_okq (⟨"MiddleOfCourtModel", "next", "()V"⟩, 51) := ⟨⟨by decide +kernel, by decide +kernel⟩, List.mem_of_getElem? (i := 859) (by decide +kernel), List.mem_of_getElem? (i := 1070) (by decide +kernel), List.mem_of_getElem? (i := 1071) (by decide +kernel)⟩
theorem lw_p33 : lw_okq (⟨"MiddleOfCourtModel", "byteAt", "(I)I"⟩, 51) := ⟨⟨by decide +kernel, by decide +kernel⟩, List.mem_of_getElem? (i := 859) (by decide +kernel), List.mem_of_getElem? (i := 1074) (by decide +kernel), List.mem_of_getElem? (i := 1075) (by decide +kernel)⟩
theorem lw_p34 : lw_okq (⟨"MiddleOfCourtModel", "isWord", "(IIIIIIII)Z"⟩, 51) := ⟨⟨by decide +kernel, by decide +kernel⟩, List.mem_of_getElem? (i := 859) (by decide +kernel), List.mem_of_getElem? (i := 1083) (by decide +kernel), List.mem_of_getElem? (i := 1084) (by decide +kernel)⟩
theorem lw_p35 : lw_okq (⟨"MiddleOfCourtModel", "isLetter", "(II)Z"⟩, 51) := ⟨⟨by decide +kernel, by decide +kernel⟩, List.mem_of_getElem? (i := 859) (by decide +kernel), List.mem_of_getElem? (i := 1087) (by decide +kernel), List.mem_of_getElem? (i := 1088) (by decide +kernel)⟩
theorem lw_p36 : lw_okq (⟨"MiddleOfCourtModel", "part", "(Z)I"⟩, 51) := ⟨⟨by decide +kernel, by decide +kernel⟩, List.mem_of_getElem? (i := 859) (by decide +kernel), List.mem_of_getElem? (i := 1091) (by decide +kernel), List.mem_of_getElem? (i := 1092) (by decide +kernel)⟩
theorem lw_p37 : lw_okq (⟨"MiddleOfCourtModel", "fail", "()V"⟩, 51) := ⟨⟨by decide +kernel, by decide +kernel⟩, List.mem_of_getElem? (i := 859) (by decide +kernel), List.mem_of_getElem? (i := 1095) (by decide +kernel), List.mem_of_getElem? (i := 1096) (by decide +kernel)⟩
theorem lw_p38 : lw_okq (⟨"MiddleOfCourtModel", "either", "()I"⟩, 51) := ⟨⟨by decide +kernel, by decide +kernel⟩, List.mem_of_getElem? (i := 859) (by decide +kernel), List.mem_of_getElem? (i := 1099) (by decide +kernel), List.mem_of_getElem? (i := 1100) (by decide +kernel)⟩
theorem lw_p39 : lw_okq (⟨"MiddleOfCourtModel", "both", "()I"⟩, 51) := ⟨⟨by decide +kernel, by decide +kernel⟩, List.mem_of_getElem? (i := 859) (by decide +kernel), List.mem_of_getElem? (i := 1103) (by decide +kernel), List.mem_of_getElem? (i := 1104) (by decide +kernel)⟩
theorem lw_p40 : lw_okq (⟨"MiddleOfCourtModel", "not", "()I"⟩, 51) := ⟨⟨by decide +kernel, by decide +kernel⟩, List.mem_of_getElem? (i := 859) (by decide +kernel), List.mem_of_getElem? (i := 1107) (by decide +kernel), List.mem_of_getElem? (i := 1108) (by decide +kernel)⟩
theorem lw_p41 : lw_okq (⟨"MiddleOfCourtModel", "opens", "()Z"⟩, 51) := ⟨⟨by decide +kernel, by decide +kernel⟩, List.mem_of_getElem? (i := 859) (by decide +kernel), List.mem_of_getElem? (i := 1111) (by decide +kernel), List.mem_of_getElem? (i := 1112) (by decide +kernel)⟩
theorem lw_p42 : lw_okq (⟨"MiddleOfCourtModel", "added", "()I"⟩, 51) := ⟨⟨by decide +kernel, by decide +kernel⟩, List.mem_of_getElem? (i := 859) (by decide +kernel), List.mem_of_getElem? (i := 1115) (by decide +kernel), List.mem_of_getElem? (i := 1116) (by decide +kernel)⟩
theorem lw_p43 : lw_okq (⟨"MiddleOfCourtModel", "term", "()I"⟩, 51) := ⟨⟨by decide +kernel, by decide +kernel⟩, List.mem_of_getElem? (i := 859) (by decide +kernel), List.mem_of_getElem? (i := 1119) (by decide +kernel), List.mem_of_getElem? (i := 1120) (by decide +kernel)⟩
theorem lw_p44 : lw_okq (⟨"MiddleOfCourtModel", "atom", "()I"⟩, 51) := ⟨⟨by decide +kernel, by decide +kernel⟩, List.mem_of_getElem? (i := 859) (by decide +kernel), List.mem_of_getElem? (i := 1123) (by decide +kernel), List.mem_of_getElem? (i := 1124) (by decide +kernel)⟩
theorem lw_p45 : lw_okq (⟨"MiddleOfCourtModel", "isSign", "(I)Z"⟩, 51) := ⟨⟨by decide +kernel, by decide +kernel⟩, List.mem_of_getElem? (i := 859) (by decide +kernel), List.mem_of_getElem? (i := 1127) (by decide +kernel), List.mem_of_getElem? (i := 1128) (by decide +kernel)⟩
theorem lw_p46 : lw_okq (⟨"MiddleOfCourtModel", "name", "()I"⟩, 51) := ⟨⟨by decide +kernel, by decide +kernel⟩, List.mem_of_getElem? (i := 859) (by decide +kernel), List.mem_of_getElem? (i := 1131) (by decide +kernel), List.mem_of_getElem? (i := 1132) (by decide +kernel)⟩
theorem lw_p47 : lw_okq (⟨"MiddleOfCourtModel", "needsOf", "(III)I"⟩, 51) := ⟨⟨by decide +kernel, by decide +kernel⟩, List.mem_of_getElem? (i := 859) (by decide +kernel), List.mem_of_getElem? (i := 1146) (by decide +kernel), List.mem_of_getElem? (i := 1147) (by decide +kernel)⟩
def lw_privs_3 : List (MethodName × Nat) := [(⟨"MiddleOfCourtModel", "next", "()V"⟩, 51), (⟨"MiddleOfCourtModel", "byteAt", "(I)I"⟩, 51), (⟨"MiddleOfCourtModel", "isWord", "(IIIIIIII)Z"⟩, 51), (⟨"MiddleOfCourtModel", "isLetter", "(II)Z"⟩, 51), (⟨"MiddleOfCourtModel", "part", "(Z)I"⟩, 51), (⟨"MiddleOfCourtModel", "fail", "()V"⟩, 51), (⟨"MiddleOfCourtModel", "either", "()I"⟩, 51), (⟨"MiddleOfCourtModel", "both", "()I"⟩, 51), (⟨"MiddleOfCourtModel", "not", "()I"⟩, 51), (⟨"MiddleOfCourtModel", "opens", "()Z"⟩, 51), (⟨"MiddleOfCourtModel", "added", "()I"⟩, 51), (⟨"MiddleOfCourtModel", "term", "()I"⟩, 51), (⟨"MiddleOfCourtModel", "atom", "()I"⟩, 51), (⟨"MiddleOfCourtModel", "isSign", "(I)Z"⟩, 51), (⟨"MiddleOfCourtModel", "name", "()I"⟩, 51), (⟨"MiddleOfCourtModel", "needsOf", "(III)I"⟩, 51)]
theorem lw_r3 : ∀ q ∈ lw_privs_3, lw_okq q := List.forall_mem_cons.mpr ⟨lw_p32, List.forall_mem_cons.mpr ⟨lw_p33, List.forall_mem_cons.mpr ⟨lw_p34, List.forall_mem_cons.mpr ⟨lw_p35, List.forall_mem_cons.mpr ⟨lw_p36, List.forall_mem_cons.mpr ⟨lw_p37, List.forall_mem_cons.mpr ⟨lw_p38, List.forall_mem_cons.mpr ⟨lw_p39, List.forall_mem_cons.mpr ⟨lw_p40, List.forall_mem_cons.mpr ⟨lw_p41, List.forall_mem_cons.mpr ⟨lw_p42, List.forall_mem_cons.mpr ⟨lw_p43, List.forall_mem_cons.mpr ⟨lw_p44, List.forall_mem_cons.mpr ⟨lw_p45, List.forall_mem_cons.mpr ⟨lw_p46, List.forall_mem_cons.mpr ⟨lw_p47, fun _ h => absurd h List.not_mem_nil⟩⟩⟩⟩⟩⟩⟩⟩⟩⟩⟩⟩⟩⟩⟩⟩
theorem lw_p48 : lw_okq (⟨"MiddleOfCourtModel", "says", "(IIIII)I"⟩, 51) := ⟨⟨by decide +kernel, by decide +kernel⟩, List.mem_of_getElem? (i := 859) (by decide +kernel), List.mem_of_getElem? (i := 1156) (by decide +kernel), List.mem_of_getElem? (i := 1157) (by decide +kernel)⟩
theorem lw_p49 : lw_okq (⟨"MiddleOfCourtModel", "comesTo", "(II)I"⟩, 51) := ⟨⟨by decide +kernel, by decide +kernel⟩, List.mem_of_getElem? (i := 859) (by decide +kernel), List.mem_of_getElem? (i := 1167) (by decide +kernel), List.mem_of_getElem? (i := 1168) (by decide +kernel)⟩
theorem lw_p50 : lw_okq (⟨"MiddleOfCourtModel", "tenthsOf", "(II)I"⟩, 51) := ⟨⟨by decide +kernel, by decide +kernel⟩, List.mem_of_getElem? (i := 859) (by decide +kernel), List.mem_of_getElem? (i := 1174) (by decide +kernel), List.mem_of_getElem? (i := 1175) (by decide +kernel)⟩
theorem lw_p51 : lw_okq (⟨"MiddleOfCourtModel", "slipsOf", "(II)I"⟩, 51) := ⟨⟨by decide +kernel, by decide +kernel⟩, List.mem_of_getElem? (i := 859) (by decide +kernel), List.mem_of_getElem? (i := 1178) (by decide +kernel), List.mem_of_getElem? (i := 1179) (by decide +kernel)⟩
theorem lw_p52 : lw_okq (⟨"MiddleOfCourtModel", "spendsOf", "(I)I"⟩, 51) := ⟨⟨by decide +kernel, by decide +kernel⟩, List.mem_of_getElem? (i := 859) (by decide +kernel), List.mem_of_getElem? (i := 1182) (by decide +kernel), List.mem_of_getElem? (i := 1183) (by decide +kernel)⟩
theorem lw_p53 : lw_okq (⟨"MiddleOfCourtModel", "rallyBad", "(I)I"⟩, 51) := ⟨⟨by decide +kernel, by decide +kernel⟩, List.mem_of_getElem? (i := 859) (by decide +kernel), List.mem_of_getElem? (i := 1194) (by decide +kernel), List.mem_of_getElem? (i := 1195) (by decide +kernel)⟩
theorem lw_p54 : lw_okq (⟨"MiddleOfCourtModel", "layAside", "()V"⟩, 51) := ⟨⟨by decide +kernel, by decide +kernel⟩, List.mem_of_getElem? (i := 859) (by decide +kernel), List.mem_of_getElem? (i := 1198) (by decide +kernel), List.mem_of_getElem? (i := 1199) (by decide +kernel)⟩
theorem lw_p55 : lw_okq (⟨"MiddleOfCourtModel", "rallies", "(I)V"⟩, 51) := ⟨⟨by decide +kernel, by decide +kernel⟩, List.mem_of_getElem? (i := 859) (by decide +kernel), List.mem_of_getElem? (i := 1202) (by decide +kernel), List.mem_of_getElem? (i := 1203) (by decide +kernel)⟩
theorem lw_p56 : lw_okq (⟨"MiddleOfCourtModel", "strikes", "(II)Z"⟩, 51) := ⟨⟨by decide +kernel, by decide +kernel⟩, List.mem_of_getElem? (i := 859) (by decide +kernel), List.mem_of_getElem? (i := 1208) (by decide +kernel), List.mem_of_getElem? (i := 1209) (by decide +kernel)⟩
theorem lw_p57 : lw_okq (⟨"MiddleOfCourtModel", "tire", "(II)V"⟩, 51) := ⟨⟨by decide +kernel, by decide +kernel⟩, List.mem_of_getElem? (i := 859) (by decide +kernel), List.mem_of_getElem? (i := 1212) (by decide +kernel), List.mem_of_getElem? (i := 1213) (by decide +kernel)⟩
theorem lw_p58 : lw_okq (⟨"MiddleOfCourtModel", "takeBack", "()V"⟩, 51) := ⟨⟨by decide +kernel, by decide +kernel⟩, List.mem_of_getElem? (i := 859) (by decide +kernel), List.mem_of_getElem? (i := 1219) (by decide +kernel), List.mem_of_getElem? (i := 1220) (by decide +kernel)⟩
theorem lw_p59 : lw_okq (⟨"MiddleOfCourtModel", "valueOf", "(II)I"⟩, 51) := ⟨⟨by decide +kernel, by decide +kernel⟩, List.mem_of_getElem? (i := 859) (by decide +kernel), List.mem_of_getElem? (i := 1236) (by decide +kernel), List.mem_of_getElem? (i := 1237) (by decide +kernel)⟩
theorem lw_p60 : lw_okq (⟨"MiddleOfCourtModel", "badness", "(II)I"⟩, 51) := ⟨⟨by decide +kernel, by decide +kernel⟩, List.mem_of_getElem? (i := 859) (by decide +kernel), List.mem_of_getElem? (i := 1249) (by decide +kernel), List.mem_of_getElem? (i := 1250) (by decide +kernel)⟩
theorem lw_p61 : lw_okq (⟨"MiddleOfCourtModel", "goesOn", "(III)V"⟩, 51) := ⟨⟨by decide +kernel, by decide +kernel⟩, List.mem_of_getElem? (i := 859) (by decide +kernel), List.mem_of_getElem? (i := 1265) (by decide +kernel), List.mem_of_getElem? (i := 1266) (by decide +kernel)⟩
theorem lw_p62 : lw_okq (⟨"MiddleOfCourtModel", "tries", "(II)V"⟩, 51) := ⟨⟨by decide +kernel, by decide +kernel⟩, List.mem_of_getElem? (i := 859) (by decide +kernel), List.mem_of_getElem? (i := 1274) (by decide +kernel), List.mem_of_getElem? (i := 1275) (by decide +kernel)⟩
theorem lw_p63 : lw_okq (⟨"MiddleOfCourtModel", "winsSo", "(II)Z"⟩, 51) := ⟨⟨by decide +kernel, by decide +kernel⟩, List.mem_of_getElem? (i := 859) (by decide +kernel), List.mem_of_getElem? (i := 1278) (by decide +kernel), List.mem_of_getElem? (i := 1279) (by decide +kernel)⟩
def lw_privs_4 : List (MethodName × Nat) := [(⟨"MiddleOfCourtModel", "says", "(IIIII)I"⟩, 51), (⟨"MiddleOfCourtModel", "comesTo", "(II)I"⟩, 51), (⟨"MiddleOfCourtModel", "tenthsOf", "(II)I"⟩, 51), (⟨"MiddleOfCourtModel", "slipsOf", "(II)I"⟩, 51), (⟨"MiddleOfCourtModel", "spendsOf", "(I)I"⟩, 51), (⟨"MiddleOfCourtModel", "rallyBad", "(I)I"⟩, 51), (⟨"MiddleOfCourtModel", "layAside", "()V"⟩, 51), (⟨"MiddleOfCourtModel", "rallies", "(I)V"⟩, 51), (⟨"MiddleOfCourtModel", "strikes", "(II)Z"⟩, 51), (⟨"MiddleOfCourtModel", "tire", "(II)V"⟩, 51), (⟨"MiddleOfCourtModel", "takeBack", "()V"⟩, 51), (⟨"MiddleOfCourtModel", "valueOf", "(II)I"⟩, 51), (⟨"MiddleOfCourtModel", "badness", "(II)I"⟩, 51), (⟨"MiddleOfCourtModel", "goesOn", "(III)V"⟩, 51), (⟨"MiddleOfCourtModel", "tries", "(II)V"⟩, 51), (⟨"MiddleOfCourtModel", "winsSo", "(II)Z"⟩, 51)]
theorem lw_r4 : ∀ q ∈ lw_privs_4, lw_okq q := List.forall_mem_cons.mpr ⟨lw_p48, List.forall_mem_cons.mpr ⟨lw_p49, List.forall_mem_cons.mpr ⟨lw_p50, List.forall_mem_cons.mpr ⟨lw_p51, List.forall_mem_cons.mpr ⟨lw_p52, List.forall_mem_cons.mpr ⟨lw_p53, List.forall_mem_cons.mpr ⟨lw_p54, List.forall_mem_cons.mpr ⟨lw_p55, List.forall_mem_cons.mpr ⟨lw_p56, List.forall_mem_cons.mpr ⟨lw_p57, List.forall_mem_cons.mpr ⟨lw_p58, List.forall_mem_cons.mpr ⟨lw_p59, List.forall_mem_cons.mpr ⟨lw_p60, List.forall_mem_cons.mpr ⟨lw_p61, List.forall_mem_cons.mpr ⟨lw_p62, List.forall_mem_cons.mpr ⟨lw_p63, fun _ h => absurd h List.not_mem_nil⟩⟩⟩⟩⟩⟩⟩⟩⟩⟩⟩⟩⟩⟩⟩⟩
theorem lw_p64 : lw_okq (⟨"MiddleOfCourtModel", "draws", "(I)I"⟩, 51) := ⟨⟨by decide +kernel, by decide +kernel⟩, List.mem_of_getElem? (i := 859) (by decide +kernel), List.mem_of_getElem? (i := 1294) (by decide +kernel), List.mem_of_getElem? (i := 1295) (by decide +kernel)⟩
def lw_privs_5 : List (MethodName × Nat) := [(⟨"MiddleOfCourtModel", "draws", "(I)I"⟩, 51)]
theorem lw_r5 : ∀ q ∈ lw_privs_5, lw_okq q := List.forall_mem_cons.mpr ⟨lw_p64, fun _ h => absurd h List.not_mem_nil⟩
def lw_privs : List (MethodName × Nat) := lw_privs_1 ++ (lw_privs_2 ++ (lw_privs_3 ++ (lw_privs_4 ++ (lw_privs_5))))
def lw_tbl : List Cond := k2_sels lw_privs ++ tables_1
theorem lw_privs_ok : ∀ q ∈ lw_privs, lw_okq q := by
  show ∀ q ∈ lw_privs_1 ++ (lw_privs_2 ++ (lw_privs_3 ++ (lw_privs_4 ++ (lw_privs_5)))), lw_okq q
  exact List.forall_mem_append.mpr ⟨lw_r1, List.forall_mem_append.mpr ⟨lw_r2, List.forall_mem_append.mpr ⟨lw_r3, List.forall_mem_append.mpr ⟨lw_r4, lw_r5⟩⟩⟩⟩
-- ===== end of PART A; then your names; then what follows =====
def RX0 : String := "MiddleOfCourt$Boast"
def TX0 : u_T := fun k => match k with
  | 0 => ("MiddleOfCourt$Stroke", "number", "I", false)
  | _ => ("MiddleOfCourt$Stroke", "aim", "I", false)
def tyX0 : Nat → FieldType := fun k => match k with
  | 0 => .int
  | _ => .int
theorem nmX0 : ∀ a, a < 2 → ∀ b, b < 2 → a ≠ b → (TX0 a).2.1 ≠ (TX0 b).2.1 := by decide +kernel
theorem tyX0_ok : ∀ k, k < 2 → parseFieldDescriptor (TX0 k).2.2.1 = some (tyX0 k) := by decide +kernel
abbrev cX0_init : ByteArray := prog_2_method_1_code
def yX0_init : MethodName := ⟨RX0, "<init>", "(II)V"⟩
abbrev cX0_kind : ByteArray := prog_2_method_2_code
def yX0_kind : MethodName := ⟨RX0, "kind", "()I"⟩
abbrev cX0_comes : ByteArray := prog_2_method_3_code
def yX0_comes : MethodName := ⟨RX0, "comes", "(I)I"⟩
abbrev cX0_flight : ByteArray := prog_2_method_4_code
def yX0_flight : MethodName := ⟨RX0, "flight", "(II)I"⟩
def RX1 : String := "MiddleOfCourt$Court"
def TX1 : u_T := fun k => match k with
  | 0 => ("MiddleOfCourt$Court", "first", "LMiddleOfCourt$Player;", true)
  | 1 => ("MiddleOfCourt$Court", "second", "LMiddleOfCourt$Player;", true)
  | 2 => ("MiddleOfCourt$Court", "warm", "I", false)
  | _ => ("MiddleOfCourt$Court", "rule", "LMiddleOfCourt$Text;", false)
def tyX1 : Nat → FieldType := fun k => match k with
  | 0 => .object "MiddleOfCourt$Player"
  | 1 => .object "MiddleOfCourt$Player"
  | 2 => .int
  | _ => .object "MiddleOfCourt$Text"
theorem nmX1 : ∀ a, a < 4 → ∀ b, b < 4 → a ≠ b → (TX1 a).2.1 ≠ (TX1 b).2.1 := by decide +kernel
theorem tyX1_ok : ∀ k, k < 4 → parseFieldDescriptor (TX1 k).2.2.1 = some (tyX1 k) := by decide +kernel
abbrev cX1_init : ByteArray := prog_3_method_1_code
def yX1_init : MethodName := ⟨RX1, "<init>", "(LMiddleOfCourt$Text;)V"⟩
abbrev cX1_take : ByteArray := prog_3_method_2_code
def yX1_take : MethodName := ⟨RX1, "take", "(LMiddleOfCourt$Court;)V"⟩
abbrev cX1_one : ByteArray := prog_3_method_3_code
def yX1_one : MethodName := ⟨RX1, "one", "(I)LMiddleOfCourt$Player;"⟩
abbrev cX1_needsOf : ByteArray := prog_3_method_4_code
def yX1_needsOf : MethodName := ⟨RX1, "needsOf", "(LMiddleOfCourt$Player;II)I"⟩
abbrev cX1_tenthsOf : ByteArray := prog_3_method_5_code
def yX1_tenthsOf : MethodName := ⟨RX1, "tenthsOf", "(LMiddleOfCourt$Player;LMiddleOfCourt$Stroke;)I"⟩
abbrev cX1_slipsOf : ByteArray := prog_3_method_6_code
def yX1_slipsOf : MethodName := ⟨RX1, "slipsOf", "(LMiddleOfCourt$Player;LMiddleOfCourt$Stroke;)I"⟩
abbrev cX1_wouldWin : ByteArray := prog_3_method_7_code
def yX1_wouldWin : MethodName := ⟨RX1, "wouldWin", "(ILMiddleOfCourt$Stroke;)Z"⟩
abbrev cX1_strike : ByteArray := prog_3_method_8_code
def yX1_strike : MethodName := ⟨RX1, "strike", "(ILMiddleOfCourt$Stroke;)Z"⟩
def RX2 : String := "MiddleOfCourt$Cross"
def TX2 : u_T := fun k => match k with
  | 0 => ("MiddleOfCourt$Stroke", "number", "I", false)
  | _ => ("MiddleOfCourt$Stroke", "aim", "I", false)
def tyX2 : Nat → FieldType := fun k => match k with
  | 0 => .int
  | _ => .int
theorem nmX2 : ∀ a, a < 2 → ∀ b, b < 2 → a ≠ b → (TX2 a).2.1 ≠ (TX2 b).2.1 := by decide +kernel
theorem tyX2_ok : ∀ k, k < 2 → parseFieldDescriptor (TX2 k).2.2.1 = some (tyX2 k) := by decide +kernel
abbrev cX2_init : ByteArray := prog_4_method_1_code
def yX2_init : MethodName := ⟨RX2, "<init>", "(II)V"⟩
abbrev cX2_kind : ByteArray := prog_4_method_2_code
def yX2_kind : MethodName := ⟨RX2, "kind", "()I"⟩
abbrev cX2_comes : ByteArray := prog_4_method_3_code
def yX2_comes : MethodName := ⟨RX2, "comes", "(I)I"⟩
abbrev cX2_flight : ByteArray := prog_4_method_4_code
def yX2_flight : MethodName := ⟨RX2, "flight", "(II)I"⟩
abbrev cX2_spends : ByteArray := prog_4_method_5_code
def yX2_spends : MethodName := ⟨RX2, "spends", "()I"⟩
def RX3 : String := "MiddleOfCourt$Drop"
def TX3 : u_T := fun k => match k with
  | 0 => ("MiddleOfCourt$Stroke", "number", "I", false)
  | _ => ("MiddleOfCourt$Stroke", "aim", "I", false)
def tyX3 : Nat → FieldType := fun k => match k with
  | 0 => .int
  | _ => .int
theorem nmX3 : ∀ a, a < 2 → ∀ b, b < 2 → a ≠ b → (TX3 a).2.1 ≠ (TX3 b).2.1 := by decide +kernel
theorem tyX3_ok : ∀ k, k < 2 → parseFieldDescriptor (TX3 k).2.2.1 = some (tyX3 k) := by decide +kernel
abbrev cX3_init : ByteArray := prog_5_method_1_code
def yX3_init : MethodName := ⟨RX3, "<init>", "(II)V"⟩
abbrev cX3_kind : ByteArray := prog_5_method_2_code
def yX3_kind : MethodName := ⟨RX3, "kind", "()I"⟩
abbrev cX3_flight : ByteArray := prog_5_method_3_code
def yX3_flight : MethodName := ⟨RX3, "flight", "(II)I"⟩
abbrev cX3_spends : ByteArray := prog_5_method_4_code
def yX3_spends : MethodName := ⟨RX3, "spends", "()I"⟩
def RX4 : String := "MiddleOfCourt$Length"
def TX4 : u_T := fun k => match k with
  | 0 => ("MiddleOfCourt$Stroke", "number", "I", false)
  | _ => ("MiddleOfCourt$Stroke", "aim", "I", false)
def tyX4 : Nat → FieldType := fun k => match k with
  | 0 => .int
  | _ => .int
theorem nmX4 : ∀ a, a < 2 → ∀ b, b < 2 → a ≠ b → (TX4 a).2.1 ≠ (TX4 b).2.1 := by decide +kernel
theorem tyX4_ok : ∀ k, k < 2 → parseFieldDescriptor (TX4 k).2.2.1 = some (tyX4 k) := by decide +kernel
abbrev cX4_init : ByteArray := prog_6_method_1_code
def yX4_init : MethodName := ⟨RX4, "<init>", "(II)V"⟩
abbrev cX4_kind : ByteArray := prog_6_method_2_code
def yX4_kind : MethodName := ⟨RX4, "kind", "()I"⟩
abbrev cX4_flight : ByteArray := prog_6_method_3_code
def yX4_flight : MethodName := ⟨RX4, "flight", "(II)I"⟩
def RX5 : String := "MiddleOfCourt$Lob"
def TX5 : u_T := fun k => match k with
  | 0 => ("MiddleOfCourt$Stroke", "number", "I", false)
  | _ => ("MiddleOfCourt$Stroke", "aim", "I", false)
def tyX5 : Nat → FieldType := fun k => match k with
  | 0 => .int
  | _ => .int
theorem nmX5 : ∀ a, a < 2 → ∀ b, b < 2 → a ≠ b → (TX5 a).2.1 ≠ (TX5 b).2.1 := by decide +kernel
theorem tyX5_ok : ∀ k, k < 2 → parseFieldDescriptor (TX5 k).2.2.1 = some (tyX5 k) := by decide +kernel
abbrev cX5_init : ByteArray := prog_7_method_1_code
def yX5_init : MethodName := ⟨RX5, "<init>", "(II)V"⟩
abbrev cX5_kind : ByteArray := prog_7_method_2_code
def yX5_kind : MethodName := ⟨RX5, "kind", "()I"⟩
abbrev cX5_comes : ByteArray := prog_7_method_3_code
def yX5_comes : MethodName := ⟨RX5, "comes", "(I)I"⟩
abbrev cX5_flight : ByteArray := prog_7_method_4_code
def yX5_flight : MethodName := ⟨RX5, "flight", "(II)I"⟩
abbrev cX5_spends : ByteArray := prog_7_method_5_code
def yX5_spends : MethodName := ⟨RX5, "spends", "()I"⟩
def RX6 : String := "MiddleOfCourt$Player"
def TX6 : u_T := fun k => match k with
  | 0 => ("MiddleOfCourt$Player", "cell", "I", false)
  | 1 => ("MiddleOfCourt$Player", "legs", "I", false)
  | 2 => ("MiddleOfCourt$Player", "quick", "I", false)
  | _ => ("MiddleOfCourt$Player", "home", "I", false)
def tyX6 : Nat → FieldType := fun k => match k with
  | 0 => .int
  | 1 => .int
  | 2 => .int
  | _ => .int
theorem nmX6 : ∀ a, a < 4 → ∀ b, b < 4 → a ≠ b → (TX6 a).2.1 ≠ (TX6 b).2.1 := by decide +kernel
theorem tyX6_ok : ∀ k, k < 4 → parseFieldDescriptor (TX6 k).2.2.1 = some (tyX6 k) := by decide +kernel
abbrev cX6_init : ByteArray := prog_8_method_1_code
def yX6_init : MethodName := ⟨RX6, "<init>", "()V"⟩
abbrev cX6_take : ByteArray := prog_8_method_2_code
def yX6_take : MethodName := ⟨RX6, "take", "(LMiddleOfCourt$Player;)V"⟩
abbrev cX6_tire : ByteArray := prog_8_method_3_code
def yX6_tire : MethodName := ⟨RX6, "tire", "(I)V"⟩
abbrev cX6_go : ByteArray := prog_8_method_4_code
def yX6_go : MethodName := ⟨RX6, "go", "(I)V"⟩
abbrev cX6_value : ByteArray := prog_8_method_5_code
def yX6_value : MethodName := ⟨RX6, "value", "(I)I"⟩
abbrev cX6_change : ByteArray := prog_8_method_6_code
def yX6_change : MethodName := ⟨RX6, "change", "(II)I"⟩
def RX7 : String := "MiddleOfCourt$Sheet"
def TX7 : u_T := fun k => match k with
  | 0 => ("MiddleOfCourt$Sheet", "items", "[I", true)
  | 1 => ("MiddleOfCourt$Sheet", "sort", "I", false)
  | _ => ("MiddleOfCourt$Sheet", "size", "I", false)
def tyX7 : Nat → FieldType := fun k => match k with
  | 0 => .array .int
  | 1 => .int
  | _ => .int
theorem nmX7 : ∀ a, a < 3 → ∀ b, b < 3 → a ≠ b → (TX7 a).2.1 ≠ (TX7 b).2.1 := by decide +kernel
theorem tyX7_ok : ∀ k, k < 3 → parseFieldDescriptor (TX7 k).2.2.1 = some (tyX7 k) := by decide +kernel
abbrev cX7_init : ByteArray := prog_9_method_1_code
def yX7_init : MethodName := ⟨RX7, "<init>", "()V"⟩
abbrev cX7_isMissing : ByteArray := prog_9_method_2_code
def yX7_isMissing : MethodName := ⟨RX7, "isMissing", "()Z"⟩
abbrev cX7_holds : ByteArray := prog_9_method_3_code
def yX7_holds : MethodName := ⟨RX7, "holds", "(II)Z"⟩
abbrev cX7_become : ByteArray := prog_9_method_4_code
def yX7_become : MethodName := ⟨RX7, "become", "(II)V"⟩
abbrev cX7_item : ByteArray := prog_9_method_5_code
def yX7_item : MethodName := ⟨RX7, "item", "(I)I"⟩
abbrev cX7_put : ByteArray := prog_9_method_6_code
def yX7_put : MethodName := ⟨RX7, "put", "(II)V"⟩
def RX8 : String := "MiddleOfCourt$Stroke"
def TX8 : u_T := fun k => match k with
  | 0 => ("MiddleOfCourt$Stroke", "number", "I", false)
  | _ => ("MiddleOfCourt$Stroke", "aim", "I", false)
def tyX8 : Nat → FieldType := fun k => match k with
  | 0 => .int
  | _ => .int
theorem nmX8 : ∀ a, a < 2 → ∀ b, b < 2 → a ≠ b → (TX8 a).2.1 ≠ (TX8 b).2.1 := by decide +kernel
theorem tyX8_ok : ∀ k, k < 2 → parseFieldDescriptor (TX8 k).2.2.1 = some (tyX8 k) := by decide +kernel
abbrev cX8_init : ByteArray := prog_10_method_1_code
def yX8_init : MethodName := ⟨RX8, "<init>", "(II)V"⟩
abbrev cX8_kind : ByteArray := prog_10_method_2_code
def yX8_kind : MethodName := ⟨RX8, "kind", "()I"⟩
abbrev cX8_comes : ByteArray := prog_10_method_3_code
def yX8_comes : MethodName := ⟨RX8, "comes", "(I)I"⟩
abbrev cX8_flight : ByteArray := prog_10_method_4_code
def yX8_flight : MethodName := ⟨RX8, "flight", "(II)I"⟩
abbrev cX8_spends : ByteArray := prog_10_method_5_code
def yX8_spends : MethodName := ⟨RX8, "spends", "()I"⟩
abbrev cX8_value : ByteArray := prog_10_method_6_code
def yX8_value : MethodName := ⟨RX8, "value", "(I)I"⟩
abbrev cX8_change : ByteArray := prog_10_method_7_code
def yX8_change : MethodName := ⟨RX8, "change", "(II)I"⟩
def RX9 : String := "MiddleOfCourt$Tape"
def TX9 : u_T := fun k => match k with
  | 0 => ("MiddleOfCourt$Tape", "letters", "[I", true)
  | 1 => ("MiddleOfCourt$Tape", "size", "I", false)
  | 2 => ("MiddleOfCourt$Tape", "into", "LMiddleOfCourt$Text;", false)
  | 3 => ("MiddleOfCourt$Tape", "place", "I", false)
  | 4 => ("MiddleOfCourt$Tape", "start", "I", false)
  | 5 => ("MiddleOfCourt$Tape", "token", "I", false)
  | 6 => ("MiddleOfCourt$Tape", "worth", "I", false)
  | _ => ("MiddleOfCourt$Tape", "fault", "I", false)
def tyX9 : Nat → FieldType := fun k => match k with
  | 0 => .array .int
  | 1 => .int
  | 2 => .object "MiddleOfCourt$Text"
  | 3 => .int
  | 4 => .int
  | 5 => .int
  | 6 => .int
  | _ => .int
theorem nmX9 : ∀ a, a < 8 → ∀ b, b < 8 → a ≠ b → (TX9 a).2.1 ≠ (TX9 b).2.1 := by decide +kernel
theorem tyX9_ok : ∀ k, k < 8 → parseFieldDescriptor (TX9 k).2.2.1 = some (tyX9 k) := by decide +kernel
abbrev cX9_init : ByteArray := prog_11_method_1_code
def yX9_init : MethodName := ⟨RX9, "<init>", "()V"⟩
abbrev cX9_add : ByteArray := prog_11_method_2_code
def yX9_add : MethodName := ⟨RX9, "add", "(I)Z"⟩
abbrev cX9_write : ByteArray := prog_11_method_3_code
def yX9_write : MethodName := ⟨RX9, "write", "(Ljava/lang/String;)V"⟩
abbrev cX9_readInto : ByteArray := prog_11_method_4_code
def yX9_readInto : MethodName := ⟨RX9, "readInto", "(LMiddleOfCourt$Text;)I"⟩
abbrev cX9_fail : ByteArray := prog_11_method_5_code
def yX9_fail : MethodName := ⟨RX9, "fail", "()V"⟩
abbrev cX9_expect : ByteArray := prog_11_method_6_code
def yX9_expect : MethodName := ⟨RX9, "expect", "(I)V"⟩
abbrev cX9_emit : ByteArray := prog_11_method_7_code
def yX9_emit : MethodName := ⟨RX9, "emit", "(I)V"⟩
abbrev cX9_readEither : ByteArray := prog_11_method_8_code
def yX9_readEither : MethodName := ⟨RX9, "readEither", "(I)V"⟩
abbrev cX9_readBoth : ByteArray := prog_11_method_9_code
def yX9_readBoth : MethodName := ⟨RX9, "readBoth", "(I)V"⟩
abbrev cX9_readNot : ByteArray := prog_11_method_10_code
def yX9_readNot : MethodName := ⟨RX9, "readNot", "(I)V"⟩
abbrev cX9_readSum : ByteArray := prog_11_method_11_code
def yX9_readSum : MethodName := ⟨RX9, "readSum", "(I)V"⟩
abbrev cX9_readTerm : ByteArray := prog_11_method_12_code
def yX9_readTerm : MethodName := ⟨RX9, "readTerm", "(I)V"⟩
abbrev cX9_readOne : ByteArray := prog_11_method_13_code
def yX9_readOne : MethodName := ⟨RX9, "readOne", "(I)V"⟩
abbrev cX9_opens : ByteArray := prog_11_method_14_code
def yX9_opens : MethodName := ⟨RX9, "opens", "(I)Z"⟩
abbrev cX9_letterAt : ByteArray := prog_11_method_15_code
def yX9_letterAt : MethodName := ⟨RX9, "letterAt", "(I)I"⟩
abbrev cX9_next : ByteArray := prog_11_method_16_code
def yX9_next : MethodName := ⟨RX9, "next", "()V"⟩
abbrev cX9_isLetter : ByteArray := prog_11_method_17_code
def yX9_isLetter : MethodName := ⟨RX9, "isLetter", "(I)Z"⟩
abbrev cX9_isDigit : ByteArray := prog_11_method_18_code
def yX9_isDigit : MethodName := ⟨RX9, "isDigit", "(I)Z"⟩
abbrev cX9_isSign : ByteArray := prog_11_method_19_code
def yX9_isSign : MethodName := ⟨RX9, "isSign", "(I)Z"⟩
abbrev cX9_nextNumber : ByteArray := prog_11_method_20_code
def yX9_nextNumber : MethodName := ⟨RX9, "nextNumber", "()V"⟩
abbrev cX9_nextWord : ByteArray := prog_11_method_21_code
def yX9_nextWord : MethodName := ⟨RX9, "nextWord", "()V"⟩
abbrev cX9_nameOfWord : ByteArray := prog_11_method_22_code
def yX9_nameOfWord : MethodName := ⟨RX9, "nameOfWord", "()I"⟩
abbrev cX9_keyOfWord : ByteArray := prog_11_method_23_code
def yX9_keyOfWord : MethodName := ⟨RX9, "keyOfWord", "()I"⟩
abbrev cX9_isWord : ByteArray := prog_11_method_24_code
def yX9_isWord : MethodName := ⟨RX9, "isWord", "(Ljava/lang/String;)Z"⟩
def RX10 : String := "MiddleOfCourt$Text"
def TX10 : u_T := fun k => match k with
  | 0 => ("MiddleOfCourt$Text", "place", "I", true)
  | 1 => ("MiddleOfCourt$Text", "code", "[I", true)
  | 2 => ("MiddleOfCourt$Text", "stack", "[I", true)
  | 3 => ("MiddleOfCourt$Text", "names", "[I", true)
  | 4 => ("MiddleOfCourt$Text", "ends", "[I", true)
  | _ => ("MiddleOfCourt$Text", "size", "I", false)
def tyX10 : Nat → FieldType := fun k => match k with
  | 0 => .int
  | 1 => .array .int
  | 2 => .array .int
  | 3 => .array .int
  | 4 => .array .int
  | _ => .int
theorem nmX10 : ∀ a, a < 6 → ∀ b, b < 6 → a ≠ b → (TX10 a).2.1 ≠ (TX10 b).2.1 := by decide +kernel
theorem tyX10_ok : ∀ k, k < 6 → parseFieldDescriptor (TX10 k).2.2.1 = some (tyX10 k) := by decide +kernel
abbrev cX10_init : ByteArray := prog_12_method_1_code
def yX10_init : MethodName := ⟨RX10, "<init>", "(I)V"⟩
abbrev cX10_clear : ByteArray := prog_12_method_2_code
def yX10_clear : MethodName := ⟨RX10, "clear", "()V"⟩
abbrev cX10_add : ByteArray := prog_12_method_3_code
def yX10_add : MethodName := ⟨RX10, "add", "(I)V"⟩
abbrev cX10_endPart : ByteArray := prog_12_method_4_code
def yX10_endPart : MethodName := ⟨RX10, "endPart", "(I)V"⟩
abbrev cX10_reckon : ByteArray := prog_12_method_5_code
def yX10_reckon : MethodName := ⟨RX10, "reckon", "(ILMiddleOfCourt$Player;IIII)I"⟩
abbrev cX10_work : ByteArray := prog_12_method_6_code
def yX10_work : MethodName := ⟨RX10, "work", "(II)I"⟩
abbrev cX10_join : ByteArray := prog_12_method_7_code
def yX10_join : MethodName := ⟨RX10, "join", "(III)I"⟩
def RX11 : String := "MiddleOfCourt"
def TX11 : u_T := fun k => match k with
  | 0 => ("MiddleOfCourt", "texts", "[LMiddleOfCourt$Text;", true)
  | 1 => ("MiddleOfCourt", "tape", "LMiddleOfCourt$Tape;", true)
  | 2 => ("MiddleOfCourt", "textCount", "I", false)
  | 3 => ("MiddleOfCourt", "strokeRow", "[LMiddleOfCourt$Stroke;", true)
  | 4 => ("MiddleOfCourt", "strokeCount", "I", false)
  | 5 => ("MiddleOfCourt", "court", "LMiddleOfCourt$Court;", true)
  | 6 => ("MiddleOfCourt", "thought", "LMiddleOfCourt$Court;", true)
  | 7 => ("MiddleOfCourt", "ahead", "[LMiddleOfCourt$Court;", true)
  | 8 => ("MiddleOfCourt", "imageCourt", "LMiddleOfCourt$Court;", true)
  | 9 => ("MiddleOfCourt", "imageNumbers", "[I", true)
  | 10 => ("MiddleOfCourt", "imageAims", "[I", true)
  | 11 => ("MiddleOfCourt", "imageStrokes", "I", false)
  | 12 => ("MiddleOfCourt", "sheets", "[LMiddleOfCourt$Sheet;", true)
  | 13 => ("MiddleOfCourt", "landed", "[I", true)
  | 14 => ("MiddleOfCourt", "struck", "I", false)
  | 15 => ("MiddleOfCourt", "odds", "J", false)
  | 16 => ("MiddleOfCourt", "blockedAt", "I", false)
  | 17 => ("MiddleOfCourt", "chosen", "I", false)
  | _ => ("MiddleOfCourt", "firstRow", "I", false)
def tyX11 : Nat → FieldType := fun k => match k with
  | 0 => .array (.object "MiddleOfCourt$Text")
  | 1 => .object "MiddleOfCourt$Tape"
  | 2 => .int
  | 3 => .array (.object "MiddleOfCourt$Stroke")
  | 4 => .int
  | 5 => .object "MiddleOfCourt$Court"
  | 6 => .object "MiddleOfCourt$Court"
  | 7 => .array (.object "MiddleOfCourt$Court")
  | 8 => .object "MiddleOfCourt$Court"
  | 9 => .array .int
  | 10 => .array .int
  | 11 => .int
  | 12 => .array (.object "MiddleOfCourt$Sheet")
  | 13 => .array .int
  | 14 => .int
  | 15 => .long
  | 16 => .int
  | 17 => .int
  | _ => .int
theorem nmX11 : ∀ a, a < 19 → ∀ b, b < 19 → a ≠ b → (TX11 a).2.1 ≠ (TX11 b).2.1 := by decide +kernel
theorem tyX11_ok : ∀ k, k < 19 → parseFieldDescriptor (TX11 k).2.2.1 = some (tyX11 k) := by decide +kernel
abbrev cX11_init : ByteArray := prog_1_method_1_code
def yX11_init : MethodName := ⟨RX11, "<init>", "()V"⟩
abbrev cX11_set : ByteArray := prog_1_method_2_code
def yX11_set : MethodName := ⟨RX11, "set", "(III)I"⟩
abbrev cX11_stroke : ByteArray := prog_1_method_3_code
def yX11_stroke : MethodName := ⟨RX11, "stroke", "(III)I"⟩
abbrev cX11_told : ByteArray := prog_1_method_4_code
def yX11_told : MethodName := ⟨RX11, "told", "(II)I"⟩
abbrev cX11_shot : ByteArray := prog_1_method_5_code
def yX11_shot : MethodName := ⟨RX11, "shot", "(III)I"⟩
abbrev cX11_needs : ByteArray := prog_1_method_6_code
def yX11_needs : MethodName := ⟨RX11, "needs", "(II)I"⟩
abbrev cX11_feed : ByteArray := prog_1_method_7_code
def yX11_feed : MethodName := ⟨RX11, "feed", "(I)I"⟩
abbrev cX11_text : ByteArray := prog_1_method_8_code
def yX11_text : MethodName := ⟨RX11, "text", "()I"⟩
abbrev cX11_force : ByteArray := prog_1_method_9_code
def yX11_force : MethodName := ⟨RX11, "force", "(I)I"⟩
abbrev cX11_rally : ByteArray := prog_1_method_10_code
def yX11_rally : MethodName := ⟨RX11, "rally", "(II)I"⟩
abbrev cX11_play : ByteArray := prog_1_method_11_code
def yX11_play : MethodName := ⟨RX11, "play", "(I)I"⟩
abbrev cX11_likely : ByteArray := prog_1_method_12_code
def yX11_likely : MethodName := ⟨RX11, "likely", "(I)J"⟩
abbrev cX11_best : ByteArray := prog_1_method_13_code
def yX11_best : MethodName := ⟨RX11, "best", "(III)I"⟩
abbrev cX11_sure : ByteArray := prog_1_method_14_code
def yX11_sure : MethodName := ⟨RX11, "sure", "(I)I"⟩
abbrev cX11_stand : ByteArray := prog_1_method_15_code
def yX11_stand : MethodName := ⟨RX11, "stand", "(II)I"⟩
abbrev cX11_tires : ByteArray := prog_1_method_16_code
def yX11_tires : MethodName := ⟨RX11, "tires", "(I)I"⟩
abbrev cX11_inTheWay : ByteArray := prog_1_method_17_code
def yX11_inTheWay : MethodName := ⟨RX11, "inTheWay", "(I)I"⟩
abbrev cX11_balls : ByteArray := prog_1_method_18_code
def yX11_balls : MethodName := ⟨RX11, "balls", "(II)I"⟩
abbrev cX11_quicks : ByteArray := prog_1_method_19_code
def yX11_quicks : MethodName := ⟨RX11, "quicks", "(III)I"⟩
abbrev cX11_film : ByteArray := prog_1_method_20_code
def yX11_film : MethodName := ⟨RX11, "film", "(II)I"⟩
abbrev cX11_drawn : ByteArray := prog_1_method_21_code
def yX11_drawn : MethodName := ⟨RX11, "drawn", "(I)I"⟩
abbrev cX11_chance : ByteArray := prog_1_method_22_code
def yX11_chance : MethodName := ⟨RX11, "chance", "(III)J"⟩
abbrev cX11_image : ByteArray := prog_1_method_23_code
def yX11_image : MethodName := ⟨RX11, "image", "()I"⟩
abbrev cX11_back : ByteArray := prog_1_method_24_code
def yX11_back : MethodName := ⟨RX11, "back", "()I"⟩
abbrev cX11_count : ByteArray := prog_1_method_25_code
def yX11_count : MethodName := ⟨RX11, "count", "(I)I"⟩
abbrev cX11_sheet : ByteArray := prog_1_method_26_code
def yX11_sheet : MethodName := ⟨RX11, "sheet", "(III)I"⟩
abbrev cX11_cell : ByteArray := prog_1_method_27_code
def yX11_cell : MethodName := ⟨RX11, "cell", "(III)I"⟩
abbrev cX11_copy : ByteArray := prog_1_method_28_code
def yX11_copy : MethodName := ⟨RX11, "copy", "(IIIII)I"⟩
abbrev cX11_strokes : ByteArray := prog_1_method_29_code
def yX11_strokes : MethodName := ⟨RX11, "strokes", "(IIII)I"⟩
abbrev cX11_taken : ByteArray := prog_1_method_30_code
def yX11_taken : MethodName := ⟨RX11, "taken", "(II)I"⟩
abbrev cX11_isPlayer : ByteArray := prog_1_method_31_code
def yX11_isPlayer : MethodName := ⟨RX11, "isPlayer", "(I)Z"⟩
abbrev cX11_isCell : ByteArray := prog_1_method_32_code
def yX11_isCell : MethodName := ⟨RX11, "isCell", "(I)Z"⟩
abbrev cX11_strokeAt : ByteArray := prog_1_method_33_code
def yX11_strokeAt : MethodName := ⟨RX11, "strokeAt", "(I)LMiddleOfCourt$Stroke;"⟩
abbrev cX11_sheetAt : ByteArray := prog_1_method_34_code
def yX11_sheetAt : MethodName := ⟨RX11, "sheetAt", "(I)LMiddleOfCourt$Sheet;"⟩
abbrev cX11_fits : ByteArray := prog_1_method_35_code
def yX11_fits : MethodName := ⟨RX11, "fits", "(II)Z"⟩
abbrev cX11_newStroke : ByteArray := prog_1_method_36_code
def yX11_newStroke : MethodName := ⟨RX11, "newStroke", "(III)LMiddleOfCourt$Stroke;"⟩
abbrev cX11_isUnder : ByteArray := prog_1_method_37_code
def yX11_isUnder : MethodName := ⟨RX11, "isUnder", "(LMiddleOfCourt$Stroke;I)Z"⟩
abbrev cX11_apart : ByteArray := prog_1_method_38_code
def yX11_apart : MethodName := ⟨RX11, "apart", "(II)I"⟩
abbrev cX11_across : ByteArray := prog_1_method_39_code
def yX11_across : MethodName := ⟨RX11, "across", "(I)I"⟩
abbrev cX11_within : ByteArray := prog_1_method_40_code
def yX11_within : MethodName := ⟨RX11, "within", "(II)I"⟩
abbrev cX11_goesOver : ByteArray := prog_1_method_41_code
def yX11_goesOver : MethodName := ⟨RX11, "goesOver", "(III)Z"⟩
abbrev cX11_refusalOfRally : ByteArray := prog_1_method_42_code
def yX11_refusalOfRally : MethodName := ⟨RX11, "refusalOfRally", "(I)I"⟩
abbrev cX11_playInThought : ByteArray := prog_1_method_43_code
def yX11_playInThought : MethodName := ⟨RX11, "playInThought", "(I)I"⟩
abbrev cX11_playOut : ByteArray := prog_1_method_44_code
def yX11_playOut : MethodName := ⟨RX11, "playOut", "(LMiddleOfCourt$Court;LMiddleOfCourt$Sheet;)I"⟩
abbrev cX11_valueFor : ByteArray := prog_1_method_45_code
def yX11_valueFor : MethodName := ⟨RX11, "valueFor", "(LMiddleOfCourt$Court;III)I"⟩
abbrev cX11_valueBy : ByteArray := prog_1_method_46_code
def yX11_valueBy : MethodName := ⟨RX11, "valueBy", "(LMiddleOfCourt$Court;ILMiddleOfCourt$Stroke;II)I"⟩
abbrev cX11_badness : ByteArray := prog_1_method_47_code
def yX11_badness : MethodName := ⟨RX11, "badness", "(II)I"⟩
abbrev cX11_rowsBy : ByteArray := prog_1_method_48_code
def yX11_rowsBy : MethodName := ⟨RX11, "rowsBy", "(LMiddleOfCourt$Court;LMiddleOfCourt$Sheet;II)I"⟩
abbrev cX11_quicksBy : ByteArray := prog_1_method_49_code
def yX11_quicksBy : MethodName := ⟨RX11, "quicksBy", "(LMiddleOfCourt$Sheet;II)I"⟩
abbrev cX11_rulesBy : ByteArray := prog_1_method_50_code
def yX11_rulesBy : MethodName := ⟨RX11, "rulesBy", "(LMiddleOfCourt$Sheet;I)I"⟩
def RX12 : String := "MiddleOfCourtModel"
def TX12 : u_T := fun k => match k with
  | 0 => ("MiddleOfCourtModel", "thrown", "I", false)
  | 1 => ("MiddleOfCourtModel", "texts", "[I", true)
  | 2 => ("MiddleOfCourtModel", "textSize", "[I", true)
  | 3 => ("MiddleOfCourtModel", "textCount", "I", false)
  | 4 => ("MiddleOfCourtModel", "rule", "I", false)
  | 5 => ("MiddleOfCourtModel", "tape", "[I", true)
  | 6 => ("MiddleOfCourtModel", "taped", "I", false)
  | 7 => ("MiddleOfCourtModel", "cells", "[I", true)
  | 8 => ("MiddleOfCourtModel", "legs", "[I", true)
  | 9 => ("MiddleOfCourtModel", "quick", "[I", true)
  | 10 => ("MiddleOfCourtModel", "homes", "[I", true)
  | 11 => ("MiddleOfCourtModel", "warmth", "I", false)
  | 12 => ("MiddleOfCourtModel", "kinds", "[I", true)
  | 13 => ("MiddleOfCourtModel", "numbers", "[I", true)
  | 14 => ("MiddleOfCourtModel", "aims", "[I", true)
  | 15 => ("MiddleOfCourtModel", "strokeMany", "I", false)
  | 16 => ("MiddleOfCourtModel", "ofFar", "I", false)
  | 17 => ("MiddleOfCourtModel", "ofWarm", "I", false)
  | 18 => ("MiddleOfCourtModel", "ofLegs", "I", false)
  | 19 => ("MiddleOfCourtModel", "ofQuick", "I", false)
  | 20 => ("MiddleOfCourtModel", "ofNumber", "I", false)
  | 21 => ("MiddleOfCourtModel", "ofCell", "I", false)
  | 22 => ("MiddleOfCourtModel", "from", "I", false)
  | 23 => ("MiddleOfCourtModel", "size", "I", false)
  | 24 => ("MiddleOfCourtModel", "here", "I", false)
  | 25 => ("MiddleOfCourtModel", "token", "I", false)
  | 26 => ("MiddleOfCourtModel", "tokenAt", "I", false)
  | 27 => ("MiddleOfCourtModel", "tokenWorth", "J", false)
  | 28 => ("MiddleOfCourtModel", "open", "I", false)
  | 29 => ("MiddleOfCourtModel", "bad", "Z", false)
  | 30 => ("MiddleOfCourtModel", "fault", "I", false)
  | 31 => ("MiddleOfCourtModel", "cameTo", "I", false)
  | 32 => ("MiddleOfCourtModel", "aside", "[I", true)
  | 33 => ("MiddleOfCourtModel", "asideMany", "I", false)
  | 34 => ("MiddleOfCourtModel", "wins", "I", false)
  | 35 => ("MiddleOfCourtModel", "struck", "I", false)
  | 36 => ("MiddleOfCourtModel", "likelyNow", "J", false)
  | 37 => ("MiddleOfCourtModel", "wayAt", "I", false)
  | 38 => ("MiddleOfCourtModel", "ballRow", "[I", true)
  | 39 => ("MiddleOfCourtModel", "bestStroke", "I", false)
  | 40 => ("MiddleOfCourtModel", "rowsMany", "I", false)
  | 41 => ("MiddleOfCourtModel", "rowsFirst", "I", false)
  | 42 => ("MiddleOfCourtModel", "playersKept", "[I", true)
  | 43 => ("MiddleOfCourtModel", "strokesKept", "[I", true)
  | 44 => ("MiddleOfCourtModel", "manyKept", "I", false)
  | 45 => ("MiddleOfCourtModel", "warmKept", "I", false)
  | 46 => ("MiddleOfCourtModel", "ruleKept", "I", false)
  | 47 => ("MiddleOfCourtModel", "isThere", "[Z", true)
  | 48 => ("MiddleOfCourtModel", "sorts", "[I", true)
  | 49 => ("MiddleOfCourtModel", "sheetSize", "[I", true)
  | _ => ("MiddleOfCourtModel", "items", "[I", true)
def tyX12 : Nat → FieldType := fun k => match k with
  | 0 => .int
  | 1 => .array .int
  | 2 => .array .int
  | 3 => .int
  | 4 => .int
  | 5 => .array .int
  | 6 => .int
  | 7 => .array .int
  | 8 => .array .int
  | 9 => .array .int
  | 10 => .array .int
  | 11 => .int
  | 12 => .array .int
  | 13 => .array .int
  | 14 => .array .int
  | 15 => .int
  | 16 => .int
  | 17 => .int
  | 18 => .int
  | 19 => .int
  | 20 => .int
  | 21 => .int
  | 22 => .int
  | 23 => .int
  | 24 => .int
  | 25 => .int
  | 26 => .int
  | 27 => .long
  | 28 => .int
  | 29 => .boolean
  | 30 => .int
  | 31 => .int
  | 32 => .array .int
  | 33 => .int
  | 34 => .int
  | 35 => .int
  | 36 => .long
  | 37 => .int
  | 38 => .array .int
  | 39 => .int
  | 40 => .int
  | 41 => .int
  | 42 => .array .int
  | 43 => .array .int
  | 44 => .int
  | 45 => .int
  | 46 => .int
  | 47 => .array .boolean
  | 48 => .array .int
  | 49 => .array .int
  | _ => .array .int
theorem nmX12 : ∀ a, a < 51 → ∀ b, b < 51 → a ≠ b → (TX12 a).2.1 ≠ (TX12 b).2.1 := by decide +kernel
theorem tyX12_ok : ∀ k, k < 51 → parseFieldDescriptor (TX12 k).2.2.1 = some (tyX12 k) := by decide +kernel
abbrev cX12_in : ByteArray := prog_14_method_2_code
def yX12_in : MethodName := ⟨RX12, "in", "(JJJ)Z"⟩
abbrev cX12_within : ByteArray := prog_14_method_3_code
def yX12_within : MethodName := ⟨RX12, "within", "(III)I"⟩
abbrev cX12_init : ByteArray := prog_14_method_4_code
def yX12_init : MethodName := ⟨RX12, "<init>", "()V"⟩
abbrev cX12_spell : ByteArray := prog_14_method_5_code
def yX12_spell : MethodName := ⟨RX12, "spell", "(IIIIIIIII)V"⟩
abbrev cX12_isStroke : ByteArray := prog_14_method_6_code
def yX12_isStroke : MethodName := ⟨RX12, "isStroke", "(I)Z"⟩
abbrev cX12_isPlayer : ByteArray := prog_14_method_7_code
def yX12_isPlayer : MethodName := ⟨RX12, "isPlayer", "(I)Z"⟩
abbrev cX12_isCell : ByteArray := prog_14_method_8_code
def yX12_isCell : MethodName := ⟨RX12, "isCell", "(I)Z"⟩
abbrev cX12_set : ByteArray := prog_14_method_9_code
def yX12_set : MethodName := ⟨RX12, "set", "(III)I"⟩
abbrev cX12_stroke : ByteArray := prog_14_method_10_code
def yX12_stroke : MethodName := ⟨RX12, "stroke", "(III)I"⟩
abbrev cX12_told : ByteArray := prog_14_method_11_code
def yX12_told : MethodName := ⟨RX12, "told", "(II)I"⟩
abbrev cX12_feed : ByteArray := prog_14_method_12_code
def yX12_feed : MethodName := ⟨RX12, "feed", "(I)I"⟩
abbrev cX12_byteAt : ByteArray := prog_14_method_13_code
def yX12_byteAt : MethodName := ⟨RX12, "byteAt", "(I)I"⟩
abbrev cX12_next : ByteArray := prog_14_method_14_code
def yX12_next : MethodName := ⟨RX12, "next", "()V"⟩
abbrev cX12_fail : ByteArray := prog_14_method_15_code
def yX12_fail : MethodName := ⟨RX12, "fail", "()V"⟩
abbrev cX12_isLetter : ByteArray := prog_14_method_16_code
def yX12_isLetter : MethodName := ⟨RX12, "isLetter", "(II)Z"⟩
abbrev cX12_isWord : ByteArray := prog_14_method_17_code
def yX12_isWord : MethodName := ⟨RX12, "isWord", "(IIIIIIII)Z"⟩
abbrev cX12_isSign : ByteArray := prog_14_method_18_code
def yX12_isSign : MethodName := ⟨RX12, "isSign", "(I)Z"⟩
abbrev cX12_opens : ByteArray := prog_14_method_19_code
def yX12_opens : MethodName := ⟨RX12, "opens", "()Z"⟩
abbrev cX12_name : ByteArray := prog_14_method_20_code
def yX12_name : MethodName := ⟨RX12, "name", "()I"⟩
abbrev cX12_atom : ByteArray := prog_14_method_21_code
def yX12_atom : MethodName := ⟨RX12, "atom", "()I"⟩
abbrev cX12_term : ByteArray := prog_14_method_22_code
def yX12_term : MethodName := ⟨RX12, "term", "()I"⟩
abbrev cX12_added : ByteArray := prog_14_method_23_code
def yX12_added : MethodName := ⟨RX12, "added", "()I"⟩
abbrev cX12_not : ByteArray := prog_14_method_24_code
def yX12_not : MethodName := ⟨RX12, "not", "()I"⟩
abbrev cX12_both : ByteArray := prog_14_method_25_code
def yX12_both : MethodName := ⟨RX12, "both", "()I"⟩
abbrev cX12_either : ByteArray := prog_14_method_26_code
def yX12_either : MethodName := ⟨RX12, "either", "()I"⟩
abbrev cX12_part : ByteArray := prog_14_method_27_code
def yX12_part : MethodName := ⟨RX12, "part", "(Z)I"⟩
abbrev cX12_read : ByteArray := prog_14_method_28_code
def yX12_read : MethodName := ⟨RX12, "read", "(II)I"⟩
abbrev cX12_text : ByteArray := prog_14_method_29_code
def yX12_text : MethodName := ⟨RX12, "text", "()I"⟩
abbrev cX12_force : ByteArray := prog_14_method_30_code
def yX12_force : MethodName := ⟨RX12, "force", "(I)I"⟩
abbrev cX12_says : ByteArray := prog_14_method_31_code
def yX12_says : MethodName := ⟨RX12, "says", "(IIIII)I"⟩
abbrev cX12_plain : ByteArray := prog_14_method_32_code
def yX12_plain : MethodName := ⟨RX12, "plain", "(I)I"⟩
abbrev cX12_farOf : ByteArray := prog_14_method_33_code
def yX12_farOf : MethodName := ⟨RX12, "farOf", "(II)I"⟩
abbrev cX12_across : ByteArray := prog_14_method_34_code
def yX12_across : MethodName := ⟨RX12, "across", "(I)I"⟩
abbrev cX12_comesTo : ByteArray := prog_14_method_35_code
def yX12_comesTo : MethodName := ⟨RX12, "comesTo", "(II)I"⟩
abbrev cX12_tenthsOf : ByteArray := prog_14_method_36_code
def yX12_tenthsOf : MethodName := ⟨RX12, "tenthsOf", "(II)I"⟩
abbrev cX12_slipsOf : ByteArray := prog_14_method_37_code
def yX12_slipsOf : MethodName := ⟨RX12, "slipsOf", "(II)I"⟩
abbrev cX12_spendsOf : ByteArray := prog_14_method_38_code
def yX12_spendsOf : MethodName := ⟨RX12, "spendsOf", "(I)I"⟩
abbrev cX12_needsOf : ByteArray := prog_14_method_39_code
def yX12_needsOf : MethodName := ⟨RX12, "needsOf", "(III)I"⟩
abbrev cX12_needs : ByteArray := prog_14_method_40_code
def yX12_needs : MethodName := ⟨RX12, "needs", "(II)I"⟩
abbrev cX12_shot : ByteArray := prog_14_method_41_code
def yX12_shot : MethodName := ⟨RX12, "shot", "(III)I"⟩
abbrev cX12_tire : ByteArray := prog_14_method_42_code
def yX12_tire : MethodName := ⟨RX12, "tire", "(II)V"⟩
abbrev cX12_strikes : ByteArray := prog_14_method_43_code
def yX12_strikes : MethodName := ⟨RX12, "strikes", "(II)Z"⟩
abbrev cX12_layAside : ByteArray := prog_14_method_44_code
def yX12_layAside : MethodName := ⟨RX12, "layAside", "()V"⟩
abbrev cX12_takeBack : ByteArray := prog_14_method_45_code
def yX12_takeBack : MethodName := ⟨RX12, "takeBack", "()V"⟩
abbrev cX12_goesOver : ByteArray := prog_14_method_46_code
def yX12_goesOver : MethodName := ⟨RX12, "goesOver", "(III)Z"⟩
abbrev cX12_rallies : ByteArray := prog_14_method_47_code
def yX12_rallies : MethodName := ⟨RX12, "rallies", "(I)V"⟩
abbrev cX12_rallyBad : ByteArray := prog_14_method_48_code
def yX12_rallyBad : MethodName := ⟨RX12, "rallyBad", "(I)I"⟩
abbrev cX12_rally : ByteArray := prog_14_method_49_code
def yX12_rally : MethodName := ⟨RX12, "rally", "(II)I"⟩
abbrev cX12_play : ByteArray := prog_14_method_50_code
def yX12_play : MethodName := ⟨RX12, "play", "(I)I"⟩
abbrev cX12_likely : ByteArray := prog_14_method_51_code
def yX12_likely : MethodName := ⟨RX12, "likely", "(I)J"⟩
abbrev cX12_valueOf : ByteArray := prog_14_method_52_code
def yX12_valueOf : MethodName := ⟨RX12, "valueOf", "(II)I"⟩
abbrev cX12_best : ByteArray := prog_14_method_53_code
def yX12_best : MethodName := ⟨RX12, "best", "(III)I"⟩
abbrev cX12_sure : ByteArray := prog_14_method_54_code
def yX12_sure : MethodName := ⟨RX12, "sure", "(I)I"⟩
abbrev cX12_badness : ByteArray := prog_14_method_55_code
def yX12_badness : MethodName := ⟨RX12, "badness", "(II)I"⟩
abbrev cX12_stand : ByteArray := prog_14_method_56_code
def yX12_stand : MethodName := ⟨RX12, "stand", "(II)I"⟩
abbrev cX12_tires : ByteArray := prog_14_method_57_code
def yX12_tires : MethodName := ⟨RX12, "tires", "(I)I"⟩
abbrev cX12_inTheWay : ByteArray := prog_14_method_58_code
def yX12_inTheWay : MethodName := ⟨RX12, "inTheWay", "(I)I"⟩
abbrev cX12_goesOn : ByteArray := prog_14_method_59_code
def yX12_goesOn : MethodName := ⟨RX12, "goesOn", "(III)V"⟩
abbrev cX12_balls : ByteArray := prog_14_method_60_code
def yX12_balls : MethodName := ⟨RX12, "balls", "(II)I"⟩
abbrev cX12_winsSo : ByteArray := prog_14_method_61_code
def yX12_winsSo : MethodName := ⟨RX12, "winsSo", "(II)Z"⟩
abbrev cX12_quicks : ByteArray := prog_14_method_62_code
def yX12_quicks : MethodName := ⟨RX12, "quicks", "(III)I"⟩
abbrev cX12_tries : ByteArray := prog_14_method_63_code
def yX12_tries : MethodName := ⟨RX12, "tries", "(II)V"⟩
abbrev cX12_film : ByteArray := prog_14_method_64_code
def yX12_film : MethodName := ⟨RX12, "film", "(II)I"⟩
abbrev cX12_draws : ByteArray := prog_14_method_65_code
def yX12_draws : MethodName := ⟨RX12, "draws", "(I)I"⟩
abbrev cX12_drawn : ByteArray := prog_14_method_66_code
def yX12_drawn : MethodName := ⟨RX12, "drawn", "(I)I"⟩
abbrev cX12_chance : ByteArray := prog_14_method_67_code
def yX12_chance : MethodName := ⟨RX12, "chance", "(III)J"⟩
abbrev cX12_image : ByteArray := prog_14_method_68_code
def yX12_image : MethodName := ⟨RX12, "image", "()I"⟩
abbrev cX12_back : ByteArray := prog_14_method_69_code
def yX12_back : MethodName := ⟨RX12, "back", "()I"⟩
abbrev cX12_count : ByteArray := prog_14_method_70_code
def yX12_count : MethodName := ⟨RX12, "count", "(I)I"⟩
abbrev cX12_isSheet : ByteArray := prog_14_method_71_code
def yX12_isSheet : MethodName := ⟨RX12, "isSheet", "(I)Z"⟩
abbrev cX12_sheet : ByteArray := prog_14_method_72_code
def yX12_sheet : MethodName := ⟨RX12, "sheet", "(III)I"⟩
abbrev cX12_cell : ByteArray := prog_14_method_73_code
def yX12_cell : MethodName := ⟨RX12, "cell", "(III)I"⟩
abbrev cX12_copy : ByteArray := prog_14_method_74_code
def yX12_copy : MethodName := ⟨RX12, "copy", "(IIIII)I"⟩
abbrev cX12_strokes : ByteArray := prog_14_method_75_code
def yX12_strokes : MethodName := ⟨RX12, "strokes", "(IIII)I"⟩
abbrev cX12_over : ByteArray := prog_14_method_76_code
def yX12_over : MethodName := ⟨RX12, "over", "(I)I"⟩
abbrev cX12_taken : ByteArray := prog_14_method_77_code
def yX12_taken : MethodName := ⟨RX12, "taken", "(II)I"⟩
def RJ6 : String := "java/lang/Integer"
abbrev cJ6_compare_7cf53 : ByteArray := prog_15_method_40_code
def yJ6_compare_7cf53 : MethodName := ⟨RJ6, "compare", "(II)I"⟩
def RJ9 : String := "java/lang/Math"
abbrev cJ9_abs_0f7a4 : ByteArray := prog_16_method_59_code
def yJ9_abs_0f7a4 : MethodName := ⟨RJ9, "abs", "(I)I"⟩
abbrev cJ9_max_7cf53 : ByteArray := prog_16_method_65_code
def yJ9_max_7cf53 : MethodName := ⟨RJ9, "max", "(II)I"⟩
abbrev cJ9_min_7cf53 : ByteArray := prog_16_method_69_code
def yJ9_min_7cf53 : MethodName := ⟨RJ9, "min", "(II)I"⟩
def RJ0 : String := "java/lang/String"
abbrev cJ0_length_8abf5 : ByteArray := prog_17_method_54_code
def yJ0_length_8abf5 : MethodName := ⟨RJ0, "length", "()I"⟩
abbrev cJ0_charAt_5068e : ByteArray := prog_17_method_56_code
def yJ0_charAt_5068e : MethodName := ⟨RJ0, "charAt", "(I)C"⟩
abbrev cJ0_coder_7d493 : ByteArray := prog_17_method_152_code
def yJ0_coder_7d493 : MethodName := ⟨RJ0, "coder", "()B"⟩
abbrev cJ0_isLatin1_aae02 : ByteArray := prog_17_method_154_code
def yJ0_isLatin1_aae02 : MethodName := ⟨RJ0, "isLatin1", "()Z"⟩
abbrev cJ0_checkIndex_df160 : ByteArray := prog_17_method_155_code
def yJ0_checkIndex_df160 : MethodName := ⟨RJ0, "checkIndex", "(II)V"⟩
def RJ1 : String := "java/lang/StringLatin1"
abbrev cJ1_charAt_3b067 : ByteArray := prog_18_method_2_code
def yJ1_charAt_3b067 : MethodName := ⟨RJ1, "charAt", "([BI)C"⟩
def RJ2 : String := "java/lang/StringUTF16"
abbrev cJ2_getChar_3b067 : ByteArray := prog_19_method_5_code
def yJ2_getChar_3b067 : MethodName := ⟨RJ2, "getChar", "([BI)C"⟩
abbrev cJ2_length_9d52b : ByteArray := prog_19_method_6_code
def yJ2_length_9d52b : MethodName := ⟨RJ2, "length", "([B)I"⟩
abbrev cJ2_charAt_3b067 : ByteArray := prog_19_method_83_code
def yJ2_charAt_3b067 : MethodName := ⟨RJ2, "charAt", "([BI)C"⟩
abbrev cJ2_checkIndex_2214a : ByteArray := prog_19_method_91_code
def yJ2_checkIndex_2214a : MethodName := ⟨RJ2, "checkIndex", "(I[B)V"⟩
def RJ10 : String := "java/lang/System"
def RJ3 : String := "jdk/internal/util/Preconditions"
abbrev cJ3_checkIndex_8e157 : ByteArray := prog_21_method_11_code
def yJ3_checkIndex_8e157 : MethodName := ⟨RJ3, "checkIndex", "(IILjava/util/function/BiFunction;)I"⟩
def RL : String := "MiddleOfCourtLaw"
abbrev cL_law : ByteArray := code
def yL_law : MethodName := ⟨RL, "law", "([I)Z"⟩
abbrev vwCl : List vw_C := [(RX0, TX0, 2), (RX1, TX1, 4), (RX2, TX2, 2), (RX3, TX3, 2), (RX4, TX4, 2), (RX5, TX5, 2), (RX6, TX6, 4), (RX7, TX7, 3), (RX8, TX8, 2), (RX9, TX9, 8), (RX10, TX10, 6), (RX11, TX11, 19), (RX12, TX12, 51)]
def TBL : List Cond := lw_tbl.filter goodWord
theorem TBL_of {w : Cond} (i : Nat) (h : lw_tbl[i]? = some w) (g : goodWord w = true) : w ∈ TBL := List.mem_filter.mpr ⟨List.mem_of_getElem? h, g⟩
